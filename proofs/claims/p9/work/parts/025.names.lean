set_option maxRecDepth 20000 in
theorem gX11_noTake_X11_in : GoodIn wsX11_noTake (va_wsS RX11 111 yX11_in wsX11_in) := goodIn_app (goodIn_r _ [2, 3, 4] (by decide +kernel) (by decide +kernel)) ggX11_noTake_X11_in
theorem dX11_noTake_0 : decode cX11_noTake 0 = .ok (.iload_n 1, 1) := by decide +kernel
theorem dX11_noTake_1 : decode cX11_noTake 1 = .ok (.i2l, 1) := by decide +kernel
theorem dX11_noTake_2 : decode cX11_noTake 2 = .ok (.lconst 0, 1) := by decide +kernel
theorem dX11_noTake_3 : decode cX11_noTake 3 = .ok (.aload_n 0, 1) := by decide +kernel
theorem dX11_noTake_4 : decode cX11_noTake 4 = .ok (.getfield 188, 3) := by decide +kernel
theorem dX11_noTake_7 : decode cX11_noTake 7 = .ok (.i2l, 1) := by decide +kernel
theorem dX11_noTake_8 : decode cX11_noTake 8 = .ok (.lconst 1, 1) := by decide +kernel
theorem dX11_noTake_9 : decode cX11_noTake 9 = .ok (.lsub, 1) := by decide +kernel
theorem dX11_noTake_10 : decode cX11_noTake 10 = .ok (.invokestatic 111, 3) := by decide +kernel
theorem dX11_noTake_13 : decode cX11_noTake 13 = .ok (.ifCond .ne 7, 3) := by decide +kernel
theorem dX11_noTake_16 : decode cX11_noTake 16 = .ok (.iconst 1, 1) := by decide +kernel
theorem dX11_noTake_17 : decode cX11_noTake 17 = .ok (.goto 4, 3) := by decide +kernel
theorem dX11_noTake_20 : decode cX11_noTake 20 = .ok (.iconst 0, 1) := by decide +kernel
theorem dX11_noTake_21 : decode cX11_noTake 21 = .ok (.ireturn, 1) := by decide +kernel
set_option maxRecDepth 20000 in
theorem ggX11_parcel_X11_noTake : GoodIn wsX11_parcel wsX11_noTake := goodIn_r _ [11, 12, 13, 14, 10, 15, 16, 17, 18, 19, 20, 21, 22, 23, 24, 25, 26, 27, 28, 29, 30, 31, 32, 33, 34, 35, 36, 37, 38, 39, 40, 41, 42, 43, 44, 45, 46, 47, 48, 49, 50, 51, 52, 53, 54] (by decide +kernel) (by decide +kernel)
set_option maxRecDepth 20000 in
theorem gX11_parcel_X11_noTake : GoodIn wsX11_parcel (wsV RX11 214 RX11 yX11_noTake wsX11_noTake) := goodIn_app (goodIn_r _ [7, 8, 9, 10] (by decide +kernel) (by decide +kernel)) ggX11_parcel_X11_noTake
set_option maxRecDepth 20000 in
theorem ggX11_parcel_X11_in : GoodIn wsX11_parcel wsX11_in := goodIn_r _ [15] (by decide +kernel) (by decide +kernel)
set_option maxRecDepth 20000 in
theorem gX11_parcel_X11_in : GoodIn wsX11_parcel (va_wsS RX11 111 yX11_in wsX11_in) := goodIn_app (goodIn_r _ [13, 14, 10] (by decide +kernel) (by decide +kernel)) ggX11_parcel_X11_in
theorem dX11_parcel_0 : decode cX11_parcel 0 = .ok (.aload_n 0, 1) := by decide +kernel
theorem dX11_parcel_1 : decode cX11_parcel 1 = .ok (.iload_n 1, 1) := by decide +kernel
theorem dX11_parcel_2 : decode cX11_parcel 2 = .ok (.invokevirtual 214, 3) := by decide +kernel
theorem dX11_parcel_5 : decode cX11_parcel 5 = .ok (.ifCond .eq 5, 3) := by decide +kernel
theorem dX11_parcel_8 : decode cX11_parcel 8 = .ok (.iconst (-1), 1) := by decide +kernel
theorem dX11_parcel_9 : decode cX11_parcel 9 = .ok (.ireturn, 1) := by decide +kernel
theorem dX11_parcel_10 : decode cX11_parcel 10 = .ok (.iload_n 2, 1) := by decide +kernel
theorem dX11_parcel_11 : decode cX11_parcel 11 = .ok (.i2l, 1) := by decide +kernel
theorem dX11_parcel_12 : decode cX11_parcel 12 = .ok (.lconst 1, 1) := by decide +kernel
theorem dX11_parcel_13 : decode cX11_parcel 13 = .ok (.ldc2_w 133, 3) := by decide +kernel
theorem dX11_parcel_16 : decode cX11_parcel 16 = .ok (.invokestatic 111, 3) := by decide +kernel
theorem dX11_parcel_19 : decode cX11_parcel 19 = .ok (.ifCond .eq 15, 3) := by decide +kernel
theorem dX11_parcel_22 : decode cX11_parcel 22 = .ok (.iload_n 3, 1) := by decide +kernel
theorem dX11_parcel_23 : decode cX11_parcel 23 = .ok (.i2l, 1) := by decide +kernel
theorem dX11_parcel_24 : decode cX11_parcel 24 = .ok (.lconst 0, 1) := by decide +kernel
theorem dX11_parcel_25 : decode cX11_parcel 25 = .ok (.ldc2_w 133, 3) := by decide +kernel
theorem dX11_parcel_28 : decode cX11_parcel 28 = .ok (.invokestatic 111, 3) := by decide +kernel
theorem dX11_parcel_31 : decode cX11_parcel 31 = .ok (.ifCond .ne 6, 3) := by decide +kernel
theorem dX11_parcel_34 : decode cX11_parcel 34 = .ok (.bipush (-2), 2) := by decide +kernel
theorem dX11_parcel_36 : decode cX11_parcel 36 = .ok (.ireturn, 1) := by decide +kernel
theorem dX11_parcel_37 : decode cX11_parcel 37 = .ok (.aload_n 0, 1) := by decide +kernel
theorem dX11_parcel_38 : decode cX11_parcel 38 = .ok (.getfield 65, 3) := by decide +kernel
theorem dX11_parcel_41 : decode cX11_parcel 41 = .ok (.iload_n 1, 1) := by decide +kernel
theorem dX11_parcel_42 : decode cX11_parcel 42 = .ok (.baload, 1) := by decide +kernel
theorem dX11_parcel_43 : decode cX11_parcel 43 = .ok (.ifCond .eq 6, 3) := by decide +kernel
theorem dX11_parcel_46 : decode cX11_parcel 46 = .ok (.bipush (-3), 2) := by decide +kernel
theorem dX11_parcel_48 : decode cX11_parcel 48 = .ok (.ireturn, 1) := by decide +kernel
theorem dX11_parcel_49 : decode cX11_parcel 49 = .ok (.aload_n 0, 1) := by decide +kernel
theorem dX11_parcel_50 : decode cX11_parcel 50 = .ok (.getfield 217, 3) := by decide +kernel
theorem dX11_parcel_53 : decode cX11_parcel 53 = .ok (.bipush 80, 2) := by decide +kernel
theorem dX11_parcel_55 : decode cX11_parcel 55 = .ok (.if_icmp .ne 6, 3) := by decide +kernel
theorem dX11_parcel_58 : decode cX11_parcel 58 = .ok (.bipush (-4), 2) := by decide +kernel
theorem dX11_parcel_60 : decode cX11_parcel 60 = .ok (.ireturn, 1) := by decide +kernel
theorem dX11_parcel_61 : decode cX11_parcel 61 = .ok (.aload_n 0, 1) := by decide +kernel
theorem dX11_parcel_62 : decode cX11_parcel 62 = .ok (.getfield 84, 3) := by decide +kernel
theorem dX11_parcel_65 : decode cX11_parcel 65 = .ok (.aload_n 0, 1) := by decide +kernel
theorem dX11_parcel_66 : decode cX11_parcel 66 = .ok (.getfield 217, 3) := by decide +kernel
theorem dX11_parcel_69 : decode cX11_parcel 69 = .ok (.iload_n 1, 1) := by decide +kernel
theorem dX11_parcel_70 : decode cX11_parcel 70 = .ok (.iastore, 1) := by decide +kernel
theorem dX11_parcel_71 : decode cX11_parcel 71 = .ok (.aload_n 0, 1) := by decide +kernel
theorem dX11_parcel_72 : decode cX11_parcel 72 = .ok (.getfield 87, 3) := by decide +kernel
theorem dX11_parcel_75 : decode cX11_parcel 75 = .ok (.aload_n 0, 1) := by decide +kernel
theorem dX11_parcel_76 : decode cX11_parcel 76 = .ok (.getfield 217, 3) := by decide +kernel
theorem dX11_parcel_79 : decode cX11_parcel 79 = .ok (.iload_n 2, 1) := by decide +kernel
theorem dX11_parcel_80 : decode cX11_parcel 80 = .ok (.iastore, 1) := by decide +kernel
theorem dX11_parcel_81 : decode cX11_parcel 81 = .ok (.aload_n 0, 1) := by decide +kernel
theorem dX11_parcel_82 : decode cX11_parcel 82 = .ok (.getfield 90, 3) := by decide +kernel
theorem dX11_parcel_85 : decode cX11_parcel 85 = .ok (.aload_n 0, 1) := by decide +kernel
theorem dX11_parcel_86 : decode cX11_parcel 86 = .ok (.getfield 217, 3) := by decide +kernel
theorem dX11_parcel_89 : decode cX11_parcel 89 = .ok (.iload_n 3, 1) := by decide +kernel
theorem dX11_parcel_90 : decode cX11_parcel 90 = .ok (.iastore, 1) := by decide +kernel
theorem dX11_parcel_91 : decode cX11_parcel 91 = .ok (.aload_n 0, 1) := by decide +kernel
theorem dX11_parcel_92 : decode cX11_parcel 92 = .ok (.dup, 1) := by decide +kernel
theorem dX11_parcel_93 : decode cX11_parcel 93 = .ok (.getfield 217, 3) := by decide +kernel
theorem dX11_parcel_96 : decode cX11_parcel 96 = .ok (.iconst 1, 1) := by decide +kernel
theorem dX11_parcel_97 : decode cX11_parcel 97 = .ok (.iadd, 1) := by decide +kernel
theorem dX11_parcel_98 : decode cX11_parcel 98 = .ok (.putfield 217, 3) := by decide +kernel
theorem dX11_parcel_101 : decode cX11_parcel 101 = .ok (.aload_n 0, 1) := by decide +kernel
theorem dX11_parcel_102 : decode cX11_parcel 102 = .ok (.getfield 217, 3) := by decide +kernel
theorem dX11_parcel_105 : decode cX11_parcel 105 = .ok (.iconst 1, 1) := by decide +kernel
theorem dX11_parcel_106 : decode cX11_parcel 106 = .ok (.isub, 1) := by decide +kernel
theorem dX11_parcel_107 : decode cX11_parcel 107 = .ok (.ireturn, 1) := by decide +kernel
set_option maxRecDepth 20000 in
theorem ggX11_spend_X11_noTake : GoodIn wsX11_spend wsX11_noTake := goodIn_r _ [9, 10, 11, 12, 8, 13, 18, 19, 20, 21, 22, 23, 24, 25, 26, 27, 28, 29, 30, 31, 32, 33, 34, 35, 36, 37, 38, 39, 40, 41, 42, 43, 44, 45, 46, 47, 48, 49, 50, 51, 52, 53, 54, 55, 56] (by decide +kernel) (by decide +kernel)
set_option maxRecDepth 20000 in
theorem gX11_spend_X11_noTake : GoodIn wsX11_spend (wsV RX11 214 RX11 yX11_noTake wsX11_noTake) := goodIn_app (goodIn_r _ [5, 6, 7, 8] (by decide +kernel) (by decide +kernel)) ggX11_spend_X11_noTake
set_option maxRecDepth 20000 in
theorem ggX11_spend_X11_in : GoodIn wsX11_spend wsX11_in := goodIn_r _ [13] (by decide +kernel) (by decide +kernel)
set_option maxRecDepth 20000 in
theorem gX11_spend_X11_in : GoodIn wsX11_spend (va_wsS RX11 111 yX11_in wsX11_in) := goodIn_app (goodIn_r _ [11, 12, 8] (by decide +kernel) (by decide +kernel)) ggX11_spend_X11_in
set_option maxRecDepth 20000 in
theorem ggX11_spend_X11_lost : GoodIn wsX11_spend wsX11_lost := goodIn_r _ [16, 17] (by decide +kernel) (by decide +kernel)
set_option maxRecDepth 20000 in
theorem gX11_spend_X11_lost : GoodIn wsX11_spend (va_wsS RX11 105 yX11_lost wsX11_lost) := goodIn_app (goodIn_r _ [14, 15, 8] (by decide +kernel) (by decide +kernel)) ggX11_spend_X11_lost
theorem dX11_spend_0 : decode cX11_spend 0 = .ok (.aload_n 0, 1) := by decide +kernel
theorem dX11_spend_1 : decode cX11_spend 1 = .ok (.iload_n 1, 1) := by decide +kernel
theorem dX11_spend_2 : decode cX11_spend 2 = .ok (.invokevirtual 214, 3) := by decide +kernel
theorem dX11_spend_5 : decode cX11_spend 5 = .ok (.ifCond .ne 34, 3) := by decide +kernel
theorem dX11_spend_8 : decode cX11_spend 8 = .ok (.iload_n 2, 1) := by decide +kernel
theorem dX11_spend_9 : decode cX11_spend 9 = .ok (.i2l, 1) := by decide +kernel
theorem dX11_spend_10 : decode cX11_spend 10 = .ok (.lconst 0, 1) := by decide +kernel
theorem dX11_spend_11 : decode cX11_spend 11 = .ok (.lconst 1, 1) := by decide +kernel
theorem dX11_spend_12 : decode cX11_spend 12 = .ok (.invokestatic 111, 3) := by decide +kernel
theorem dX11_spend_15 : decode cX11_spend 15 = .ok (.ifCond .eq 24, 3) := by decide +kernel
theorem dX11_spend_18 : decode cX11_spend 18 = .ok (.iload_n 3, 1) := by decide +kernel
theorem dX11_spend_19 : decode cX11_spend 19 = .ok (.i2l, 1) := by decide +kernel
theorem dX11_spend_20 : decode cX11_spend 20 = .ok (.lconst 0, 1) := by decide +kernel
theorem dX11_spend_21 : decode cX11_spend 21 = .ok (.ldc2_w 220, 3) := by decide +kernel
theorem dX11_spend_24 : decode cX11_spend 24 = .ok (.invokestatic 111, 3) := by decide +kernel
theorem dX11_spend_27 : decode cX11_spend 27 = .ok (.ifCond .eq 12, 3) := by decide +kernel
theorem dX11_spend_30 : decode cX11_spend 30 = .ok (.aload_n 0, 1) := by decide +kernel
theorem dX11_spend_31 : decode cX11_spend 31 = .ok (.getfield 65, 3) := by decide +kernel
theorem dX11_spend_34 : decode cX11_spend 34 = .ok (.iload_n 1, 1) := by decide +kernel
theorem dX11_spend_35 : decode cX11_spend 35 = .ok (.baload, 1) := by decide +kernel
theorem dX11_spend_36 : decode cX11_spend 36 = .ok (.ifCond .eq 7, 3) := by decide +kernel
theorem dX11_spend_39 : decode cX11_spend 39 = .ok (.invokestatic 105, 3) := by decide +kernel
theorem dX11_spend_42 : decode cX11_spend 42 = .ok (.lreturn, 1) := by decide +kernel
theorem dX11_spend_43 : decode cX11_spend 43 = .ok (.aload_n 0, 1) := by decide +kernel
theorem dX11_spend_44 : decode cX11_spend 44 = .ok (.getfield 75, 3) := by decide +kernel
theorem dX11_spend_47 : decode cX11_spend 47 = .ok (.iload_n 1, 1) := by decide +kernel
theorem dX11_spend_48 : decode cX11_spend 48 = .ok (.dup2, 1) := by decide +kernel
theorem dX11_spend_49 : decode cX11_spend 49 = .ok (.laload, 1) := by decide +kernel
theorem dX11_spend_50 : decode cX11_spend 50 = .ok (.iload_n 2, 1) := by decide +kernel
theorem dX11_spend_51 : decode cX11_spend 51 = .ok (.ifCond .ne 8, 3) := by decide +kernel
theorem dX11_spend_54 : decode cX11_spend 54 = .ok (.iload_n 3, 1) := by decide +kernel
theorem dX11_spend_55 : decode cX11_spend 55 = .ok (.i2l, 1) := by decide +kernel
theorem dX11_spend_56 : decode cX11_spend 56 = .ok (.goto 4, 3) := by decide +kernel
theorem dX11_spend_59 : decode cX11_spend 59 = .ok (.lconst 0, 1) := by decide +kernel
theorem dX11_spend_60 : decode cX11_spend 60 = .ok (.ladd, 1) := by decide +kernel
theorem dX11_spend_61 : decode cX11_spend 61 = .ok (.lastore, 1) := by decide +kernel
theorem dX11_spend_62 : decode cX11_spend 62 = .ok (.aload_n 0, 1) := by decide +kernel
theorem dX11_spend_63 : decode cX11_spend 63 = .ok (.getfield 78, 3) := by decide +kernel
theorem dX11_spend_66 : decode cX11_spend 66 = .ok (.iload_n 1, 1) := by decide +kernel
theorem dX11_spend_67 : decode cX11_spend 67 = .ok (.dup2, 1) := by decide +kernel
theorem dX11_spend_68 : decode cX11_spend 68 = .ok (.laload, 1) := by decide +kernel
theorem dX11_spend_69 : decode cX11_spend 69 = .ok (.iload_n 2, 1) := by decide +kernel
theorem dX11_spend_70 : decode cX11_spend 70 = .ok (.iconst 1, 1) := by decide +kernel
theorem dX11_spend_71 : decode cX11_spend 71 = .ok (.if_icmp .ne 8, 3) := by decide +kernel
theorem dX11_spend_74 : decode cX11_spend 74 = .ok (.iload_n 3, 1) := by decide +kernel
theorem dX11_spend_75 : decode cX11_spend 75 = .ok (.i2l, 1) := by decide +kernel
theorem dX11_spend_76 : decode cX11_spend 76 = .ok (.goto 4, 3) := by decide +kernel
theorem dX11_spend_79 : decode cX11_spend 79 = .ok (.lconst 0, 1) := by decide +kernel
theorem dX11_spend_80 : decode cX11_spend 80 = .ok (.ladd, 1) := by decide +kernel
theorem dX11_spend_81 : decode cX11_spend 81 = .ok (.lastore, 1) := by decide +kernel
theorem dX11_spend_82 : decode cX11_spend 82 = .ok (.iload_n 2, 1) := by decide +kernel
theorem dX11_spend_83 : decode cX11_spend 83 = .ok (.ifCond .ne 12, 3) := by decide +kernel
theorem dX11_spend_86 : decode cX11_spend 86 = .ok (.aload_n 0, 1) := by decide +kernel
theorem dX11_spend_87 : decode cX11_spend 87 = .ok (.getfield 75, 3) := by decide +kernel
theorem dX11_spend_90 : decode cX11_spend 90 = .ok (.iload_n 1, 1) := by decide +kernel
theorem dX11_spend_91 : decode cX11_spend 91 = .ok (.laload, 1) := by decide +kernel
theorem dX11_spend_92 : decode cX11_spend 92 = .ok (.goto 9, 3) := by decide +kernel
theorem dX11_spend_95 : decode cX11_spend 95 = .ok (.aload_n 0, 1) := by decide +kernel
theorem dX11_spend_96 : decode cX11_spend 96 = .ok (.getfield 78, 3) := by decide +kernel
theorem dX11_spend_99 : decode cX11_spend 99 = .ok (.iload_n 1, 1) := by decide +kernel
theorem dX11_spend_100 : decode cX11_spend 100 = .ok (.laload, 1) := by decide +kernel
theorem dX11_spend_101 : decode cX11_spend 101 = .ok (.lreturn, 1) := by decide +kernel
theorem dX11_worthOf_0 : decode cX11_worthOf 0 = .ok (.lconst 0, 1) := by decide +kernel
theorem dX11_worthOf_1 : decode cX11_worthOf 1 = .ok (.lstore_n 2, 1) := by decide +kernel
theorem dX11_worthOf_2 : decode cX11_worthOf 2 = .ok (.iconst 0, 1) := by decide +kernel
theorem dX11_worthOf_3 : decode cX11_worthOf 3 = .ok (.istore 4, 2) := by decide +kernel
theorem dX11_worthOf_5 : decode cX11_worthOf 5 = .ok (.iload 4, 2) := by decide +kernel
theorem dX11_worthOf_7 : decode cX11_worthOf 7 = .ok (.aload_n 0, 1) := by decide +kernel
theorem dX11_worthOf_8 : decode cX11_worthOf 8 = .ok (.getfield 217, 3) := by decide +kernel
theorem dX11_worthOf_11 : decode cX11_worthOf 11 = .ok (.if_icmp .ge 44, 3) := by decide +kernel
theorem dX11_worthOf_14 : decode cX11_worthOf 14 = .ok (.lload_n 2, 1) := by decide +kernel
theorem dX11_worthOf_15 : decode cX11_worthOf 15 = .ok (.aload_n 0, 1) := by decide +kernel
theorem dX11_worthOf_16 : decode cX11_worthOf 16 = .ok (.getfield 84, 3) := by decide +kernel
theorem dX11_worthOf_19 : decode cX11_worthOf 19 = .ok (.iload 4, 2) := by decide +kernel
theorem dX11_worthOf_21 : decode cX11_worthOf 21 = .ok (.iaload, 1) := by decide +kernel
theorem dX11_worthOf_22 : decode cX11_worthOf 22 = .ok (.iload_n 1, 1) := by decide +kernel
theorem dX11_worthOf_23 : decode cX11_worthOf 23 = .ok (.if_icmp .ne 23, 3) := by decide +kernel
theorem dX11_worthOf_26 : decode cX11_worthOf 26 = .ok (.aload_n 0, 1) := by decide +kernel
theorem dX11_worthOf_27 : decode cX11_worthOf 27 = .ok (.getfield 87, 3) := by decide +kernel
theorem dX11_worthOf_30 : decode cX11_worthOf 30 = .ok (.iload 4, 2) := by decide +kernel
theorem dX11_worthOf_32 : decode cX11_worthOf 32 = .ok (.iaload, 1) := by decide +kernel
theorem dX11_worthOf_33 : decode cX11_worthOf 33 = .ok (.i2l, 1) := by decide +kernel
theorem dX11_worthOf_34 : decode cX11_worthOf 34 = .ok (.aload_n 0, 1) := by decide +kernel
theorem dX11_worthOf_35 : decode cX11_worthOf 35 = .ok (.getfield 90, 3) := by decide +kernel
theorem dX11_worthOf_38 : decode cX11_worthOf 38 = .ok (.iload 4, 2) := by decide +kernel
theorem dX11_worthOf_40 : decode cX11_worthOf 40 = .ok (.iaload, 1) := by decide +kernel
theorem dX11_worthOf_41 : decode cX11_worthOf 41 = .ok (.i2l, 1) := by decide +kernel
theorem dX11_worthOf_42 : decode cX11_worthOf 42 = .ok (.lmul, 1) := by decide +kernel
theorem dX11_worthOf_43 : decode cX11_worthOf 43 = .ok (.goto 4, 3) := by decide +kernel
theorem dX11_worthOf_46 : decode cX11_worthOf 46 = .ok (.lconst 0, 1) := by decide +kernel
theorem dX11_worthOf_47 : decode cX11_worthOf 47 = .ok (.ladd, 1) := by decide +kernel
theorem dX11_worthOf_48 : decode cX11_worthOf 48 = .ok (.lstore_n 2, 1) := by decide +kernel
theorem dX11_worthOf_49 : decode cX11_worthOf 49 = .ok (.iinc 4 1, 3) := by decide +kernel
theorem dX11_worthOf_52 : decode cX11_worthOf 52 = .ok (.goto (-47), 3) := by decide +kernel
theorem dX11_worthOf_55 : decode cX11_worthOf 55 = .ok (.lload_n 2, 1) := by decide +kernel
theorem dX11_worthOf_56 : decode cX11_worthOf 56 = .ok (.lreturn, 1) := by decide +kernel
set_option maxRecDepth 20000 in
theorem ggX11_settle_X11_noTake : GoodIn wsX11_settle wsX11_noTake := goodIn_r _ [15, 16, 17, 18, 14, 19, 32, 33, 34, 35, 36, 37, 38, 39, 40, 41, 42, 43, 44, 45, 46, 47, 48, 49, 50, 51, 52, 53, 54, 55, 56, 57, 58, 59, 60, 61, 62, 63, 64, 65, 66, 67, 68, 69, 70] (by decide +kernel) (by decide +kernel)
set_option maxRecDepth 20000 in
theorem gX11_settle_X11_noTake : GoodIn wsX11_settle (wsV RX11 214 RX11 yX11_noTake wsX11_noTake) := goodIn_app (goodIn_r _ [11, 12, 13, 14] (by decide +kernel) (by decide +kernel)) ggX11_settle_X11_noTake
set_option maxRecDepth 20000 in
theorem ggX11_settle_X11_lost : GoodIn wsX11_settle wsX11_lost := goodIn_r _ [22, 23] (by decide +kernel) (by decide +kernel)
set_option maxRecDepth 20000 in
theorem gX11_settle_X11_lost : GoodIn wsX11_settle (va_wsS RX11 105 yX11_lost wsX11_lost) := goodIn_app (goodIn_r _ [20, 21, 14] (by decide +kernel) (by decide +kernel)) ggX11_settle_X11_lost
set_option maxRecDepth 20000 in
theorem ggX11_settle_X11_worthOf : GoodIn wsX11_settle wsX11_worthOf := goodIn_r _ [27, 28, 29, 30, 31, 32, 33, 34, 35, 36, 37, 38, 39, 40, 41, 42, 43, 44, 45, 46, 47, 48, 49, 50, 51, 52, 53, 54, 55, 56, 57, 58, 59, 60, 61, 62, 63, 64, 65, 66, 67, 68, 69, 70] (by decide +kernel) (by decide +kernel)
set_option maxRecDepth 20000 in
theorem gX11_settle_X11_worthOf : GoodIn wsX11_settle (wsV RX11 222 RX11 yX11_worthOf wsX11_worthOf) := goodIn_app (goodIn_r _ [24, 25, 26, 14] (by decide +kernel) (by decide +kernel)) ggX11_settle_X11_worthOf
theorem dX11_settle_0 : decode cX11_settle 0 = .ok (.aload_n 0, 1) := by decide +kernel
theorem dX11_settle_1 : decode cX11_settle 1 = .ok (.iload_n 1, 1) := by decide +kernel
theorem dX11_settle_2 : decode cX11_settle 2 = .ok (.invokevirtual 214, 3) := by decide +kernel
theorem dX11_settle_5 : decode cX11_settle 5 = .ok (.ifCond .ne 12, 3) := by decide +kernel
theorem dX11_settle_8 : decode cX11_settle 8 = .ok (.aload_n 0, 1) := by decide +kernel
theorem dX11_settle_9 : decode cX11_settle 9 = .ok (.getfield 65, 3) := by decide +kernel
theorem dX11_settle_12 : decode cX11_settle 12 = .ok (.iload_n 1, 1) := by decide +kernel
theorem dX11_settle_13 : decode cX11_settle 13 = .ok (.baload, 1) := by decide +kernel
theorem dX11_settle_14 : decode cX11_settle 14 = .ok (.ifCond .eq 7, 3) := by decide +kernel
theorem dX11_settle_17 : decode cX11_settle 17 = .ok (.invokestatic 105, 3) := by decide +kernel
theorem dX11_settle_20 : decode cX11_settle 20 = .ok (.lreturn, 1) := by decide +kernel
theorem dX11_settle_21 : decode cX11_settle 21 = .ok (.aload_n 0, 1) := by decide +kernel
theorem dX11_settle_22 : decode cX11_settle 22 = .ok (.getfield 56, 3) := by decide +kernel
theorem dX11_settle_25 : decode cX11_settle 25 = .ok (.iload_n 1, 1) := by decide +kernel
theorem dX11_settle_26 : decode cX11_settle 26 = .ok (.iaload, 1) := by decide +kernel
theorem dX11_settle_27 : decode cX11_settle 27 = .ok (.istore_n 2, 1) := by decide +kernel
theorem dX11_settle_28 : decode cX11_settle 28 = .ok (.aload_n 0, 1) := by decide +kernel
theorem dX11_settle_29 : decode cX11_settle 29 = .ok (.getfield 49, 3) := by decide +kernel
theorem dX11_settle_32 : decode cX11_settle 32 = .ok (.iload_n 2, 1) := by decide +kernel
theorem dX11_settle_33 : decode cX11_settle 33 = .ok (.iaload, 1) := by decide +kernel
theorem dX11_settle_34 : decode cX11_settle 34 = .ok (.iconst 2, 1) := by decide +kernel
theorem dX11_settle_35 : decode cX11_settle 35 = .ok (.if_icmp .ne 16, 3) := by decide +kernel
theorem dX11_settle_38 : decode cX11_settle 38 = .ok (.aload_n 0, 1) := by decide +kernel
theorem dX11_settle_39 : decode cX11_settle 39 = .ok (.getfield 52, 3) := by decide +kernel
theorem dX11_settle_42 : decode cX11_settle 42 = .ok (.iload_n 2, 1) := by decide +kernel
theorem dX11_settle_43 : decode cX11_settle 43 = .ok (.laload, 1) := by decide +kernel
theorem dX11_settle_44 : decode cX11_settle 44 = .ok (.ldc2_w 151, 3) := by decide +kernel
theorem dX11_settle_47 : decode cX11_settle 47 = .ok (.ldiv, 1) := by decide +kernel
theorem dX11_settle_48 : decode cX11_settle 48 = .ok (.goto 9, 3) := by decide +kernel
theorem dX11_settle_51 : decode cX11_settle 51 = .ok (.aload_n 0, 1) := by decide +kernel
theorem dX11_settle_52 : decode cX11_settle 52 = .ok (.getfield 52, 3) := by decide +kernel
theorem dX11_settle_55 : decode cX11_settle 55 = .ok (.iload_n 2, 1) := by decide +kernel
theorem dX11_settle_56 : decode cX11_settle 56 = .ok (.laload, 1) := by decide +kernel
theorem dX11_settle_57 : decode cX11_settle 57 = .ok (.lstore_n 3, 1) := by decide +kernel
theorem dX11_settle_58 : decode cX11_settle 58 = .ok (.aload_n 0, 1) := by decide +kernel
theorem dX11_settle_59 : decode cX11_settle 59 = .ok (.getfield 62, 3) := by decide +kernel
theorem dX11_settle_62 : decode cX11_settle 62 = .ok (.iload_n 1, 1) := by decide +kernel
theorem dX11_settle_63 : decode cX11_settle 63 = .ok (.iaload, 1) := by decide +kernel
theorem dX11_settle_64 : decode cX11_settle 64 = .ok (.i2l, 1) := by decide +kernel
theorem dX11_settle_65 : decode cX11_settle 65 = .ok (.aload_n 0, 1) := by decide +kernel
theorem dX11_settle_66 : decode cX11_settle 66 = .ok (.iload_n 1, 1) := by decide +kernel
theorem dX11_settle_67 : decode cX11_settle 67 = .ok (.invokevirtual 222, 3) := by decide +kernel
theorem dX11_settle_70 : decode cX11_settle 70 = .ok (.lmul, 1) := by decide +kernel
theorem dX11_settle_71 : decode cX11_settle 71 = .ok (.ldc2_w 191, 3) := by decide +kernel
theorem dX11_settle_74 : decode cX11_settle 74 = .ok (.ldiv, 1) := by decide +kernel
theorem dX11_settle_75 : decode cX11_settle 75 = .ok (.aload_n 0, 1) := by decide +kernel
theorem dX11_settle_76 : decode cX11_settle 76 = .ok (.getfield 49, 3) := by decide +kernel
theorem dX11_settle_79 : decode cX11_settle 79 = .ok (.iload_n 2, 1) := by decide +kernel
theorem dX11_settle_80 : decode cX11_settle 80 = .ok (.iaload, 1) := by decide +kernel
theorem dX11_settle_81 : decode cX11_settle 81 = .ok (.ifCond .le 16, 3) := by decide +kernel
theorem dX11_settle_84 : decode cX11_settle 84 = .ok (.aload_n 0, 1) := by decide +kernel
theorem dX11_settle_85 : decode cX11_settle 85 = .ok (.getfield 75, 3) := by decide +kernel
theorem dX11_settle_88 : decode cX11_settle 88 = .ok (.iload_n 1, 1) := by decide +kernel
theorem dX11_settle_89 : decode cX11_settle 89 = .ok (.laload, 1) := by decide +kernel
theorem dX11_settle_90 : decode cX11_settle 90 = .ok (.ldc2_w 151, 3) := by decide +kernel
theorem dX11_settle_93 : decode cX11_settle 93 = .ok (.ldiv, 1) := by decide +kernel
theorem dX11_settle_94 : decode cX11_settle 94 = .ok (.goto 9, 3) := by decide +kernel
theorem dX11_settle_97 : decode cX11_settle 97 = .ok (.aload_n 0, 1) := by decide +kernel
theorem dX11_settle_98 : decode cX11_settle 98 = .ok (.getfield 75, 3) := by decide +kernel
theorem dX11_settle_101 : decode cX11_settle 101 = .ok (.iload_n 1, 1) := by decide +kernel
theorem dX11_settle_102 : decode cX11_settle 102 = .ok (.laload, 1) := by decide +kernel
theorem dX11_settle_103 : decode cX11_settle 103 = .ok (.lsub, 1) := by decide +kernel
theorem dX11_settle_104 : decode cX11_settle 104 = .ok (.aload_n 0, 1) := by decide +kernel
theorem dX11_settle_105 : decode cX11_settle 105 = .ok (.getfield 78, 3) := by decide +kernel
theorem dX11_settle_108 : decode cX11_settle 108 = .ok (.iload_n 1, 1) := by decide +kernel
theorem dX11_settle_109 : decode cX11_settle 109 = .ok (.laload, 1) := by decide +kernel
theorem dX11_settle_110 : decode cX11_settle 110 = .ok (.lsub, 1) := by decide +kernel
theorem dX11_settle_111 : decode cX11_settle 111 = .ok (.lload_n 3, 1) := by decide +kernel
theorem dX11_settle_112 : decode cX11_settle 112 = .ok (.lsub, 1) := by decide +kernel
theorem dX11_settle_113 : decode cX11_settle 113 = .ok (.lstore 5, 2) := by decide +kernel
theorem dX11_settle_115 : decode cX11_settle 115 = .ok (.aload_n 0, 1) := by decide +kernel
theorem dX11_settle_116 : decode cX11_settle 116 = .ok (.getfield 52, 3) := by decide +kernel
theorem dX11_settle_119 : decode cX11_settle 119 = .ok (.iload_n 2, 1) := by decide +kernel
theorem dX11_settle_120 : decode cX11_settle 120 = .ok (.dup2, 1) := by decide +kernel
theorem dX11_settle_121 : decode cX11_settle 121 = .ok (.laload, 1) := by decide +kernel
theorem dX11_settle_122 : decode cX11_settle 122 = .ok (.lload_n 3, 1) := by decide +kernel
theorem dX11_settle_123 : decode cX11_settle 123 = .ok (.lsub, 1) := by decide +kernel
theorem dX11_settle_124 : decode cX11_settle 124 = .ok (.lastore, 1) := by decide +kernel
theorem dX11_settle_125 : decode cX11_settle 125 = .ok (.aload_n 0, 1) := by decide +kernel
theorem dX11_settle_126 : decode cX11_settle 126 = .ok (.getfield 52, 3) := by decide +kernel
theorem dX11_settle_129 : decode cX11_settle 129 = .ok (.iload_n 2, 1) := by decide +kernel
theorem dX11_settle_130 : decode cX11_settle 130 = .ok (.dup2, 1) := by decide +kernel
theorem dX11_settle_131 : decode cX11_settle 131 = .ok (.laload, 1) := by decide +kernel
theorem dX11_settle_132 : decode cX11_settle 132 = .ok (.lload 5, 2) := by decide +kernel
theorem dX11_settle_134 : decode cX11_settle 134 = .ok (.lconst 0, 1) := by decide +kernel
theorem dX11_settle_135 : decode cX11_settle 135 = .ok (.lcmp, 1) := by decide +kernel
theorem dX11_settle_136 : decode cX11_settle 136 = .ok (.ifCond .ge 9, 3) := by decide +kernel
theorem dX11_settle_139 : decode cX11_settle 139 = .ok (.lload 5, 2) := by decide +kernel
theorem dX11_settle_141 : decode cX11_settle 141 = .ok (.lneg, 1) := by decide +kernel
theorem dX11_settle_142 : decode cX11_settle 142 = .ok (.goto 4, 3) := by decide +kernel
theorem dX11_settle_145 : decode cX11_settle 145 = .ok (.lconst 0, 1) := by decide +kernel
theorem dX11_settle_146 : decode cX11_settle 146 = .ok (.ladd, 1) := by decide +kernel
theorem dX11_settle_147 : decode cX11_settle 147 = .ok (.lastore, 1) := by decide +kernel
theorem dX11_settle_148 : decode cX11_settle 148 = .ok (.aload_n 0, 1) := by decide +kernel
theorem dX11_settle_149 : decode cX11_settle 149 = .ok (.getfield 81, 3) := by decide +kernel
theorem dX11_settle_152 : decode cX11_settle 152 = .ok (.iload_n 1, 1) := by decide +kernel
theorem dX11_settle_153 : decode cX11_settle 153 = .ok (.lload 5, 2) := by decide +kernel
theorem dX11_settle_155 : decode cX11_settle 155 = .ok (.lconst 0, 1) := by decide +kernel
theorem dX11_settle_156 : decode cX11_settle 156 = .ok (.lcmp, 1) := by decide +kernel
theorem dX11_settle_157 : decode cX11_settle 157 = .ok (.ifCond .ge 7, 3) := by decide +kernel
theorem dX11_settle_160 : decode cX11_settle 160 = .ok (.lconst 0, 1) := by decide +kernel
theorem dX11_settle_161 : decode cX11_settle 161 = .ok (.goto 5, 3) := by decide +kernel
theorem dX11_settle_164 : decode cX11_settle 164 = .ok (.lload 5, 2) := by decide +kernel
theorem dX11_settle_166 : decode cX11_settle 166 = .ok (.lastore, 1) := by decide +kernel
theorem dX11_settle_167 : decode cX11_settle 167 = .ok (.aload_n 0, 1) := by decide +kernel
theorem dX11_settle_168 : decode cX11_settle 168 = .ok (.getfield 65, 3) := by decide +kernel
theorem dX11_settle_171 : decode cX11_settle 171 = .ok (.iload_n 1, 1) := by decide +kernel
theorem dX11_settle_172 : decode cX11_settle 172 = .ok (.iconst 1, 1) := by decide +kernel
theorem dX11_settle_173 : decode cX11_settle 173 = .ok (.bastore, 1) := by decide +kernel
theorem dX11_settle_174 : decode cX11_settle 174 = .ok (.aload_n 0, 1) := by decide +kernel
theorem dX11_settle_175 : decode cX11_settle 175 = .ok (.getfield 81, 3) := by decide +kernel
theorem dX11_settle_178 : decode cX11_settle 178 = .ok (.iload_n 1, 1) := by decide +kernel
theorem dX11_settle_179 : decode cX11_settle 179 = .ok (.laload, 1) := by decide +kernel
theorem dX11_settle_180 : decode cX11_settle 180 = .ok (.lreturn, 1) := by decide +kernel
theorem dX11_parcelsOf_0 : decode cX11_parcelsOf 0 = .ok (.iconst 0, 1) := by decide +kernel
theorem dX11_parcelsOf_1 : decode cX11_parcelsOf 1 = .ok (.istore_n 2, 1) := by decide +kernel
theorem dX11_parcelsOf_2 : decode cX11_parcelsOf 2 = .ok (.iconst 0, 1) := by decide +kernel
theorem dX11_parcelsOf_3 : decode cX11_parcelsOf 3 = .ok (.istore_n 3, 1) := by decide +kernel
theorem dX11_parcelsOf_4 : decode cX11_parcelsOf 4 = .ok (.iload_n 3, 1) := by decide +kernel
theorem dX11_parcelsOf_5 : decode cX11_parcelsOf 5 = .ok (.aload_n 0, 1) := by decide +kernel
theorem dX11_parcelsOf_6 : decode cX11_parcelsOf 6 = .ok (.getfield 217, 3) := by decide +kernel
theorem dX11_parcelsOf_9 : decode cX11_parcelsOf 9 = .ok (.if_icmp .ge 27, 3) := by decide +kernel
theorem dX11_parcelsOf_12 : decode cX11_parcelsOf 12 = .ok (.iload_n 2, 1) := by decide +kernel
theorem dX11_parcelsOf_13 : decode cX11_parcelsOf 13 = .ok (.aload_n 0, 1) := by decide +kernel
theorem dX11_parcelsOf_14 : decode cX11_parcelsOf 14 = .ok (.getfield 84, 3) := by decide +kernel
theorem dX11_parcelsOf_17 : decode cX11_parcelsOf 17 = .ok (.iload_n 3, 1) := by decide +kernel
theorem dX11_parcelsOf_18 : decode cX11_parcelsOf 18 = .ok (.iaload, 1) := by decide +kernel
theorem dX11_parcelsOf_19 : decode cX11_parcelsOf 19 = .ok (.iload_n 1, 1) := by decide +kernel
theorem dX11_parcelsOf_20 : decode cX11_parcelsOf 20 = .ok (.if_icmp .ne 7, 3) := by decide +kernel
theorem dX11_parcelsOf_23 : decode cX11_parcelsOf 23 = .ok (.iconst 1, 1) := by decide +kernel
theorem dX11_parcelsOf_24 : decode cX11_parcelsOf 24 = .ok (.goto 4, 3) := by decide +kernel
theorem dX11_parcelsOf_27 : decode cX11_parcelsOf 27 = .ok (.iconst 0, 1) := by decide +kernel
theorem dX11_parcelsOf_28 : decode cX11_parcelsOf 28 = .ok (.iadd, 1) := by decide +kernel
theorem dX11_parcelsOf_29 : decode cX11_parcelsOf 29 = .ok (.istore_n 2, 1) := by decide +kernel
theorem dX11_parcelsOf_30 : decode cX11_parcelsOf 30 = .ok (.iinc 3 1, 3) := by decide +kernel
theorem dX11_parcelsOf_33 : decode cX11_parcelsOf 33 = .ok (.goto (-29), 3) := by decide +kernel
theorem dX11_parcelsOf_36 : decode cX11_parcelsOf 36 = .ok (.iload_n 2, 1) := by decide +kernel
theorem dX11_parcelsOf_37 : decode cX11_parcelsOf 37 = .ok (.ireturn, 1) := by decide +kernel
set_option maxRecDepth 20000 in
theorem ggX11_taken_X11_noTake : GoodIn wsX11_taken wsX11_noTake := goodIn_r _ [9, 10, 11, 12, 8, 13, 20, 21, 22, 23, 24, 25, 26, 27, 28, 29, 30, 31, 32, 33, 34, 35, 36, 37, 38, 39, 40, 41, 42, 43, 44, 45, 46, 47, 48, 49, 50, 51, 52, 53, 54, 55, 56, 57, 58] (by decide +kernel) (by decide +kernel)
set_option maxRecDepth 20000 in
theorem gX11_taken_X11_noTake : GoodIn wsX11_taken (wsV RX11 214 RX11 yX11_noTake wsX11_noTake) := goodIn_app (goodIn_r _ [5, 6, 7, 8] (by decide +kernel) (by decide +kernel)) ggX11_taken_X11_noTake
set_option maxRecDepth 20000 in
theorem ggX11_taken_X11_parcelsOf : GoodIn wsX11_taken wsX11_parcelsOf := goodIn_r _ [17, 18, 19, 20, 21, 22, 23, 24, 25, 26, 27, 28, 29, 30, 31, 32, 33, 34, 35, 36, 37, 38, 39, 40, 41, 42, 43, 44, 45, 46, 47, 48, 49, 50, 51, 52, 53, 54, 55, 56, 57, 58] (by decide +kernel) (by decide +kernel)
set_option maxRecDepth 20000 in
theorem gX11_taken_X11_parcelsOf : GoodIn wsX11_taken (wsV RX11 225 RX11 yX11_parcelsOf wsX11_parcelsOf) := goodIn_app (goodIn_r _ [14, 15, 16, 8] (by decide +kernel) (by decide +kernel)) ggX11_taken_X11_parcelsOf
theorem dX11_taken_0 : decode cX11_taken 0 = .ok (.aload_n 0, 1) := by decide +kernel
theorem dX11_taken_1 : decode cX11_taken 1 = .ok (.iload_n 1, 1) := by decide +kernel
theorem dX11_taken_2 : decode cX11_taken 2 = .ok (.invokevirtual 214, 3) := by decide +kernel
theorem dX11_taken_5 : decode cX11_taken 5 = .ok (.ifCond .eq 5, 3) := by decide +kernel
theorem dX11_taken_8 : decode cX11_taken 8 = .ok (.iconst (-1), 1) := by decide +kernel
theorem dX11_taken_9 : decode cX11_taken 9 = .ok (.ireturn, 1) := by decide +kernel
theorem dX11_taken_10 : decode cX11_taken 10 = .ok (.iload_n 2, 1) := by decide +kernel
theorem dX11_taken_11 : decode cX11_taken 11 = .ok (.tableswitch 75 0 4 #[33, 40, 47, 54, 69], 33) := by decide +kernel
theorem dX11_taken_44 : decode cX11_taken 44 = .ok (.aload_n 0, 1) := by decide +kernel
theorem dX11_taken_45 : decode cX11_taken 45 = .ok (.getfield 56, 3) := by decide +kernel
theorem dX11_taken_48 : decode cX11_taken 48 = .ok (.iload_n 1, 1) := by decide +kernel
theorem dX11_taken_49 : decode cX11_taken 49 = .ok (.iaload, 1) := by decide +kernel
theorem dX11_taken_50 : decode cX11_taken 50 = .ok (.ireturn, 1) := by decide +kernel
theorem dX11_taken_51 : decode cX11_taken 51 = .ok (.aload_n 0, 1) := by decide +kernel
theorem dX11_taken_52 : decode cX11_taken 52 = .ok (.getfield 59, 3) := by decide +kernel
theorem dX11_taken_55 : decode cX11_taken 55 = .ok (.iload_n 1, 1) := by decide +kernel
theorem dX11_taken_56 : decode cX11_taken 56 = .ok (.iaload, 1) := by decide +kernel
theorem dX11_taken_57 : decode cX11_taken 57 = .ok (.ireturn, 1) := by decide +kernel
theorem dX11_taken_58 : decode cX11_taken 58 = .ok (.aload_n 0, 1) := by decide +kernel
theorem dX11_taken_59 : decode cX11_taken 59 = .ok (.getfield 62, 3) := by decide +kernel
theorem dX11_taken_62 : decode cX11_taken 62 = .ok (.iload_n 1, 1) := by decide +kernel
theorem dX11_taken_63 : decode cX11_taken 63 = .ok (.iaload, 1) := by decide +kernel
theorem dX11_taken_64 : decode cX11_taken 64 = .ok (.ireturn, 1) := by decide +kernel
theorem dX11_taken_65 : decode cX11_taken 65 = .ok (.aload_n 0, 1) := by decide +kernel
theorem dX11_taken_66 : decode cX11_taken 66 = .ok (.getfield 65, 3) := by decide +kernel
theorem dX11_taken_69 : decode cX11_taken 69 = .ok (.iload_n 1, 1) := by decide +kernel
theorem dX11_taken_70 : decode cX11_taken 70 = .ok (.baload, 1) := by decide +kernel
theorem dX11_taken_71 : decode cX11_taken 71 = .ok (.ifCond .eq 7, 3) := by decide +kernel
theorem dX11_taken_74 : decode cX11_taken 74 = .ok (.iconst 1, 1) := by decide +kernel
theorem dX11_taken_75 : decode cX11_taken 75 = .ok (.goto 4, 3) := by decide +kernel
theorem dX11_taken_78 : decode cX11_taken 78 = .ok (.iconst 0, 1) := by decide +kernel
theorem dX11_taken_79 : decode cX11_taken 79 = .ok (.ireturn, 1) := by decide +kernel
theorem dX11_taken_80 : decode cX11_taken 80 = .ok (.aload_n 0, 1) := by decide +kernel
theorem dX11_taken_81 : decode cX11_taken 81 = .ok (.iload_n 1, 1) := by decide +kernel
theorem dX11_taken_82 : decode cX11_taken 82 = .ok (.invokevirtual 225, 3) := by decide +kernel
theorem dX11_taken_85 : decode cX11_taken 85 = .ok (.ireturn, 1) := by decide +kernel
theorem dX11_taken_86 : decode cX11_taken 86 = .ok (.bipush (-2), 2) := by decide +kernel
theorem dX11_taken_88 : decode cX11_taken 88 = .ok (.ireturn, 1) := by decide +kernel
set_option maxRecDepth 20000 in
theorem ggX11_money_X11_noTake : GoodIn wsX11_money wsX11_noTake := goodIn_r _ [10, 11, 12, 13, 9, 14, 27, 28, 29, 30, 31, 32, 33, 34, 35, 36, 37, 38, 39, 40, 41, 42, 43, 44, 45, 46, 47, 48, 49, 50, 51, 52, 53, 54, 55, 56, 57, 58, 59, 60, 61, 62, 63, 64, 65] (by decide +kernel) (by decide +kernel)
set_option maxRecDepth 20000 in
theorem gX11_money_X11_noTake : GoodIn wsX11_money (wsV RX11 214 RX11 yX11_noTake wsX11_noTake) := goodIn_app (goodIn_r _ [6, 7, 8, 9] (by decide +kernel) (by decide +kernel)) ggX11_money_X11_noTake
set_option maxRecDepth 20000 in
theorem ggX11_money_X11_lost : GoodIn wsX11_money wsX11_lost := goodIn_r _ [17, 18] (by decide +kernel) (by decide +kernel)
set_option maxRecDepth 20000 in
theorem gX11_money_X11_lost : GoodIn wsX11_money (va_wsS RX11 105 yX11_lost wsX11_lost) := goodIn_app (goodIn_r _ [15, 16, 9] (by decide +kernel) (by decide +kernel)) ggX11_money_X11_lost
set_option maxRecDepth 20000 in
theorem ggX11_money_X11_worthOf : GoodIn wsX11_money wsX11_worthOf := goodIn_r _ [22, 23, 24, 25, 26, 27, 28, 29, 30, 31, 32, 33, 34, 35, 36, 37, 38, 39, 40, 41, 42, 43, 44, 45, 46, 47, 48, 49, 50, 51, 52, 53, 54, 55, 56, 57, 58, 59, 60, 61, 62, 63, 64, 65] (by decide +kernel) (by decide +kernel)
set_option maxRecDepth 20000 in
theorem gX11_money_X11_worthOf : GoodIn wsX11_money (wsV RX11 222 RX11 yX11_worthOf wsX11_worthOf) := goodIn_app (goodIn_r _ [19, 20, 21, 9] (by decide +kernel) (by decide +kernel)) ggX11_money_X11_worthOf
theorem dX11_money_0 : decode cX11_money 0 = .ok (.aload_n 0, 1) := by decide +kernel
theorem dX11_money_1 : decode cX11_money 1 = .ok (.iload_n 1, 1) := by decide +kernel
theorem dX11_money_2 : decode cX11_money 2 = .ok (.invokevirtual 214, 3) := by decide +kernel
theorem dX11_money_5 : decode cX11_money 5 = .ok (.ifCond .eq 7, 3) := by decide +kernel
theorem dX11_money_8 : decode cX11_money 8 = .ok (.invokestatic 105, 3) := by decide +kernel
theorem dX11_money_11 : decode cX11_money 11 = .ok (.lreturn, 1) := by decide +kernel
theorem dX11_money_12 : decode cX11_money 12 = .ok (.iload_n 2, 1) := by decide +kernel
theorem dX11_money_13 : decode cX11_money 13 = .ok (.tableswitch 80 0 5 #[39, 45, 52, 59, 66, 73], 39) := by decide +kernel
theorem dX11_money_52 : decode cX11_money 52 = .ok (.aload_n 0, 1) := by decide +kernel
theorem dX11_money_53 : decode cX11_money 53 = .ok (.iload_n 1, 1) := by decide +kernel
theorem dX11_money_54 : decode cX11_money 54 = .ok (.invokevirtual 222, 3) := by decide +kernel
theorem dX11_money_57 : decode cX11_money 57 = .ok (.lreturn, 1) := by decide +kernel
theorem dX11_money_58 : decode cX11_money 58 = .ok (.aload_n 0, 1) := by decide +kernel
theorem dX11_money_59 : decode cX11_money 59 = .ok (.getfield 75, 3) := by decide +kernel
theorem dX11_money_62 : decode cX11_money 62 = .ok (.iload_n 1, 1) := by decide +kernel
theorem dX11_money_63 : decode cX11_money 63 = .ok (.laload, 1) := by decide +kernel
theorem dX11_money_64 : decode cX11_money 64 = .ok (.lreturn, 1) := by decide +kernel
theorem dX11_money_65 : decode cX11_money 65 = .ok (.aload_n 0, 1) := by decide +kernel
theorem dX11_money_66 : decode cX11_money 66 = .ok (.getfield 78, 3) := by decide +kernel
theorem dX11_money_69 : decode cX11_money 69 = .ok (.iload_n 1, 1) := by decide +kernel
theorem dX11_money_70 : decode cX11_money 70 = .ok (.laload, 1) := by decide +kernel
theorem dX11_money_71 : decode cX11_money 71 = .ok (.lreturn, 1) := by decide +kernel
theorem dX11_money_72 : decode cX11_money 72 = .ok (.aload_n 0, 1) := by decide +kernel
theorem dX11_money_73 : decode cX11_money 73 = .ok (.getfield 81, 3) := by decide +kernel
theorem dX11_money_76 : decode cX11_money 76 = .ok (.iload_n 1, 1) := by decide +kernel
theorem dX11_money_77 : decode cX11_money 77 = .ok (.laload, 1) := by decide +kernel
theorem dX11_money_78 : decode cX11_money 78 = .ok (.lreturn, 1) := by decide +kernel
theorem dX11_money_79 : decode cX11_money 79 = .ok (.aload_n 0, 1) := by decide +kernel
theorem dX11_money_80 : decode cX11_money 80 = .ok (.getfield 69, 3) := by decide +kernel
theorem dX11_money_83 : decode cX11_money 83 = .ok (.iload_n 1, 1) := by decide +kernel
theorem dX11_money_84 : decode cX11_money 84 = .ok (.laload, 1) := by decide +kernel
theorem dX11_money_85 : decode cX11_money 85 = .ok (.lreturn, 1) := by decide +kernel
theorem dX11_money_86 : decode cX11_money 86 = .ok (.aload_n 0, 1) := by decide +kernel
theorem dX11_money_87 : decode cX11_money 87 = .ok (.getfield 72, 3) := by decide +kernel
theorem dX11_money_90 : decode cX11_money 90 = .ok (.iload_n 1, 1) := by decide +kernel
theorem dX11_money_91 : decode cX11_money 91 = .ok (.laload, 1) := by decide +kernel
theorem dX11_money_92 : decode cX11_money 92 = .ok (.lreturn, 1) := by decide +kernel
theorem dX11_money_93 : decode cX11_money 93 = .ok (.invokestatic 105, 3) := by decide +kernel
theorem dX11_money_96 : decode cX11_money 96 = .ok (.lreturn, 1) := by decide +kernel
set_option maxRecDepth 20000 in
theorem ggX11_debt_X11_noGang : GoodIn wsX11_debt wsX11_noGang := goodIn_r _ [6, 7, 8, 9, 5, 10, 15, 16, 17, 18, 19, 20, 21, 22, 23, 24, 25, 26, 27, 28, 29, 30, 31, 32, 33, 34, 35, 36, 37, 38, 39, 40, 41, 42, 43, 44, 45, 46, 47, 48, 49, 50, 51, 52, 53] (by decide +kernel) (by decide +kernel)
set_option maxRecDepth 20000 in
theorem gX11_debt_X11_noGang : GoodIn wsX11_debt (wsV RX11 205 RX11 yX11_noGang wsX11_noGang) := goodIn_app (goodIn_r _ [2, 3, 4, 5] (by decide +kernel) (by decide +kernel)) ggX11_debt_X11_noGang
set_option maxRecDepth 20000 in
theorem ggX11_debt_X11_lost : GoodIn wsX11_debt wsX11_lost := goodIn_r _ [13, 14] (by decide +kernel) (by decide +kernel)
set_option maxRecDepth 20000 in
theorem gX11_debt_X11_lost : GoodIn wsX11_debt (va_wsS RX11 105 yX11_lost wsX11_lost) := goodIn_app (goodIn_r _ [11, 12, 5] (by decide +kernel) (by decide +kernel)) ggX11_debt_X11_lost
theorem dX11_debt_0 : decode cX11_debt 0 = .ok (.aload_n 0, 1) := by decide +kernel
theorem dX11_debt_1 : decode cX11_debt 1 = .ok (.iload_n 1, 1) := by decide +kernel
theorem dX11_debt_2 : decode cX11_debt 2 = .ok (.invokevirtual 205, 3) := by decide +kernel
theorem dX11_debt_5 : decode cX11_debt 5 = .ok (.ifCond .eq 9, 3) := by decide +kernel
theorem dX11_debt_8 : decode cX11_debt 8 = .ok (.invokestatic 105, 3) := by decide +kernel
theorem dX11_debt_11 : decode cX11_debt 11 = .ok (.goto 9, 3) := by decide +kernel
theorem dX11_debt_14 : decode cX11_debt 14 = .ok (.aload_n 0, 1) := by decide +kernel
theorem dX11_debt_15 : decode cX11_debt 15 = .ok (.getfield 52, 3) := by decide +kernel
theorem dX11_debt_18 : decode cX11_debt 18 = .ok (.iload_n 1, 1) := by decide +kernel
theorem dX11_debt_19 : decode cX11_debt 19 = .ok (.laload, 1) := by decide +kernel
theorem dX11_debt_20 : decode cX11_debt 20 = .ok (.lreturn, 1) := by decide +kernel
set_option maxRecDepth 20000 in
theorem ggX11_isSuspect_X11_isOn : GoodIn wsX11_isSuspect wsX11_isOn := goodIn_r _ [9, 10, 11, 12, 13, 14, 15, 8, 16, 17, 18, 19, 20, 21, 22, 23, 24, 25, 26, 27, 28, 29, 30, 31, 32, 33, 34, 35, 36, 37, 38, 39, 40, 41, 42, 43, 44, 45, 46, 47, 48, 49, 50, 51, 52, 53, 54, 55] (by decide +kernel) (by decide +kernel)
set_option maxRecDepth 20000 in
theorem gX11_isSuspect_X11_isOn : GoodIn wsX11_isSuspect (wsV RX11 175 RX11 yX11_isOn wsX11_isOn) := goodIn_app (goodIn_r _ [5, 6, 7, 8] (by decide +kernel) (by decide +kernel)) ggX11_isSuspect_X11_isOn
theorem dX11_isSuspect_0 : decode cX11_isSuspect 0 = .ok (.aload_n 0, 1) := by decide +kernel
theorem dX11_isSuspect_1 : decode cX11_isSuspect 1 = .ok (.getfield 59, 3) := by decide +kernel
theorem dX11_isSuspect_4 : decode cX11_isSuspect 4 = .ok (.aload_n 0, 1) := by decide +kernel
theorem dX11_isSuspect_5 : decode cX11_isSuspect 5 = .ok (.getfield 84, 3) := by decide +kernel
theorem dX11_isSuspect_8 : decode cX11_isSuspect 8 = .ok (.iload_n 1, 1) := by decide +kernel
theorem dX11_isSuspect_9 : decode cX11_isSuspect 9 = .ok (.iaload, 1) := by decide +kernel
theorem dX11_isSuspect_10 : decode cX11_isSuspect 10 = .ok (.iaload, 1) := by decide +kernel
theorem dX11_isSuspect_11 : decode cX11_isSuspect 11 = .ok (.istore_n 2, 1) := by decide +kernel
theorem dX11_isSuspect_12 : decode cX11_isSuspect 12 = .ok (.iconst 0, 1) := by decide +kernel
theorem dX11_isSuspect_13 : decode cX11_isSuspect 13 = .ok (.istore_n 3, 1) := by decide +kernel
theorem dX11_isSuspect_14 : decode cX11_isSuspect 14 = .ok (.iconst 0, 1) := by decide +kernel
theorem dX11_isSuspect_15 : decode cX11_isSuspect 15 = .ok (.istore 4, 2) := by decide +kernel
theorem dX11_isSuspect_17 : decode cX11_isSuspect 17 = .ok (.iload 4, 2) := by decide +kernel
theorem dX11_isSuspect_19 : decode cX11_isSuspect 19 = .ok (.bipush 48, 2) := by decide +kernel
theorem dX11_isSuspect_21 : decode cX11_isSuspect 21 = .ok (.if_icmp .ge 42, 3) := by decide +kernel
theorem dX11_isSuspect_24 : decode cX11_isSuspect 24 = .ok (.aload_n 0, 1) := by decide +kernel
theorem dX11_isSuspect_25 : decode cX11_isSuspect 25 = .ok (.iload_n 2, 1) := by decide +kernel
theorem dX11_isSuspect_26 : decode cX11_isSuspect 26 = .ok (.iload 4, 2) := by decide +kernel
theorem dX11_isSuspect_28 : decode cX11_isSuspect 28 = .ok (.invokevirtual 175, 3) := by decide +kernel
theorem dX11_isSuspect_31 : decode cX11_isSuspect 31 = .ok (.ifCond .eq 24, 3) := by decide +kernel
theorem dX11_isSuspect_34 : decode cX11_isSuspect 34 = .ok (.aload_n 0, 1) := by decide +kernel
theorem dX11_isSuspect_35 : decode cX11_isSuspect 35 = .ok (.getfield 13, 3) := by decide +kernel
theorem dX11_isSuspect_38 : decode cX11_isSuspect 38 = .ok (.iload 4, 2) := by decide +kernel
theorem dX11_isSuspect_40 : decode cX11_isSuspect 40 = .ok (.iaload, 1) := by decide +kernel
theorem dX11_isSuspect_41 : decode cX11_isSuspect 41 = .ok (.iload_n 3, 1) := by decide +kernel
theorem dX11_isSuspect_42 : decode cX11_isSuspect 42 = .ok (.if_icmp .le 13, 3) := by decide +kernel
theorem dX11_isSuspect_45 : decode cX11_isSuspect 45 = .ok (.aload_n 0, 1) := by decide +kernel
theorem dX11_isSuspect_46 : decode cX11_isSuspect 46 = .ok (.getfield 13, 3) := by decide +kernel
theorem dX11_isSuspect_49 : decode cX11_isSuspect 49 = .ok (.iload 4, 2) := by decide +kernel
theorem dX11_isSuspect_51 : decode cX11_isSuspect 51 = .ok (.iaload, 1) := by decide +kernel
theorem dX11_isSuspect_52 : decode cX11_isSuspect 52 = .ok (.goto 4, 3) := by decide +kernel
theorem dX11_isSuspect_55 : decode cX11_isSuspect 55 = .ok (.iload_n 3, 1) := by decide +kernel
theorem dX11_isSuspect_56 : decode cX11_isSuspect 56 = .ok (.istore_n 3, 1) := by decide +kernel
theorem dX11_isSuspect_57 : decode cX11_isSuspect 57 = .ok (.iinc 4 1, 3) := by decide +kernel
theorem dX11_isSuspect_60 : decode cX11_isSuspect 60 = .ok (.goto (-43), 3) := by decide +kernel
theorem dX11_isSuspect_63 : decode cX11_isSuspect 63 = .ok (.aload_n 0, 1) := by decide +kernel
theorem dX11_isSuspect_64 : decode cX11_isSuspect 64 = .ok (.getfield 90, 3) := by decide +kernel
theorem dX11_isSuspect_67 : decode cX11_isSuspect 67 = .ok (.iload_n 1, 1) := by decide +kernel
theorem dX11_isSuspect_68 : decode cX11_isSuspect 68 = .ok (.iaload, 1) := by decide +kernel
theorem dX11_isSuspect_69 : decode cX11_isSuspect 69 = .ok (.iload_n 3, 1) := by decide +kernel
theorem dX11_isSuspect_70 : decode cX11_isSuspect 70 = .ok (.if_icmp .le 7, 3) := by decide +kernel
theorem dX11_isSuspect_73 : decode cX11_isSuspect 73 = .ok (.iconst 1, 1) := by decide +kernel
theorem dX11_isSuspect_74 : decode cX11_isSuspect 74 = .ok (.goto 4, 3) := by decide +kernel
theorem dX11_isSuspect_77 : decode cX11_isSuspect 77 = .ok (.iconst 0, 1) := by decide +kernel
theorem dX11_isSuspect_78 : decode cX11_isSuspect 78 = .ok (.ireturn, 1) := by decide +kernel
set_option maxRecDepth 20000 in
theorem ggX11_suspects_X11_isSuspect : GoodIn wsX11_suspects wsX11_isSuspect := goodIn_r _ [6, 7, 8, 9, 10, 11, 12, 13, 5, 14, 15, 16, 17, 18, 19, 20, 21, 22, 23, 24, 25, 26, 27, 28, 29, 30, 31, 32, 33, 34, 35, 36, 37, 38, 39, 40, 41, 42, 43, 44, 45, 46, 47, 48, 49, 50, 51, 52, 53, 54, 55, 56, 57, 58, 59, 60] (by decide +kernel) (by decide +kernel)
set_option maxRecDepth 20000 in
theorem gX11_suspects_X11_isSuspect : GoodIn wsX11_suspects (wsV RX11 228 RX11 yX11_isSuspect wsX11_isSuspect) := goodIn_app (goodIn_r _ [2, 3, 4, 5] (by decide +kernel) (by decide +kernel)) ggX11_suspects_X11_isSuspect
theorem dX11_suspects_0 : decode cX11_suspects 0 = .ok (.iconst 0, 1) := by decide +kernel
theorem dX11_suspects_1 : decode cX11_suspects 1 = .ok (.istore_n 1, 1) := by decide +kernel
theorem dX11_suspects_2 : decode cX11_suspects 2 = .ok (.iconst 0, 1) := by decide +kernel
theorem dX11_suspects_3 : decode cX11_suspects 3 = .ok (.istore_n 2, 1) := by decide +kernel
theorem dX11_suspects_4 : decode cX11_suspects 4 = .ok (.iload_n 2, 1) := by decide +kernel
theorem dX11_suspects_5 : decode cX11_suspects 5 = .ok (.aload_n 0, 1) := by decide +kernel
theorem dX11_suspects_6 : decode cX11_suspects 6 = .ok (.getfield 217, 3) := by decide +kernel
theorem dX11_suspects_9 : decode cX11_suspects 9 = .ok (.if_icmp .ge 25, 3) := by decide +kernel
theorem dX11_suspects_12 : decode cX11_suspects 12 = .ok (.iload_n 1, 1) := by decide +kernel
theorem dX11_suspects_13 : decode cX11_suspects 13 = .ok (.aload_n 0, 1) := by decide +kernel
theorem dX11_suspects_14 : decode cX11_suspects 14 = .ok (.iload_n 2, 1) := by decide +kernel
theorem dX11_suspects_15 : decode cX11_suspects 15 = .ok (.invokevirtual 228, 3) := by decide +kernel
theorem dX11_suspects_18 : decode cX11_suspects 18 = .ok (.ifCond .eq 7, 3) := by decide +kernel
theorem dX11_suspects_21 : decode cX11_suspects 21 = .ok (.iconst 1, 1) := by decide +kernel
theorem dX11_suspects_22 : decode cX11_suspects 22 = .ok (.goto 4, 3) := by decide +kernel
theorem dX11_suspects_25 : decode cX11_suspects 25 = .ok (.iconst 0, 1) := by decide +kernel
theorem dX11_suspects_26 : decode cX11_suspects 26 = .ok (.iadd, 1) := by decide +kernel
theorem dX11_suspects_27 : decode cX11_suspects 27 = .ok (.istore_n 1, 1) := by decide +kernel
theorem dX11_suspects_28 : decode cX11_suspects 28 = .ok (.iinc 2 1, 3) := by decide +kernel
theorem dX11_suspects_31 : decode cX11_suspects 31 = .ok (.goto (-27), 3) := by decide +kernel
theorem dX11_suspects_34 : decode cX11_suspects 34 = .ok (.iload_n 1, 1) := by decide +kernel
theorem dX11_suspects_35 : decode cX11_suspects 35 = .ok (.ireturn, 1) := by decide +kernel
set_option maxRecDepth 20000 in
theorem ggX11_suspect_X11_isSuspect : GoodIn wsX11_suspect wsX11_isSuspect := goodIn_r _ [6, 7, 8, 9, 10, 11, 12, 13, 5, 14, 15, 16, 17, 18, 19, 20, 21, 22, 23, 24, 25, 26, 27, 28, 29, 30, 31, 32, 33, 34, 35, 36, 37, 38, 39, 40, 41, 42, 43, 44, 45, 46, 47, 48, 49, 50, 51, 52, 53, 54, 55, 56, 57, 58, 59, 60] (by decide +kernel) (by decide +kernel)
set_option maxRecDepth 20000 in
theorem gX11_suspect_X11_isSuspect : GoodIn wsX11_suspect (wsV RX11 228 RX11 yX11_isSuspect wsX11_isSuspect) := goodIn_app (goodIn_r _ [2, 3, 4, 5] (by decide +kernel) (by decide +kernel)) ggX11_suspect_X11_isSuspect
theorem dX11_suspect_0 : decode cX11_suspect 0 = .ok (.iconst 0, 1) := by decide +kernel
theorem dX11_suspect_1 : decode cX11_suspect 1 = .ok (.istore_n 2, 1) := by decide +kernel
theorem dX11_suspect_2 : decode cX11_suspect 2 = .ok (.iconst 0, 1) := by decide +kernel
theorem dX11_suspect_3 : decode cX11_suspect 3 = .ok (.istore_n 3, 1) := by decide +kernel
theorem dX11_suspect_4 : decode cX11_suspect 4 = .ok (.iload_n 3, 1) := by decide +kernel
theorem dX11_suspect_5 : decode cX11_suspect 5 = .ok (.aload_n 0, 1) := by decide +kernel
theorem dX11_suspect_6 : decode cX11_suspect 6 = .ok (.getfield 217, 3) := by decide +kernel
theorem dX11_suspect_9 : decode cX11_suspect 9 = .ok (.if_icmp .ge 27, 3) := by decide +kernel
theorem dX11_suspect_12 : decode cX11_suspect 12 = .ok (.aload_n 0, 1) := by decide +kernel
theorem dX11_suspect_13 : decode cX11_suspect 13 = .ok (.iload_n 3, 1) := by decide +kernel
theorem dX11_suspect_14 : decode cX11_suspect 14 = .ok (.invokevirtual 228, 3) := by decide +kernel
theorem dX11_suspect_17 : decode cX11_suspect 17 = .ok (.ifCond .eq 13, 3) := by decide +kernel
theorem dX11_suspect_20 : decode cX11_suspect 20 = .ok (.iload_n 2, 1) := by decide +kernel
theorem dX11_suspect_21 : decode cX11_suspect 21 = .ok (.iload_n 1, 1) := by decide +kernel
theorem dX11_suspect_22 : decode cX11_suspect 22 = .ok (.if_icmp .ne 5, 3) := by decide +kernel
theorem dX11_suspect_25 : decode cX11_suspect 25 = .ok (.iload_n 3, 1) := by decide +kernel
theorem dX11_suspect_26 : decode cX11_suspect 26 = .ok (.ireturn, 1) := by decide +kernel
theorem dX11_suspect_27 : decode cX11_suspect 27 = .ok (.iinc 2 1, 3) := by decide +kernel
theorem dX11_suspect_30 : decode cX11_suspect 30 = .ok (.iinc 3 1, 3) := by decide +kernel
theorem dX11_suspect_33 : decode cX11_suspect 33 = .ok (.goto (-29), 3) := by decide +kernel
theorem dX11_suspect_36 : decode cX11_suspect 36 = .ok (.iconst (-1), 1) := by decide +kernel
theorem dX11_suspect_37 : decode cX11_suspect 37 = .ok (.ireturn, 1) := by decide +kernel
theorem dX11_common_0 : decode cX11_common 0 = .ok (.lload_n 0, 1) := by decide +kernel
theorem dX11_common_1 : decode cX11_common 1 = .ok (.lstore 4, 2) := by decide +kernel
theorem dX11_common_3 : decode cX11_common 3 = .ok (.lload_n 2, 1) := by decide +kernel
theorem dX11_common_4 : decode cX11_common 4 = .ok (.lstore 6, 2) := by decide +kernel
theorem dX11_common_6 : decode cX11_common 6 = .ok (.lload 6, 2) := by decide +kernel
theorem dX11_common_8 : decode cX11_common 8 = .ok (.lconst 0, 1) := by decide +kernel
theorem dX11_common_9 : decode cX11_common 9 = .ok (.lcmp, 1) := by decide +kernel
theorem dX11_common_10 : decode cX11_common 10 = .ok (.ifCond .eq 21, 3) := by decide +kernel
theorem dX11_common_13 : decode cX11_common 13 = .ok (.lload 4, 2) := by decide +kernel
theorem dX11_common_15 : decode cX11_common 15 = .ok (.lload 6, 2) := by decide +kernel
theorem dX11_common_17 : decode cX11_common 17 = .ok (.lrem, 1) := by decide +kernel
theorem dX11_common_18 : decode cX11_common 18 = .ok (.lstore 8, 2) := by decide +kernel
theorem dX11_common_20 : decode cX11_common 20 = .ok (.lload 6, 2) := by decide +kernel
theorem dX11_common_22 : decode cX11_common 22 = .ok (.lstore 4, 2) := by decide +kernel
theorem dX11_common_24 : decode cX11_common 24 = .ok (.lload 8, 2) := by decide +kernel
theorem dX11_common_26 : decode cX11_common 26 = .ok (.lstore 6, 2) := by decide +kernel
theorem dX11_common_28 : decode cX11_common 28 = .ok (.goto (-22), 3) := by decide +kernel
theorem dX11_common_31 : decode cX11_common 31 = .ok (.lload 4, 2) := by decide +kernel
theorem dX11_common_33 : decode cX11_common 33 = .ok (.lreturn, 1) := by decide +kernel
set_option maxRecDepth 20000 in
theorem ggX11_skill_X11_noGang : GoodIn wsX11_skill wsX11_noGang := goodIn_r _ [11, 12, 13, 14, 10, 15, 31, 32, 33, 34, 35, 36, 37, 38, 39, 40, 41, 42, 43, 44, 45, 46, 47, 48, 49, 50, 51, 52, 53, 54, 55, 56, 57, 58, 59, 60, 61, 62, 63, 64, 65, 66, 67, 68, 69] (by decide +kernel) (by decide +kernel)
set_option maxRecDepth 20000 in
theorem gX11_skill_X11_noGang : GoodIn wsX11_skill (wsV RX11 205 RX11 yX11_noGang wsX11_noGang) := goodIn_app (goodIn_r _ [7, 8, 9, 10] (by decide +kernel) (by decide +kernel)) ggX11_skill_X11_noGang
set_option maxRecDepth 20000 in
theorem ggX11_skill_X11_in : GoodIn wsX11_skill wsX11_in := goodIn_r _ [15] (by decide +kernel) (by decide +kernel)
set_option maxRecDepth 20000 in
theorem gX11_skill_X11_in : GoodIn wsX11_skill (va_wsS RX11 111 yX11_in wsX11_in) := goodIn_app (goodIn_r _ [13, 14, 10] (by decide +kernel) (by decide +kernel)) ggX11_skill_X11_in
set_option maxRecDepth 20000 in
theorem ggX11_skill_X11_lost : GoodIn wsX11_skill wsX11_lost := goodIn_r _ [18, 19] (by decide +kernel) (by decide +kernel)
set_option maxRecDepth 20000 in
theorem gX11_skill_X11_lost : GoodIn wsX11_skill (va_wsS RX11 105 yX11_lost wsX11_lost) := goodIn_app (goodIn_r _ [16, 17, 10] (by decide +kernel) (by decide +kernel)) ggX11_skill_X11_lost
set_option maxRecDepth 20000 in
theorem ggX11_skill_X11_worthOf : GoodIn wsX11_skill wsX11_worthOf := goodIn_r _ [23, 24, 25, 26, 27, 31, 32, 33, 34, 35, 36, 37, 38, 39, 40, 41, 42, 43, 44, 45, 46, 47, 48, 49, 50, 51, 52, 53, 54, 55, 56, 57, 58, 59, 60, 61, 62, 63, 64, 65, 66, 67, 68, 69] (by decide +kernel) (by decide +kernel)
set_option maxRecDepth 20000 in
theorem gX11_skill_X11_worthOf : GoodIn wsX11_skill (wsV RX11 222 RX11 yX11_worthOf wsX11_worthOf) := goodIn_app (goodIn_r _ [20, 21, 22, 10] (by decide +kernel) (by decide +kernel)) ggX11_skill_X11_worthOf
set_option maxRecDepth 20000 in
theorem ggX11_skill_X11_common : GoodIn wsX11_skill wsX11_common := goodIn_r _ [30] (by decide +kernel) (by decide +kernel)
set_option maxRecDepth 20000 in
theorem gX11_skill_X11_common : GoodIn wsX11_skill (va_wsS RX11 231 yX11_common wsX11_common) := goodIn_app (goodIn_r _ [28, 29, 10] (by decide +kernel) (by decide +kernel)) ggX11_skill_X11_common
theorem dX11_skill_0 : decode cX11_skill 0 = .ok (.aload_n 0, 1) := by decide +kernel
theorem dX11_skill_1 : decode cX11_skill 1 = .ok (.iload_n 1, 1) := by decide +kernel
theorem dX11_skill_2 : decode cX11_skill 2 = .ok (.invokevirtual 205, 3) := by decide +kernel
theorem dX11_skill_5 : decode cX11_skill 5 = .ok (.ifCond .ne 13, 3) := by decide +kernel
theorem dX11_skill_8 : decode cX11_skill 8 = .ok (.iload_n 2, 1) := by decide +kernel
theorem dX11_skill_9 : decode cX11_skill 9 = .ok (.i2l, 1) := by decide +kernel
theorem dX11_skill_10 : decode cX11_skill 10 = .ok (.lconst 0, 1) := by decide +kernel
theorem dX11_skill_11 : decode cX11_skill 11 = .ok (.lconst 1, 1) := by decide +kernel
theorem dX11_skill_12 : decode cX11_skill 12 = .ok (.invokestatic 111, 3) := by decide +kernel
theorem dX11_skill_15 : decode cX11_skill 15 = .ok (.ifCond .ne 7, 3) := by decide +kernel
theorem dX11_skill_18 : decode cX11_skill 18 = .ok (.invokestatic 105, 3) := by decide +kernel
theorem dX11_skill_21 : decode cX11_skill 21 = .ok (.lreturn, 1) := by decide +kernel
theorem dX11_skill_22 : decode cX11_skill 22 = .ok (.lconst 0, 1) := by decide +kernel
theorem dX11_skill_23 : decode cX11_skill 23 = .ok (.lstore_n 3, 1) := by decide +kernel
theorem dX11_skill_24 : decode cX11_skill 24 = .ok (.lconst 0, 1) := by decide +kernel
theorem dX11_skill_25 : decode cX11_skill 25 = .ok (.lstore 5, 2) := by decide +kernel
theorem dX11_skill_27 : decode cX11_skill 27 = .ok (.iconst 0, 1) := by decide +kernel
theorem dX11_skill_28 : decode cX11_skill 28 = .ok (.istore 7, 2) := by decide +kernel
theorem dX11_skill_30 : decode cX11_skill 30 = .ok (.iload 7, 2) := by decide +kernel
theorem dX11_skill_32 : decode cX11_skill 32 = .ok (.aload_n 0, 1) := by decide +kernel
theorem dX11_skill_33 : decode cX11_skill 33 = .ok (.getfield 188, 3) := by decide +kernel
theorem dX11_skill_36 : decode cX11_skill 36 = .ok (.if_icmp .ge 80, 3) := by decide +kernel
theorem dX11_skill_39 : decode cX11_skill 39 = .ok (.aload_n 0, 1) := by decide +kernel
theorem dX11_skill_40 : decode cX11_skill 40 = .ok (.getfield 69, 3) := by decide +kernel
theorem dX11_skill_43 : decode cX11_skill 43 = .ok (.iload 7, 2) := by decide +kernel
theorem dX11_skill_45 : decode cX11_skill 45 = .ok (.laload, 1) := by decide +kernel
theorem dX11_skill_46 : decode cX11_skill 46 = .ok (.aload_n 0, 1) := by decide +kernel
theorem dX11_skill_47 : decode cX11_skill 47 = .ok (.getfield 72, 3) := by decide +kernel
theorem dX11_skill_50 : decode cX11_skill 50 = .ok (.iload 7, 2) := by decide +kernel
theorem dX11_skill_52 : decode cX11_skill 52 = .ok (.laload, 1) := by decide +kernel
theorem dX11_skill_53 : decode cX11_skill 53 = .ok (.ladd, 1) := by decide +kernel
theorem dX11_skill_54 : decode cX11_skill 54 = .ok (.lstore 8, 2) := by decide +kernel
theorem dX11_skill_56 : decode cX11_skill 56 = .ok (.aload_n 0, 1) := by decide +kernel
theorem dX11_skill_57 : decode cX11_skill 57 = .ok (.getfield 56, 3) := by decide +kernel
theorem dX11_skill_60 : decode cX11_skill 60 = .ok (.iload 7, 2) := by decide +kernel
theorem dX11_skill_62 : decode cX11_skill 62 = .ok (.iaload, 1) := by decide +kernel
theorem dX11_skill_63 : decode cX11_skill 63 = .ok (.iload_n 1, 1) := by decide +kernel
theorem dX11_skill_64 : decode cX11_skill 64 = .ok (.if_icmp .ne 46, 3) := by decide +kernel
theorem dX11_skill_67 : decode cX11_skill 67 = .ok (.aload_n 0, 1) := by decide +kernel
theorem dX11_skill_68 : decode cX11_skill 68 = .ok (.getfield 65, 3) := by decide +kernel
theorem dX11_skill_71 : decode cX11_skill 71 = .ok (.iload 7, 2) := by decide +kernel
theorem dX11_skill_73 : decode cX11_skill 73 = .ok (.baload, 1) := by decide +kernel
theorem dX11_skill_74 : decode cX11_skill 74 = .ok (.ifCond .eq 36, 3) := by decide +kernel
theorem dX11_skill_77 : decode cX11_skill 77 = .ok (.lload 8, 2) := by decide +kernel
theorem dX11_skill_79 : decode cX11_skill 79 = .ok (.lconst 0, 1) := by decide +kernel
theorem dX11_skill_80 : decode cX11_skill 80 = .ok (.lcmp, 1) := by decide +kernel
theorem dX11_skill_81 : decode cX11_skill 81 = .ok (.ifCond .le 29, 3) := by decide +kernel
theorem dX11_skill_84 : decode cX11_skill 84 = .ok (.lload_n 3, 1) := by decide +kernel
theorem dX11_skill_85 : decode cX11_skill 85 = .ok (.lload 8, 2) := by decide +kernel
theorem dX11_skill_87 : decode cX11_skill 87 = .ok (.ldc2_w 151, 3) := by decide +kernel
theorem dX11_skill_90 : decode cX11_skill 90 = .ok (.lmul, 1) := by decide +kernel
theorem dX11_skill_91 : decode cX11_skill 91 = .ok (.aload_n 0, 1) := by decide +kernel
theorem dX11_skill_92 : decode cX11_skill 92 = .ok (.iload 7, 2) := by decide +kernel
theorem dX11_skill_94 : decode cX11_skill 94 = .ok (.invokevirtual 222, 3) := by decide +kernel
theorem dX11_skill_97 : decode cX11_skill 97 = .ok (.lmul, 1) := by decide +kernel
theorem dX11_skill_98 : decode cX11_skill 98 = .ok (.ladd, 1) := by decide +kernel
theorem dX11_skill_99 : decode cX11_skill 99 = .ok (.lstore_n 3, 1) := by decide +kernel
theorem dX11_skill_100 : decode cX11_skill 100 = .ok (.lload 5, 2) := by decide +kernel
theorem dX11_skill_102 : decode cX11_skill 102 = .ok (.lload 8, 2) := by decide +kernel
theorem dX11_skill_104 : decode cX11_skill 104 = .ok (.lload 8, 2) := by decide +kernel
theorem dX11_skill_106 : decode cX11_skill 106 = .ok (.lmul, 1) := by decide +kernel
theorem dX11_skill_107 : decode cX11_skill 107 = .ok (.ladd, 1) := by decide +kernel
theorem dX11_skill_108 : decode cX11_skill 108 = .ok (.lstore 5, 2) := by decide +kernel
theorem dX11_skill_110 : decode cX11_skill 110 = .ok (.iinc 7 1, 3) := by decide +kernel
theorem dX11_skill_113 : decode cX11_skill 113 = .ok (.goto (-83), 3) := by decide +kernel
theorem dX11_skill_116 : decode cX11_skill 116 = .ok (.lload_n 3, 1) := by decide +kernel
theorem dX11_skill_117 : decode cX11_skill 117 = .ok (.lconst 0, 1) := by decide +kernel
theorem dX11_skill_118 : decode cX11_skill 118 = .ok (.lcmp, 1) := by decide +kernel
theorem dX11_skill_119 : decode cX11_skill 119 = .ok (.ifCond .ne 6, 3) := by decide +kernel
theorem dX11_skill_122 : decode cX11_skill 122 = .ok (.iload_n 2, 1) := by decide +kernel
theorem dX11_skill_123 : decode cX11_skill 123 = .ok (.i2l, 1) := by decide +kernel
theorem dX11_skill_124 : decode cX11_skill 124 = .ok (.lreturn, 1) := by decide +kernel
theorem dX11_skill_125 : decode cX11_skill 125 = .ok (.lload_n 3, 1) := by decide +kernel
theorem dX11_skill_126 : decode cX11_skill 126 = .ok (.lload 5, 2) := by decide +kernel
theorem dX11_skill_128 : decode cX11_skill 128 = .ok (.invokestatic 231, 3) := by decide +kernel
theorem dX11_skill_131 : decode cX11_skill 131 = .ok (.lstore 7, 2) := by decide +kernel
theorem dX11_skill_133 : decode cX11_skill 133 = .ok (.iload_n 2, 1) := by decide +kernel
theorem dX11_skill_134 : decode cX11_skill 134 = .ok (.ifCond .ne 10, 3) := by decide +kernel
theorem dX11_skill_137 : decode cX11_skill 137 = .ok (.lload_n 3, 1) := by decide +kernel
theorem dX11_skill_138 : decode cX11_skill 138 = .ok (.lload 7, 2) := by decide +kernel
theorem dX11_skill_140 : decode cX11_skill 140 = .ok (.ldiv, 1) := by decide +kernel
theorem dX11_skill_141 : decode cX11_skill 141 = .ok (.goto 8, 3) := by decide +kernel
theorem dX11_skill_144 : decode cX11_skill 144 = .ok (.lload 5, 2) := by decide +kernel
theorem dX11_skill_146 : decode cX11_skill 146 = .ok (.lload 7, 2) := by decide +kernel
theorem dX11_skill_148 : decode cX11_skill 148 = .ok (.ldiv, 1) := by decide +kernel
theorem dX11_skill_149 : decode cX11_skill 149 = .ok (.lreturn, 1) := by decide +kernel
theorem dX11_traced_0 : decode cX11_traced 0 = .ok (.aload_n 0, 1) := by decide +kernel
theorem dX11_traced_1 : decode cX11_traced 1 = .ok (.bipush 31, 2) := by decide +kernel
theorem dX11_traced_3 : decode cX11_traced 3 = .ok (.aload_n 0, 1) := by decide +kernel
theorem dX11_traced_4 : decode cX11_traced 4 = .ok (.getfield 235, 3) := by decide +kernel
theorem dX11_traced_7 : decode cX11_traced 7 = .ok (.imul, 1) := by decide +kernel
theorem dX11_traced_8 : decode cX11_traced 8 = .ok (.iload_n 1, 1) := by decide +kernel
theorem dX11_traced_9 : decode cX11_traced 9 = .ok (.iadd, 1) := by decide +kernel
theorem dX11_traced_10 : decode cX11_traced 10 = .ok (.putfield 235, 3) := by decide +kernel
theorem dX11_traced_13 : decode cX11_traced 13 = .ok (.return_, 1) := by decide +kernel
theorem dX11_takesBy_0 : decode cX11_takesBy 0 = .ok (.iconst 0, 1) := by decide +kernel
theorem dX11_takesBy_1 : decode cX11_takesBy 1 = .ok (.istore_n 2, 1) := by decide +kernel
theorem dX11_takesBy_2 : decode cX11_takesBy 2 = .ok (.iconst 0, 1) := by decide +kernel
theorem dX11_takesBy_3 : decode cX11_takesBy 3 = .ok (.istore_n 3, 1) := by decide +kernel
theorem dX11_takesBy_4 : decode cX11_takesBy 4 = .ok (.iload_n 3, 1) := by decide +kernel
theorem dX11_takesBy_5 : decode cX11_takesBy 5 = .ok (.aload_n 0, 1) := by decide +kernel
theorem dX11_takesBy_6 : decode cX11_takesBy 6 = .ok (.getfield 188, 3) := by decide +kernel
theorem dX11_takesBy_9 : decode cX11_takesBy 9 = .ok (.if_icmp .ge 27, 3) := by decide +kernel
theorem dX11_takesBy_12 : decode cX11_takesBy 12 = .ok (.iload_n 2, 1) := by decide +kernel
theorem dX11_takesBy_13 : decode cX11_takesBy 13 = .ok (.aload_n 0, 1) := by decide +kernel
theorem dX11_takesBy_14 : decode cX11_takesBy 14 = .ok (.getfield 56, 3) := by decide +kernel
theorem dX11_takesBy_17 : decode cX11_takesBy 17 = .ok (.iload_n 3, 1) := by decide +kernel
theorem dX11_takesBy_18 : decode cX11_takesBy 18 = .ok (.iaload, 1) := by decide +kernel
theorem dX11_takesBy_19 : decode cX11_takesBy 19 = .ok (.iload_n 1, 1) := by decide +kernel
theorem dX11_takesBy_20 : decode cX11_takesBy 20 = .ok (.if_icmp .ne 7, 3) := by decide +kernel
theorem dX11_takesBy_23 : decode cX11_takesBy 23 = .ok (.iconst 1, 1) := by decide +kernel
theorem dX11_takesBy_24 : decode cX11_takesBy 24 = .ok (.goto 4, 3) := by decide +kernel
theorem dX11_takesBy_27 : decode cX11_takesBy 27 = .ok (.iconst 0, 1) := by decide +kernel
theorem dX11_takesBy_28 : decode cX11_takesBy 28 = .ok (.iadd, 1) := by decide +kernel
theorem dX11_takesBy_29 : decode cX11_takesBy 29 = .ok (.istore_n 2, 1) := by decide +kernel
theorem dX11_takesBy_30 : decode cX11_takesBy 30 = .ok (.iinc 3 1, 3) := by decide +kernel
theorem dX11_takesBy_33 : decode cX11_takesBy 33 = .ok (.goto (-29), 3) := by decide +kernel
theorem dX11_takesBy_36 : decode cX11_takesBy 36 = .ok (.iload_n 2, 1) := by decide +kernel
theorem dX11_takesBy_37 : decode cX11_takesBy 37 = .ok (.ireturn, 1) := by decide +kernel
set_option maxRecDepth 20000 in
theorem ggX11_tell_X11_noGang : GoodIn wsX11_tell wsX11_noGang := goodIn_r _ [6, 7, 8, 9, 5, 10, 22, 23, 24, 25, 26, 27, 28, 29, 30, 31, 32, 33, 34, 35, 36, 37, 38, 39, 40, 41, 42, 43, 44, 45, 46, 47, 48, 49, 50, 51, 52, 53, 54, 55, 56, 57, 58, 59, 60] (by decide +kernel) (by decide +kernel)
set_option maxRecDepth 20000 in
theorem gX11_tell_X11_noGang : GoodIn wsX11_tell (wsV RX11 205 RX11 yX11_noGang wsX11_noGang) := goodIn_app (goodIn_r _ [2, 3, 4, 5] (by decide +kernel) (by decide +kernel)) ggX11_tell_X11_noGang
set_option maxRecDepth 20000 in
theorem ggX11_tell_X11_traced : GoodIn wsX11_tell wsX11_traced := goodIn_r _ [14, 15, 22, 23, 24, 25, 26, 27, 28, 29, 30, 31, 32, 33, 34, 35, 36, 37, 38, 39, 40, 41, 42, 43, 44, 45, 46, 47, 48, 49, 50, 51, 52, 53, 54, 55, 56, 57, 58, 59, 60] (by decide +kernel) (by decide +kernel)
set_option maxRecDepth 20000 in
theorem gX11_tell_X11_traced : GoodIn wsX11_tell (wsV RX11 238 RX11 yX11_traced wsX11_traced) := goodIn_app (goodIn_r _ [11, 12, 13, 5] (by decide +kernel) (by decide +kernel)) ggX11_tell_X11_traced
set_option maxRecDepth 20000 in
theorem ggX11_tell_X11_takesBy : GoodIn wsX11_tell wsX11_takesBy := goodIn_r _ [19, 20, 21, 22, 23, 24, 25, 26, 27, 28, 29, 30, 31, 32, 33, 34, 35, 36, 37, 38, 39, 40, 41, 42, 43, 44, 45, 46, 47, 48, 49, 50, 51, 52, 53, 54, 55, 56, 57, 58, 59, 60] (by decide +kernel) (by decide +kernel)
set_option maxRecDepth 20000 in
theorem gX11_tell_X11_takesBy : GoodIn wsX11_tell (wsV RX11 242 RX11 yX11_takesBy wsX11_takesBy) := goodIn_app (goodIn_r _ [16, 17, 18, 5] (by decide +kernel) (by decide +kernel)) ggX11_tell_X11_takesBy
theorem dX11_tell_0 : decode cX11_tell 0 = .ok (.aload_n 0, 1) := by decide +kernel
theorem dX11_tell_1 : decode cX11_tell 1 = .ok (.iload_n 1, 1) := by decide +kernel
theorem dX11_tell_2 : decode cX11_tell 2 = .ok (.invokevirtual 205, 3) := by decide +kernel
theorem dX11_tell_5 : decode cX11_tell 5 = .ok (.ifCond .eq 5, 3) := by decide +kernel
theorem dX11_tell_8 : decode cX11_tell 8 = .ok (.iconst (-1), 1) := by decide +kernel
theorem dX11_tell_9 : decode cX11_tell 9 = .ok (.ireturn, 1) := by decide +kernel
theorem dX11_tell_10 : decode cX11_tell 10 = .ok (.aload_n 0, 1) := by decide +kernel
theorem dX11_tell_11 : decode cX11_tell 11 = .ok (.getfield 49, 3) := by decide +kernel
theorem dX11_tell_14 : decode cX11_tell 14 = .ok (.iload_n 1, 1) := by decide +kernel
theorem dX11_tell_15 : decode cX11_tell 15 = .ok (.iaload, 1) := by decide +kernel
theorem dX11_tell_16 : decode cX11_tell 16 = .ok (.ifCond .le 22, 3) := by decide +kernel
theorem dX11_tell_19 : decode cX11_tell 19 = .ok (.aload_n 0, 1) := by decide +kernel
theorem dX11_tell_20 : decode cX11_tell 20 = .ok (.aload_n 0, 1) := by decide +kernel
theorem dX11_tell_21 : decode cX11_tell 21 = .ok (.getfield 49, 3) := by decide +kernel
theorem dX11_tell_24 : decode cX11_tell 24 = .ok (.iload_n 1, 1) := by decide +kernel
theorem dX11_tell_25 : decode cX11_tell 25 = .ok (.iaload, 1) := by decide +kernel
theorem dX11_tell_26 : decode cX11_tell 26 = .ok (.iconst 1, 1) := by decide +kernel
theorem dX11_tell_27 : decode cX11_tell 27 = .ok (.if_icmp .ne 7, 3) := by decide +kernel
theorem dX11_tell_30 : decode cX11_tell 30 = .ok (.iconst 2, 1) := by decide +kernel
theorem dX11_tell_31 : decode cX11_tell 31 = .ok (.goto 4, 3) := by decide +kernel
theorem dX11_tell_34 : decode cX11_tell 34 = .ok (.iconst 3, 1) := by decide +kernel
theorem dX11_tell_35 : decode cX11_tell 35 = .ok (.invokevirtual 238, 3) := by decide +kernel
theorem dX11_tell_38 : decode cX11_tell 38 = .ok (.aload_n 0, 1) := by decide +kernel
theorem dX11_tell_39 : decode cX11_tell 39 = .ok (.iconst 1, 1) := by decide +kernel
theorem dX11_tell_40 : decode cX11_tell 40 = .ok (.invokevirtual 238, 3) := by decide +kernel
theorem dX11_tell_43 : decode cX11_tell 43 = .ok (.aload_n 0, 1) := by decide +kernel
theorem dX11_tell_44 : decode cX11_tell 44 = .ok (.getfield 49, 3) := by decide +kernel
theorem dX11_tell_47 : decode cX11_tell 47 = .ok (.iload_n 1, 1) := by decide +kernel
theorem dX11_tell_48 : decode cX11_tell 48 = .ok (.iaload, 1) := by decide +kernel
theorem dX11_tell_49 : decode cX11_tell 49 = .ok (.ifCond .ne 11, 3) := by decide +kernel
theorem dX11_tell_52 : decode cX11_tell 52 = .ok (.aload_n 0, 1) := by decide +kernel
theorem dX11_tell_53 : decode cX11_tell 53 = .ok (.iload_n 1, 1) := by decide +kernel
theorem dX11_tell_54 : decode cX11_tell 54 = .ok (.invokevirtual 242, 3) := by decide +kernel
theorem dX11_tell_57 : decode cX11_tell 57 = .ok (.goto 31, 3) := by decide +kernel
theorem dX11_tell_60 : decode cX11_tell 60 = .ok (.aload_n 0, 1) := by decide +kernel
theorem dX11_tell_61 : decode cX11_tell 61 = .ok (.getfield 49, 3) := by decide +kernel
theorem dX11_tell_64 : decode cX11_tell 64 = .ok (.iload_n 1, 1) := by decide +kernel
theorem dX11_tell_65 : decode cX11_tell 65 = .ok (.iaload, 1) := by decide +kernel
theorem dX11_tell_66 : decode cX11_tell 66 = .ok (.iconst 1, 1) := by decide +kernel
theorem dX11_tell_67 : decode cX11_tell 67 = .ok (.if_icmp .ne 14, 3) := by decide +kernel
theorem dX11_tell_70 : decode cX11_tell 70 = .ok (.bipush 10, 2) := by decide +kernel
theorem dX11_tell_72 : decode cX11_tell 72 = .ok (.aload_n 0, 1) := by decide +kernel
theorem dX11_tell_73 : decode cX11_tell 73 = .ok (.iload_n 1, 1) := by decide +kernel
theorem dX11_tell_74 : decode cX11_tell 74 = .ok (.invokevirtual 242, 3) := by decide +kernel
theorem dX11_tell_77 : decode cX11_tell 77 = .ok (.iadd, 1) := by decide +kernel
theorem dX11_tell_78 : decode cX11_tell 78 = .ok (.goto 10, 3) := by decide +kernel
theorem dX11_tell_81 : decode cX11_tell 81 = .ok (.iconst 3, 1) := by decide +kernel
theorem dX11_tell_82 : decode cX11_tell 82 = .ok (.aload_n 0, 1) := by decide +kernel
theorem dX11_tell_83 : decode cX11_tell 83 = .ok (.iload_n 1, 1) := by decide +kernel
theorem dX11_tell_84 : decode cX11_tell 84 = .ok (.invokevirtual 242, 3) := by decide +kernel
theorem dX11_tell_87 : decode cX11_tell 87 = .ok (.imul, 1) := by decide +kernel
theorem dX11_tell_88 : decode cX11_tell 88 = .ok (.ireturn, 1) := by decide +kernel
set_option maxRecDepth 20000 in
theorem ggX11_greet_X11_noGang : GoodIn wsX11_greet wsX11_noGang := goodIn_r _ [6, 7, 8, 9, 5, 10, 16, 17, 18, 19, 20, 21, 22, 23, 24, 25, 26, 27, 28, 29, 30, 31, 32, 33, 34, 35, 36, 37, 38, 39, 40, 41, 42, 43, 44, 45, 46, 47, 48, 49, 50, 51, 52, 53, 54] (by decide +kernel) (by decide +kernel)
set_option maxRecDepth 20000 in
theorem gX11_greet_X11_noGang : GoodIn wsX11_greet (wsV RX11 205 RX11 yX11_noGang wsX11_noGang) := goodIn_app (goodIn_r _ [2, 3, 4, 5] (by decide +kernel) (by decide +kernel)) ggX11_greet_X11_noGang
set_option maxRecDepth 20000 in
theorem ggX11_greet_X11_traced : GoodIn wsX11_greet wsX11_traced := goodIn_r _ [14, 15, 16, 17, 18, 19, 20, 21, 22, 23, 24, 25, 26, 27, 28, 29, 30, 31, 32, 33, 34, 35, 36, 37, 38, 39, 40, 41, 42, 43, 44, 45, 46, 47, 48, 49, 50, 51, 52, 53, 54] (by decide +kernel) (by decide +kernel)
set_option maxRecDepth 20000 in
theorem gX11_greet_X11_traced : GoodIn wsX11_greet (wsV RX11 238 RX11 yX11_traced wsX11_traced) := goodIn_app (goodIn_r _ [11, 12, 13, 5] (by decide +kernel) (by decide +kernel)) ggX11_greet_X11_traced
theorem dX11_greet_0 : decode cX11_greet 0 = .ok (.aload_n 0, 1) := by decide +kernel
theorem dX11_greet_1 : decode cX11_greet 1 = .ok (.iload_n 1, 1) := by decide +kernel
theorem dX11_greet_2 : decode cX11_greet 2 = .ok (.invokevirtual 205, 3) := by decide +kernel
theorem dX11_greet_5 : decode cX11_greet 5 = .ok (.ifCond .eq 5, 3) := by decide +kernel
theorem dX11_greet_8 : decode cX11_greet 8 = .ok (.iconst (-1), 1) := by decide +kernel
theorem dX11_greet_9 : decode cX11_greet 9 = .ok (.ireturn, 1) := by decide +kernel
theorem dX11_greet_10 : decode cX11_greet 10 = .ok (.aload_n 0, 1) := by decide +kernel
theorem dX11_greet_11 : decode cX11_greet 11 = .ok (.getfield 49, 3) := by decide +kernel
theorem dX11_greet_14 : decode cX11_greet 14 = .ok (.iload_n 1, 1) := by decide +kernel
theorem dX11_greet_15 : decode cX11_greet 15 = .ok (.iaload, 1) := by decide +kernel
theorem dX11_greet_16 : decode cX11_greet 16 = .ok (.ifCond .ne 13, 3) := by decide +kernel
theorem dX11_greet_19 : decode cX11_greet 19 = .ok (.aload_n 0, 1) := by decide +kernel
theorem dX11_greet_20 : decode cX11_greet 20 = .ok (.iconst 4, 1) := by decide +kernel
theorem dX11_greet_21 : decode cX11_greet 21 = .ok (.invokevirtual 238, 3) := by decide +kernel
theorem dX11_greet_24 : decode cX11_greet 24 = .ok (.bipush 10, 2) := by decide +kernel
theorem dX11_greet_26 : decode cX11_greet 26 = .ok (.iload_n 1, 1) := by decide +kernel
theorem dX11_greet_27 : decode cX11_greet 27 = .ok (.imul, 1) := by decide +kernel
theorem dX11_greet_28 : decode cX11_greet 28 = .ok (.ireturn, 1) := by decide +kernel
theorem dX11_greet_29 : decode cX11_greet 29 = .ok (.aload_n 0, 1) := by decide +kernel
theorem dX11_greet_30 : decode cX11_greet 30 = .ok (.getfield 49, 3) := by decide +kernel
theorem dX11_greet_33 : decode cX11_greet 33 = .ok (.iload_n 1, 1) := by decide +kernel
theorem dX11_greet_34 : decode cX11_greet 34 = .ok (.iaload, 1) := by decide +kernel
theorem dX11_greet_35 : decode cX11_greet 35 = .ok (.iconst 2, 1) := by decide +kernel
theorem dX11_greet_36 : decode cX11_greet 36 = .ok (.if_icmp .ne 9, 3) := by decide +kernel
theorem dX11_greet_39 : decode cX11_greet 39 = .ok (.aload_n 0, 1) := by decide +kernel
theorem dX11_greet_40 : decode cX11_greet 40 = .ok (.bipush 6, 2) := by decide +kernel
theorem dX11_greet_42 : decode cX11_greet 42 = .ok (.invokevirtual 238, 3) := by decide +kernel
theorem dX11_greet_45 : decode cX11_greet 45 = .ok (.aload_n 0, 1) := by decide +kernel
theorem dX11_greet_46 : decode cX11_greet 46 = .ok (.iconst 5, 1) := by decide +kernel
theorem dX11_greet_47 : decode cX11_greet 47 = .ok (.invokevirtual 238, 3) := by decide +kernel
theorem dX11_greet_50 : decode cX11_greet 50 = .ok (.aload_n 0, 1) := by decide +kernel
theorem dX11_greet_51 : decode cX11_greet 51 = .ok (.getfield 49, 3) := by decide +kernel
theorem dX11_greet_54 : decode cX11_greet 54 = .ok (.iload_n 1, 1) := by decide +kernel
theorem dX11_greet_55 : decode cX11_greet 55 = .ok (.iaload, 1) := by decide +kernel
theorem dX11_greet_56 : decode cX11_greet 56 = .ok (.iconst 2, 1) := by decide +kernel
theorem dX11_greet_57 : decode cX11_greet 57 = .ok (.if_icmp .ne 8, 3) := by decide +kernel
theorem dX11_greet_60 : decode cX11_greet 60 = .ok (.bipush 7, 2) := by decide +kernel
theorem dX11_greet_62 : decode cX11_greet 62 = .ok (.goto 5, 3) := by decide +kernel
theorem dX11_greet_65 : decode cX11_greet 65 = .ok (.bipush 6, 2) := by decide +kernel
theorem dX11_greet_67 : decode cX11_greet 67 = .ok (.ireturn, 1) := by decide +kernel
set_option maxRecDepth 20000 in
theorem ggX11_as_X11_noGang : GoodIn wsX11_as wsX11_noGang := goodIn_r _ [7, 8, 9, 10, 6, 11, 21, 22, 23, 24, 25, 26, 27, 28, 29, 30, 31, 32, 33, 34, 35, 36, 37, 38, 39, 40, 41, 42, 43, 44, 45, 46, 47, 48, 49, 50, 51, 52, 53, 54, 55, 56, 57, 58, 59] (by decide +kernel) (by decide +kernel)
set_option maxRecDepth 20000 in
theorem gX11_as_X11_noGang : GoodIn wsX11_as (wsV RX11 205 RX11 yX11_noGang wsX11_noGang) := goodIn_app (goodIn_r _ [3, 4, 5, 6] (by decide +kernel) (by decide +kernel)) ggX11_as_X11_noGang
set_option maxRecDepth 20000 in
theorem ggX11_as_X11_refused : GoodIn wsX11_as wsX11_refused := goodIn_r _ [15, 16, 21, 22, 23, 24, 25, 26, 27, 28, 29, 30, 31, 32, 33, 34, 35, 36, 37, 38, 39, 40, 41, 42, 43, 44, 45, 46, 47, 48, 49, 50, 51, 52, 53, 54, 55, 56, 57, 58, 59] (by decide +kernel) (by decide +kernel)
set_option maxRecDepth 20000 in
theorem gX11_as_X11_refused : GoodIn wsX11_as (wsV RX11 148 RX11 yX11_refused wsX11_refused) := goodIn_app (goodIn_r _ [12, 13, 14, 6] (by decide +kernel) (by decide +kernel)) ggX11_as_X11_refused
set_option maxRecDepth 20000 in
theorem ggX11_as_X11_in : GoodIn wsX11_as wsX11_in := goodIn_r _ [11] (by decide +kernel) (by decide +kernel)
set_option maxRecDepth 20000 in
theorem gX11_as_X11_in : GoodIn wsX11_as (va_wsS RX11 111 yX11_in wsX11_in) := goodIn_app (goodIn_r _ [9, 10, 6] (by decide +kernel) (by decide +kernel)) ggX11_as_X11_in
set_option maxRecDepth 20000 in
theorem ggX11_as_X11_failed : GoodIn wsX11_as wsX11_failed := goodIn_r _ [20, 16, 21, 22, 23, 24, 25, 26, 27, 28, 29, 30, 31, 32, 33, 34, 35, 36, 37, 38, 39, 40, 41, 42, 43, 44, 45, 46, 47, 48, 49, 50, 51, 52, 53, 54, 55, 56, 57, 58, 59] (by decide +kernel) (by decide +kernel)
set_option maxRecDepth 20000 in
theorem gX11_as_X11_failed : GoodIn wsX11_as (wsV RX11 153 RX11 yX11_failed wsX11_failed) := goodIn_app (goodIn_r _ [17, 18, 19, 6] (by decide +kernel) (by decide +kernel)) ggX11_as_X11_failed
theorem dX11_as_0 : decode cX11_as 0 = .ok (.aload_n 0, 1) := by decide +kernel
theorem dX11_as_1 : decode cX11_as 1 = .ok (.iload_n 1, 1) := by decide +kernel
theorem dX11_as_2 : decode cX11_as 2 = .ok (.invokevirtual 205, 3) := by decide +kernel
theorem dX11_as_5 : decode cX11_as 5 = .ok (.ifCond .eq 9, 3) := by decide +kernel
theorem dX11_as_8 : decode cX11_as 8 = .ok (.aload_n 0, 1) := by decide +kernel
theorem dX11_as_9 : decode cX11_as 9 = .ok (.iconst (-1), 1) := by decide +kernel
theorem dX11_as_10 : decode cX11_as 10 = .ok (.invokevirtual 148, 3) := by decide +kernel
theorem dX11_as_13 : decode cX11_as 13 = .ok (.ireturn, 1) := by decide +kernel
theorem dX11_as_14 : decode cX11_as 14 = .ok (.iload_n 2, 1) := by decide +kernel
theorem dX11_as_15 : decode cX11_as 15 = .ok (.i2l, 1) := by decide +kernel
theorem dX11_as_16 : decode cX11_as 16 = .ok (.lconst 0, 1) := by decide +kernel
theorem dX11_as_17 : decode cX11_as 17 = .ok (.ldc2_w 151, 3) := by decide +kernel
theorem dX11_as_20 : decode cX11_as 20 = .ok (.invokestatic 111, 3) := by decide +kernel
theorem dX11_as_23 : decode cX11_as 23 = .ok (.ifCond .ne 10, 3) := by decide +kernel
theorem dX11_as_26 : decode cX11_as 26 = .ok (.aload_n 0, 1) := by decide +kernel
theorem dX11_as_27 : decode cX11_as 27 = .ok (.bipush (-2), 2) := by decide +kernel
theorem dX11_as_29 : decode cX11_as 29 = .ok (.invokevirtual 148, 3) := by decide +kernel
theorem dX11_as_32 : decode cX11_as 32 = .ok (.ireturn, 1) := by decide +kernel
theorem dX11_as_33 : decode cX11_as 33 = .ok (.aload_n 0, 1) := by decide +kernel
theorem dX11_as_34 : decode cX11_as 34 = .ok (.getfield 49, 3) := by decide +kernel
theorem dX11_as_37 : decode cX11_as 37 = .ok (.iload_n 1, 1) := by decide +kernel
theorem dX11_as_38 : decode cX11_as 38 = .ok (.iaload, 1) := by decide +kernel
theorem dX11_as_39 : decode cX11_as 39 = .ok (.iload_n 2, 1) := by decide +kernel
theorem dX11_as_40 : decode cX11_as 40 = .ok (.if_icmp .lt 11, 3) := by decide +kernel
theorem dX11_as_43 : decode cX11_as 43 = .ok (.aload_n 0, 1) := by decide +kernel
theorem dX11_as_44 : decode cX11_as 44 = .ok (.iconst 1, 1) := by decide +kernel
theorem dX11_as_45 : decode cX11_as 45 = .ok (.invokevirtual 148, 3) := by decide +kernel
theorem dX11_as_48 : decode cX11_as 48 = .ok (.goto 8, 3) := by decide +kernel
theorem dX11_as_51 : decode cX11_as 51 = .ok (.aload_n 0, 1) := by decide +kernel
theorem dX11_as_52 : decode cX11_as 52 = .ok (.iconst 2, 1) := by decide +kernel
theorem dX11_as_53 : decode cX11_as 53 = .ok (.invokevirtual 153, 3) := by decide +kernel
theorem dX11_as_56 : decode cX11_as 56 = .ok (.ireturn, 1) := by decide +kernel
theorem dX11_trace_0 : decode cX11_trace 0 = .ok (.aload_n 0, 1) := by decide +kernel
theorem dX11_trace_1 : decode cX11_trace 1 = .ok (.getfield 235, 3) := by decide +kernel
theorem dX11_trace_4 : decode cX11_trace 4 = .ok (.ireturn, 1) := by decide +kernel
theorem dX11_fault_0 : decode cX11_fault 0 = .ok (.aload_n 0, 1) := by decide +kernel
theorem dX11_fault_1 : decode cX11_fault 1 = .ok (.getfield 102, 3) := by decide +kernel
theorem dX11_fault_4 : decode cX11_fault 4 = .ok (.ireturn, 1) := by decide +kernel
theorem dX11_told_0 : decode cX11_told 0 = .ok (.iload_n 1, 1) := by decide +kernel
theorem dX11_told_1 : decode cX11_told 1 = .ok (.tableswitch 111 0 7 #[47, 52, 57, 62, 67, 72, 89, 94], 47) := by decide +kernel
theorem dX11_told_48 : decode cX11_told 48 = .ok (.aload_n 0, 1) := by decide +kernel
theorem dX11_told_49 : decode cX11_told 49 = .ok (.getfield 170, 3) := by decide +kernel
theorem dX11_told_52 : decode cX11_told 52 = .ok (.ireturn, 1) := by decide +kernel
theorem dX11_told_53 : decode cX11_told 53 = .ok (.aload_n 0, 1) := by decide +kernel
theorem dX11_told_54 : decode cX11_told 54 = .ok (.getfield 185, 3) := by decide +kernel
theorem dX11_told_57 : decode cX11_told 57 = .ok (.ireturn, 1) := by decide +kernel
theorem dX11_told_58 : decode cX11_told 58 = .ok (.aload_n 0, 1) := by decide +kernel
theorem dX11_told_59 : decode cX11_told 59 = .ok (.getfield 188, 3) := by decide +kernel
theorem dX11_told_62 : decode cX11_told 62 = .ok (.ireturn, 1) := by decide +kernel
theorem dX11_told_63 : decode cX11_told 63 = .ok (.aload_n 0, 1) := by decide +kernel
theorem dX11_told_64 : decode cX11_told 64 = .ok (.getfield 217, 3) := by decide +kernel
theorem dX11_told_67 : decode cX11_told 67 = .ok (.ireturn, 1) := by decide +kernel
theorem dX11_told_68 : decode cX11_told 68 = .ok (.aload_n 0, 1) := by decide +kernel
theorem dX11_told_69 : decode cX11_told 69 = .ok (.getfield 93, 3) := by decide +kernel
theorem dX11_told_72 : decode cX11_told 72 = .ok (.ireturn, 1) := by decide +kernel
theorem dX11_told_73 : decode cX11_told 73 = .ok (.aload_n 0, 1) := by decide +kernel
theorem dX11_told_74 : decode cX11_told 74 = .ok (.getfield 97, 3) := by decide +kernel
theorem dX11_told_77 : decode cX11_told 77 = .ok (.ifCond .ge 8, 3) := by decide +kernel
theorem dX11_told_80 : decode cX11_told 80 = .ok (.bipush (-9), 2) := by decide +kernel
theorem dX11_told_82 : decode cX11_told 82 = .ok (.goto 7, 3) := by decide +kernel
theorem dX11_told_85 : decode cX11_told 85 = .ok (.aload_n 0, 1) := by decide +kernel
theorem dX11_told_86 : decode cX11_told 86 = .ok (.getfield 199, 3) := by decide +kernel
theorem dX11_told_89 : decode cX11_told 89 = .ok (.ireturn, 1) := by decide +kernel
theorem dX11_told_90 : decode cX11_told 90 = .ok (.aload_n 0, 1) := by decide +kernel
theorem dX11_told_91 : decode cX11_told 91 = .ok (.getfield 97, 3) := by decide +kernel
theorem dX11_told_94 : decode cX11_told 94 = .ok (.ireturn, 1) := by decide +kernel
theorem dX11_told_95 : decode cX11_told 95 = .ok (.aload_n 0, 1) := by decide +kernel
theorem dX11_told_96 : decode cX11_told 96 = .ok (.getfield 97, 3) := by decide +kernel
theorem dX11_told_99 : decode cX11_told 99 = .ok (.ifCond .ge 8, 3) := by decide +kernel
theorem dX11_told_102 : decode cX11_told 102 = .ok (.bipush (-9), 2) := by decide +kernel
theorem dX11_told_104 : decode cX11_told 104 = .ok (.goto 7, 3) := by decide +kernel
theorem dX11_told_107 : decode cX11_told 107 = .ok (.aload_n 0, 1) := by decide +kernel
theorem dX11_told_108 : decode cX11_told 108 = .ok (.getfield 196, 3) := by decide +kernel
theorem dX11_told_111 : decode cX11_told 111 = .ok (.ireturn, 1) := by decide +kernel
theorem dX11_told_112 : decode cX11_told 112 = .ok (.bipush (-2), 2) := by decide +kernel
theorem dX11_told_114 : decode cX11_told 114 = .ok (.ireturn, 1) := by decide +kernel
theorem dJ9_max_7cf53_0 : decode cJ9_max_7cf53 0 = .ok (.iload_n 0, 1) := by decide +kernel
theorem dJ9_max_7cf53_1 : decode cJ9_max_7cf53 1 = .ok (.iload_n 1, 1) := by decide +kernel
theorem dJ9_max_7cf53_2 : decode cJ9_max_7cf53 2 = .ok (.if_icmp .lt 7, 3) := by decide +kernel
theorem dJ9_max_7cf53_5 : decode cJ9_max_7cf53 5 = .ok (.iload_n 0, 1) := by decide +kernel
theorem dJ9_max_7cf53_6 : decode cJ9_max_7cf53 6 = .ok (.goto 4, 3) := by decide +kernel
theorem dJ9_max_7cf53_9 : decode cJ9_max_7cf53 9 = .ok (.iload_n 1, 1) := by decide +kernel
theorem dJ9_max_7cf53_10 : decode cJ9_max_7cf53 10 = .ok (.ireturn, 1) := by decide +kernel
theorem dJ9_max_f86c9_0 : decode cJ9_max_f86c9 0 = .ok (.lload_n 0, 1) := by decide +kernel
theorem dJ9_max_f86c9_1 : decode cJ9_max_f86c9 1 = .ok (.lload_n 2, 1) := by decide +kernel
theorem dJ9_max_f86c9_2 : decode cJ9_max_f86c9 2 = .ok (.lcmp, 1) := by decide +kernel
theorem dJ9_max_f86c9_3 : decode cJ9_max_f86c9 3 = .ok (.ifCond .lt 7, 3) := by decide +kernel
theorem dJ9_max_f86c9_6 : decode cJ9_max_f86c9 6 = .ok (.lload_n 0, 1) := by decide +kernel
theorem dJ9_max_f86c9_7 : decode cJ9_max_f86c9 7 = .ok (.goto 4, 3) := by decide +kernel
theorem dJ9_max_f86c9_10 : decode cJ9_max_f86c9 10 = .ok (.lload_n 2, 1) := by decide +kernel
theorem dJ9_max_f86c9_11 : decode cJ9_max_f86c9 11 = .ok (.lreturn, 1) := by decide +kernel
theorem dJ9_min_7cf53_0 : decode cJ9_min_7cf53 0 = .ok (.iload_n 0, 1) := by decide +kernel
theorem dJ9_min_7cf53_1 : decode cJ9_min_7cf53 1 = .ok (.iload_n 1, 1) := by decide +kernel
theorem dJ9_min_7cf53_2 : decode cJ9_min_7cf53 2 = .ok (.if_icmp .gt 7, 3) := by decide +kernel
theorem dJ9_min_7cf53_5 : decode cJ9_min_7cf53 5 = .ok (.iload_n 0, 1) := by decide +kernel
theorem dJ9_min_7cf53_6 : decode cJ9_min_7cf53 6 = .ok (.goto 4, 3) := by decide +kernel
theorem dJ9_min_7cf53_9 : decode cJ9_min_7cf53 9 = .ok (.iload_n 1, 1) := by decide +kernel
theorem dJ9_min_7cf53_10 : decode cJ9_min_7cf53 10 = .ok (.ireturn, 1) := by decide +kernel
theorem dJ7_fill_53178_0 : decode cJ7_fill_53178 0 = .ok (.iconst 0, 1) := by decide +kernel
theorem dJ7_fill_53178_1 : decode cJ7_fill_53178 1 = .ok (.istore_n 2, 1) := by decide +kernel
theorem dJ7_fill_53178_2 : decode cJ7_fill_53178 2 = .ok (.aload_n 0, 1) := by decide +kernel
theorem dJ7_fill_53178_3 : decode cJ7_fill_53178 3 = .ok (.arraylength, 1) := by decide +kernel
theorem dJ7_fill_53178_4 : decode cJ7_fill_53178 4 = .ok (.istore_n 3, 1) := by decide +kernel
theorem dJ7_fill_53178_5 : decode cJ7_fill_53178 5 = .ok (.iload_n 2, 1) := by decide +kernel
theorem dJ7_fill_53178_6 : decode cJ7_fill_53178 6 = .ok (.iload_n 3, 1) := by decide +kernel
theorem dJ7_fill_53178_7 : decode cJ7_fill_53178 7 = .ok (.if_icmp .ge 13, 3) := by decide +kernel
theorem dJ7_fill_53178_10 : decode cJ7_fill_53178 10 = .ok (.aload_n 0, 1) := by decide +kernel
theorem dJ7_fill_53178_11 : decode cJ7_fill_53178 11 = .ok (.iload_n 2, 1) := by decide +kernel
theorem dJ7_fill_53178_12 : decode cJ7_fill_53178 12 = .ok (.iload_n 1, 1) := by decide +kernel
theorem dJ7_fill_53178_13 : decode cJ7_fill_53178 13 = .ok (.iastore, 1) := by decide +kernel
theorem dJ7_fill_53178_14 : decode cJ7_fill_53178 14 = .ok (.iinc 2 1, 3) := by decide +kernel
theorem dJ7_fill_53178_17 : decode cJ7_fill_53178 17 = .ok (.goto (-12), 3) := by decide +kernel
theorem dJ7_fill_53178_20 : decode cJ7_fill_53178 20 = .ok (.return_, 1) := by decide +kernel
set_option maxRecDepth 20000 in
theorem goodIn_s {big ws : List Cond} (hs : ∀ w ∈ ws, w ∈ big) (h : ws.all goodWord = true) : GoodIn big ws := fun w hw => ⟨hs w hw, good_of_word (List.all_eq_true.mp h w hw)⟩
theorem rL_0 : ∀ w ∈ wsL_law_r1, w ∈ wsL_law := fun w h => List.mem_append_left _ (List.mem_append_left _ (List.mem_append_left _ (List.mem_append_left _ (List.mem_append_left _ (List.mem_append_left _ (List.mem_append_left _ (List.mem_append_left _ (List.mem_append_left _ (List.mem_append_left _ (List.mem_append_left _ (List.mem_append_left _ (List.mem_append_left _ (List.mem_append_left _ h)))))))))))))
theorem mL_0_0 : (.classLink RL 7 RX10 : Cond) ∈ wsL_law := rL_0 _ (List.mem_of_getElem? (i := 0) rfl)
theorem mL_0_1 : (.instantiable RX10 13 : Cond) ∈ wsL_law := rL_0 _ (List.mem_of_getElem? (i := 1) rfl)
theorem mL_0_2 : (.initialized RX10 : Cond) ∈ wsL_law := rL_0 _ (List.mem_of_getElem? (i := 2) rfl)
theorem mL_0_3 : (.classLink RL 10 RX11 : Cond) ∈ wsL_law := rL_0 _ (List.mem_of_getElem? (i := 3) rfl)
theorem mL_0_4 : (.instantiable RX11 39 : Cond) ∈ wsL_law := rL_0 _ (List.mem_of_getElem? (i := 4) rfl)
theorem mL_0_5 : (.initialized RX11 : Cond) ∈ wsL_law := rL_0 _ (List.mem_of_getElem? (i := 5) rfl)
theorem mL_0_6 : (.methodLink RL 9 yX10_init : Cond) ∈ wsL_law := rL_0 _ (List.mem_of_getElem? (i := 6) rfl)
theorem mL_0_7 : (.instanceMethod yX10_init : Cond) ∈ wsL_law := rL_0 _ (List.mem_of_getElem? (i := 7) rfl)
theorem mL_0_8 : (.code yX10_init cX10_init 1 none : Cond) ∈ wsL_law := rL_0 _ (List.mem_of_getElem? (i := 8) rfl)
theorem mL_0_9 : (.methodLink RX10 3 objectInit : Cond) ∈ wsL_law := rL_0 _ (List.mem_of_getElem? (i := 9) rfl)
theorem mL_0_10 : (.instanceMethod objectInit : Cond) ∈ wsL_law := rL_0 _ (List.mem_of_getElem? (i := 10) rfl)
theorem mL_0_11 : (.code objectInit ⟨#[0xb1]⟩ 1 none : Cond) ∈ wsL_law := rL_0 _ (List.mem_of_getElem? (i := 11) rfl)
theorem mL_0_12 : (.classLink RX10 9 RX3 : Cond) ∈ wsL_law := rL_0 _ (List.mem_of_getElem? (i := 12) rfl)
theorem mL_0_13 : (.instantiable RX3 5 : Cond) ∈ wsL_law := rL_0 _ (List.mem_of_getElem? (i := 13) rfl)
theorem mL_0_14 : (.initialized RX3 : Cond) ∈ wsL_law := rL_0 _ (List.mem_of_getElem? (i := 14) rfl)
theorem mL_0_15 : (.fieldLink RX10 12 "TributePitches" "lode" "LTributePitches$Lode;" : Cond) ∈ wsL_law := rL_0 _ (List.mem_of_getElem? (i := 15) rfl)
theorem mL_0_16 : (.classLink RX10 18 RX6 : Cond) ∈ wsL_law := rL_0 _ (List.mem_of_getElem? (i := 16) rfl)
theorem mL_0_17 : (.fieldLink RX10 20 "TributePitches" "pitches" "[LTributePitches$Pitch;" : Cond) ∈ wsL_law := rL_0 _ (List.mem_of_getElem? (i := 17) rfl)
theorem mL_0_18 : (.classLink RX10 24 RX2 : Cond) ∈ wsL_law := rL_0 _ (List.mem_of_getElem? (i := 18) rfl)
theorem mL_0_19 : (.fieldLink RX10 26 "TributePitches" "gangs" "[LTributePitches$Gang;" : Cond) ∈ wsL_law := rL_0 _ (List.mem_of_getElem? (i := 19) rfl)
theorem mL_0_20 : (.classLink RX10 30 RX8 : Cond) ∈ wsL_law := rL_0 _ (List.mem_of_getElem? (i := 20) rfl)
theorem mL_0_21 : (.fieldLink RX10 32 "TributePitches" "takes" "[LTributePitches$Take;" : Cond) ∈ wsL_law := rL_0 _ (List.mem_of_getElem? (i := 21) rfl)
theorem mL_0_22 : (.classLink RX10 36 RX5 : Cond) ∈ wsL_law := rL_0 _ (List.mem_of_getElem? (i := 22) rfl)
theorem mL_0_23 : (.fieldLink RX10 38 "TributePitches" "parcels" "[LTributePitches$Parcel;" : Cond) ∈ wsL_law := rL_0 _ (List.mem_of_getElem? (i := 23) rfl)
theorem rL_1 : ∀ w ∈ wsL_law_r2, w ∈ wsL_law := fun w h => List.mem_append_left _ (List.mem_append_left _ (List.mem_append_left _ (List.mem_append_left _ (List.mem_append_left _ (List.mem_append_left _ (List.mem_append_left _ (List.mem_append_left _ (List.mem_append_left _ (List.mem_append_left _ (List.mem_append_left _ (List.mem_append_left _ (List.mem_append_left _ (List.mem_append_right _ (List.mem_append_left _ h))))))))))))))
theorem mL_1_0 : (.classLink RX10 42 RX7 : Cond) ∈ wsL_law := rL_1 _ (List.mem_of_getElem? (i := 0) rfl)
theorem mL_1_1 : (.instantiable RX7 3 : Cond) ∈ wsL_law := rL_1 _ (List.mem_of_getElem? (i := 1) rfl)
theorem mL_1_2 : (.initialized RX7 : Cond) ∈ wsL_law := rL_1 _ (List.mem_of_getElem? (i := 2) rfl)
theorem mL_1_3 : (.fieldLink RX10 45 "TributePitches" "sheets" "[LTributePitches$Sheet;" : Cond) ∈ wsL_law := rL_1 _ (List.mem_of_getElem? (i := 3) rfl)
theorem mL_1_4 : (.classLink RX10 49 RX9 : Cond) ∈ wsL_law := rL_1 _ (List.mem_of_getElem? (i := 4) rfl)
theorem mL_1_5 : (.instantiable RX9 1 : Cond) ∈ wsL_law := rL_1 _ (List.mem_of_getElem? (i := 5) rfl)
theorem mL_1_6 : (.initialized RX9 : Cond) ∈ wsL_law := rL_1 _ (List.mem_of_getElem? (i := 6) rfl)
theorem mL_1_7 : (.fieldLink RX10 52 "TributePitches" "steps" "LTributePitches$Trace;" : Cond) ∈ wsL_law := rL_1 _ (List.mem_of_getElem? (i := 7) rfl)
theorem mL_1_8 : (.fieldLink RX10 56 "TributePitches" "latestFault" "I" : Cond) ∈ wsL_law := rL_1 _ (List.mem_of_getElem? (i := 8) rfl)
theorem mL_1_9 : (.methodLink RX10 11 yX3_init : Cond) ∈ wsL_law := rL_1 _ (List.mem_of_getElem? (i := 9) rfl)
theorem mL_1_10 : (.instanceMethod yX3_init : Cond) ∈ wsL_law := rL_1 _ (List.mem_of_getElem? (i := 10) rfl)
theorem mL_1_11 : (.code yX3_init cX3_init 1 none : Cond) ∈ wsL_law := rL_1 _ (List.mem_of_getElem? (i := 11) rfl)
theorem mL_1_12 : (.methodLink RX3 5 objectInit : Cond) ∈ wsL_law := rL_1 _ (List.mem_of_getElem? (i := 12) rfl)
theorem mL_1_13 : (.arrayClass .int : Cond) ∈ wsL_law := rL_1 _ (List.mem_of_getElem? (i := 13) rfl)
theorem mL_1_14 : (.fieldLink RX3 11 "TributePitches$Lode" "lows" "[I" : Cond) ∈ wsL_law := rL_1 _ (List.mem_of_getElem? (i := 14) rfl)
theorem mL_1_15 : (.fieldLink RX3 15 "TributePitches$Lode" "highs" "[I" : Cond) ∈ wsL_law := rL_1 _ (List.mem_of_getElem? (i := 15) rfl)
theorem mL_1_16 : (.fieldLink RX3 18 "TributePitches$Lode" "triedLows" "[I" : Cond) ∈ wsL_law := rL_1 _ (List.mem_of_getElem? (i := 16) rfl)
theorem mL_1_17 : (.fieldLink RX3 21 "TributePitches$Lode" "triedHighs" "[I" : Cond) ∈ wsL_law := rL_1 _ (List.mem_of_getElem? (i := 17) rfl)
theorem mL_1_18 : (.fieldLink RX3 24 "TributePitches$Lode" "law" "I" : Cond) ∈ wsL_law := rL_1 _ (List.mem_of_getElem? (i := 18) rfl)
theorem mL_1_19 : (.methodLink RX3 28 yJ7_fill_53178 : Cond) ∈ wsL_law := rL_1 _ (List.mem_of_getElem? (i := 19) rfl)
theorem mL_1_20 : (.static yJ7_fill_53178 : Cond) ∈ wsL_law := rL_1 _ (List.mem_of_getElem? (i := 20) rfl)
theorem mL_1_21 : (.initialized RJ7 : Cond) ∈ wsL_law := rL_1 _ (List.mem_of_getElem? (i := 21) rfl)
theorem mL_1_22 : (.code yJ7_fill_53178 cJ7_fill_53178 4 none : Cond) ∈ wsL_law := rL_1 _ (List.mem_of_getElem? (i := 22) rfl)
theorem mL_1_23 : (.instanceMethod yX7_init : Cond) ∈ wsL_law := rL_1 _ (List.mem_of_getElem? (i := 23) rfl)
theorem rL_2 : ∀ w ∈ wsL_law_r3, w ∈ wsL_law := fun w h => List.mem_append_left _ (List.mem_append_left _ (List.mem_append_left _ (List.mem_append_left _ (List.mem_append_left _ (List.mem_append_left _ (List.mem_append_left _ (List.mem_append_left _ (List.mem_append_left _ (List.mem_append_left _ (List.mem_append_left _ (List.mem_append_left _ (List.mem_append_left _ (List.mem_append_right _ (List.mem_append_right _ (List.mem_append_left _ h)))))))))))))))
theorem mL_2_0 : (.code yX7_init cX7_init 1 none : Cond) ∈ wsL_law := rL_2 _ (List.mem_of_getElem? (i := 0) rfl)
theorem mL_2_1 : (.methodLink RX7 3 objectInit : Cond) ∈ wsL_law := rL_2 _ (List.mem_of_getElem? (i := 1) rfl)
theorem mL_2_2 : (.fieldLink RX7 11 "TributePitches$Sheet" "cells" "[I" : Cond) ∈ wsL_law := rL_2 _ (List.mem_of_getElem? (i := 2) rfl)
theorem mL_2_3 : (.fieldLink RX7 15 "TributePitches$Sheet" "lane" "I" : Cond) ∈ wsL_law := rL_2 _ (List.mem_of_getElem? (i := 3) rfl)
theorem mL_2_4 : (.instanceMethod yX9_init : Cond) ∈ wsL_law := rL_2 _ (List.mem_of_getElem? (i := 4) rfl)
theorem mL_2_5 : (.code yX9_init cX9_init 1 none : Cond) ∈ wsL_law := rL_2 _ (List.mem_of_getElem? (i := 5) rfl)
theorem mL_2_6 : (.methodLink RX9 1 objectInit : Cond) ∈ wsL_law := rL_2 _ (List.mem_of_getElem? (i := 6) rfl)
theorem mL_2_7 : (.methodLink RL 12 yX11_init : Cond) ∈ wsL_law := rL_2 _ (List.mem_of_getElem? (i := 7) rfl)
theorem mL_2_8 : (.instanceMethod yX11_init : Cond) ∈ wsL_law := rL_2 _ (List.mem_of_getElem? (i := 8) rfl)
theorem mL_2_9 : (.code yX11_init cX11_init 2 none : Cond) ∈ wsL_law := rL_2 _ (List.mem_of_getElem? (i := 9) rfl)
theorem mL_2_10 : (.methodLink RX11 1 objectInit : Cond) ∈ wsL_law := rL_2 _ (List.mem_of_getElem? (i := 10) rfl)
theorem mL_2_11 : (.fieldLink RX11 7 "TributePitchesModel" "low" "[I" : Cond) ∈ wsL_law := rL_2 _ (List.mem_of_getElem? (i := 11) rfl)
theorem mL_2_12 : (.fieldLink RX11 13 "TributePitchesModel" "high" "[I" : Cond) ∈ wsL_law := rL_2 _ (List.mem_of_getElem? (i := 12) rfl)
theorem mL_2_13 : (.fieldLink RX11 16 "TributePitchesModel" "newLow" "[I" : Cond) ∈ wsL_law := rL_2 _ (List.mem_of_getElem? (i := 13) rfl)
theorem mL_2_14 : (.fieldLink RX11 19 "TributePitchesModel" "newHigh" "[I" : Cond) ∈ wsL_law := rL_2 _ (List.mem_of_getElem? (i := 14) rfl)
theorem mL_2_15 : (.fieldLink RX11 22 "TributePitchesModel" "sheetSize" "[I" : Cond) ∈ wsL_law := rL_2 _ (List.mem_of_getElem? (i := 15) rfl)
theorem mL_2_16 : (.fieldLink RX11 25 "TributePitchesModel" "sheetLane" "[I" : Cond) ∈ wsL_law := rL_2 _ (List.mem_of_getElem? (i := 16) rfl)
theorem mL_2_17 : (.fieldLink RX11 28 "TributePitchesModel" "sheet" "[I" : Cond) ∈ wsL_law := rL_2 _ (List.mem_of_getElem? (i := 17) rfl)
theorem mL_2_18 : (.fieldLink RX11 31 "TributePitchesModel" "hands" "[I" : Cond) ∈ wsL_law := rL_2 _ (List.mem_of_getElem? (i := 18) rfl)
theorem mL_2_19 : (.fieldLink RX11 34 "TributePitchesModel" "fromX" "[I" : Cond) ∈ wsL_law := rL_2 _ (List.mem_of_getElem? (i := 19) rfl)
theorem mL_2_20 : (.fieldLink RX11 37 "TributePitchesModel" "fromY" "[I" : Cond) ∈ wsL_law := rL_2 _ (List.mem_of_getElem? (i := 20) rfl)
theorem mL_2_21 : (.fieldLink RX11 40 "TributePitchesModel" "toX" "[I" : Cond) ∈ wsL_law := rL_2 _ (List.mem_of_getElem? (i := 21) rfl)
theorem mL_2_22 : (.fieldLink RX11 43 "TributePitchesModel" "toY" "[I" : Cond) ∈ wsL_law := rL_2 _ (List.mem_of_getElem? (i := 22) rfl)
theorem mL_2_23 : (.fieldLink RX11 46 "TributePitchesModel" "tonsOf" "[I" : Cond) ∈ wsL_law := rL_2 _ (List.mem_of_getElem? (i := 23) rfl)
theorem rL_3 : ∀ w ∈ wsL_law_r4, w ∈ wsL_law := fun w h => List.mem_append_left _ (List.mem_append_left _ (List.mem_append_left _ (List.mem_append_left _ (List.mem_append_left _ (List.mem_append_left _ (List.mem_append_left _ (List.mem_append_left _ (List.mem_append_left _ (List.mem_append_left _ (List.mem_append_left _ (List.mem_append_left _ (List.mem_append_left _ (List.mem_append_right _ (List.mem_append_right _ (List.mem_append_right _ (List.mem_append_left _ h))))))))))))))))
theorem mL_3_0 : (.fieldLink RX11 49 "TributePitchesModel" "sort" "[I" : Cond) ∈ wsL_law := rL_3 _ (List.mem_of_getElem? (i := 0) rfl)
theorem mL_3_1 : (.arrayClass .long : Cond) ∈ wsL_law := rL_3 _ (List.mem_of_getElem? (i := 1) rfl)
theorem mL_3_2 : (.fieldLink RX11 52 "TributePitchesModel" "debt" "[J" : Cond) ∈ wsL_law := rL_3 _ (List.mem_of_getElem? (i := 2) rfl)
theorem mL_3_3 : (.fieldLink RX11 56 "TributePitchesModel" "gangOf" "[I" : Cond) ∈ wsL_law := rL_3 _ (List.mem_of_getElem? (i := 3) rfl)
theorem mL_3_4 : (.fieldLink RX11 59 "TributePitchesModel" "pitchOf" "[I" : Cond) ∈ wsL_law := rL_3 _ (List.mem_of_getElem? (i := 4) rfl)
theorem mL_3_5 : (.fieldLink RX11 62 "TributePitchesModel" "shareOf" "[I" : Cond) ∈ wsL_law := rL_3 _ (List.mem_of_getElem? (i := 5) rfl)
theorem mL_3_6 : (.arrayClass .boolean : Cond) ∈ wsL_law := rL_3 _ (List.mem_of_getElem? (i := 6) rfl)
theorem mL_3_7 : (.fieldLink RX11 65 "TributePitchesModel" "isSettled" "[Z" : Cond) ∈ wsL_law := rL_3 _ (List.mem_of_getElem? (i := 7) rfl)
theorem mL_3_8 : (.fieldLink RX11 69 "TributePitchesModel" "least" "[J" : Cond) ∈ wsL_law := rL_3 _ (List.mem_of_getElem? (i := 8) rfl)
theorem mL_3_9 : (.fieldLink RX11 72 "TributePitchesModel" "greatest" "[J" : Cond) ∈ wsL_law := rL_3 _ (List.mem_of_getElem? (i := 9) rfl)
theorem mL_3_10 : (.fieldLink RX11 75 "TributePitchesModel" "costs" "[J" : Cond) ∈ wsL_law := rL_3 _ (List.mem_of_getElem? (i := 10) rfl)
theorem mL_3_11 : (.fieldLink RX11 78 "TributePitchesModel" "ahead" "[J" : Cond) ∈ wsL_law := rL_3 _ (List.mem_of_getElem? (i := 11) rfl)
theorem mL_3_12 : (.fieldLink RX11 81 "TributePitchesModel" "pay" "[J" : Cond) ∈ wsL_law := rL_3 _ (List.mem_of_getElem? (i := 12) rfl)
theorem mL_3_13 : (.fieldLink RX11 84 "TributePitchesModel" "parcelTake" "[I" : Cond) ∈ wsL_law := rL_3 _ (List.mem_of_getElem? (i := 13) rfl)
theorem mL_3_14 : (.fieldLink RX11 87 "TributePitchesModel" "parcelTons" "[I" : Cond) ∈ wsL_law := rL_3 _ (List.mem_of_getElem? (i := 14) rfl)
theorem mL_3_15 : (.fieldLink RX11 90 "TributePitchesModel" "parcelGood" "[I" : Cond) ∈ wsL_law := rL_3 _ (List.mem_of_getElem? (i := 15) rfl)
theorem mL_3_16 : (.fieldLink RX11 93 "TributePitchesModel" "far" "I" : Cond) ∈ wsL_law := rL_3 _ (List.mem_of_getElem? (i := 16) rfl)
theorem mL_3_17 : (.fieldLink RX11 97 "TributePitchesModel" "sold" "I" : Cond) ∈ wsL_law := rL_3 _ (List.mem_of_getElem? (i := 17) rfl)
theorem mL_3_18 : (.methodLink RL 13 yX10_find : Cond) ∈ wsL_law := rL_3 _ (List.mem_of_getElem? (i := 18) rfl)
theorem mL_3_19 : (.instanceMethod yX10_find : Cond) ∈ wsL_law := rL_3 _ (List.mem_of_getElem? (i := 19) rfl)
theorem mL_3_20 : (.selects RX10 yX10_find yX10_find : Cond) ∈ wsL_law := rL_3 _ (List.mem_of_getElem? (i := 20) rfl)
theorem mL_3_21 : (.code yX10_find cX10_find 5 (some .int) : Cond) ∈ wsL_law := rL_3 _ (List.mem_of_getElem? (i := 21) rfl)
theorem mL_3_22 : (.fieldLink RX10 79 "TributePitches$Lode" "law" "I" : Cond) ∈ wsL_law := rL_3 _ (List.mem_of_getElem? (i := 22) rfl)
theorem mL_3_23 : (.methodLink RX10 60 yX3_hasSquare : Cond) ∈ wsL_law := rL_3 _ (List.mem_of_getElem? (i := 23) rfl)
theorem rL_4 : ∀ w ∈ wsL_law_r5, w ∈ wsL_law := fun w h => List.mem_append_left _ (List.mem_append_left _ (List.mem_append_left _ (List.mem_append_left _ (List.mem_append_left _ (List.mem_append_left _ (List.mem_append_left _ (List.mem_append_left _ (List.mem_append_left _ (List.mem_append_left _ (List.mem_append_left _ (List.mem_append_left _ (List.mem_append_left _ (List.mem_append_right _ (List.mem_append_right _ (List.mem_append_right _ (List.mem_append_right _ (List.mem_append_left _ h)))))))))))))))))
theorem mL_4_0 : (.static yX3_hasSquare : Cond) ∈ wsL_law := rL_4 _ (List.mem_of_getElem? (i := 0) rfl)
theorem mL_4_1 : (.code yX3_hasSquare cX3_hasSquare 2 (some .boolean) : Cond) ∈ wsL_law := rL_4 _ (List.mem_of_getElem? (i := 1) rfl)
theorem mL_4_2 : (.static yX10_isWithin : Cond) ∈ wsL_law := rL_4 _ (List.mem_of_getElem? (i := 2) rfl)
theorem mL_4_3 : (.code yX10_isWithin cX10_isWithin 3 (some .boolean) : Cond) ∈ wsL_law := rL_4 _ (List.mem_of_getElem? (i := 3) rfl)
theorem mL_4_4 : (.methodLink RX10 64 yX10_isWithin : Cond) ∈ wsL_law := rL_4 _ (List.mem_of_getElem? (i := 4) rfl)
theorem mL_4_5 : (.methodLink RX10 68 yX3_beginTrial : Cond) ∈ wsL_law := rL_4 _ (List.mem_of_getElem? (i := 5) rfl)
theorem mL_4_6 : (.instanceMethod yX3_beginTrial : Cond) ∈ wsL_law := rL_4 _ (List.mem_of_getElem? (i := 6) rfl)
theorem mL_4_7 : (.selects RX3 yX3_beginTrial yX3_beginTrial : Cond) ∈ wsL_law := rL_4 _ (List.mem_of_getElem? (i := 7) rfl)
theorem mL_4_8 : (.code yX3_beginTrial cX3_beginTrial 1 none : Cond) ∈ wsL_law := rL_4 _ (List.mem_of_getElem? (i := 8) rfl)
theorem mL_4_9 : (.methodLink RX3 38 arraycopyName : Cond) ∈ wsL_law := rL_4 _ (List.mem_of_getElem? (i := 9) rfl)
theorem mL_4_10 : (.native arraycopyName : Cond) ∈ wsL_law := rL_4 _ (List.mem_of_getElem? (i := 10) rfl)
theorem mL_4_11 : (.static arraycopyName : Cond) ∈ wsL_law := rL_4 _ (List.mem_of_getElem? (i := 11) rfl)
theorem mL_4_12 : (.initialized "java/lang/System" : Cond) ∈ wsL_law := rL_4 _ (List.mem_of_getElem? (i := 12) rfl)
theorem mL_4_13 : (.methodLink RX10 71 yX3_numberOf : Cond) ∈ wsL_law := rL_4 _ (List.mem_of_getElem? (i := 13) rfl)
theorem mL_4_14 : (.static yX3_numberOf : Cond) ∈ wsL_law := rL_4 _ (List.mem_of_getElem? (i := 14) rfl)
theorem mL_4_15 : (.code yX3_numberOf cX3_numberOf 2 (some .int) : Cond) ∈ wsL_law := rL_4 _ (List.mem_of_getElem? (i := 15) rfl)
theorem mL_4_16 : (.methodLink RX10 75 yX3_tryCommon : Cond) ∈ wsL_law := rL_4 _ (List.mem_of_getElem? (i := 16) rfl)
theorem mL_4_17 : (.instanceMethod yX3_tryCommon : Cond) ∈ wsL_law := rL_4 _ (List.mem_of_getElem? (i := 17) rfl)
theorem mL_4_18 : (.selects RX3 yX3_tryCommon yX3_tryCommon : Cond) ∈ wsL_law := rL_4 _ (List.mem_of_getElem? (i := 18) rfl)
theorem mL_4_19 : (.code yX3_tryCommon cX3_tryCommon 4 none : Cond) ∈ wsL_law := rL_4 _ (List.mem_of_getElem? (i := 19) rfl)
theorem mL_4_20 : (.methodLink RX3 44 Lib.Math.max.name : Cond) ∈ wsL_law := rL_4 _ (List.mem_of_getElem? (i := 20) rfl)
theorem mL_4_21 : (.static Lib.Math.max.name : Cond) ∈ wsL_law := rL_4 _ (List.mem_of_getElem? (i := 21) rfl)
theorem mL_4_22 : (.initialized "java/lang/Math" : Cond) ∈ wsL_law := rL_4 _ (List.mem_of_getElem? (i := 22) rfl)
theorem mL_4_23 : (.code Lib.Math.max.name Lib.Math.max.code 2 (some .int) : Cond) ∈ wsL_law := rL_4 _ (List.mem_of_getElem? (i := 23) rfl)
theorem rL_5 : ∀ w ∈ wsL_law_r6, w ∈ wsL_law := fun w h => List.mem_append_left _ (List.mem_append_left _ (List.mem_append_left _ (List.mem_append_left _ (List.mem_append_left _ (List.mem_append_left _ (List.mem_append_left _ (List.mem_append_left _ (List.mem_append_left _ (List.mem_append_left _ (List.mem_append_left _ (List.mem_append_left _ (List.mem_append_left _ (List.mem_append_right _ (List.mem_append_right _ (List.mem_append_right _ (List.mem_append_right _ (List.mem_append_right _ (List.mem_append_left _ h))))))))))))))))))
theorem mL_5_0 : (.methodLink RX3 50 Lib.Math.min.name : Cond) ∈ wsL_law := rL_5 _ (List.mem_of_getElem? (i := 0) rfl)
theorem mL_5_1 : (.static Lib.Math.min.name : Cond) ∈ wsL_law := rL_5 _ (List.mem_of_getElem? (i := 1) rfl)
theorem mL_5_2 : (.code Lib.Math.min.name Lib.Math.min.code 2 (some .int) : Cond) ∈ wsL_law := rL_5 _ (List.mem_of_getElem? (i := 2) rfl)
theorem mL_5_3 : (.methodLink RX10 82 yX3_endTrial : Cond) ∈ wsL_law := rL_5 _ (List.mem_of_getElem? (i := 3) rfl)
theorem mL_5_4 : (.instanceMethod yX3_endTrial : Cond) ∈ wsL_law := rL_5 _ (List.mem_of_getElem? (i := 4) rfl)
theorem mL_5_5 : (.selects RX3 yX3_endTrial yX3_endTrial : Cond) ∈ wsL_law := rL_5 _ (List.mem_of_getElem? (i := 5) rfl)
theorem mL_5_6 : (.code yX3_endTrial cX3_endTrial 4 (some .int) : Cond) ∈ wsL_law := rL_5 _ (List.mem_of_getElem? (i := 6) rfl)
theorem mL_5_7 : (.methodLink RX3 53 yX3_narrowTrial : Cond) ∈ wsL_law := rL_5 _ (List.mem_of_getElem? (i := 7) rfl)
theorem mL_5_8 : (.instanceMethod yX3_narrowTrial : Cond) ∈ wsL_law := rL_5 _ (List.mem_of_getElem? (i := 8) rfl)
theorem mL_5_9 : (.selects RX3 yX3_narrowTrial yX3_narrowTrial : Cond) ∈ wsL_law := rL_5 _ (List.mem_of_getElem? (i := 9) rfl)
theorem mL_5_10 : (.code yX3_narrowTrial cX3_narrowTrial 3 none : Cond) ∈ wsL_law := rL_5 _ (List.mem_of_getElem? (i := 10) rfl)
theorem mL_5_11 : (.methodLink RX3 57 yX3_tryNeighbour : Cond) ∈ wsL_law := rL_5 _ (List.mem_of_getElem? (i := 11) rfl)
theorem mL_5_12 : (.instanceMethod yX3_tryNeighbour : Cond) ∈ wsL_law := rL_5 _ (List.mem_of_getElem? (i := 12) rfl)
theorem mL_5_13 : (.selects RX3 yX3_tryNeighbour yX3_tryNeighbour : Cond) ∈ wsL_law := rL_5 _ (List.mem_of_getElem? (i := 13) rfl)
theorem mL_5_14 : (.code yX3_tryNeighbour cX3_tryNeighbour 4 none : Cond) ∈ wsL_law := rL_5 _ (List.mem_of_getElem? (i := 14) rfl)
theorem mL_5_15 : (.methodLink RX3 61 yX3_tryCommon : Cond) ∈ wsL_law := rL_5 _ (List.mem_of_getElem? (i := 15) rfl)
theorem mL_5_16 : (.methodLink RL 17 yX11_find : Cond) ∈ wsL_law := rL_5 _ (List.mem_of_getElem? (i := 16) rfl)
theorem mL_5_17 : (.instanceMethod yX11_find : Cond) ∈ wsL_law := rL_5 _ (List.mem_of_getElem? (i := 17) rfl)
theorem mL_5_18 : (.selects RX11 yX11_find yX11_find : Cond) ∈ wsL_law := rL_5 _ (List.mem_of_getElem? (i := 18) rfl)
theorem mL_5_19 : (.code yX11_find cX11_find 5 (some .int) : Cond) ∈ wsL_law := rL_5 _ (List.mem_of_getElem? (i := 19) rfl)
theorem mL_5_20 : (.constantLong RX11 133 (1000) : Cond) ∈ wsL_law := rL_5 _ (List.mem_of_getElem? (i := 20) rfl)
theorem mL_5_21 : (.methodLink RX11 121 yX11_isSquare : Cond) ∈ wsL_law := rL_5 _ (List.mem_of_getElem? (i := 21) rfl)
theorem mL_5_22 : (.static yX11_isSquare : Cond) ∈ wsL_law := rL_5 _ (List.mem_of_getElem? (i := 22) rfl)
theorem mL_5_23 : (.code yX11_isSquare cX11_isSquare 2 (some .boolean) : Cond) ∈ wsL_law := rL_5 _ (List.mem_of_getElem? (i := 23) rfl)
theorem rL_6 : ∀ w ∈ wsL_law_r7, w ∈ wsL_law := fun w h => List.mem_append_left _ (List.mem_append_left _ (List.mem_append_left _ (List.mem_append_left _ (List.mem_append_left _ (List.mem_append_left _ (List.mem_append_left _ (List.mem_append_left _ (List.mem_append_left _ (List.mem_append_left _ (List.mem_append_left _ (List.mem_append_left _ (List.mem_append_left _ (List.mem_append_right _ (List.mem_append_right _ (List.mem_append_right _ (List.mem_append_right _ (List.mem_append_right _ (List.mem_append_right _ (List.mem_append_left _ h)))))))))))))))))))
theorem mL_6_0 : (.constantLong RX11 109 (7) : Cond) ∈ wsL_law := rL_6 _ (List.mem_of_getElem? (i := 0) rfl)
theorem mL_6_1 : (.constantLong RX11 115 (5) : Cond) ∈ wsL_law := rL_6 _ (List.mem_of_getElem? (i := 1) rfl)
theorem mL_6_2 : (.methodLink RX11 111 yX11_in : Cond) ∈ wsL_law := rL_6 _ (List.mem_of_getElem? (i := 2) rfl)
theorem mL_6_3 : (.static yX11_in : Cond) ∈ wsL_law := rL_6 _ (List.mem_of_getElem? (i := 3) rfl)
theorem mL_6_4 : (.code yX11_in cX11_in 6 (some .boolean) : Cond) ∈ wsL_law := rL_6 _ (List.mem_of_getElem? (i := 4) rfl)
theorem mL_6_5 : (.methodLink RX11 135 yX11_layNew : Cond) ∈ wsL_law := rL_6 _ (List.mem_of_getElem? (i := 5) rfl)
theorem mL_6_6 : (.instanceMethod yX11_layNew : Cond) ∈ wsL_law := rL_6 _ (List.mem_of_getElem? (i := 6) rfl)
theorem mL_6_7 : (.selects RX11 yX11_layNew yX11_layNew : Cond) ∈ wsL_law := rL_6 _ (List.mem_of_getElem? (i := 7) rfl)
theorem mL_6_8 : (.code yX11_layNew cX11_layNew 2 none : Cond) ∈ wsL_law := rL_6 _ (List.mem_of_getElem? (i := 8) rfl)
theorem mL_6_9 : (.methodLink RX11 125 yX11_meet : Cond) ∈ wsL_law := rL_6 _ (List.mem_of_getElem? (i := 9) rfl)
theorem mL_6_10 : (.instanceMethod yX11_meet : Cond) ∈ wsL_law := rL_6 _ (List.mem_of_getElem? (i := 10) rfl)
theorem mL_6_11 : (.selects RX11 yX11_meet yX11_meet : Cond) ∈ wsL_law := rL_6 _ (List.mem_of_getElem? (i := 11) rfl)
theorem mL_6_12 : (.code yX11_meet cX11_meet 4 none : Cond) ∈ wsL_law := rL_6 _ (List.mem_of_getElem? (i := 12) rfl)
theorem mL_6_13 : (.fieldLink RX11 117 "TributePitchesModel" "isChanged" "Z" : Cond) ∈ wsL_law := rL_6 _ (List.mem_of_getElem? (i := 13) rfl)
theorem mL_6_14 : (.methodLink RX11 138 yX11_narrowed : Cond) ∈ wsL_law := rL_6 _ (List.mem_of_getElem? (i := 14) rfl)
theorem mL_6_15 : (.instanceMethod yX11_narrowed : Cond) ∈ wsL_law := rL_6 _ (List.mem_of_getElem? (i := 15) rfl)
theorem mL_6_16 : (.selects RX11 yX11_narrowed yX11_narrowed : Cond) ∈ wsL_law := rL_6 _ (List.mem_of_getElem? (i := 16) rfl)
theorem mL_6_17 : (.code yX11_narrowed cX11_narrowed 4 (some .int) : Cond) ∈ wsL_law := rL_6 _ (List.mem_of_getElem? (i := 17) rfl)
theorem mL_6_18 : (.methodLink RX11 129 yX11_meetNeighbour : Cond) ∈ wsL_law := rL_6 _ (List.mem_of_getElem? (i := 18) rfl)
theorem mL_6_19 : (.instanceMethod yX11_meetNeighbour : Cond) ∈ wsL_law := rL_6 _ (List.mem_of_getElem? (i := 19) rfl)
theorem mL_6_20 : (.selects RX11 yX11_meetNeighbour yX11_meetNeighbour : Cond) ∈ wsL_law := rL_6 _ (List.mem_of_getElem? (i := 20) rfl)
theorem mL_6_21 : (.code yX11_meetNeighbour cX11_meetNeighbour 5 none : Cond) ∈ wsL_law := rL_6 _ (List.mem_of_getElem? (i := 21) rfl)
theorem mL_6_22 : (.methodLink RL 18 yX10_rise : Cond) ∈ wsL_law := rL_6 _ (List.mem_of_getElem? (i := 22) rfl)
theorem mL_6_23 : (.instanceMethod yX10_rise : Cond) ∈ wsL_law := rL_6 _ (List.mem_of_getElem? (i := 23) rfl)
theorem rL_7 : ∀ w ∈ wsL_law_r8, w ∈ wsL_law := fun w h => List.mem_append_left _ (List.mem_append_left _ (List.mem_append_left _ (List.mem_append_left _ (List.mem_append_left _ (List.mem_append_left _ (List.mem_append_left _ (List.mem_append_left _ (List.mem_append_left _ (List.mem_append_left _ (List.mem_append_left _ (List.mem_append_left _ (List.mem_append_left _ (List.mem_append_right _ (List.mem_append_right _ (List.mem_append_right _ (List.mem_append_right _ (List.mem_append_right _ (List.mem_append_right _ (List.mem_append_right _ (List.mem_append_left _ h))))))))))))))))))))
theorem mL_7_0 : (.selects RX10 yX10_rise yX10_rise : Cond) ∈ wsL_law := rL_7 _ (List.mem_of_getElem? (i := 0) rfl)
theorem mL_7_1 : (.code yX10_rise cX10_rise 2 (some .int) : Cond) ∈ wsL_law := rL_7 _ (List.mem_of_getElem? (i := 1) rfl)
theorem mL_7_2 : (.methodLink RL 22 yX11_rise : Cond) ∈ wsL_law := rL_7 _ (List.mem_of_getElem? (i := 2) rfl)
theorem mL_7_3 : (.instanceMethod yX11_rise : Cond) ∈ wsL_law := rL_7 _ (List.mem_of_getElem? (i := 3) rfl)
theorem mL_7_4 : (.selects RX11 yX11_rise yX11_rise : Cond) ∈ wsL_law := rL_7 _ (List.mem_of_getElem? (i := 4) rfl)
theorem mL_7_5 : (.code yX11_rise cX11_rise 2 (some .int) : Cond) ∈ wsL_law := rL_7 _ (List.mem_of_getElem? (i := 5) rfl)
theorem mL_7_6 : (.methodLink RL 23 yX10_good : Cond) ∈ wsL_law := rL_7 _ (List.mem_of_getElem? (i := 6) rfl)
theorem mL_7_7 : (.instanceMethod yX10_good : Cond) ∈ wsL_law := rL_7 _ (List.mem_of_getElem? (i := 7) rfl)
theorem mL_7_8 : (.selects RX10 yX10_good yX10_good : Cond) ∈ wsL_law := rL_7 _ (List.mem_of_getElem? (i := 8) rfl)
theorem mL_7_9 : (.code yX10_good cX10_good 5 (some .int) : Cond) ∈ wsL_law := rL_7 _ (List.mem_of_getElem? (i := 9) rfl)
theorem mL_7_10 : (.fieldLink RX10 86 "TributePitches$Lode" "lows" "[I" : Cond) ∈ wsL_law := rL_7 _ (List.mem_of_getElem? (i := 10) rfl)
theorem mL_7_11 : (.fieldLink RX10 90 "TributePitches$Lode" "highs" "[I" : Cond) ∈ wsL_law := rL_7 _ (List.mem_of_getElem? (i := 11) rfl)
theorem mL_7_12 : (.methodLink RL 27 yX11_good : Cond) ∈ wsL_law := rL_7 _ (List.mem_of_getElem? (i := 12) rfl)
theorem mL_7_13 : (.instanceMethod yX11_good : Cond) ∈ wsL_law := rL_7 _ (List.mem_of_getElem? (i := 13) rfl)
theorem mL_7_14 : (.selects RX11 yX11_good yX11_good : Cond) ∈ wsL_law := rL_7 _ (List.mem_of_getElem? (i := 14) rfl)
theorem mL_7_15 : (.code yX11_good cX11_good 4 (some .int) : Cond) ∈ wsL_law := rL_7 _ (List.mem_of_getElem? (i := 15) rfl)
theorem mL_7_16 : (.methodLink RL 28 yX10_chart : Cond) ∈ wsL_law := rL_7 _ (List.mem_of_getElem? (i := 16) rfl)
theorem mL_7_17 : (.instanceMethod yX10_chart : Cond) ∈ wsL_law := rL_7 _ (List.mem_of_getElem? (i := 17) rfl)
theorem mL_7_18 : (.selects RX10 yX10_chart yX10_chart : Cond) ∈ wsL_law := rL_7 _ (List.mem_of_getElem? (i := 18) rfl)
theorem mL_7_19 : (.code yX10_chart cX10_chart 10 (some .int) : Cond) ∈ wsL_law := rL_7 _ (List.mem_of_getElem? (i := 19) rfl)
theorem mL_7_20 : (.fieldLink RX10 111 "TributePitches$Sheet" "cells" "[I" : Cond) ∈ wsL_law := rL_7 _ (List.mem_of_getElem? (i := 20) rfl)
theorem mL_7_21 : (.methodLink RX10 93 yX10_sheetAt : Cond) ∈ wsL_law := rL_7 _ (List.mem_of_getElem? (i := 21) rfl)
theorem mL_7_22 : (.instanceMethod yX10_sheetAt : Cond) ∈ wsL_law := rL_7 _ (List.mem_of_getElem? (i := 22) rfl)
theorem mL_7_23 : (.selects RX10 yX10_sheetAt yX10_sheetAt : Cond) ∈ wsL_law := rL_7 _ (List.mem_of_getElem? (i := 23) rfl)
theorem rL_8 : ∀ w ∈ wsL_law_r9, w ∈ wsL_law := fun w h => List.mem_append_left _ (List.mem_append_left _ (List.mem_append_left _ (List.mem_append_left _ (List.mem_append_left _ (List.mem_append_left _ (List.mem_append_left _ (List.mem_append_left _ (List.mem_append_left _ (List.mem_append_left _ (List.mem_append_left _ (List.mem_append_left _ (List.mem_append_left _ (List.mem_append_right _ (List.mem_append_right _ (List.mem_append_right _ (List.mem_append_right _ (List.mem_append_right _ (List.mem_append_right _ (List.mem_append_right _ (List.mem_append_right _ (List.mem_append_left _ h)))))))))))))))))))))
theorem mL_8_0 : (.code yX10_sheetAt cX10_sheetAt 2 (some (.object "TributePitches$Sheet")) : Cond) ∈ wsL_law := rL_8 _ (List.mem_of_getElem? (i := 0) rfl)
theorem mL_8_1 : (.methodLink RX10 97 yX7_isLane : Cond) ∈ wsL_law := rL_8 _ (List.mem_of_getElem? (i := 1) rfl)
theorem mL_8_2 : (.static yX7_isLane : Cond) ∈ wsL_law := rL_8 _ (List.mem_of_getElem? (i := 2) rfl)
theorem mL_8_3 : (.code yX7_isLane cX7_isLane 1 (some .boolean) : Cond) ∈ wsL_law := rL_8 _ (List.mem_of_getElem? (i := 3) rfl)
theorem mL_8_4 : (.methodLink RX10 101 yX10_chartFault : Cond) ∈ wsL_law := rL_8 _ (List.mem_of_getElem? (i := 4) rfl)
theorem mL_8_5 : (.static yX10_chartFault : Cond) ∈ wsL_law := rL_8 _ (List.mem_of_getElem? (i := 5) rfl)
theorem mL_8_6 : (.code yX10_chartFault cX10_chartFault 6 (some .int) : Cond) ∈ wsL_law := rL_8 _ (List.mem_of_getElem? (i := 6) rfl)
theorem mL_8_7 : (.methodLink RX10 114 yX7_faultAs : Cond) ∈ wsL_law := rL_8 _ (List.mem_of_getElem? (i := 7) rfl)
theorem mL_8_8 : (.instanceMethod yX7_faultAs : Cond) ∈ wsL_law := rL_8 _ (List.mem_of_getElem? (i := 8) rfl)
theorem mL_8_9 : (.selects RX7 yX7_faultAs yX7_faultAs : Cond) ∈ wsL_law := rL_8 _ (List.mem_of_getElem? (i := 9) rfl)
theorem mL_8_10 : (.code yX7_faultAs cX7_faultAs 2 (some .int) : Cond) ∈ wsL_law := rL_8 _ (List.mem_of_getElem? (i := 10) rfl)
theorem mL_8_11 : (.methodLink RX7 32 yX7_hasNothing : Cond) ∈ wsL_law := rL_8 _ (List.mem_of_getElem? (i := 11) rfl)
theorem mL_8_12 : (.instanceMethod yX7_hasNothing : Cond) ∈ wsL_law := rL_8 _ (List.mem_of_getElem? (i := 12) rfl)
theorem mL_8_13 : (.selects RX7 yX7_hasNothing yX7_hasNothing : Cond) ∈ wsL_law := rL_8 _ (List.mem_of_getElem? (i := 13) rfl)
theorem mL_8_14 : (.code yX7_hasNothing cX7_hasNothing 1 (some .boolean) : Cond) ∈ wsL_law := rL_8 _ (List.mem_of_getElem? (i := 14) rfl)
theorem mL_8_15 : (.methodLink RX10 117 yX7_holds : Cond) ∈ wsL_law := rL_8 _ (List.mem_of_getElem? (i := 15) rfl)
theorem mL_8_16 : (.instanceMethod yX7_holds : Cond) ∈ wsL_law := rL_8 _ (List.mem_of_getElem? (i := 16) rfl)
theorem mL_8_17 : (.selects RX7 yX7_holds yX7_holds : Cond) ∈ wsL_law := rL_8 _ (List.mem_of_getElem? (i := 17) rfl)
theorem mL_8_18 : (.code yX7_holds cX7_holds 3 (some .boolean) : Cond) ∈ wsL_law := rL_8 _ (List.mem_of_getElem? (i := 18) rfl)
theorem mL_8_19 : (.fieldLink RX7 29 "TributePitches$Sheet" "length" "I" : Cond) ∈ wsL_law := rL_8 _ (List.mem_of_getElem? (i := 19) rfl)
theorem mL_8_20 : (.methodLink RX10 105 yX10_faulted : Cond) ∈ wsL_law := rL_8 _ (List.mem_of_getElem? (i := 20) rfl)
theorem mL_8_21 : (.instanceMethod yX10_faulted : Cond) ∈ wsL_law := rL_8 _ (List.mem_of_getElem? (i := 21) rfl)
theorem mL_8_22 : (.selects RX10 yX10_faulted yX10_faulted : Cond) ∈ wsL_law := rL_8 _ (List.mem_of_getElem? (i := 22) rfl)
theorem mL_8_23 : (.code yX10_faulted cX10_faulted 2 (some .int) : Cond) ∈ wsL_law := rL_8 _ (List.mem_of_getElem? (i := 23) rfl)
theorem rL_9 : ∀ w ∈ wsL_law_r10, w ∈ wsL_law := fun w h => List.mem_append_left _ (List.mem_append_left _ (List.mem_append_left _ (List.mem_append_left _ (List.mem_append_left _ (List.mem_append_left _ (List.mem_append_left _ (List.mem_append_left _ (List.mem_append_left _ (List.mem_append_left _ (List.mem_append_left _ (List.mem_append_left _ (List.mem_append_left _ (List.mem_append_right _ (List.mem_append_right _ (List.mem_append_right _ (List.mem_append_right _ (List.mem_append_right _ (List.mem_append_right _ (List.mem_append_right _ (List.mem_append_right _ (List.mem_append_right _ (List.mem_append_left _ h))))))))))))))))))))))
theorem mL_9_0 : (.methodLink RX10 108 yX7_hasAbove : Cond) ∈ wsL_law := rL_9 _ (List.mem_of_getElem? (i := 0) rfl)
theorem mL_9_1 : (.instanceMethod yX7_hasAbove : Cond) ∈ wsL_law := rL_9 _ (List.mem_of_getElem? (i := 1) rfl)
theorem mL_9_2 : (.selects RX7 yX7_hasAbove yX7_hasAbove : Cond) ∈ wsL_law := rL_9 _ (List.mem_of_getElem? (i := 2) rfl)
theorem mL_9_3 : (.code yX7_hasAbove cX7_hasAbove 5 (some .boolean) : Cond) ∈ wsL_law := rL_9 _ (List.mem_of_getElem? (i := 3) rfl)
theorem mL_9_4 : (.methodLink RL 32 yX11_chart : Cond) ∈ wsL_law := rL_9 _ (List.mem_of_getElem? (i := 4) rfl)
theorem mL_9_5 : (.instanceMethod yX11_chart : Cond) ∈ wsL_law := rL_9 _ (List.mem_of_getElem? (i := 5) rfl)
theorem mL_9_6 : (.selects RX11 yX11_chart yX11_chart : Cond) ∈ wsL_law := rL_9 _ (List.mem_of_getElem? (i := 6) rfl)
theorem mL_9_7 : (.code yX11_chart cX11_chart 8 (some .int) : Cond) ∈ wsL_law := rL_9 _ (List.mem_of_getElem? (i := 7) rfl)
theorem mL_9_8 : (.constantLong RX11 168 (47) : Cond) ∈ wsL_law := rL_9 _ (List.mem_of_getElem? (i := 8) rfl)
theorem mL_9_9 : (.constantLong RX11 151 (2) : Cond) ∈ wsL_law := rL_9 _ (List.mem_of_getElem? (i := 9) rfl)
theorem mL_9_10 : (.methodLink RX11 144 yX11_noSheet : Cond) ∈ wsL_law := rL_9 _ (List.mem_of_getElem? (i := 10) rfl)
theorem mL_9_11 : (.static yX11_noSheet : Cond) ∈ wsL_law := rL_9 _ (List.mem_of_getElem? (i := 11) rfl)
theorem mL_9_12 : (.code yX11_noSheet cX11_noSheet 1 (some .boolean) : Cond) ∈ wsL_law := rL_9 _ (List.mem_of_getElem? (i := 12) rfl)
theorem mL_9_13 : (.constantLong RX11 142 (3) : Cond) ∈ wsL_law := rL_9 _ (List.mem_of_getElem? (i := 13) rfl)
theorem mL_9_14 : (.methodLink RX11 148 yX11_refused : Cond) ∈ wsL_law := rL_9 _ (List.mem_of_getElem? (i := 14) rfl)
theorem mL_9_15 : (.instanceMethod yX11_refused : Cond) ∈ wsL_law := rL_9 _ (List.mem_of_getElem? (i := 15) rfl)
theorem mL_9_16 : (.selects RX11 yX11_refused yX11_refused : Cond) ∈ wsL_law := rL_9 _ (List.mem_of_getElem? (i := 16) rfl)
theorem mL_9_17 : (.code yX11_refused cX11_refused 2 (some .int) : Cond) ∈ wsL_law := rL_9 _ (List.mem_of_getElem? (i := 17) rfl)
theorem mL_9_18 : (.fieldLink RX11 102 "TributePitchesModel" "fault" "I" : Cond) ∈ wsL_law := rL_9 _ (List.mem_of_getElem? (i := 18) rfl)
theorem mL_9_19 : (.methodLink RX11 153 yX11_failed : Cond) ∈ wsL_law := rL_9 _ (List.mem_of_getElem? (i := 19) rfl)
theorem mL_9_20 : (.instanceMethod yX11_failed : Cond) ∈ wsL_law := rL_9 _ (List.mem_of_getElem? (i := 20) rfl)
theorem mL_9_21 : (.selects RX11 yX11_failed yX11_failed : Cond) ∈ wsL_law := rL_9 _ (List.mem_of_getElem? (i := 21) rfl)
theorem mL_9_22 : (.code yX11_failed cX11_failed 2 (some .int) : Cond) ∈ wsL_law := rL_9 _ (List.mem_of_getElem? (i := 22) rfl)
theorem mL_9_23 : (.methodLink RX11 164 yX11_isBeyond : Cond) ∈ wsL_law := rL_9 _ (List.mem_of_getElem? (i := 23) rfl)
theorem rL_10 : ∀ w ∈ wsL_law_r11, w ∈ wsL_law := fun w h => List.mem_append_left _ (List.mem_append_left _ (List.mem_append_left _ (List.mem_append_left _ (List.mem_append_left _ (List.mem_append_left _ (List.mem_append_left _ (List.mem_append_left _ (List.mem_append_left _ (List.mem_append_left _ (List.mem_append_left _ (List.mem_append_left _ (List.mem_append_left _ (List.mem_append_right _ (List.mem_append_right _ (List.mem_append_right _ (List.mem_append_right _ (List.mem_append_right _ (List.mem_append_right _ (List.mem_append_right _ (List.mem_append_right _ (List.mem_append_right _ (List.mem_append_right _ (List.mem_append_left _ h)))))))))))))))))))))))
theorem mL_10_0 : (.static yX11_isBeyond : Cond) ∈ wsL_law := rL_10 _ (List.mem_of_getElem? (i := 0) rfl)
theorem mL_10_1 : (.code yX11_isBeyond cX11_isBeyond 3 (some .boolean) : Cond) ∈ wsL_law := rL_10 _ (List.mem_of_getElem? (i := 1) rfl)
theorem mL_10_2 : (.methodLink RL 33 yX10_pitch : Cond) ∈ wsL_law := rL_10 _ (List.mem_of_getElem? (i := 2) rfl)
theorem mL_10_3 : (.instanceMethod yX10_pitch : Cond) ∈ wsL_law := rL_10 _ (List.mem_of_getElem? (i := 3) rfl)
theorem mL_10_4 : (.selects RX10 yX10_pitch yX10_pitch : Cond) ∈ wsL_law := rL_10 _ (List.mem_of_getElem? (i := 4) rfl)
theorem mL_10_5 : (.code yX10_pitch cX10_pitch 6 (some .int) : Cond) ∈ wsL_law := rL_10 _ (List.mem_of_getElem? (i := 5) rfl)
theorem mL_10_6 : (.fieldLink RX10 124 "TributePitches" "pitchCount" "I" : Cond) ∈ wsL_law := rL_10 _ (List.mem_of_getElem? (i := 6) rfl)
theorem mL_10_7 : (.instantiable RX6 8 : Cond) ∈ wsL_law := rL_10 _ (List.mem_of_getElem? (i := 7) rfl)
theorem mL_10_8 : (.initialized RX6 : Cond) ∈ wsL_law := rL_10 _ (List.mem_of_getElem? (i := 8) rfl)
theorem mL_10_9 : (.methodLink RX10 120 yX10_isAnyPitched : Cond) ∈ wsL_law := rL_10 _ (List.mem_of_getElem? (i := 9) rfl)
theorem mL_10_10 : (.instanceMethod yX10_isAnyPitched : Cond) ∈ wsL_law := rL_10 _ (List.mem_of_getElem? (i := 10) rfl)
theorem mL_10_11 : (.selects RX10 yX10_isAnyPitched yX10_isAnyPitched : Cond) ∈ wsL_law := rL_10 _ (List.mem_of_getElem? (i := 11) rfl)
theorem mL_10_12 : (.code yX10_isAnyPitched cX10_isAnyPitched 6 (some .boolean) : Cond) ∈ wsL_law := rL_10 _ (List.mem_of_getElem? (i := 12) rfl)
theorem mL_10_13 : (.methodLink RX10 130 yX6_meets : Cond) ∈ wsL_law := rL_10 _ (List.mem_of_getElem? (i := 13) rfl)
theorem mL_10_14 : (.instanceMethod yX6_meets : Cond) ∈ wsL_law := rL_10 _ (List.mem_of_getElem? (i := 14) rfl)
theorem mL_10_15 : (.selects RX6 yX6_meets yX6_meets : Cond) ∈ wsL_law := rL_10 _ (List.mem_of_getElem? (i := 15) rfl)
theorem mL_10_16 : (.code yX6_meets cX6_meets 5 (some .boolean) : Cond) ∈ wsL_law := rL_10 _ (List.mem_of_getElem? (i := 16) rfl)
theorem mL_10_17 : (.fieldLink RX6 13 "TributePitches$Pitch" "x" "I" : Cond) ∈ wsL_law := rL_10 _ (List.mem_of_getElem? (i := 17) rfl)
theorem mL_10_18 : (.fieldLink RX6 19 "TributePitches$Pitch" "x2" "I" : Cond) ∈ wsL_law := rL_10 _ (List.mem_of_getElem? (i := 18) rfl)
theorem mL_10_19 : (.fieldLink RX6 16 "TributePitches$Pitch" "y" "I" : Cond) ∈ wsL_law := rL_10 _ (List.mem_of_getElem? (i := 19) rfl)
theorem mL_10_20 : (.fieldLink RX6 22 "TributePitches$Pitch" "y2" "I" : Cond) ∈ wsL_law := rL_10 _ (List.mem_of_getElem? (i := 20) rfl)
theorem mL_10_21 : (.methodLink RX10 127 yX6_init : Cond) ∈ wsL_law := rL_10 _ (List.mem_of_getElem? (i := 21) rfl)
theorem mL_10_22 : (.instanceMethod yX6_init : Cond) ∈ wsL_law := rL_10 _ (List.mem_of_getElem? (i := 22) rfl)
theorem mL_10_23 : (.code yX6_init cX6_init 7 none : Cond) ∈ wsL_law := rL_10 _ (List.mem_of_getElem? (i := 23) rfl)
theorem rL_11 : ∀ w ∈ wsL_law_r12, w ∈ wsL_law := fun w h => List.mem_append_left _ (List.mem_append_left _ (List.mem_append_left _ (List.mem_append_left _ (List.mem_append_left _ (List.mem_append_left _ (List.mem_append_left _ (List.mem_append_left _ (List.mem_append_left _ (List.mem_append_left _ (List.mem_append_left _ (List.mem_append_left _ (List.mem_append_left _ (List.mem_append_right _ (List.mem_append_right _ (List.mem_append_right _ (List.mem_append_right _ (List.mem_append_right _ (List.mem_append_right _ (List.mem_append_right _ (List.mem_append_right _ (List.mem_append_right _ (List.mem_append_right _ (List.mem_append_right _ (List.mem_append_left _ h))))))))))))))))))))))))
theorem mL_11_0 : (.methodLink RX6 1 objectInit : Cond) ∈ wsL_law := rL_11 _ (List.mem_of_getElem? (i := 0) rfl)
theorem mL_11_1 : (.fieldLink RX6 7 "TributePitches$Pitch" "number" "I" : Cond) ∈ wsL_law := rL_11 _ (List.mem_of_getElem? (i := 1) rfl)
theorem mL_11_2 : (.fieldLink RX6 25 "TributePitches$Pitch" "tons" "I" : Cond) ∈ wsL_law := rL_11 _ (List.mem_of_getElem? (i := 2) rfl)
theorem mL_11_3 : (.methodLink RL 36 yX11_pitch : Cond) ∈ wsL_law := rL_11 _ (List.mem_of_getElem? (i := 3) rfl)
theorem mL_11_4 : (.instanceMethod yX11_pitch : Cond) ∈ wsL_law := rL_11 _ (List.mem_of_getElem? (i := 4) rfl)
theorem mL_11_5 : (.selects RX11 yX11_pitch yX11_pitch : Cond) ∈ wsL_law := rL_11 _ (List.mem_of_getElem? (i := 5) rfl)
theorem mL_11_6 : (.code yX11_pitch cX11_pitch 7 (some .int) : Cond) ∈ wsL_law := rL_11 _ (List.mem_of_getElem? (i := 6) rfl)
theorem mL_11_7 : (.constantLong RX11 173 (100) : Cond) ∈ wsL_law := rL_11 _ (List.mem_of_getElem? (i := 7) rfl)
theorem mL_11_8 : (.fieldLink RX11 170 "TributePitchesModel" "pitches" "I" : Cond) ∈ wsL_law := rL_11 _ (List.mem_of_getElem? (i := 8) rfl)
theorem mL_11_9 : (.methodLink RL 37 yX10_foretold : Cond) ∈ wsL_law := rL_11 _ (List.mem_of_getElem? (i := 9) rfl)
theorem mL_11_10 : (.instanceMethod yX10_foretold : Cond) ∈ wsL_law := rL_11 _ (List.mem_of_getElem? (i := 10) rfl)
theorem mL_11_11 : (.selects RX10 yX10_foretold yX10_foretold : Cond) ∈ wsL_law := rL_11 _ (List.mem_of_getElem? (i := 11) rfl)
theorem mL_11_12 : (.code yX10_foretold cX10_foretold 4 (some .long) : Cond) ∈ wsL_law := rL_11 _ (List.mem_of_getElem? (i := 12) rfl)
theorem mL_11_13 : (.constantLong RX10 137 (-9223372036854775808) : Cond) ∈ wsL_law := rL_11 _ (List.mem_of_getElem? (i := 13) rfl)
theorem mL_11_14 : (.methodLink RX10 133 yX10_pitchAt : Cond) ∈ wsL_law := rL_11 _ (List.mem_of_getElem? (i := 14) rfl)
theorem mL_11_15 : (.instanceMethod yX10_pitchAt : Cond) ∈ wsL_law := rL_11 _ (List.mem_of_getElem? (i := 15) rfl)
theorem mL_11_16 : (.selects RX10 yX10_pitchAt yX10_pitchAt : Cond) ∈ wsL_law := rL_11 _ (List.mem_of_getElem? (i := 16) rfl)
theorem mL_11_17 : (.code yX10_pitchAt cX10_pitchAt 2 (some (.object "TributePitches$Pitch")) : Cond) ∈ wsL_law := rL_11 _ (List.mem_of_getElem? (i := 17) rfl)
theorem mL_11_18 : (.methodLink RX10 139 yX6_foretoldBy : Cond) ∈ wsL_law := rL_11 _ (List.mem_of_getElem? (i := 18) rfl)
theorem mL_11_19 : (.instanceMethod yX6_foretoldBy : Cond) ∈ wsL_law := rL_11 _ (List.mem_of_getElem? (i := 19) rfl)
theorem mL_11_20 : (.selects RX6 yX6_foretoldBy yX6_foretoldBy : Cond) ∈ wsL_law := rL_11 _ (List.mem_of_getElem? (i := 20) rfl)
theorem mL_11_21 : (.code yX6_foretoldBy cX6_foretoldBy 6 (some .long) : Cond) ∈ wsL_law := rL_11 _ (List.mem_of_getElem? (i := 21) rfl)
theorem mL_11_22 : (.methodLink RX6 28 yX3_numberOf : Cond) ∈ wsL_law := rL_11 _ (List.mem_of_getElem? (i := 22) rfl)
theorem mL_11_23 : (.methodLink RL 41 yX11_foretold : Cond) ∈ wsL_law := rL_11 _ (List.mem_of_getElem? (i := 23) rfl)
theorem rL_12 : ∀ w ∈ wsL_law_r13, w ∈ wsL_law := fun w h => List.mem_append_left _ (List.mem_append_left _ (List.mem_append_left _ (List.mem_append_left _ (List.mem_append_left _ (List.mem_append_left _ (List.mem_append_left _ (List.mem_append_left _ (List.mem_append_left _ (List.mem_append_left _ (List.mem_append_left _ (List.mem_append_left _ (List.mem_append_left _ (List.mem_append_right _ (List.mem_append_right _ (List.mem_append_right _ (List.mem_append_right _ (List.mem_append_right _ (List.mem_append_right _ (List.mem_append_right _ (List.mem_append_right _ (List.mem_append_right _ (List.mem_append_right _ (List.mem_append_right _ (List.mem_append_right _ (List.mem_append_left _ h)))))))))))))))))))))))))
theorem mL_12_0 : (.instanceMethod yX11_foretold : Cond) ∈ wsL_law := rL_12 _ (List.mem_of_getElem? (i := 0) rfl)
theorem mL_12_1 : (.selects RX11 yX11_foretold yX11_foretold : Cond) ∈ wsL_law := rL_12 _ (List.mem_of_getElem? (i := 1) rfl)
theorem mL_12_2 : (.code yX11_foretold cX11_foretold 3 (some .long) : Cond) ∈ wsL_law := rL_12 _ (List.mem_of_getElem? (i := 2) rfl)
theorem mL_12_3 : (.methodLink RX11 178 yX11_noPitch : Cond) ∈ wsL_law := rL_12 _ (List.mem_of_getElem? (i := 3) rfl)
theorem mL_12_4 : (.instanceMethod yX11_noPitch : Cond) ∈ wsL_law := rL_12 _ (List.mem_of_getElem? (i := 4) rfl)
theorem mL_12_5 : (.selects RX11 yX11_noPitch yX11_noPitch : Cond) ∈ wsL_law := rL_12 _ (List.mem_of_getElem? (i := 5) rfl)
theorem mL_12_6 : (.code yX11_noPitch cX11_noPitch 2 (some .boolean) : Cond) ∈ wsL_law := rL_12 _ (List.mem_of_getElem? (i := 6) rfl)
theorem mL_12_7 : (.methodLink RX11 105 yX11_lost : Cond) ∈ wsL_law := rL_12 _ (List.mem_of_getElem? (i := 7) rfl)
theorem mL_12_8 : (.static yX11_lost : Cond) ∈ wsL_law := rL_12 _ (List.mem_of_getElem? (i := 8) rfl)
theorem mL_12_9 : (.code yX11_lost cX11_lost 0 (some .long) : Cond) ∈ wsL_law := rL_12 _ (List.mem_of_getElem? (i := 9) rfl)
theorem mL_12_10 : (.constantLong RX11 100 (-9223372036854775808) : Cond) ∈ wsL_law := rL_12 _ (List.mem_of_getElem? (i := 10) rfl)
theorem mL_12_11 : (.methodLink RX11 181 yX11_foretoldOf : Cond) ∈ wsL_law := rL_12 _ (List.mem_of_getElem? (i := 11) rfl)
theorem mL_12_12 : (.instanceMethod yX11_foretoldOf : Cond) ∈ wsL_law := rL_12 _ (List.mem_of_getElem? (i := 12) rfl)
theorem mL_12_13 : (.selects RX11 yX11_foretoldOf yX11_foretoldOf : Cond) ∈ wsL_law := rL_12 _ (List.mem_of_getElem? (i := 13) rfl)
theorem mL_12_14 : (.code yX11_foretoldOf cX11_foretoldOf 6 (some .long) : Cond) ∈ wsL_law := rL_12 _ (List.mem_of_getElem? (i := 14) rfl)
theorem mL_12_15 : (.methodLink RX11 175 yX11_isOn : Cond) ∈ wsL_law := rL_12 _ (List.mem_of_getElem? (i := 15) rfl)
theorem mL_12_16 : (.instanceMethod yX11_isOn : Cond) ∈ wsL_law := rL_12 _ (List.mem_of_getElem? (i := 16) rfl)
theorem mL_12_17 : (.selects RX11 yX11_isOn yX11_isOn : Cond) ∈ wsL_law := rL_12 _ (List.mem_of_getElem? (i := 17) rfl)
theorem mL_12_18 : (.code yX11_isOn cX11_isOn 3 (some .boolean) : Cond) ∈ wsL_law := rL_12 _ (List.mem_of_getElem? (i := 18) rfl)
theorem mL_12_19 : (.methodLink RL 42 yX10_gang : Cond) ∈ wsL_law := rL_12 _ (List.mem_of_getElem? (i := 19) rfl)
theorem mL_12_20 : (.instanceMethod yX10_gang : Cond) ∈ wsL_law := rL_12 _ (List.mem_of_getElem? (i := 20) rfl)
theorem mL_12_21 : (.selects RX10 yX10_gang yX10_gang : Cond) ∈ wsL_law := rL_12 _ (List.mem_of_getElem? (i := 21) rfl)
theorem mL_12_22 : (.code yX10_gang cX10_gang 2 (some .int) : Cond) ∈ wsL_law := rL_12 _ (List.mem_of_getElem? (i := 22) rfl)
theorem mL_12_23 : (.fieldLink RX10 143 "TributePitches" "gangCount" "I" : Cond) ∈ wsL_law := rL_12 _ (List.mem_of_getElem? (i := 23) rfl)
theorem rL_13 : ∀ w ∈ wsL_law_r14, w ∈ wsL_law := fun w h => List.mem_append_left _ (List.mem_append_left _ (List.mem_append_left _ (List.mem_append_left _ (List.mem_append_left _ (List.mem_append_left _ (List.mem_append_left _ (List.mem_append_left _ (List.mem_append_left _ (List.mem_append_left _ (List.mem_append_left _ (List.mem_append_left _ (List.mem_append_left _ (List.mem_append_right _ (List.mem_append_right _ (List.mem_append_right _ (List.mem_append_right _ (List.mem_append_right _ (List.mem_append_right _ (List.mem_append_right _ (List.mem_append_right _ (List.mem_append_right _ (List.mem_append_right _ (List.mem_append_right _ (List.mem_append_right _ (List.mem_append_right _ (List.mem_append_left _ h))))))))))))))))))))))))))
theorem mL_13_0 : (.methodLink RX10 146 yX10_newGang : Cond) ∈ wsL_law := rL_13 _ (List.mem_of_getElem? (i := 0) rfl)
theorem mL_13_1 : (.static yX10_newGang : Cond) ∈ wsL_law := rL_13 _ (List.mem_of_getElem? (i := 1) rfl)
theorem mL_13_2 : (.code yX10_newGang cX10_newGang 2 (some (.object "TributePitches$Gang")) : Cond) ∈ wsL_law := rL_13 _ (List.mem_of_getElem? (i := 2) rfl)
theorem mL_13_3 : (.classLink RX10 150 RX4 : Cond) ∈ wsL_law := rL_13 _ (List.mem_of_getElem? (i := 3) rfl)
theorem mL_13_4 : (.instantiable RX4 4 : Cond) ∈ wsL_law := rL_13 _ (List.mem_of_getElem? (i := 4) rfl)
theorem mL_13_5 : (.initialized RX4 : Cond) ∈ wsL_law := rL_13 _ (List.mem_of_getElem? (i := 5) rfl)
theorem mL_13_6 : (.classLink RX10 155 RX1 : Cond) ∈ wsL_law := rL_13 _ (List.mem_of_getElem? (i := 6) rfl)
theorem mL_13_7 : (.instantiable RX1 4 : Cond) ∈ wsL_law := rL_13 _ (List.mem_of_getElem? (i := 7) rfl)
theorem mL_13_8 : (.initialized RX1 : Cond) ∈ wsL_law := rL_13 _ (List.mem_of_getElem? (i := 8) rfl)
theorem mL_13_9 : (.instantiable RX2 4 : Cond) ∈ wsL_law := rL_13 _ (List.mem_of_getElem? (i := 9) rfl)
theorem mL_13_10 : (.initialized RX2 : Cond) ∈ wsL_law := rL_13 _ (List.mem_of_getElem? (i := 10) rfl)
theorem mL_13_11 : (.methodLink RX10 152 yX4_init : Cond) ∈ wsL_law := rL_13 _ (List.mem_of_getElem? (i := 11) rfl)
theorem mL_13_12 : (.instanceMethod yX4_init : Cond) ∈ wsL_law := rL_13 _ (List.mem_of_getElem? (i := 12) rfl)
theorem mL_13_13 : (.code yX4_init cX4_init 2 none : Cond) ∈ wsL_law := rL_13 _ (List.mem_of_getElem? (i := 13) rfl)
theorem mL_13_14 : (.methodLink RX4 1 yX1_init : Cond) ∈ wsL_law := rL_13 _ (List.mem_of_getElem? (i := 14) rfl)
theorem mL_13_15 : (.instanceMethod yX1_init : Cond) ∈ wsL_law := rL_13 _ (List.mem_of_getElem? (i := 15) rfl)
theorem mL_13_16 : (.code yX1_init cX1_init 2 none : Cond) ∈ wsL_law := rL_13 _ (List.mem_of_getElem? (i := 16) rfl)
theorem mL_13_17 : (.methodLink RX1 1 yX2_init : Cond) ∈ wsL_law := rL_13 _ (List.mem_of_getElem? (i := 17) rfl)
theorem mL_13_18 : (.instanceMethod yX2_init : Cond) ∈ wsL_law := rL_13 _ (List.mem_of_getElem? (i := 18) rfl)
theorem mL_13_19 : (.code yX2_init cX2_init 2 none : Cond) ∈ wsL_law := rL_13 _ (List.mem_of_getElem? (i := 19) rfl)
theorem mL_13_20 : (.methodLink RX2 3 objectInit : Cond) ∈ wsL_law := rL_13 _ (List.mem_of_getElem? (i := 20) rfl)
theorem mL_13_21 : (.fieldLink RX2 9 "TributePitches$Gang" "number" "I" : Cond) ∈ wsL_law := rL_13 _ (List.mem_of_getElem? (i := 21) rfl)
theorem mL_13_22 : (.methodLink RX10 157 yX1_init : Cond) ∈ wsL_law := rL_13 _ (List.mem_of_getElem? (i := 22) rfl)
theorem mL_13_23 : (.methodLink RX10 158 yX2_init : Cond) ∈ wsL_law := rL_13 _ (List.mem_of_getElem? (i := 23) rfl)
theorem rL_14 : ∀ w ∈ wsL_law_r15, w ∈ wsL_law := fun w h => List.mem_append_left _ (List.mem_append_left _ (List.mem_append_left _ (List.mem_append_left _ (List.mem_append_left _ (List.mem_append_left _ (List.mem_append_left _ (List.mem_append_left _ (List.mem_append_left _ (List.mem_append_left _ (List.mem_append_left _ (List.mem_append_left _ (List.mem_append_left _ (List.mem_append_right _ (List.mem_append_right _ (List.mem_append_right _ (List.mem_append_right _ (List.mem_append_right _ (List.mem_append_right _ (List.mem_append_right _ (List.mem_append_right _ (List.mem_append_right _ (List.mem_append_right _ (List.mem_append_right _ (List.mem_append_right _ (List.mem_append_right _ (List.mem_append_right _ (List.mem_append_left _ h)))))))))))))))))))))))))))
theorem mL_14_0 : (.methodLink RL 45 yX11_gang : Cond) ∈ wsL_law := rL_14 _ (List.mem_of_getElem? (i := 0) rfl)
theorem mL_14_1 : (.instanceMethod yX11_gang : Cond) ∈ wsL_law := rL_14 _ (List.mem_of_getElem? (i := 1) rfl)
theorem mL_14_2 : (.selects RX11 yX11_gang yX11_gang : Cond) ∈ wsL_law := rL_14 _ (List.mem_of_getElem? (i := 2) rfl)
theorem mL_14_3 : (.code yX11_gang cX11_gang 2 (some .int) : Cond) ∈ wsL_law := rL_14 _ (List.mem_of_getElem? (i := 3) rfl)
theorem mL_14_4 : (.fieldLink RX11 185 "TributePitchesModel" "gangs" "I" : Cond) ∈ wsL_law := rL_14 _ (List.mem_of_getElem? (i := 4) rfl)
theorem mL_14_5 : (.methodLink RL 46 yX10_auction : Cond) ∈ wsL_law := rL_14 _ (List.mem_of_getElem? (i := 5) rfl)
theorem mL_14_6 : (.instanceMethod yX10_auction : Cond) ∈ wsL_law := rL_14 _ (List.mem_of_getElem? (i := 6) rfl)
theorem mL_14_7 : (.selects RX10 yX10_auction yX10_auction : Cond) ∈ wsL_law := rL_14 _ (List.mem_of_getElem? (i := 7) rfl)
theorem mL_14_8 : (.code yX10_auction cX10_auction 4 (some .int) : Cond) ∈ wsL_law := rL_14 _ (List.mem_of_getElem? (i := 8) rfl)
theorem mL_14_9 : (.fieldLink RX10 159 "TributePitches$Pitch" "take" "LTributePitches$Take;" : Cond) ∈ wsL_law := rL_14 _ (List.mem_of_getElem? (i := 9) rfl)
theorem mL_14_10 : (.fieldLink RX10 163 "TributePitches" "current" "LTributePitches$Auction;" : Cond) ∈ wsL_law := rL_14 _ (List.mem_of_getElem? (i := 10) rfl)
theorem mL_14_11 : (.classLink RX10 167 RX0 : Cond) ∈ wsL_law := rL_14 _ (List.mem_of_getElem? (i := 11) rfl)
theorem mL_14_12 : (.instantiable RX0 4 : Cond) ∈ wsL_law := rL_14 _ (List.mem_of_getElem? (i := 12) rfl)
theorem mL_14_13 : (.initialized RX0 : Cond) ∈ wsL_law := rL_14 _ (List.mem_of_getElem? (i := 13) rfl)
theorem mL_14_14 : (.methodLink RX10 169 yX0_init : Cond) ∈ wsL_law := rL_14 _ (List.mem_of_getElem? (i := 14) rfl)
theorem mL_14_15 : (.instanceMethod yX0_init : Cond) ∈ wsL_law := rL_14 _ (List.mem_of_getElem? (i := 15) rfl)
theorem mL_14_16 : (.code yX0_init cX0_init 3 none : Cond) ∈ wsL_law := rL_14 _ (List.mem_of_getElem? (i := 16) rfl)
theorem mL_14_17 : (.methodLink RX0 1 objectInit : Cond) ∈ wsL_law := rL_14 _ (List.mem_of_getElem? (i := 17) rfl)
theorem mL_14_18 : (.fieldLink RX0 7 "TributePitches$Auction" "pitch" "LTributePitches$Pitch;" : Cond) ∈ wsL_law := rL_14 _ (List.mem_of_getElem? (i := 18) rfl)
theorem mL_14_19 : (.fieldLink RX0 13 "TributePitches$Auction" "share" "I" : Cond) ∈ wsL_law := rL_14 _ (List.mem_of_getElem? (i := 19) rfl)
theorem mL_14_20 : (.methodLink RL 50 yX11_auction : Cond) ∈ wsL_law := rL_14 _ (List.mem_of_getElem? (i := 20) rfl)
theorem mL_14_21 : (.instanceMethod yX11_auction : Cond) ∈ wsL_law := rL_14 _ (List.mem_of_getElem? (i := 21) rfl)
theorem mL_14_22 : (.selects RX11 yX11_auction yX11_auction : Cond) ∈ wsL_law := rL_14 _ (List.mem_of_getElem? (i := 22) rfl)
theorem mL_14_23 : (.code yX11_auction cX11_auction 3 (some .int) : Cond) ∈ wsL_law := rL_14 _ (List.mem_of_getElem? (i := 23) rfl)
theorem rL_15 : ∀ w ∈ wsL_law_r16, w ∈ wsL_law := fun w h => List.mem_append_left _ (List.mem_append_left _ (List.mem_append_left _ (List.mem_append_left _ (List.mem_append_left _ (List.mem_append_left _ (List.mem_append_left _ (List.mem_append_left _ (List.mem_append_left _ (List.mem_append_left _ (List.mem_append_left _ (List.mem_append_left _ (List.mem_append_left _ (List.mem_append_right _ (List.mem_append_right _ (List.mem_append_right _ (List.mem_append_right _ (List.mem_append_right _ (List.mem_append_right _ (List.mem_append_right _ (List.mem_append_right _ (List.mem_append_right _ (List.mem_append_right _ (List.mem_append_right _ (List.mem_append_right _ (List.mem_append_right _ (List.mem_append_right _ (List.mem_append_right _ (List.mem_append_left _ h))))))))))))))))))))))))))))
theorem mL_15_0 : (.constantLong RX11 191 (240) : Cond) ∈ wsL_law := rL_15 _ (List.mem_of_getElem? (i := 0) rfl)
theorem mL_15_1 : (.fieldLink RX11 196 "TributePitchesModel" "latest" "I" : Cond) ∈ wsL_law := rL_15 _ (List.mem_of_getElem? (i := 1) rfl)
theorem mL_15_2 : (.fieldLink RX11 199 "TributePitchesModel" "bids" "I" : Cond) ∈ wsL_law := rL_15 _ (List.mem_of_getElem? (i := 2) rfl)
theorem mL_15_3 : (.fieldLink RX11 202 "TributePitchesModel" "bidder" "I" : Cond) ∈ wsL_law := rL_15 _ (List.mem_of_getElem? (i := 3) rfl)
theorem mL_15_4 : (.methodLink RX11 193 yX11_takeOf : Cond) ∈ wsL_law := rL_15 _ (List.mem_of_getElem? (i := 4) rfl)
theorem mL_15_5 : (.instanceMethod yX11_takeOf : Cond) ∈ wsL_law := rL_15 _ (List.mem_of_getElem? (i := 5) rfl)
theorem mL_15_6 : (.selects RX11 yX11_takeOf yX11_takeOf : Cond) ∈ wsL_law := rL_15 _ (List.mem_of_getElem? (i := 6) rfl)
theorem mL_15_7 : (.code yX11_takeOf cX11_takeOf 3 (some .int) : Cond) ∈ wsL_law := rL_15 _ (List.mem_of_getElem? (i := 7) rfl)
theorem mL_15_8 : (.fieldLink RX11 188 "TributePitchesModel" "takes" "I" : Cond) ∈ wsL_law := rL_15 _ (List.mem_of_getElem? (i := 8) rfl)
theorem mL_15_9 : (.methodLink RL 51 yX10_bid : Cond) ∈ wsL_law := rL_15 _ (List.mem_of_getElem? (i := 9) rfl)
theorem mL_15_10 : (.instanceMethod yX10_bid : Cond) ∈ wsL_law := rL_15 _ (List.mem_of_getElem? (i := 10) rfl)
theorem mL_15_11 : (.selects RX10 yX10_bid yX10_bid : Cond) ∈ wsL_law := rL_15 _ (List.mem_of_getElem? (i := 11) rfl)
theorem mL_15_12 : (.code yX10_bid cX10_bid 4 (some .int) : Cond) ∈ wsL_law := rL_15 _ (List.mem_of_getElem? (i := 12) rfl)
theorem mL_15_13 : (.fieldLink RX10 180 "TributePitches$Auction" "bidder" "LTributePitches$Gang;" : Cond) ∈ wsL_law := rL_15 _ (List.mem_of_getElem? (i := 13) rfl)
theorem mL_15_14 : (.fieldLink RX10 184 "TributePitches$Gang" "letPitches" "I" : Cond) ∈ wsL_law := rL_15 _ (List.mem_of_getElem? (i := 14) rfl)
theorem mL_15_15 : (.fieldLink RX10 187 "TributePitches$Auction" "bids" "I" : Cond) ∈ wsL_law := rL_15 _ (List.mem_of_getElem? (i := 15) rfl)
theorem mL_15_16 : (.fieldLink RX10 190 "TributePitches$Auction" "share" "I" : Cond) ∈ wsL_law := rL_15 _ (List.mem_of_getElem? (i := 16) rfl)
theorem mL_15_17 : (.methodLink RX10 172 yX10_gangAt : Cond) ∈ wsL_law := rL_15 _ (List.mem_of_getElem? (i := 17) rfl)
theorem mL_15_18 : (.instanceMethod yX10_gangAt : Cond) ∈ wsL_law := rL_15 _ (List.mem_of_getElem? (i := 18) rfl)
theorem mL_15_19 : (.selects RX10 yX10_gangAt yX10_gangAt : Cond) ∈ wsL_law := rL_15 _ (List.mem_of_getElem? (i := 19) rfl)
theorem mL_15_20 : (.code yX10_gangAt cX10_gangAt 2 (some (.object "TributePitches$Gang")) : Cond) ∈ wsL_law := rL_15 _ (List.mem_of_getElem? (i := 20) rfl)
theorem mL_15_21 : (.methodLink RX10 176 yX0_mostShare : Cond) ∈ wsL_law := rL_15 _ (List.mem_of_getElem? (i := 21) rfl)
theorem mL_15_22 : (.instanceMethod yX0_mostShare : Cond) ∈ wsL_law := rL_15 _ (List.mem_of_getElem? (i := 22) rfl)
theorem mL_15_23 : (.selects RX0 yX0_mostShare yX0_mostShare : Cond) ∈ wsL_law := rL_15 _ (List.mem_of_getElem? (i := 23) rfl)
theorem rL_16 : ∀ w ∈ wsL_law_r17, w ∈ wsL_law := fun w h => List.mem_append_left _ (List.mem_append_left _ (List.mem_append_left _ (List.mem_append_left _ (List.mem_append_left _ (List.mem_append_left _ (List.mem_append_left _ (List.mem_append_left _ (List.mem_append_left _ (List.mem_append_left _ (List.mem_append_left _ (List.mem_append_left _ (List.mem_append_left _ (List.mem_append_right _ (List.mem_append_right _ (List.mem_append_right _ (List.mem_append_right _ (List.mem_append_right _ (List.mem_append_right _ (List.mem_append_right _ (List.mem_append_right _ (List.mem_append_right _ (List.mem_append_right _ (List.mem_append_right _ (List.mem_append_right _ (List.mem_append_right _ (List.mem_append_right _ (List.mem_append_right _ (List.mem_append_right _ (List.mem_append_left _ h)))))))))))))))))))))))))))))
theorem mL_16_0 : (.code yX0_mostShare cX0_mostShare 1 (some .int) : Cond) ∈ wsL_law := rL_16 _ (List.mem_of_getElem? (i := 0) rfl)
theorem mL_16_1 : (.fieldLink RX0 17 "TributePitches$Auction" "bids" "I" : Cond) ∈ wsL_law := rL_16 _ (List.mem_of_getElem? (i := 1) rfl)
theorem mL_16_2 : (.methodLink RL 54 yX11_bid : Cond) ∈ wsL_law := rL_16 _ (List.mem_of_getElem? (i := 2) rfl)
theorem mL_16_3 : (.instanceMethod yX11_bid : Cond) ∈ wsL_law := rL_16 _ (List.mem_of_getElem? (i := 3) rfl)
theorem mL_16_4 : (.selects RX11 yX11_bid yX11_bid : Cond) ∈ wsL_law := rL_16 _ (List.mem_of_getElem? (i := 4) rfl)
theorem mL_16_5 : (.code yX11_bid cX11_bid 3 (some .int) : Cond) ∈ wsL_law := rL_16 _ (List.mem_of_getElem? (i := 5) rfl)
theorem mL_16_6 : (.methodLink RX11 205 yX11_noGang : Cond) ∈ wsL_law := rL_16 _ (List.mem_of_getElem? (i := 6) rfl)
theorem mL_16_7 : (.instanceMethod yX11_noGang : Cond) ∈ wsL_law := rL_16 _ (List.mem_of_getElem? (i := 7) rfl)
theorem mL_16_8 : (.selects RX11 yX11_noGang yX11_noGang : Cond) ∈ wsL_law := rL_16 _ (List.mem_of_getElem? (i := 8) rfl)
theorem mL_16_9 : (.code yX11_noGang cX11_noGang 2 (some .boolean) : Cond) ∈ wsL_law := rL_16 _ (List.mem_of_getElem? (i := 9) rfl)
theorem mL_16_10 : (.methodLink RX11 208 yX11_letTo : Cond) ∈ wsL_law := rL_16 _ (List.mem_of_getElem? (i := 10) rfl)
theorem mL_16_11 : (.instanceMethod yX11_letTo : Cond) ∈ wsL_law := rL_16 _ (List.mem_of_getElem? (i := 11) rfl)
theorem mL_16_12 : (.selects RX11 yX11_letTo yX11_letTo : Cond) ∈ wsL_law := rL_16 _ (List.mem_of_getElem? (i := 12) rfl)
theorem mL_16_13 : (.code yX11_letTo cX11_letTo 4 (some .int) : Cond) ∈ wsL_law := rL_16 _ (List.mem_of_getElem? (i := 13) rfl)
theorem mL_16_14 : (.methodLink RL 55 yX10_strike : Cond) ∈ wsL_law := rL_16 _ (List.mem_of_getElem? (i := 14) rfl)
theorem mL_16_15 : (.instanceMethod yX10_strike : Cond) ∈ wsL_law := rL_16 _ (List.mem_of_getElem? (i := 15) rfl)
theorem mL_16_16 : (.selects RX10 yX10_strike yX10_strike : Cond) ∈ wsL_law := rL_16 _ (List.mem_of_getElem? (i := 16) rfl)
theorem mL_16_17 : (.code yX10_strike cX10_strike 4 (some .int) : Cond) ∈ wsL_law := rL_16 _ (List.mem_of_getElem? (i := 17) rfl)
theorem mL_16_18 : (.fieldLink RX10 193 "TributePitches$Auction" "pitch" "LTributePitches$Pitch;" : Cond) ∈ wsL_law := rL_16 _ (List.mem_of_getElem? (i := 18) rfl)
theorem mL_16_19 : (.fieldLink RX10 197 "TributePitches" "takeCount" "I" : Cond) ∈ wsL_law := rL_16 _ (List.mem_of_getElem? (i := 19) rfl)
theorem mL_16_20 : (.instantiable RX8 12 : Cond) ∈ wsL_law := rL_16 _ (List.mem_of_getElem? (i := 20) rfl)
theorem mL_16_21 : (.initialized RX8 : Cond) ∈ wsL_law := rL_16 _ (List.mem_of_getElem? (i := 21) rfl)
theorem mL_16_22 : (.fieldLink RX10 203 "TributePitches$Take" "least" "J" : Cond) ∈ wsL_law := rL_16 _ (List.mem_of_getElem? (i := 22) rfl)
theorem mL_16_23 : (.fieldLink RX10 207 "TributePitches$Take" "greatest" "J" : Cond) ∈ wsL_law := rL_16 _ (List.mem_of_getElem? (i := 23) rfl)
theorem rL_17 : ∀ w ∈ wsL_law_r18, w ∈ wsL_law := fun w h => List.mem_append_left _ (List.mem_append_left _ (List.mem_append_left _ (List.mem_append_left _ (List.mem_append_left _ (List.mem_append_left _ (List.mem_append_left _ (List.mem_append_left _ (List.mem_append_left _ (List.mem_append_left _ (List.mem_append_left _ (List.mem_append_left _ (List.mem_append_left _ (List.mem_append_right _ (List.mem_append_right _ (List.mem_append_right _ (List.mem_append_right _ (List.mem_append_right _ (List.mem_append_right _ (List.mem_append_right _ (List.mem_append_right _ (List.mem_append_right _ (List.mem_append_right _ (List.mem_append_right _ (List.mem_append_right _ (List.mem_append_right _ (List.mem_append_right _ (List.mem_append_right _ (List.mem_append_right _ (List.mem_append_right _ (List.mem_append_left _ h))))))))))))))))))))))))))))))
theorem mL_17_0 : (.methodLink RX10 200 yX8_init : Cond) ∈ wsL_law := rL_17 _ (List.mem_of_getElem? (i := 0) rfl)
theorem mL_17_1 : (.instanceMethod yX8_init : Cond) ∈ wsL_law := rL_17 _ (List.mem_of_getElem? (i := 1) rfl)
theorem mL_17_2 : (.code yX8_init cX8_init 5 none : Cond) ∈ wsL_law := rL_17 _ (List.mem_of_getElem? (i := 2) rfl)
theorem mL_17_3 : (.methodLink RX8 3 objectInit : Cond) ∈ wsL_law := rL_17 _ (List.mem_of_getElem? (i := 3) rfl)
theorem mL_17_4 : (.fieldLink RX8 9 "TributePitches$Take" "number" "I" : Cond) ∈ wsL_law := rL_17 _ (List.mem_of_getElem? (i := 4) rfl)
theorem mL_17_5 : (.fieldLink RX8 15 "TributePitches$Take" "gang" "LTributePitches$Gang;" : Cond) ∈ wsL_law := rL_17 _ (List.mem_of_getElem? (i := 5) rfl)
theorem mL_17_6 : (.fieldLink RX8 19 "TributePitches$Take" "pitch" "LTributePitches$Pitch;" : Cond) ∈ wsL_law := rL_17 _ (List.mem_of_getElem? (i := 6) rfl)
theorem mL_17_7 : (.fieldLink RX8 23 "TributePitches$Take" "share" "I" : Cond) ∈ wsL_law := rL_17 _ (List.mem_of_getElem? (i := 7) rfl)
theorem mL_17_8 : (.methodLink RX10 210 yX8_begin : Cond) ∈ wsL_law := rL_17 _ (List.mem_of_getElem? (i := 8) rfl)
theorem mL_17_9 : (.instanceMethod yX8_begin : Cond) ∈ wsL_law := rL_17 _ (List.mem_of_getElem? (i := 9) rfl)
theorem mL_17_10 : (.selects RX8 yX8_begin yX8_begin : Cond) ∈ wsL_law := rL_17 _ (List.mem_of_getElem? (i := 10) rfl)
theorem mL_17_11 : (.code yX8_begin cX8_begin 1 none : Cond) ∈ wsL_law := rL_17 _ (List.mem_of_getElem? (i := 11) rfl)
theorem mL_17_12 : (.fieldLink RX8 26 "TributePitches$Pitch" "take" "LTributePitches$Take;" : Cond) ∈ wsL_law := rL_17 _ (List.mem_of_getElem? (i := 12) rfl)
theorem mL_17_13 : (.fieldLink RX8 32 "TributePitches$Pitch" "takesHad" "I" : Cond) ∈ wsL_law := rL_17 _ (List.mem_of_getElem? (i := 13) rfl)
theorem mL_17_14 : (.fieldLink RX8 35 "TributePitches$Gang" "takesHad" "I" : Cond) ∈ wsL_law := rL_17 _ (List.mem_of_getElem? (i := 14) rfl)
theorem mL_17_15 : (.fieldLink RX8 38 "TributePitches$Gang" "letPitches" "I" : Cond) ∈ wsL_law := rL_17 _ (List.mem_of_getElem? (i := 15) rfl)
theorem mL_17_16 : (.methodLink RL 59 yX11_strike : Cond) ∈ wsL_law := rL_17 _ (List.mem_of_getElem? (i := 16) rfl)
theorem mL_17_17 : (.instanceMethod yX11_strike : Cond) ∈ wsL_law := rL_17 _ (List.mem_of_getElem? (i := 17) rfl)
theorem mL_17_18 : (.selects RX11 yX11_strike yX11_strike : Cond) ∈ wsL_law := rL_17 _ (List.mem_of_getElem? (i := 18) rfl)
theorem mL_17_19 : (.code yX11_strike cX11_strike 1 (some .int) : Cond) ∈ wsL_law := rL_17 _ (List.mem_of_getElem? (i := 19) rfl)
theorem mL_17_20 : (.methodLink RL 60 yX10_about : Cond) ∈ wsL_law := rL_17 _ (List.mem_of_getElem? (i := 20) rfl)
theorem mL_17_21 : (.instanceMethod yX10_about : Cond) ∈ wsL_law := rL_17 _ (List.mem_of_getElem? (i := 21) rfl)
theorem mL_17_22 : (.selects RX10 yX10_about yX10_about : Cond) ∈ wsL_law := rL_17 _ (List.mem_of_getElem? (i := 22) rfl)
theorem mL_17_23 : (.code yX10_about cX10_about 4 (some .int) : Cond) ∈ wsL_law := rL_17 _ (List.mem_of_getElem? (i := 23) rfl)
theorem rL_18 : ∀ w ∈ wsL_law_r19, w ∈ wsL_law := fun w h => List.mem_append_left _ (List.mem_append_left _ (List.mem_append_left _ (List.mem_append_left _ (List.mem_append_left _ (List.mem_append_left _ (List.mem_append_left _ (List.mem_append_left _ (List.mem_append_left _ (List.mem_append_left _ (List.mem_append_left _ (List.mem_append_left _ (List.mem_append_left _ (List.mem_append_right _ (List.mem_append_right _ (List.mem_append_right _ (List.mem_append_right _ (List.mem_append_right _ (List.mem_append_right _ (List.mem_append_right _ (List.mem_append_right _ (List.mem_append_right _ (List.mem_append_right _ (List.mem_append_right _ (List.mem_append_right _ (List.mem_append_right _ (List.mem_append_right _ (List.mem_append_right _ (List.mem_append_right _ (List.mem_append_right _ (List.mem_append_right _ (List.mem_append_left _ h)))))))))))))))))))))))))))))))
theorem mL_18_0 : (.fieldLink RX10 213 "TributePitches$Pitch" "x" "I" : Cond) ∈ wsL_law := rL_18 _ (List.mem_of_getElem? (i := 0) rfl)
theorem mL_18_1 : (.fieldLink RX10 216 "TributePitches$Pitch" "y" "I" : Cond) ∈ wsL_law := rL_18 _ (List.mem_of_getElem? (i := 1) rfl)
theorem mL_18_2 : (.fieldLink RX10 219 "TributePitches$Pitch" "x2" "I" : Cond) ∈ wsL_law := rL_18 _ (List.mem_of_getElem? (i := 2) rfl)
theorem mL_18_3 : (.fieldLink RX10 222 "TributePitches$Pitch" "y2" "I" : Cond) ∈ wsL_law := rL_18 _ (List.mem_of_getElem? (i := 3) rfl)
theorem mL_18_4 : (.fieldLink RX10 225 "TributePitches$Pitch" "tons" "I" : Cond) ∈ wsL_law := rL_18 _ (List.mem_of_getElem? (i := 4) rfl)
theorem mL_18_5 : (.fieldLink RX10 228 "TributePitches$Take" "number" "I" : Cond) ∈ wsL_law := rL_18 _ (List.mem_of_getElem? (i := 5) rfl)
theorem mL_18_6 : (.fieldLink RX10 231 "TributePitches$Pitch" "takesHad" "I" : Cond) ∈ wsL_law := rL_18 _ (List.mem_of_getElem? (i := 6) rfl)
theorem mL_18_7 : (.methodLink RL 63 yX11_about : Cond) ∈ wsL_law := rL_18 _ (List.mem_of_getElem? (i := 7) rfl)
theorem mL_18_8 : (.instanceMethod yX11_about : Cond) ∈ wsL_law := rL_18 _ (List.mem_of_getElem? (i := 8) rfl)
theorem mL_18_9 : (.selects RX11 yX11_about yX11_about : Cond) ∈ wsL_law := rL_18 _ (List.mem_of_getElem? (i := 9) rfl)
theorem mL_18_10 : (.code yX11_about cX11_about 3 (some .int) : Cond) ∈ wsL_law := rL_18 _ (List.mem_of_getElem? (i := 10) rfl)
theorem mL_18_11 : (.methodLink RX11 211 yX11_takesOn : Cond) ∈ wsL_law := rL_18 _ (List.mem_of_getElem? (i := 11) rfl)
theorem mL_18_12 : (.instanceMethod yX11_takesOn : Cond) ∈ wsL_law := rL_18 _ (List.mem_of_getElem? (i := 12) rfl)
theorem mL_18_13 : (.selects RX11 yX11_takesOn yX11_takesOn : Cond) ∈ wsL_law := rL_18 _ (List.mem_of_getElem? (i := 13) rfl)
theorem mL_18_14 : (.code yX11_takesOn cX11_takesOn 4 (some .int) : Cond) ∈ wsL_law := rL_18 _ (List.mem_of_getElem? (i := 14) rfl)
theorem mL_18_15 : (.methodLink RL 64 yX10_parcel : Cond) ∈ wsL_law := rL_18 _ (List.mem_of_getElem? (i := 15) rfl)
theorem mL_18_16 : (.instanceMethod yX10_parcel : Cond) ∈ wsL_law := rL_18 _ (List.mem_of_getElem? (i := 16) rfl)
theorem mL_18_17 : (.selects RX10 yX10_parcel yX10_parcel : Cond) ∈ wsL_law := rL_18 _ (List.mem_of_getElem? (i := 17) rfl)
theorem mL_18_18 : (.code yX10_parcel cX10_parcel 5 (some .int) : Cond) ∈ wsL_law := rL_18 _ (List.mem_of_getElem? (i := 18) rfl)
theorem mL_18_19 : (.fieldLink RX10 238 "TributePitches$Take" "settled" "Z" : Cond) ∈ wsL_law := rL_18 _ (List.mem_of_getElem? (i := 19) rfl)
theorem mL_18_20 : (.fieldLink RX10 242 "TributePitches" "parcelCount" "I" : Cond) ∈ wsL_law := rL_18 _ (List.mem_of_getElem? (i := 20) rfl)
theorem mL_18_21 : (.instantiable RX5 2 : Cond) ∈ wsL_law := rL_18 _ (List.mem_of_getElem? (i := 21) rfl)
theorem mL_18_22 : (.initialized RX5 : Cond) ∈ wsL_law := rL_18 _ (List.mem_of_getElem? (i := 22) rfl)
theorem mL_18_23 : (.fieldLink RX10 245 "TributePitches$Take" "pitch" "LTributePitches$Pitch;" : Cond) ∈ wsL_law := rL_18 _ (List.mem_of_getElem? (i := 23) rfl)
theorem rL_19 : ∀ w ∈ wsL_law_r20, w ∈ wsL_law := fun w h => List.mem_append_left _ (List.mem_append_left _ (List.mem_append_left _ (List.mem_append_left _ (List.mem_append_left _ (List.mem_append_left _ (List.mem_append_left _ (List.mem_append_left _ (List.mem_append_left _ (List.mem_append_left _ (List.mem_append_left _ (List.mem_append_left _ (List.mem_append_left _ (List.mem_append_right _ (List.mem_append_right _ (List.mem_append_right _ (List.mem_append_right _ (List.mem_append_right _ (List.mem_append_right _ (List.mem_append_right _ (List.mem_append_right _ (List.mem_append_right _ (List.mem_append_right _ (List.mem_append_right _ (List.mem_append_right _ (List.mem_append_right _ (List.mem_append_right _ (List.mem_append_right _ (List.mem_append_right _ (List.mem_append_right _ (List.mem_append_right _ (List.mem_append_right _ (List.mem_append_left _ h))))))))))))))))))))))))))))))))
theorem mL_19_0 : (.fieldLink RX10 247 "TributePitches$Take" "parcels" "I" : Cond) ∈ wsL_law := rL_19 _ (List.mem_of_getElem? (i := 0) rfl)
theorem mL_19_1 : (.fieldLink RX10 249 "TributePitches$Take" "worths" "J" : Cond) ∈ wsL_law := rL_19 _ (List.mem_of_getElem? (i := 1) rfl)
theorem mL_19_2 : (.methodLink RX10 234 yX10_takeAt : Cond) ∈ wsL_law := rL_19 _ (List.mem_of_getElem? (i := 2) rfl)
theorem mL_19_3 : (.instanceMethod yX10_takeAt : Cond) ∈ wsL_law := rL_19 _ (List.mem_of_getElem? (i := 3) rfl)
theorem mL_19_4 : (.selects RX10 yX10_takeAt yX10_takeAt : Cond) ∈ wsL_law := rL_19 _ (List.mem_of_getElem? (i := 4) rfl)
theorem mL_19_5 : (.code yX10_takeAt cX10_takeAt 2 (some (.object "TributePitches$Take")) : Cond) ∈ wsL_law := rL_19 _ (List.mem_of_getElem? (i := 5) rfl)
theorem mL_19_6 : (.methodLink RX10 246 yX5_init : Cond) ∈ wsL_law := rL_19 _ (List.mem_of_getElem? (i := 6) rfl)
theorem mL_19_7 : (.instanceMethod yX5_init : Cond) ∈ wsL_law := rL_19 _ (List.mem_of_getElem? (i := 7) rfl)
theorem mL_19_8 : (.code yX5_init cX5_init 3 none : Cond) ∈ wsL_law := rL_19 _ (List.mem_of_getElem? (i := 8) rfl)
theorem mL_19_9 : (.methodLink RX5 1 objectInit : Cond) ∈ wsL_law := rL_19 _ (List.mem_of_getElem? (i := 9) rfl)
theorem mL_19_10 : (.fieldLink RX5 7 "TributePitches$Parcel" "pitch" "LTributePitches$Pitch;" : Cond) ∈ wsL_law := rL_19 _ (List.mem_of_getElem? (i := 10) rfl)
theorem mL_19_11 : (.fieldLink RX5 13 "TributePitches$Parcel" "goodness" "I" : Cond) ∈ wsL_law := rL_19 _ (List.mem_of_getElem? (i := 11) rfl)
theorem mL_19_12 : (.methodLink RL 67 yX11_parcel : Cond) ∈ wsL_law := rL_19 _ (List.mem_of_getElem? (i := 12) rfl)
theorem mL_19_13 : (.instanceMethod yX11_parcel : Cond) ∈ wsL_law := rL_19 _ (List.mem_of_getElem? (i := 13) rfl)
theorem mL_19_14 : (.selects RX11 yX11_parcel yX11_parcel : Cond) ∈ wsL_law := rL_19 _ (List.mem_of_getElem? (i := 14) rfl)
theorem mL_19_15 : (.code yX11_parcel cX11_parcel 4 (some .int) : Cond) ∈ wsL_law := rL_19 _ (List.mem_of_getElem? (i := 15) rfl)
theorem mL_19_16 : (.fieldLink RX11 217 "TributePitchesModel" "parcels" "I" : Cond) ∈ wsL_law := rL_19 _ (List.mem_of_getElem? (i := 16) rfl)
theorem mL_19_17 : (.methodLink RX11 214 yX11_noTake : Cond) ∈ wsL_law := rL_19 _ (List.mem_of_getElem? (i := 17) rfl)
theorem mL_19_18 : (.instanceMethod yX11_noTake : Cond) ∈ wsL_law := rL_19 _ (List.mem_of_getElem? (i := 18) rfl)
theorem mL_19_19 : (.selects RX11 yX11_noTake yX11_noTake : Cond) ∈ wsL_law := rL_19 _ (List.mem_of_getElem? (i := 19) rfl)
theorem mL_19_20 : (.code yX11_noTake cX11_noTake 2 (some .boolean) : Cond) ∈ wsL_law := rL_19 _ (List.mem_of_getElem? (i := 20) rfl)
theorem mL_19_21 : (.methodLink RL 68 yX10_spend : Cond) ∈ wsL_law := rL_19 _ (List.mem_of_getElem? (i := 21) rfl)
theorem mL_19_22 : (.instanceMethod yX10_spend : Cond) ∈ wsL_law := rL_19 _ (List.mem_of_getElem? (i := 22) rfl)
theorem mL_19_23 : (.selects RX10 yX10_spend yX10_spend : Cond) ∈ wsL_law := rL_19 _ (List.mem_of_getElem? (i := 23) rfl)
theorem rL_20 : ∀ w ∈ wsL_law_r21, w ∈ wsL_law := fun w h => List.mem_append_left _ (List.mem_append_left _ (List.mem_append_left _ (List.mem_append_left _ (List.mem_append_left _ (List.mem_append_left _ (List.mem_append_left _ (List.mem_append_left _ (List.mem_append_left _ (List.mem_append_left _ (List.mem_append_left _ (List.mem_append_left _ (List.mem_append_left _ (List.mem_append_right _ (List.mem_append_right _ (List.mem_append_right _ (List.mem_append_right _ (List.mem_append_right _ (List.mem_append_right _ (List.mem_append_right _ (List.mem_append_right _ (List.mem_append_right _ (List.mem_append_right _ (List.mem_append_right _ (List.mem_append_right _ (List.mem_append_right _ (List.mem_append_right _ (List.mem_append_right _ (List.mem_append_right _ (List.mem_append_right _ (List.mem_append_right _ (List.mem_append_right _ (List.mem_append_right _ (List.mem_append_left _ h)))))))))))))))))))))))))))))))))
theorem mL_20_0 : (.code yX10_spend cX10_spend 5 (some .long) : Cond) ∈ wsL_law := rL_20 _ (List.mem_of_getElem? (i := 0) rfl)
theorem mL_20_1 : (.constant RX10 252 (100000) : Cond) ∈ wsL_law := rL_20 _ (List.mem_of_getElem? (i := 1) rfl)
theorem mL_20_2 : (.fieldLink RX10 253 "TributePitches$Take" "costs" "J" : Cond) ∈ wsL_law := rL_20 _ (List.mem_of_getElem? (i := 2) rfl)
theorem mL_20_3 : (.fieldLink RX10 256 "TributePitches$Take" "ahead" "J" : Cond) ∈ wsL_law := rL_20 _ (List.mem_of_getElem? (i := 3) rfl)
theorem mL_20_4 : (.methodLink RL 72 yX11_spend : Cond) ∈ wsL_law := rL_20 _ (List.mem_of_getElem? (i := 4) rfl)
theorem mL_20_5 : (.instanceMethod yX11_spend : Cond) ∈ wsL_law := rL_20 _ (List.mem_of_getElem? (i := 5) rfl)
theorem mL_20_6 : (.selects RX11 yX11_spend yX11_spend : Cond) ∈ wsL_law := rL_20 _ (List.mem_of_getElem? (i := 6) rfl)
theorem mL_20_7 : (.code yX11_spend cX11_spend 4 (some .long) : Cond) ∈ wsL_law := rL_20 _ (List.mem_of_getElem? (i := 7) rfl)
theorem mL_20_8 : (.constantLong RX11 220 (100000) : Cond) ∈ wsL_law := rL_20 _ (List.mem_of_getElem? (i := 8) rfl)
theorem mL_20_9 : (.methodLink RL 73 yX10_settle : Cond) ∈ wsL_law := rL_20 _ (List.mem_of_getElem? (i := 9) rfl)
theorem mL_20_10 : (.instanceMethod yX10_settle : Cond) ∈ wsL_law := rL_20 _ (List.mem_of_getElem? (i := 10) rfl)
theorem mL_20_11 : (.selects RX10 yX10_settle yX10_settle : Cond) ∈ wsL_law := rL_20 _ (List.mem_of_getElem? (i := 11) rfl)
theorem mL_20_12 : (.code yX10_settle cX10_settle 3 (some .long) : Cond) ∈ wsL_law := rL_20 _ (List.mem_of_getElem? (i := 12) rfl)
theorem mL_20_13 : (.fieldLink RX10 262 "TributePitches$Take" "pay" "J" : Cond) ∈ wsL_law := rL_20 _ (List.mem_of_getElem? (i := 13) rfl)
theorem mL_20_14 : (.methodLink RX10 259 yX8_end : Cond) ∈ wsL_law := rL_20 _ (List.mem_of_getElem? (i := 14) rfl)
theorem mL_20_15 : (.instanceMethod yX8_end : Cond) ∈ wsL_law := rL_20 _ (List.mem_of_getElem? (i := 15) rfl)
theorem mL_20_16 : (.selects RX8 yX8_end yX8_end : Cond) ∈ wsL_law := rL_20 _ (List.mem_of_getElem? (i := 16) rfl)
theorem mL_20_17 : (.code yX8_end cX8_end 5 none : Cond) ∈ wsL_law := rL_20 _ (List.mem_of_getElem? (i := 17) rfl)
theorem mL_20_18 : (.fieldLink RX8 45 "TributePitches$Take" "worths" "J" : Cond) ∈ wsL_law := rL_20 _ (List.mem_of_getElem? (i := 18) rfl)
theorem mL_20_19 : (.constantLong RX8 49 (240) : Cond) ∈ wsL_law := rL_20 _ (List.mem_of_getElem? (i := 19) rfl)
theorem mL_20_20 : (.fieldLink RX8 51 "TributePitches$Take" "costs" "J" : Cond) ∈ wsL_law := rL_20 _ (List.mem_of_getElem? (i := 20) rfl)
theorem mL_20_21 : (.fieldLink RX8 58 "TributePitches$Take" "ahead" "J" : Cond) ∈ wsL_law := rL_20 _ (List.mem_of_getElem? (i := 21) rfl)
theorem mL_20_22 : (.methodLink RX8 61 Lib.MathLoose.max_long.x : Cond) ∈ wsL_law := rL_20 _ (List.mem_of_getElem? (i := 22) rfl)
theorem mL_20_23 : (.static Lib.MathLoose.max_long.x : Cond) ∈ wsL_law := rL_20 _ (List.mem_of_getElem? (i := 23) rfl)
theorem rL_21 : ∀ w ∈ wsL_law_r22, w ∈ wsL_law := fun w h => List.mem_append_left _ (List.mem_append_left _ (List.mem_append_left _ (List.mem_append_left _ (List.mem_append_left _ (List.mem_append_left _ (List.mem_append_left _ (List.mem_append_left _ (List.mem_append_left _ (List.mem_append_left _ (List.mem_append_left _ (List.mem_append_left _ (List.mem_append_left _ (List.mem_append_right _ (List.mem_append_right _ (List.mem_append_right _ (List.mem_append_right _ (List.mem_append_right _ (List.mem_append_right _ (List.mem_append_right _ (List.mem_append_right _ (List.mem_append_right _ (List.mem_append_right _ (List.mem_append_right _ (List.mem_append_right _ (List.mem_append_right _ (List.mem_append_right _ (List.mem_append_right _ (List.mem_append_right _ (List.mem_append_right _ (List.mem_append_right _ (List.mem_append_right _ (List.mem_append_right _ (List.mem_append_right _ (List.mem_append_left _ h))))))))))))))))))))))))))))))))))
theorem mL_21_0 : (.code Lib.MathLoose.max_long.x Lib.MathLoose.max_long.code 4 (some .long) : Cond) ∈ wsL_law := rL_21 _ (List.mem_of_getElem? (i := 0) rfl)
theorem mL_21_1 : (.fieldLink RX8 67 "TributePitches$Take" "pay" "J" : Cond) ∈ wsL_law := rL_21 _ (List.mem_of_getElem? (i := 1) rfl)
theorem mL_21_2 : (.fieldLink RX8 70 "TributePitches$Gang" "owed" "J" : Cond) ∈ wsL_law := rL_21 _ (List.mem_of_getElem? (i := 2) rfl)
theorem mL_21_3 : (.fieldLink RX8 73 "TributePitches$Take" "settled" "Z" : Cond) ∈ wsL_law := rL_21 _ (List.mem_of_getElem? (i := 3) rfl)
theorem mL_21_4 : (.methodLink RX8 41 ⟨"TributePitches$Gang", "debtTaken", "()J"⟩ : Cond) ∈ wsL_law := rL_21 _ (List.mem_of_getElem? (i := 4) rfl)
theorem mL_21_5 : (.sameMethod "TributePitches$Gang" "TributePitches$Gang" "debtTaken" "()J" : Cond) ∈ wsL_law := rL_21 _ (List.mem_of_getElem? (i := 5) rfl)
theorem mL_21_6 : (.selects RX1 ⟨"TributePitches$Gang", "debtTaken", "()J"⟩ yX2_debtTaken : Cond) ∈ wsL_law := rL_21 _ (List.mem_of_getElem? (i := 6) rfl)
theorem mL_21_7 : (.instanceMethod yX2_debtTaken : Cond) ∈ wsL_law := rL_21 _ (List.mem_of_getElem? (i := 7) rfl)
theorem mL_21_8 : (.code yX2_debtTaken cX2_debtTaken 1 (some .long) : Cond) ∈ wsL_law := rL_21 _ (List.mem_of_getElem? (i := 8) rfl)
theorem mL_21_9 : (.fieldLink RX2 15 "TributePitches$Gang" "owed" "J" : Cond) ∈ wsL_law := rL_21 _ (List.mem_of_getElem? (i := 9) rfl)
theorem mL_21_10 : (.methodLink RX8 41 yX2_debtTaken : Cond) ∈ wsL_law := rL_21 _ (List.mem_of_getElem? (i := 10) rfl)
theorem mL_21_11 : (.selects RX2 yX2_debtTaken yX2_debtTaken : Cond) ∈ wsL_law := rL_21 _ (List.mem_of_getElem? (i := 11) rfl)
theorem mL_21_12 : (.instanceMethod ⟨"TributePitches$Gang", "debtTaken", "()J"⟩ : Cond) ∈ wsL_law := rL_21 _ (List.mem_of_getElem? (i := 12) rfl)
theorem mL_21_13 : (.selects RX4 ⟨"TributePitches$Gang", "debtTaken", "()J"⟩ yX4_debtTaken : Cond) ∈ wsL_law := rL_21 _ (List.mem_of_getElem? (i := 13) rfl)
theorem mL_21_14 : (.instanceMethod yX4_debtTaken : Cond) ∈ wsL_law := rL_21 _ (List.mem_of_getElem? (i := 14) rfl)
theorem mL_21_15 : (.code yX4_debtTaken cX4_debtTaken 1 (some .long) : Cond) ∈ wsL_law := rL_21 _ (List.mem_of_getElem? (i := 15) rfl)
theorem mL_21_16 : (.fieldLink RX4 7 "TributePitches$OldHands" "owed" "J" : Cond) ∈ wsL_law := rL_21 _ (List.mem_of_getElem? (i := 16) rfl)
theorem mL_21_17 : (.sameField "TributePitches$OldHands" "TributePitches$Gang" "owed" "J" : Cond) ∈ wsL_law := rL_21 _ (List.mem_of_getElem? (i := 17) rfl)
theorem mL_21_18 : (.constantLong RX4 13 (2) : Cond) ∈ wsL_law := rL_21 _ (List.mem_of_getElem? (i := 18) rfl)
theorem mL_21_19 : (.methodLink RX8 54 ⟨"TributePitches$Gang", "costsBorne", "(J)J"⟩ : Cond) ∈ wsL_law := rL_21 _ (List.mem_of_getElem? (i := 19) rfl)
theorem mL_21_20 : (.sameMethod "TributePitches$Gang" "TributePitches$Gang" "costsBorne" "(J)J" : Cond) ∈ wsL_law := rL_21 _ (List.mem_of_getElem? (i := 20) rfl)
theorem mL_21_21 : (.instanceMethod ⟨"TributePitches$Gang", "costsBorne", "(J)J"⟩ : Cond) ∈ wsL_law := rL_21 _ (List.mem_of_getElem? (i := 21) rfl)
theorem mL_21_22 : (.selects RX1 ⟨"TributePitches$Gang", "costsBorne", "(J)J"⟩ yX1_costsBorne : Cond) ∈ wsL_law := rL_21 _ (List.mem_of_getElem? (i := 22) rfl)
theorem mL_21_23 : (.instanceMethod yX1_costsBorne : Cond) ∈ wsL_law := rL_21 _ (List.mem_of_getElem? (i := 23) rfl)
theorem rL_22 : ∀ w ∈ wsL_law_r23, w ∈ wsL_law := fun w h => List.mem_append_left _ (List.mem_append_left _ (List.mem_append_left _ (List.mem_append_left _ (List.mem_append_left _ (List.mem_append_left _ (List.mem_append_left _ (List.mem_append_left _ (List.mem_append_left _ (List.mem_append_left _ (List.mem_append_left _ (List.mem_append_left _ (List.mem_append_left _ (List.mem_append_right _ (List.mem_append_right _ (List.mem_append_right _ (List.mem_append_right _ (List.mem_append_right _ (List.mem_append_right _ (List.mem_append_right _ (List.mem_append_right _ (List.mem_append_right _ (List.mem_append_right _ (List.mem_append_right _ (List.mem_append_right _ (List.mem_append_right _ (List.mem_append_right _ (List.mem_append_right _ (List.mem_append_right _ (List.mem_append_right _ (List.mem_append_right _ (List.mem_append_right _ (List.mem_append_right _ (List.mem_append_right _ (List.mem_append_right _ (List.mem_append_left _ h)))))))))))))))))))))))))))))))))))
theorem mL_22_0 : (.code yX1_costsBorne cX1_costsBorne 3 (some .long) : Cond) ∈ wsL_law := rL_22 _ (List.mem_of_getElem? (i := 0) rfl)
theorem mL_22_1 : (.constantLong RX1 7 (2) : Cond) ∈ wsL_law := rL_22 _ (List.mem_of_getElem? (i := 1) rfl)
theorem mL_22_2 : (.code yX2_costsBorne cX2_costsBorne 3 (some .long) : Cond) ∈ wsL_law := rL_22 _ (List.mem_of_getElem? (i := 2) rfl)
theorem mL_22_3 : (.methodLink RX8 54 yX2_costsBorne : Cond) ∈ wsL_law := rL_22 _ (List.mem_of_getElem? (i := 3) rfl)
theorem mL_22_4 : (.instanceMethod yX2_costsBorne : Cond) ∈ wsL_law := rL_22 _ (List.mem_of_getElem? (i := 4) rfl)
theorem mL_22_5 : (.selects RX2 yX2_costsBorne yX2_costsBorne : Cond) ∈ wsL_law := rL_22 _ (List.mem_of_getElem? (i := 5) rfl)
theorem mL_22_6 : (.selects RX4 ⟨"TributePitches$Gang", "costsBorne", "(J)J"⟩ yX1_costsBorne : Cond) ∈ wsL_law := rL_22 _ (List.mem_of_getElem? (i := 6) rfl)
theorem mL_22_7 : (.methodLink RL 77 yX11_settle : Cond) ∈ wsL_law := rL_22 _ (List.mem_of_getElem? (i := 7) rfl)
theorem mL_22_8 : (.instanceMethod yX11_settle : Cond) ∈ wsL_law := rL_22 _ (List.mem_of_getElem? (i := 8) rfl)
theorem mL_22_9 : (.selects RX11 yX11_settle yX11_settle : Cond) ∈ wsL_law := rL_22 _ (List.mem_of_getElem? (i := 9) rfl)
theorem mL_22_10 : (.code yX11_settle cX11_settle 7 (some .long) : Cond) ∈ wsL_law := rL_22 _ (List.mem_of_getElem? (i := 10) rfl)
theorem mL_22_11 : (.methodLink RX11 222 yX11_worthOf : Cond) ∈ wsL_law := rL_22 _ (List.mem_of_getElem? (i := 11) rfl)
theorem mL_22_12 : (.instanceMethod yX11_worthOf : Cond) ∈ wsL_law := rL_22 _ (List.mem_of_getElem? (i := 12) rfl)
theorem mL_22_13 : (.selects RX11 yX11_worthOf yX11_worthOf : Cond) ∈ wsL_law := rL_22 _ (List.mem_of_getElem? (i := 13) rfl)
theorem mL_22_14 : (.code yX11_worthOf cX11_worthOf 5 (some .long) : Cond) ∈ wsL_law := rL_22 _ (List.mem_of_getElem? (i := 14) rfl)
theorem mL_22_15 : (.methodLink RL 78 yX10_taken : Cond) ∈ wsL_law := rL_22 _ (List.mem_of_getElem? (i := 15) rfl)
theorem mL_22_16 : (.instanceMethod yX10_taken : Cond) ∈ wsL_law := rL_22 _ (List.mem_of_getElem? (i := 16) rfl)
theorem mL_22_17 : (.selects RX10 yX10_taken yX10_taken : Cond) ∈ wsL_law := rL_22 _ (List.mem_of_getElem? (i := 17) rfl)
theorem mL_22_18 : (.code yX10_taken cX10_taken 4 (some .int) : Cond) ∈ wsL_law := rL_22 _ (List.mem_of_getElem? (i := 18) rfl)
theorem mL_22_19 : (.fieldLink RX10 265 "TributePitches$Take" "gang" "LTributePitches$Gang;" : Cond) ∈ wsL_law := rL_22 _ (List.mem_of_getElem? (i := 19) rfl)
theorem mL_22_20 : (.fieldLink RX10 268 "TributePitches$Gang" "number" "I" : Cond) ∈ wsL_law := rL_22 _ (List.mem_of_getElem? (i := 20) rfl)
theorem mL_22_21 : (.fieldLink RX10 269 "TributePitches$Pitch" "number" "I" : Cond) ∈ wsL_law := rL_22 _ (List.mem_of_getElem? (i := 21) rfl)
theorem mL_22_22 : (.fieldLink RX10 270 "TributePitches$Take" "share" "I" : Cond) ∈ wsL_law := rL_22 _ (List.mem_of_getElem? (i := 22) rfl)
theorem mL_22_23 : (.methodLink RL 81 yX11_taken : Cond) ∈ wsL_law := rL_22 _ (List.mem_of_getElem? (i := 23) rfl)
theorem rL_23 : ∀ w ∈ wsL_law_r24, w ∈ wsL_law := fun w h => List.mem_append_left _ (List.mem_append_left _ (List.mem_append_left _ (List.mem_append_left _ (List.mem_append_left _ (List.mem_append_left _ (List.mem_append_left _ (List.mem_append_left _ (List.mem_append_left _ (List.mem_append_left _ (List.mem_append_left _ (List.mem_append_left _ (List.mem_append_left _ (List.mem_append_right _ (List.mem_append_right _ (List.mem_append_right _ (List.mem_append_right _ (List.mem_append_right _ (List.mem_append_right _ (List.mem_append_right _ (List.mem_append_right _ (List.mem_append_right _ (List.mem_append_right _ (List.mem_append_right _ (List.mem_append_right _ (List.mem_append_right _ (List.mem_append_right _ (List.mem_append_right _ (List.mem_append_right _ (List.mem_append_right _ (List.mem_append_right _ (List.mem_append_right _ (List.mem_append_right _ (List.mem_append_right _ (List.mem_append_right _ (List.mem_append_right _ (List.mem_append_left _ h))))))))))))))))))))))))))))))))))))
theorem mL_23_0 : (.instanceMethod yX11_taken : Cond) ∈ wsL_law := rL_23 _ (List.mem_of_getElem? (i := 0) rfl)
theorem mL_23_1 : (.selects RX11 yX11_taken yX11_taken : Cond) ∈ wsL_law := rL_23 _ (List.mem_of_getElem? (i := 1) rfl)
theorem mL_23_2 : (.code yX11_taken cX11_taken 3 (some .int) : Cond) ∈ wsL_law := rL_23 _ (List.mem_of_getElem? (i := 2) rfl)
theorem mL_23_3 : (.methodLink RX11 225 yX11_parcelsOf : Cond) ∈ wsL_law := rL_23 _ (List.mem_of_getElem? (i := 3) rfl)
theorem mL_23_4 : (.instanceMethod yX11_parcelsOf : Cond) ∈ wsL_law := rL_23 _ (List.mem_of_getElem? (i := 4) rfl)
theorem mL_23_5 : (.selects RX11 yX11_parcelsOf yX11_parcelsOf : Cond) ∈ wsL_law := rL_23 _ (List.mem_of_getElem? (i := 5) rfl)
theorem mL_23_6 : (.code yX11_parcelsOf cX11_parcelsOf 4 (some .int) : Cond) ∈ wsL_law := rL_23 _ (List.mem_of_getElem? (i := 6) rfl)
theorem mL_23_7 : (.methodLink RL 82 yX10_money : Cond) ∈ wsL_law := rL_23 _ (List.mem_of_getElem? (i := 7) rfl)
theorem mL_23_8 : (.instanceMethod yX10_money : Cond) ∈ wsL_law := rL_23 _ (List.mem_of_getElem? (i := 8) rfl)
theorem mL_23_9 : (.selects RX10 yX10_money yX10_money : Cond) ∈ wsL_law := rL_23 _ (List.mem_of_getElem? (i := 9) rfl)
theorem mL_23_10 : (.code yX10_money cX10_money 4 (some .long) : Cond) ∈ wsL_law := rL_23 _ (List.mem_of_getElem? (i := 10) rfl)
theorem mL_23_11 : (.methodLink RL 85 yX11_money : Cond) ∈ wsL_law := rL_23 _ (List.mem_of_getElem? (i := 11) rfl)
theorem mL_23_12 : (.instanceMethod yX11_money : Cond) ∈ wsL_law := rL_23 _ (List.mem_of_getElem? (i := 12) rfl)
theorem mL_23_13 : (.selects RX11 yX11_money yX11_money : Cond) ∈ wsL_law := rL_23 _ (List.mem_of_getElem? (i := 13) rfl)
theorem mL_23_14 : (.code yX11_money cX11_money 3 (some .long) : Cond) ∈ wsL_law := rL_23 _ (List.mem_of_getElem? (i := 14) rfl)
theorem mL_23_15 : (.methodLink RL 86 yX10_debt : Cond) ∈ wsL_law := rL_23 _ (List.mem_of_getElem? (i := 15) rfl)
theorem mL_23_16 : (.instanceMethod yX10_debt : Cond) ∈ wsL_law := rL_23 _ (List.mem_of_getElem? (i := 16) rfl)
theorem mL_23_17 : (.selects RX10 yX10_debt yX10_debt : Cond) ∈ wsL_law := rL_23 _ (List.mem_of_getElem? (i := 17) rfl)
theorem mL_23_18 : (.code yX10_debt cX10_debt 3 (some .long) : Cond) ∈ wsL_law := rL_23 _ (List.mem_of_getElem? (i := 18) rfl)
theorem mL_23_19 : (.fieldLink RX10 271 "TributePitches$Gang" "owed" "J" : Cond) ∈ wsL_law := rL_23 _ (List.mem_of_getElem? (i := 19) rfl)
theorem mL_23_20 : (.methodLink RL 89 yX11_debt : Cond) ∈ wsL_law := rL_23 _ (List.mem_of_getElem? (i := 20) rfl)
theorem mL_23_21 : (.instanceMethod yX11_debt : Cond) ∈ wsL_law := rL_23 _ (List.mem_of_getElem? (i := 21) rfl)
theorem mL_23_22 : (.selects RX11 yX11_debt yX11_debt : Cond) ∈ wsL_law := rL_23 _ (List.mem_of_getElem? (i := 22) rfl)
theorem mL_23_23 : (.code yX11_debt cX11_debt 2 (some .long) : Cond) ∈ wsL_law := rL_23 _ (List.mem_of_getElem? (i := 23) rfl)
theorem rL_24 : ∀ w ∈ wsL_law_r25, w ∈ wsL_law := fun w h => List.mem_append_left _ (List.mem_append_left _ (List.mem_append_left _ (List.mem_append_left _ (List.mem_append_left _ (List.mem_append_left _ (List.mem_append_left _ (List.mem_append_left _ (List.mem_append_left _ (List.mem_append_left _ (List.mem_append_left _ (List.mem_append_left _ (List.mem_append_left _ (List.mem_append_right _ (List.mem_append_right _ (List.mem_append_right _ (List.mem_append_right _ (List.mem_append_right _ (List.mem_append_right _ (List.mem_append_right _ (List.mem_append_right _ (List.mem_append_right _ (List.mem_append_right _ (List.mem_append_right _ (List.mem_append_right _ (List.mem_append_right _ (List.mem_append_right _ (List.mem_append_right _ (List.mem_append_right _ (List.mem_append_right _ (List.mem_append_right _ (List.mem_append_right _ (List.mem_append_right _ (List.mem_append_right _ (List.mem_append_right _ (List.mem_append_right _ (List.mem_append_right _ (List.mem_append_left _ h)))))))))))))))))))))))))))))))))))))
theorem mL_24_0 : (.methodLink RL 90 yX10_suspects : Cond) ∈ wsL_law := rL_24 _ (List.mem_of_getElem? (i := 0) rfl)
theorem mL_24_1 : (.instanceMethod yX10_suspects : Cond) ∈ wsL_law := rL_24 _ (List.mem_of_getElem? (i := 1) rfl)
theorem mL_24_2 : (.selects RX10 yX10_suspects yX10_suspects : Cond) ∈ wsL_law := rL_24 _ (List.mem_of_getElem? (i := 2) rfl)
theorem mL_24_3 : (.code yX10_suspects cX10_suspects 3 (some .int) : Cond) ∈ wsL_law := rL_24 _ (List.mem_of_getElem? (i := 3) rfl)
theorem mL_24_4 : (.methodLink RX10 274 yX5_isSuspect : Cond) ∈ wsL_law := rL_24 _ (List.mem_of_getElem? (i := 4) rfl)
theorem mL_24_5 : (.instanceMethod yX5_isSuspect : Cond) ∈ wsL_law := rL_24 _ (List.mem_of_getElem? (i := 5) rfl)
theorem mL_24_6 : (.selects RX5 yX5_isSuspect yX5_isSuspect : Cond) ∈ wsL_law := rL_24 _ (List.mem_of_getElem? (i := 6) rfl)
theorem mL_24_7 : (.code yX5_isSuspect cX5_isSuspect 2 (some .boolean) : Cond) ∈ wsL_law := rL_24 _ (List.mem_of_getElem? (i := 7) rfl)
theorem mL_24_8 : (.fieldLink RX5 17 "TributePitches$Lode" "highs" "[I" : Cond) ∈ wsL_law := rL_24 _ (List.mem_of_getElem? (i := 8) rfl)
theorem mL_24_9 : (.methodLink RX5 23 yX6_greatestOf : Cond) ∈ wsL_law := rL_24 _ (List.mem_of_getElem? (i := 9) rfl)
theorem mL_24_10 : (.instanceMethod yX6_greatestOf : Cond) ∈ wsL_law := rL_24 _ (List.mem_of_getElem? (i := 10) rfl)
theorem mL_24_11 : (.selects RX6 yX6_greatestOf yX6_greatestOf : Cond) ∈ wsL_law := rL_24 _ (List.mem_of_getElem? (i := 11) rfl)
theorem mL_24_12 : (.code yX6_greatestOf cX6_greatestOf 5 (some .int) : Cond) ∈ wsL_law := rL_24 _ (List.mem_of_getElem? (i := 12) rfl)
theorem mL_24_13 : (.methodLink RX6 34 Lib.Math.max.name : Cond) ∈ wsL_law := rL_24 _ (List.mem_of_getElem? (i := 13) rfl)
theorem mL_24_14 : (.methodLink RL 93 yX11_suspects : Cond) ∈ wsL_law := rL_24 _ (List.mem_of_getElem? (i := 14) rfl)
theorem mL_24_15 : (.instanceMethod yX11_suspects : Cond) ∈ wsL_law := rL_24 _ (List.mem_of_getElem? (i := 15) rfl)
theorem mL_24_16 : (.selects RX11 yX11_suspects yX11_suspects : Cond) ∈ wsL_law := rL_24 _ (List.mem_of_getElem? (i := 16) rfl)
theorem mL_24_17 : (.code yX11_suspects cX11_suspects 3 (some .int) : Cond) ∈ wsL_law := rL_24 _ (List.mem_of_getElem? (i := 17) rfl)
theorem mL_24_18 : (.methodLink RX11 228 yX11_isSuspect : Cond) ∈ wsL_law := rL_24 _ (List.mem_of_getElem? (i := 18) rfl)
theorem mL_24_19 : (.instanceMethod yX11_isSuspect : Cond) ∈ wsL_law := rL_24 _ (List.mem_of_getElem? (i := 19) rfl)
theorem mL_24_20 : (.selects RX11 yX11_isSuspect yX11_isSuspect : Cond) ∈ wsL_law := rL_24 _ (List.mem_of_getElem? (i := 20) rfl)
theorem mL_24_21 : (.code yX11_isSuspect cX11_isSuspect 5 (some .boolean) : Cond) ∈ wsL_law := rL_24 _ (List.mem_of_getElem? (i := 21) rfl)
theorem mL_24_22 : (.methodLink RL 94 yX10_suspect : Cond) ∈ wsL_law := rL_24 _ (List.mem_of_getElem? (i := 22) rfl)
theorem mL_24_23 : (.instanceMethod yX10_suspect : Cond) ∈ wsL_law := rL_24 _ (List.mem_of_getElem? (i := 23) rfl)
theorem rL_25 : ∀ w ∈ wsL_law_r26, w ∈ wsL_law := fun w h => List.mem_append_left _ (List.mem_append_left _ (List.mem_append_left _ (List.mem_append_left _ (List.mem_append_left _ (List.mem_append_left _ (List.mem_append_left _ (List.mem_append_left _ (List.mem_append_left _ (List.mem_append_left _ (List.mem_append_left _ (List.mem_append_left _ (List.mem_append_left _ (List.mem_append_right _ (List.mem_append_right _ (List.mem_append_right _ (List.mem_append_right _ (List.mem_append_right _ (List.mem_append_right _ (List.mem_append_right _ (List.mem_append_right _ (List.mem_append_right _ (List.mem_append_right _ (List.mem_append_right _ (List.mem_append_right _ (List.mem_append_right _ (List.mem_append_right _ (List.mem_append_right _ (List.mem_append_right _ (List.mem_append_right _ (List.mem_append_right _ (List.mem_append_right _ (List.mem_append_right _ (List.mem_append_right _ (List.mem_append_right _ (List.mem_append_right _ (List.mem_append_right _ (List.mem_append_right _ (List.mem_append_left _ h))))))))))))))))))))))))))))))))))))))
theorem mL_25_0 : (.selects RX10 yX10_suspect yX10_suspect : Cond) ∈ wsL_law := rL_25 _ (List.mem_of_getElem? (i := 0) rfl)
theorem mL_25_1 : (.code yX10_suspect cX10_suspect 4 (some .int) : Cond) ∈ wsL_law := rL_25 _ (List.mem_of_getElem? (i := 1) rfl)
theorem mL_25_2 : (.methodLink RL 97 yX11_suspect : Cond) ∈ wsL_law := rL_25 _ (List.mem_of_getElem? (i := 2) rfl)
theorem mL_25_3 : (.instanceMethod yX11_suspect : Cond) ∈ wsL_law := rL_25 _ (List.mem_of_getElem? (i := 3) rfl)
theorem mL_25_4 : (.selects RX11 yX11_suspect yX11_suspect : Cond) ∈ wsL_law := rL_25 _ (List.mem_of_getElem? (i := 4) rfl)
theorem mL_25_5 : (.code yX11_suspect cX11_suspect 4 (some .int) : Cond) ∈ wsL_law := rL_25 _ (List.mem_of_getElem? (i := 5) rfl)
theorem mL_25_6 : (.methodLink RL 98 yX10_skill : Cond) ∈ wsL_law := rL_25 _ (List.mem_of_getElem? (i := 6) rfl)
theorem mL_25_7 : (.instanceMethod yX10_skill : Cond) ∈ wsL_law := rL_25 _ (List.mem_of_getElem? (i := 7) rfl)
theorem mL_25_8 : (.selects RX10 yX10_skill yX10_skill : Cond) ∈ wsL_law := rL_25 _ (List.mem_of_getElem? (i := 8) rfl)
theorem mL_25_9 : (.code yX10_skill cX10_skill 12 (some .long) : Cond) ∈ wsL_law := rL_25 _ (List.mem_of_getElem? (i := 9) rfl)
theorem mL_25_10 : (.constantLong RX10 278 (2) : Cond) ∈ wsL_law := rL_25 _ (List.mem_of_getElem? (i := 10) rfl)
theorem mL_25_11 : (.methodLink RX10 280 yX10_commonDivisor : Cond) ∈ wsL_law := rL_25 _ (List.mem_of_getElem? (i := 11) rfl)
theorem mL_25_12 : (.static yX10_commonDivisor : Cond) ∈ wsL_law := rL_25 _ (List.mem_of_getElem? (i := 12) rfl)
theorem mL_25_13 : (.code yX10_commonDivisor cX10_commonDivisor 11 (some .long) : Cond) ∈ wsL_law := rL_25 _ (List.mem_of_getElem? (i := 13) rfl)
theorem mL_25_14 : (.methodLink RL 101 yX11_skill : Cond) ∈ wsL_law := rL_25 _ (List.mem_of_getElem? (i := 14) rfl)
theorem mL_25_15 : (.instanceMethod yX11_skill : Cond) ∈ wsL_law := rL_25 _ (List.mem_of_getElem? (i := 15) rfl)
theorem mL_25_16 : (.selects RX11 yX11_skill yX11_skill : Cond) ∈ wsL_law := rL_25 _ (List.mem_of_getElem? (i := 16) rfl)
theorem mL_25_17 : (.code yX11_skill cX11_skill 10 (some .long) : Cond) ∈ wsL_law := rL_25 _ (List.mem_of_getElem? (i := 17) rfl)
theorem mL_25_18 : (.methodLink RX11 231 yX11_common : Cond) ∈ wsL_law := rL_25 _ (List.mem_of_getElem? (i := 18) rfl)
theorem mL_25_19 : (.static yX11_common : Cond) ∈ wsL_law := rL_25 _ (List.mem_of_getElem? (i := 19) rfl)
theorem mL_25_20 : (.code yX11_common cX11_common 10 (some .long) : Cond) ∈ wsL_law := rL_25 _ (List.mem_of_getElem? (i := 20) rfl)
theorem mL_25_21 : (.methodLink RL 102 yX10_sheet : Cond) ∈ wsL_law := rL_25 _ (List.mem_of_getElem? (i := 21) rfl)
theorem mL_25_22 : (.instanceMethod yX10_sheet : Cond) ∈ wsL_law := rL_25 _ (List.mem_of_getElem? (i := 22) rfl)
theorem mL_25_23 : (.selects RX10 yX10_sheet yX10_sheet : Cond) ∈ wsL_law := rL_25 _ (List.mem_of_getElem? (i := 23) rfl)
theorem rL_26 : ∀ w ∈ wsL_law_r27, w ∈ wsL_law := fun w h => List.mem_append_left _ (List.mem_append_left _ (List.mem_append_left _ (List.mem_append_left _ (List.mem_append_left _ (List.mem_append_left _ (List.mem_append_left _ (List.mem_append_left _ (List.mem_append_left _ (List.mem_append_left _ (List.mem_append_left _ (List.mem_append_left _ (List.mem_append_left _ (List.mem_append_right _ (List.mem_append_right _ (List.mem_append_right _ (List.mem_append_right _ (List.mem_append_right _ (List.mem_append_right _ (List.mem_append_right _ (List.mem_append_right _ (List.mem_append_right _ (List.mem_append_right _ (List.mem_append_right _ (List.mem_append_right _ (List.mem_append_right _ (List.mem_append_right _ (List.mem_append_right _ (List.mem_append_right _ (List.mem_append_right _ (List.mem_append_right _ (List.mem_append_right _ (List.mem_append_right _ (List.mem_append_right _ (List.mem_append_right _ (List.mem_append_right _ (List.mem_append_right _ (List.mem_append_right _ (List.mem_append_right _ (List.mem_append_left _ h)))))))))))))))))))))))))))))))))))))))
theorem mL_26_0 : (.code yX10_sheet cX10_sheet 5 (some .int) : Cond) ∈ wsL_law := rL_26 _ (List.mem_of_getElem? (i := 0) rfl)
theorem mL_26_1 : (.methodLink RX10 284 yX7_renew : Cond) ∈ wsL_law := rL_26 _ (List.mem_of_getElem? (i := 1) rfl)
theorem mL_26_2 : (.instanceMethod yX7_renew : Cond) ∈ wsL_law := rL_26 _ (List.mem_of_getElem? (i := 2) rfl)
theorem mL_26_3 : (.selects RX7 yX7_renew yX7_renew : Cond) ∈ wsL_law := rL_26 _ (List.mem_of_getElem? (i := 3) rfl)
theorem mL_26_4 : (.code yX7_renew cX7_renew 3 none : Cond) ∈ wsL_law := rL_26 _ (List.mem_of_getElem? (i := 4) rfl)
theorem mL_26_5 : (.methodLink RX7 23 yJ7_fill_53178 : Cond) ∈ wsL_law := rL_26 _ (List.mem_of_getElem? (i := 5) rfl)
theorem mL_26_6 : (.methodLink RL 105 yX11_sheet : Cond) ∈ wsL_law := rL_26 _ (List.mem_of_getElem? (i := 6) rfl)
theorem mL_26_7 : (.instanceMethod yX11_sheet : Cond) ∈ wsL_law := rL_26 _ (List.mem_of_getElem? (i := 7) rfl)
theorem mL_26_8 : (.selects RX11 yX11_sheet yX11_sheet : Cond) ∈ wsL_law := rL_26 _ (List.mem_of_getElem? (i := 8) rfl)
theorem mL_26_9 : (.code yX11_sheet cX11_sheet 5 (some .int) : Cond) ∈ wsL_law := rL_26 _ (List.mem_of_getElem? (i := 9) rfl)
theorem mL_26_10 : (.methodLink RL 106 yX10_lose : Cond) ∈ wsL_law := rL_26 _ (List.mem_of_getElem? (i := 10) rfl)
theorem mL_26_11 : (.instanceMethod yX10_lose : Cond) ∈ wsL_law := rL_26 _ (List.mem_of_getElem? (i := 11) rfl)
theorem mL_26_12 : (.selects RX10 yX10_lose yX10_lose : Cond) ∈ wsL_law := rL_26 _ (List.mem_of_getElem? (i := 12) rfl)
theorem mL_26_13 : (.code yX10_lose cX10_lose 3 (some .int) : Cond) ∈ wsL_law := rL_26 _ (List.mem_of_getElem? (i := 13) rfl)
theorem mL_26_14 : (.methodLink RX10 288 yX7_hasNothing : Cond) ∈ wsL_law := rL_26 _ (List.mem_of_getElem? (i := 14) rfl)
theorem mL_26_15 : (.methodLink RL 109 yX11_lose : Cond) ∈ wsL_law := rL_26 _ (List.mem_of_getElem? (i := 15) rfl)
theorem mL_26_16 : (.instanceMethod yX11_lose : Cond) ∈ wsL_law := rL_26 _ (List.mem_of_getElem? (i := 16) rfl)
theorem mL_26_17 : (.selects RX11 yX11_lose yX11_lose : Cond) ∈ wsL_law := rL_26 _ (List.mem_of_getElem? (i := 17) rfl)
theorem mL_26_18 : (.code yX11_lose cX11_lose 3 (some .int) : Cond) ∈ wsL_law := rL_26 _ (List.mem_of_getElem? (i := 18) rfl)
theorem mL_26_19 : (.methodLink RL 110 yX10_put : Cond) ∈ wsL_law := rL_26 _ (List.mem_of_getElem? (i := 19) rfl)
theorem mL_26_20 : (.instanceMethod yX10_put : Cond) ∈ wsL_law := rL_26 _ (List.mem_of_getElem? (i := 20) rfl)
theorem mL_26_21 : (.selects RX10 yX10_put yX10_put : Cond) ∈ wsL_law := rL_26 _ (List.mem_of_getElem? (i := 21) rfl)
theorem mL_26_22 : (.code yX10_put cX10_put 5 (some .int) : Cond) ∈ wsL_law := rL_26 _ (List.mem_of_getElem? (i := 22) rfl)
theorem mL_26_23 : (.methodLink RX10 292 yX7_cut : Cond) ∈ wsL_law := rL_26 _ (List.mem_of_getElem? (i := 23) rfl)
theorem rL_27 : ∀ w ∈ wsL_law_r28, w ∈ wsL_law := fun w h => List.mem_append_left _ (List.mem_append_left _ (List.mem_append_left _ (List.mem_append_left _ (List.mem_append_left _ (List.mem_append_left _ (List.mem_append_left _ (List.mem_append_left _ (List.mem_append_left _ (List.mem_append_left _ (List.mem_append_left _ (List.mem_append_left _ (List.mem_append_left _ (List.mem_append_right _ (List.mem_append_right _ (List.mem_append_right _ (List.mem_append_right _ (List.mem_append_right _ (List.mem_append_right _ (List.mem_append_right _ (List.mem_append_right _ (List.mem_append_right _ (List.mem_append_right _ (List.mem_append_right _ (List.mem_append_right _ (List.mem_append_right _ (List.mem_append_right _ (List.mem_append_right _ (List.mem_append_right _ (List.mem_append_right _ (List.mem_append_right _ (List.mem_append_right _ (List.mem_append_right _ (List.mem_append_right _ (List.mem_append_right _ (List.mem_append_right _ (List.mem_append_right _ (List.mem_append_right _ (List.mem_append_right _ (List.mem_append_right _ (List.mem_append_left _ h))))))))))))))))))))))))))))))))))))))))
theorem mL_27_0 : (.instanceMethod yX7_cut : Cond) ∈ wsL_law := rL_27 _ (List.mem_of_getElem? (i := 0) rfl)
theorem mL_27_1 : (.selects RX7 yX7_cut yX7_cut : Cond) ∈ wsL_law := rL_27 _ (List.mem_of_getElem? (i := 1) rfl)
theorem mL_27_2 : (.code yX7_cut cX7_cut 2 (some .int) : Cond) ∈ wsL_law := rL_27 _ (List.mem_of_getElem? (i := 2) rfl)
theorem mL_27_3 : (.methodLink RL 113 yX11_put : Cond) ∈ wsL_law := rL_27 _ (List.mem_of_getElem? (i := 3) rfl)
theorem mL_27_4 : (.instanceMethod yX11_put : Cond) ∈ wsL_law := rL_27 _ (List.mem_of_getElem? (i := 4) rfl)
theorem mL_27_5 : (.selects RX11 yX11_put yX11_put : Cond) ∈ wsL_law := rL_27 _ (List.mem_of_getElem? (i := 5) rfl)
theorem mL_27_6 : (.code yX11_put cX11_put 4 (some .int) : Cond) ∈ wsL_law := rL_27 _ (List.mem_of_getElem? (i := 6) rfl)
theorem mL_27_7 : (.methodLink RX11 156 yX11_noCell : Cond) ∈ wsL_law := rL_27 _ (List.mem_of_getElem? (i := 7) rfl)
theorem mL_27_8 : (.instanceMethod yX11_noCell : Cond) ∈ wsL_law := rL_27 _ (List.mem_of_getElem? (i := 8) rfl)
theorem mL_27_9 : (.selects RX11 yX11_noCell yX11_noCell : Cond) ∈ wsL_law := rL_27 _ (List.mem_of_getElem? (i := 9) rfl)
theorem mL_27_10 : (.code yX11_noCell cX11_noCell 3 (some .int) : Cond) ∈ wsL_law := rL_27 _ (List.mem_of_getElem? (i := 10) rfl)
theorem mL_27_11 : (.methodLink RL 114 yX10_cell : Cond) ∈ wsL_law := rL_27 _ (List.mem_of_getElem? (i := 11) rfl)
theorem mL_27_12 : (.instanceMethod yX10_cell : Cond) ∈ wsL_law := rL_27 _ (List.mem_of_getElem? (i := 12) rfl)
theorem mL_27_13 : (.selects RX10 yX10_cell yX10_cell : Cond) ∈ wsL_law := rL_27 _ (List.mem_of_getElem? (i := 13) rfl)
theorem mL_27_14 : (.code yX10_cell cX10_cell 5 (some .long) : Cond) ∈ wsL_law := rL_27 _ (List.mem_of_getElem? (i := 14) rfl)
theorem mL_27_15 : (.methodLink RL 117 yX11_cell : Cond) ∈ wsL_law := rL_27 _ (List.mem_of_getElem? (i := 15) rfl)
theorem mL_27_16 : (.instanceMethod yX11_cell : Cond) ∈ wsL_law := rL_27 _ (List.mem_of_getElem? (i := 16) rfl)
theorem mL_27_17 : (.selects RX11 yX11_cell yX11_cell : Cond) ∈ wsL_law := rL_27 _ (List.mem_of_getElem? (i := 17) rfl)
theorem mL_27_18 : (.code yX11_cell cX11_cell 4 (some .long) : Cond) ∈ wsL_law := rL_27 _ (List.mem_of_getElem? (i := 18) rfl)
theorem mL_27_19 : (.methodLink RX11 160 yX11_failedLong : Cond) ∈ wsL_law := rL_27 _ (List.mem_of_getElem? (i := 19) rfl)
theorem mL_27_20 : (.instanceMethod yX11_failedLong : Cond) ∈ wsL_law := rL_27 _ (List.mem_of_getElem? (i := 20) rfl)
theorem mL_27_21 : (.selects RX11 yX11_failedLong yX11_failedLong : Cond) ∈ wsL_law := rL_27 _ (List.mem_of_getElem? (i := 21) rfl)
theorem mL_27_22 : (.code yX11_failedLong cX11_failedLong 2 (some .long) : Cond) ∈ wsL_law := rL_27 _ (List.mem_of_getElem? (i := 22) rfl)
theorem mL_27_23 : (.methodLink RL 118 yX10_copy : Cond) ∈ wsL_law := rL_27 _ (List.mem_of_getElem? (i := 23) rfl)
theorem rL_28 : ∀ w ∈ wsL_law_r29, w ∈ wsL_law := fun w h => List.mem_append_left _ (List.mem_append_left _ (List.mem_append_left _ (List.mem_append_left _ (List.mem_append_left _ (List.mem_append_left _ (List.mem_append_left _ (List.mem_append_left _ (List.mem_append_left _ (List.mem_append_left _ (List.mem_append_left _ (List.mem_append_left _ (List.mem_append_left _ (List.mem_append_right _ (List.mem_append_right _ (List.mem_append_right _ (List.mem_append_right _ (List.mem_append_right _ (List.mem_append_right _ (List.mem_append_right _ (List.mem_append_right _ (List.mem_append_right _ (List.mem_append_right _ (List.mem_append_right _ (List.mem_append_right _ (List.mem_append_right _ (List.mem_append_right _ (List.mem_append_right _ (List.mem_append_right _ (List.mem_append_right _ (List.mem_append_right _ (List.mem_append_right _ (List.mem_append_right _ (List.mem_append_right _ (List.mem_append_right _ (List.mem_append_right _ (List.mem_append_right _ (List.mem_append_right _ (List.mem_append_right _ (List.mem_append_right _ (List.mem_append_right _ (List.mem_append_left _ h)))))))))))))))))))))))))))))))))))))))))
theorem mL_28_0 : (.instanceMethod yX10_copy : Cond) ∈ wsL_law := rL_28 _ (List.mem_of_getElem? (i := 0) rfl)
theorem mL_28_1 : (.selects RX10 yX10_copy yX10_copy : Cond) ∈ wsL_law := rL_28 _ (List.mem_of_getElem? (i := 1) rfl)
theorem mL_28_2 : (.code yX10_copy cX10_copy 8 (some .int) : Cond) ∈ wsL_law := rL_28 _ (List.mem_of_getElem? (i := 2) rfl)
theorem mL_28_3 : (.fieldLink RX10 295 "TributePitches$Sheet" "lane" "I" : Cond) ∈ wsL_law := rL_28 _ (List.mem_of_getElem? (i := 3) rfl)
theorem mL_28_4 : (.methodLink RX10 298 arraycopyName : Cond) ∈ wsL_law := rL_28 _ (List.mem_of_getElem? (i := 4) rfl)
theorem mL_28_5 : (.methodLink RL 121 yX11_copy : Cond) ∈ wsL_law := rL_28 _ (List.mem_of_getElem? (i := 5) rfl)
theorem mL_28_6 : (.instanceMethod yX11_copy : Cond) ∈ wsL_law := rL_28 _ (List.mem_of_getElem? (i := 6) rfl)
theorem mL_28_7 : (.selects RX11 yX11_copy yX11_copy : Cond) ∈ wsL_law := rL_28 _ (List.mem_of_getElem? (i := 7) rfl)
theorem mL_28_8 : (.code yX11_copy cX11_copy 7 (some .int) : Cond) ∈ wsL_law := rL_28 _ (List.mem_of_getElem? (i := 8) rfl)
theorem mL_28_9 : (.methodLink RL 122 yX10_tell : Cond) ∈ wsL_law := rL_28 _ (List.mem_of_getElem? (i := 9) rfl)
theorem mL_28_10 : (.instanceMethod yX10_tell : Cond) ∈ wsL_law := rL_28 _ (List.mem_of_getElem? (i := 10) rfl)
theorem mL_28_11 : (.selects RX10 yX10_tell yX10_tell : Cond) ∈ wsL_law := rL_28 _ (List.mem_of_getElem? (i := 11) rfl)
theorem mL_28_12 : (.code yX10_tell cX10_tell 3 (some .int) : Cond) ∈ wsL_law := rL_28 _ (List.mem_of_getElem? (i := 12) rfl)
theorem mL_28_13 : (.methodLink RX10 304 ⟨"TributePitches$Gang", "telling", "(LTributePitches$Trace;)I"⟩ : Cond) ∈ wsL_law := rL_28 _ (List.mem_of_getElem? (i := 13) rfl)
theorem mL_28_14 : (.sameMethod "TributePitches$Gang" "TributePitches$Gang" "telling" "(LTributePitches$Trace;)I" : Cond) ∈ wsL_law := rL_28 _ (List.mem_of_getElem? (i := 14) rfl)
theorem mL_28_15 : (.instanceMethod ⟨"TributePitches$Gang", "telling", "(LTributePitches$Trace;)I"⟩ : Cond) ∈ wsL_law := rL_28 _ (List.mem_of_getElem? (i := 15) rfl)
theorem mL_28_16 : (.selects RX1 ⟨"TributePitches$Gang", "telling", "(LTributePitches$Trace;)I"⟩ yX1_telling : Cond) ∈ wsL_law := rL_28 _ (List.mem_of_getElem? (i := 16) rfl)
theorem mL_28_17 : (.instanceMethod yX1_telling : Cond) ∈ wsL_law := rL_28 _ (List.mem_of_getElem? (i := 17) rfl)
theorem mL_28_18 : (.code yX1_telling cX1_telling 2 (some .int) : Cond) ∈ wsL_law := rL_28 _ (List.mem_of_getElem? (i := 18) rfl)
theorem mL_28_19 : (.methodLink RX1 9 yX9_leave : Cond) ∈ wsL_law := rL_28 _ (List.mem_of_getElem? (i := 19) rfl)
theorem mL_28_20 : (.instanceMethod yX9_leave : Cond) ∈ wsL_law := rL_28 _ (List.mem_of_getElem? (i := 20) rfl)
theorem mL_28_21 : (.selects RX9 yX9_leave yX9_leave : Cond) ∈ wsL_law := rL_28 _ (List.mem_of_getElem? (i := 21) rfl)
theorem mL_28_22 : (.code yX9_leave cX9_leave 2 none : Cond) ∈ wsL_law := rL_28 _ (List.mem_of_getElem? (i := 22) rfl)
theorem mL_28_23 : (.fieldLink RX9 7 "TributePitches$Trace" "number" "I" : Cond) ∈ wsL_law := rL_28 _ (List.mem_of_getElem? (i := 23) rfl)
theorem rL_29 : ∀ w ∈ wsL_law_r30, w ∈ wsL_law := fun w h => List.mem_append_left _ (List.mem_append_left _ (List.mem_append_left _ (List.mem_append_left _ (List.mem_append_left _ (List.mem_append_left _ (List.mem_append_left _ (List.mem_append_left _ (List.mem_append_left _ (List.mem_append_left _ (List.mem_append_left _ (List.mem_append_left _ (List.mem_append_left _ (List.mem_append_right _ (List.mem_append_right _ (List.mem_append_right _ (List.mem_append_right _ (List.mem_append_right _ (List.mem_append_right _ (List.mem_append_right _ (List.mem_append_right _ (List.mem_append_right _ (List.mem_append_right _ (List.mem_append_right _ (List.mem_append_right _ (List.mem_append_right _ (List.mem_append_right _ (List.mem_append_right _ (List.mem_append_right _ (List.mem_append_right _ (List.mem_append_right _ (List.mem_append_right _ (List.mem_append_right _ (List.mem_append_right _ (List.mem_append_right _ (List.mem_append_right _ (List.mem_append_right _ (List.mem_append_right _ (List.mem_append_right _ (List.mem_append_right _ (List.mem_append_right _ (List.mem_append_right _ (List.mem_append_left _ h))))))))))))))))))))))))))))))))))))))))))
theorem mL_29_0 : (.methodLink RX1 14 ⟨"TributePitches$Family", "tellingOfAnyGang", "(LTributePitches$Trace;)I"⟩ : Cond) ∈ wsL_law := rL_29 _ (List.mem_of_getElem? (i := 0) rfl)
theorem mL_29_1 : (.sameMethod "TributePitches$Family" "TributePitches$Gang" "tellingOfAnyGang" "(LTributePitches$Trace;)I" : Cond) ∈ wsL_law := rL_29 _ (List.mem_of_getElem? (i := 1) rfl)
theorem mL_29_2 : (.selects RX1 ⟨"TributePitches$Family", "tellingOfAnyGang", "(LTributePitches$Trace;)I"⟩ yX2_tellingOfAnyGang : Cond) ∈ wsL_law := rL_29 _ (List.mem_of_getElem? (i := 2) rfl)
theorem mL_29_3 : (.instanceMethod yX2_tellingOfAnyGang : Cond) ∈ wsL_law := rL_29 _ (List.mem_of_getElem? (i := 3) rfl)
theorem mL_29_4 : (.code yX2_tellingOfAnyGang cX2_tellingOfAnyGang 2 (some .int) : Cond) ∈ wsL_law := rL_29 _ (List.mem_of_getElem? (i := 4) rfl)
theorem mL_29_5 : (.fieldLink RX2 29 "TributePitches$Gang" "takesHad" "I" : Cond) ∈ wsL_law := rL_29 _ (List.mem_of_getElem? (i := 5) rfl)
theorem mL_29_6 : (.methodLink RX2 23 yX9_leave : Cond) ∈ wsL_law := rL_29 _ (List.mem_of_getElem? (i := 6) rfl)
theorem mL_29_7 : (.selects RX4 ⟨"TributePitches$Family", "tellingOfAnyGang", "(LTributePitches$Trace;)I"⟩ yX2_tellingOfAnyGang : Cond) ∈ wsL_law := rL_29 _ (List.mem_of_getElem? (i := 7) rfl)
theorem mL_29_8 : (.code yX2_telling cX2_telling 2 (some .int) : Cond) ∈ wsL_law := rL_29 _ (List.mem_of_getElem? (i := 8) rfl)
theorem mL_29_9 : (.methodLink RX10 304 yX2_telling : Cond) ∈ wsL_law := rL_29 _ (List.mem_of_getElem? (i := 9) rfl)
theorem mL_29_10 : (.instanceMethod yX2_telling : Cond) ∈ wsL_law := rL_29 _ (List.mem_of_getElem? (i := 10) rfl)
theorem mL_29_11 : (.selects RX2 yX2_telling yX2_telling : Cond) ∈ wsL_law := rL_29 _ (List.mem_of_getElem? (i := 11) rfl)
theorem mL_29_12 : (.methodLink RX2 19 ⟨"TributePitches$Gang", "tellingOfAnyGang", "(LTributePitches$Trace;)I"⟩ : Cond) ∈ wsL_law := rL_29 _ (List.mem_of_getElem? (i := 12) rfl)
theorem mL_29_13 : (.sameMethod "TributePitches$Gang" "TributePitches$Gang" "tellingOfAnyGang" "(LTributePitches$Trace;)I" : Cond) ∈ wsL_law := rL_29 _ (List.mem_of_getElem? (i := 13) rfl)
theorem mL_29_14 : (.selects RX1 ⟨"TributePitches$Gang", "tellingOfAnyGang", "(LTributePitches$Trace;)I"⟩ yX2_tellingOfAnyGang : Cond) ∈ wsL_law := rL_29 _ (List.mem_of_getElem? (i := 14) rfl)
theorem mL_29_15 : (.methodLink RX2 19 yX2_tellingOfAnyGang : Cond) ∈ wsL_law := rL_29 _ (List.mem_of_getElem? (i := 15) rfl)
theorem mL_29_16 : (.selects RX2 yX2_tellingOfAnyGang yX2_tellingOfAnyGang : Cond) ∈ wsL_law := rL_29 _ (List.mem_of_getElem? (i := 16) rfl)
theorem mL_29_17 : (.selects RX4 ⟨"TributePitches$Gang", "tellingOfAnyGang", "(LTributePitches$Trace;)I"⟩ yX2_tellingOfAnyGang : Cond) ∈ wsL_law := rL_29 _ (List.mem_of_getElem? (i := 17) rfl)
theorem mL_29_18 : (.selects RX4 ⟨"TributePitches$Gang", "telling", "(LTributePitches$Trace;)I"⟩ yX4_telling : Cond) ∈ wsL_law := rL_29 _ (List.mem_of_getElem? (i := 18) rfl)
theorem mL_29_19 : (.instanceMethod yX4_telling : Cond) ∈ wsL_law := rL_29 _ (List.mem_of_getElem? (i := 19) rfl)
theorem mL_29_20 : (.code yX4_telling cX4_telling 2 (some .int) : Cond) ∈ wsL_law := rL_29 _ (List.mem_of_getElem? (i := 20) rfl)
theorem mL_29_21 : (.methodLink RX4 15 yX9_leave : Cond) ∈ wsL_law := rL_29 _ (List.mem_of_getElem? (i := 21) rfl)
theorem mL_29_22 : (.methodLink RX4 20 ⟨"TributePitches$OldHands", "tellingOfAnyGang", "(LTributePitches$Trace;)I"⟩ : Cond) ∈ wsL_law := rL_29 _ (List.mem_of_getElem? (i := 22) rfl)
theorem mL_29_23 : (.sameMethod "TributePitches$OldHands" "TributePitches$Gang" "tellingOfAnyGang" "(LTributePitches$Trace;)I" : Cond) ∈ wsL_law := rL_29 _ (List.mem_of_getElem? (i := 23) rfl)
theorem rL_30 : ∀ w ∈ wsL_law_r31, w ∈ wsL_law := fun w h => List.mem_append_left _ (List.mem_append_left _ (List.mem_append_left _ (List.mem_append_left _ (List.mem_append_left _ (List.mem_append_left _ (List.mem_append_left _ (List.mem_append_left _ (List.mem_append_left _ (List.mem_append_left _ (List.mem_append_left _ (List.mem_append_left _ (List.mem_append_left _ (List.mem_append_right _ (List.mem_append_right _ (List.mem_append_right _ (List.mem_append_right _ (List.mem_append_right _ (List.mem_append_right _ (List.mem_append_right _ (List.mem_append_right _ (List.mem_append_right _ (List.mem_append_right _ (List.mem_append_right _ (List.mem_append_right _ (List.mem_append_right _ (List.mem_append_right _ (List.mem_append_right _ (List.mem_append_right _ (List.mem_append_right _ (List.mem_append_right _ (List.mem_append_right _ (List.mem_append_right _ (List.mem_append_right _ (List.mem_append_right _ (List.mem_append_right _ (List.mem_append_right _ (List.mem_append_right _ (List.mem_append_right _ (List.mem_append_right _ (List.mem_append_right _ (List.mem_append_right _ (List.mem_append_right _ (List.mem_append_left _ h)))))))))))))))))))))))))))))))))))))))))))
theorem mL_30_0 : (.selects RX4 ⟨"TributePitches$OldHands", "tellingOfAnyGang", "(LTributePitches$Trace;)I"⟩ yX2_tellingOfAnyGang : Cond) ∈ wsL_law := rL_30 _ (List.mem_of_getElem? (i := 0) rfl)
theorem mL_30_1 : (.methodLink RL 125 yX11_tell : Cond) ∈ wsL_law := rL_30 _ (List.mem_of_getElem? (i := 1) rfl)
theorem mL_30_2 : (.instanceMethod yX11_tell : Cond) ∈ wsL_law := rL_30 _ (List.mem_of_getElem? (i := 2) rfl)
theorem mL_30_3 : (.selects RX11 yX11_tell yX11_tell : Cond) ∈ wsL_law := rL_30 _ (List.mem_of_getElem? (i := 3) rfl)
theorem mL_30_4 : (.code yX11_tell cX11_tell 2 (some .int) : Cond) ∈ wsL_law := rL_30 _ (List.mem_of_getElem? (i := 4) rfl)
theorem mL_30_5 : (.methodLink RX11 238 yX11_traced : Cond) ∈ wsL_law := rL_30 _ (List.mem_of_getElem? (i := 5) rfl)
theorem mL_30_6 : (.instanceMethod yX11_traced : Cond) ∈ wsL_law := rL_30 _ (List.mem_of_getElem? (i := 6) rfl)
theorem mL_30_7 : (.selects RX11 yX11_traced yX11_traced : Cond) ∈ wsL_law := rL_30 _ (List.mem_of_getElem? (i := 7) rfl)
theorem mL_30_8 : (.code yX11_traced cX11_traced 2 none : Cond) ∈ wsL_law := rL_30 _ (List.mem_of_getElem? (i := 8) rfl)
theorem mL_30_9 : (.fieldLink RX11 235 "TributePitchesModel" "trace" "I" : Cond) ∈ wsL_law := rL_30 _ (List.mem_of_getElem? (i := 9) rfl)
theorem mL_30_10 : (.methodLink RX11 242 yX11_takesBy : Cond) ∈ wsL_law := rL_30 _ (List.mem_of_getElem? (i := 10) rfl)
theorem mL_30_11 : (.instanceMethod yX11_takesBy : Cond) ∈ wsL_law := rL_30 _ (List.mem_of_getElem? (i := 11) rfl)
theorem mL_30_12 : (.selects RX11 yX11_takesBy yX11_takesBy : Cond) ∈ wsL_law := rL_30 _ (List.mem_of_getElem? (i := 12) rfl)
theorem mL_30_13 : (.code yX11_takesBy cX11_takesBy 4 (some .int) : Cond) ∈ wsL_law := rL_30 _ (List.mem_of_getElem? (i := 13) rfl)
theorem mL_30_14 : (.methodLink RL 126 yX10_greet : Cond) ∈ wsL_law := rL_30 _ (List.mem_of_getElem? (i := 14) rfl)
theorem mL_30_15 : (.instanceMethod yX10_greet : Cond) ∈ wsL_law := rL_30 _ (List.mem_of_getElem? (i := 15) rfl)
theorem mL_30_16 : (.selects RX10 yX10_greet yX10_greet : Cond) ∈ wsL_law := rL_30 _ (List.mem_of_getElem? (i := 16) rfl)
theorem mL_30_17 : (.code yX10_greet cX10_greet 3 (some .int) : Cond) ∈ wsL_law := rL_30 _ (List.mem_of_getElem? (i := 17) rfl)
theorem mL_30_18 : (.methodLink RX10 308 ⟨"TributePitches$Gang", "greeting", "(LTributePitches$Trace;)I"⟩ : Cond) ∈ wsL_law := rL_30 _ (List.mem_of_getElem? (i := 18) rfl)
theorem mL_30_19 : (.sameMethod "TributePitches$Gang" "TributePitches$Gang" "greeting" "(LTributePitches$Trace;)I" : Cond) ∈ wsL_law := rL_30 _ (List.mem_of_getElem? (i := 19) rfl)
theorem mL_30_20 : (.instanceMethod ⟨"TributePitches$Gang", "greeting", "(LTributePitches$Trace;)I"⟩ : Cond) ∈ wsL_law := rL_30 _ (List.mem_of_getElem? (i := 20) rfl)
theorem mL_30_21 : (.selects RX1 ⟨"TributePitches$Gang", "greeting", "(LTributePitches$Trace;)I"⟩ yX1_greeting : Cond) ∈ wsL_law := rL_30 _ (List.mem_of_getElem? (i := 21) rfl)
theorem mL_30_22 : (.instanceMethod yX1_greeting : Cond) ∈ wsL_law := rL_30 _ (List.mem_of_getElem? (i := 22) rfl)
theorem mL_30_23 : (.code yX1_greeting cX1_greeting 2 (some .int) : Cond) ∈ wsL_law := rL_30 _ (List.mem_of_getElem? (i := 23) rfl)
theorem rL_31 : ∀ w ∈ wsL_law_r32, w ∈ wsL_law := fun w h => List.mem_append_left _ (List.mem_append_left _ (List.mem_append_left _ (List.mem_append_left _ (List.mem_append_left _ (List.mem_append_left _ (List.mem_append_left _ (List.mem_append_left _ (List.mem_append_left _ (List.mem_append_left _ (List.mem_append_left _ (List.mem_append_left _ (List.mem_append_left _ (List.mem_append_right _ (List.mem_append_right _ (List.mem_append_right _ (List.mem_append_right _ (List.mem_append_right _ (List.mem_append_right _ (List.mem_append_right _ (List.mem_append_right _ (List.mem_append_right _ (List.mem_append_right _ (List.mem_append_right _ (List.mem_append_right _ (List.mem_append_right _ (List.mem_append_right _ (List.mem_append_right _ (List.mem_append_right _ (List.mem_append_right _ (List.mem_append_right _ (List.mem_append_right _ (List.mem_append_right _ (List.mem_append_right _ (List.mem_append_right _ (List.mem_append_right _ (List.mem_append_right _ (List.mem_append_right _ (List.mem_append_right _ (List.mem_append_right _ (List.mem_append_right _ (List.mem_append_right _ (List.mem_append_right _ (List.mem_append_right _ (List.mem_append_left _ h))))))))))))))))))))))))))))))))))))))))))))
theorem mL_31_0 : (.code yX2_greeting cX2_greeting 2 (some .int) : Cond) ∈ wsL_law := rL_31 _ (List.mem_of_getElem? (i := 0) rfl)
theorem mL_31_1 : (.methodLink RX10 308 yX2_greeting : Cond) ∈ wsL_law := rL_31 _ (List.mem_of_getElem? (i := 1) rfl)
theorem mL_31_2 : (.instanceMethod yX2_greeting : Cond) ∈ wsL_law := rL_31 _ (List.mem_of_getElem? (i := 2) rfl)
theorem mL_31_3 : (.selects RX2 yX2_greeting yX2_greeting : Cond) ∈ wsL_law := rL_31 _ (List.mem_of_getElem? (i := 3) rfl)
theorem mL_31_4 : (.selects RX4 ⟨"TributePitches$Gang", "greeting", "(LTributePitches$Trace;)I"⟩ yX4_greeting : Cond) ∈ wsL_law := rL_31 _ (List.mem_of_getElem? (i := 4) rfl)
theorem mL_31_5 : (.instanceMethod yX4_greeting : Cond) ∈ wsL_law := rL_31 _ (List.mem_of_getElem? (i := 5) rfl)
theorem mL_31_6 : (.code yX4_greeting cX4_greeting 2 (some .int) : Cond) ∈ wsL_law := rL_31 _ (List.mem_of_getElem? (i := 6) rfl)
theorem mL_31_7 : (.methodLink RX4 24 yX1_greeting : Cond) ∈ wsL_law := rL_31 _ (List.mem_of_getElem? (i := 7) rfl)
theorem mL_31_8 : (.sameMethod "TributePitches$Family" "TributePitches$Family" "greeting" "(LTributePitches$Trace;)I" : Cond) ∈ wsL_law := rL_31 _ (List.mem_of_getElem? (i := 8) rfl)
theorem mL_31_9 : (.superclass RX4 RX1 : Cond) ∈ wsL_law := rL_31 _ (List.mem_of_getElem? (i := 9) rfl)
theorem mL_31_10 : (.methodLink RL 129 yX11_greet : Cond) ∈ wsL_law := rL_31 _ (List.mem_of_getElem? (i := 10) rfl)
theorem mL_31_11 : (.instanceMethod yX11_greet : Cond) ∈ wsL_law := rL_31 _ (List.mem_of_getElem? (i := 11) rfl)
theorem mL_31_12 : (.selects RX11 yX11_greet yX11_greet : Cond) ∈ wsL_law := rL_31 _ (List.mem_of_getElem? (i := 12) rfl)
theorem mL_31_13 : (.code yX11_greet cX11_greet 2 (some .int) : Cond) ∈ wsL_law := rL_31 _ (List.mem_of_getElem? (i := 13) rfl)
theorem mL_31_14 : (.methodLink RL 130 yX10_as : Cond) ∈ wsL_law := rL_31 _ (List.mem_of_getElem? (i := 14) rfl)
theorem mL_31_15 : (.instanceMethod yX10_as : Cond) ∈ wsL_law := rL_31 _ (List.mem_of_getElem? (i := 15) rfl)
theorem mL_31_16 : (.selects RX10 yX10_as yX10_as : Cond) ∈ wsL_law := rL_31 _ (List.mem_of_getElem? (i := 16) rfl)
theorem mL_31_17 : (.code yX10_as cX10_as 4 (some .int) : Cond) ∈ wsL_law := rL_31 _ (List.mem_of_getElem? (i := 17) rfl)
theorem mL_31_18 : (.methodLink RX10 311 yX10_isOfKind : Cond) ∈ wsL_law := rL_31 _ (List.mem_of_getElem? (i := 18) rfl)
theorem mL_31_19 : (.static yX10_isOfKind : Cond) ∈ wsL_law := rL_31 _ (List.mem_of_getElem? (i := 19) rfl)
theorem mL_31_20 : (.code yX10_isOfKind cX10_isOfKind 2 (some .boolean) : Cond) ∈ wsL_law := rL_31 _ (List.mem_of_getElem? (i := 20) rfl)
theorem mL_31_21 : (.classLink RX10 150 "TributePitches$OldHands" : Cond) ∈ wsL_law := rL_31 _ (List.mem_of_getElem? (i := 21) rfl)
theorem mL_31_22 : (.classLink RX10 155 "TributePitches$Family" : Cond) ∈ wsL_law := rL_31 _ (List.mem_of_getElem? (i := 22) rfl)
theorem mL_31_23 : (.methodLink RL 133 yX11_as : Cond) ∈ wsL_law := rL_31 _ (List.mem_of_getElem? (i := 23) rfl)
theorem rL_32 : ∀ w ∈ wsL_law_r33, w ∈ wsL_law := fun w h => List.mem_append_left _ (List.mem_append_left _ (List.mem_append_left _ (List.mem_append_left _ (List.mem_append_left _ (List.mem_append_left _ (List.mem_append_left _ (List.mem_append_left _ (List.mem_append_left _ (List.mem_append_left _ (List.mem_append_left _ (List.mem_append_left _ (List.mem_append_left _ (List.mem_append_right _ (List.mem_append_right _ (List.mem_append_right _ (List.mem_append_right _ (List.mem_append_right _ (List.mem_append_right _ (List.mem_append_right _ (List.mem_append_right _ (List.mem_append_right _ (List.mem_append_right _ (List.mem_append_right _ (List.mem_append_right _ (List.mem_append_right _ (List.mem_append_right _ (List.mem_append_right _ (List.mem_append_right _ (List.mem_append_right _ (List.mem_append_right _ (List.mem_append_right _ (List.mem_append_right _ (List.mem_append_right _ (List.mem_append_right _ (List.mem_append_right _ (List.mem_append_right _ (List.mem_append_right _ (List.mem_append_right _ (List.mem_append_right _ (List.mem_append_right _ (List.mem_append_right _ (List.mem_append_right _ (List.mem_append_right _ (List.mem_append_right _ (List.mem_append_left _ h)))))))))))))))))))))))))))))))))))))))))))))
theorem mL_32_0 : (.instanceMethod yX11_as : Cond) ∈ wsL_law := rL_32 _ (List.mem_of_getElem? (i := 0) rfl)
theorem mL_32_1 : (.selects RX11 yX11_as yX11_as : Cond) ∈ wsL_law := rL_32 _ (List.mem_of_getElem? (i := 1) rfl)
theorem mL_32_2 : (.code yX11_as cX11_as 3 (some .int) : Cond) ∈ wsL_law := rL_32 _ (List.mem_of_getElem? (i := 2) rfl)
theorem mL_32_3 : (.methodLink RL 134 yX10_trace : Cond) ∈ wsL_law := rL_32 _ (List.mem_of_getElem? (i := 3) rfl)
theorem mL_32_4 : (.instanceMethod yX10_trace : Cond) ∈ wsL_law := rL_32 _ (List.mem_of_getElem? (i := 4) rfl)
theorem mL_32_5 : (.selects RX10 yX10_trace yX10_trace : Cond) ∈ wsL_law := rL_32 _ (List.mem_of_getElem? (i := 5) rfl)
theorem mL_32_6 : (.code yX10_trace cX10_trace 1 (some .int) : Cond) ∈ wsL_law := rL_32 _ (List.mem_of_getElem? (i := 6) rfl)
theorem mL_32_7 : (.fieldLink RX10 315 "TributePitches$Trace" "number" "I" : Cond) ∈ wsL_law := rL_32 _ (List.mem_of_getElem? (i := 7) rfl)
theorem mL_32_8 : (.methodLink RL 137 yX11_trace : Cond) ∈ wsL_law := rL_32 _ (List.mem_of_getElem? (i := 8) rfl)
theorem mL_32_9 : (.instanceMethod yX11_trace : Cond) ∈ wsL_law := rL_32 _ (List.mem_of_getElem? (i := 9) rfl)
theorem mL_32_10 : (.selects RX11 yX11_trace yX11_trace : Cond) ∈ wsL_law := rL_32 _ (List.mem_of_getElem? (i := 10) rfl)
theorem mL_32_11 : (.code yX11_trace cX11_trace 1 (some .int) : Cond) ∈ wsL_law := rL_32 _ (List.mem_of_getElem? (i := 11) rfl)
theorem mL_32_12 : (.methodLink RL 138 yX10_fault : Cond) ∈ wsL_law := rL_32 _ (List.mem_of_getElem? (i := 12) rfl)
theorem mL_32_13 : (.instanceMethod yX10_fault : Cond) ∈ wsL_law := rL_32 _ (List.mem_of_getElem? (i := 13) rfl)
theorem mL_32_14 : (.selects RX10 yX10_fault yX10_fault : Cond) ∈ wsL_law := rL_32 _ (List.mem_of_getElem? (i := 14) rfl)
theorem mL_32_15 : (.code yX10_fault cX10_fault 1 (some .int) : Cond) ∈ wsL_law := rL_32 _ (List.mem_of_getElem? (i := 15) rfl)
theorem mL_32_16 : (.methodLink RL 141 yX11_fault : Cond) ∈ wsL_law := rL_32 _ (List.mem_of_getElem? (i := 16) rfl)
theorem mL_32_17 : (.instanceMethod yX11_fault : Cond) ∈ wsL_law := rL_32 _ (List.mem_of_getElem? (i := 17) rfl)
theorem mL_32_18 : (.selects RX11 yX11_fault yX11_fault : Cond) ∈ wsL_law := rL_32 _ (List.mem_of_getElem? (i := 18) rfl)
theorem mL_32_19 : (.code yX11_fault cX11_fault 1 (some .int) : Cond) ∈ wsL_law := rL_32 _ (List.mem_of_getElem? (i := 19) rfl)
theorem mL_32_20 : (.methodLink RL 142 yX10_told : Cond) ∈ wsL_law := rL_32 _ (List.mem_of_getElem? (i := 20) rfl)
theorem mL_32_21 : (.instanceMethod yX10_told : Cond) ∈ wsL_law := rL_32 _ (List.mem_of_getElem? (i := 21) rfl)
theorem mL_32_22 : (.selects RX10 yX10_told yX10_told : Cond) ∈ wsL_law := rL_32 _ (List.mem_of_getElem? (i := 22) rfl)
theorem mL_32_23 : (.code yX10_told cX10_told 2 (some .int) : Cond) ∈ wsL_law := rL_32 _ (List.mem_of_getElem? (i := 23) rfl)
theorem rL_33 : ∀ w ∈ wsL_law_r34, w ∈ wsL_law := fun w h => List.mem_append_left _ (List.mem_append_left _ (List.mem_append_left _ (List.mem_append_left _ (List.mem_append_left _ (List.mem_append_left _ (List.mem_append_left _ (List.mem_append_left _ (List.mem_append_left _ (List.mem_append_left _ (List.mem_append_left _ (List.mem_append_left _ (List.mem_append_left _ (List.mem_append_right _ (List.mem_append_right _ (List.mem_append_right _ (List.mem_append_right _ (List.mem_append_right _ (List.mem_append_right _ (List.mem_append_right _ (List.mem_append_right _ (List.mem_append_right _ (List.mem_append_right _ (List.mem_append_right _ (List.mem_append_right _ (List.mem_append_right _ (List.mem_append_right _ (List.mem_append_right _ (List.mem_append_right _ (List.mem_append_right _ (List.mem_append_right _ (List.mem_append_right _ (List.mem_append_right _ (List.mem_append_right _ (List.mem_append_right _ (List.mem_append_right _ (List.mem_append_right _ (List.mem_append_right _ (List.mem_append_right _ (List.mem_append_right _ (List.mem_append_right _ (List.mem_append_right _ (List.mem_append_right _ (List.mem_append_right _ (List.mem_append_right _ (List.mem_append_right _ (h))))))))))))))))))))))))))))))))))))))))))))))
theorem mL_33_0 : (.methodLink RL 145 yX11_told : Cond) ∈ wsL_law := rL_33 _ (List.mem_of_getElem? (i := 0) rfl)
theorem mL_33_1 : (.instanceMethod yX11_told : Cond) ∈ wsL_law := rL_33 _ (List.mem_of_getElem? (i := 1) rfl)
theorem mL_33_2 : (.selects RX11 yX11_told yX11_told : Cond) ∈ wsL_law := rL_33 _ (List.mem_of_getElem? (i := 2) rfl)
theorem mL_33_3 : (.code yX11_told cX11_told 2 (some .int) : Cond) ∈ wsL_law := rL_33 _ (List.mem_of_getElem? (i := 3) rfl)
theorem sL_wsX10_init_r1 : ∀ w ∈ wsX10_init_r1, w ∈ wsL_law := (List.forall_mem_cons.mpr ⟨mL_0_9, (List.forall_mem_cons.mpr ⟨mL_0_10, (List.forall_mem_cons.mpr ⟨mL_0_11, (List.forall_mem_cons.mpr ⟨mL_0_12, (List.forall_mem_cons.mpr ⟨mL_0_13, (List.forall_mem_cons.mpr ⟨mL_0_14, (List.forall_mem_cons.mpr ⟨mL_0_15, (List.forall_mem_cons.mpr ⟨mL_0_16, (List.forall_mem_cons.mpr ⟨mL_0_17, (List.forall_mem_cons.mpr ⟨mL_0_18, (List.forall_mem_cons.mpr ⟨mL_0_19, (List.forall_mem_cons.mpr ⟨mL_0_20, (List.forall_mem_cons.mpr ⟨mL_0_21, (List.forall_mem_cons.mpr ⟨mL_0_22, (List.forall_mem_cons.mpr ⟨mL_0_23, (List.forall_mem_cons.mpr ⟨mL_1_0, (List.forall_mem_cons.mpr ⟨mL_1_1, (List.forall_mem_cons.mpr ⟨mL_1_2, (List.forall_mem_cons.mpr ⟨mL_1_3, (List.forall_mem_cons.mpr ⟨mL_1_4, (List.forall_mem_cons.mpr ⟨mL_1_5, (List.forall_mem_cons.mpr ⟨mL_1_6, (List.forall_mem_cons.mpr ⟨mL_1_7, (List.forall_mem_cons.mpr ⟨mL_1_8, (fun _ h => absurd h List.not_mem_nil)⟩)⟩)⟩)⟩)⟩)⟩)⟩)⟩)⟩)⟩)⟩)⟩)⟩)⟩)⟩)⟩)⟩)⟩)⟩)⟩)⟩)⟩)⟩)⟩)
theorem sL_wsX10_init_r2 : ∀ w ∈ wsX10_init_r2, w ∈ wsL_law := (List.forall_mem_cons.mpr ⟨mL_1_9, (List.forall_mem_cons.mpr ⟨mL_1_10, (List.forall_mem_cons.mpr ⟨mL_1_11, (List.forall_mem_cons.mpr ⟨mL_1_12, (List.forall_mem_cons.mpr ⟨mL_1_13, (List.forall_mem_cons.mpr ⟨mL_1_14, (List.forall_mem_cons.mpr ⟨mL_1_15, (List.forall_mem_cons.mpr ⟨mL_1_16, (List.forall_mem_cons.mpr ⟨mL_1_17, (List.forall_mem_cons.mpr ⟨mL_1_18, (List.forall_mem_cons.mpr ⟨mL_1_19, (List.forall_mem_cons.mpr ⟨mL_1_20, (List.forall_mem_cons.mpr ⟨mL_1_21, (List.forall_mem_cons.mpr ⟨mL_1_22, (List.forall_mem_cons.mpr ⟨mL_1_23, (List.forall_mem_cons.mpr ⟨mL_2_0, (List.forall_mem_cons.mpr ⟨mL_2_1, (List.forall_mem_cons.mpr ⟨mL_2_2, (List.forall_mem_cons.mpr ⟨mL_2_3, (List.forall_mem_cons.mpr ⟨mL_2_4, (List.forall_mem_cons.mpr ⟨mL_2_5, (List.forall_mem_cons.mpr ⟨mL_2_6, (fun _ h => absurd h List.not_mem_nil)⟩)⟩)⟩)⟩)⟩)⟩)⟩)⟩)⟩)⟩)⟩)⟩)⟩)⟩)⟩)⟩)⟩)⟩)⟩)⟩)⟩)⟩)
theorem sL_wsX30 : ∀ w ∈ wsX30, w ∈ wsL_law := by decide +kernel
theorem sL_wsX100 : ∀ w ∈ wsX100, w ∈ wsL_law := by decide +kernel
theorem sL_wsX70 : ∀ w ∈ wsX70, w ∈ wsL_law := by decide +kernel
theorem sL_wsX90 : ∀ w ∈ wsX90, w ∈ wsL_law := by decide +kernel
theorem sL_wsX10_init : ∀ w ∈ wsX10_init, w ∈ wsL_law := (List.forall_mem_cons.mpr ⟨mL_0_8, (List.forall_mem_append.mpr ⟨(List.forall_mem_append.mpr ⟨(List.forall_mem_append.mpr ⟨(List.forall_mem_append.mpr ⟨(List.forall_mem_append.mpr ⟨sL_wsX10_init_r1, sL_wsX10_init_r2⟩), sL_wsX30⟩), sL_wsX100⟩), sL_wsX70⟩), sL_wsX90⟩)⟩)
theorem sL_wsX11_init_r1 : ∀ w ∈ wsX11_init_r1, w ∈ wsL_law := (List.forall_mem_cons.mpr ⟨mL_2_10, (List.forall_mem_cons.mpr ⟨mL_0_10, (List.forall_mem_cons.mpr ⟨mL_0_11, (List.forall_mem_cons.mpr ⟨mL_1_13, (List.forall_mem_cons.mpr ⟨mL_2_11, (List.forall_mem_cons.mpr ⟨mL_2_12, (List.forall_mem_cons.mpr ⟨mL_2_13, (List.forall_mem_cons.mpr ⟨mL_2_14, (List.forall_mem_cons.mpr ⟨mL_2_15, (List.forall_mem_cons.mpr ⟨mL_2_16, (List.forall_mem_cons.mpr ⟨mL_2_17, (List.forall_mem_cons.mpr ⟨mL_2_18, (List.forall_mem_cons.mpr ⟨mL_2_19, (List.forall_mem_cons.mpr ⟨mL_2_20, (List.forall_mem_cons.mpr ⟨mL_2_21, (List.forall_mem_cons.mpr ⟨mL_2_22, (List.forall_mem_cons.mpr ⟨mL_2_23, (List.forall_mem_cons.mpr ⟨mL_3_0, (List.forall_mem_cons.mpr ⟨mL_3_1, (List.forall_mem_cons.mpr ⟨mL_3_2, (List.forall_mem_cons.mpr ⟨mL_3_3, (List.forall_mem_cons.mpr ⟨mL_3_4, (List.forall_mem_cons.mpr ⟨mL_3_5, (List.forall_mem_cons.mpr ⟨mL_3_6, (fun _ h => absurd h List.not_mem_nil)⟩)⟩)⟩)⟩)⟩)⟩)⟩)⟩)⟩)⟩)⟩)⟩)⟩)⟩)⟩)⟩)⟩)⟩)⟩)⟩)⟩)⟩)⟩)⟩)
theorem sL_wsX11_init_r2 : ∀ w ∈ wsX11_init_r2, w ∈ wsL_law := (List.forall_mem_cons.mpr ⟨mL_3_7, (List.forall_mem_cons.mpr ⟨mL_3_8, (List.forall_mem_cons.mpr ⟨mL_3_9, (List.forall_mem_cons.mpr ⟨mL_3_10, (List.forall_mem_cons.mpr ⟨mL_3_11, (List.forall_mem_cons.mpr ⟨mL_3_12, (List.forall_mem_cons.mpr ⟨mL_3_13, (List.forall_mem_cons.mpr ⟨mL_3_14, (List.forall_mem_cons.mpr ⟨mL_3_15, (List.forall_mem_cons.mpr ⟨mL_3_16, (List.forall_mem_cons.mpr ⟨mL_3_17, (fun _ h => absurd h List.not_mem_nil)⟩)⟩)⟩)⟩)⟩)⟩)⟩)⟩)⟩)⟩)⟩)
theorem sL_wsX110 : ∀ w ∈ wsX110, w ∈ wsL_law := by decide +kernel
theorem sL_wsX11_init : ∀ w ∈ wsX11_init, w ∈ wsL_law := (List.forall_mem_cons.mpr ⟨mL_2_9, (List.forall_mem_append.mpr ⟨(List.forall_mem_append.mpr ⟨sL_wsX11_init_r1, sL_wsX11_init_r2⟩), sL_wsX110⟩)⟩)
theorem sL_wsX10_find_r1 : ∀ w ∈ wsX10_find_r1, w ∈ wsL_law := (List.forall_mem_cons.mpr ⟨mL_0_15, (List.forall_mem_cons.mpr ⟨mL_3_22, (List.forall_mem_cons.mpr ⟨mL_3_23, (List.forall_mem_cons.mpr ⟨mL_4_0, (List.forall_mem_cons.mpr ⟨mL_0_14, (List.forall_mem_cons.mpr ⟨mL_4_1, (List.forall_mem_cons.mpr ⟨mL_4_2, (List.forall_mem_cons.mpr ⟨mL_0_2, (List.forall_mem_cons.mpr ⟨mL_4_3, (List.forall_mem_cons.mpr ⟨mL_4_4, (List.forall_mem_cons.mpr ⟨mL_4_5, (List.forall_mem_cons.mpr ⟨mL_4_6, (List.forall_mem_cons.mpr ⟨mL_4_7, (List.forall_mem_cons.mpr ⟨mL_4_8, (List.forall_mem_cons.mpr ⟨mL_1_14, (List.forall_mem_cons.mpr ⟨mL_1_16, (List.forall_mem_cons.mpr ⟨mL_4_9, (List.forall_mem_cons.mpr ⟨mL_4_10, (List.forall_mem_cons.mpr ⟨mL_4_11, (List.forall_mem_cons.mpr ⟨mL_4_12, (List.forall_mem_cons.mpr ⟨mL_1_15, (List.forall_mem_cons.mpr ⟨mL_1_17, (List.forall_mem_cons.mpr ⟨mL_4_13, (List.forall_mem_cons.mpr ⟨mL_4_14, (fun _ h => absurd h List.not_mem_nil)⟩)⟩)⟩)⟩)⟩)⟩)⟩)⟩)⟩)⟩)⟩)⟩)⟩)⟩)⟩)⟩)⟩)⟩)⟩)⟩)⟩)⟩)⟩)⟩)
theorem sL_wsX10_find_r2 : ∀ w ∈ wsX10_find_r2, w ∈ wsL_law := (List.forall_mem_cons.mpr ⟨mL_4_15, (List.forall_mem_cons.mpr ⟨mL_4_16, (List.forall_mem_cons.mpr ⟨mL_4_17, (List.forall_mem_cons.mpr ⟨mL_4_18, (List.forall_mem_cons.mpr ⟨mL_4_19, (List.forall_mem_cons.mpr ⟨mL_4_20, (List.forall_mem_cons.mpr ⟨mL_4_21, (List.forall_mem_cons.mpr ⟨mL_4_22, (List.forall_mem_cons.mpr ⟨mL_4_23, (List.forall_mem_cons.mpr ⟨mL_5_0, (List.forall_mem_cons.mpr ⟨mL_5_1, (List.forall_mem_cons.mpr ⟨mL_5_2, (List.forall_mem_cons.mpr ⟨mL_5_3, (List.forall_mem_cons.mpr ⟨mL_5_4, (List.forall_mem_cons.mpr ⟨mL_5_5, (List.forall_mem_cons.mpr ⟨mL_5_6, (List.forall_mem_cons.mpr ⟨mL_1_18, (List.forall_mem_cons.mpr ⟨mL_5_7, (List.forall_mem_cons.mpr ⟨mL_5_8, (List.forall_mem_cons.mpr ⟨mL_5_9, (List.forall_mem_cons.mpr ⟨mL_5_10, (List.forall_mem_cons.mpr ⟨mL_5_11, (List.forall_mem_cons.mpr ⟨mL_5_12, (List.forall_mem_cons.mpr ⟨mL_5_13, (fun _ h => absurd h List.not_mem_nil)⟩)⟩)⟩)⟩)⟩)⟩)⟩)⟩)⟩)⟩)⟩)⟩)⟩)⟩)⟩)⟩)⟩)⟩)⟩)⟩)⟩)⟩)⟩)⟩)
theorem sL_wsX10_find_r3 : ∀ w ∈ wsX10_find_r3, w ∈ wsL_law := (List.forall_mem_cons.mpr ⟨mL_5_14, (List.forall_mem_cons.mpr ⟨mL_5_15, (fun _ h => absurd h List.not_mem_nil)⟩)⟩)
theorem sL_wsX10_find : ∀ w ∈ wsX10_find, w ∈ wsL_law := (List.forall_mem_cons.mpr ⟨mL_3_21, (List.forall_mem_append.mpr ⟨(List.forall_mem_append.mpr ⟨(List.forall_mem_append.mpr ⟨sL_wsX10_find_r1, (List.forall_mem_append.mpr ⟨sL_wsX10_find_r2, sL_wsX10_find_r3⟩)⟩), sL_wsX100⟩), sL_wsX30⟩)⟩)
theorem sL_wsX11_find_r1 : ∀ w ∈ wsX11_find_r1, w ∈ wsL_law := (List.forall_mem_cons.mpr ⟨mL_5_20, (List.forall_mem_cons.mpr ⟨mL_3_16, (List.forall_mem_cons.mpr ⟨mL_5_21, (List.forall_mem_cons.mpr ⟨mL_5_22, (List.forall_mem_cons.mpr ⟨mL_0_5, (List.forall_mem_cons.mpr ⟨mL_5_23, (List.forall_mem_cons.mpr ⟨mL_6_0, (List.forall_mem_cons.mpr ⟨mL_6_1, (List.forall_mem_cons.mpr ⟨mL_6_2, (List.forall_mem_cons.mpr ⟨mL_6_3, (List.forall_mem_cons.mpr ⟨mL_6_4, (List.forall_mem_cons.mpr ⟨mL_6_5, (List.forall_mem_cons.mpr ⟨mL_6_6, (List.forall_mem_cons.mpr ⟨mL_6_7, (List.forall_mem_cons.mpr ⟨mL_6_8, (List.forall_mem_cons.mpr ⟨mL_2_13, (List.forall_mem_cons.mpr ⟨mL_2_11, (List.forall_mem_cons.mpr ⟨mL_2_14, (List.forall_mem_cons.mpr ⟨mL_2_12, (List.forall_mem_cons.mpr ⟨mL_6_9, (List.forall_mem_cons.mpr ⟨mL_6_10, (List.forall_mem_cons.mpr ⟨mL_6_11, (List.forall_mem_cons.mpr ⟨mL_6_12, (List.forall_mem_cons.mpr ⟨mL_6_13, (fun _ h => absurd h List.not_mem_nil)⟩)⟩)⟩)⟩)⟩)⟩)⟩)⟩)⟩)⟩)⟩)⟩)⟩)⟩)⟩)⟩)⟩)⟩)⟩)⟩)⟩)⟩)⟩)⟩)
theorem sL_wsX11_find_r2 : ∀ w ∈ wsX11_find_r2, w ∈ wsL_law := (List.forall_mem_cons.mpr ⟨mL_6_14, (List.forall_mem_cons.mpr ⟨mL_6_15, (List.forall_mem_cons.mpr ⟨mL_6_16, (List.forall_mem_cons.mpr ⟨mL_6_17, (List.forall_mem_cons.mpr ⟨mL_6_18, (List.forall_mem_cons.mpr ⟨mL_6_19, (List.forall_mem_cons.mpr ⟨mL_6_20, (List.forall_mem_cons.mpr ⟨mL_6_21, (fun _ h => absurd h List.not_mem_nil)⟩)⟩)⟩)⟩)⟩)⟩)⟩)⟩)
theorem sL_wsX11_find : ∀ w ∈ wsX11_find, w ∈ wsL_law := (List.forall_mem_cons.mpr ⟨mL_5_19, (List.forall_mem_append.mpr ⟨(List.forall_mem_append.mpr ⟨sL_wsX11_find_r1, sL_wsX11_find_r2⟩), sL_wsX110⟩)⟩)
theorem sL_wsX10_rise_r1 : ∀ w ∈ wsX10_rise_r1, w ∈ wsL_law := (List.forall_mem_cons.mpr ⟨mL_0_15, (List.forall_mem_cons.mpr ⟨mL_3_22, (List.forall_mem_cons.mpr ⟨mL_4_4, (List.forall_mem_cons.mpr ⟨mL_4_2, (List.forall_mem_cons.mpr ⟨mL_0_2, (List.forall_mem_cons.mpr ⟨mL_4_3, (List.forall_mem_cons.mpr ⟨mL_4_5, (List.forall_mem_cons.mpr ⟨mL_4_6, (List.forall_mem_cons.mpr ⟨mL_4_7, (List.forall_mem_cons.mpr ⟨mL_0_14, (List.forall_mem_cons.mpr ⟨mL_4_8, (List.forall_mem_cons.mpr ⟨mL_1_14, (List.forall_mem_cons.mpr ⟨mL_1_16, (List.forall_mem_cons.mpr ⟨mL_4_9, (List.forall_mem_cons.mpr ⟨mL_4_10, (List.forall_mem_cons.mpr ⟨mL_4_11, (List.forall_mem_cons.mpr ⟨mL_4_12, (List.forall_mem_cons.mpr ⟨mL_1_15, (List.forall_mem_cons.mpr ⟨mL_1_17, (List.forall_mem_cons.mpr ⟨mL_5_3, (List.forall_mem_cons.mpr ⟨mL_5_4, (List.forall_mem_cons.mpr ⟨mL_5_5, (List.forall_mem_cons.mpr ⟨mL_5_6, (List.forall_mem_cons.mpr ⟨mL_1_18, (fun _ h => absurd h List.not_mem_nil)⟩)⟩)⟩)⟩)⟩)⟩)⟩)⟩)⟩)⟩)⟩)⟩)⟩)⟩)⟩)⟩)⟩)⟩)⟩)⟩)⟩)⟩)⟩)⟩)
theorem sL_wsX10_rise_r2 : ∀ w ∈ wsX10_rise_r2, w ∈ wsL_law := (List.forall_mem_cons.mpr ⟨mL_5_7, (List.forall_mem_cons.mpr ⟨mL_5_8, (List.forall_mem_cons.mpr ⟨mL_5_9, (List.forall_mem_cons.mpr ⟨mL_5_10, (List.forall_mem_cons.mpr ⟨mL_5_11, (List.forall_mem_cons.mpr ⟨mL_5_12, (List.forall_mem_cons.mpr ⟨mL_5_13, (List.forall_mem_cons.mpr ⟨mL_5_14, (List.forall_mem_cons.mpr ⟨mL_5_15, (List.forall_mem_cons.mpr ⟨mL_4_17, (List.forall_mem_cons.mpr ⟨mL_4_18, (List.forall_mem_cons.mpr ⟨mL_4_19, (List.forall_mem_cons.mpr ⟨mL_4_20, (List.forall_mem_cons.mpr ⟨mL_4_21, (List.forall_mem_cons.mpr ⟨mL_4_22, (List.forall_mem_cons.mpr ⟨mL_4_23, (List.forall_mem_cons.mpr ⟨mL_5_0, (List.forall_mem_cons.mpr ⟨mL_5_1, (List.forall_mem_cons.mpr ⟨mL_5_2, (fun _ h => absurd h List.not_mem_nil)⟩)⟩)⟩)⟩)⟩)⟩)⟩)⟩)⟩)⟩)⟩)⟩)⟩)⟩)⟩)⟩)⟩)⟩)⟩)
theorem sL_wsX10_rise : ∀ w ∈ wsX10_rise, w ∈ wsL_law := (List.forall_mem_cons.mpr ⟨mL_7_1, (List.forall_mem_append.mpr ⟨(List.forall_mem_append.mpr ⟨(List.forall_mem_append.mpr ⟨sL_wsX10_rise_r1, sL_wsX10_rise_r2⟩), sL_wsX100⟩), sL_wsX30⟩)⟩)
theorem sL_wsX11_rise_r1 : ∀ w ∈ wsX11_rise_r1, w ∈ wsL_law := (List.forall_mem_cons.mpr ⟨mL_5_20, (List.forall_mem_cons.mpr ⟨mL_3_16, (List.forall_mem_cons.mpr ⟨mL_6_2, (List.forall_mem_cons.mpr ⟨mL_6_3, (List.forall_mem_cons.mpr ⟨mL_0_5, (List.forall_mem_cons.mpr ⟨mL_6_4, (List.forall_mem_cons.mpr ⟨mL_6_5, (List.forall_mem_cons.mpr ⟨mL_6_6, (List.forall_mem_cons.mpr ⟨mL_6_7, (List.forall_mem_cons.mpr ⟨mL_6_8, (List.forall_mem_cons.mpr ⟨mL_2_13, (List.forall_mem_cons.mpr ⟨mL_2_11, (List.forall_mem_cons.mpr ⟨mL_2_14, (List.forall_mem_cons.mpr ⟨mL_2_12, (List.forall_mem_cons.mpr ⟨mL_6_14, (List.forall_mem_cons.mpr ⟨mL_6_15, (List.forall_mem_cons.mpr ⟨mL_6_16, (List.forall_mem_cons.mpr ⟨mL_6_17, (List.forall_mem_cons.mpr ⟨mL_6_13, (List.forall_mem_cons.mpr ⟨mL_6_18, (List.forall_mem_cons.mpr ⟨mL_6_19, (List.forall_mem_cons.mpr ⟨mL_6_20, (List.forall_mem_cons.mpr ⟨mL_6_21, (List.forall_mem_cons.mpr ⟨mL_5_21, (fun _ h => absurd h List.not_mem_nil)⟩)⟩)⟩)⟩)⟩)⟩)⟩)⟩)⟩)⟩)⟩)⟩)⟩)⟩)⟩)⟩)⟩)⟩)⟩)⟩)⟩)⟩)⟩)⟩)
theorem sL_wsX11_rise_r2 : ∀ w ∈ wsX11_rise_r2, w ∈ wsL_law := (List.forall_mem_cons.mpr ⟨mL_5_22, (List.forall_mem_cons.mpr ⟨mL_5_23, (List.forall_mem_cons.mpr ⟨mL_6_0, (List.forall_mem_cons.mpr ⟨mL_6_1, (List.forall_mem_cons.mpr ⟨mL_6_9, (List.forall_mem_cons.mpr ⟨mL_6_10, (List.forall_mem_cons.mpr ⟨mL_6_11, (List.forall_mem_cons.mpr ⟨mL_6_12, (fun _ h => absurd h List.not_mem_nil)⟩)⟩)⟩)⟩)⟩)⟩)⟩)⟩)
theorem sL_wsX11_rise : ∀ w ∈ wsX11_rise, w ∈ wsL_law := (List.forall_mem_cons.mpr ⟨mL_7_5, (List.forall_mem_append.mpr ⟨(List.forall_mem_append.mpr ⟨sL_wsX11_rise_r1, sL_wsX11_rise_r2⟩), sL_wsX110⟩)⟩)
theorem sL_wsX10_good : ∀ w ∈ wsX10_good, w ∈ wsL_law := (List.forall_mem_cons.mpr ⟨mL_7_9, (List.forall_mem_append.mpr ⟨(List.forall_mem_append.mpr ⟨(List.forall_mem_cons.mpr ⟨mL_0_15, (List.forall_mem_cons.mpr ⟨mL_7_10, (List.forall_mem_cons.mpr ⟨mL_7_11, (List.forall_mem_cons.mpr ⟨mL_3_23, (List.forall_mem_cons.mpr ⟨mL_4_0, (List.forall_mem_cons.mpr ⟨mL_0_14, (List.forall_mem_cons.mpr ⟨mL_4_1, (List.forall_mem_cons.mpr ⟨mL_4_2, (List.forall_mem_cons.mpr ⟨mL_0_2, (List.forall_mem_cons.mpr ⟨mL_4_3, (List.forall_mem_cons.mpr ⟨mL_4_4, (List.forall_mem_cons.mpr ⟨mL_4_13, (List.forall_mem_cons.mpr ⟨mL_4_14, (List.forall_mem_cons.mpr ⟨mL_4_15, (fun _ h => absurd h List.not_mem_nil)⟩)⟩)⟩)⟩)⟩)⟩)⟩)⟩)⟩)⟩)⟩)⟩)⟩)⟩), sL_wsX100⟩), sL_wsX30⟩)⟩)
theorem sL_wsX11_good : ∀ w ∈ wsX11_good, w ∈ wsL_law := (List.forall_mem_cons.mpr ⟨mL_7_15, (List.forall_mem_append.mpr ⟨(List.forall_mem_cons.mpr ⟨mL_2_11, (List.forall_mem_cons.mpr ⟨mL_2_12, (List.forall_mem_cons.mpr ⟨mL_5_21, (List.forall_mem_cons.mpr ⟨mL_5_22, (List.forall_mem_cons.mpr ⟨mL_0_5, (List.forall_mem_cons.mpr ⟨mL_5_23, (List.forall_mem_cons.mpr ⟨mL_6_0, (List.forall_mem_cons.mpr ⟨mL_6_1, (List.forall_mem_cons.mpr ⟨mL_6_2, (List.forall_mem_cons.mpr ⟨mL_6_3, (List.forall_mem_cons.mpr ⟨mL_6_4, (fun _ h => absurd h List.not_mem_nil)⟩)⟩)⟩)⟩)⟩)⟩)⟩)⟩)⟩)⟩)⟩), sL_wsX110⟩)⟩)
theorem sL_wsX10_chart_r1 : ∀ w ∈ wsX10_chart_r1, w ∈ wsL_law := (List.forall_mem_cons.mpr ⟨mL_1_8, (List.forall_mem_cons.mpr ⟨mL_0_15, (List.forall_mem_cons.mpr ⟨mL_7_20, (List.forall_mem_cons.mpr ⟨mL_3_22, (List.forall_mem_cons.mpr ⟨mL_7_21, (List.forall_mem_cons.mpr ⟨mL_7_22, (List.forall_mem_cons.mpr ⟨mL_7_23, (List.forall_mem_cons.mpr ⟨mL_0_2, (List.forall_mem_cons.mpr ⟨mL_8_0, (List.forall_mem_cons.mpr ⟨mL_1_3, (List.forall_mem_cons.mpr ⟨mL_4_4, (List.forall_mem_cons.mpr ⟨mL_4_2, (List.forall_mem_cons.mpr ⟨mL_4_3, (List.forall_mem_cons.mpr ⟨mL_8_1, (List.forall_mem_cons.mpr ⟨mL_8_2, (List.forall_mem_cons.mpr ⟨mL_1_2, (List.forall_mem_cons.mpr ⟨mL_8_3, (List.forall_mem_cons.mpr ⟨mL_8_4, (List.forall_mem_cons.mpr ⟨mL_8_5, (List.forall_mem_cons.mpr ⟨mL_8_6, (List.forall_mem_cons.mpr ⟨mL_8_7, (List.forall_mem_cons.mpr ⟨mL_8_8, (List.forall_mem_cons.mpr ⟨mL_8_9, (List.forall_mem_cons.mpr ⟨mL_8_10, (fun _ h => absurd h List.not_mem_nil)⟩)⟩)⟩)⟩)⟩)⟩)⟩)⟩)⟩)⟩)⟩)⟩)⟩)⟩)⟩)⟩)⟩)⟩)⟩)⟩)⟩)⟩)⟩)⟩)
theorem sL_wsX10_chart_r2 : ∀ w ∈ wsX10_chart_r2, w ∈ wsL_law := (List.forall_mem_cons.mpr ⟨mL_2_3, (List.forall_mem_cons.mpr ⟨mL_8_11, (List.forall_mem_cons.mpr ⟨mL_8_12, (List.forall_mem_cons.mpr ⟨mL_8_13, (List.forall_mem_cons.mpr ⟨mL_8_14, (List.forall_mem_cons.mpr ⟨mL_8_15, (List.forall_mem_cons.mpr ⟨mL_8_16, (List.forall_mem_cons.mpr ⟨mL_8_17, (List.forall_mem_cons.mpr ⟨mL_8_18, (List.forall_mem_cons.mpr ⟨mL_8_19, (List.forall_mem_cons.mpr ⟨mL_8_20, (List.forall_mem_cons.mpr ⟨mL_8_21, (List.forall_mem_cons.mpr ⟨mL_8_22, (List.forall_mem_cons.mpr ⟨mL_8_23, (List.forall_mem_cons.mpr ⟨mL_9_0, (List.forall_mem_cons.mpr ⟨mL_9_1, (List.forall_mem_cons.mpr ⟨mL_9_2, (List.forall_mem_cons.mpr ⟨mL_9_3, (List.forall_mem_cons.mpr ⟨mL_2_2, (List.forall_mem_cons.mpr ⟨mL_4_5, (List.forall_mem_cons.mpr ⟨mL_4_6, (List.forall_mem_cons.mpr ⟨mL_4_7, (List.forall_mem_cons.mpr ⟨mL_0_14, (List.forall_mem_cons.mpr ⟨mL_4_8, (fun _ h => absurd h List.not_mem_nil)⟩)⟩)⟩)⟩)⟩)⟩)⟩)⟩)⟩)⟩)⟩)⟩)⟩)⟩)⟩)⟩)⟩)⟩)⟩)⟩)⟩)⟩)⟩)⟩)
theorem sL_wsX10_chart_r3 : ∀ w ∈ wsX10_chart_r3, w ∈ wsL_law := (List.forall_mem_cons.mpr ⟨mL_1_14, (List.forall_mem_cons.mpr ⟨mL_1_16, (List.forall_mem_cons.mpr ⟨mL_4_9, (List.forall_mem_cons.mpr ⟨mL_4_10, (List.forall_mem_cons.mpr ⟨mL_4_11, (List.forall_mem_cons.mpr ⟨mL_4_12, (List.forall_mem_cons.mpr ⟨mL_1_15, (List.forall_mem_cons.mpr ⟨mL_1_17, (List.forall_mem_cons.mpr ⟨mL_4_16, (List.forall_mem_cons.mpr ⟨mL_4_17, (List.forall_mem_cons.mpr ⟨mL_4_18, (List.forall_mem_cons.mpr ⟨mL_4_19, (List.forall_mem_cons.mpr ⟨mL_4_20, (List.forall_mem_cons.mpr ⟨mL_4_21, (List.forall_mem_cons.mpr ⟨mL_4_22, (List.forall_mem_cons.mpr ⟨mL_4_23, (List.forall_mem_cons.mpr ⟨mL_5_0, (List.forall_mem_cons.mpr ⟨mL_5_1, (List.forall_mem_cons.mpr ⟨mL_5_2, (List.forall_mem_cons.mpr ⟨mL_5_3, (List.forall_mem_cons.mpr ⟨mL_5_4, (List.forall_mem_cons.mpr ⟨mL_5_5, (List.forall_mem_cons.mpr ⟨mL_5_6, (List.forall_mem_cons.mpr ⟨mL_1_18, (fun _ h => absurd h List.not_mem_nil)⟩)⟩)⟩)⟩)⟩)⟩)⟩)⟩)⟩)⟩)⟩)⟩)⟩)⟩)⟩)⟩)⟩)⟩)⟩)⟩)⟩)⟩)⟩)⟩)
theorem sL_wsX10_chart_r4 : ∀ w ∈ wsX10_chart_r4, w ∈ wsL_law := (List.forall_mem_cons.mpr ⟨mL_5_7, (List.forall_mem_cons.mpr ⟨mL_5_8, (List.forall_mem_cons.mpr ⟨mL_5_9, (List.forall_mem_cons.mpr ⟨mL_5_10, (List.forall_mem_cons.mpr ⟨mL_5_11, (List.forall_mem_cons.mpr ⟨mL_5_12, (List.forall_mem_cons.mpr ⟨mL_5_13, (List.forall_mem_cons.mpr ⟨mL_5_14, (List.forall_mem_cons.mpr ⟨mL_5_15, (fun _ h => absurd h List.not_mem_nil)⟩)⟩)⟩)⟩)⟩)⟩)⟩)⟩)⟩)
theorem sL_wsX10_chart : ∀ w ∈ wsX10_chart, w ∈ wsL_law := (List.forall_mem_cons.mpr ⟨mL_7_19, (List.forall_mem_append.mpr ⟨(List.forall_mem_append.mpr ⟨(List.forall_mem_append.mpr ⟨(List.forall_mem_append.mpr ⟨sL_wsX10_chart_r1, (List.forall_mem_append.mpr ⟨sL_wsX10_chart_r2, (List.forall_mem_append.mpr ⟨sL_wsX10_chart_r3, sL_wsX10_chart_r4⟩)⟩)⟩), sL_wsX100⟩), sL_wsX70⟩), sL_wsX30⟩)⟩)
theorem sL_wsX11_chart_r1 : ∀ w ∈ wsX11_chart_r1, w ∈ wsL_law := (List.forall_mem_cons.mpr ⟨mL_9_8, (List.forall_mem_cons.mpr ⟨mL_9_9, (List.forall_mem_cons.mpr ⟨mL_2_15, (List.forall_mem_cons.mpr ⟨mL_2_16, (List.forall_mem_cons.mpr ⟨mL_2_17, (List.forall_mem_cons.mpr ⟨mL_3_16, (List.forall_mem_cons.mpr ⟨mL_9_10, (List.forall_mem_cons.mpr ⟨mL_9_11, (List.forall_mem_cons.mpr ⟨mL_0_5, (List.forall_mem_cons.mpr ⟨mL_9_12, (List.forall_mem_cons.mpr ⟨mL_9_13, (List.forall_mem_cons.mpr ⟨mL_6_2, (List.forall_mem_cons.mpr ⟨mL_6_3, (List.forall_mem_cons.mpr ⟨mL_6_4, (List.forall_mem_cons.mpr ⟨mL_9_14, (List.forall_mem_cons.mpr ⟨mL_9_15, (List.forall_mem_cons.mpr ⟨mL_9_16, (List.forall_mem_cons.mpr ⟨mL_9_17, (List.forall_mem_cons.mpr ⟨mL_9_18, (List.forall_mem_cons.mpr ⟨mL_9_19, (List.forall_mem_cons.mpr ⟨mL_9_20, (List.forall_mem_cons.mpr ⟨mL_9_21, (List.forall_mem_cons.mpr ⟨mL_9_22, (List.forall_mem_cons.mpr ⟨mL_9_23, (fun _ h => absurd h List.not_mem_nil)⟩)⟩)⟩)⟩)⟩)⟩)⟩)⟩)⟩)⟩)⟩)⟩)⟩)⟩)⟩)⟩)⟩)⟩)⟩)⟩)⟩)⟩)⟩)⟩)
theorem sL_wsX11_chart_r2 : ∀ w ∈ wsX11_chart_r2, w ∈ wsL_law := (List.forall_mem_cons.mpr ⟨mL_10_0, (List.forall_mem_cons.mpr ⟨mL_10_1, (List.forall_mem_cons.mpr ⟨mL_6_5, (List.forall_mem_cons.mpr ⟨mL_6_6, (List.forall_mem_cons.mpr ⟨mL_6_7, (List.forall_mem_cons.mpr ⟨mL_6_8, (List.forall_mem_cons.mpr ⟨mL_2_13, (List.forall_mem_cons.mpr ⟨mL_2_11, (List.forall_mem_cons.mpr ⟨mL_2_14, (List.forall_mem_cons.mpr ⟨mL_2_12, (List.forall_mem_cons.mpr ⟨mL_6_9, (List.forall_mem_cons.mpr ⟨mL_6_10, (List.forall_mem_cons.mpr ⟨mL_6_11, (List.forall_mem_cons.mpr ⟨mL_6_12, (List.forall_mem_cons.mpr ⟨mL_6_13, (List.forall_mem_cons.mpr ⟨mL_6_14, (List.forall_mem_cons.mpr ⟨mL_6_15, (List.forall_mem_cons.mpr ⟨mL_6_16, (List.forall_mem_cons.mpr ⟨mL_6_17, (List.forall_mem_cons.mpr ⟨mL_6_18, (List.forall_mem_cons.mpr ⟨mL_6_19, (List.forall_mem_cons.mpr ⟨mL_6_20, (List.forall_mem_cons.mpr ⟨mL_6_21, (List.forall_mem_cons.mpr ⟨mL_5_21, (fun _ h => absurd h List.not_mem_nil)⟩)⟩)⟩)⟩)⟩)⟩)⟩)⟩)⟩)⟩)⟩)⟩)⟩)⟩)⟩)⟩)⟩)⟩)⟩)⟩)⟩)⟩)⟩)⟩)
theorem sL_wsX11_chart_r3 : ∀ w ∈ wsX11_chart_r3, w ∈ wsL_law := (List.forall_mem_cons.mpr ⟨mL_5_22, (List.forall_mem_cons.mpr ⟨mL_5_23, (List.forall_mem_cons.mpr ⟨mL_6_0, (List.forall_mem_cons.mpr ⟨mL_6_1, (fun _ h => absurd h List.not_mem_nil)⟩)⟩)⟩)⟩)
theorem sL_wsX11_chart : ∀ w ∈ wsX11_chart, w ∈ wsL_law := (List.forall_mem_cons.mpr ⟨mL_9_7, (List.forall_mem_append.mpr ⟨(List.forall_mem_append.mpr ⟨sL_wsX11_chart_r1, (List.forall_mem_append.mpr ⟨sL_wsX11_chart_r2, sL_wsX11_chart_r3⟩)⟩), sL_wsX110⟩)⟩)
theorem sL_wsX10_pitch_r1 : ∀ w ∈ wsX10_pitch_r1, w ∈ wsL_law := (List.forall_mem_cons.mpr ⟨mL_10_6, (List.forall_mem_cons.mpr ⟨mL_0_17, (List.forall_mem_cons.mpr ⟨mL_0_16, (List.forall_mem_cons.mpr ⟨mL_10_7, (List.forall_mem_cons.mpr ⟨mL_10_8, (List.forall_mem_cons.mpr ⟨mL_3_23, (List.forall_mem_cons.mpr ⟨mL_4_0, (List.forall_mem_cons.mpr ⟨mL_0_14, (List.forall_mem_cons.mpr ⟨mL_4_1, (List.forall_mem_cons.mpr ⟨mL_4_2, (List.forall_mem_cons.mpr ⟨mL_0_2, (List.forall_mem_cons.mpr ⟨mL_4_3, (List.forall_mem_cons.mpr ⟨mL_4_4, (List.forall_mem_cons.mpr ⟨mL_10_9, (List.forall_mem_cons.mpr ⟨mL_10_10, (List.forall_mem_cons.mpr ⟨mL_10_11, (List.forall_mem_cons.mpr ⟨mL_10_12, (List.forall_mem_cons.mpr ⟨mL_10_13, (List.forall_mem_cons.mpr ⟨mL_10_14, (List.forall_mem_cons.mpr ⟨mL_10_15, (List.forall_mem_cons.mpr ⟨mL_10_16, (List.forall_mem_cons.mpr ⟨mL_10_17, (List.forall_mem_cons.mpr ⟨mL_10_18, (List.forall_mem_cons.mpr ⟨mL_10_19, (fun _ h => absurd h List.not_mem_nil)⟩)⟩)⟩)⟩)⟩)⟩)⟩)⟩)⟩)⟩)⟩)⟩)⟩)⟩)⟩)⟩)⟩)⟩)⟩)⟩)⟩)⟩)⟩)⟩)
theorem sL_wsX10_pitch_r2 : ∀ w ∈ wsX10_pitch_r2, w ∈ wsL_law := (List.forall_mem_cons.mpr ⟨mL_10_20, (List.forall_mem_cons.mpr ⟨mL_10_21, (List.forall_mem_cons.mpr ⟨mL_10_22, (List.forall_mem_cons.mpr ⟨mL_10_23, (List.forall_mem_cons.mpr ⟨mL_11_0, (List.forall_mem_cons.mpr ⟨mL_0_10, (List.forall_mem_cons.mpr ⟨mL_0_11, (List.forall_mem_cons.mpr ⟨mL_11_1, (List.forall_mem_cons.mpr ⟨mL_11_2, (fun _ h => absurd h List.not_mem_nil)⟩)⟩)⟩)⟩)⟩)⟩)⟩)⟩)⟩)
theorem sL_wsX60 : ∀ w ∈ wsX60, w ∈ wsL_law := by decide +kernel
theorem sL_wsX10_pitch : ∀ w ∈ wsX10_pitch, w ∈ wsL_law := (List.forall_mem_cons.mpr ⟨mL_10_5, (List.forall_mem_append.mpr ⟨(List.forall_mem_append.mpr ⟨(List.forall_mem_append.mpr ⟨sL_wsX10_pitch_r1, sL_wsX10_pitch_r2⟩), sL_wsX100⟩), sL_wsX60⟩)⟩)
theorem sL_wsX11_pitch : ∀ w ∈ wsX11_pitch, w ∈ wsL_law := (List.forall_mem_cons.mpr ⟨mL_11_6, (List.forall_mem_append.mpr ⟨(List.forall_mem_cons.mpr ⟨mL_11_7, (List.forall_mem_cons.mpr ⟨mL_11_8, (List.forall_mem_cons.mpr ⟨mL_2_21, (List.forall_mem_cons.mpr ⟨mL_2_19, (List.forall_mem_cons.mpr ⟨mL_2_22, (List.forall_mem_cons.mpr ⟨mL_2_20, (List.forall_mem_cons.mpr ⟨mL_2_23, (List.forall_mem_cons.mpr ⟨mL_5_21, (List.forall_mem_cons.mpr ⟨mL_5_22, (List.forall_mem_cons.mpr ⟨mL_0_5, (List.forall_mem_cons.mpr ⟨mL_5_23, (List.forall_mem_cons.mpr ⟨mL_6_0, (List.forall_mem_cons.mpr ⟨mL_6_1, (List.forall_mem_cons.mpr ⟨mL_6_2, (List.forall_mem_cons.mpr ⟨mL_6_3, (List.forall_mem_cons.mpr ⟨mL_6_4, (fun _ h => absurd h List.not_mem_nil)⟩)⟩)⟩)⟩)⟩)⟩)⟩)⟩)⟩)⟩)⟩)⟩)⟩)⟩)⟩)⟩), sL_wsX110⟩)⟩)
theorem sL_wsX10_foretold_r1 : ∀ w ∈ wsX10_foretold_r1, w ∈ wsL_law := (List.forall_mem_cons.mpr ⟨mL_11_13, (List.forall_mem_cons.mpr ⟨mL_0_15, (List.forall_mem_cons.mpr ⟨mL_7_10, (List.forall_mem_cons.mpr ⟨mL_7_11, (List.forall_mem_cons.mpr ⟨mL_11_14, (List.forall_mem_cons.mpr ⟨mL_11_15, (List.forall_mem_cons.mpr ⟨mL_11_16, (List.forall_mem_cons.mpr ⟨mL_0_2, (List.forall_mem_cons.mpr ⟨mL_11_17, (List.forall_mem_cons.mpr ⟨mL_10_6, (List.forall_mem_cons.mpr ⟨mL_0_17, (List.forall_mem_cons.mpr ⟨mL_4_4, (List.forall_mem_cons.mpr ⟨mL_4_2, (List.forall_mem_cons.mpr ⟨mL_4_3, (List.forall_mem_cons.mpr ⟨mL_11_18, (List.forall_mem_cons.mpr ⟨mL_11_19, (List.forall_mem_cons.mpr ⟨mL_11_20, (List.forall_mem_cons.mpr ⟨mL_10_8, (List.forall_mem_cons.mpr ⟨mL_11_21, (List.forall_mem_cons.mpr ⟨mL_10_19, (List.forall_mem_cons.mpr ⟨mL_10_20, (List.forall_mem_cons.mpr ⟨mL_10_17, (List.forall_mem_cons.mpr ⟨mL_10_18, (List.forall_mem_cons.mpr ⟨mL_11_2, (fun _ h => absurd h List.not_mem_nil)⟩)⟩)⟩)⟩)⟩)⟩)⟩)⟩)⟩)⟩)⟩)⟩)⟩)⟩)⟩)⟩)⟩)⟩)⟩)⟩)⟩)⟩)⟩)⟩)
theorem sL_wsX10_foretold_r2 : ∀ w ∈ wsX10_foretold_r2, w ∈ wsL_law := (List.forall_mem_cons.mpr ⟨mL_11_22, (List.forall_mem_cons.mpr ⟨mL_4_14, (List.forall_mem_cons.mpr ⟨mL_0_14, (List.forall_mem_cons.mpr ⟨mL_4_15, (fun _ h => absurd h List.not_mem_nil)⟩)⟩)⟩)⟩)
theorem sL_wsX10_foretold : ∀ w ∈ wsX10_foretold, w ∈ wsL_law := (List.forall_mem_cons.mpr ⟨mL_11_12, (List.forall_mem_append.mpr ⟨(List.forall_mem_append.mpr ⟨(List.forall_mem_append.mpr ⟨(List.forall_mem_append.mpr ⟨sL_wsX10_foretold_r1, sL_wsX10_foretold_r2⟩), sL_wsX100⟩), sL_wsX30⟩), sL_wsX60⟩)⟩)
theorem sL_wsX11_foretold_r1 : ∀ w ∈ wsX11_foretold_r1, w ∈ wsL_law := (List.forall_mem_cons.mpr ⟨mL_12_3, (List.forall_mem_cons.mpr ⟨mL_12_4, (List.forall_mem_cons.mpr ⟨mL_12_5, (List.forall_mem_cons.mpr ⟨mL_0_5, (List.forall_mem_cons.mpr ⟨mL_12_6, (List.forall_mem_cons.mpr ⟨mL_11_8, (List.forall_mem_cons.mpr ⟨mL_6_2, (List.forall_mem_cons.mpr ⟨mL_6_3, (List.forall_mem_cons.mpr ⟨mL_6_4, (List.forall_mem_cons.mpr ⟨mL_12_7, (List.forall_mem_cons.mpr ⟨mL_12_8, (List.forall_mem_cons.mpr ⟨mL_12_9, (List.forall_mem_cons.mpr ⟨mL_12_10, (List.forall_mem_cons.mpr ⟨mL_12_11, (List.forall_mem_cons.mpr ⟨mL_12_12, (List.forall_mem_cons.mpr ⟨mL_12_13, (List.forall_mem_cons.mpr ⟨mL_12_14, (List.forall_mem_cons.mpr ⟨mL_2_11, (List.forall_mem_cons.mpr ⟨mL_2_12, (List.forall_mem_cons.mpr ⟨mL_2_23, (List.forall_mem_cons.mpr ⟨mL_12_15, (List.forall_mem_cons.mpr ⟨mL_12_16, (List.forall_mem_cons.mpr ⟨mL_12_17, (List.forall_mem_cons.mpr ⟨mL_12_18, (fun _ h => absurd h List.not_mem_nil)⟩)⟩)⟩)⟩)⟩)⟩)⟩)⟩)⟩)⟩)⟩)⟩)⟩)⟩)⟩)⟩)⟩)⟩)⟩)⟩)⟩)⟩)⟩)⟩)
theorem sL_wsX11_foretold_r2 : ∀ w ∈ wsX11_foretold_r2, w ∈ wsL_law := (List.forall_mem_cons.mpr ⟨mL_2_19, (List.forall_mem_cons.mpr ⟨mL_2_21, (List.forall_mem_cons.mpr ⟨mL_2_20, (List.forall_mem_cons.mpr ⟨mL_2_22, (fun _ h => absurd h List.not_mem_nil)⟩)⟩)⟩)⟩)
theorem sL_wsX11_foretold : ∀ w ∈ wsX11_foretold, w ∈ wsL_law := (List.forall_mem_cons.mpr ⟨mL_12_2, (List.forall_mem_append.mpr ⟨(List.forall_mem_append.mpr ⟨sL_wsX11_foretold_r1, sL_wsX11_foretold_r2⟩), sL_wsX110⟩)⟩)
theorem sL_wsX10_gang_r1 : ∀ w ∈ wsX10_gang_r1, w ∈ wsL_law := (List.forall_mem_cons.mpr ⟨mL_12_23, (List.forall_mem_cons.mpr ⟨mL_0_19, (List.forall_mem_cons.mpr ⟨mL_4_4, (List.forall_mem_cons.mpr ⟨mL_4_2, (List.forall_mem_cons.mpr ⟨mL_0_2, (List.forall_mem_cons.mpr ⟨mL_4_3, (List.forall_mem_cons.mpr ⟨mL_13_0, (List.forall_mem_cons.mpr ⟨mL_13_1, (List.forall_mem_cons.mpr ⟨mL_13_2, (List.forall_mem_cons.mpr ⟨mL_13_3, (List.forall_mem_cons.mpr ⟨mL_13_4, (List.forall_mem_cons.mpr ⟨mL_13_5, (List.forall_mem_cons.mpr ⟨mL_13_6, (List.forall_mem_cons.mpr ⟨mL_13_7, (List.forall_mem_cons.mpr ⟨mL_13_8, (List.forall_mem_cons.mpr ⟨mL_0_18, (List.forall_mem_cons.mpr ⟨mL_13_9, (List.forall_mem_cons.mpr ⟨mL_13_10, (List.forall_mem_cons.mpr ⟨mL_13_11, (List.forall_mem_cons.mpr ⟨mL_13_12, (List.forall_mem_cons.mpr ⟨mL_13_13, (List.forall_mem_cons.mpr ⟨mL_13_14, (List.forall_mem_cons.mpr ⟨mL_13_15, (List.forall_mem_cons.mpr ⟨mL_13_16, (fun _ h => absurd h List.not_mem_nil)⟩)⟩)⟩)⟩)⟩)⟩)⟩)⟩)⟩)⟩)⟩)⟩)⟩)⟩)⟩)⟩)⟩)⟩)⟩)⟩)⟩)⟩)⟩)⟩)
theorem sL_wsX10_gang_r2 : ∀ w ∈ wsX10_gang_r2, w ∈ wsL_law := (List.forall_mem_cons.mpr ⟨mL_13_17, (List.forall_mem_cons.mpr ⟨mL_13_18, (List.forall_mem_cons.mpr ⟨mL_13_19, (List.forall_mem_cons.mpr ⟨mL_13_20, (List.forall_mem_cons.mpr ⟨mL_0_10, (List.forall_mem_cons.mpr ⟨mL_0_11, (List.forall_mem_cons.mpr ⟨mL_13_21, (List.forall_mem_cons.mpr ⟨mL_13_22, (List.forall_mem_cons.mpr ⟨mL_13_23, (fun _ h => absurd h List.not_mem_nil)⟩)⟩)⟩)⟩)⟩)⟩)⟩)⟩)⟩)
theorem sL_wsX40 : ∀ w ∈ wsX40, w ∈ wsL_law := by decide +kernel
theorem sL_wsX10 : ∀ w ∈ wsX10, w ∈ wsL_law := by decide +kernel
theorem sL_wsX20 : ∀ w ∈ wsX20, w ∈ wsL_law := by decide +kernel
theorem sL_wsX10_gang : ∀ w ∈ wsX10_gang, w ∈ wsL_law := (List.forall_mem_cons.mpr ⟨mL_12_22, (List.forall_mem_append.mpr ⟨(List.forall_mem_append.mpr ⟨(List.forall_mem_append.mpr ⟨(List.forall_mem_append.mpr ⟨(List.forall_mem_append.mpr ⟨sL_wsX10_gang_r1, sL_wsX10_gang_r2⟩), sL_wsX100⟩), sL_wsX40⟩), sL_wsX10⟩), sL_wsX20⟩)⟩)
theorem sL_wsX11_gang : ∀ w ∈ wsX11_gang, w ∈ wsL_law := (List.forall_mem_cons.mpr ⟨mL_14_3, (List.forall_mem_append.mpr ⟨(List.forall_mem_cons.mpr ⟨mL_9_9, (List.forall_mem_cons.mpr ⟨mL_14_4, (List.forall_mem_cons.mpr ⟨mL_3_0, (List.forall_mem_cons.mpr ⟨mL_6_2, (List.forall_mem_cons.mpr ⟨mL_6_3, (List.forall_mem_cons.mpr ⟨mL_0_5, (List.forall_mem_cons.mpr ⟨mL_6_4, (fun _ h => absurd h List.not_mem_nil)⟩)⟩)⟩)⟩)⟩)⟩)⟩), sL_wsX110⟩)⟩)
theorem sL_wsX00 : ∀ w ∈ wsX00, w ∈ wsL_law := by decide +kernel
theorem sL_wsX10_auction : ∀ w ∈ wsX10_auction, w ∈ wsL_law := (List.forall_mem_cons.mpr ⟨mL_14_8, (List.forall_mem_append.mpr ⟨(List.forall_mem_append.mpr ⟨(List.forall_mem_append.mpr ⟨(List.forall_mem_cons.mpr ⟨mL_14_9, (List.forall_mem_cons.mpr ⟨mL_14_10, (List.forall_mem_cons.mpr ⟨mL_14_11, (List.forall_mem_cons.mpr ⟨mL_14_12, (List.forall_mem_cons.mpr ⟨mL_14_13, (List.forall_mem_cons.mpr ⟨mL_11_14, (List.forall_mem_cons.mpr ⟨mL_11_15, (List.forall_mem_cons.mpr ⟨mL_11_16, (List.forall_mem_cons.mpr ⟨mL_0_2, (List.forall_mem_cons.mpr ⟨mL_11_17, (List.forall_mem_cons.mpr ⟨mL_10_6, (List.forall_mem_cons.mpr ⟨mL_0_17, (List.forall_mem_cons.mpr ⟨mL_4_4, (List.forall_mem_cons.mpr ⟨mL_4_2, (List.forall_mem_cons.mpr ⟨mL_4_3, (List.forall_mem_cons.mpr ⟨mL_14_14, (List.forall_mem_cons.mpr ⟨mL_14_15, (List.forall_mem_cons.mpr ⟨mL_14_16, (List.forall_mem_cons.mpr ⟨mL_14_17, (List.forall_mem_cons.mpr ⟨mL_0_10, (List.forall_mem_cons.mpr ⟨mL_0_11, (List.forall_mem_cons.mpr ⟨mL_14_18, (List.forall_mem_cons.mpr ⟨mL_14_19, (fun _ h => absurd h List.not_mem_nil)⟩)⟩)⟩)⟩)⟩)⟩)⟩)⟩)⟩)⟩)⟩)⟩)⟩)⟩)⟩)⟩)⟩)⟩)⟩)⟩)⟩)⟩)⟩), sL_wsX60⟩), sL_wsX100⟩), sL_wsX00⟩)⟩)
theorem sL_wsX11_auction : ∀ w ∈ wsX11_auction, w ∈ wsL_law := (List.forall_mem_cons.mpr ⟨mL_14_23, (List.forall_mem_append.mpr ⟨(List.forall_mem_cons.mpr ⟨mL_15_0, (List.forall_mem_cons.mpr ⟨mL_3_17, (List.forall_mem_cons.mpr ⟨mL_15_1, (List.forall_mem_cons.mpr ⟨mL_15_2, (List.forall_mem_cons.mpr ⟨mL_15_3, (List.forall_mem_cons.mpr ⟨mL_12_3, (List.forall_mem_cons.mpr ⟨mL_12_4, (List.forall_mem_cons.mpr ⟨mL_12_5, (List.forall_mem_cons.mpr ⟨mL_0_5, (List.forall_mem_cons.mpr ⟨mL_12_6, (List.forall_mem_cons.mpr ⟨mL_11_8, (List.forall_mem_cons.mpr ⟨mL_6_2, (List.forall_mem_cons.mpr ⟨mL_6_3, (List.forall_mem_cons.mpr ⟨mL_6_4, (List.forall_mem_cons.mpr ⟨mL_15_4, (List.forall_mem_cons.mpr ⟨mL_15_5, (List.forall_mem_cons.mpr ⟨mL_15_6, (List.forall_mem_cons.mpr ⟨mL_15_7, (List.forall_mem_cons.mpr ⟨mL_15_8, (List.forall_mem_cons.mpr ⟨mL_3_4, (List.forall_mem_cons.mpr ⟨mL_3_7, (fun _ h => absurd h List.not_mem_nil)⟩)⟩)⟩)⟩)⟩)⟩)⟩)⟩)⟩)⟩)⟩)⟩)⟩)⟩)⟩)⟩)⟩)⟩)⟩)⟩)⟩), sL_wsX110⟩)⟩)
theorem sL_wsX10_bid : ∀ w ∈ wsX10_bid, w ∈ wsL_law := (List.forall_mem_cons.mpr ⟨mL_15_12, (List.forall_mem_append.mpr ⟨(List.forall_mem_append.mpr ⟨(List.forall_mem_append.mpr ⟨(List.forall_mem_append.mpr ⟨(List.forall_mem_append.mpr ⟨(List.forall_mem_cons.mpr ⟨mL_14_10, (List.forall_mem_cons.mpr ⟨mL_15_13, (List.forall_mem_cons.mpr ⟨mL_15_14, (List.forall_mem_cons.mpr ⟨mL_15_15, (List.forall_mem_cons.mpr ⟨mL_15_16, (List.forall_mem_cons.mpr ⟨mL_15_17, (List.forall_mem_cons.mpr ⟨mL_15_18, (List.forall_mem_cons.mpr ⟨mL_15_19, (List.forall_mem_cons.mpr ⟨mL_0_2, (List.forall_mem_cons.mpr ⟨mL_15_20, (List.forall_mem_cons.mpr ⟨mL_12_23, (List.forall_mem_cons.mpr ⟨mL_0_19, (List.forall_mem_cons.mpr ⟨mL_4_4, (List.forall_mem_cons.mpr ⟨mL_4_2, (List.forall_mem_cons.mpr ⟨mL_4_3, (List.forall_mem_cons.mpr ⟨mL_15_21, (List.forall_mem_cons.mpr ⟨mL_15_22, (List.forall_mem_cons.mpr ⟨mL_15_23, (List.forall_mem_cons.mpr ⟨mL_14_13, (List.forall_mem_cons.mpr ⟨mL_16_0, (List.forall_mem_cons.mpr ⟨mL_16_1, (List.forall_mem_cons.mpr ⟨mL_14_19, (fun _ h => absurd h List.not_mem_nil)⟩)⟩)⟩)⟩)⟩)⟩)⟩)⟩)⟩)⟩)⟩)⟩)⟩)⟩)⟩)⟩)⟩)⟩)⟩)⟩)⟩)⟩), sL_wsX100⟩), sL_wsX00⟩), sL_wsX10⟩), sL_wsX20⟩), sL_wsX40⟩)⟩)
theorem sL_wsX11_bid : ∀ w ∈ wsX11_bid, w ∈ wsL_law := (List.forall_mem_cons.mpr ⟨mL_16_5, (List.forall_mem_append.mpr ⟨(List.forall_mem_cons.mpr ⟨mL_3_17, (List.forall_mem_cons.mpr ⟨mL_15_2, (List.forall_mem_cons.mpr ⟨mL_15_1, (List.forall_mem_cons.mpr ⟨mL_15_3, (List.forall_mem_cons.mpr ⟨mL_16_6, (List.forall_mem_cons.mpr ⟨mL_16_7, (List.forall_mem_cons.mpr ⟨mL_16_8, (List.forall_mem_cons.mpr ⟨mL_0_5, (List.forall_mem_cons.mpr ⟨mL_16_9, (List.forall_mem_cons.mpr ⟨mL_14_4, (List.forall_mem_cons.mpr ⟨mL_6_2, (List.forall_mem_cons.mpr ⟨mL_6_3, (List.forall_mem_cons.mpr ⟨mL_6_4, (List.forall_mem_cons.mpr ⟨mL_16_10, (List.forall_mem_cons.mpr ⟨mL_16_11, (List.forall_mem_cons.mpr ⟨mL_16_12, (List.forall_mem_cons.mpr ⟨mL_16_13, (List.forall_mem_cons.mpr ⟨mL_15_8, (List.forall_mem_cons.mpr ⟨mL_3_3, (List.forall_mem_cons.mpr ⟨mL_3_7, (fun _ h => absurd h List.not_mem_nil)⟩)⟩)⟩)⟩)⟩)⟩)⟩)⟩)⟩)⟩)⟩)⟩)⟩)⟩)⟩)⟩)⟩)⟩)⟩)⟩), sL_wsX110⟩)⟩)
theorem sL_wsX10_strike_r1 : ∀ w ∈ wsX10_strike_r1, w ∈ wsL_law := (List.forall_mem_cons.mpr ⟨mL_14_10, (List.forall_mem_cons.mpr ⟨mL_16_18, (List.forall_mem_cons.mpr ⟨mL_15_13, (List.forall_mem_cons.mpr ⟨mL_16_19, (List.forall_mem_cons.mpr ⟨mL_0_20, (List.forall_mem_cons.mpr ⟨mL_16_20, (List.forall_mem_cons.mpr ⟨mL_16_21, (List.forall_mem_cons.mpr ⟨mL_15_16, (List.forall_mem_cons.mpr ⟨mL_0_15, (List.forall_mem_cons.mpr ⟨mL_7_10, (List.forall_mem_cons.mpr ⟨mL_16_22, (List.forall_mem_cons.mpr ⟨mL_7_11, (List.forall_mem_cons.mpr ⟨mL_16_23, (List.forall_mem_cons.mpr ⟨mL_0_21, (List.forall_mem_cons.mpr ⟨mL_17_0, (List.forall_mem_cons.mpr ⟨mL_17_1, (List.forall_mem_cons.mpr ⟨mL_17_2, (List.forall_mem_cons.mpr ⟨mL_17_3, (List.forall_mem_cons.mpr ⟨mL_0_10, (List.forall_mem_cons.mpr ⟨mL_0_11, (List.forall_mem_cons.mpr ⟨mL_17_4, (List.forall_mem_cons.mpr ⟨mL_17_5, (List.forall_mem_cons.mpr ⟨mL_17_6, (List.forall_mem_cons.mpr ⟨mL_17_7, (fun _ h => absurd h List.not_mem_nil)⟩)⟩)⟩)⟩)⟩)⟩)⟩)⟩)⟩)⟩)⟩)⟩)⟩)⟩)⟩)⟩)⟩)⟩)⟩)⟩)⟩)⟩)⟩)⟩)
theorem sL_wsX10_strike_r2 : ∀ w ∈ wsX10_strike_r2, w ∈ wsL_law := (List.forall_mem_cons.mpr ⟨mL_11_18, (List.forall_mem_cons.mpr ⟨mL_11_19, (List.forall_mem_cons.mpr ⟨mL_11_20, (List.forall_mem_cons.mpr ⟨mL_10_8, (List.forall_mem_cons.mpr ⟨mL_11_21, (List.forall_mem_cons.mpr ⟨mL_10_19, (List.forall_mem_cons.mpr ⟨mL_10_20, (List.forall_mem_cons.mpr ⟨mL_10_17, (List.forall_mem_cons.mpr ⟨mL_10_18, (List.forall_mem_cons.mpr ⟨mL_11_2, (List.forall_mem_cons.mpr ⟨mL_11_22, (List.forall_mem_cons.mpr ⟨mL_4_14, (List.forall_mem_cons.mpr ⟨mL_0_14, (List.forall_mem_cons.mpr ⟨mL_4_15, (List.forall_mem_cons.mpr ⟨mL_17_8, (List.forall_mem_cons.mpr ⟨mL_17_9, (List.forall_mem_cons.mpr ⟨mL_17_10, (List.forall_mem_cons.mpr ⟨mL_17_11, (List.forall_mem_cons.mpr ⟨mL_17_12, (List.forall_mem_cons.mpr ⟨mL_17_13, (List.forall_mem_cons.mpr ⟨mL_17_14, (List.forall_mem_cons.mpr ⟨mL_17_15, (fun _ h => absurd h List.not_mem_nil)⟩)⟩)⟩)⟩)⟩)⟩)⟩)⟩)⟩)⟩)⟩)⟩)⟩)⟩)⟩)⟩)⟩)⟩)⟩)⟩)⟩)⟩)
theorem sL_wsX80 : ∀ w ∈ wsX80, w ∈ wsL_law := by decide +kernel
theorem sL_wsX10_strike : ∀ w ∈ wsX10_strike, w ∈ wsL_law := (List.forall_mem_cons.mpr ⟨mL_16_17, (List.forall_mem_append.mpr ⟨(List.forall_mem_append.mpr ⟨(List.forall_mem_append.mpr ⟨(List.forall_mem_append.mpr ⟨(List.forall_mem_append.mpr ⟨(List.forall_mem_append.mpr ⟨(List.forall_mem_append.mpr ⟨(List.forall_mem_append.mpr ⟨(List.forall_mem_append.mpr ⟨sL_wsX10_strike_r1, sL_wsX10_strike_r2⟩), sL_wsX100⟩), sL_wsX00⟩), sL_wsX80⟩), sL_wsX30⟩), sL_wsX60⟩), sL_wsX10⟩), sL_wsX20⟩), sL_wsX40⟩)⟩)
theorem sL_wsX11_strike_r1 : ∀ w ∈ wsX11_strike_r1, w ∈ wsL_law := (List.forall_mem_cons.mpr ⟨mL_3_17, (List.forall_mem_cons.mpr ⟨mL_15_2, (List.forall_mem_cons.mpr ⟨mL_15_8, (List.forall_mem_cons.mpr ⟨mL_3_3, (List.forall_mem_cons.mpr ⟨mL_15_3, (List.forall_mem_cons.mpr ⟨mL_3_4, (List.forall_mem_cons.mpr ⟨mL_3_5, (List.forall_mem_cons.mpr ⟨mL_15_1, (List.forall_mem_cons.mpr ⟨mL_3_8, (List.forall_mem_cons.mpr ⟨mL_3_9, (List.forall_mem_cons.mpr ⟨mL_12_11, (List.forall_mem_cons.mpr ⟨mL_12_12, (List.forall_mem_cons.mpr ⟨mL_12_13, (List.forall_mem_cons.mpr ⟨mL_0_5, (List.forall_mem_cons.mpr ⟨mL_12_14, (List.forall_mem_cons.mpr ⟨mL_2_11, (List.forall_mem_cons.mpr ⟨mL_2_12, (List.forall_mem_cons.mpr ⟨mL_2_23, (List.forall_mem_cons.mpr ⟨mL_12_15, (List.forall_mem_cons.mpr ⟨mL_12_16, (List.forall_mem_cons.mpr ⟨mL_12_17, (List.forall_mem_cons.mpr ⟨mL_12_18, (List.forall_mem_cons.mpr ⟨mL_2_19, (List.forall_mem_cons.mpr ⟨mL_2_21, (fun _ h => absurd h List.not_mem_nil)⟩)⟩)⟩)⟩)⟩)⟩)⟩)⟩)⟩)⟩)⟩)⟩)⟩)⟩)⟩)⟩)⟩)⟩)⟩)⟩)⟩)⟩)⟩)⟩)
theorem sL_wsX11_strike_r2 : ∀ w ∈ wsX11_strike_r2, w ∈ wsL_law := (List.forall_mem_cons.mpr ⟨mL_2_20, (List.forall_mem_cons.mpr ⟨mL_2_22, (List.forall_mem_cons.mpr ⟨mL_6_2, (List.forall_mem_cons.mpr ⟨mL_6_3, (List.forall_mem_cons.mpr ⟨mL_6_4, (fun _ h => absurd h List.not_mem_nil)⟩)⟩)⟩)⟩)⟩)
theorem sL_wsX11_strike : ∀ w ∈ wsX11_strike, w ∈ wsL_law := (List.forall_mem_cons.mpr ⟨mL_17_19, (List.forall_mem_append.mpr ⟨(List.forall_mem_append.mpr ⟨sL_wsX11_strike_r1, sL_wsX11_strike_r2⟩), sL_wsX110⟩)⟩)
theorem sL_wsX10_about : ∀ w ∈ wsX10_about, w ∈ wsL_law := (List.forall_mem_cons.mpr ⟨mL_17_23, (List.forall_mem_append.mpr ⟨(List.forall_mem_append.mpr ⟨(List.forall_mem_append.mpr ⟨(List.forall_mem_cons.mpr ⟨mL_18_0, (List.forall_mem_cons.mpr ⟨mL_18_1, (List.forall_mem_cons.mpr ⟨mL_18_2, (List.forall_mem_cons.mpr ⟨mL_18_3, (List.forall_mem_cons.mpr ⟨mL_18_4, (List.forall_mem_cons.mpr ⟨mL_14_9, (List.forall_mem_cons.mpr ⟨mL_18_5, (List.forall_mem_cons.mpr ⟨mL_18_6, (List.forall_mem_cons.mpr ⟨mL_11_14, (List.forall_mem_cons.mpr ⟨mL_11_15, (List.forall_mem_cons.mpr ⟨mL_11_16, (List.forall_mem_cons.mpr ⟨mL_0_2, (List.forall_mem_cons.mpr ⟨mL_11_17, (List.forall_mem_cons.mpr ⟨mL_10_6, (List.forall_mem_cons.mpr ⟨mL_0_17, (List.forall_mem_cons.mpr ⟨mL_4_4, (List.forall_mem_cons.mpr ⟨mL_4_2, (List.forall_mem_cons.mpr ⟨mL_4_3, (fun _ h => absurd h List.not_mem_nil)⟩)⟩)⟩)⟩)⟩)⟩)⟩)⟩)⟩)⟩)⟩)⟩)⟩)⟩)⟩)⟩)⟩)⟩), sL_wsX60⟩), sL_wsX80⟩), sL_wsX100⟩)⟩)
theorem sL_wsX11_about_r1 : ∀ w ∈ wsX11_about_r1, w ∈ wsL_law := (List.forall_mem_cons.mpr ⟨mL_2_19, (List.forall_mem_cons.mpr ⟨mL_2_20, (List.forall_mem_cons.mpr ⟨mL_2_21, (List.forall_mem_cons.mpr ⟨mL_2_22, (List.forall_mem_cons.mpr ⟨mL_2_23, (List.forall_mem_cons.mpr ⟨mL_12_3, (List.forall_mem_cons.mpr ⟨mL_12_4, (List.forall_mem_cons.mpr ⟨mL_12_5, (List.forall_mem_cons.mpr ⟨mL_0_5, (List.forall_mem_cons.mpr ⟨mL_12_6, (List.forall_mem_cons.mpr ⟨mL_11_8, (List.forall_mem_cons.mpr ⟨mL_6_2, (List.forall_mem_cons.mpr ⟨mL_6_3, (List.forall_mem_cons.mpr ⟨mL_6_4, (List.forall_mem_cons.mpr ⟨mL_15_4, (List.forall_mem_cons.mpr ⟨mL_15_5, (List.forall_mem_cons.mpr ⟨mL_15_6, (List.forall_mem_cons.mpr ⟨mL_15_7, (List.forall_mem_cons.mpr ⟨mL_15_8, (List.forall_mem_cons.mpr ⟨mL_3_4, (List.forall_mem_cons.mpr ⟨mL_3_7, (List.forall_mem_cons.mpr ⟨mL_18_11, (List.forall_mem_cons.mpr ⟨mL_18_12, (List.forall_mem_cons.mpr ⟨mL_18_13, (fun _ h => absurd h List.not_mem_nil)⟩)⟩)⟩)⟩)⟩)⟩)⟩)⟩)⟩)⟩)⟩)⟩)⟩)⟩)⟩)⟩)⟩)⟩)⟩)⟩)⟩)⟩)⟩)⟩)
theorem sL_wsX11_about_r2 : ∀ w ∈ wsX11_about_r2, w ∈ wsL_law := (List.forall_mem_cons.mpr ⟨mL_18_14, (fun _ h => absurd h List.not_mem_nil)⟩)
theorem sL_wsX11_about : ∀ w ∈ wsX11_about, w ∈ wsL_law := (List.forall_mem_cons.mpr ⟨mL_18_10, (List.forall_mem_append.mpr ⟨(List.forall_mem_append.mpr ⟨sL_wsX11_about_r1, sL_wsX11_about_r2⟩), sL_wsX110⟩)⟩)
theorem sL_wsX10_parcel_r1 : ∀ w ∈ wsX10_parcel_r1, w ∈ wsL_law := (List.forall_mem_cons.mpr ⟨mL_18_19, (List.forall_mem_cons.mpr ⟨mL_18_20, (List.forall_mem_cons.mpr ⟨mL_0_23, (List.forall_mem_cons.mpr ⟨mL_0_22, (List.forall_mem_cons.mpr ⟨mL_18_21, (List.forall_mem_cons.mpr ⟨mL_18_22, (List.forall_mem_cons.mpr ⟨mL_18_23, (List.forall_mem_cons.mpr ⟨mL_19_0, (List.forall_mem_cons.mpr ⟨mL_19_1, (List.forall_mem_cons.mpr ⟨mL_19_2, (List.forall_mem_cons.mpr ⟨mL_19_3, (List.forall_mem_cons.mpr ⟨mL_19_4, (List.forall_mem_cons.mpr ⟨mL_0_2, (List.forall_mem_cons.mpr ⟨mL_19_5, (List.forall_mem_cons.mpr ⟨mL_16_19, (List.forall_mem_cons.mpr ⟨mL_0_21, (List.forall_mem_cons.mpr ⟨mL_4_4, (List.forall_mem_cons.mpr ⟨mL_4_2, (List.forall_mem_cons.mpr ⟨mL_4_3, (List.forall_mem_cons.mpr ⟨mL_19_6, (List.forall_mem_cons.mpr ⟨mL_19_7, (List.forall_mem_cons.mpr ⟨mL_19_8, (List.forall_mem_cons.mpr ⟨mL_19_9, (List.forall_mem_cons.mpr ⟨mL_0_10, (fun _ h => absurd h List.not_mem_nil)⟩)⟩)⟩)⟩)⟩)⟩)⟩)⟩)⟩)⟩)⟩)⟩)⟩)⟩)⟩)⟩)⟩)⟩)⟩)⟩)⟩)⟩)⟩)⟩)
theorem sL_wsX10_parcel_r2 : ∀ w ∈ wsX10_parcel_r2, w ∈ wsL_law := (List.forall_mem_cons.mpr ⟨mL_0_11, (List.forall_mem_cons.mpr ⟨mL_19_10, (List.forall_mem_cons.mpr ⟨mL_19_11, (fun _ h => absurd h List.not_mem_nil)⟩)⟩)⟩)
theorem sL_wsX50 : ∀ w ∈ wsX50, w ∈ wsL_law := by decide +kernel
theorem sL_wsX10_parcel : ∀ w ∈ wsX10_parcel, w ∈ wsL_law := (List.forall_mem_cons.mpr ⟨mL_18_18, (List.forall_mem_append.mpr ⟨(List.forall_mem_append.mpr ⟨(List.forall_mem_append.mpr ⟨(List.forall_mem_append.mpr ⟨sL_wsX10_parcel_r1, sL_wsX10_parcel_r2⟩), sL_wsX80⟩), sL_wsX100⟩), sL_wsX50⟩)⟩)
theorem sL_wsX11_parcel : ∀ w ∈ wsX11_parcel, w ∈ wsL_law := (List.forall_mem_cons.mpr ⟨mL_19_15, (List.forall_mem_append.mpr ⟨(List.forall_mem_cons.mpr ⟨mL_5_20, (List.forall_mem_cons.mpr ⟨mL_3_7, (List.forall_mem_cons.mpr ⟨mL_19_16, (List.forall_mem_cons.mpr ⟨mL_3_13, (List.forall_mem_cons.mpr ⟨mL_3_14, (List.forall_mem_cons.mpr ⟨mL_3_15, (List.forall_mem_cons.mpr ⟨mL_19_17, (List.forall_mem_cons.mpr ⟨mL_19_18, (List.forall_mem_cons.mpr ⟨mL_19_19, (List.forall_mem_cons.mpr ⟨mL_0_5, (List.forall_mem_cons.mpr ⟨mL_19_20, (List.forall_mem_cons.mpr ⟨mL_15_8, (List.forall_mem_cons.mpr ⟨mL_6_2, (List.forall_mem_cons.mpr ⟨mL_6_3, (List.forall_mem_cons.mpr ⟨mL_6_4, (fun _ h => absurd h List.not_mem_nil)⟩)⟩)⟩)⟩)⟩)⟩)⟩)⟩)⟩)⟩)⟩)⟩)⟩)⟩)⟩), sL_wsX110⟩)⟩)
theorem sL_wsX10_spend : ∀ w ∈ wsX10_spend, w ∈ wsL_law := (List.forall_mem_cons.mpr ⟨mL_20_0, (List.forall_mem_append.mpr ⟨(List.forall_mem_append.mpr ⟨(List.forall_mem_cons.mpr ⟨mL_20_1, (List.forall_mem_cons.mpr ⟨mL_11_13, (List.forall_mem_cons.mpr ⟨mL_18_19, (List.forall_mem_cons.mpr ⟨mL_20_2, (List.forall_mem_cons.mpr ⟨mL_20_3, (List.forall_mem_cons.mpr ⟨mL_19_2, (List.forall_mem_cons.mpr ⟨mL_19_3, (List.forall_mem_cons.mpr ⟨mL_19_4, (List.forall_mem_cons.mpr ⟨mL_0_2, (List.forall_mem_cons.mpr ⟨mL_19_5, (List.forall_mem_cons.mpr ⟨mL_16_19, (List.forall_mem_cons.mpr ⟨mL_0_21, (List.forall_mem_cons.mpr ⟨mL_4_4, (List.forall_mem_cons.mpr ⟨mL_4_2, (List.forall_mem_cons.mpr ⟨mL_4_3, (fun _ h => absurd h List.not_mem_nil)⟩)⟩)⟩)⟩)⟩)⟩)⟩)⟩)⟩)⟩)⟩)⟩)⟩)⟩)⟩), sL_wsX80⟩), sL_wsX100⟩)⟩)
theorem sL_wsX11_spend : ∀ w ∈ wsX11_spend, w ∈ wsL_law := (List.forall_mem_cons.mpr ⟨mL_20_7, (List.forall_mem_append.mpr ⟨(List.forall_mem_cons.mpr ⟨mL_20_8, (List.forall_mem_cons.mpr ⟨mL_3_7, (List.forall_mem_cons.mpr ⟨mL_3_10, (List.forall_mem_cons.mpr ⟨mL_3_11, (List.forall_mem_cons.mpr ⟨mL_19_17, (List.forall_mem_cons.mpr ⟨mL_19_18, (List.forall_mem_cons.mpr ⟨mL_19_19, (List.forall_mem_cons.mpr ⟨mL_0_5, (List.forall_mem_cons.mpr ⟨mL_19_20, (List.forall_mem_cons.mpr ⟨mL_15_8, (List.forall_mem_cons.mpr ⟨mL_6_2, (List.forall_mem_cons.mpr ⟨mL_6_3, (List.forall_mem_cons.mpr ⟨mL_6_4, (List.forall_mem_cons.mpr ⟨mL_12_7, (List.forall_mem_cons.mpr ⟨mL_12_8, (List.forall_mem_cons.mpr ⟨mL_12_9, (List.forall_mem_cons.mpr ⟨mL_12_10, (fun _ h => absurd h List.not_mem_nil)⟩)⟩)⟩)⟩)⟩)⟩)⟩)⟩)⟩)⟩)⟩)⟩)⟩)⟩)⟩)⟩)⟩), sL_wsX110⟩)⟩)
theorem sL_wsX10_settle_r1 : ∀ w ∈ wsX10_settle_r1, w ∈ wsL_law := (List.forall_mem_cons.mpr ⟨mL_18_19, (List.forall_mem_cons.mpr ⟨mL_11_13, (List.forall_mem_cons.mpr ⟨mL_20_13, (List.forall_mem_cons.mpr ⟨mL_19_2, (List.forall_mem_cons.mpr ⟨mL_19_3, (List.forall_mem_cons.mpr ⟨mL_19_4, (List.forall_mem_cons.mpr ⟨mL_0_2, (List.forall_mem_cons.mpr ⟨mL_19_5, (List.forall_mem_cons.mpr ⟨mL_16_19, (List.forall_mem_cons.mpr ⟨mL_0_21, (List.forall_mem_cons.mpr ⟨mL_4_4, (List.forall_mem_cons.mpr ⟨mL_4_2, (List.forall_mem_cons.mpr ⟨mL_4_3, (List.forall_mem_cons.mpr ⟨mL_20_14, (List.forall_mem_cons.mpr ⟨mL_20_15, (List.forall_mem_cons.mpr ⟨mL_20_16, (List.forall_mem_cons.mpr ⟨mL_16_21, (List.forall_mem_cons.mpr ⟨mL_20_17, (List.forall_mem_cons.mpr ⟨mL_17_5, (List.forall_mem_cons.mpr ⟨mL_17_7, (List.forall_mem_cons.mpr ⟨mL_20_18, (List.forall_mem_cons.mpr ⟨mL_20_19, (List.forall_mem_cons.mpr ⟨mL_20_20, (List.forall_mem_cons.mpr ⟨mL_20_21, (fun _ h => absurd h List.not_mem_nil)⟩)⟩)⟩)⟩)⟩)⟩)⟩)⟩)⟩)⟩)⟩)⟩)⟩)⟩)⟩)⟩)⟩)⟩)⟩)⟩)⟩)⟩)⟩)⟩)
theorem sL_wsX10_settle_r2 : ∀ w ∈ wsX10_settle_r2, w ∈ wsL_law := (List.forall_mem_cons.mpr ⟨mL_20_22, (List.forall_mem_cons.mpr ⟨mL_20_23, (List.forall_mem_cons.mpr ⟨mL_4_22, (List.forall_mem_cons.mpr ⟨mL_21_0, (List.forall_mem_cons.mpr ⟨mL_21_1, (List.forall_mem_cons.mpr ⟨mL_21_2, (List.forall_mem_cons.mpr ⟨mL_21_3, (List.forall_mem_cons.mpr ⟨mL_17_15, (List.forall_mem_cons.mpr ⟨mL_17_6, (List.forall_mem_cons.mpr ⟨mL_17_12, (List.forall_mem_cons.mpr ⟨mL_21_4, (List.forall_mem_cons.mpr ⟨mL_21_5, (List.forall_mem_cons.mpr ⟨mL_21_6, (List.forall_mem_cons.mpr ⟨mL_21_7, (List.forall_mem_cons.mpr ⟨mL_13_10, (List.forall_mem_cons.mpr ⟨mL_21_8, (List.forall_mem_cons.mpr ⟨mL_21_9, (List.forall_mem_cons.mpr ⟨mL_21_10, (List.forall_mem_cons.mpr ⟨mL_21_11, (List.forall_mem_cons.mpr ⟨mL_21_12, (List.forall_mem_cons.mpr ⟨mL_21_13, (List.forall_mem_cons.mpr ⟨mL_21_14, (List.forall_mem_cons.mpr ⟨mL_13_5, (List.forall_mem_cons.mpr ⟨mL_21_15, (fun _ h => absurd h List.not_mem_nil)⟩)⟩)⟩)⟩)⟩)⟩)⟩)⟩)⟩)⟩)⟩)⟩)⟩)⟩)⟩)⟩)⟩)⟩)⟩)⟩)⟩)⟩)⟩)⟩)
theorem sL_wsX10_settle_r3 : ∀ w ∈ wsX10_settle_r3, w ∈ wsL_law := (List.forall_mem_cons.mpr ⟨mL_21_16, (List.forall_mem_cons.mpr ⟨mL_21_17, (List.forall_mem_cons.mpr ⟨mL_21_18, (List.forall_mem_cons.mpr ⟨mL_21_19, (List.forall_mem_cons.mpr ⟨mL_21_20, (List.forall_mem_cons.mpr ⟨mL_21_21, (List.forall_mem_cons.mpr ⟨mL_21_22, (List.forall_mem_cons.mpr ⟨mL_21_23, (List.forall_mem_cons.mpr ⟨mL_13_8, (List.forall_mem_cons.mpr ⟨mL_22_0, (List.forall_mem_cons.mpr ⟨mL_22_1, (List.forall_mem_cons.mpr ⟨mL_22_2, (List.forall_mem_cons.mpr ⟨mL_22_3, (List.forall_mem_cons.mpr ⟨mL_22_4, (List.forall_mem_cons.mpr ⟨mL_22_5, (List.forall_mem_cons.mpr ⟨mL_22_6, (fun _ h => absurd h List.not_mem_nil)⟩)⟩)⟩)⟩)⟩)⟩)⟩)⟩)⟩)⟩)⟩)⟩)⟩)⟩)⟩)⟩)
theorem sL_wsX10_settle : ∀ w ∈ wsX10_settle, w ∈ wsL_law := (List.forall_mem_cons.mpr ⟨mL_20_12, (List.forall_mem_append.mpr ⟨(List.forall_mem_append.mpr ⟨(List.forall_mem_append.mpr ⟨(List.forall_mem_append.mpr ⟨(List.forall_mem_append.mpr ⟨(List.forall_mem_append.mpr ⟨(List.forall_mem_append.mpr ⟨sL_wsX10_settle_r1, (List.forall_mem_append.mpr ⟨sL_wsX10_settle_r2, sL_wsX10_settle_r3⟩)⟩), sL_wsX80⟩), sL_wsX100⟩), sL_wsX10⟩), sL_wsX20⟩), sL_wsX40⟩), sL_wsX60⟩)⟩)
theorem sL_wsX11_settle_r1 : ∀ w ∈ wsX11_settle_r1, w ∈ wsL_law := (List.forall_mem_cons.mpr ⟨mL_3_7, (List.forall_mem_cons.mpr ⟨mL_3_3, (List.forall_mem_cons.mpr ⟨mL_3_0, (List.forall_mem_cons.mpr ⟨mL_3_2, (List.forall_mem_cons.mpr ⟨mL_9_9, (List.forall_mem_cons.mpr ⟨mL_3_5, (List.forall_mem_cons.mpr ⟨mL_15_0, (List.forall_mem_cons.mpr ⟨mL_3_10, (List.forall_mem_cons.mpr ⟨mL_3_11, (List.forall_mem_cons.mpr ⟨mL_3_12, (List.forall_mem_cons.mpr ⟨mL_19_17, (List.forall_mem_cons.mpr ⟨mL_19_18, (List.forall_mem_cons.mpr ⟨mL_19_19, (List.forall_mem_cons.mpr ⟨mL_0_5, (List.forall_mem_cons.mpr ⟨mL_19_20, (List.forall_mem_cons.mpr ⟨mL_15_8, (List.forall_mem_cons.mpr ⟨mL_6_2, (List.forall_mem_cons.mpr ⟨mL_6_3, (List.forall_mem_cons.mpr ⟨mL_6_4, (List.forall_mem_cons.mpr ⟨mL_12_7, (List.forall_mem_cons.mpr ⟨mL_12_8, (List.forall_mem_cons.mpr ⟨mL_12_9, (List.forall_mem_cons.mpr ⟨mL_12_10, (List.forall_mem_cons.mpr ⟨mL_22_11, (fun _ h => absurd h List.not_mem_nil)⟩)⟩)⟩)⟩)⟩)⟩)⟩)⟩)⟩)⟩)⟩)⟩)⟩)⟩)⟩)⟩)⟩)⟩)⟩)⟩)⟩)⟩)⟩)⟩)
theorem sL_wsX11_settle_r2 : ∀ w ∈ wsX11_settle_r2, w ∈ wsL_law := (List.forall_mem_cons.mpr ⟨mL_22_12, (List.forall_mem_cons.mpr ⟨mL_22_13, (List.forall_mem_cons.mpr ⟨mL_22_14, (List.forall_mem_cons.mpr ⟨mL_19_16, (List.forall_mem_cons.mpr ⟨mL_3_13, (List.forall_mem_cons.mpr ⟨mL_3_14, (List.forall_mem_cons.mpr ⟨mL_3_15, (fun _ h => absurd h List.not_mem_nil)⟩)⟩)⟩)⟩)⟩)⟩)⟩)
theorem sL_wsX11_settle : ∀ w ∈ wsX11_settle, w ∈ wsL_law := (List.forall_mem_cons.mpr ⟨mL_22_10, (List.forall_mem_append.mpr ⟨(List.forall_mem_append.mpr ⟨sL_wsX11_settle_r1, sL_wsX11_settle_r2⟩), sL_wsX110⟩)⟩)
theorem sL_wsX10_taken : ∀ w ∈ wsX10_taken, w ∈ wsL_law := (List.forall_mem_cons.mpr ⟨mL_22_18, (List.forall_mem_append.mpr ⟨(List.forall_mem_append.mpr ⟨(List.forall_mem_append.mpr ⟨(List.forall_mem_append.mpr ⟨(List.forall_mem_append.mpr ⟨(List.forall_mem_append.mpr ⟨(List.forall_mem_cons.mpr ⟨mL_22_19, (List.forall_mem_cons.mpr ⟨mL_22_20, (List.forall_mem_cons.mpr ⟨mL_18_23, (List.forall_mem_cons.mpr ⟨mL_22_21, (List.forall_mem_cons.mpr ⟨mL_22_22, (List.forall_mem_cons.mpr ⟨mL_18_19, (List.forall_mem_cons.mpr ⟨mL_19_0, (List.forall_mem_cons.mpr ⟨mL_19_2, (List.forall_mem_cons.mpr ⟨mL_19_3, (List.forall_mem_cons.mpr ⟨mL_19_4, (List.forall_mem_cons.mpr ⟨mL_0_2, (List.forall_mem_cons.mpr ⟨mL_19_5, (List.forall_mem_cons.mpr ⟨mL_16_19, (List.forall_mem_cons.mpr ⟨mL_0_21, (List.forall_mem_cons.mpr ⟨mL_4_4, (List.forall_mem_cons.mpr ⟨mL_4_2, (List.forall_mem_cons.mpr ⟨mL_4_3, (fun _ h => absurd h List.not_mem_nil)⟩)⟩)⟩)⟩)⟩)⟩)⟩)⟩)⟩)⟩)⟩)⟩)⟩)⟩)⟩)⟩)⟩), sL_wsX80⟩), sL_wsX10⟩), sL_wsX20⟩), sL_wsX40⟩), sL_wsX60⟩), sL_wsX100⟩)⟩)
theorem sL_wsX11_taken : ∀ w ∈ wsX11_taken, w ∈ wsL_law := (List.forall_mem_cons.mpr ⟨mL_23_2, (List.forall_mem_append.mpr ⟨(List.forall_mem_cons.mpr ⟨mL_3_3, (List.forall_mem_cons.mpr ⟨mL_3_4, (List.forall_mem_cons.mpr ⟨mL_3_5, (List.forall_mem_cons.mpr ⟨mL_3_7, (List.forall_mem_cons.mpr ⟨mL_19_17, (List.forall_mem_cons.mpr ⟨mL_19_18, (List.forall_mem_cons.mpr ⟨mL_19_19, (List.forall_mem_cons.mpr ⟨mL_0_5, (List.forall_mem_cons.mpr ⟨mL_19_20, (List.forall_mem_cons.mpr ⟨mL_15_8, (List.forall_mem_cons.mpr ⟨mL_6_2, (List.forall_mem_cons.mpr ⟨mL_6_3, (List.forall_mem_cons.mpr ⟨mL_6_4, (List.forall_mem_cons.mpr ⟨mL_23_3, (List.forall_mem_cons.mpr ⟨mL_23_4, (List.forall_mem_cons.mpr ⟨mL_23_5, (List.forall_mem_cons.mpr ⟨mL_23_6, (List.forall_mem_cons.mpr ⟨mL_19_16, (List.forall_mem_cons.mpr ⟨mL_3_13, (fun _ h => absurd h List.not_mem_nil)⟩)⟩)⟩)⟩)⟩)⟩)⟩)⟩)⟩)⟩)⟩)⟩)⟩)⟩)⟩)⟩)⟩)⟩)⟩), sL_wsX110⟩)⟩)
theorem sL_wsX10_money : ∀ w ∈ wsX10_money, w ∈ wsL_law := (List.forall_mem_cons.mpr ⟨mL_23_10, (List.forall_mem_append.mpr ⟨(List.forall_mem_append.mpr ⟨(List.forall_mem_cons.mpr ⟨mL_11_13, (List.forall_mem_cons.mpr ⟨mL_19_1, (List.forall_mem_cons.mpr ⟨mL_20_2, (List.forall_mem_cons.mpr ⟨mL_20_3, (List.forall_mem_cons.mpr ⟨mL_20_13, (List.forall_mem_cons.mpr ⟨mL_16_22, (List.forall_mem_cons.mpr ⟨mL_16_23, (List.forall_mem_cons.mpr ⟨mL_19_2, (List.forall_mem_cons.mpr ⟨mL_19_3, (List.forall_mem_cons.mpr ⟨mL_19_4, (List.forall_mem_cons.mpr ⟨mL_0_2, (List.forall_mem_cons.mpr ⟨mL_19_5, (List.forall_mem_cons.mpr ⟨mL_16_19, (List.forall_mem_cons.mpr ⟨mL_0_21, (List.forall_mem_cons.mpr ⟨mL_4_4, (List.forall_mem_cons.mpr ⟨mL_4_2, (List.forall_mem_cons.mpr ⟨mL_4_3, (fun _ h => absurd h List.not_mem_nil)⟩)⟩)⟩)⟩)⟩)⟩)⟩)⟩)⟩)⟩)⟩)⟩)⟩)⟩)⟩)⟩)⟩), sL_wsX80⟩), sL_wsX100⟩)⟩)
theorem sL_wsX11_money_r1 : ∀ w ∈ wsX11_money_r1, w ∈ wsL_law := (List.forall_mem_cons.mpr ⟨mL_3_10, (List.forall_mem_cons.mpr ⟨mL_3_11, (List.forall_mem_cons.mpr ⟨mL_3_12, (List.forall_mem_cons.mpr ⟨mL_3_8, (List.forall_mem_cons.mpr ⟨mL_3_9, (List.forall_mem_cons.mpr ⟨mL_19_17, (List.forall_mem_cons.mpr ⟨mL_19_18, (List.forall_mem_cons.mpr ⟨mL_19_19, (List.forall_mem_cons.mpr ⟨mL_0_5, (List.forall_mem_cons.mpr ⟨mL_19_20, (List.forall_mem_cons.mpr ⟨mL_15_8, (List.forall_mem_cons.mpr ⟨mL_6_2, (List.forall_mem_cons.mpr ⟨mL_6_3, (List.forall_mem_cons.mpr ⟨mL_6_4, (List.forall_mem_cons.mpr ⟨mL_12_7, (List.forall_mem_cons.mpr ⟨mL_12_8, (List.forall_mem_cons.mpr ⟨mL_12_9, (List.forall_mem_cons.mpr ⟨mL_12_10, (List.forall_mem_cons.mpr ⟨mL_22_11, (List.forall_mem_cons.mpr ⟨mL_22_12, (List.forall_mem_cons.mpr ⟨mL_22_13, (List.forall_mem_cons.mpr ⟨mL_22_14, (List.forall_mem_cons.mpr ⟨mL_19_16, (List.forall_mem_cons.mpr ⟨mL_3_13, (fun _ h => absurd h List.not_mem_nil)⟩)⟩)⟩)⟩)⟩)⟩)⟩)⟩)⟩)⟩)⟩)⟩)⟩)⟩)⟩)⟩)⟩)⟩)⟩)⟩)⟩)⟩)⟩)⟩)
theorem sL_wsX11_money_r2 : ∀ w ∈ wsX11_money_r2, w ∈ wsL_law := (List.forall_mem_cons.mpr ⟨mL_3_14, (List.forall_mem_cons.mpr ⟨mL_3_15, (fun _ h => absurd h List.not_mem_nil)⟩)⟩)
theorem sL_wsX11_money : ∀ w ∈ wsX11_money, w ∈ wsL_law := (List.forall_mem_cons.mpr ⟨mL_23_14, (List.forall_mem_append.mpr ⟨(List.forall_mem_append.mpr ⟨sL_wsX11_money_r1, sL_wsX11_money_r2⟩), sL_wsX110⟩)⟩)
theorem sL_wsX10_debt : ∀ w ∈ wsX10_debt, w ∈ wsL_law := (List.forall_mem_cons.mpr ⟨mL_23_18, (List.forall_mem_append.mpr ⟨(List.forall_mem_append.mpr ⟨(List.forall_mem_append.mpr ⟨(List.forall_mem_append.mpr ⟨(List.forall_mem_cons.mpr ⟨mL_11_13, (List.forall_mem_cons.mpr ⟨mL_23_19, (List.forall_mem_cons.mpr ⟨mL_15_17, (List.forall_mem_cons.mpr ⟨mL_15_18, (List.forall_mem_cons.mpr ⟨mL_15_19, (List.forall_mem_cons.mpr ⟨mL_0_2, (List.forall_mem_cons.mpr ⟨mL_15_20, (List.forall_mem_cons.mpr ⟨mL_12_23, (List.forall_mem_cons.mpr ⟨mL_0_19, (List.forall_mem_cons.mpr ⟨mL_4_4, (List.forall_mem_cons.mpr ⟨mL_4_2, (List.forall_mem_cons.mpr ⟨mL_4_3, (fun _ h => absurd h List.not_mem_nil)⟩)⟩)⟩)⟩)⟩)⟩)⟩)⟩)⟩)⟩)⟩)⟩), sL_wsX10⟩), sL_wsX20⟩), sL_wsX40⟩), sL_wsX100⟩)⟩)
theorem sL_wsX11_debt : ∀ w ∈ wsX11_debt, w ∈ wsL_law := (List.forall_mem_cons.mpr ⟨mL_23_23, (List.forall_mem_append.mpr ⟨(List.forall_mem_cons.mpr ⟨mL_3_2, (List.forall_mem_cons.mpr ⟨mL_16_6, (List.forall_mem_cons.mpr ⟨mL_16_7, (List.forall_mem_cons.mpr ⟨mL_16_8, (List.forall_mem_cons.mpr ⟨mL_0_5, (List.forall_mem_cons.mpr ⟨mL_16_9, (List.forall_mem_cons.mpr ⟨mL_14_4, (List.forall_mem_cons.mpr ⟨mL_6_2, (List.forall_mem_cons.mpr ⟨mL_6_3, (List.forall_mem_cons.mpr ⟨mL_6_4, (List.forall_mem_cons.mpr ⟨mL_12_7, (List.forall_mem_cons.mpr ⟨mL_12_8, (List.forall_mem_cons.mpr ⟨mL_12_9, (List.forall_mem_cons.mpr ⟨mL_12_10, (fun _ h => absurd h List.not_mem_nil)⟩)⟩)⟩)⟩)⟩)⟩)⟩)⟩)⟩)⟩)⟩)⟩)⟩)⟩), sL_wsX110⟩)⟩)
theorem sL_wsX10_suspects_r1 : ∀ w ∈ wsX10_suspects_r1, w ∈ wsL_law := (List.forall_mem_cons.mpr ⟨mL_18_20, (List.forall_mem_cons.mpr ⟨mL_0_23, (List.forall_mem_cons.mpr ⟨mL_0_15, (List.forall_mem_cons.mpr ⟨mL_24_4, (List.forall_mem_cons.mpr ⟨mL_24_5, (List.forall_mem_cons.mpr ⟨mL_24_6, (List.forall_mem_cons.mpr ⟨mL_18_22, (List.forall_mem_cons.mpr ⟨mL_24_7, (List.forall_mem_cons.mpr ⟨mL_19_11, (List.forall_mem_cons.mpr ⟨mL_19_10, (List.forall_mem_cons.mpr ⟨mL_24_8, (List.forall_mem_cons.mpr ⟨mL_24_9, (List.forall_mem_cons.mpr ⟨mL_24_10, (List.forall_mem_cons.mpr ⟨mL_24_11, (List.forall_mem_cons.mpr ⟨mL_10_8, (List.forall_mem_cons.mpr ⟨mL_24_12, (List.forall_mem_cons.mpr ⟨mL_10_19, (List.forall_mem_cons.mpr ⟨mL_10_20, (List.forall_mem_cons.mpr ⟨mL_10_17, (List.forall_mem_cons.mpr ⟨mL_10_18, (List.forall_mem_cons.mpr ⟨mL_24_13, (List.forall_mem_cons.mpr ⟨mL_4_21, (List.forall_mem_cons.mpr ⟨mL_4_22, (List.forall_mem_cons.mpr ⟨mL_4_23, (fun _ h => absurd h List.not_mem_nil)⟩)⟩)⟩)⟩)⟩)⟩)⟩)⟩)⟩)⟩)⟩)⟩)⟩)⟩)⟩)⟩)⟩)⟩)⟩)⟩)⟩)⟩)⟩)⟩)
theorem sL_wsX10_suspects_r2 : ∀ w ∈ wsX10_suspects_r2, w ∈ wsL_law := (List.forall_mem_cons.mpr ⟨mL_11_22, (List.forall_mem_cons.mpr ⟨mL_4_14, (List.forall_mem_cons.mpr ⟨mL_0_14, (List.forall_mem_cons.mpr ⟨mL_4_15, (fun _ h => absurd h List.not_mem_nil)⟩)⟩)⟩)⟩)
theorem sL_wsX10_suspects : ∀ w ∈ wsX10_suspects, w ∈ wsL_law := (List.forall_mem_cons.mpr ⟨mL_24_3, (List.forall_mem_append.mpr ⟨(List.forall_mem_append.mpr ⟨(List.forall_mem_append.mpr ⟨(List.forall_mem_append.mpr ⟨(List.forall_mem_append.mpr ⟨sL_wsX10_suspects_r1, sL_wsX10_suspects_r2⟩), sL_wsX100⟩), sL_wsX50⟩), sL_wsX30⟩), sL_wsX60⟩)⟩)
theorem sL_wsX11_suspects : ∀ w ∈ wsX11_suspects, w ∈ wsL_law := (List.forall_mem_cons.mpr ⟨mL_24_17, (List.forall_mem_append.mpr ⟨(List.forall_mem_cons.mpr ⟨mL_19_16, (List.forall_mem_cons.mpr ⟨mL_24_18, (List.forall_mem_cons.mpr ⟨mL_24_19, (List.forall_mem_cons.mpr ⟨mL_24_20, (List.forall_mem_cons.mpr ⟨mL_0_5, (List.forall_mem_cons.mpr ⟨mL_24_21, (List.forall_mem_cons.mpr ⟨mL_3_4, (List.forall_mem_cons.mpr ⟨mL_3_13, (List.forall_mem_cons.mpr ⟨mL_2_12, (List.forall_mem_cons.mpr ⟨mL_3_15, (List.forall_mem_cons.mpr ⟨mL_12_15, (List.forall_mem_cons.mpr ⟨mL_12_16, (List.forall_mem_cons.mpr ⟨mL_12_17, (List.forall_mem_cons.mpr ⟨mL_12_18, (List.forall_mem_cons.mpr ⟨mL_2_19, (List.forall_mem_cons.mpr ⟨mL_2_21, (List.forall_mem_cons.mpr ⟨mL_2_20, (List.forall_mem_cons.mpr ⟨mL_2_22, (List.forall_mem_cons.mpr ⟨mL_6_2, (List.forall_mem_cons.mpr ⟨mL_6_3, (List.forall_mem_cons.mpr ⟨mL_6_4, (fun _ h => absurd h List.not_mem_nil)⟩)⟩)⟩)⟩)⟩)⟩)⟩)⟩)⟩)⟩)⟩)⟩)⟩)⟩)⟩)⟩)⟩)⟩)⟩)⟩)⟩), sL_wsX110⟩)⟩)
theorem sL_wsX10_suspect_r1 : ∀ w ∈ wsX10_suspect_r1, w ∈ wsL_law := (List.forall_mem_cons.mpr ⟨mL_18_20, (List.forall_mem_cons.mpr ⟨mL_0_23, (List.forall_mem_cons.mpr ⟨mL_0_15, (List.forall_mem_cons.mpr ⟨mL_24_4, (List.forall_mem_cons.mpr ⟨mL_24_5, (List.forall_mem_cons.mpr ⟨mL_24_6, (List.forall_mem_cons.mpr ⟨mL_18_22, (List.forall_mem_cons.mpr ⟨mL_24_7, (List.forall_mem_cons.mpr ⟨mL_19_11, (List.forall_mem_cons.mpr ⟨mL_19_10, (List.forall_mem_cons.mpr ⟨mL_24_8, (List.forall_mem_cons.mpr ⟨mL_24_9, (List.forall_mem_cons.mpr ⟨mL_24_10, (List.forall_mem_cons.mpr ⟨mL_24_11, (List.forall_mem_cons.mpr ⟨mL_10_8, (List.forall_mem_cons.mpr ⟨mL_24_12, (List.forall_mem_cons.mpr ⟨mL_10_19, (List.forall_mem_cons.mpr ⟨mL_10_20, (List.forall_mem_cons.mpr ⟨mL_10_17, (List.forall_mem_cons.mpr ⟨mL_10_18, (List.forall_mem_cons.mpr ⟨mL_24_13, (List.forall_mem_cons.mpr ⟨mL_4_21, (List.forall_mem_cons.mpr ⟨mL_4_22, (List.forall_mem_cons.mpr ⟨mL_4_23, (fun _ h => absurd h List.not_mem_nil)⟩)⟩)⟩)⟩)⟩)⟩)⟩)⟩)⟩)⟩)⟩)⟩)⟩)⟩)⟩)⟩)⟩)⟩)⟩)⟩)⟩)⟩)⟩)⟩)
theorem sL_wsX10_suspect_r2 : ∀ w ∈ wsX10_suspect_r2, w ∈ wsL_law := (List.forall_mem_cons.mpr ⟨mL_11_22, (List.forall_mem_cons.mpr ⟨mL_4_14, (List.forall_mem_cons.mpr ⟨mL_0_14, (List.forall_mem_cons.mpr ⟨mL_4_15, (fun _ h => absurd h List.not_mem_nil)⟩)⟩)⟩)⟩)
theorem sL_wsX10_suspect : ∀ w ∈ wsX10_suspect, w ∈ wsL_law := (List.forall_mem_cons.mpr ⟨mL_25_1, (List.forall_mem_append.mpr ⟨(List.forall_mem_append.mpr ⟨(List.forall_mem_append.mpr ⟨(List.forall_mem_append.mpr ⟨(List.forall_mem_append.mpr ⟨sL_wsX10_suspect_r1, sL_wsX10_suspect_r2⟩), sL_wsX100⟩), sL_wsX50⟩), sL_wsX30⟩), sL_wsX60⟩)⟩)
theorem sL_wsX11_suspect : ∀ w ∈ wsX11_suspect, w ∈ wsL_law := (List.forall_mem_cons.mpr ⟨mL_25_5, (List.forall_mem_append.mpr ⟨(List.forall_mem_cons.mpr ⟨mL_19_16, (List.forall_mem_cons.mpr ⟨mL_24_18, (List.forall_mem_cons.mpr ⟨mL_24_19, (List.forall_mem_cons.mpr ⟨mL_24_20, (List.forall_mem_cons.mpr ⟨mL_0_5, (List.forall_mem_cons.mpr ⟨mL_24_21, (List.forall_mem_cons.mpr ⟨mL_3_4, (List.forall_mem_cons.mpr ⟨mL_3_13, (List.forall_mem_cons.mpr ⟨mL_2_12, (List.forall_mem_cons.mpr ⟨mL_3_15, (List.forall_mem_cons.mpr ⟨mL_12_15, (List.forall_mem_cons.mpr ⟨mL_12_16, (List.forall_mem_cons.mpr ⟨mL_12_17, (List.forall_mem_cons.mpr ⟨mL_12_18, (List.forall_mem_cons.mpr ⟨mL_2_19, (List.forall_mem_cons.mpr ⟨mL_2_21, (List.forall_mem_cons.mpr ⟨mL_2_20, (List.forall_mem_cons.mpr ⟨mL_2_22, (List.forall_mem_cons.mpr ⟨mL_6_2, (List.forall_mem_cons.mpr ⟨mL_6_3, (List.forall_mem_cons.mpr ⟨mL_6_4, (fun _ h => absurd h List.not_mem_nil)⟩)⟩)⟩)⟩)⟩)⟩)⟩)⟩)⟩)⟩)⟩)⟩)⟩)⟩)⟩)⟩)⟩)⟩)⟩)⟩)⟩), sL_wsX110⟩)⟩)
theorem sL_wsX10_skill : ∀ w ∈ wsX10_skill, w ∈ wsL_law := (List.forall_mem_cons.mpr ⟨mL_25_9, (List.forall_mem_append.mpr ⟨(List.forall_mem_append.mpr ⟨(List.forall_mem_cons.mpr ⟨mL_11_13, (List.forall_mem_cons.mpr ⟨mL_16_19, (List.forall_mem_cons.mpr ⟨mL_0_21, (List.forall_mem_cons.mpr ⟨mL_22_19, (List.forall_mem_cons.mpr ⟨mL_18_19, (List.forall_mem_cons.mpr ⟨mL_16_22, (List.forall_mem_cons.mpr ⟨mL_16_23, (List.forall_mem_cons.mpr ⟨mL_25_10, (List.forall_mem_cons.mpr ⟨mL_19_1, (List.forall_mem_cons.mpr ⟨mL_15_17, (List.forall_mem_cons.mpr ⟨mL_15_18, (List.forall_mem_cons.mpr ⟨mL_15_19, (List.forall_mem_cons.mpr ⟨mL_0_2, (List.forall_mem_cons.mpr ⟨mL_15_20, (List.forall_mem_cons.mpr ⟨mL_12_23, (List.forall_mem_cons.mpr ⟨mL_0_19, (List.forall_mem_cons.mpr ⟨mL_4_4, (List.forall_mem_cons.mpr ⟨mL_4_2, (List.forall_mem_cons.mpr ⟨mL_4_3, (List.forall_mem_cons.mpr ⟨mL_25_11, (List.forall_mem_cons.mpr ⟨mL_25_12, (List.forall_mem_cons.mpr ⟨mL_25_13, (fun _ h => absurd h List.not_mem_nil)⟩)⟩)⟩)⟩)⟩)⟩)⟩)⟩)⟩)⟩)⟩)⟩)⟩)⟩)⟩)⟩)⟩)⟩)⟩)⟩)⟩)⟩), sL_wsX100⟩), sL_wsX80⟩)⟩)
theorem sL_wsX11_skill_r1 : ∀ w ∈ wsX11_skill_r1, w ∈ wsL_law := (List.forall_mem_cons.mpr ⟨mL_15_8, (List.forall_mem_cons.mpr ⟨mL_3_8, (List.forall_mem_cons.mpr ⟨mL_3_9, (List.forall_mem_cons.mpr ⟨mL_3_3, (List.forall_mem_cons.mpr ⟨mL_3_7, (List.forall_mem_cons.mpr ⟨mL_9_9, (List.forall_mem_cons.mpr ⟨mL_16_6, (List.forall_mem_cons.mpr ⟨mL_16_7, (List.forall_mem_cons.mpr ⟨mL_16_8, (List.forall_mem_cons.mpr ⟨mL_0_5, (List.forall_mem_cons.mpr ⟨mL_16_9, (List.forall_mem_cons.mpr ⟨mL_14_4, (List.forall_mem_cons.mpr ⟨mL_6_2, (List.forall_mem_cons.mpr ⟨mL_6_3, (List.forall_mem_cons.mpr ⟨mL_6_4, (List.forall_mem_cons.mpr ⟨mL_12_7, (List.forall_mem_cons.mpr ⟨mL_12_8, (List.forall_mem_cons.mpr ⟨mL_12_9, (List.forall_mem_cons.mpr ⟨mL_12_10, (List.forall_mem_cons.mpr ⟨mL_22_11, (List.forall_mem_cons.mpr ⟨mL_22_12, (List.forall_mem_cons.mpr ⟨mL_22_13, (List.forall_mem_cons.mpr ⟨mL_22_14, (List.forall_mem_cons.mpr ⟨mL_19_16, (fun _ h => absurd h List.not_mem_nil)⟩)⟩)⟩)⟩)⟩)⟩)⟩)⟩)⟩)⟩)⟩)⟩)⟩)⟩)⟩)⟩)⟩)⟩)⟩)⟩)⟩)⟩)⟩)⟩)
theorem sL_wsX11_skill_r2 : ∀ w ∈ wsX11_skill_r2, w ∈ wsL_law := (List.forall_mem_cons.mpr ⟨mL_3_13, (List.forall_mem_cons.mpr ⟨mL_3_14, (List.forall_mem_cons.mpr ⟨mL_3_15, (List.forall_mem_cons.mpr ⟨mL_25_18, (List.forall_mem_cons.mpr ⟨mL_25_19, (List.forall_mem_cons.mpr ⟨mL_25_20, (fun _ h => absurd h List.not_mem_nil)⟩)⟩)⟩)⟩)⟩)⟩)
theorem sL_wsX11_skill : ∀ w ∈ wsX11_skill, w ∈ wsL_law := (List.forall_mem_cons.mpr ⟨mL_25_17, (List.forall_mem_append.mpr ⟨(List.forall_mem_append.mpr ⟨sL_wsX11_skill_r1, sL_wsX11_skill_r2⟩), sL_wsX110⟩)⟩)
theorem sL_wsX10_sheet_r1 : ∀ w ∈ wsX10_sheet_r1, w ∈ wsL_law := (List.forall_mem_cons.mpr ⟨mL_1_8, (List.forall_mem_cons.mpr ⟨mL_7_21, (List.forall_mem_cons.mpr ⟨mL_7_22, (List.forall_mem_cons.mpr ⟨mL_7_23, (List.forall_mem_cons.mpr ⟨mL_0_2, (List.forall_mem_cons.mpr ⟨mL_8_0, (List.forall_mem_cons.mpr ⟨mL_1_3, (List.forall_mem_cons.mpr ⟨mL_4_4, (List.forall_mem_cons.mpr ⟨mL_4_2, (List.forall_mem_cons.mpr ⟨mL_4_3, (List.forall_mem_cons.mpr ⟨mL_8_1, (List.forall_mem_cons.mpr ⟨mL_8_2, (List.forall_mem_cons.mpr ⟨mL_1_2, (List.forall_mem_cons.mpr ⟨mL_8_3, (List.forall_mem_cons.mpr ⟨mL_8_20, (List.forall_mem_cons.mpr ⟨mL_8_21, (List.forall_mem_cons.mpr ⟨mL_8_22, (List.forall_mem_cons.mpr ⟨mL_8_23, (List.forall_mem_cons.mpr ⟨mL_26_1, (List.forall_mem_cons.mpr ⟨mL_26_2, (List.forall_mem_cons.mpr ⟨mL_26_3, (List.forall_mem_cons.mpr ⟨mL_26_4, (List.forall_mem_cons.mpr ⟨mL_2_2, (List.forall_mem_cons.mpr ⟨mL_2_3, (fun _ h => absurd h List.not_mem_nil)⟩)⟩)⟩)⟩)⟩)⟩)⟩)⟩)⟩)⟩)⟩)⟩)⟩)⟩)⟩)⟩)⟩)⟩)⟩)⟩)⟩)⟩)⟩)⟩)
theorem sL_wsX10_sheet_r2 : ∀ w ∈ wsX10_sheet_r2, w ∈ wsL_law := (List.forall_mem_cons.mpr ⟨mL_8_19, (List.forall_mem_cons.mpr ⟨mL_26_5, (List.forall_mem_cons.mpr ⟨mL_1_20, (List.forall_mem_cons.mpr ⟨mL_1_21, (List.forall_mem_cons.mpr ⟨mL_1_22, (fun _ h => absurd h List.not_mem_nil)⟩)⟩)⟩)⟩)⟩)
theorem sL_wsX10_sheet : ∀ w ∈ wsX10_sheet, w ∈ wsL_law := (List.forall_mem_cons.mpr ⟨mL_26_0, (List.forall_mem_append.mpr ⟨(List.forall_mem_append.mpr ⟨(List.forall_mem_append.mpr ⟨sL_wsX10_sheet_r1, sL_wsX10_sheet_r2⟩), sL_wsX100⟩), sL_wsX70⟩)⟩)
theorem sL_wsX11_sheet : ∀ w ∈ wsX11_sheet, w ∈ wsL_law := (List.forall_mem_cons.mpr ⟨mL_26_9, (List.forall_mem_append.mpr ⟨(List.forall_mem_cons.mpr ⟨mL_9_9, (List.forall_mem_cons.mpr ⟨mL_2_15, (List.forall_mem_cons.mpr ⟨mL_2_16, (List.forall_mem_cons.mpr ⟨mL_2_17, (List.forall_mem_cons.mpr ⟨mL_9_10, (List.forall_mem_cons.mpr ⟨mL_9_11, (List.forall_mem_cons.mpr ⟨mL_0_5, (List.forall_mem_cons.mpr ⟨mL_9_12, (List.forall_mem_cons.mpr ⟨mL_9_13, (List.forall_mem_cons.mpr ⟨mL_6_2, (List.forall_mem_cons.mpr ⟨mL_6_3, (List.forall_mem_cons.mpr ⟨mL_6_4, (List.forall_mem_cons.mpr ⟨mL_9_14, (List.forall_mem_cons.mpr ⟨mL_9_15, (List.forall_mem_cons.mpr ⟨mL_9_16, (List.forall_mem_cons.mpr ⟨mL_9_17, (List.forall_mem_cons.mpr ⟨mL_9_18, (List.forall_mem_cons.mpr ⟨mL_9_19, (List.forall_mem_cons.mpr ⟨mL_9_20, (List.forall_mem_cons.mpr ⟨mL_9_21, (List.forall_mem_cons.mpr ⟨mL_9_22, (fun _ h => absurd h List.not_mem_nil)⟩)⟩)⟩)⟩)⟩)⟩)⟩)⟩)⟩)⟩)⟩)⟩)⟩)⟩)⟩)⟩)⟩)⟩)⟩)⟩)⟩), sL_wsX110⟩)⟩)
theorem sL_wsX10_lose_r1 : ∀ w ∈ wsX10_lose_r1, w ∈ wsL_law := (List.forall_mem_cons.mpr ⟨mL_7_21, (List.forall_mem_cons.mpr ⟨mL_7_22, (List.forall_mem_cons.mpr ⟨mL_7_23, (List.forall_mem_cons.mpr ⟨mL_0_2, (List.forall_mem_cons.mpr ⟨mL_8_0, (List.forall_mem_cons.mpr ⟨mL_1_3, (List.forall_mem_cons.mpr ⟨mL_4_4, (List.forall_mem_cons.mpr ⟨mL_4_2, (List.forall_mem_cons.mpr ⟨mL_4_3, (List.forall_mem_cons.mpr ⟨mL_26_14, (List.forall_mem_cons.mpr ⟨mL_8_12, (List.forall_mem_cons.mpr ⟨mL_8_13, (List.forall_mem_cons.mpr ⟨mL_1_2, (List.forall_mem_cons.mpr ⟨mL_8_14, (List.forall_mem_cons.mpr ⟨mL_2_3, (List.forall_mem_cons.mpr ⟨mL_26_1, (List.forall_mem_cons.mpr ⟨mL_26_2, (List.forall_mem_cons.mpr ⟨mL_26_3, (List.forall_mem_cons.mpr ⟨mL_26_4, (List.forall_mem_cons.mpr ⟨mL_2_2, (List.forall_mem_cons.mpr ⟨mL_8_19, (List.forall_mem_cons.mpr ⟨mL_26_5, (List.forall_mem_cons.mpr ⟨mL_1_20, (List.forall_mem_cons.mpr ⟨mL_1_21, (fun _ h => absurd h List.not_mem_nil)⟩)⟩)⟩)⟩)⟩)⟩)⟩)⟩)⟩)⟩)⟩)⟩)⟩)⟩)⟩)⟩)⟩)⟩)⟩)⟩)⟩)⟩)⟩)⟩)
theorem sL_wsX10_lose_r2 : ∀ w ∈ wsX10_lose_r2, w ∈ wsL_law := (List.forall_mem_cons.mpr ⟨mL_1_22, (fun _ h => absurd h List.not_mem_nil)⟩)
theorem sL_wsX10_lose : ∀ w ∈ wsX10_lose, w ∈ wsL_law := (List.forall_mem_cons.mpr ⟨mL_26_13, (List.forall_mem_append.mpr ⟨(List.forall_mem_append.mpr ⟨(List.forall_mem_append.mpr ⟨sL_wsX10_lose_r1, sL_wsX10_lose_r2⟩), sL_wsX100⟩), sL_wsX70⟩)⟩)
theorem sL_wsX11_lose : ∀ w ∈ wsX11_lose, w ∈ wsL_law := (List.forall_mem_cons.mpr ⟨mL_26_18, (List.forall_mem_append.mpr ⟨(List.forall_mem_cons.mpr ⟨mL_2_15, (List.forall_mem_cons.mpr ⟨mL_9_10, (List.forall_mem_cons.mpr ⟨mL_9_11, (List.forall_mem_cons.mpr ⟨mL_0_5, (List.forall_mem_cons.mpr ⟨mL_9_12, (List.forall_mem_cons.mpr ⟨mL_9_13, (List.forall_mem_cons.mpr ⟨mL_6_2, (List.forall_mem_cons.mpr ⟨mL_6_3, (List.forall_mem_cons.mpr ⟨mL_6_4, (fun _ h => absurd h List.not_mem_nil)⟩)⟩)⟩)⟩)⟩)⟩)⟩)⟩)⟩), sL_wsX110⟩)⟩)
theorem sL_wsX10_put_r1 : ∀ w ∈ wsX10_put_r1, w ∈ wsL_law := (List.forall_mem_cons.mpr ⟨mL_1_8, (List.forall_mem_cons.mpr ⟨mL_7_20, (List.forall_mem_cons.mpr ⟨mL_7_21, (List.forall_mem_cons.mpr ⟨mL_7_22, (List.forall_mem_cons.mpr ⟨mL_7_23, (List.forall_mem_cons.mpr ⟨mL_0_2, (List.forall_mem_cons.mpr ⟨mL_8_0, (List.forall_mem_cons.mpr ⟨mL_1_3, (List.forall_mem_cons.mpr ⟨mL_4_4, (List.forall_mem_cons.mpr ⟨mL_4_2, (List.forall_mem_cons.mpr ⟨mL_4_3, (List.forall_mem_cons.mpr ⟨mL_26_14, (List.forall_mem_cons.mpr ⟨mL_8_12, (List.forall_mem_cons.mpr ⟨mL_8_13, (List.forall_mem_cons.mpr ⟨mL_1_2, (List.forall_mem_cons.mpr ⟨mL_8_14, (List.forall_mem_cons.mpr ⟨mL_2_3, (List.forall_mem_cons.mpr ⟨mL_8_20, (List.forall_mem_cons.mpr ⟨mL_8_21, (List.forall_mem_cons.mpr ⟨mL_8_22, (List.forall_mem_cons.mpr ⟨mL_8_23, (List.forall_mem_cons.mpr ⟨mL_8_15, (List.forall_mem_cons.mpr ⟨mL_8_16, (List.forall_mem_cons.mpr ⟨mL_8_17, (fun _ h => absurd h List.not_mem_nil)⟩)⟩)⟩)⟩)⟩)⟩)⟩)⟩)⟩)⟩)⟩)⟩)⟩)⟩)⟩)⟩)⟩)⟩)⟩)⟩)⟩)⟩)⟩)⟩)
theorem sL_wsX10_put_r2 : ∀ w ∈ wsX10_put_r2, w ∈ wsL_law := (List.forall_mem_cons.mpr ⟨mL_8_18, (List.forall_mem_cons.mpr ⟨mL_8_19, (List.forall_mem_cons.mpr ⟨mL_26_23, (List.forall_mem_cons.mpr ⟨mL_27_0, (List.forall_mem_cons.mpr ⟨mL_27_1, (List.forall_mem_cons.mpr ⟨mL_27_2, (fun _ h => absurd h List.not_mem_nil)⟩)⟩)⟩)⟩)⟩)⟩)
theorem sL_wsX10_put : ∀ w ∈ wsX10_put, w ∈ wsL_law := (List.forall_mem_cons.mpr ⟨mL_26_22, (List.forall_mem_append.mpr ⟨(List.forall_mem_append.mpr ⟨(List.forall_mem_append.mpr ⟨sL_wsX10_put_r1, sL_wsX10_put_r2⟩), sL_wsX100⟩), sL_wsX70⟩)⟩)
theorem sL_wsX11_put : ∀ w ∈ wsX11_put, w ∈ wsL_law := (List.forall_mem_cons.mpr ⟨mL_27_6, (List.forall_mem_append.mpr ⟨(List.forall_mem_cons.mpr ⟨mL_2_17, (List.forall_mem_cons.mpr ⟨mL_2_16, (List.forall_mem_cons.mpr ⟨mL_9_10, (List.forall_mem_cons.mpr ⟨mL_9_11, (List.forall_mem_cons.mpr ⟨mL_0_5, (List.forall_mem_cons.mpr ⟨mL_9_12, (List.forall_mem_cons.mpr ⟨mL_9_13, (List.forall_mem_cons.mpr ⟨mL_6_2, (List.forall_mem_cons.mpr ⟨mL_6_3, (List.forall_mem_cons.mpr ⟨mL_6_4, (List.forall_mem_cons.mpr ⟨mL_9_14, (List.forall_mem_cons.mpr ⟨mL_9_15, (List.forall_mem_cons.mpr ⟨mL_9_16, (List.forall_mem_cons.mpr ⟨mL_9_17, (List.forall_mem_cons.mpr ⟨mL_9_18, (List.forall_mem_cons.mpr ⟨mL_27_7, (List.forall_mem_cons.mpr ⟨mL_27_8, (List.forall_mem_cons.mpr ⟨mL_27_9, (List.forall_mem_cons.mpr ⟨mL_27_10, (List.forall_mem_cons.mpr ⟨mL_2_15, (List.forall_mem_cons.mpr ⟨mL_9_19, (List.forall_mem_cons.mpr ⟨mL_9_20, (List.forall_mem_cons.mpr ⟨mL_9_21, (List.forall_mem_cons.mpr ⟨mL_9_22, (fun _ h => absurd h List.not_mem_nil)⟩)⟩)⟩)⟩)⟩)⟩)⟩)⟩)⟩)⟩)⟩)⟩)⟩)⟩)⟩)⟩)⟩)⟩)⟩)⟩)⟩)⟩)⟩)⟩), sL_wsX110⟩)⟩)
theorem sL_wsX10_cell_r1 : ∀ w ∈ wsX10_cell_r1, w ∈ wsL_law := (List.forall_mem_cons.mpr ⟨mL_1_8, (List.forall_mem_cons.mpr ⟨mL_11_13, (List.forall_mem_cons.mpr ⟨mL_7_20, (List.forall_mem_cons.mpr ⟨mL_7_21, (List.forall_mem_cons.mpr ⟨mL_7_22, (List.forall_mem_cons.mpr ⟨mL_7_23, (List.forall_mem_cons.mpr ⟨mL_0_2, (List.forall_mem_cons.mpr ⟨mL_8_0, (List.forall_mem_cons.mpr ⟨mL_1_3, (List.forall_mem_cons.mpr ⟨mL_4_4, (List.forall_mem_cons.mpr ⟨mL_4_2, (List.forall_mem_cons.mpr ⟨mL_4_3, (List.forall_mem_cons.mpr ⟨mL_8_1, (List.forall_mem_cons.mpr ⟨mL_8_2, (List.forall_mem_cons.mpr ⟨mL_1_2, (List.forall_mem_cons.mpr ⟨mL_8_3, (List.forall_mem_cons.mpr ⟨mL_8_7, (List.forall_mem_cons.mpr ⟨mL_8_8, (List.forall_mem_cons.mpr ⟨mL_8_9, (List.forall_mem_cons.mpr ⟨mL_8_10, (List.forall_mem_cons.mpr ⟨mL_2_3, (List.forall_mem_cons.mpr ⟨mL_8_11, (List.forall_mem_cons.mpr ⟨mL_8_12, (List.forall_mem_cons.mpr ⟨mL_8_13, (fun _ h => absurd h List.not_mem_nil)⟩)⟩)⟩)⟩)⟩)⟩)⟩)⟩)⟩)⟩)⟩)⟩)⟩)⟩)⟩)⟩)⟩)⟩)⟩)⟩)⟩)⟩)⟩)⟩)
theorem sL_wsX10_cell_r2 : ∀ w ∈ wsX10_cell_r2, w ∈ wsL_law := (List.forall_mem_cons.mpr ⟨mL_8_14, (List.forall_mem_cons.mpr ⟨mL_8_15, (List.forall_mem_cons.mpr ⟨mL_8_16, (List.forall_mem_cons.mpr ⟨mL_8_17, (List.forall_mem_cons.mpr ⟨mL_8_18, (List.forall_mem_cons.mpr ⟨mL_8_19, (fun _ h => absurd h List.not_mem_nil)⟩)⟩)⟩)⟩)⟩)⟩)
theorem sL_wsX10_cell : ∀ w ∈ wsX10_cell, w ∈ wsL_law := (List.forall_mem_cons.mpr ⟨mL_27_14, (List.forall_mem_append.mpr ⟨(List.forall_mem_append.mpr ⟨(List.forall_mem_append.mpr ⟨sL_wsX10_cell_r1, sL_wsX10_cell_r2⟩), sL_wsX100⟩), sL_wsX70⟩)⟩)
theorem sL_wsX11_cell_r1 : ∀ w ∈ wsX11_cell_r1, w ∈ wsL_law := (List.forall_mem_cons.mpr ⟨mL_9_18, (List.forall_mem_cons.mpr ⟨mL_9_9, (List.forall_mem_cons.mpr ⟨mL_2_15, (List.forall_mem_cons.mpr ⟨mL_2_16, (List.forall_mem_cons.mpr ⟨mL_2_17, (List.forall_mem_cons.mpr ⟨mL_9_10, (List.forall_mem_cons.mpr ⟨mL_9_11, (List.forall_mem_cons.mpr ⟨mL_0_5, (List.forall_mem_cons.mpr ⟨mL_9_12, (List.forall_mem_cons.mpr ⟨mL_9_13, (List.forall_mem_cons.mpr ⟨mL_6_2, (List.forall_mem_cons.mpr ⟨mL_6_3, (List.forall_mem_cons.mpr ⟨mL_6_4, (List.forall_mem_cons.mpr ⟨mL_12_7, (List.forall_mem_cons.mpr ⟨mL_12_8, (List.forall_mem_cons.mpr ⟨mL_12_9, (List.forall_mem_cons.mpr ⟨mL_12_10, (List.forall_mem_cons.mpr ⟨mL_27_19, (List.forall_mem_cons.mpr ⟨mL_27_20, (List.forall_mem_cons.mpr ⟨mL_27_21, (List.forall_mem_cons.mpr ⟨mL_27_22, (List.forall_mem_cons.mpr ⟨mL_27_7, (List.forall_mem_cons.mpr ⟨mL_27_8, (List.forall_mem_cons.mpr ⟨mL_27_9, (fun _ h => absurd h List.not_mem_nil)⟩)⟩)⟩)⟩)⟩)⟩)⟩)⟩)⟩)⟩)⟩)⟩)⟩)⟩)⟩)⟩)⟩)⟩)⟩)⟩)⟩)⟩)⟩)⟩)
theorem sL_wsX11_cell_r2 : ∀ w ∈ wsX11_cell_r2, w ∈ wsL_law := (List.forall_mem_cons.mpr ⟨mL_27_10, (fun _ h => absurd h List.not_mem_nil)⟩)
theorem sL_wsX11_cell : ∀ w ∈ wsX11_cell, w ∈ wsL_law := (List.forall_mem_cons.mpr ⟨mL_27_18, (List.forall_mem_append.mpr ⟨(List.forall_mem_append.mpr ⟨sL_wsX11_cell_r1, sL_wsX11_cell_r2⟩), sL_wsX110⟩)⟩)
theorem sL_wsX10_copy_r1 : ∀ w ∈ wsX10_copy_r1, w ∈ wsL_law := (List.forall_mem_cons.mpr ⟨mL_1_8, (List.forall_mem_cons.mpr ⟨mL_28_3, (List.forall_mem_cons.mpr ⟨mL_7_20, (List.forall_mem_cons.mpr ⟨mL_28_4, (List.forall_mem_cons.mpr ⟨mL_4_10, (List.forall_mem_cons.mpr ⟨mL_4_11, (List.forall_mem_cons.mpr ⟨mL_4_12, (List.forall_mem_cons.mpr ⟨mL_7_21, (List.forall_mem_cons.mpr ⟨mL_7_22, (List.forall_mem_cons.mpr ⟨mL_7_23, (List.forall_mem_cons.mpr ⟨mL_0_2, (List.forall_mem_cons.mpr ⟨mL_8_0, (List.forall_mem_cons.mpr ⟨mL_1_3, (List.forall_mem_cons.mpr ⟨mL_4_4, (List.forall_mem_cons.mpr ⟨mL_4_2, (List.forall_mem_cons.mpr ⟨mL_4_3, (List.forall_mem_cons.mpr ⟨mL_26_14, (List.forall_mem_cons.mpr ⟨mL_8_12, (List.forall_mem_cons.mpr ⟨mL_8_13, (List.forall_mem_cons.mpr ⟨mL_1_2, (List.forall_mem_cons.mpr ⟨mL_8_14, (List.forall_mem_cons.mpr ⟨mL_2_3, (List.forall_mem_cons.mpr ⟨mL_8_20, (List.forall_mem_cons.mpr ⟨mL_8_21, (fun _ h => absurd h List.not_mem_nil)⟩)⟩)⟩)⟩)⟩)⟩)⟩)⟩)⟩)⟩)⟩)⟩)⟩)⟩)⟩)⟩)⟩)⟩)⟩)⟩)⟩)⟩)⟩)⟩)
theorem sL_wsX10_copy_r2 : ∀ w ∈ wsX10_copy_r2, w ∈ wsL_law := (List.forall_mem_cons.mpr ⟨mL_8_22, (List.forall_mem_cons.mpr ⟨mL_8_23, (List.forall_mem_cons.mpr ⟨mL_8_15, (List.forall_mem_cons.mpr ⟨mL_8_16, (List.forall_mem_cons.mpr ⟨mL_8_17, (List.forall_mem_cons.mpr ⟨mL_8_18, (List.forall_mem_cons.mpr ⟨mL_8_19, (fun _ h => absurd h List.not_mem_nil)⟩)⟩)⟩)⟩)⟩)⟩)⟩)
theorem sL_wsX10_copy : ∀ w ∈ wsX10_copy, w ∈ wsL_law := (List.forall_mem_cons.mpr ⟨mL_28_2, (List.forall_mem_append.mpr ⟨(List.forall_mem_append.mpr ⟨(List.forall_mem_append.mpr ⟨sL_wsX10_copy_r1, sL_wsX10_copy_r2⟩), sL_wsX100⟩), sL_wsX70⟩)⟩)
theorem sL_wsX11_copy : ∀ w ∈ wsX11_copy, w ∈ wsL_law := (List.forall_mem_cons.mpr ⟨mL_28_8, (List.forall_mem_append.mpr ⟨(List.forall_mem_cons.mpr ⟨mL_2_15, (List.forall_mem_cons.mpr ⟨mL_2_16, (List.forall_mem_cons.mpr ⟨mL_2_18, (List.forall_mem_cons.mpr ⟨mL_2_17, (List.forall_mem_cons.mpr ⟨mL_9_10, (List.forall_mem_cons.mpr ⟨mL_9_11, (List.forall_mem_cons.mpr ⟨mL_0_5, (List.forall_mem_cons.mpr ⟨mL_9_12, (List.forall_mem_cons.mpr ⟨mL_9_13, (List.forall_mem_cons.mpr ⟨mL_6_2, (List.forall_mem_cons.mpr ⟨mL_6_3, (List.forall_mem_cons.mpr ⟨mL_6_4, (List.forall_mem_cons.mpr ⟨mL_9_14, (List.forall_mem_cons.mpr ⟨mL_9_15, (List.forall_mem_cons.mpr ⟨mL_9_16, (List.forall_mem_cons.mpr ⟨mL_9_17, (List.forall_mem_cons.mpr ⟨mL_9_18, (List.forall_mem_cons.mpr ⟨mL_9_19, (List.forall_mem_cons.mpr ⟨mL_9_20, (List.forall_mem_cons.mpr ⟨mL_9_21, (List.forall_mem_cons.mpr ⟨mL_9_22, (List.forall_mem_cons.mpr ⟨mL_9_23, (List.forall_mem_cons.mpr ⟨mL_10_0, (List.forall_mem_cons.mpr ⟨mL_10_1, (fun _ h => absurd h List.not_mem_nil)⟩)⟩)⟩)⟩)⟩)⟩)⟩)⟩)⟩)⟩)⟩)⟩)⟩)⟩)⟩)⟩)⟩)⟩)⟩)⟩)⟩)⟩)⟩)⟩), sL_wsX110⟩)⟩)
theorem sL_wsX10_tell_r1 : ∀ w ∈ wsX10_tell_r1, w ∈ wsL_law := (List.forall_mem_cons.mpr ⟨mL_1_7, (List.forall_mem_cons.mpr ⟨mL_15_17, (List.forall_mem_cons.mpr ⟨mL_15_18, (List.forall_mem_cons.mpr ⟨mL_15_19, (List.forall_mem_cons.mpr ⟨mL_0_2, (List.forall_mem_cons.mpr ⟨mL_15_20, (List.forall_mem_cons.mpr ⟨mL_12_23, (List.forall_mem_cons.mpr ⟨mL_0_19, (List.forall_mem_cons.mpr ⟨mL_4_4, (List.forall_mem_cons.mpr ⟨mL_4_2, (List.forall_mem_cons.mpr ⟨mL_4_3, (List.forall_mem_cons.mpr ⟨mL_28_13, (List.forall_mem_cons.mpr ⟨mL_28_14, (List.forall_mem_cons.mpr ⟨mL_28_15, (List.forall_mem_cons.mpr ⟨mL_28_16, (List.forall_mem_cons.mpr ⟨mL_28_17, (List.forall_mem_cons.mpr ⟨mL_13_8, (List.forall_mem_cons.mpr ⟨mL_28_18, (List.forall_mem_cons.mpr ⟨mL_28_19, (List.forall_mem_cons.mpr ⟨mL_28_20, (List.forall_mem_cons.mpr ⟨mL_28_21, (List.forall_mem_cons.mpr ⟨mL_1_6, (List.forall_mem_cons.mpr ⟨mL_28_22, (List.forall_mem_cons.mpr ⟨mL_28_23, (fun _ h => absurd h List.not_mem_nil)⟩)⟩)⟩)⟩)⟩)⟩)⟩)⟩)⟩)⟩)⟩)⟩)⟩)⟩)⟩)⟩)⟩)⟩)⟩)⟩)⟩)⟩)⟩)⟩)
theorem sL_wsX10_tell_r2 : ∀ w ∈ wsX10_tell_r2, w ∈ wsL_law := (List.forall_mem_cons.mpr ⟨mL_29_0, (List.forall_mem_cons.mpr ⟨mL_29_1, (List.forall_mem_cons.mpr ⟨mL_29_2, (List.forall_mem_cons.mpr ⟨mL_29_3, (List.forall_mem_cons.mpr ⟨mL_13_10, (List.forall_mem_cons.mpr ⟨mL_29_4, (List.forall_mem_cons.mpr ⟨mL_29_5, (List.forall_mem_cons.mpr ⟨mL_29_6, (List.forall_mem_cons.mpr ⟨mL_29_7, (List.forall_mem_cons.mpr ⟨mL_29_8, (List.forall_mem_cons.mpr ⟨mL_29_9, (List.forall_mem_cons.mpr ⟨mL_29_10, (List.forall_mem_cons.mpr ⟨mL_29_11, (List.forall_mem_cons.mpr ⟨mL_29_12, (List.forall_mem_cons.mpr ⟨mL_29_13, (List.forall_mem_cons.mpr ⟨mL_29_14, (List.forall_mem_cons.mpr ⟨mL_29_15, (List.forall_mem_cons.mpr ⟨mL_29_16, (List.forall_mem_cons.mpr ⟨mL_29_17, (List.forall_mem_cons.mpr ⟨mL_29_18, (List.forall_mem_cons.mpr ⟨mL_29_19, (List.forall_mem_cons.mpr ⟨mL_13_5, (List.forall_mem_cons.mpr ⟨mL_29_20, (List.forall_mem_cons.mpr ⟨mL_29_21, (fun _ h => absurd h List.not_mem_nil)⟩)⟩)⟩)⟩)⟩)⟩)⟩)⟩)⟩)⟩)⟩)⟩)⟩)⟩)⟩)⟩)⟩)⟩)⟩)⟩)⟩)⟩)⟩)⟩)
theorem sL_wsX10_tell_r3 : ∀ w ∈ wsX10_tell_r3, w ∈ wsL_law := (List.forall_mem_cons.mpr ⟨mL_29_22, (List.forall_mem_cons.mpr ⟨mL_29_23, (List.forall_mem_cons.mpr ⟨mL_30_0, (fun _ h => absurd h List.not_mem_nil)⟩)⟩)⟩)
theorem sL_wsX10_tell : ∀ w ∈ wsX10_tell, w ∈ wsL_law := (List.forall_mem_cons.mpr ⟨mL_28_12, (List.forall_mem_append.mpr ⟨(List.forall_mem_append.mpr ⟨(List.forall_mem_append.mpr ⟨(List.forall_mem_append.mpr ⟨(List.forall_mem_append.mpr ⟨(List.forall_mem_append.mpr ⟨sL_wsX10_tell_r1, (List.forall_mem_append.mpr ⟨sL_wsX10_tell_r2, sL_wsX10_tell_r3⟩)⟩), sL_wsX100⟩), sL_wsX90⟩), sL_wsX10⟩), sL_wsX20⟩), sL_wsX40⟩)⟩)
theorem sL_wsX11_tell : ∀ w ∈ wsX11_tell, w ∈ wsL_law := (List.forall_mem_cons.mpr ⟨mL_30_4, (List.forall_mem_append.mpr ⟨(List.forall_mem_cons.mpr ⟨mL_3_0, (List.forall_mem_cons.mpr ⟨mL_16_6, (List.forall_mem_cons.mpr ⟨mL_16_7, (List.forall_mem_cons.mpr ⟨mL_16_8, (List.forall_mem_cons.mpr ⟨mL_0_5, (List.forall_mem_cons.mpr ⟨mL_16_9, (List.forall_mem_cons.mpr ⟨mL_14_4, (List.forall_mem_cons.mpr ⟨mL_6_2, (List.forall_mem_cons.mpr ⟨mL_6_3, (List.forall_mem_cons.mpr ⟨mL_6_4, (List.forall_mem_cons.mpr ⟨mL_30_5, (List.forall_mem_cons.mpr ⟨mL_30_6, (List.forall_mem_cons.mpr ⟨mL_30_7, (List.forall_mem_cons.mpr ⟨mL_30_8, (List.forall_mem_cons.mpr ⟨mL_30_9, (List.forall_mem_cons.mpr ⟨mL_30_10, (List.forall_mem_cons.mpr ⟨mL_30_11, (List.forall_mem_cons.mpr ⟨mL_30_12, (List.forall_mem_cons.mpr ⟨mL_30_13, (List.forall_mem_cons.mpr ⟨mL_15_8, (List.forall_mem_cons.mpr ⟨mL_3_3, (fun _ h => absurd h List.not_mem_nil)⟩)⟩)⟩)⟩)⟩)⟩)⟩)⟩)⟩)⟩)⟩)⟩)⟩)⟩)⟩)⟩)⟩)⟩)⟩)⟩)⟩), sL_wsX110⟩)⟩)
theorem sL_wsX10_greet_r1 : ∀ w ∈ wsX10_greet_r1, w ∈ wsL_law := (List.forall_mem_cons.mpr ⟨mL_1_7, (List.forall_mem_cons.mpr ⟨mL_15_17, (List.forall_mem_cons.mpr ⟨mL_15_18, (List.forall_mem_cons.mpr ⟨mL_15_19, (List.forall_mem_cons.mpr ⟨mL_0_2, (List.forall_mem_cons.mpr ⟨mL_15_20, (List.forall_mem_cons.mpr ⟨mL_12_23, (List.forall_mem_cons.mpr ⟨mL_0_19, (List.forall_mem_cons.mpr ⟨mL_4_4, (List.forall_mem_cons.mpr ⟨mL_4_2, (List.forall_mem_cons.mpr ⟨mL_4_3, (List.forall_mem_cons.mpr ⟨mL_30_18, (List.forall_mem_cons.mpr ⟨mL_30_19, (List.forall_mem_cons.mpr ⟨mL_30_20, (List.forall_mem_cons.mpr ⟨mL_30_21, (List.forall_mem_cons.mpr ⟨mL_30_22, (List.forall_mem_cons.mpr ⟨mL_13_8, (List.forall_mem_cons.mpr ⟨mL_30_23, (List.forall_mem_cons.mpr ⟨mL_28_19, (List.forall_mem_cons.mpr ⟨mL_28_20, (List.forall_mem_cons.mpr ⟨mL_28_21, (List.forall_mem_cons.mpr ⟨mL_1_6, (List.forall_mem_cons.mpr ⟨mL_28_22, (List.forall_mem_cons.mpr ⟨mL_28_23, (fun _ h => absurd h List.not_mem_nil)⟩)⟩)⟩)⟩)⟩)⟩)⟩)⟩)⟩)⟩)⟩)⟩)⟩)⟩)⟩)⟩)⟩)⟩)⟩)⟩)⟩)⟩)⟩)⟩)
theorem sL_wsX10_greet_r2 : ∀ w ∈ wsX10_greet_r2, w ∈ wsL_law := (List.forall_mem_cons.mpr ⟨mL_31_0, (List.forall_mem_cons.mpr ⟨mL_31_1, (List.forall_mem_cons.mpr ⟨mL_31_2, (List.forall_mem_cons.mpr ⟨mL_31_3, (List.forall_mem_cons.mpr ⟨mL_13_10, (List.forall_mem_cons.mpr ⟨mL_13_21, (List.forall_mem_cons.mpr ⟨mL_29_6, (List.forall_mem_cons.mpr ⟨mL_31_4, (List.forall_mem_cons.mpr ⟨mL_31_5, (List.forall_mem_cons.mpr ⟨mL_13_5, (List.forall_mem_cons.mpr ⟨mL_31_6, (List.forall_mem_cons.mpr ⟨mL_29_21, (List.forall_mem_cons.mpr ⟨mL_31_7, (List.forall_mem_cons.mpr ⟨mL_31_8, (List.forall_mem_cons.mpr ⟨mL_31_9, (fun _ h => absurd h List.not_mem_nil)⟩)⟩)⟩)⟩)⟩)⟩)⟩)⟩)⟩)⟩)⟩)⟩)⟩)⟩)⟩)
theorem sL_wsX10_greet : ∀ w ∈ wsX10_greet, w ∈ wsL_law := (List.forall_mem_cons.mpr ⟨mL_30_17, (List.forall_mem_append.mpr ⟨(List.forall_mem_append.mpr ⟨(List.forall_mem_append.mpr ⟨(List.forall_mem_append.mpr ⟨(List.forall_mem_append.mpr ⟨(List.forall_mem_append.mpr ⟨sL_wsX10_greet_r1, sL_wsX10_greet_r2⟩), sL_wsX100⟩), sL_wsX90⟩), sL_wsX10⟩), sL_wsX20⟩), sL_wsX40⟩)⟩)
theorem sL_wsX11_greet : ∀ w ∈ wsX11_greet, w ∈ wsL_law := (List.forall_mem_cons.mpr ⟨mL_31_13, (List.forall_mem_append.mpr ⟨(List.forall_mem_cons.mpr ⟨mL_3_0, (List.forall_mem_cons.mpr ⟨mL_16_6, (List.forall_mem_cons.mpr ⟨mL_16_7, (List.forall_mem_cons.mpr ⟨mL_16_8, (List.forall_mem_cons.mpr ⟨mL_0_5, (List.forall_mem_cons.mpr ⟨mL_16_9, (List.forall_mem_cons.mpr ⟨mL_14_4, (List.forall_mem_cons.mpr ⟨mL_6_2, (List.forall_mem_cons.mpr ⟨mL_6_3, (List.forall_mem_cons.mpr ⟨mL_6_4, (List.forall_mem_cons.mpr ⟨mL_30_5, (List.forall_mem_cons.mpr ⟨mL_30_6, (List.forall_mem_cons.mpr ⟨mL_30_7, (List.forall_mem_cons.mpr ⟨mL_30_8, (List.forall_mem_cons.mpr ⟨mL_30_9, (fun _ h => absurd h List.not_mem_nil)⟩)⟩)⟩)⟩)⟩)⟩)⟩)⟩)⟩)⟩)⟩)⟩)⟩)⟩)⟩), sL_wsX110⟩)⟩)
theorem sL_wsX10_as : ∀ w ∈ wsX10_as, w ∈ wsL_law := (List.forall_mem_cons.mpr ⟨mL_31_17, (List.forall_mem_append.mpr ⟨(List.forall_mem_cons.mpr ⟨mL_1_8, (List.forall_mem_cons.mpr ⟨mL_15_17, (List.forall_mem_cons.mpr ⟨mL_15_18, (List.forall_mem_cons.mpr ⟨mL_15_19, (List.forall_mem_cons.mpr ⟨mL_0_2, (List.forall_mem_cons.mpr ⟨mL_15_20, (List.forall_mem_cons.mpr ⟨mL_12_23, (List.forall_mem_cons.mpr ⟨mL_0_19, (List.forall_mem_cons.mpr ⟨mL_4_4, (List.forall_mem_cons.mpr ⟨mL_4_2, (List.forall_mem_cons.mpr ⟨mL_4_3, (List.forall_mem_cons.mpr ⟨mL_31_18, (List.forall_mem_cons.mpr ⟨mL_31_19, (List.forall_mem_cons.mpr ⟨mL_31_20, (List.forall_mem_cons.mpr ⟨mL_31_21, (List.forall_mem_cons.mpr ⟨mL_31_22, (List.forall_mem_cons.mpr ⟨mL_8_20, (List.forall_mem_cons.mpr ⟨mL_8_21, (List.forall_mem_cons.mpr ⟨mL_8_22, (List.forall_mem_cons.mpr ⟨mL_8_23, (fun _ h => absurd h List.not_mem_nil)⟩)⟩)⟩)⟩)⟩)⟩)⟩)⟩)⟩)⟩)⟩)⟩)⟩)⟩)⟩)⟩)⟩)⟩)⟩)⟩), sL_wsX100⟩)⟩)
theorem sL_wsX11_as : ∀ w ∈ wsX11_as, w ∈ wsL_law := (List.forall_mem_cons.mpr ⟨mL_32_2, (List.forall_mem_append.mpr ⟨(List.forall_mem_cons.mpr ⟨mL_9_9, (List.forall_mem_cons.mpr ⟨mL_3_0, (List.forall_mem_cons.mpr ⟨mL_16_6, (List.forall_mem_cons.mpr ⟨mL_16_7, (List.forall_mem_cons.mpr ⟨mL_16_8, (List.forall_mem_cons.mpr ⟨mL_0_5, (List.forall_mem_cons.mpr ⟨mL_16_9, (List.forall_mem_cons.mpr ⟨mL_14_4, (List.forall_mem_cons.mpr ⟨mL_6_2, (List.forall_mem_cons.mpr ⟨mL_6_3, (List.forall_mem_cons.mpr ⟨mL_6_4, (List.forall_mem_cons.mpr ⟨mL_9_14, (List.forall_mem_cons.mpr ⟨mL_9_15, (List.forall_mem_cons.mpr ⟨mL_9_16, (List.forall_mem_cons.mpr ⟨mL_9_17, (List.forall_mem_cons.mpr ⟨mL_9_18, (List.forall_mem_cons.mpr ⟨mL_9_19, (List.forall_mem_cons.mpr ⟨mL_9_20, (List.forall_mem_cons.mpr ⟨mL_9_21, (List.forall_mem_cons.mpr ⟨mL_9_22, (fun _ h => absurd h List.not_mem_nil)⟩)⟩)⟩)⟩)⟩)⟩)⟩)⟩)⟩)⟩)⟩)⟩)⟩)⟩)⟩)⟩)⟩)⟩)⟩)⟩), sL_wsX110⟩)⟩)
theorem sL_wsX10_trace : ∀ w ∈ wsX10_trace, w ∈ wsL_law := (List.forall_mem_cons.mpr ⟨mL_32_6, (List.forall_mem_append.mpr ⟨(List.forall_mem_append.mpr ⟨(List.forall_mem_cons.mpr ⟨mL_1_7, (List.forall_mem_cons.mpr ⟨mL_32_7, (fun _ h => absurd h List.not_mem_nil)⟩)⟩), sL_wsX100⟩), sL_wsX90⟩)⟩)
theorem sL_wsX11_trace : ∀ w ∈ wsX11_trace, w ∈ wsL_law := (List.forall_mem_cons.mpr ⟨mL_32_11, (List.forall_mem_append.mpr ⟨(List.forall_mem_cons.mpr ⟨mL_30_9, (fun _ h => absurd h List.not_mem_nil)⟩), sL_wsX110⟩)⟩)
theorem sL_wsX10_fault : ∀ w ∈ wsX10_fault, w ∈ wsL_law := (List.forall_mem_cons.mpr ⟨mL_32_15, (List.forall_mem_append.mpr ⟨(List.forall_mem_cons.mpr ⟨mL_1_8, (fun _ h => absurd h List.not_mem_nil)⟩), sL_wsX100⟩)⟩)
theorem sL_wsX11_fault : ∀ w ∈ wsX11_fault, w ∈ wsL_law := (List.forall_mem_cons.mpr ⟨mL_32_19, (List.forall_mem_append.mpr ⟨(List.forall_mem_cons.mpr ⟨mL_9_18, (fun _ h => absurd h List.not_mem_nil)⟩), sL_wsX110⟩)⟩)
theorem sL_wsX10_told : ∀ w ∈ wsX10_told, w ∈ wsL_law := (List.forall_mem_cons.mpr ⟨mL_32_23, (List.forall_mem_append.mpr ⟨(List.forall_mem_append.mpr ⟨(List.forall_mem_append.mpr ⟨(List.forall_mem_append.mpr ⟨(List.forall_mem_cons.mpr ⟨mL_10_6, (List.forall_mem_cons.mpr ⟨mL_12_23, (List.forall_mem_cons.mpr ⟨mL_16_19, (List.forall_mem_cons.mpr ⟨mL_18_20, (List.forall_mem_cons.mpr ⟨mL_0_15, (List.forall_mem_cons.mpr ⟨mL_3_22, (List.forall_mem_cons.mpr ⟨mL_14_10, (List.forall_mem_cons.mpr ⟨mL_15_15, (List.forall_mem_cons.mpr ⟨mL_16_18, (List.forall_mem_cons.mpr ⟨mL_22_21, (List.forall_mem_cons.mpr ⟨mL_15_16, (fun _ h => absurd h List.not_mem_nil)⟩)⟩)⟩)⟩)⟩)⟩)⟩)⟩)⟩)⟩)⟩), sL_wsX100⟩), sL_wsX30⟩), sL_wsX00⟩), sL_wsX60⟩)⟩)
theorem sL_wsX11_told : ∀ w ∈ wsX11_told, w ∈ wsL_law := (List.forall_mem_cons.mpr ⟨mL_33_3, (List.forall_mem_append.mpr ⟨(List.forall_mem_cons.mpr ⟨mL_11_8, (List.forall_mem_cons.mpr ⟨mL_14_4, (List.forall_mem_cons.mpr ⟨mL_15_8, (List.forall_mem_cons.mpr ⟨mL_19_16, (List.forall_mem_cons.mpr ⟨mL_3_16, (List.forall_mem_cons.mpr ⟨mL_3_17, (List.forall_mem_cons.mpr ⟨mL_15_2, (List.forall_mem_cons.mpr ⟨mL_15_1, (fun _ h => absurd h List.not_mem_nil)⟩)⟩)⟩)⟩)⟩)⟩)⟩)⟩), sL_wsX110⟩)⟩)
theorem ggL_law_X10_init : GoodIn wsL_law wsX10_init := goodIn_s sL_wsX10_init (by decide +kernel)
set_option maxRecDepth 20000 in
theorem gL_law_X10_init : GoodIn wsL_law (wsX10_init) := ggL_law_X10_init
set_option maxRecDepth 20000 in
theorem ggL_law_X11_init : GoodIn wsL_law wsX11_init := goodIn_s sL_wsX11_init (by decide +kernel)
set_option maxRecDepth 20000 in
theorem gL_law_X11_init : GoodIn wsL_law (wsX11_init) := ggL_law_X11_init
set_option maxRecDepth 20000 in
theorem ggL_law_X10_find : GoodIn wsL_law wsX10_find := goodIn_s sL_wsX10_find (by decide +kernel)
set_option maxRecDepth 20000 in
theorem gL_law_X10_find : GoodIn wsL_law (wsV RL 13 RX10 yX10_find wsX10_find) := goodIn_app (goodIn_r _ [90, 91, 92, 2] (by decide +kernel) (by decide +kernel)) ggL_law_X10_find
set_option maxRecDepth 20000 in
theorem ggL_law_X11_find : GoodIn wsL_law wsX11_find := goodIn_s sL_wsX11_find (by decide +kernel)
set_option maxRecDepth 20000 in
theorem gL_law_X11_find : GoodIn wsL_law (wsV RL 17 RX11 yX11_find wsX11_find) := goodIn_app (goodIn_r _ [136, 137, 138, 5] (by decide +kernel) (by decide +kernel)) ggL_law_X11_find
set_option maxRecDepth 20000 in
theorem ggL_law_X10_rise : GoodIn wsL_law wsX10_rise := goodIn_s sL_wsX10_rise (by decide +kernel)
set_option maxRecDepth 20000 in
theorem gL_law_X10_rise : GoodIn wsL_law (wsV RL 18 RX10 yX10_rise wsX10_rise) := goodIn_app (goodIn_r _ [166, 167, 168, 2] (by decide +kernel) (by decide +kernel)) ggL_law_X10_rise
set_option maxRecDepth 20000 in
theorem ggL_law_X11_rise : GoodIn wsL_law wsX11_rise := goodIn_s sL_wsX11_rise (by decide +kernel)
set_option maxRecDepth 20000 in
theorem gL_law_X11_rise : GoodIn wsL_law (wsV RL 22 RX11 yX11_rise wsX11_rise) := goodIn_app (goodIn_r _ [170, 171, 172, 5] (by decide +kernel) (by decide +kernel)) ggL_law_X11_rise
set_option maxRecDepth 20000 in
theorem ggL_law_X10_good : GoodIn wsL_law wsX10_good := goodIn_s sL_wsX10_good (by decide +kernel)
set_option maxRecDepth 20000 in
theorem gL_law_X10_good : GoodIn wsL_law (wsV RL 23 RX10 yX10_good wsX10_good) := goodIn_app (goodIn_r _ [174, 175, 176, 2] (by decide +kernel) (by decide +kernel)) ggL_law_X10_good
set_option maxRecDepth 20000 in
theorem ggL_law_X11_good : GoodIn wsL_law wsX11_good := goodIn_s sL_wsX11_good (by decide +kernel)
set_option maxRecDepth 20000 in
theorem gL_law_X11_good : GoodIn wsL_law (wsV RL 27 RX11 yX11_good wsX11_good) := goodIn_app (goodIn_r _ [180, 181, 182, 5] (by decide +kernel) (by decide +kernel)) ggL_law_X11_good
set_option maxRecDepth 20000 in
theorem ggL_law_X10_chart : GoodIn wsL_law wsX10_chart := goodIn_s sL_wsX10_chart (by decide +kernel)
set_option maxRecDepth 20000 in
theorem gL_law_X10_chart : GoodIn wsL_law (wsV RL 28 RX10 yX10_chart wsX10_chart) := goodIn_app (goodIn_r _ [184, 185, 186, 2] (by decide +kernel) (by decide +kernel)) ggL_law_X10_chart
set_option maxRecDepth 20000 in
theorem ggL_law_X11_chart : GoodIn wsL_law wsX11_chart := goodIn_s sL_wsX11_chart (by decide +kernel)
set_option maxRecDepth 20000 in
theorem gL_law_X11_chart : GoodIn wsL_law (wsV RL 32 RX11 yX11_chart wsX11_chart) := goodIn_app (goodIn_r _ [220, 221, 222, 5] (by decide +kernel) (by decide +kernel)) ggL_law_X11_chart
set_option maxRecDepth 20000 in
theorem ggL_law_X10_pitch : GoodIn wsL_law wsX10_pitch := goodIn_s sL_wsX10_pitch (by decide +kernel)
set_option maxRecDepth 20000 in
theorem gL_law_X10_pitch : GoodIn wsL_law (wsV RL 33 RX10 yX10_pitch wsX10_pitch) := goodIn_app (goodIn_r _ [242, 243, 244, 2] (by decide +kernel) (by decide +kernel)) ggL_law_X10_pitch
set_option maxRecDepth 20000 in
theorem ggL_law_X11_pitch : GoodIn wsL_law wsX11_pitch := goodIn_s sL_wsX11_pitch (by decide +kernel)
set_option maxRecDepth 20000 in
theorem gL_law_X11_pitch : GoodIn wsL_law (wsV RL 36 RX11 yX11_pitch wsX11_pitch) := goodIn_app (goodIn_r _ [267, 268, 269, 5] (by decide +kernel) (by decide +kernel)) ggL_law_X11_pitch
set_option maxRecDepth 20000 in
theorem ggL_law_X10_foretold : GoodIn wsL_law wsX10_foretold := goodIn_s sL_wsX10_foretold (by decide +kernel)
set_option maxRecDepth 20000 in
theorem gL_law_X10_foretold : GoodIn wsL_law (wsV RL 37 RX10 yX10_foretold wsX10_foretold) := goodIn_app (goodIn_r _ [273, 274, 275, 2] (by decide +kernel) (by decide +kernel)) ggL_law_X10_foretold
set_option maxRecDepth 20000 in
theorem ggL_law_X11_foretold : GoodIn wsL_law wsX11_foretold := goodIn_s sL_wsX11_foretold (by decide +kernel)
set_option maxRecDepth 20000 in
theorem gL_law_X11_foretold : GoodIn wsL_law (wsV RL 41 RX11 yX11_foretold wsX11_foretold) := goodIn_app (goodIn_r _ [287, 288, 289, 5] (by decide +kernel) (by decide +kernel)) ggL_law_X11_foretold
set_option maxRecDepth 20000 in
theorem ggL_law_X10_gang : GoodIn wsL_law wsX10_gang := goodIn_s sL_wsX10_gang (by decide +kernel)
set_option maxRecDepth 20000 in
theorem gL_law_X10_gang : GoodIn wsL_law (wsV RL 42 RX10 yX10_gang wsX10_gang) := goodIn_app (goodIn_r _ [307, 308, 309, 2] (by decide +kernel) (by decide +kernel)) ggL_law_X10_gang
set_option maxRecDepth 20000 in
theorem ggL_law_X11_gang : GoodIn wsL_law wsX11_gang := goodIn_s sL_wsX11_gang (by decide +kernel)
set_option maxRecDepth 20000 in
theorem gL_law_X11_gang : GoodIn wsL_law (wsV RL 45 RX11 yX11_gang wsX11_gang) := goodIn_app (goodIn_r _ [336, 337, 338, 5] (by decide +kernel) (by decide +kernel)) ggL_law_X11_gang
set_option maxRecDepth 20000 in
theorem ggL_law_X10_auction : GoodIn wsL_law wsX10_auction := goodIn_s sL_wsX10_auction (by decide +kernel)
set_option maxRecDepth 20000 in
theorem gL_law_X10_auction : GoodIn wsL_law (wsV RL 46 RX10 yX10_auction wsX10_auction) := goodIn_app (goodIn_r _ [341, 342, 343, 2] (by decide +kernel) (by decide +kernel)) ggL_law_X10_auction
set_option maxRecDepth 20000 in
theorem ggL_law_X11_auction : GoodIn wsL_law wsX11_auction := goodIn_s sL_wsX11_auction (by decide +kernel)
set_option maxRecDepth 20000 in
theorem gL_law_X11_auction : GoodIn wsL_law (wsV RL 50 RX11 yX11_auction wsX11_auction) := goodIn_app (goodIn_r _ [356, 357, 358, 5] (by decide +kernel) (by decide +kernel)) ggL_law_X11_auction
set_option maxRecDepth 20000 in
theorem ggL_law_X10_bid : GoodIn wsL_law wsX10_bid := goodIn_s sL_wsX10_bid (by decide +kernel)
set_option maxRecDepth 20000 in
theorem gL_law_X10_bid : GoodIn wsL_law (wsV RL 51 RX10 yX10_bid wsX10_bid) := goodIn_app (goodIn_r _ [369, 370, 371, 2] (by decide +kernel) (by decide +kernel)) ggL_law_X10_bid
set_option maxRecDepth 20000 in
theorem ggL_law_X11_bid : GoodIn wsL_law wsX11_bid := goodIn_s sL_wsX11_bid (by decide +kernel)
set_option maxRecDepth 20000 in
theorem gL_law_X11_bid : GoodIn wsL_law (wsV RL 54 RX11 yX11_bid wsX11_bid) := goodIn_app (goodIn_r _ [386, 387, 388, 5] (by decide +kernel) (by decide +kernel)) ggL_law_X11_bid
set_option maxRecDepth 20000 in
theorem ggL_law_X10_strike : GoodIn wsL_law wsX10_strike := goodIn_s sL_wsX10_strike (by decide +kernel)
set_option maxRecDepth 20000 in
theorem gL_law_X10_strike : GoodIn wsL_law (wsV RL 55 RX10 yX10_strike wsX10_strike) := goodIn_app (goodIn_r _ [398, 399, 400, 2] (by decide +kernel) (by decide +kernel)) ggL_law_X10_strike
set_option maxRecDepth 20000 in
theorem ggL_law_X11_strike : GoodIn wsL_law wsX11_strike := goodIn_s sL_wsX11_strike (by decide +kernel)
set_option maxRecDepth 20000 in
theorem gL_law_X11_strike : GoodIn wsL_law (wsV RL 59 RX11 yX11_strike wsX11_strike) := goodIn_app (goodIn_r _ [424, 425, 426, 5] (by decide +kernel) (by decide +kernel)) ggL_law_X11_strike
set_option maxRecDepth 20000 in
theorem ggL_law_X10_about : GoodIn wsL_law wsX10_about := goodIn_s sL_wsX10_about (by decide +kernel)
set_option maxRecDepth 20000 in
theorem gL_law_X10_about : GoodIn wsL_law (wsV RL 60 RX10 yX10_about wsX10_about) := goodIn_app (goodIn_r _ [428, 429, 430, 2] (by decide +kernel) (by decide +kernel)) ggL_law_X10_about
set_option maxRecDepth 20000 in
theorem ggL_law_X11_about : GoodIn wsL_law wsX11_about := goodIn_s sL_wsX11_about (by decide +kernel)
set_option maxRecDepth 20000 in
theorem gL_law_X11_about : GoodIn wsL_law (wsV RL 63 RX11 yX11_about wsX11_about) := goodIn_app (goodIn_r _ [439, 440, 441, 5] (by decide +kernel) (by decide +kernel)) ggL_law_X11_about
set_option maxRecDepth 20000 in
theorem ggL_law_X10_parcel : GoodIn wsL_law wsX10_parcel := goodIn_s sL_wsX10_parcel (by decide +kernel)
set_option maxRecDepth 20000 in
theorem gL_law_X10_parcel : GoodIn wsL_law (wsV RL 64 RX10 yX10_parcel wsX10_parcel) := goodIn_app (goodIn_r _ [447, 448, 449, 2] (by decide +kernel) (by decide +kernel)) ggL_law_X10_parcel
set_option maxRecDepth 20000 in
theorem ggL_law_X11_parcel : GoodIn wsL_law wsX11_parcel := goodIn_s sL_wsX11_parcel (by decide +kernel)
set_option maxRecDepth 20000 in
theorem gL_law_X11_parcel : GoodIn wsL_law (wsV RL 67 RX11 yX11_parcel wsX11_parcel) := goodIn_app (goodIn_r _ [468, 469, 470, 5] (by decide +kernel) (by decide +kernel)) ggL_law_X11_parcel
set_option maxRecDepth 20000 in
theorem ggL_law_X10_spend : GoodIn wsL_law wsX10_spend := goodIn_s sL_wsX10_spend (by decide +kernel)
set_option maxRecDepth 20000 in
theorem gL_law_X10_spend : GoodIn wsL_law (wsV RL 68 RX10 yX10_spend wsX10_spend) := goodIn_app (goodIn_r _ [477, 478, 479, 2] (by decide +kernel) (by decide +kernel)) ggL_law_X10_spend
set_option maxRecDepth 20000 in
theorem ggL_law_X11_spend : GoodIn wsL_law wsX11_spend := goodIn_s sL_wsX11_spend (by decide +kernel)
set_option maxRecDepth 20000 in
theorem gL_law_X11_spend : GoodIn wsL_law (wsV RL 72 RX11 yX11_spend wsX11_spend) := goodIn_app (goodIn_r _ [484, 485, 486, 5] (by decide +kernel) (by decide +kernel)) ggL_law_X11_spend
set_option maxRecDepth 20000 in
theorem ggL_law_X10_settle : GoodIn wsL_law wsX10_settle := goodIn_s sL_wsX10_settle (by decide +kernel)
set_option maxRecDepth 20000 in
theorem gL_law_X10_settle : GoodIn wsL_law (wsV RL 73 RX10 yX10_settle wsX10_settle) := goodIn_app (goodIn_r _ [489, 490, 491, 2] (by decide +kernel) (by decide +kernel)) ggL_law_X10_settle
set_option maxRecDepth 20000 in
theorem ggL_law_X11_settle : GoodIn wsL_law wsX11_settle := goodIn_s sL_wsX11_settle (by decide +kernel)
set_option maxRecDepth 20000 in
theorem gL_law_X11_settle : GoodIn wsL_law (wsV RL 77 RX11 yX11_settle wsX11_settle) := goodIn_app (goodIn_r _ [535, 536, 537, 5] (by decide +kernel) (by decide +kernel)) ggL_law_X11_settle
set_option maxRecDepth 20000 in
theorem ggL_law_X10_taken : GoodIn wsL_law wsX10_taken := goodIn_s sL_wsX10_taken (by decide +kernel)
set_option maxRecDepth 20000 in
theorem gL_law_X10_taken : GoodIn wsL_law (wsV RL 78 RX10 yX10_taken wsX10_taken) := goodIn_app (goodIn_r _ [543, 544, 545, 2] (by decide +kernel) (by decide +kernel)) ggL_law_X10_taken
set_option maxRecDepth 20000 in
theorem ggL_law_X11_taken : GoodIn wsL_law wsX11_taken := goodIn_s sL_wsX11_taken (by decide +kernel)
set_option maxRecDepth 20000 in
theorem gL_law_X11_taken : GoodIn wsL_law (wsV RL 81 RX11 yX11_taken wsX11_taken) := goodIn_app (goodIn_r _ [551, 552, 553, 5] (by decide +kernel) (by decide +kernel)) ggL_law_X11_taken
set_option maxRecDepth 20000 in
theorem ggL_law_X10_money : GoodIn wsL_law wsX10_money := goodIn_s sL_wsX10_money (by decide +kernel)
set_option maxRecDepth 20000 in
theorem gL_law_X10_money : GoodIn wsL_law (wsV RL 82 RX10 yX10_money wsX10_money) := goodIn_app (goodIn_r _ [559, 560, 561, 2] (by decide +kernel) (by decide +kernel)) ggL_law_X10_money
set_option maxRecDepth 20000 in
theorem ggL_law_X11_money : GoodIn wsL_law wsX11_money := goodIn_s sL_wsX11_money (by decide +kernel)
set_option maxRecDepth 20000 in
theorem gL_law_X11_money : GoodIn wsL_law (wsV RL 85 RX11 yX11_money wsX11_money) := goodIn_app (goodIn_r _ [563, 564, 565, 5] (by decide +kernel) (by decide +kernel)) ggL_law_X11_money
set_option maxRecDepth 20000 in
theorem ggL_law_X10_debt : GoodIn wsL_law wsX10_debt := goodIn_s sL_wsX10_debt (by decide +kernel)
set_option maxRecDepth 20000 in
theorem gL_law_X10_debt : GoodIn wsL_law (wsV RL 86 RX10 yX10_debt wsX10_debt) := goodIn_app (goodIn_r _ [567, 568, 569, 2] (by decide +kernel) (by decide +kernel)) ggL_law_X10_debt
