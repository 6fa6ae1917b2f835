theorem dX0_timesIn16_0 : decode cX0_timesIn16 0 = .ok (.iload_n 0, 1) := by decide +kernel
theorem dX0_timesIn16_1 : decode cX0_timesIn16 1 = .ok (.ifCond .lt 11, 3) := by decide +kernel
theorem dX0_timesIn16_4 : decode cX0_timesIn16 4 = .ok (.iload_n 0, 1) := by decide +kernel
theorem dX0_timesIn16_5 : decode cX0_timesIn16 5 = .ok (.getstatic 7, 3) := by decide +kernel
theorem dX0_timesIn16_8 : decode cX0_timesIn16 8 = .ok (.arraylength, 1) := by decide +kernel
theorem dX0_timesIn16_9 : decode cX0_timesIn16 9 = .ok (.if_icmp .lt 7, 3) := by decide +kernel
theorem dX0_timesIn16_12 : decode cX0_timesIn16 12 = .ok (.iconst 0, 1) := by decide +kernel
theorem dX0_timesIn16_13 : decode cX0_timesIn16 13 = .ok (.goto 8, 3) := by decide +kernel
theorem dX0_timesIn16_16 : decode cX0_timesIn16 16 = .ok (.getstatic 7, 3) := by decide +kernel
theorem dX0_timesIn16_19 : decode cX0_timesIn16 19 = .ok (.iload_n 0, 1) := by decide +kernel
theorem dX0_timesIn16_20 : decode cX0_timesIn16 20 = .ok (.iaload, 1) := by decide +kernel
theorem dX0_timesIn16_21 : decode cX0_timesIn16 21 = .ok (.ireturn, 1) := by decide +kernel
theorem dX1_init_0 : decode cX1_init 0 = .ok (.aload_n 0, 1) := by decide +kernel
theorem dX1_init_1 : decode cX1_init 1 = .ok (.invokespecial 5, 3) := by decide +kernel
theorem dX1_init_4 : decode cX1_init 4 = .ok (.aload_n 0, 1) := by decide +kernel
theorem dX1_init_5 : decode cX1_init 5 = .ok (.sipush 13500, 3) := by decide +kernel
theorem dX1_init_8 : decode cX1_init 8 = .ok (.newarray .int, 2) := by decide +kernel
theorem dX1_init_10 : decode cX1_init 10 = .ok (.putfield 13, 3) := by decide +kernel
theorem dX1_init_13 : decode cX1_init 13 = .ok (.return_, 1) := by decide +kernel
set_option maxRecDepth 20000 in
theorem ggX1_fillUpTo_X1_fillRow : GoodIn wsX1_fillUpTo wsX1_fillRow := goodIn_r _ [10, 11, 12, 13, 14, 9, 15, 16, 17, 18, 19, 20, 21, 22, 23, 24, 25, 26, 27, 28, 29, 30, 31, 32, 33, 34, 35, 36, 37, 38, 39, 40, 41, 42, 43] (by decide +kernel) (by decide +kernel)
set_option maxRecDepth 20000 in
theorem gX1_fillUpTo_X1_fillRow : GoodIn wsX1_fillUpTo (wsV RX1 27 RX1 yX1_fillRow wsX1_fillRow) := goodIn_app (goodIn_of _ (by decide +kernel)) ggX1_fillUpTo_X1_fillRow
theorem dX1_fillUpTo_0 : decode cX1_fillUpTo 0 = .ok (.iload_n 1, 1) := by decide +kernel
theorem dX1_fillUpTo_1 : decode cX1_fillUpTo 1 = .ok (.bipush 60, 2) := by decide +kernel
theorem dX1_fillUpTo_3 : decode cX1_fillUpTo 3 = .ok (.invokestatic 17, 3) := by decide +kernel
theorem dX1_fillUpTo_6 : decode cX1_fillUpTo 6 = .ok (.istore_n 2, 1) := by decide +kernel
theorem dX1_fillUpTo_7 : decode cX1_fillUpTo 7 = .ok (.aload_n 0, 1) := by decide +kernel
theorem dX1_fillUpTo_8 : decode cX1_fillUpTo 8 = .ok (.getfield 23, 3) := by decide +kernel
theorem dX1_fillUpTo_11 : decode cX1_fillUpTo 11 = .ok (.iconst 1, 1) := by decide +kernel
theorem dX1_fillUpTo_12 : decode cX1_fillUpTo 12 = .ok (.iadd, 1) := by decide +kernel
theorem dX1_fillUpTo_13 : decode cX1_fillUpTo 13 = .ok (.istore_n 3, 1) := by decide +kernel
theorem dX1_fillUpTo_14 : decode cX1_fillUpTo 14 = .ok (.iload_n 3, 1) := by decide +kernel
theorem dX1_fillUpTo_15 : decode cX1_fillUpTo 15 = .ok (.iload_n 2, 1) := by decide +kernel
theorem dX1_fillUpTo_16 : decode cX1_fillUpTo 16 = .ok (.if_icmp .gt 19, 3) := by decide +kernel
theorem dX1_fillUpTo_19 : decode cX1_fillUpTo 19 = .ok (.aload_n 0, 1) := by decide +kernel
theorem dX1_fillUpTo_20 : decode cX1_fillUpTo 20 = .ok (.iload_n 3, 1) := by decide +kernel
theorem dX1_fillUpTo_21 : decode cX1_fillUpTo 21 = .ok (.invokevirtual 27, 3) := by decide +kernel
theorem dX1_fillUpTo_24 : decode cX1_fillUpTo 24 = .ok (.aload_n 0, 1) := by decide +kernel
theorem dX1_fillUpTo_25 : decode cX1_fillUpTo 25 = .ok (.iload_n 3, 1) := by decide +kernel
theorem dX1_fillUpTo_26 : decode cX1_fillUpTo 26 = .ok (.putfield 23, 3) := by decide +kernel
theorem dX1_fillUpTo_29 : decode cX1_fillUpTo 29 = .ok (.iinc 3 1, 3) := by decide +kernel
theorem dX1_fillUpTo_32 : decode cX1_fillUpTo 32 = .ok (.goto (-18), 3) := by decide +kernel
theorem dX1_fillUpTo_35 : decode cX1_fillUpTo 35 = .ok (.return_, 1) := by decide +kernel
theorem dX1_held_0 : decode cX1_held 0 = .ok (.iload_n 3, 1) := by decide +kernel
theorem dX1_held_1 : decode cX1_held 1 = .ok (.ifCond .gt 6, 3) := by decide +kernel
theorem dX1_held_4 : decode cX1_held 4 = .ok (.ldc 31, 2) := by decide +kernel
theorem dX1_held_6 : decode cX1_held 6 = .ok (.ireturn, 1) := by decide +kernel
theorem dX1_held_7 : decode cX1_held 7 = .ok (.iload_n 3, 1) := by decide +kernel
theorem dX1_held_8 : decode cX1_held 8 = .ok (.iconst 1, 1) := by decide +kernel
theorem dX1_held_9 : decode cX1_held 9 = .ok (.isub, 1) := by decide +kernel
theorem dX1_held_10 : decode cX1_held 10 = .ok (.sipush 225, 3) := by decide +kernel
theorem dX1_held_13 : decode cX1_held 13 = .ok (.imul, 1) := by decide +kernel
theorem dX1_held_14 : decode cX1_held 14 = .ok (.iload_n 1, 1) := by decide +kernel
theorem dX1_held_15 : decode cX1_held 15 = .ok (.bipush 15, 2) := by decide +kernel
theorem dX1_held_17 : decode cX1_held 17 = .ok (.imul, 1) := by decide +kernel
theorem dX1_held_18 : decode cX1_held 18 = .ok (.iadd, 1) := by decide +kernel
theorem dX1_held_19 : decode cX1_held 19 = .ok (.iload_n 2, 1) := by decide +kernel
theorem dX1_held_20 : decode cX1_held 20 = .ok (.iadd, 1) := by decide +kernel
theorem dX1_held_21 : decode cX1_held 21 = .ok (.istore 4, 2) := by decide +kernel
theorem dX1_held_23 : decode cX1_held 23 = .ok (.iload 4, 2) := by decide +kernel
theorem dX1_held_25 : decode cX1_held 25 = .ok (.ifCond .lt 13, 3) := by decide +kernel
theorem dX1_held_28 : decode cX1_held 28 = .ok (.iload 4, 2) := by decide +kernel
theorem dX1_held_30 : decode cX1_held 30 = .ok (.aload_n 0, 1) := by decide +kernel
theorem dX1_held_31 : decode cX1_held 31 = .ok (.getfield 13, 3) := by decide +kernel
theorem dX1_held_34 : decode cX1_held 34 = .ok (.arraylength, 1) := by decide +kernel
theorem dX1_held_35 : decode cX1_held 35 = .ok (.if_icmp .lt 8, 3) := by decide +kernel
theorem dX1_held_38 : decode cX1_held 38 = .ok (.ldc 31, 2) := by decide +kernel
theorem dX1_held_40 : decode cX1_held 40 = .ok (.goto 10, 3) := by decide +kernel
theorem dX1_held_43 : decode cX1_held 43 = .ok (.aload_n 0, 1) := by decide +kernel
theorem dX1_held_44 : decode cX1_held 44 = .ok (.getfield 13, 3) := by decide +kernel
theorem dX1_held_47 : decode cX1_held 47 = .ok (.iload 4, 2) := by decide +kernel
theorem dX1_held_49 : decode cX1_held 49 = .ok (.iaload, 1) := by decide +kernel
theorem dX1_held_50 : decode cX1_held 50 = .ok (.ireturn, 1) := by decide +kernel
set_option maxRecDepth 20000 in
theorem ggX1_fillRow_X1_worthToThrow : GoodIn wsX1_fillRow wsX1_worthToThrow := goodIn_r _ [6, 7, 8, 9, 10, 5, 11, 12, 1, 13, 14, 15, 16, 17, 18, 19, 20, 21, 22, 23, 24, 25, 26, 2, 3, 4, 27, 28, 29, 30, 31, 32, 33, 34] (by decide +kernel) (by decide +kernel)
set_option maxRecDepth 20000 in
theorem gX1_fillRow_X1_worthToThrow : GoodIn wsX1_fillRow (wsV RX1 32 RX1 yX1_worthToThrow wsX1_worthToThrow) := goodIn_app (goodIn_of _ (by decide +kernel)) ggX1_fillRow_X1_worthToThrow
theorem dX1_fillRow_0 : decode cX1_fillRow 0 = .ok (.iload_n 1, 1) := by decide +kernel
theorem dX1_fillRow_1 : decode cX1_fillRow 1 = .ok (.iconst 1, 1) := by decide +kernel
theorem dX1_fillRow_2 : decode cX1_fillRow 2 = .ok (.isub, 1) := by decide +kernel
theorem dX1_fillRow_3 : decode cX1_fillRow 3 = .ok (.sipush 225, 3) := by decide +kernel
theorem dX1_fillRow_6 : decode cX1_fillRow 6 = .ok (.imul, 1) := by decide +kernel
theorem dX1_fillRow_7 : decode cX1_fillRow 7 = .ok (.istore_n 2, 1) := by decide +kernel
theorem dX1_fillRow_8 : decode cX1_fillRow 8 = .ok (.iconst 0, 1) := by decide +kernel
theorem dX1_fillRow_9 : decode cX1_fillRow 9 = .ok (.istore_n 3, 1) := by decide +kernel
theorem dX1_fillRow_10 : decode cX1_fillRow 10 = .ok (.iload_n 3, 1) := by decide +kernel
theorem dX1_fillRow_11 : decode cX1_fillRow 11 = .ok (.bipush 15, 2) := by decide +kernel
theorem dX1_fillRow_13 : decode cX1_fillRow 13 = .ok (.if_icmp .ge 58, 3) := by decide +kernel
theorem dX1_fillRow_16 : decode cX1_fillRow 16 = .ok (.iconst 0, 1) := by decide +kernel
theorem dX1_fillRow_17 : decode cX1_fillRow 17 = .ok (.istore 4, 2) := by decide +kernel
theorem dX1_fillRow_19 : decode cX1_fillRow 19 = .ok (.iload 4, 2) := by decide +kernel
theorem dX1_fillRow_21 : decode cX1_fillRow 21 = .ok (.bipush 15, 2) := by decide +kernel
theorem dX1_fillRow_23 : decode cX1_fillRow 23 = .ok (.if_icmp .ge 42, 3) := by decide +kernel
theorem dX1_fillRow_26 : decode cX1_fillRow 26 = .ok (.iload_n 2, 1) := by decide +kernel
theorem dX1_fillRow_27 : decode cX1_fillRow 27 = .ok (.ifCond .lt 29, 3) := by decide +kernel
theorem dX1_fillRow_30 : decode cX1_fillRow 30 = .ok (.iload_n 2, 1) := by decide +kernel
theorem dX1_fillRow_31 : decode cX1_fillRow 31 = .ok (.aload_n 0, 1) := by decide +kernel
theorem dX1_fillRow_32 : decode cX1_fillRow 32 = .ok (.getfield 13, 3) := by decide +kernel
theorem dX1_fillRow_35 : decode cX1_fillRow 35 = .ok (.arraylength, 1) := by decide +kernel
theorem dX1_fillRow_36 : decode cX1_fillRow 36 = .ok (.if_icmp .ge 20, 3) := by decide +kernel
theorem dX1_fillRow_39 : decode cX1_fillRow 39 = .ok (.aload_n 0, 1) := by decide +kernel
theorem dX1_fillRow_40 : decode cX1_fillRow 40 = .ok (.getfield 13, 3) := by decide +kernel
theorem dX1_fillRow_43 : decode cX1_fillRow 43 = .ok (.iload_n 2, 1) := by decide +kernel
theorem dX1_fillRow_44 : decode cX1_fillRow 44 = .ok (.aload_n 0, 1) := by decide +kernel
theorem dX1_fillRow_45 : decode cX1_fillRow 45 = .ok (.iload_n 3, 1) := by decide +kernel
theorem dX1_fillRow_46 : decode cX1_fillRow 46 = .ok (.iload 4, 2) := by decide +kernel
theorem dX1_fillRow_48 : decode cX1_fillRow 48 = .ok (.iload_n 1, 1) := by decide +kernel
theorem dX1_fillRow_49 : decode cX1_fillRow 49 = .ok (.iload_n 1, 1) := by decide +kernel
theorem dX1_fillRow_50 : decode cX1_fillRow 50 = .ok (.iconst 1, 1) := by decide +kernel
theorem dX1_fillRow_51 : decode cX1_fillRow 51 = .ok (.isub, 1) := by decide +kernel
theorem dX1_fillRow_52 : decode cX1_fillRow 52 = .ok (.invokevirtual 32, 3) := by decide +kernel
theorem dX1_fillRow_55 : decode cX1_fillRow 55 = .ok (.iastore, 1) := by decide +kernel
theorem dX1_fillRow_56 : decode cX1_fillRow 56 = .ok (.iinc 2 1, 3) := by decide +kernel
theorem dX1_fillRow_59 : decode cX1_fillRow 59 = .ok (.iinc 4 1, 3) := by decide +kernel
theorem dX1_fillRow_62 : decode cX1_fillRow 62 = .ok (.goto (-43), 3) := by decide +kernel
theorem dX1_fillRow_65 : decode cX1_fillRow 65 = .ok (.iinc 3 1, 3) := by decide +kernel
theorem dX1_fillRow_68 : decode cX1_fillRow 68 = .ok (.goto (-58), 3) := by decide +kernel
theorem dX1_fillRow_71 : decode cX1_fillRow 71 = .ok (.return_, 1) := by decide +kernel
set_option maxRecDepth 20000 in
theorem ggX1_worthToThrow_X1_held : GoodIn wsX1_worthToThrow wsX1_held := goodIn_r _ [6, 7, 8, 32, 33] (by decide +kernel) (by decide +kernel)
set_option maxRecDepth 20000 in
theorem gX1_worthToThrow_X1_held : GoodIn wsX1_worthToThrow (wsV RX1 36 RX1 yX1_held wsX1_held) := goodIn_app (goodIn_of _ (by decide +kernel)) ggX1_worthToThrow_X1_held
set_option maxRecDepth 20000 in
theorem ggX1_worthToThrow_X0_timesIn16 : GoodIn wsX1_worthToThrow wsX0_timesIn16 := goodIn_r _ [12, 13] (by decide +kernel) (by decide +kernel)
set_option maxRecDepth 20000 in
theorem gX1_worthToThrow_X0_timesIn16 : GoodIn wsX1_worthToThrow (va_wsS RX1 42 yX0_timesIn16 wsX0_timesIn16) := goodIn_app (goodIn_of _ (by decide +kernel)) ggX1_worthToThrow_X0_timesIn16
set_option maxRecDepth 20000 in
theorem ggX1_worthToThrow_X1_worthBehindThrow : GoodIn wsX1_worthToThrow wsX1_worthBehindThrow := goodIn_r _ [17, 18, 19, 20, 21, 22, 23, 24, 25, 5, 26, 27, 28, 29, 30, 31, 0, 1, 2, 3, 4, 6, 7, 8, 9, 10, 11, 12, 13, 14, 15, 16, 32, 33] (by decide +kernel) (by decide +kernel)
set_option maxRecDepth 20000 in
theorem gX1_worthToThrow_X1_worthBehindThrow : GoodIn wsX1_worthToThrow (wsV RX1 46 RX1 yX1_worthBehindThrow wsX1_worthBehindThrow) := goodIn_app (goodIn_of _ (by decide +kernel)) ggX1_worthToThrow_X1_worthBehindThrow
theorem dX1_worthToThrow_0 : decode cX1_worthToThrow 0 = .ok (.iload_n 3, 1) := by decide +kernel
theorem dX1_worthToThrow_1 : decode cX1_worthToThrow 1 = .ok (.iload 4, 2) := by decide +kernel
theorem dX1_worthToThrow_3 : decode cX1_worthToThrow 3 = .ok (.if_icmp .gt 11, 3) := by decide +kernel
theorem dX1_worthToThrow_6 : decode cX1_worthToThrow 6 = .ok (.aload_n 0, 1) := by decide +kernel
theorem dX1_worthToThrow_7 : decode cX1_worthToThrow 7 = .ok (.iload_n 1, 1) := by decide +kernel
theorem dX1_worthToThrow_8 : decode cX1_worthToThrow 8 = .ok (.iload_n 2, 1) := by decide +kernel
theorem dX1_worthToThrow_9 : decode cX1_worthToThrow 9 = .ok (.iload_n 3, 1) := by decide +kernel
theorem dX1_worthToThrow_10 : decode cX1_worthToThrow 10 = .ok (.invokevirtual 36, 3) := by decide +kernel
theorem dX1_worthToThrow_13 : decode cX1_worthToThrow 13 = .ok (.ireturn, 1) := by decide +kernel
theorem dX1_worthToThrow_14 : decode cX1_worthToThrow 14 = .ok (.lconst 0, 1) := by decide +kernel
theorem dX1_worthToThrow_15 : decode cX1_worthToThrow 15 = .ok (.lstore 5, 2) := by decide +kernel
theorem dX1_worthToThrow_17 : decode cX1_worthToThrow 17 = .ok (.iconst 0, 1) := by decide +kernel
theorem dX1_worthToThrow_18 : decode cX1_worthToThrow 18 = .ok (.istore 7, 2) := by decide +kernel
theorem dX1_worthToThrow_20 : decode cX1_worthToThrow 20 = .ok (.iload 7, 2) := by decide +kernel
theorem dX1_worthToThrow_22 : decode cX1_worthToThrow 22 = .ok (.iconst 4, 1) := by decide +kernel
theorem dX1_worthToThrow_23 : decode cX1_worthToThrow 23 = .ok (.if_icmp .gt 35, 3) := by decide +kernel
theorem dX1_worthToThrow_26 : decode cX1_worthToThrow 26 = .ok (.lload 5, 2) := by decide +kernel
theorem dX1_worthToThrow_28 : decode cX1_worthToThrow 28 = .ok (.iload 7, 2) := by decide +kernel
theorem dX1_worthToThrow_30 : decode cX1_worthToThrow 30 = .ok (.invokestatic 42, 3) := by decide +kernel
theorem dX1_worthToThrow_33 : decode cX1_worthToThrow 33 = .ok (.i2l, 1) := by decide +kernel
theorem dX1_worthToThrow_34 : decode cX1_worthToThrow 34 = .ok (.aload_n 0, 1) := by decide +kernel
theorem dX1_worthToThrow_35 : decode cX1_worthToThrow 35 = .ok (.iload_n 1, 1) := by decide +kernel
theorem dX1_worthToThrow_36 : decode cX1_worthToThrow 36 = .ok (.iload_n 2, 1) := by decide +kernel
theorem dX1_worthToThrow_37 : decode cX1_worthToThrow 37 = .ok (.iload 7, 2) := by decide +kernel
theorem dX1_worthToThrow_39 : decode cX1_worthToThrow 39 = .ok (.iload_n 3, 1) := by decide +kernel
theorem dX1_worthToThrow_40 : decode cX1_worthToThrow 40 = .ok (.iconst 1, 1) := by decide +kernel
theorem dX1_worthToThrow_41 : decode cX1_worthToThrow 41 = .ok (.isub, 1) := by decide +kernel
theorem dX1_worthToThrow_42 : decode cX1_worthToThrow 42 = .ok (.iload 4, 2) := by decide +kernel
theorem dX1_worthToThrow_44 : decode cX1_worthToThrow 44 = .ok (.invokevirtual 46, 3) := by decide +kernel
theorem dX1_worthToThrow_47 : decode cX1_worthToThrow 47 = .ok (.i2l, 1) := by decide +kernel
theorem dX1_worthToThrow_48 : decode cX1_worthToThrow 48 = .ok (.lmul, 1) := by decide +kernel
theorem dX1_worthToThrow_49 : decode cX1_worthToThrow 49 = .ok (.ladd, 1) := by decide +kernel
theorem dX1_worthToThrow_50 : decode cX1_worthToThrow 50 = .ok (.lstore 5, 2) := by decide +kernel
theorem dX1_worthToThrow_52 : decode cX1_worthToThrow 52 = .ok (.iinc 7 1, 3) := by decide +kernel
theorem dX1_worthToThrow_55 : decode cX1_worthToThrow 55 = .ok (.goto (-35), 3) := by decide +kernel
theorem dX1_worthToThrow_58 : decode cX1_worthToThrow 58 = .ok (.lload 5, 2) := by decide +kernel
theorem dX1_worthToThrow_60 : decode cX1_worthToThrow 60 = .ok (.ldc2_w 50, 3) := by decide +kernel
theorem dX1_worthToThrow_63 : decode cX1_worthToThrow 63 = .ok (.ldiv, 1) := by decide +kernel
theorem dX1_worthToThrow_64 : decode cX1_worthToThrow 64 = .ok (.l2i, 1) := by decide +kernel
theorem dX1_worthToThrow_65 : decode cX1_worthToThrow 65 = .ok (.ireturn, 1) := by decide +kernel
set_option maxRecDepth 20000 in
theorem ggX1_worthBehindThrow_X4_canEnter : GoodIn wsX1_worthBehindThrow wsX4_canEnter := goodIn_r _ [5] (by decide +kernel) (by decide +kernel)
set_option maxRecDepth 20000 in
theorem gX1_worthBehindThrow_X4_canEnter : GoodIn wsX1_worthBehindThrow (va_wsS RX1 52 yX4_canEnter wsX4_canEnter) := goodIn_app (goodIn_of _ (by decide +kernel)) ggX1_worthBehindThrow_X4_canEnter
set_option maxRecDepth 20000 in
theorem ggX1_worthBehindThrow_X1_worthToThrow : GoodIn wsX1_worthBehindThrow wsX1_worthToThrow := goodIn_r _ [16, 17, 18, 19, 20, 9, 21, 22, 23, 24, 25, 26, 27, 28, 29, 30, 31, 0, 1, 2, 3, 4, 5, 6, 7, 8, 10, 11, 12, 13, 14, 15, 32, 33] (by decide +kernel) (by decide +kernel)
set_option maxRecDepth 20000 in
theorem gX1_worthBehindThrow_X1_worthToThrow : GoodIn wsX1_worthBehindThrow (wsV RX1 32 RX1 yX1_worthToThrow wsX1_worthToThrow) := goodIn_app (goodIn_of _ (by decide +kernel)) ggX1_worthBehindThrow_X1_worthToThrow
set_option maxRecDepth 20000 in
theorem ggX1_worthBehindThrow_X4_isShared : GoodIn wsX1_worthBehindThrow wsX4_isShared := goodIn_r _ [12] (by decide +kernel) (by decide +kernel)
set_option maxRecDepth 20000 in
theorem gX1_worthBehindThrow_X4_isShared : GoodIn wsX1_worthBehindThrow (va_wsS RX1 57 yX4_isShared wsX4_isShared) := goodIn_app (goodIn_of _ (by decide +kernel)) ggX1_worthBehindThrow_X4_isShared
set_option maxRecDepth 20000 in
theorem ggX1_worthBehindThrow_X4_isRosette : GoodIn wsX1_worthBehindThrow wsX4_isRosette := goodIn_r _ [15] (by decide +kernel) (by decide +kernel)
set_option maxRecDepth 20000 in
theorem gX1_worthBehindThrow_X4_isRosette : GoodIn wsX1_worthBehindThrow (va_wsS RX1 61 yX4_isRosette wsX4_isRosette) := goodIn_app (goodIn_of _ (by decide +kernel)) ggX1_worthBehindThrow_X4_isRosette
theorem dX1_worthBehindThrow_0 : decode cX1_worthBehindThrow 0 = .ok (.iload_n 1, 1) := by decide +kernel
theorem dX1_worthBehindThrow_1 : decode cX1_worthBehindThrow 1 = .ok (.iload_n 3, 1) := by decide +kernel
theorem dX1_worthBehindThrow_2 : decode cX1_worthBehindThrow 2 = .ok (.iadd, 1) := by decide +kernel
theorem dX1_worthBehindThrow_3 : decode cX1_worthBehindThrow 3 = .ok (.istore 6, 2) := by decide +kernel
theorem dX1_worthBehindThrow_5 : decode cX1_worthBehindThrow 5 = .ok (.iload_n 3, 1) := by decide +kernel
theorem dX1_worthBehindThrow_6 : decode cX1_worthBehindThrow 6 = .ok (.ifCond .eq 23, 3) := by decide +kernel
theorem dX1_worthBehindThrow_9 : decode cX1_worthBehindThrow 9 = .ok (.iload 6, 2) := by decide +kernel
theorem dX1_worthBehindThrow_11 : decode cX1_worthBehindThrow 11 = .ok (.iconst 0, 1) := by decide +kernel
theorem dX1_worthBehindThrow_12 : decode cX1_worthBehindThrow 12 = .ok (.iload_n 2, 1) := by decide +kernel
theorem dX1_worthBehindThrow_13 : decode cX1_worthBehindThrow 13 = .ok (.iload 6, 2) := by decide +kernel
theorem dX1_worthBehindThrow_15 : decode cX1_worthBehindThrow 15 = .ok (.if_icmp .ne 7, 3) := by decide +kernel
theorem dX1_worthBehindThrow_18 : decode cX1_worthBehindThrow 18 = .ok (.iconst 1, 1) := by decide +kernel
theorem dX1_worthBehindThrow_19 : decode cX1_worthBehindThrow 19 = .ok (.goto 4, 3) := by decide +kernel
theorem dX1_worthBehindThrow_22 : decode cX1_worthBehindThrow 22 = .ok (.iconst 0, 1) := by decide +kernel
theorem dX1_worthBehindThrow_23 : decode cX1_worthBehindThrow 23 = .ok (.invokestatic 52, 3) := by decide +kernel
theorem dX1_worthBehindThrow_26 : decode cX1_worthBehindThrow 26 = .ok (.ifCond .ne 17, 3) := by decide +kernel
theorem dX1_worthBehindThrow_29 : decode cX1_worthBehindThrow 29 = .ok (.ldc 56, 2) := by decide +kernel
theorem dX1_worthBehindThrow_31 : decode cX1_worthBehindThrow 31 = .ok (.aload_n 0, 1) := by decide +kernel
theorem dX1_worthBehindThrow_32 : decode cX1_worthBehindThrow 32 = .ok (.iload_n 2, 1) := by decide +kernel
theorem dX1_worthBehindThrow_33 : decode cX1_worthBehindThrow 33 = .ok (.iload_n 1, 1) := by decide +kernel
theorem dX1_worthBehindThrow_34 : decode cX1_worthBehindThrow 34 = .ok (.iload 4, 2) := by decide +kernel
theorem dX1_worthBehindThrow_36 : decode cX1_worthBehindThrow 36 = .ok (.iload 5, 2) := by decide +kernel
theorem dX1_worthBehindThrow_38 : decode cX1_worthBehindThrow 38 = .ok (.invokevirtual 32, 3) := by decide +kernel
theorem dX1_worthBehindThrow_41 : decode cX1_worthBehindThrow 41 = .ok (.isub, 1) := by decide +kernel
theorem dX1_worthBehindThrow_42 : decode cX1_worthBehindThrow 42 = .ok (.ireturn, 1) := by decide +kernel
theorem dX1_worthBehindThrow_43 : decode cX1_worthBehindThrow 43 = .ok (.iload 6, 2) := by decide +kernel
theorem dX1_worthBehindThrow_45 : decode cX1_worthBehindThrow 45 = .ok (.bipush 15, 2) := by decide +kernel
theorem dX1_worthBehindThrow_47 : decode cX1_worthBehindThrow 47 = .ok (.if_icmp .ne 6, 3) := by decide +kernel
theorem dX1_worthBehindThrow_50 : decode cX1_worthBehindThrow 50 = .ok (.ldc 56, 2) := by decide +kernel
theorem dX1_worthBehindThrow_52 : decode cX1_worthBehindThrow 52 = .ok (.ireturn, 1) := by decide +kernel
theorem dX1_worthBehindThrow_53 : decode cX1_worthBehindThrow 53 = .ok (.iload_n 2, 1) := by decide +kernel
theorem dX1_worthBehindThrow_54 : decode cX1_worthBehindThrow 54 = .ok (.iload 6, 2) := by decide +kernel
theorem dX1_worthBehindThrow_56 : decode cX1_worthBehindThrow 56 = .ok (.if_icmp .ne 15, 3) := by decide +kernel
theorem dX1_worthBehindThrow_59 : decode cX1_worthBehindThrow 59 = .ok (.iload 6, 2) := by decide +kernel
theorem dX1_worthBehindThrow_61 : decode cX1_worthBehindThrow 61 = .ok (.invokestatic 57, 3) := by decide +kernel
theorem dX1_worthBehindThrow_64 : decode cX1_worthBehindThrow 64 = .ok (.ifCond .eq 7, 3) := by decide +kernel
theorem dX1_worthBehindThrow_67 : decode cX1_worthBehindThrow 67 = .ok (.iconst 0, 1) := by decide +kernel
theorem dX1_worthBehindThrow_68 : decode cX1_worthBehindThrow 68 = .ok (.goto 4, 3) := by decide +kernel
theorem dX1_worthBehindThrow_71 : decode cX1_worthBehindThrow 71 = .ok (.iload_n 2, 1) := by decide +kernel
theorem dX1_worthBehindThrow_72 : decode cX1_worthBehindThrow 72 = .ok (.istore 7, 2) := by decide +kernel
theorem dX1_worthBehindThrow_74 : decode cX1_worthBehindThrow 74 = .ok (.iload 6, 2) := by decide +kernel
theorem dX1_worthBehindThrow_76 : decode cX1_worthBehindThrow 76 = .ok (.invokestatic 61, 3) := by decide +kernel
theorem dX1_worthBehindThrow_79 : decode cX1_worthBehindThrow 79 = .ok (.ifCond .eq 16, 3) := by decide +kernel
theorem dX1_worthBehindThrow_82 : decode cX1_worthBehindThrow 82 = .ok (.aload_n 0, 1) := by decide +kernel
theorem dX1_worthBehindThrow_83 : decode cX1_worthBehindThrow 83 = .ok (.iload 6, 2) := by decide +kernel
theorem dX1_worthBehindThrow_85 : decode cX1_worthBehindThrow 85 = .ok (.iload 7, 2) := by decide +kernel
theorem dX1_worthBehindThrow_87 : decode cX1_worthBehindThrow 87 = .ok (.iload 4, 2) := by decide +kernel
theorem dX1_worthBehindThrow_89 : decode cX1_worthBehindThrow 89 = .ok (.iload 5, 2) := by decide +kernel
theorem dX1_worthBehindThrow_91 : decode cX1_worthBehindThrow 91 = .ok (.invokevirtual 32, 3) := by decide +kernel
theorem dX1_worthBehindThrow_94 : decode cX1_worthBehindThrow 94 = .ok (.ireturn, 1) := by decide +kernel
theorem dX1_worthBehindThrow_95 : decode cX1_worthBehindThrow 95 = .ok (.ldc 56, 2) := by decide +kernel
theorem dX1_worthBehindThrow_97 : decode cX1_worthBehindThrow 97 = .ok (.aload_n 0, 1) := by decide +kernel
theorem dX1_worthBehindThrow_98 : decode cX1_worthBehindThrow 98 = .ok (.iload 7, 2) := by decide +kernel
theorem dX1_worthBehindThrow_100 : decode cX1_worthBehindThrow 100 = .ok (.iload 6, 2) := by decide +kernel
theorem dX1_worthBehindThrow_102 : decode cX1_worthBehindThrow 102 = .ok (.iload 4, 2) := by decide +kernel
theorem dX1_worthBehindThrow_104 : decode cX1_worthBehindThrow 104 = .ok (.iload 5, 2) := by decide +kernel
theorem dX1_worthBehindThrow_106 : decode cX1_worthBehindThrow 106 = .ok (.invokevirtual 32, 3) := by decide +kernel
theorem dX1_worthBehindThrow_109 : decode cX1_worthBehindThrow 109 = .ok (.isub, 1) := by decide +kernel
theorem dX1_worthBehindThrow_110 : decode cX1_worthBehindThrow 110 = .ok (.ireturn, 1) := by decide +kernel
theorem dX2_allAtStart_0 : decode cX2_allAtStart 0 = .ok (.iload_n 0, 1) := by decide +kernel
theorem dX2_allAtStart_1 : decode cX2_allAtStart 1 = .ok (.i2l, 1) := by decide +kernel
theorem dX2_allAtStart_2 : decode cX2_allAtStart 2 = .ok (.lreturn, 1) := by decide +kernel
theorem dX2_countAt_0 : decode cX2_countAt 0 = .ok (.iload_n 2, 1) := by decide +kernel
theorem dX2_countAt_1 : decode cX2_countAt 1 = .ok (.ifCond .lt 9, 3) := by decide +kernel
theorem dX2_countAt_4 : decode cX2_countAt 4 = .ok (.iload_n 2, 1) := by decide +kernel
theorem dX2_countAt_5 : decode cX2_countAt 5 = .ok (.bipush 15, 2) := by decide +kernel
theorem dX2_countAt_7 : decode cX2_countAt 7 = .ok (.if_icmp .le 7, 3) := by decide +kernel
theorem dX2_countAt_10 : decode cX2_countAt 10 = .ok (.iconst 0, 1) := by decide +kernel
theorem dX2_countAt_11 : decode cX2_countAt 11 = .ok (.goto 12, 3) := by decide +kernel
theorem dX2_countAt_14 : decode cX2_countAt 14 = .ok (.lload_n 0, 1) := by decide +kernel
theorem dX2_countAt_15 : decode cX2_countAt 15 = .ok (.iconst 4, 1) := by decide +kernel
theorem dX2_countAt_16 : decode cX2_countAt 16 = .ok (.iload_n 2, 1) := by decide +kernel
theorem dX2_countAt_17 : decode cX2_countAt 17 = .ok (.imul, 1) := by decide +kernel
theorem dX2_countAt_18 : decode cX2_countAt 18 = .ok (.lushr, 1) := by decide +kernel
theorem dX2_countAt_19 : decode cX2_countAt 19 = .ok (.l2i, 1) := by decide +kernel
theorem dX2_countAt_20 : decode cX2_countAt 20 = .ok (.bipush 15, 2) := by decide +kernel
theorem dX2_countAt_22 : decode cX2_countAt 22 = .ok (.iand, 1) := by decide +kernel
theorem dX2_countAt_23 : decode cX2_countAt 23 = .ok (.ireturn, 1) := by decide +kernel
theorem dX2_shifted_0 : decode cX2_shifted 0 = .ok (.lload_n 0, 1) := by decide +kernel
theorem dX2_shifted_1 : decode cX2_shifted 1 = .ok (.lconst 1, 1) := by decide +kernel
theorem dX2_shifted_2 : decode cX2_shifted 2 = .ok (.iconst 4, 1) := by decide +kernel
theorem dX2_shifted_3 : decode cX2_shifted 3 = .ok (.iload_n 2, 1) := by decide +kernel
theorem dX2_shifted_4 : decode cX2_shifted 4 = .ok (.imul, 1) := by decide +kernel
theorem dX2_shifted_5 : decode cX2_shifted 5 = .ok (.lshl, 1) := by decide +kernel
theorem dX2_shifted_6 : decode cX2_shifted 6 = .ok (.lsub, 1) := by decide +kernel
theorem dX2_shifted_7 : decode cX2_shifted 7 = .ok (.lconst 1, 1) := by decide +kernel
theorem dX2_shifted_8 : decode cX2_shifted 8 = .ok (.iconst 4, 1) := by decide +kernel
theorem dX2_shifted_9 : decode cX2_shifted 9 = .ok (.iload_n 3, 1) := by decide +kernel
theorem dX2_shifted_10 : decode cX2_shifted 10 = .ok (.imul, 1) := by decide +kernel
theorem dX2_shifted_11 : decode cX2_shifted 11 = .ok (.lshl, 1) := by decide +kernel
theorem dX2_shifted_12 : decode cX2_shifted 12 = .ok (.ladd, 1) := by decide +kernel
theorem dX2_shifted_13 : decode cX2_shifted 13 = .ok (.lreturn, 1) := by decide +kernel
theorem dX2_isAllHome_0 : decode cX2_isAllHome 0 = .ok (.lload_n 0, 1) := by decide +kernel
theorem dX2_isAllHome_1 : decode cX2_isAllHome 1 = .ok (.ldc2_w 11, 3) := by decide +kernel
theorem dX2_isAllHome_4 : decode cX2_isAllHome 4 = .ok (.land, 1) := by decide +kernel
theorem dX2_isAllHome_5 : decode cX2_isAllHome 5 = .ok (.lconst 0, 1) := by decide +kernel
theorem dX2_isAllHome_6 : decode cX2_isAllHome 6 = .ok (.lcmp, 1) := by decide +kernel
theorem dX2_isAllHome_7 : decode cX2_isAllHome 7 = .ok (.ifCond .ne 7, 3) := by decide +kernel
theorem dX2_isAllHome_10 : decode cX2_isAllHome 10 = .ok (.iconst 1, 1) := by decide +kernel
theorem dX2_isAllHome_11 : decode cX2_isAllHome 11 = .ok (.goto 4, 3) := by decide +kernel
theorem dX2_isAllHome_14 : decode cX2_isAllHome 14 = .ok (.iconst 0, 1) := by decide +kernel
theorem dX2_isAllHome_15 : decode cX2_isAllHome 15 = .ok (.ireturn, 1) := by decide +kernel
set_option maxRecDepth 20000 in
theorem ggX2_sumOfPlaces_X2_countAt : GoodIn wsX2_sumOfPlaces wsX2_countAt := goodIn_r _ [4] (by decide +kernel) (by decide +kernel)
set_option maxRecDepth 20000 in
theorem gX2_sumOfPlaces_X2_countAt : GoodIn wsX2_sumOfPlaces (va_wsS RX2 13 yX2_countAt wsX2_countAt) := goodIn_app (goodIn_of _ (by decide +kernel)) ggX2_sumOfPlaces_X2_countAt
theorem dX2_sumOfPlaces_0 : decode cX2_sumOfPlaces 0 = .ok (.iconst 0, 1) := by decide +kernel
theorem dX2_sumOfPlaces_1 : decode cX2_sumOfPlaces 1 = .ok (.istore_n 2, 1) := by decide +kernel
theorem dX2_sumOfPlaces_2 : decode cX2_sumOfPlaces 2 = .ok (.iconst 1, 1) := by decide +kernel
theorem dX2_sumOfPlaces_3 : decode cX2_sumOfPlaces 3 = .ok (.istore_n 3, 1) := by decide +kernel
theorem dX2_sumOfPlaces_4 : decode cX2_sumOfPlaces 4 = .ok (.iload_n 3, 1) := by decide +kernel
theorem dX2_sumOfPlaces_5 : decode cX2_sumOfPlaces 5 = .ok (.bipush 15, 2) := by decide +kernel
theorem dX2_sumOfPlaces_7 : decode cX2_sumOfPlaces 7 = .ok (.if_icmp .gt 19, 3) := by decide +kernel
theorem dX2_sumOfPlaces_10 : decode cX2_sumOfPlaces 10 = .ok (.iload_n 2, 1) := by decide +kernel
theorem dX2_sumOfPlaces_11 : decode cX2_sumOfPlaces 11 = .ok (.iload_n 3, 1) := by decide +kernel
theorem dX2_sumOfPlaces_12 : decode cX2_sumOfPlaces 12 = .ok (.lload_n 0, 1) := by decide +kernel
theorem dX2_sumOfPlaces_13 : decode cX2_sumOfPlaces 13 = .ok (.iload_n 3, 1) := by decide +kernel
theorem dX2_sumOfPlaces_14 : decode cX2_sumOfPlaces 14 = .ok (.invokestatic 13, 3) := by decide +kernel
theorem dX2_sumOfPlaces_17 : decode cX2_sumOfPlaces 17 = .ok (.imul, 1) := by decide +kernel
theorem dX2_sumOfPlaces_18 : decode cX2_sumOfPlaces 18 = .ok (.iadd, 1) := by decide +kernel
theorem dX2_sumOfPlaces_19 : decode cX2_sumOfPlaces 19 = .ok (.istore_n 2, 1) := by decide +kernel
theorem dX2_sumOfPlaces_20 : decode cX2_sumOfPlaces 20 = .ok (.iinc 3 1, 3) := by decide +kernel
theorem dX2_sumOfPlaces_23 : decode cX2_sumOfPlaces 23 = .ok (.goto (-19), 3) := by decide +kernel
theorem dX2_sumOfPlaces_26 : decode cX2_sumOfPlaces 26 = .ok (.iload_n 2, 1) := by decide +kernel
theorem dX2_sumOfPlaces_27 : decode cX2_sumOfPlaces 27 = .ok (.ireturn, 1) := by decide +kernel
set_option maxRecDepth 20000 in
theorem ggX2_firstPlace_X2_countAt : GoodIn wsX2_firstPlace wsX2_countAt := goodIn_r _ [4] (by decide +kernel) (by decide +kernel)
set_option maxRecDepth 20000 in
theorem gX2_firstPlace_X2_countAt : GoodIn wsX2_firstPlace (va_wsS RX2 13 yX2_countAt wsX2_countAt) := goodIn_app (goodIn_of _ (by decide +kernel)) ggX2_firstPlace_X2_countAt
theorem dX2_firstPlace_0 : decode cX2_firstPlace 0 = .ok (.iconst 0, 1) := by decide +kernel
theorem dX2_firstPlace_1 : decode cX2_firstPlace 1 = .ok (.istore_n 2, 1) := by decide +kernel
theorem dX2_firstPlace_2 : decode cX2_firstPlace 2 = .ok (.iload_n 2, 1) := by decide +kernel
theorem dX2_firstPlace_3 : decode cX2_firstPlace 3 = .ok (.bipush 15, 2) := by decide +kernel
theorem dX2_firstPlace_5 : decode cX2_firstPlace 5 = .ok (.if_icmp .ge 17, 3) := by decide +kernel
theorem dX2_firstPlace_8 : decode cX2_firstPlace 8 = .ok (.lload_n 0, 1) := by decide +kernel
theorem dX2_firstPlace_9 : decode cX2_firstPlace 9 = .ok (.iload_n 2, 1) := by decide +kernel
theorem dX2_firstPlace_10 : decode cX2_firstPlace 10 = .ok (.invokestatic 13, 3) := by decide +kernel
theorem dX2_firstPlace_13 : decode cX2_firstPlace 13 = .ok (.ifCond .ne 9, 3) := by decide +kernel
theorem dX2_firstPlace_16 : decode cX2_firstPlace 16 = .ok (.iinc 2 1, 3) := by decide +kernel
theorem dX2_firstPlace_19 : decode cX2_firstPlace 19 = .ok (.goto (-17), 3) := by decide +kernel
theorem dX2_firstPlace_22 : decode cX2_firstPlace 22 = .ok (.iload_n 2, 1) := by decide +kernel
theorem dX2_firstPlace_23 : decode cX2_firstPlace 23 = .ok (.ireturn, 1) := by decide +kernel
set_option maxRecDepth 20000 in
theorem ggX2_canMove_X2_countAt : GoodIn wsX2_canMove wsX2_countAt := goodIn_r _ [4] (by decide +kernel) (by decide +kernel)
set_option maxRecDepth 20000 in
theorem gX2_canMove_X2_countAt : GoodIn wsX2_canMove (va_wsS RX2 13 yX2_countAt wsX2_countAt) := goodIn_app (goodIn_of _ (by decide +kernel)) ggX2_canMove_X2_countAt
set_option maxRecDepth 20000 in
theorem ggX2_canMove_X4_canEnter : GoodIn wsX2_canMove wsX4_canEnter := goodIn_r _ [8] (by decide +kernel) (by decide +kernel)
set_option maxRecDepth 20000 in
theorem gX2_canMove_X4_canEnter : GoodIn wsX2_canMove (va_wsS RX2 17 yX4_canEnter wsX4_canEnter) := goodIn_app (goodIn_of _ (by decide +kernel)) ggX2_canMove_X4_canEnter
theorem dX2_canMove_0 : decode cX2_canMove 0 = .ok (.iload 5, 2) := by decide +kernel
theorem dX2_canMove_2 : decode cX2_canMove 2 = .ok (.ifCond .le 12, 3) := by decide +kernel
theorem dX2_canMove_5 : decode cX2_canMove 5 = .ok (.lload_n 0, 1) := by decide +kernel
theorem dX2_canMove_6 : decode cX2_canMove 6 = .ok (.iload 4, 2) := by decide +kernel
theorem dX2_canMove_8 : decode cX2_canMove 8 = .ok (.invokestatic 13, 3) := by decide +kernel
theorem dX2_canMove_11 : decode cX2_canMove 11 = .ok (.ifCond .ne 5, 3) := by decide +kernel
theorem dX2_canMove_14 : decode cX2_canMove 14 = .ok (.iconst 0, 1) := by decide +kernel
theorem dX2_canMove_15 : decode cX2_canMove 15 = .ok (.ireturn, 1) := by decide +kernel
theorem dX2_canMove_16 : decode cX2_canMove 16 = .ok (.iload 4, 2) := by decide +kernel
theorem dX2_canMove_18 : decode cX2_canMove 18 = .ok (.iload 5, 2) := by decide +kernel
theorem dX2_canMove_20 : decode cX2_canMove 20 = .ok (.iadd, 1) := by decide +kernel
theorem dX2_canMove_21 : decode cX2_canMove 21 = .ok (.istore 6, 2) := by decide +kernel
theorem dX2_canMove_23 : decode cX2_canMove 23 = .ok (.iload 6, 2) := by decide +kernel
theorem dX2_canMove_25 : decode cX2_canMove 25 = .ok (.lload_n 0, 1) := by decide +kernel
theorem dX2_canMove_26 : decode cX2_canMove 26 = .ok (.iload 6, 2) := by decide +kernel
theorem dX2_canMove_28 : decode cX2_canMove 28 = .ok (.invokestatic 13, 3) := by decide +kernel
theorem dX2_canMove_31 : decode cX2_canMove 31 = .ok (.ifCond .le 7, 3) := by decide +kernel
theorem dX2_canMove_34 : decode cX2_canMove 34 = .ok (.iconst 1, 1) := by decide +kernel
theorem dX2_canMove_35 : decode cX2_canMove 35 = .ok (.goto 4, 3) := by decide +kernel
theorem dX2_canMove_38 : decode cX2_canMove 38 = .ok (.iconst 0, 1) := by decide +kernel
theorem dX2_canMove_39 : decode cX2_canMove 39 = .ok (.lload_n 2, 1) := by decide +kernel
theorem dX2_canMove_40 : decode cX2_canMove 40 = .ok (.iload 6, 2) := by decide +kernel
theorem dX2_canMove_42 : decode cX2_canMove 42 = .ok (.invokestatic 13, 3) := by decide +kernel
theorem dX2_canMove_45 : decode cX2_canMove 45 = .ok (.ifCond .le 7, 3) := by decide +kernel
theorem dX2_canMove_48 : decode cX2_canMove 48 = .ok (.iconst 1, 1) := by decide +kernel
theorem dX2_canMove_49 : decode cX2_canMove 49 = .ok (.goto 4, 3) := by decide +kernel
theorem dX2_canMove_52 : decode cX2_canMove 52 = .ok (.iconst 0, 1) := by decide +kernel
theorem dX2_canMove_53 : decode cX2_canMove 53 = .ok (.invokestatic 17, 3) := by decide +kernel
theorem dX2_canMove_56 : decode cX2_canMove 56 = .ok (.ireturn, 1) := by decide +kernel
set_option maxRecDepth 20000 in
theorem ggX2_canBeTaken_X4_isShared : GoodIn wsX2_canBeTaken wsX4_isShared := goodIn_r _ [4] (by decide +kernel) (by decide +kernel)
set_option maxRecDepth 20000 in
theorem gX2_canBeTaken_X4_isShared : GoodIn wsX2_canBeTaken (va_wsS RX2 21 yX4_isShared wsX4_isShared) := goodIn_app (goodIn_of _ (by decide +kernel)) ggX2_canBeTaken_X4_isShared
set_option maxRecDepth 20000 in
theorem ggX2_canBeTaken_X2_countAt : GoodIn wsX2_canBeTaken wsX2_countAt := goodIn_r _ [8] (by decide +kernel) (by decide +kernel)
set_option maxRecDepth 20000 in
theorem gX2_canBeTaken_X2_countAt : GoodIn wsX2_canBeTaken (va_wsS RX2 13 yX2_countAt wsX2_countAt) := goodIn_app (goodIn_of _ (by decide +kernel)) ggX2_canBeTaken_X2_countAt
theorem dX2_canBeTaken_0 : decode cX2_canBeTaken 0 = .ok (.iload_n 2, 1) := by decide +kernel
theorem dX2_canBeTaken_1 : decode cX2_canBeTaken 1 = .ok (.invokestatic 21, 3) := by decide +kernel
theorem dX2_canBeTaken_4 : decode cX2_canBeTaken 4 = .ok (.ifCond .eq 15, 3) := by decide +kernel
theorem dX2_canBeTaken_7 : decode cX2_canBeTaken 7 = .ok (.lload_n 0, 1) := by decide +kernel
theorem dX2_canBeTaken_8 : decode cX2_canBeTaken 8 = .ok (.iload_n 2, 1) := by decide +kernel
theorem dX2_canBeTaken_9 : decode cX2_canBeTaken 9 = .ok (.invokestatic 13, 3) := by decide +kernel
theorem dX2_canBeTaken_12 : decode cX2_canBeTaken 12 = .ok (.ifCond .le 7, 3) := by decide +kernel
theorem dX2_canBeTaken_15 : decode cX2_canBeTaken 15 = .ok (.iconst 1, 1) := by decide +kernel
theorem dX2_canBeTaken_16 : decode cX2_canBeTaken 16 = .ok (.goto 4, 3) := by decide +kernel
theorem dX2_canBeTaken_19 : decode cX2_canBeTaken 19 = .ok (.iconst 0, 1) := by decide +kernel
theorem dX2_canBeTaken_20 : decode cX2_canBeTaken 20 = .ok (.ireturn, 1) := by decide +kernel
theorem dX3_init_0 : decode cX3_init 0 = .ok (.aload_n 0, 1) := by decide +kernel
theorem dX3_init_1 : decode cX3_init 1 = .ok (.invokespecial 1, 3) := by decide +kernel
theorem dX3_init_4 : decode cX3_init 4 = .ok (.return_, 1) := by decide +kernel
theorem dX4_isRosette_0 : decode cX4_isRosette 0 = .ok (.iload_n 0, 1) := by decide +kernel
theorem dX4_isRosette_1 : decode cX4_isRosette 1 = .ok (.iconst 4, 1) := by decide +kernel
theorem dX4_isRosette_2 : decode cX4_isRosette 2 = .ok (.if_icmp .eq 15, 3) := by decide +kernel
theorem dX4_isRosette_5 : decode cX4_isRosette 5 = .ok (.iload_n 0, 1) := by decide +kernel
theorem dX4_isRosette_6 : decode cX4_isRosette 6 = .ok (.bipush 8, 2) := by decide +kernel
theorem dX4_isRosette_8 : decode cX4_isRosette 8 = .ok (.if_icmp .eq 9, 3) := by decide +kernel
theorem dX4_isRosette_11 : decode cX4_isRosette 11 = .ok (.iload_n 0, 1) := by decide +kernel
theorem dX4_isRosette_12 : decode cX4_isRosette 12 = .ok (.bipush 14, 2) := by decide +kernel
theorem dX4_isRosette_14 : decode cX4_isRosette 14 = .ok (.if_icmp .ne 7, 3) := by decide +kernel
theorem dX4_isRosette_17 : decode cX4_isRosette 17 = .ok (.iconst 1, 1) := by decide +kernel
theorem dX4_isRosette_18 : decode cX4_isRosette 18 = .ok (.goto 4, 3) := by decide +kernel
theorem dX4_isRosette_21 : decode cX4_isRosette 21 = .ok (.iconst 0, 1) := by decide +kernel
theorem dX4_isRosette_22 : decode cX4_isRosette 22 = .ok (.ireturn, 1) := by decide +kernel
theorem dX4_isShared_0 : decode cX4_isShared 0 = .ok (.iload_n 0, 1) := by decide +kernel
theorem dX4_isShared_1 : decode cX4_isShared 1 = .ok (.iconst 5, 1) := by decide +kernel
theorem dX4_isShared_2 : decode cX4_isShared 2 = .ok (.if_icmp .lt 13, 3) := by decide +kernel
theorem dX4_isShared_5 : decode cX4_isShared 5 = .ok (.iload_n 0, 1) := by decide +kernel
theorem dX4_isShared_6 : decode cX4_isShared 6 = .ok (.bipush 12, 2) := by decide +kernel
theorem dX4_isShared_8 : decode cX4_isShared 8 = .ok (.if_icmp .gt 7, 3) := by decide +kernel
theorem dX4_isShared_11 : decode cX4_isShared 11 = .ok (.iconst 1, 1) := by decide +kernel
theorem dX4_isShared_12 : decode cX4_isShared 12 = .ok (.goto 4, 3) := by decide +kernel
theorem dX4_isShared_15 : decode cX4_isShared 15 = .ok (.iconst 0, 1) := by decide +kernel
theorem dX4_isShared_16 : decode cX4_isShared 16 = .ok (.ireturn, 1) := by decide +kernel
theorem dX4_canEnter_0 : decode cX4_canEnter 0 = .ok (.iload_n 0, 1) := by decide +kernel
theorem dX4_canEnter_1 : decode cX4_canEnter 1 = .ok (.bipush 15, 2) := by decide +kernel
theorem dX4_canEnter_3 : decode cX4_canEnter 3 = .ok (.if_icmp .lt 15, 3) := by decide +kernel
theorem dX4_canEnter_6 : decode cX4_canEnter 6 = .ok (.iload_n 0, 1) := by decide +kernel
theorem dX4_canEnter_7 : decode cX4_canEnter 7 = .ok (.bipush 15, 2) := by decide +kernel
theorem dX4_canEnter_9 : decode cX4_canEnter 9 = .ok (.if_icmp .ne 7, 3) := by decide +kernel
theorem dX4_canEnter_12 : decode cX4_canEnter 12 = .ok (.iconst 1, 1) := by decide +kernel
theorem dX4_canEnter_13 : decode cX4_canEnter 13 = .ok (.goto 4, 3) := by decide +kernel
theorem dX4_canEnter_16 : decode cX4_canEnter 16 = .ok (.iconst 0, 1) := by decide +kernel
theorem dX4_canEnter_17 : decode cX4_canEnter 17 = .ok (.ireturn, 1) := by decide +kernel
theorem dX4_canEnter_18 : decode cX4_canEnter 18 = .ok (.iload_n 1, 1) := by decide +kernel
theorem dX4_canEnter_19 : decode cX4_canEnter 19 = .ok (.ifCond .ne 17, 3) := by decide +kernel
theorem dX4_canEnter_22 : decode cX4_canEnter 22 = .ok (.iload_n 2, 1) := by decide +kernel
theorem dX4_canEnter_23 : decode cX4_canEnter 23 = .ok (.ifCond .eq 9, 3) := by decide +kernel
theorem dX4_canEnter_26 : decode cX4_canEnter 26 = .ok (.iload_n 0, 1) := by decide +kernel
theorem dX4_canEnter_27 : decode cX4_canEnter 27 = .ok (.bipush 8, 2) := by decide +kernel
theorem dX4_canEnter_29 : decode cX4_canEnter 29 = .ok (.if_icmp .eq 7, 3) := by decide +kernel
theorem dX4_canEnter_32 : decode cX4_canEnter 32 = .ok (.iconst 1, 1) := by decide +kernel
theorem dX4_canEnter_33 : decode cX4_canEnter 33 = .ok (.goto 4, 3) := by decide +kernel
theorem dX4_canEnter_36 : decode cX4_canEnter 36 = .ok (.iconst 0, 1) := by decide +kernel
theorem dX4_canEnter_37 : decode cX4_canEnter 37 = .ok (.ireturn, 1) := by decide +kernel
set_option maxRecDepth 20000 in
theorem ggX5_init_X3_init : GoodIn wsX5_init wsX3_init := goodIn_r _ [16, 17, 2, 3] (by decide +kernel) (by decide +kernel)
set_option maxRecDepth 20000 in
theorem gX5_init_X3_init_n9 : GoodIn wsX5_init (wsX3_init) := ggX5_init_X3_init
set_option maxRecDepth 20000 in
theorem ggX5_init_X1_init : GoodIn wsX5_init wsX1_init := goodIn_r _ [20, 21, 2, 3, 13, 22, 50, 51] (by decide +kernel) (by decide +kernel)
set_option maxRecDepth 20000 in
theorem gX5_init_X1_init : GoodIn wsX5_init (wsX1_init) := ggX5_init_X1_init
set_option maxRecDepth 20000 in
theorem ggX5_init_X5_setUp : GoodIn wsX5_init wsX5_setUp := goodIn_r _ [27, 28, 7, 29, 8, 30, 31, 32, 33, 34, 35, 36, 37, 38, 41, 42, 43, 44, 45, 46, 47, 48, 49, 39, 40] (by decide +kernel) (by decide +kernel)
set_option maxRecDepth 20000 in
theorem gX5_init_X5_setUp : GoodIn wsX5_init (wsV RX5 32 RX5 yX5_setUp wsX5_setUp) := goodIn_app (goodIn_of _ (by decide +kernel)) ggX5_init_X5_setUp
theorem dX5_init_0 : decode cX5_init 0 = .ok (.aload_n 0, 1) := by decide +kernel
theorem dX5_init_1 : decode cX5_init 1 = .ok (.invokespecial 1, 3) := by decide +kernel
theorem dX5_init_4 : decode cX5_init 4 = .ok (.aload_n 0, 1) := by decide +kernel
theorem dX5_init_5 : decode cX5_init 5 = .ok (.new 7, 3) := by decide +kernel
theorem dX5_init_8 : decode cX5_init 8 = .ok (.dup, 1) := by decide +kernel
theorem dX5_init_9 : decode cX5_init 9 = .ok (.invokespecial 9, 3) := by decide +kernel
theorem dX5_init_12 : decode cX5_init 12 = .ok (.putfield 10, 3) := by decide +kernel
theorem dX5_init_15 : decode cX5_init 15 = .ok (.aload_n 0, 1) := by decide +kernel
theorem dX5_init_16 : decode cX5_init 16 = .ok (.new 7, 3) := by decide +kernel
theorem dX5_init_19 : decode cX5_init 19 = .ok (.dup, 1) := by decide +kernel
theorem dX5_init_20 : decode cX5_init 20 = .ok (.invokespecial 9, 3) := by decide +kernel
theorem dX5_init_23 : decode cX5_init 23 = .ok (.putfield 16, 3) := by decide +kernel
theorem dX5_init_26 : decode cX5_init 26 = .ok (.aload_n 0, 1) := by decide +kernel
theorem dX5_init_27 : decode cX5_init 27 = .ok (.new 19, 3) := by decide +kernel
theorem dX5_init_30 : decode cX5_init 30 = .ok (.dup, 1) := by decide +kernel
theorem dX5_init_31 : decode cX5_init 31 = .ok (.invokespecial 21, 3) := by decide +kernel
theorem dX5_init_34 : decode cX5_init 34 = .ok (.putfield 22, 3) := by decide +kernel
theorem dX5_init_37 : decode cX5_init 37 = .ok (.aload_n 0, 1) := by decide +kernel
theorem dX5_init_38 : decode cX5_init 38 = .ok (.bipush 15, 2) := by decide +kernel
theorem dX5_init_40 : decode cX5_init 40 = .ok (.newarray .int, 2) := by decide +kernel
theorem dX5_init_42 : decode cX5_init 42 = .ok (.putfield 28, 3) := by decide +kernel
theorem dX5_init_45 : decode cX5_init 45 = .ok (.aload_n 0, 1) := by decide +kernel
theorem dX5_init_46 : decode cX5_init 46 = .ok (.iconst 2, 1) := by decide +kernel
theorem dX5_init_47 : decode cX5_init 47 = .ok (.invokevirtual 32, 3) := by decide +kernel
theorem dX5_init_50 : decode cX5_init 50 = .ok (.return_, 1) := by decide +kernel
set_option maxRecDepth 20000 in
theorem ggX5_begin_X5_refuseOutside : GoodIn wsX5_begin wsX5_refuseOutside := goodIn_ca (goodIn_r _ [4, 5, 6] (by decide +kernel) (by decide +kernel)) (goodIn_sub (fun _ h => List.mem_cons_of_mem _ (List.mem_append_right _ h)) (by decide +kernel))
set_option maxRecDepth 20000 in
theorem gX5_begin_X5_refuseOutside : GoodIn wsX5_begin (va_wsS RX5 36 yX5_refuseOutside wsX5_refuseOutside) := goodIn_app (goodIn_of _ (by decide +kernel)) ggX5_begin_X5_refuseOutside
set_option maxRecDepth 20000 in
theorem ggX5_begin_X5_setUp : GoodIn wsX5_begin wsX5_setUp := goodIn_r _ [10, 11, 12, 13, 14, 15, 16, 17, 18, 19, 20, 21, 22, 23, 24, 25, 26, 27, 28, 29, 30, 31, 32, 33, 34] (by decide +kernel) (by decide +kernel)
set_option maxRecDepth 20000 in
theorem gX5_begin_X5_setUp : GoodIn wsX5_begin (wsV RX5 32 RX5 yX5_setUp wsX5_setUp) := goodIn_app (goodIn_of _ (by decide +kernel)) ggX5_begin_X5_setUp
theorem dX5_begin_0 : decode cX5_begin 0 = .ok (.iload_n 1, 1) := by decide +kernel
theorem dX5_begin_1 : decode cX5_begin 1 = .ok (.iconst 1, 1) := by decide +kernel
theorem dX5_begin_2 : decode cX5_begin 2 = .ok (.iconst 4, 1) := by decide +kernel
theorem dX5_begin_3 : decode cX5_begin 3 = .ok (.invokestatic 36, 3) := by decide +kernel
theorem dX5_begin_6 : decode cX5_begin 6 = .ok (.aload_n 0, 1) := by decide +kernel
theorem dX5_begin_7 : decode cX5_begin 7 = .ok (.iload_n 1, 1) := by decide +kernel
theorem dX5_begin_8 : decode cX5_begin 8 = .ok (.invokevirtual 32, 3) := by decide +kernel
theorem dX5_begin_11 : decode cX5_begin 11 = .ok (.return_, 1) := by decide +kernel
set_option maxRecDepth 20000 in
theorem ggX5_tell_X5_refuseOutside : GoodIn wsX5_tell wsX5_refuseOutside := goodIn_ca (goodIn_r _ [10, 11, 12] (by decide +kernel) (by decide +kernel)) (goodIn_sub (fun _ h => List.mem_cons_of_mem _ (List.mem_append_right _ h)) (by decide +kernel))
set_option maxRecDepth 20000 in
theorem gX5_tell_X5_refuseOutside : GoodIn wsX5_tell (va_wsS RX5 36 yX5_refuseOutside wsX5_refuseOutside) := goodIn_app (goodIn_of _ (by decide +kernel)) ggX5_tell_X5_refuseOutside
set_option maxRecDepth 20000 in
theorem ggX5_tell_X5_countMoves : GoodIn wsX5_tell wsX5_countMoves := goodIn_r _ [16, 6, 17, 18, 19, 20, 9, 21, 22, 23, 24, 25, 26, 27, 28, 29, 30, 31, 32, 33, 34, 35, 36, 37, 38, 39, 40, 41, 42, 43, 44, 45] (by decide +kernel) (by decide +kernel)
set_option maxRecDepth 20000 in
theorem gX5_tell_X5_countMoves : GoodIn wsX5_tell (wsV RX5 55 RX5 yX5_countMoves wsX5_countMoves) := goodIn_app (goodIn_of _ (by decide +kernel)) ggX5_tell_X5_countMoves
theorem dX5_tell_0 : decode cX5_tell 0 = .ok (.iload_n 1, 1) := by decide +kernel
theorem dX5_tell_1 : decode cX5_tell 1 = .ok (.iconst 0, 1) := by decide +kernel
theorem dX5_tell_2 : decode cX5_tell 2 = .ok (.iconst 4, 1) := by decide +kernel
theorem dX5_tell_3 : decode cX5_tell 3 = .ok (.invokestatic 36, 3) := by decide +kernel
theorem dX5_tell_6 : decode cX5_tell 6 = .ok (.aload_n 0, 1) := by decide +kernel
theorem dX5_tell_7 : decode cX5_tell 7 = .ok (.getfield 42, 3) := by decide +kernel
theorem dX5_tell_10 : decode cX5_tell 10 = .ok (.iconst (-1), 1) := by decide +kernel
theorem dX5_tell_11 : decode cX5_tell 11 = .ok (.if_icmp .ne 11, 3) := by decide +kernel
theorem dX5_tell_14 : decode cX5_tell 14 = .ok (.aload_n 0, 1) := by decide +kernel
theorem dX5_tell_15 : decode cX5_tell 15 = .ok (.getfield 46, 3) := by decide +kernel
theorem dX5_tell_18 : decode cX5_tell 18 = .ok (.iconst (-1), 1) := by decide +kernel
theorem dX5_tell_19 : decode cX5_tell 19 = .ok (.if_icmp .eq 11, 3) := by decide +kernel
theorem dX5_tell_22 : decode cX5_tell 22 = .ok (.new 49, 3) := by decide +kernel
theorem dX5_tell_25 : decode cX5_tell 25 = .ok (.dup, 1) := by decide +kernel
theorem dX5_tell_26 : decode cX5_tell 26 = .ok (.invokespecial 51, 3) := by decide +kernel
theorem dX5_tell_29 : decode cX5_tell 29 = .ok (.athrow, 1) := by decide +kernel
theorem dX5_tell_30 : decode cX5_tell 30 = .ok (.aload_n 0, 1) := by decide +kernel
theorem dX5_tell_31 : decode cX5_tell 31 = .ok (.dup, 1) := by decide +kernel
theorem dX5_tell_32 : decode cX5_tell 32 = .ok (.getfield 52, 3) := by decide +kernel
theorem dX5_tell_35 : decode cX5_tell 35 = .ok (.iconst 1, 1) := by decide +kernel
theorem dX5_tell_36 : decode cX5_tell 36 = .ok (.iadd, 1) := by decide +kernel
theorem dX5_tell_37 : decode cX5_tell 37 = .ok (.putfield 52, 3) := by decide +kernel
theorem dX5_tell_40 : decode cX5_tell 40 = .ok (.aload_n 0, 1) := by decide +kernel
theorem dX5_tell_41 : decode cX5_tell 41 = .ok (.iload_n 1, 1) := by decide +kernel
theorem dX5_tell_42 : decode cX5_tell 42 = .ok (.invokevirtual 55, 3) := by decide +kernel
theorem dX5_tell_45 : decode cX5_tell 45 = .ok (.istore_n 2, 1) := by decide +kernel
theorem dX5_tell_46 : decode cX5_tell 46 = .ok (.iload_n 2, 1) := by decide +kernel
theorem dX5_tell_47 : decode cX5_tell 47 = .ok (.ifCond .ne 16, 3) := by decide +kernel
theorem dX5_tell_50 : decode cX5_tell 50 = .ok (.aload_n 0, 1) := by decide +kernel
theorem dX5_tell_51 : decode cX5_tell 51 = .ok (.iconst 1, 1) := by decide +kernel
theorem dX5_tell_52 : decode cX5_tell 52 = .ok (.aload_n 0, 1) := by decide +kernel
theorem dX5_tell_53 : decode cX5_tell 53 = .ok (.getfield 59, 3) := by decide +kernel
theorem dX5_tell_56 : decode cX5_tell 56 = .ok (.isub, 1) := by decide +kernel
theorem dX5_tell_57 : decode cX5_tell 57 = .ok (.putfield 59, 3) := by decide +kernel
theorem dX5_tell_60 : decode cX5_tell 60 = .ok (.goto 8, 3) := by decide +kernel
theorem dX5_tell_63 : decode cX5_tell 63 = .ok (.aload_n 0, 1) := by decide +kernel
theorem dX5_tell_64 : decode cX5_tell 64 = .ok (.iload_n 1, 1) := by decide +kernel
theorem dX5_tell_65 : decode cX5_tell 65 = .ok (.putfield 46, 3) := by decide +kernel
theorem dX5_tell_68 : decode cX5_tell 68 = .ok (.iload_n 2, 1) := by decide +kernel
theorem dX5_tell_69 : decode cX5_tell 69 = .ok (.ireturn, 1) := by decide +kernel
set_option maxRecDepth 20000 in
theorem ggX5_move_X5_refuseOutside : GoodIn wsX5_move wsX5_refuseOutside := goodIn_ca (goodIn_r _ [11, 12, 13] (by decide +kernel) (by decide +kernel)) (goodIn_sub (fun _ h => List.mem_cons_of_mem _ (List.mem_append_right _ h)) (by decide +kernel))
set_option maxRecDepth 20000 in
theorem gX5_move_X5_refuseOutside : GoodIn wsX5_move (va_wsS RX5 36 yX5_refuseOutside wsX5_refuseOutside) := goodIn_app (goodIn_of _ (by decide +kernel)) ggX5_move_X5_refuseOutside
set_option maxRecDepth 20000 in
theorem ggX5_move_X5_canMoveFrom : GoodIn wsX5_move wsX5_canMoveFrom := goodIn_r _ [17, 4, 5, 3, 18, 19, 20, 10, 21, 22, 23, 24, 25, 26, 27, 28, 29, 30, 31, 32, 33, 34, 51, 52, 53, 54, 55, 56, 57, 58, 59, 60, 61] (by decide +kernel) (by decide +kernel)
set_option maxRecDepth 20000 in
theorem gX5_move_X5_canMoveFrom : GoodIn wsX5_move (wsV RX5 62 RX5 yX5_canMoveFrom wsX5_canMoveFrom) := goodIn_app (goodIn_of _ (by decide +kernel)) ggX5_move_X5_canMoveFrom
set_option maxRecDepth 20000 in
theorem ggX5_move_X5_sideOf : GoodIn wsX5_move wsX5_sideOf := goodIn_r _ [21, 22, 23, 51, 52, 53, 54, 55, 56, 57, 58, 59] (by decide +kernel) (by decide +kernel)
set_option maxRecDepth 20000 in
theorem gX5_move_X5_sideOf : GoodIn wsX5_move (wsV RX5 66 RX5 yX5_sideOf wsX5_sideOf) := goodIn_app (goodIn_of _ (by decide +kernel)) ggX5_move_X5_sideOf
set_option maxRecDepth 20000 in
theorem ggX5_move_X2_shifted : GoodIn wsX5_move wsX2_shifted := goodIn_r _ [37] (by decide +kernel) (by decide +kernel)
set_option maxRecDepth 20000 in
theorem gX5_move_X2_shifted : GoodIn wsX5_move (va_wsS RX5 74 yX2_shifted wsX2_shifted) := goodIn_app (goodIn_of _ (by decide +kernel)) ggX5_move_X2_shifted
set_option maxRecDepth 20000 in
theorem ggX5_move_X2_canBeTaken : GoodIn wsX5_move wsX2_canBeTaken := goodIn_r _ [40, 41, 42, 33, 43, 28, 29, 26, 30] (by decide +kernel) (by decide +kernel)
set_option maxRecDepth 20000 in
theorem gX5_move_X2_canBeTaken : GoodIn wsX5_move (va_wsS RX5 80 yX2_canBeTaken wsX2_canBeTaken) := goodIn_app (goodIn_of _ (by decide +kernel)) ggX5_move_X2_canBeTaken
set_option maxRecDepth 20000 in
theorem ggX5_move_X2_isAllHome : GoodIn wsX5_move wsX2_isAllHome := goodIn_r _ [46, 47] (by decide +kernel) (by decide +kernel)
set_option maxRecDepth 20000 in
theorem gX5_move_X2_isAllHome : GoodIn wsX5_move (va_wsS RX5 87 yX2_isAllHome wsX2_isAllHome) := goodIn_app (goodIn_of _ (by decide +kernel)) ggX5_move_X2_isAllHome
set_option maxRecDepth 20000 in
theorem ggX5_move_X4_isRosette : GoodIn wsX5_move wsX4_isRosette := goodIn_r _ [50] (by decide +kernel) (by decide +kernel)
set_option maxRecDepth 20000 in
theorem gX5_move_X4_isRosette : GoodIn wsX5_move (va_wsS RX5 91 yX4_isRosette wsX4_isRosette) := goodIn_app (goodIn_of _ (by decide +kernel)) ggX5_move_X4_isRosette
theorem dX5_move_0 : decode cX5_move 0 = .ok (.iload_n 1, 1) := by decide +kernel
theorem dX5_move_1 : decode cX5_move 1 = .ok (.iconst 0, 1) := by decide +kernel
theorem dX5_move_2 : decode cX5_move 2 = .ok (.bipush 14, 2) := by decide +kernel
theorem dX5_move_4 : decode cX5_move 4 = .ok (.invokestatic 36, 3) := by decide +kernel
theorem dX5_move_7 : decode cX5_move 7 = .ok (.aload_n 0, 1) := by decide +kernel
theorem dX5_move_8 : decode cX5_move 8 = .ok (.iload_n 1, 1) := by decide +kernel
theorem dX5_move_9 : decode cX5_move 9 = .ok (.invokevirtual 62, 3) := by decide +kernel
theorem dX5_move_12 : decode cX5_move 12 = .ok (.ifCond .ne 11, 3) := by decide +kernel
theorem dX5_move_15 : decode cX5_move 15 = .ok (.new 49, 3) := by decide +kernel
theorem dX5_move_18 : decode cX5_move 18 = .ok (.dup, 1) := by decide +kernel
theorem dX5_move_19 : decode cX5_move 19 = .ok (.invokespecial 51, 3) := by decide +kernel
theorem dX5_move_22 : decode cX5_move 22 = .ok (.athrow, 1) := by decide +kernel
theorem dX5_move_23 : decode cX5_move 23 = .ok (.iload_n 1, 1) := by decide +kernel
theorem dX5_move_24 : decode cX5_move 24 = .ok (.aload_n 0, 1) := by decide +kernel
theorem dX5_move_25 : decode cX5_move 25 = .ok (.getfield 46, 3) := by decide +kernel
theorem dX5_move_28 : decode cX5_move 28 = .ok (.iadd, 1) := by decide +kernel
theorem dX5_move_29 : decode cX5_move 29 = .ok (.istore_n 2, 1) := by decide +kernel
theorem dX5_move_30 : decode cX5_move 30 = .ok (.aload_n 0, 1) := by decide +kernel
theorem dX5_move_31 : decode cX5_move 31 = .ok (.aload_n 0, 1) := by decide +kernel
theorem dX5_move_32 : decode cX5_move 32 = .ok (.getfield 59, 3) := by decide +kernel
theorem dX5_move_35 : decode cX5_move 35 = .ok (.invokevirtual 66, 3) := by decide +kernel
theorem dX5_move_38 : decode cX5_move 38 = .ok (.astore_n 3, 1) := by decide +kernel
theorem dX5_move_39 : decode cX5_move 39 = .ok (.aload_n 0, 1) := by decide +kernel
theorem dX5_move_40 : decode cX5_move 40 = .ok (.iconst 1, 1) := by decide +kernel
theorem dX5_move_41 : decode cX5_move 41 = .ok (.aload_n 0, 1) := by decide +kernel
theorem dX5_move_42 : decode cX5_move 42 = .ok (.getfield 59, 3) := by decide +kernel
theorem dX5_move_45 : decode cX5_move 45 = .ok (.isub, 1) := by decide +kernel
theorem dX5_move_46 : decode cX5_move 46 = .ok (.invokevirtual 66, 3) := by decide +kernel
theorem dX5_move_49 : decode cX5_move 49 = .ok (.astore 4, 2) := by decide +kernel
theorem dX5_move_51 : decode cX5_move 51 = .ok (.aload_n 3, 1) := by decide +kernel
theorem dX5_move_52 : decode cX5_move 52 = .ok (.aload_n 3, 1) := by decide +kernel
theorem dX5_move_53 : decode cX5_move 53 = .ok (.getfield 70, 3) := by decide +kernel
theorem dX5_move_56 : decode cX5_move 56 = .ok (.iload_n 1, 1) := by decide +kernel
theorem dX5_move_57 : decode cX5_move 57 = .ok (.iload_n 2, 1) := by decide +kernel
theorem dX5_move_58 : decode cX5_move 58 = .ok (.invokestatic 74, 3) := by decide +kernel
theorem dX5_move_61 : decode cX5_move 61 = .ok (.putfield 70, 3) := by decide +kernel
theorem dX5_move_64 : decode cX5_move 64 = .ok (.aload 4, 2) := by decide +kernel
theorem dX5_move_66 : decode cX5_move 66 = .ok (.getfield 70, 3) := by decide +kernel
theorem dX5_move_69 : decode cX5_move 69 = .ok (.iload_n 2, 1) := by decide +kernel
theorem dX5_move_70 : decode cX5_move 70 = .ok (.invokestatic 80, 3) := by decide +kernel
theorem dX5_move_73 : decode cX5_move 73 = .ok (.ifCond .eq 29, 3) := by decide +kernel
theorem dX5_move_76 : decode cX5_move 76 = .ok (.aload 4, 2) := by decide +kernel
theorem dX5_move_78 : decode cX5_move 78 = .ok (.aload 4, 2) := by decide +kernel
theorem dX5_move_80 : decode cX5_move 80 = .ok (.getfield 70, 3) := by decide +kernel
theorem dX5_move_83 : decode cX5_move 83 = .ok (.iload_n 2, 1) := by decide +kernel
theorem dX5_move_84 : decode cX5_move 84 = .ok (.iconst 0, 1) := by decide +kernel
theorem dX5_move_85 : decode cX5_move 85 = .ok (.invokestatic 74, 3) := by decide +kernel
theorem dX5_move_88 : decode cX5_move 88 = .ok (.putfield 70, 3) := by decide +kernel
theorem dX5_move_91 : decode cX5_move 91 = .ok (.aload 4, 2) := by decide +kernel
theorem dX5_move_93 : decode cX5_move 93 = .ok (.dup, 1) := by decide +kernel
theorem dX5_move_94 : decode cX5_move 94 = .ok (.getfield 84, 3) := by decide +kernel
theorem dX5_move_97 : decode cX5_move 97 = .ok (.iconst 1, 1) := by decide +kernel
theorem dX5_move_98 : decode cX5_move 98 = .ok (.iadd, 1) := by decide +kernel
theorem dX5_move_99 : decode cX5_move 99 = .ok (.putfield 84, 3) := by decide +kernel
theorem dX5_move_102 : decode cX5_move 102 = .ok (.aload_n 3, 1) := by decide +kernel
theorem dX5_move_103 : decode cX5_move 103 = .ok (.getfield 70, 3) := by decide +kernel
theorem dX5_move_106 : decode cX5_move 106 = .ok (.invokestatic 87, 3) := by decide +kernel
theorem dX5_move_109 : decode cX5_move 109 = .ok (.ifCond .eq 11, 3) := by decide +kernel
theorem dX5_move_112 : decode cX5_move 112 = .ok (.aload_n 0, 1) := by decide +kernel
theorem dX5_move_113 : decode cX5_move 113 = .ok (.aload_n 0, 1) := by decide +kernel
theorem dX5_move_114 : decode cX5_move 114 = .ok (.getfield 59, 3) := by decide +kernel
theorem dX5_move_117 : decode cX5_move 117 = .ok (.putfield 42, 3) := by decide +kernel
theorem dX5_move_120 : decode cX5_move 120 = .ok (.iload_n 2, 1) := by decide +kernel
theorem dX5_move_121 : decode cX5_move 121 = .ok (.invokestatic 91, 3) := by decide +kernel
theorem dX5_move_124 : decode cX5_move 124 = .ok (.ifCond .ne 13, 3) := by decide +kernel
theorem dX5_move_127 : decode cX5_move 127 = .ok (.aload_n 0, 1) := by decide +kernel
theorem dX5_move_128 : decode cX5_move 128 = .ok (.iconst 1, 1) := by decide +kernel
theorem dX5_move_129 : decode cX5_move 129 = .ok (.aload_n 0, 1) := by decide +kernel
theorem dX5_move_130 : decode cX5_move 130 = .ok (.getfield 59, 3) := by decide +kernel
theorem dX5_move_133 : decode cX5_move 133 = .ok (.isub, 1) := by decide +kernel
theorem dX5_move_134 : decode cX5_move 134 = .ok (.putfield 59, 3) := by decide +kernel
theorem dX5_move_137 : decode cX5_move 137 = .ok (.aload_n 0, 1) := by decide +kernel
theorem dX5_move_138 : decode cX5_move 138 = .ok (.iconst (-1), 1) := by decide +kernel
theorem dX5_move_139 : decode cX5_move 139 = .ok (.putfield 46, 3) := by decide +kernel
theorem dX5_move_142 : decode cX5_move 142 = .ok (.iload_n 2, 1) := by decide +kernel
theorem dX5_move_143 : decode cX5_move 143 = .ok (.ireturn, 1) := by decide +kernel
theorem dX5_turn_0 : decode cX5_turn 0 = .ok (.aload_n 0, 1) := by decide +kernel
theorem dX5_turn_1 : decode cX5_turn 1 = .ok (.getfield 59, 3) := by decide +kernel
theorem dX5_turn_4 : decode cX5_turn 4 = .ok (.ireturn, 1) := by decide +kernel
theorem dX5_marks_0 : decode cX5_marks 0 = .ok (.aload_n 0, 1) := by decide +kernel
theorem dX5_marks_1 : decode cX5_marks 1 = .ok (.getfield 46, 3) := by decide +kernel
theorem dX5_marks_4 : decode cX5_marks 4 = .ok (.ireturn, 1) := by decide +kernel
theorem dX5_winner_0 : decode cX5_winner 0 = .ok (.aload_n 0, 1) := by decide +kernel
theorem dX5_winner_1 : decode cX5_winner 1 = .ok (.getfield 42, 3) := by decide +kernel
theorem dX5_winner_4 : decode cX5_winner 4 = .ok (.ireturn, 1) := by decide +kernel
set_option maxRecDepth 20000 in
theorem ggX5_at_X5_refuseOutside : GoodIn wsX5_at wsX5_refuseOutside := goodIn_ca (goodIn_r _ [5, 6, 7] (by decide +kernel) (by decide +kernel)) (goodIn_sub (fun _ h => List.mem_cons_of_mem _ (List.mem_append_right _ h)) (by decide +kernel))
set_option maxRecDepth 20000 in
theorem gX5_at_X5_refuseOutside : GoodIn wsX5_at (va_wsS RX5 36 yX5_refuseOutside wsX5_refuseOutside) := goodIn_app (goodIn_of _ (by decide +kernel)) ggX5_at_X5_refuseOutside
set_option maxRecDepth 20000 in
theorem ggX5_at_X5_sideOf : GoodIn wsX5_at wsX5_sideOf := goodIn_r _ [11, 12, 13, 20, 21, 22, 23, 24, 25, 26, 27, 28] (by decide +kernel) (by decide +kernel)
set_option maxRecDepth 20000 in
theorem gX5_at_X5_sideOf : GoodIn wsX5_at (wsV RX5 66 RX5 yX5_sideOf wsX5_sideOf) := goodIn_app (goodIn_of _ (by decide +kernel)) ggX5_at_X5_sideOf
set_option maxRecDepth 20000 in
theorem ggX5_at_X2_countAt : GoodIn wsX5_at wsX2_countAt := goodIn_r _ [17] (by decide +kernel) (by decide +kernel)
set_option maxRecDepth 20000 in
theorem gX5_at_X2_countAt : GoodIn wsX5_at (va_wsS RX5 94 yX2_countAt wsX2_countAt) := goodIn_app (goodIn_of _ (by decide +kernel)) ggX5_at_X2_countAt
theorem dX5_at_0 : decode cX5_at 0 = .ok (.iload_n 1, 1) := by decide +kernel
theorem dX5_at_1 : decode cX5_at 1 = .ok (.iconst 0, 1) := by decide +kernel
theorem dX5_at_2 : decode cX5_at 2 = .ok (.iconst 1, 1) := by decide +kernel
theorem dX5_at_3 : decode cX5_at 3 = .ok (.invokestatic 36, 3) := by decide +kernel
theorem dX5_at_6 : decode cX5_at 6 = .ok (.iload_n 2, 1) := by decide +kernel
theorem dX5_at_7 : decode cX5_at 7 = .ok (.iconst 0, 1) := by decide +kernel
theorem dX5_at_8 : decode cX5_at 8 = .ok (.bipush 15, 2) := by decide +kernel
theorem dX5_at_10 : decode cX5_at 10 = .ok (.invokestatic 36, 3) := by decide +kernel
theorem dX5_at_13 : decode cX5_at 13 = .ok (.aload_n 0, 1) := by decide +kernel
theorem dX5_at_14 : decode cX5_at 14 = .ok (.iload_n 1, 1) := by decide +kernel
theorem dX5_at_15 : decode cX5_at 15 = .ok (.invokevirtual 66, 3) := by decide +kernel
theorem dX5_at_18 : decode cX5_at 18 = .ok (.getfield 70, 3) := by decide +kernel
theorem dX5_at_21 : decode cX5_at 21 = .ok (.iload_n 2, 1) := by decide +kernel
theorem dX5_at_22 : decode cX5_at 22 = .ok (.invokestatic 94, 3) := by decide +kernel
theorem dX5_at_25 : decode cX5_at 25 = .ok (.ireturn, 1) := by decide +kernel
set_option maxRecDepth 20000 in
theorem ggX5_progress_X5_refuseOutside : GoodIn wsX5_progress wsX5_refuseOutside := goodIn_ca (goodIn_r _ [5, 6, 7] (by decide +kernel) (by decide +kernel)) (goodIn_sub (fun _ h => List.mem_cons_of_mem _ (List.mem_append_right _ h)) (by decide +kernel))
set_option maxRecDepth 20000 in
theorem gX5_progress_X5_refuseOutside : GoodIn wsX5_progress (va_wsS RX5 36 yX5_refuseOutside wsX5_refuseOutside) := goodIn_app (goodIn_of _ (by decide +kernel)) ggX5_progress_X5_refuseOutside
set_option maxRecDepth 20000 in
theorem ggX5_progress_X5_sideOf : GoodIn wsX5_progress wsX5_sideOf := goodIn_r _ [11, 12, 13, 23, 24, 25, 26, 27, 28, 29, 30, 31] (by decide +kernel) (by decide +kernel)
set_option maxRecDepth 20000 in
theorem gX5_progress_X5_sideOf : GoodIn wsX5_progress (wsV RX5 66 RX5 yX5_sideOf wsX5_sideOf) := goodIn_app (goodIn_of _ (by decide +kernel)) ggX5_progress_X5_sideOf
set_option maxRecDepth 20000 in
theorem ggX5_progress_X2_sumOfPlaces : GoodIn wsX5_progress wsX2_sumOfPlaces := goodIn_r _ [17, 18, 19, 16, 20] (by decide +kernel) (by decide +kernel)
set_option maxRecDepth 20000 in
theorem gX5_progress_X2_sumOfPlaces : GoodIn wsX5_progress (va_wsS RX5 98 yX2_sumOfPlaces wsX2_sumOfPlaces) := goodIn_app (goodIn_of _ (by decide +kernel)) ggX5_progress_X2_sumOfPlaces
theorem dX5_progress_0 : decode cX5_progress 0 = .ok (.iload_n 1, 1) := by decide +kernel
theorem dX5_progress_1 : decode cX5_progress 1 = .ok (.iconst 0, 1) := by decide +kernel
theorem dX5_progress_2 : decode cX5_progress 2 = .ok (.iconst 1, 1) := by decide +kernel
theorem dX5_progress_3 : decode cX5_progress 3 = .ok (.invokestatic 36, 3) := by decide +kernel
theorem dX5_progress_6 : decode cX5_progress 6 = .ok (.aload_n 0, 1) := by decide +kernel
theorem dX5_progress_7 : decode cX5_progress 7 = .ok (.iload_n 1, 1) := by decide +kernel
theorem dX5_progress_8 : decode cX5_progress 8 = .ok (.invokevirtual 66, 3) := by decide +kernel
theorem dX5_progress_11 : decode cX5_progress 11 = .ok (.getfield 70, 3) := by decide +kernel
theorem dX5_progress_14 : decode cX5_progress 14 = .ok (.invokestatic 98, 3) := by decide +kernel
theorem dX5_progress_17 : decode cX5_progress 17 = .ok (.ireturn, 1) := by decide +kernel
set_option maxRecDepth 20000 in
theorem ggX5_captured_X5_refuseOutside : GoodIn wsX5_captured wsX5_refuseOutside := goodIn_ca (goodIn_r _ [5, 6, 7] (by decide +kernel) (by decide +kernel)) (goodIn_sub (fun _ h => List.mem_cons_of_mem _ (List.mem_append_right _ h)) (by decide +kernel))
set_option maxRecDepth 20000 in
theorem gX5_captured_X5_refuseOutside : GoodIn wsX5_captured (va_wsS RX5 36 yX5_refuseOutside wsX5_refuseOutside) := goodIn_app (goodIn_of _ (by decide +kernel)) ggX5_captured_X5_refuseOutside
set_option maxRecDepth 20000 in
theorem ggX5_captured_X5_sideOf : GoodIn wsX5_captured wsX5_sideOf := goodIn_r _ [11, 12, 13, 16, 17, 18, 19, 20, 21, 22, 23, 24] (by decide +kernel) (by decide +kernel)
set_option maxRecDepth 20000 in
theorem gX5_captured_X5_sideOf : GoodIn wsX5_captured (wsV RX5 66 RX5 yX5_sideOf wsX5_sideOf) := goodIn_app (goodIn_of _ (by decide +kernel)) ggX5_captured_X5_sideOf
theorem dX5_captured_0 : decode cX5_captured 0 = .ok (.iload_n 1, 1) := by decide +kernel
theorem dX5_captured_1 : decode cX5_captured 1 = .ok (.iconst 0, 1) := by decide +kernel
theorem dX5_captured_2 : decode cX5_captured 2 = .ok (.iconst 1, 1) := by decide +kernel
theorem dX5_captured_3 : decode cX5_captured 3 = .ok (.invokestatic 36, 3) := by decide +kernel
theorem dX5_captured_6 : decode cX5_captured 6 = .ok (.aload_n 0, 1) := by decide +kernel
theorem dX5_captured_7 : decode cX5_captured 7 = .ok (.iload_n 1, 1) := by decide +kernel
theorem dX5_captured_8 : decode cX5_captured 8 = .ok (.invokevirtual 66, 3) := by decide +kernel
theorem dX5_captured_11 : decode cX5_captured 11 = .ok (.getfield 84, 3) := by decide +kernel
theorem dX5_captured_14 : decode cX5_captured 14 = .ok (.ireturn, 1) := by decide +kernel
theorem dX5_throwsTold_0 : decode cX5_throwsTold 0 = .ok (.aload_n 0, 1) := by decide +kernel
theorem dX5_throwsTold_1 : decode cX5_throwsTold 1 = .ok (.getfield 52, 3) := by decide +kernel
theorem dX5_throwsTold_4 : decode cX5_throwsTold 4 = .ok (.ireturn, 1) := by decide +kernel
set_option maxRecDepth 20000 in
theorem ggX5_moves_X5_countMoves : GoodIn wsX5_moves wsX5_countMoves := goodIn_r _ [6, 7, 8, 9, 10, 11, 5, 12, 13, 14, 15, 16, 17, 18, 19, 20, 21, 22, 23, 24, 25, 26, 27, 28, 29, 30, 31, 32, 33, 34, 35, 36] (by decide +kernel) (by decide +kernel)
set_option maxRecDepth 20000 in
theorem gX5_moves_X5_countMoves : GoodIn wsX5_moves (wsV RX5 55 RX5 yX5_countMoves wsX5_countMoves) := goodIn_app (goodIn_of _ (by decide +kernel)) ggX5_moves_X5_countMoves
theorem dX5_moves_0 : decode cX5_moves 0 = .ok (.aload_n 0, 1) := by decide +kernel
theorem dX5_moves_1 : decode cX5_moves 1 = .ok (.aload_n 0, 1) := by decide +kernel
theorem dX5_moves_2 : decode cX5_moves 2 = .ok (.getfield 46, 3) := by decide +kernel
theorem dX5_moves_5 : decode cX5_moves 5 = .ok (.invokevirtual 55, 3) := by decide +kernel
theorem dX5_moves_8 : decode cX5_moves 8 = .ok (.ireturn, 1) := by decide +kernel
set_option maxRecDepth 20000 in
theorem ggX5_moveAt_X5_canMoveFrom : GoodIn wsX5_moveAt wsX5_canMoveFrom := goodIn_r _ [5, 6, 7, 8, 9, 10, 11, 4, 12, 13, 14, 15, 16, 17, 18, 19, 20, 21, 22, 23, 24, 25, 26, 27, 28, 29, 30, 31, 32, 33, 34, 35, 36] (by decide +kernel) (by decide +kernel)
set_option maxRecDepth 20000 in
theorem gX5_moveAt_X5_canMoveFrom : GoodIn wsX5_moveAt (wsV RX5 62 RX5 yX5_canMoveFrom wsX5_canMoveFrom) := goodIn_app (goodIn_of _ (by decide +kernel)) ggX5_moveAt_X5_canMoveFrom
theorem dX5_moveAt_0 : decode cX5_moveAt 0 = .ok (.iconst 0, 1) := by decide +kernel
theorem dX5_moveAt_1 : decode cX5_moveAt 1 = .ok (.istore_n 2, 1) := by decide +kernel
theorem dX5_moveAt_2 : decode cX5_moveAt 2 = .ok (.iconst 0, 1) := by decide +kernel
theorem dX5_moveAt_3 : decode cX5_moveAt 3 = .ok (.istore_n 3, 1) := by decide +kernel
theorem dX5_moveAt_4 : decode cX5_moveAt 4 = .ok (.iload_n 3, 1) := by decide +kernel
theorem dX5_moveAt_5 : decode cX5_moveAt 5 = .ok (.bipush 14, 2) := by decide +kernel
theorem dX5_moveAt_7 : decode cX5_moveAt 7 = .ok (.if_icmp .gt 27, 3) := by decide +kernel
theorem dX5_moveAt_10 : decode cX5_moveAt 10 = .ok (.aload_n 0, 1) := by decide +kernel
theorem dX5_moveAt_11 : decode cX5_moveAt 11 = .ok (.iload_n 3, 1) := by decide +kernel
theorem dX5_moveAt_12 : decode cX5_moveAt 12 = .ok (.invokevirtual 62, 3) := by decide +kernel
theorem dX5_moveAt_15 : decode cX5_moveAt 15 = .ok (.ifCond .eq 13, 3) := by decide +kernel
theorem dX5_moveAt_18 : decode cX5_moveAt 18 = .ok (.iload_n 2, 1) := by decide +kernel
theorem dX5_moveAt_19 : decode cX5_moveAt 19 = .ok (.iload_n 1, 1) := by decide +kernel
theorem dX5_moveAt_20 : decode cX5_moveAt 20 = .ok (.if_icmp .ne 5, 3) := by decide +kernel
theorem dX5_moveAt_23 : decode cX5_moveAt 23 = .ok (.iload_n 3, 1) := by decide +kernel
theorem dX5_moveAt_24 : decode cX5_moveAt 24 = .ok (.ireturn, 1) := by decide +kernel
theorem dX5_moveAt_25 : decode cX5_moveAt 25 = .ok (.iinc 2 1, 3) := by decide +kernel
theorem dX5_moveAt_28 : decode cX5_moveAt 28 = .ok (.iinc 3 1, 3) := by decide +kernel
theorem dX5_moveAt_31 : decode cX5_moveAt 31 = .ok (.goto (-27), 3) := by decide +kernel
theorem dX5_moveAt_34 : decode cX5_moveAt 34 = .ok (.iconst (-1), 1) := by decide +kernel
theorem dX5_moveAt_35 : decode cX5_moveAt 35 = .ok (.ireturn, 1) := by decide +kernel
set_option maxRecDepth 20000 in
theorem ggX5_captures_X5_refuseOutside : GoodIn wsX5_captures wsX5_refuseOutside := goodIn_ca (goodIn_r _ [7, 8, 9] (by decide +kernel) (by decide +kernel)) (goodIn_sub (fun _ h => List.mem_cons_of_mem _ (List.mem_append_right _ h)) (by decide +kernel))
set_option maxRecDepth 20000 in
theorem gX5_captures_X5_refuseOutside : GoodIn wsX5_captures (va_wsS RX5 36 yX5_refuseOutside wsX5_refuseOutside) := goodIn_app (goodIn_of _ (by decide +kernel)) ggX5_captures_X5_refuseOutside
set_option maxRecDepth 20000 in
theorem ggX5_captures_X5_canMoveFrom : GoodIn wsX5_captures wsX5_canMoveFrom := goodIn_r _ [13, 1, 2, 3, 14, 15, 16, 6, 17, 18, 19, 20, 21, 22, 23, 24, 25, 26, 27, 28, 29, 30, 37, 38, 39, 40, 41, 42, 43, 44, 45, 46, 47] (by decide +kernel) (by decide +kernel)
set_option maxRecDepth 20000 in
theorem gX5_captures_X5_canMoveFrom : GoodIn wsX5_captures (wsV RX5 62 RX5 yX5_canMoveFrom wsX5_canMoveFrom) := goodIn_app (goodIn_of _ (by decide +kernel)) ggX5_captures_X5_canMoveFrom
set_option maxRecDepth 20000 in
theorem ggX5_captures_X5_sideOf : GoodIn wsX5_captures wsX5_sideOf := goodIn_r _ [17, 18, 19, 37, 38, 39, 40, 41, 42, 43, 44, 45] (by decide +kernel) (by decide +kernel)
set_option maxRecDepth 20000 in
theorem gX5_captures_X5_sideOf : GoodIn wsX5_captures (wsV RX5 66 RX5 yX5_sideOf wsX5_sideOf) := goodIn_app (goodIn_of _ (by decide +kernel)) ggX5_captures_X5_sideOf
set_option maxRecDepth 20000 in
theorem ggX5_captures_X2_canBeTaken : GoodIn wsX5_captures wsX2_canBeTaken := goodIn_r _ [33, 34, 35, 29, 36, 24, 25, 22, 26] (by decide +kernel) (by decide +kernel)
set_option maxRecDepth 20000 in
theorem gX5_captures_X2_canBeTaken : GoodIn wsX5_captures (va_wsS RX5 80 yX2_canBeTaken wsX2_canBeTaken) := goodIn_app (goodIn_of _ (by decide +kernel)) ggX5_captures_X2_canBeTaken
theorem dX5_captures_0 : decode cX5_captures 0 = .ok (.iload_n 1, 1) := by decide +kernel
theorem dX5_captures_1 : decode cX5_captures 1 = .ok (.iconst 0, 1) := by decide +kernel
theorem dX5_captures_2 : decode cX5_captures 2 = .ok (.bipush 14, 2) := by decide +kernel
theorem dX5_captures_4 : decode cX5_captures 4 = .ok (.invokestatic 36, 3) := by decide +kernel
theorem dX5_captures_7 : decode cX5_captures 7 = .ok (.aload_n 0, 1) := by decide +kernel
theorem dX5_captures_8 : decode cX5_captures 8 = .ok (.iload_n 1, 1) := by decide +kernel
theorem dX5_captures_9 : decode cX5_captures 9 = .ok (.invokevirtual 62, 3) := by decide +kernel
theorem dX5_captures_12 : decode cX5_captures 12 = .ok (.ifCond .eq 32, 3) := by decide +kernel
theorem dX5_captures_15 : decode cX5_captures 15 = .ok (.aload_n 0, 1) := by decide +kernel
theorem dX5_captures_16 : decode cX5_captures 16 = .ok (.iconst 1, 1) := by decide +kernel
theorem dX5_captures_17 : decode cX5_captures 17 = .ok (.aload_n 0, 1) := by decide +kernel
theorem dX5_captures_18 : decode cX5_captures 18 = .ok (.getfield 59, 3) := by decide +kernel
theorem dX5_captures_21 : decode cX5_captures 21 = .ok (.isub, 1) := by decide +kernel
theorem dX5_captures_22 : decode cX5_captures 22 = .ok (.invokevirtual 66, 3) := by decide +kernel
theorem dX5_captures_25 : decode cX5_captures 25 = .ok (.getfield 70, 3) := by decide +kernel
theorem dX5_captures_28 : decode cX5_captures 28 = .ok (.iload_n 1, 1) := by decide +kernel
theorem dX5_captures_29 : decode cX5_captures 29 = .ok (.aload_n 0, 1) := by decide +kernel
theorem dX5_captures_30 : decode cX5_captures 30 = .ok (.getfield 46, 3) := by decide +kernel
theorem dX5_captures_33 : decode cX5_captures 33 = .ok (.iadd, 1) := by decide +kernel
theorem dX5_captures_34 : decode cX5_captures 34 = .ok (.invokestatic 80, 3) := by decide +kernel
theorem dX5_captures_37 : decode cX5_captures 37 = .ok (.ifCond .eq 7, 3) := by decide +kernel
theorem dX5_captures_40 : decode cX5_captures 40 = .ok (.iconst 1, 1) := by decide +kernel
theorem dX5_captures_41 : decode cX5_captures 41 = .ok (.goto 4, 3) := by decide +kernel
theorem dX5_captures_44 : decode cX5_captures 44 = .ok (.iconst 0, 1) := by decide +kernel
theorem dX5_captures_45 : decode cX5_captures 45 = .ok (.ireturn, 1) := by decide +kernel
set_option maxRecDepth 20000 in
theorem ggX5_worth_X5_refuseOutside : GoodIn wsX5_worth wsX5_refuseOutside := goodIn_ca (goodIn_r _ [6, 7, 8] (by decide +kernel) (by decide +kernel)) (goodIn_sub (fun _ h => List.mem_cons_of_mem _ (List.mem_append_right _ h)) (by decide +kernel))
set_option maxRecDepth 20000 in
theorem gX5_worth_X5_refuseOutside : GoodIn wsX5_worth (va_wsS RX5 36 yX5_refuseOutside wsX5_refuseOutside) := goodIn_app (goodIn_of _ (by decide +kernel)) ggX5_worth_X5_refuseOutside
set_option maxRecDepth 20000 in
theorem ggX5_worth_X5_worthForTurn : GoodIn wsX5_worth wsX5_worthForTurn := goodIn_r _ [12, 13, 1, 2, 14, 15, 16, 17, 18, 19, 20, 21, 22, 23, 24, 25, 26, 27, 28, 29, 30, 31, 32, 33, 34, 35, 36, 37, 38, 39, 40, 41, 42, 43, 44, 45, 46, 47, 48, 49, 50, 51, 52, 53, 54, 55, 56, 57, 58, 59, 60, 61, 62, 63, 64, 5, 65, 66, 67, 68, 69, 70, 71, 72, 73, 74, 75, 76, 77, 78, 79, 80, 81, 82, 83, 84, 85, 86, 87, 88, 89, 90, 91, 92, 93, 94, 95, 96, 97, 98, 99, 100, 101, 102, 103, 104, 105, 106, 107, 108, 109, 110, 111, 112, 113, 114, 115, 116, 117, 118, 119, 120, 121, 122, 123, 124, 125, 126, 127, 128, 129, 130, 131, 132, 133, 134, 135, 136, 137, 138] (by decide +kernel) (by decide +kernel)
set_option maxRecDepth 20000 in
theorem gX5_worth_X5_worthForTurn : GoodIn wsX5_worth (wsV RX5 102 RX5 yX5_worthForTurn wsX5_worthForTurn) := goodIn_app (goodIn_of _ (by decide +kernel)) ggX5_worth_X5_worthForTurn
theorem dX5_worth_0 : decode cX5_worth 0 = .ok (.iload_n 1, 1) := by decide +kernel
theorem dX5_worth_1 : decode cX5_worth 1 = .ok (.iconst 0, 1) := by decide +kernel
theorem dX5_worth_2 : decode cX5_worth 2 = .ok (.iconst 3, 1) := by decide +kernel
theorem dX5_worth_3 : decode cX5_worth 3 = .ok (.invokestatic 36, 3) := by decide +kernel
theorem dX5_worth_6 : decode cX5_worth 6 = .ok (.aload_n 0, 1) := by decide +kernel
theorem dX5_worth_7 : decode cX5_worth 7 = .ok (.iload_n 1, 1) := by decide +kernel
theorem dX5_worth_8 : decode cX5_worth 8 = .ok (.invokevirtual 102, 3) := by decide +kernel
theorem dX5_worth_11 : decode cX5_worth 11 = .ok (.istore_n 2, 1) := by decide +kernel
theorem dX5_worth_12 : decode cX5_worth 12 = .ok (.aload_n 0, 1) := by decide +kernel
theorem dX5_worth_13 : decode cX5_worth 13 = .ok (.getfield 59, 3) := by decide +kernel
theorem dX5_worth_16 : decode cX5_worth 16 = .ok (.ifCond .ne 7, 3) := by decide +kernel
theorem dX5_worth_19 : decode cX5_worth 19 = .ok (.iload_n 2, 1) := by decide +kernel
theorem dX5_worth_20 : decode cX5_worth 20 = .ok (.goto 7, 3) := by decide +kernel
theorem dX5_worth_23 : decode cX5_worth 23 = .ok (.ldc 105, 2) := by decide +kernel
theorem dX5_worth_25 : decode cX5_worth 25 = .ok (.iload_n 2, 1) := by decide +kernel
theorem dX5_worth_26 : decode cX5_worth 26 = .ok (.isub, 1) := by decide +kernel
theorem dX5_worth_27 : decode cX5_worth 27 = .ok (.ireturn, 1) := by decide +kernel
set_option maxRecDepth 20000 in
theorem ggX5_chance_X5_refuseOutside : GoodIn wsX5_chance wsX5_refuseOutside := goodIn_ca (goodIn_r _ [5, 6, 7] (by decide +kernel) (by decide +kernel)) (goodIn_sub (fun _ h => List.mem_cons_of_mem _ (List.mem_append_right _ h)) (by decide +kernel))
set_option maxRecDepth 20000 in
theorem gX5_chance_X5_refuseOutside : GoodIn wsX5_chance (va_wsS RX5 36 yX5_refuseOutside wsX5_refuseOutside) := goodIn_app (goodIn_of _ (by decide +kernel)) ggX5_chance_X5_refuseOutside
set_option maxRecDepth 20000 in
theorem ggX5_chance_X5_worthForTurn : GoodIn wsX5_chance wsX5_worthForTurn := goodIn_r _ [11, 12, 13, 14, 15, 16, 17, 18, 19, 20, 21, 22, 23, 24, 25, 26, 27, 28, 29, 30, 31, 32, 33, 34, 35, 36, 37, 38, 39, 40, 41, 42, 43, 44, 45, 46, 47, 48, 49, 50, 51, 52, 53, 54, 55, 56, 57, 58, 59, 60, 61, 62, 63, 64, 65, 4, 66, 67, 68, 69, 70, 71, 72, 73, 74, 75, 76, 77, 78, 79, 80, 81, 82, 83, 84, 85, 86, 87, 88, 89, 90, 91, 92, 93, 94, 95, 96, 97, 98, 99, 100, 101, 102, 103, 104, 105, 106, 107, 108, 109, 110, 111, 112, 113, 114, 115, 116, 117, 118, 119, 120, 121, 122, 123, 124, 125, 126, 127, 128, 129, 130, 131, 132, 133, 134, 135, 136, 137, 138, 139] (by decide +kernel) (by decide +kernel)
set_option maxRecDepth 20000 in
theorem gX5_chance_X5_worthForTurn : GoodIn wsX5_chance (wsV RX5 102 RX5 yX5_worthForTurn wsX5_worthForTurn) := goodIn_app (goodIn_of _ (by decide +kernel)) ggX5_chance_X5_worthForTurn
theorem dX5_chance_0 : decode cX5_chance 0 = .ok (.iload_n 1, 1) := by decide +kernel
theorem dX5_chance_1 : decode cX5_chance 1 = .ok (.iconst 0, 1) := by decide +kernel
theorem dX5_chance_2 : decode cX5_chance 2 = .ok (.iconst 3, 1) := by decide +kernel
theorem dX5_chance_3 : decode cX5_chance 3 = .ok (.invokestatic 36, 3) := by decide +kernel
theorem dX5_chance_6 : decode cX5_chance 6 = .ok (.aload_n 0, 1) := by decide +kernel
theorem dX5_chance_7 : decode cX5_chance 7 = .ok (.iload_n 1, 1) := by decide +kernel
theorem dX5_chance_8 : decode cX5_chance 8 = .ok (.invokevirtual 102, 3) := by decide +kernel
theorem dX5_chance_11 : decode cX5_chance 11 = .ok (.i2d, 1) := by decide +kernel
theorem dX5_chance_12 : decode cX5_chance 12 = .ok (.ldc2_w 106, 3) := by decide +kernel
theorem dX5_chance_15 : decode cX5_chance 15 = .ok (.ddiv, 1) := by decide +kernel
theorem dX5_chance_16 : decode cX5_chance 16 = .ok (.dreturn, 1) := by decide +kernel
set_option maxRecDepth 20000 in
theorem ggX5_ranked_X5_refuseOutside : GoodIn wsX5_ranked wsX5_refuseOutside := goodIn_ca (goodIn_r _ [8, 1, 2] (by decide +kernel) (by decide +kernel)) (goodIn_sub (fun _ h => List.mem_cons_of_mem _ (List.mem_append_right _ h)) (by decide +kernel))
set_option maxRecDepth 20000 in
theorem gX5_ranked_X5_refuseOutside : GoodIn wsX5_ranked (va_wsS RX5 36 yX5_refuseOutside wsX5_refuseOutside) := goodIn_app (goodIn_of _ (by decide +kernel)) ggX5_ranked_X5_refuseOutside
set_option maxRecDepth 20000 in
theorem ggX5_ranked_X5_countMoves : GoodIn wsX5_ranked wsX5_countMoves := goodIn_r _ [12, 13, 14, 15, 16, 17, 7, 18, 19, 20, 21, 22, 23, 24, 25, 26, 27, 28, 29, 30, 31, 134, 135, 136, 137, 138, 139, 140, 141, 142, 143, 144] (by decide +kernel) (by decide +kernel)
set_option maxRecDepth 20000 in
theorem gX5_ranked_X5_countMoves : GoodIn wsX5_ranked (wsV RX5 55 RX5 yX5_countMoves wsX5_countMoves) := goodIn_app (goodIn_of _ (by decide +kernel)) ggX5_ranked_X5_countMoves
set_option maxRecDepth 20000 in
theorem ggX5_ranked_X5_noteWorthsBehind : GoodIn wsX5_ranked wsX5_noteWorthsBehind := goodIn_r _ [35, 36, 13, 14, 4, 3, 37, 38, 39, 40, 41, 42, 43, 44, 45, 46, 47, 48, 49, 50, 51, 52, 53, 54, 55, 56, 57, 58, 59, 60, 61, 62, 63, 64, 65, 66, 67, 68, 69, 70, 71, 72, 29, 30, 31, 73, 74, 75, 76, 77, 78, 15, 16, 17, 7, 18, 19, 20, 79, 80, 81, 82, 83, 84, 23, 85, 25, 26, 27, 21, 22, 24, 28, 86, 87, 88, 89, 90, 91, 92, 93, 94, 95, 96, 97, 98, 99, 100, 101, 102, 103, 104, 105, 106, 107, 108, 109, 110, 111, 112, 113, 114, 115, 116, 117, 118, 119, 120, 121, 122, 123, 124, 125, 126, 127, 128, 129, 134, 135, 136, 137, 138, 139, 140, 141, 142, 143, 144, 145, 146] (by decide +kernel) (by decide +kernel)
set_option maxRecDepth 20000 in
theorem gX5_ranked_X5_noteWorthsBehind : GoodIn wsX5_ranked (wsV RX5 111 RX5 yX5_noteWorthsBehind wsX5_noteWorthsBehind) := goodIn_app (goodIn_of _ (by decide +kernel)) ggX5_ranked_X5_noteWorthsBehind
set_option maxRecDepth 20000 in
theorem ggX5_ranked_X5_countBetter : GoodIn wsX5_ranked wsX5_countBetter := goodIn_r _ [133, 4, 134, 135, 136, 137, 138, 139, 140, 141, 142] (by decide +kernel) (by decide +kernel)
set_option maxRecDepth 20000 in
theorem gX5_ranked_X5_countBetter : GoodIn wsX5_ranked (wsV RX5 114 RX5 yX5_countBetter wsX5_countBetter) := goodIn_app (goodIn_of _ (by decide +kernel)) ggX5_ranked_X5_countBetter
theorem dX5_ranked_0 : decode cX5_ranked 0 = .ok (.iload_n 1, 1) := by decide +kernel
theorem dX5_ranked_1 : decode cX5_ranked 1 = .ok (.iconst 0, 1) := by decide +kernel
theorem dX5_ranked_2 : decode cX5_ranked 2 = .ok (.iconst 3, 1) := by decide +kernel
theorem dX5_ranked_3 : decode cX5_ranked 3 = .ok (.invokestatic 36, 3) := by decide +kernel
theorem dX5_ranked_6 : decode cX5_ranked 6 = .ok (.iload_n 2, 1) := by decide +kernel
theorem dX5_ranked_7 : decode cX5_ranked 7 = .ok (.ifCond .ge 11, 3) := by decide +kernel
theorem dX5_ranked_10 : decode cX5_ranked 10 = .ok (.new 108, 3) := by decide +kernel
theorem dX5_ranked_13 : decode cX5_ranked 13 = .ok (.dup, 1) := by decide +kernel
theorem dX5_ranked_14 : decode cX5_ranked 14 = .ok (.invokespecial 110, 3) := by decide +kernel
theorem dX5_ranked_17 : decode cX5_ranked 17 = .ok (.athrow, 1) := by decide +kernel
theorem dX5_ranked_18 : decode cX5_ranked 18 = .ok (.iload_n 2, 1) := by decide +kernel
theorem dX5_ranked_19 : decode cX5_ranked 19 = .ok (.aload_n 0, 1) := by decide +kernel
theorem dX5_ranked_20 : decode cX5_ranked 20 = .ok (.aload_n 0, 1) := by decide +kernel
theorem dX5_ranked_21 : decode cX5_ranked 21 = .ok (.getfield 46, 3) := by decide +kernel
theorem dX5_ranked_24 : decode cX5_ranked 24 = .ok (.invokevirtual 55, 3) := by decide +kernel
theorem dX5_ranked_27 : decode cX5_ranked 27 = .ok (.if_icmp .lt 5, 3) := by decide +kernel
theorem dX5_ranked_30 : decode cX5_ranked 30 = .ok (.iconst (-1), 1) := by decide +kernel
theorem dX5_ranked_31 : decode cX5_ranked 31 = .ok (.ireturn, 1) := by decide +kernel
theorem dX5_ranked_32 : decode cX5_ranked 32 = .ok (.aload_n 0, 1) := by decide +kernel
theorem dX5_ranked_33 : decode cX5_ranked 33 = .ok (.iload_n 1, 1) := by decide +kernel
theorem dX5_ranked_34 : decode cX5_ranked 34 = .ok (.invokevirtual 111, 3) := by decide +kernel
theorem dX5_ranked_37 : decode cX5_ranked 37 = .ok (.iconst 0, 1) := by decide +kernel
theorem dX5_ranked_38 : decode cX5_ranked 38 = .ok (.istore_n 3, 1) := by decide +kernel
theorem dX5_ranked_39 : decode cX5_ranked 39 = .ok (.iload_n 3, 1) := by decide +kernel
theorem dX5_ranked_40 : decode cX5_ranked 40 = .ok (.aload_n 0, 1) := by decide +kernel
theorem dX5_ranked_41 : decode cX5_ranked 41 = .ok (.getfield 28, 3) := by decide +kernel
theorem dX5_ranked_44 : decode cX5_ranked 44 = .ok (.arraylength, 1) := by decide +kernel
theorem dX5_ranked_45 : decode cX5_ranked 45 = .ok (.if_icmp .ge 36, 3) := by decide +kernel
theorem dX5_ranked_48 : decode cX5_ranked 48 = .ok (.aload_n 0, 1) := by decide +kernel
theorem dX5_ranked_49 : decode cX5_ranked 49 = .ok (.getfield 28, 3) := by decide +kernel
theorem dX5_ranked_52 : decode cX5_ranked 52 = .ok (.iload_n 3, 1) := by decide +kernel
theorem dX5_ranked_53 : decode cX5_ranked 53 = .ok (.iaload, 1) := by decide +kernel
theorem dX5_ranked_54 : decode cX5_ranked 54 = .ok (.istore 4, 2) := by decide +kernel
theorem dX5_ranked_56 : decode cX5_ranked 56 = .ok (.iload 4, 2) := by decide +kernel
theorem dX5_ranked_58 : decode cX5_ranked 58 = .ok (.iconst (-1), 1) := by decide +kernel
theorem dX5_ranked_59 : decode cX5_ranked 59 = .ok (.if_icmp .eq 16, 3) := by decide +kernel
theorem dX5_ranked_62 : decode cX5_ranked 62 = .ok (.aload_n 0, 1) := by decide +kernel
theorem dX5_ranked_63 : decode cX5_ranked 63 = .ok (.iload_n 3, 1) := by decide +kernel
theorem dX5_ranked_64 : decode cX5_ranked 64 = .ok (.iload 4, 2) := by decide +kernel
theorem dX5_ranked_66 : decode cX5_ranked 66 = .ok (.invokevirtual 114, 3) := by decide +kernel
theorem dX5_ranked_69 : decode cX5_ranked 69 = .ok (.iload_n 2, 1) := by decide +kernel
theorem dX5_ranked_70 : decode cX5_ranked 70 = .ok (.if_icmp .ne 5, 3) := by decide +kernel
theorem dX5_ranked_73 : decode cX5_ranked 73 = .ok (.iload_n 3, 1) := by decide +kernel
theorem dX5_ranked_74 : decode cX5_ranked 74 = .ok (.ireturn, 1) := by decide +kernel
theorem dX5_ranked_75 : decode cX5_ranked 75 = .ok (.iinc 3 1, 3) := by decide +kernel
theorem dX5_ranked_78 : decode cX5_ranked 78 = .ok (.goto (-39), 3) := by decide +kernel
theorem dX5_ranked_81 : decode cX5_ranked 81 = .ok (.iconst (-1), 1) := by decide +kernel
theorem dX5_ranked_82 : decode cX5_ranked 82 = .ok (.ireturn, 1) := by decide +kernel
set_option maxRecDepth 20000 in
theorem ggX5_ending_X5_refuseEnding : GoodIn wsX5_ending wsX5_refuseEnding := goodIn_ca (goodIn_r _ [5, 6, 7, 8, 9, 4, 10, 11, 12, 13, 14] (by decide +kernel) (by decide +kernel)) (goodIn_sub (fun _ h => List.mem_cons_of_mem _ (List.mem_append_right _ h)) (by decide +kernel))
set_option maxRecDepth 20000 in
theorem gX5_ending_X5_refuseEnding : GoodIn wsX5_ending (va_wsS RX5 118 yX5_refuseEnding wsX5_refuseEnding) := goodIn_app (goodIn_of _ (by decide +kernel)) ggX5_ending_X5_refuseEnding
set_option maxRecDepth 20000 in
theorem ggX5_ending_X5_refuseOutside : GoodIn wsX5_ending wsX5_refuseOutside := goodIn_ca (goodIn_r _ [10, 6, 7] (by decide +kernel) (by decide +kernel)) (goodIn_sub (fun _ h => List.mem_cons_of_mem _ (List.mem_append_right _ h)) (by decide +kernel))
set_option maxRecDepth 20000 in
theorem gX5_ending_X5_refuseOutside : GoodIn wsX5_ending (va_wsS RX5 36 yX5_refuseOutside wsX5_refuseOutside) := goodIn_app (goodIn_of _ (by decide +kernel)) ggX5_ending_X5_refuseOutside
set_option maxRecDepth 20000 in
theorem ggX5_ending_X1_fillUpTo : GoodIn wsX5_ending wsX1_fillUpTo := goodIn_r _ [19, 20, 21, 22, 23, 24, 25, 26, 27, 18, 28, 29, 30, 31, 32, 33, 34, 35, 36, 37, 38, 39, 40, 41, 42, 43, 44, 45, 46, 47, 48, 49, 50, 51, 13, 52, 53, 12, 14, 54, 55, 56, 67, 68] (by decide +kernel) (by decide +kernel)
set_option maxRecDepth 20000 in
theorem gX5_ending_X1_fillUpTo : GoodIn wsX5_ending (wsV RX5 122 RX1 yX1_fillUpTo wsX1_fillUpTo) := goodIn_app (goodIn_of _ (by decide +kernel)) ggX5_ending_X1_fillUpTo
set_option maxRecDepth 20000 in
theorem ggX5_ending_X1_held : GoodIn wsX5_ending wsX1_held := goodIn_r _ [38, 39, 29, 67, 68] (by decide +kernel) (by decide +kernel)
set_option maxRecDepth 20000 in
theorem gX5_ending_X1_held : GoodIn wsX5_ending (wsV RX5 125 RX1 yX1_held wsX1_held) := goodIn_app (goodIn_of _ (by decide +kernel)) ggX5_ending_X1_held
theorem dX5_ending_0 : decode cX5_ending 0 = .ok (.iload_n 1, 1) := by decide +kernel
theorem dX5_ending_1 : decode cX5_ending 1 = .ok (.iload_n 2, 1) := by decide +kernel
theorem dX5_ending_2 : decode cX5_ending 2 = .ok (.invokestatic 118, 3) := by decide +kernel
theorem dX5_ending_5 : decode cX5_ending 5 = .ok (.iload_n 3, 1) := by decide +kernel
theorem dX5_ending_6 : decode cX5_ending 6 = .ok (.iconst 0, 1) := by decide +kernel
theorem dX5_ending_7 : decode cX5_ending 7 = .ok (.bipush 60, 2) := by decide +kernel
theorem dX5_ending_9 : decode cX5_ending 9 = .ok (.invokestatic 36, 3) := by decide +kernel
theorem dX5_ending_12 : decode cX5_ending 12 = .ok (.aload_n 0, 1) := by decide +kernel
theorem dX5_ending_13 : decode cX5_ending 13 = .ok (.getfield 22, 3) := by decide +kernel
theorem dX5_ending_16 : decode cX5_ending 16 = .ok (.iload_n 3, 1) := by decide +kernel
theorem dX5_ending_17 : decode cX5_ending 17 = .ok (.invokevirtual 122, 3) := by decide +kernel
theorem dX5_ending_20 : decode cX5_ending 20 = .ok (.aload_n 0, 1) := by decide +kernel
theorem dX5_ending_21 : decode cX5_ending 21 = .ok (.getfield 22, 3) := by decide +kernel
theorem dX5_ending_24 : decode cX5_ending 24 = .ok (.iload_n 1, 1) := by decide +kernel
theorem dX5_ending_25 : decode cX5_ending 25 = .ok (.iload_n 2, 1) := by decide +kernel
theorem dX5_ending_26 : decode cX5_ending 26 = .ok (.iload_n 3, 1) := by decide +kernel
theorem dX5_ending_27 : decode cX5_ending 27 = .ok (.invokevirtual 125, 3) := by decide +kernel
theorem dX5_ending_30 : decode cX5_ending 30 = .ok (.ireturn, 1) := by decide +kernel
theorem dX5_refuseOutside_0 : decode cX5_refuseOutside 0 = .ok (.iload_n 0, 1) := by decide +kernel
theorem dX5_refuseOutside_1 : decode cX5_refuseOutside 1 = .ok (.iload_n 1, 1) := by decide +kernel
theorem dX5_refuseOutside_2 : decode cX5_refuseOutside 2 = .ok (.if_icmp .lt 8, 3) := by decide +kernel
theorem dX5_refuseOutside_5 : decode cX5_refuseOutside 5 = .ok (.iload_n 0, 1) := by decide +kernel
theorem dX5_refuseOutside_6 : decode cX5_refuseOutside 6 = .ok (.iload_n 2, 1) := by decide +kernel
theorem dX5_refuseOutside_7 : decode cX5_refuseOutside 7 = .ok (.if_icmp .le 11, 3) := by decide +kernel
theorem dX5_refuseOutside_10 : decode cX5_refuseOutside 10 = .ok (.new 108, 3) := by decide +kernel
theorem dX5_refuseOutside_13 : decode cX5_refuseOutside 13 = .ok (.dup, 1) := by decide +kernel
theorem dX5_refuseOutside_14 : decode cX5_refuseOutside 14 = .ok (.invokespecial 110, 3) := by decide +kernel
theorem dX5_refuseOutside_17 : decode cX5_refuseOutside 17 = .ok (.athrow, 1) := by decide +kernel
theorem dX5_refuseOutside_18 : decode cX5_refuseOutside 18 = .ok (.return_, 1) := by decide +kernel
set_option maxRecDepth 20000 in
theorem ggX5_refuseEnding_X5_refuseOutside : GoodIn wsX5_refuseEnding wsX5_refuseOutside := goodIn_ca (goodIn_r _ [6, 1, 2] (by decide +kernel) (by decide +kernel)) (goodIn_sub (fun _ h => List.mem_cons_of_mem _ (List.mem_append_right _ h)) (by decide +kernel))
set_option maxRecDepth 20000 in
theorem gX5_refuseEnding_X5_refuseOutside : GoodIn wsX5_refuseEnding (va_wsS RX5 36 yX5_refuseOutside wsX5_refuseOutside) := goodIn_app (goodIn_of _ (by decide +kernel)) ggX5_refuseEnding_X5_refuseOutside
set_option maxRecDepth 20000 in
theorem ggX5_refuseEnding_X4_isShared : GoodIn wsX5_refuseEnding wsX4_isShared := goodIn_r _ [10] (by decide +kernel) (by decide +kernel)
set_option maxRecDepth 20000 in
theorem gX5_refuseEnding_X4_isShared : GoodIn wsX5_refuseEnding (va_wsS RX5 132 yX4_isShared wsX4_isShared) := goodIn_app (goodIn_of _ (by decide +kernel)) ggX5_refuseEnding_X4_isShared
theorem dX5_refuseEnding_0 : decode cX5_refuseEnding 0 = .ok (.iload_n 0, 1) := by decide +kernel
theorem dX5_refuseEnding_1 : decode cX5_refuseEnding 1 = .ok (.iconst 0, 1) := by decide +kernel
theorem dX5_refuseEnding_2 : decode cX5_refuseEnding 2 = .ok (.bipush 14, 2) := by decide +kernel
theorem dX5_refuseEnding_4 : decode cX5_refuseEnding 4 = .ok (.invokestatic 36, 3) := by decide +kernel
theorem dX5_refuseEnding_7 : decode cX5_refuseEnding 7 = .ok (.iload_n 1, 1) := by decide +kernel
theorem dX5_refuseEnding_8 : decode cX5_refuseEnding 8 = .ok (.iconst 0, 1) := by decide +kernel
theorem dX5_refuseEnding_9 : decode cX5_refuseEnding 9 = .ok (.bipush 14, 2) := by decide +kernel
theorem dX5_refuseEnding_11 : decode cX5_refuseEnding 11 = .ok (.invokestatic 36, 3) := by decide +kernel
theorem dX5_refuseEnding_14 : decode cX5_refuseEnding 14 = .ok (.iload_n 0, 1) := by decide +kernel
theorem dX5_refuseEnding_15 : decode cX5_refuseEnding 15 = .ok (.iload_n 1, 1) := by decide +kernel
theorem dX5_refuseEnding_16 : decode cX5_refuseEnding 16 = .ok (.if_icmp .ne 18, 3) := by decide +kernel
theorem dX5_refuseEnding_19 : decode cX5_refuseEnding 19 = .ok (.iload_n 0, 1) := by decide +kernel
theorem dX5_refuseEnding_20 : decode cX5_refuseEnding 20 = .ok (.invokestatic 132, 3) := by decide +kernel
theorem dX5_refuseEnding_23 : decode cX5_refuseEnding 23 = .ok (.ifCond .eq 11, 3) := by decide +kernel
theorem dX5_refuseEnding_26 : decode cX5_refuseEnding 26 = .ok (.new 108, 3) := by decide +kernel
theorem dX5_refuseEnding_29 : decode cX5_refuseEnding 29 = .ok (.dup, 1) := by decide +kernel
theorem dX5_refuseEnding_30 : decode cX5_refuseEnding 30 = .ok (.invokespecial 110, 3) := by decide +kernel
theorem dX5_refuseEnding_33 : decode cX5_refuseEnding 33 = .ok (.athrow, 1) := by decide +kernel
theorem dX5_refuseEnding_34 : decode cX5_refuseEnding 34 = .ok (.return_, 1) := by decide +kernel
set_option maxRecDepth 20000 in
theorem ggX5_setUp_X2_allAtStart : GoodIn wsX5_setUp wsX2_allAtStart := goodIn_r _ [13] (by decide +kernel) (by decide +kernel)
set_option maxRecDepth 20000 in
theorem gX5_setUp_X2_allAtStart : GoodIn wsX5_setUp (va_wsS RX5 138 yX2_allAtStart wsX2_allAtStart) := goodIn_app (goodIn_of _ (by decide +kernel)) ggX5_setUp_X2_allAtStart
theorem dX5_setUp_0 : decode cX5_setUp 0 = .ok (.aload_n 0, 1) := by decide +kernel
theorem dX5_setUp_1 : decode cX5_setUp 1 = .ok (.iload_n 1, 1) := by decide +kernel
theorem dX5_setUp_2 : decode cX5_setUp 2 = .ok (.putfield 135, 3) := by decide +kernel
theorem dX5_setUp_5 : decode cX5_setUp 5 = .ok (.aload_n 0, 1) := by decide +kernel
theorem dX5_setUp_6 : decode cX5_setUp 6 = .ok (.getfield 10, 3) := by decide +kernel
theorem dX5_setUp_9 : decode cX5_setUp 9 = .ok (.iload_n 1, 1) := by decide +kernel
theorem dX5_setUp_10 : decode cX5_setUp 10 = .ok (.invokestatic 138, 3) := by decide +kernel
theorem dX5_setUp_13 : decode cX5_setUp 13 = .ok (.putfield 70, 3) := by decide +kernel
theorem dX5_setUp_16 : decode cX5_setUp 16 = .ok (.aload_n 0, 1) := by decide +kernel
theorem dX5_setUp_17 : decode cX5_setUp 17 = .ok (.getfield 16, 3) := by decide +kernel
theorem dX5_setUp_20 : decode cX5_setUp 20 = .ok (.iload_n 1, 1) := by decide +kernel
theorem dX5_setUp_21 : decode cX5_setUp 21 = .ok (.invokestatic 138, 3) := by decide +kernel
theorem dX5_setUp_24 : decode cX5_setUp 24 = .ok (.putfield 70, 3) := by decide +kernel
theorem dX5_setUp_27 : decode cX5_setUp 27 = .ok (.aload_n 0, 1) := by decide +kernel
theorem dX5_setUp_28 : decode cX5_setUp 28 = .ok (.getfield 10, 3) := by decide +kernel
theorem dX5_setUp_31 : decode cX5_setUp 31 = .ok (.iconst 0, 1) := by decide +kernel
theorem dX5_setUp_32 : decode cX5_setUp 32 = .ok (.putfield 84, 3) := by decide +kernel
theorem dX5_setUp_35 : decode cX5_setUp 35 = .ok (.aload_n 0, 1) := by decide +kernel
theorem dX5_setUp_36 : decode cX5_setUp 36 = .ok (.getfield 16, 3) := by decide +kernel
theorem dX5_setUp_39 : decode cX5_setUp 39 = .ok (.iconst 0, 1) := by decide +kernel
theorem dX5_setUp_40 : decode cX5_setUp 40 = .ok (.putfield 84, 3) := by decide +kernel
theorem dX5_setUp_43 : decode cX5_setUp 43 = .ok (.aload_n 0, 1) := by decide +kernel
theorem dX5_setUp_44 : decode cX5_setUp 44 = .ok (.iconst 0, 1) := by decide +kernel
theorem dX5_setUp_45 : decode cX5_setUp 45 = .ok (.putfield 59, 3) := by decide +kernel
theorem dX5_setUp_48 : decode cX5_setUp 48 = .ok (.aload_n 0, 1) := by decide +kernel
theorem dX5_setUp_49 : decode cX5_setUp 49 = .ok (.iconst (-1), 1) := by decide +kernel
theorem dX5_setUp_50 : decode cX5_setUp 50 = .ok (.putfield 46, 3) := by decide +kernel
theorem dX5_setUp_53 : decode cX5_setUp 53 = .ok (.aload_n 0, 1) := by decide +kernel
theorem dX5_setUp_54 : decode cX5_setUp 54 = .ok (.iconst (-1), 1) := by decide +kernel
theorem dX5_setUp_55 : decode cX5_setUp 55 = .ok (.putfield 42, 3) := by decide +kernel
theorem dX5_setUp_58 : decode cX5_setUp 58 = .ok (.aload_n 0, 1) := by decide +kernel
theorem dX5_setUp_59 : decode cX5_setUp 59 = .ok (.iconst 0, 1) := by decide +kernel
theorem dX5_setUp_60 : decode cX5_setUp 60 = .ok (.putfield 52, 3) := by decide +kernel
theorem dX5_setUp_63 : decode cX5_setUp 63 = .ok (.return_, 1) := by decide +kernel
theorem dX5_sideOf_0 : decode cX5_sideOf 0 = .ok (.iload_n 1, 1) := by decide +kernel
theorem dX5_sideOf_1 : decode cX5_sideOf 1 = .ok (.ifCond .ne 10, 3) := by decide +kernel
theorem dX5_sideOf_4 : decode cX5_sideOf 4 = .ok (.aload_n 0, 1) := by decide +kernel
theorem dX5_sideOf_5 : decode cX5_sideOf 5 = .ok (.getfield 10, 3) := by decide +kernel
theorem dX5_sideOf_8 : decode cX5_sideOf 8 = .ok (.goto 7, 3) := by decide +kernel
theorem dX5_sideOf_11 : decode cX5_sideOf 11 = .ok (.aload_n 0, 1) := by decide +kernel
theorem dX5_sideOf_12 : decode cX5_sideOf 12 = .ok (.getfield 16, 3) := by decide +kernel
theorem dX5_sideOf_15 : decode cX5_sideOf 15 = .ok (.areturn, 1) := by decide +kernel
set_option maxRecDepth 20000 in
theorem ggX5_canMoveFrom_X5_sideOf : GoodIn wsX5_canMoveFrom wsX5_sideOf := goodIn_r _ [8, 9, 10, 22, 23, 24, 25, 26, 27, 28, 29, 30] (by decide +kernel) (by decide +kernel)
set_option maxRecDepth 20000 in
theorem gX5_canMoveFrom_X5_sideOf : GoodIn wsX5_canMoveFrom (wsV RX5 66 RX5 yX5_sideOf wsX5_sideOf) := goodIn_app (goodIn_of _ (by decide +kernel)) ggX5_canMoveFrom_X5_sideOf
set_option maxRecDepth 20000 in
theorem ggX5_canMoveFrom_X2_canMove : GoodIn wsX5_canMoveFrom wsX2_canMove := goodIn_r _ [14, 15, 16, 13, 17, 18, 19, 20, 21] (by decide +kernel) (by decide +kernel)
set_option maxRecDepth 20000 in
theorem gX5_canMoveFrom_X2_canMove : GoodIn wsX5_canMoveFrom (va_wsS RX5 142 yX2_canMove wsX2_canMove) := goodIn_app (goodIn_of _ (by decide +kernel)) ggX5_canMoveFrom_X2_canMove
theorem dX5_canMoveFrom_0 : decode cX5_canMoveFrom 0 = .ok (.aload_n 0, 1) := by decide +kernel
theorem dX5_canMoveFrom_1 : decode cX5_canMoveFrom 1 = .ok (.aload_n 0, 1) := by decide +kernel
theorem dX5_canMoveFrom_2 : decode cX5_canMoveFrom 2 = .ok (.getfield 59, 3) := by decide +kernel
theorem dX5_canMoveFrom_5 : decode cX5_canMoveFrom 5 = .ok (.invokevirtual 66, 3) := by decide +kernel
theorem dX5_canMoveFrom_8 : decode cX5_canMoveFrom 8 = .ok (.getfield 70, 3) := by decide +kernel
theorem dX5_canMoveFrom_11 : decode cX5_canMoveFrom 11 = .ok (.aload_n 0, 1) := by decide +kernel
theorem dX5_canMoveFrom_12 : decode cX5_canMoveFrom 12 = .ok (.iconst 1, 1) := by decide +kernel
theorem dX5_canMoveFrom_13 : decode cX5_canMoveFrom 13 = .ok (.aload_n 0, 1) := by decide +kernel
theorem dX5_canMoveFrom_14 : decode cX5_canMoveFrom 14 = .ok (.getfield 59, 3) := by decide +kernel
theorem dX5_canMoveFrom_17 : decode cX5_canMoveFrom 17 = .ok (.isub, 1) := by decide +kernel
theorem dX5_canMoveFrom_18 : decode cX5_canMoveFrom 18 = .ok (.invokevirtual 66, 3) := by decide +kernel
theorem dX5_canMoveFrom_21 : decode cX5_canMoveFrom 21 = .ok (.getfield 70, 3) := by decide +kernel
theorem dX5_canMoveFrom_24 : decode cX5_canMoveFrom 24 = .ok (.iload_n 1, 1) := by decide +kernel
theorem dX5_canMoveFrom_25 : decode cX5_canMoveFrom 25 = .ok (.aload_n 0, 1) := by decide +kernel
theorem dX5_canMoveFrom_26 : decode cX5_canMoveFrom 26 = .ok (.getfield 46, 3) := by decide +kernel
theorem dX5_canMoveFrom_29 : decode cX5_canMoveFrom 29 = .ok (.invokestatic 142, 3) := by decide +kernel
theorem dX5_canMoveFrom_32 : decode cX5_canMoveFrom 32 = .ok (.ireturn, 1) := by decide +kernel
set_option maxRecDepth 20000 in
theorem ggX5_countMoves_X5_sideOf : GoodIn wsX5_countMoves wsX5_sideOf := goodIn_r _ [7, 8, 9, 21, 22, 23, 24, 25, 26, 27, 28, 29] (by decide +kernel) (by decide +kernel)
set_option maxRecDepth 20000 in
theorem gX5_countMoves_X5_sideOf : GoodIn wsX5_countMoves (wsV RX5 66 RX5 yX5_sideOf wsX5_sideOf) := goodIn_app (goodIn_of _ (by decide +kernel)) ggX5_countMoves_X5_sideOf
set_option maxRecDepth 20000 in
theorem ggX5_countMoves_X2_canMove : GoodIn wsX5_countMoves wsX2_canMove := goodIn_r _ [13, 14, 15, 12, 16, 17, 18, 19, 20] (by decide +kernel) (by decide +kernel)
set_option maxRecDepth 20000 in
theorem gX5_countMoves_X2_canMove : GoodIn wsX5_countMoves (va_wsS RX5 142 yX2_canMove wsX2_canMove) := goodIn_app (goodIn_of _ (by decide +kernel)) ggX5_countMoves_X2_canMove
theorem dX5_countMoves_0 : decode cX5_countMoves 0 = .ok (.aload_n 0, 1) := by decide +kernel
theorem dX5_countMoves_1 : decode cX5_countMoves 1 = .ok (.aload_n 0, 1) := by decide +kernel
theorem dX5_countMoves_2 : decode cX5_countMoves 2 = .ok (.getfield 59, 3) := by decide +kernel
theorem dX5_countMoves_5 : decode cX5_countMoves 5 = .ok (.invokevirtual 66, 3) := by decide +kernel
theorem dX5_countMoves_8 : decode cX5_countMoves 8 = .ok (.getfield 70, 3) := by decide +kernel
theorem dX5_countMoves_11 : decode cX5_countMoves 11 = .ok (.lstore_n 2, 1) := by decide +kernel
theorem dX5_countMoves_12 : decode cX5_countMoves 12 = .ok (.aload_n 0, 1) := by decide +kernel
theorem dX5_countMoves_13 : decode cX5_countMoves 13 = .ok (.iconst 1, 1) := by decide +kernel
theorem dX5_countMoves_14 : decode cX5_countMoves 14 = .ok (.aload_n 0, 1) := by decide +kernel
theorem dX5_countMoves_15 : decode cX5_countMoves 15 = .ok (.getfield 59, 3) := by decide +kernel
theorem dX5_countMoves_18 : decode cX5_countMoves 18 = .ok (.isub, 1) := by decide +kernel
theorem dX5_countMoves_19 : decode cX5_countMoves 19 = .ok (.invokevirtual 66, 3) := by decide +kernel
theorem dX5_countMoves_22 : decode cX5_countMoves 22 = .ok (.getfield 70, 3) := by decide +kernel
theorem dX5_countMoves_25 : decode cX5_countMoves 25 = .ok (.lstore 4, 2) := by decide +kernel
theorem dX5_countMoves_27 : decode cX5_countMoves 27 = .ok (.iconst 0, 1) := by decide +kernel
theorem dX5_countMoves_28 : decode cX5_countMoves 28 = .ok (.istore 6, 2) := by decide +kernel
theorem dX5_countMoves_30 : decode cX5_countMoves 30 = .ok (.iconst 0, 1) := by decide +kernel
theorem dX5_countMoves_31 : decode cX5_countMoves 31 = .ok (.istore 7, 2) := by decide +kernel
theorem dX5_countMoves_33 : decode cX5_countMoves 33 = .ok (.iload 7, 2) := by decide +kernel
theorem dX5_countMoves_35 : decode cX5_countMoves 35 = .ok (.bipush 14, 2) := by decide +kernel
theorem dX5_countMoves_37 : decode cX5_countMoves 37 = .ok (.if_icmp .gt 24, 3) := by decide +kernel
theorem dX5_countMoves_40 : decode cX5_countMoves 40 = .ok (.lload_n 2, 1) := by decide +kernel
theorem dX5_countMoves_41 : decode cX5_countMoves 41 = .ok (.lload 4, 2) := by decide +kernel
theorem dX5_countMoves_43 : decode cX5_countMoves 43 = .ok (.iload 7, 2) := by decide +kernel
theorem dX5_countMoves_45 : decode cX5_countMoves 45 = .ok (.iload_n 1, 1) := by decide +kernel
theorem dX5_countMoves_46 : decode cX5_countMoves 46 = .ok (.invokestatic 142, 3) := by decide +kernel
theorem dX5_countMoves_49 : decode cX5_countMoves 49 = .ok (.ifCond .eq 6, 3) := by decide +kernel
theorem dX5_countMoves_52 : decode cX5_countMoves 52 = .ok (.iinc 6 1, 3) := by decide +kernel
theorem dX5_countMoves_55 : decode cX5_countMoves 55 = .ok (.iinc 7 1, 3) := by decide +kernel
theorem dX5_countMoves_58 : decode cX5_countMoves 58 = .ok (.goto (-25), 3) := by decide +kernel
theorem dX5_countMoves_61 : decode cX5_countMoves 61 = .ok (.iload 6, 2) := by decide +kernel
theorem dX5_countMoves_63 : decode cX5_countMoves 63 = .ok (.ireturn, 1) := by decide +kernel
set_option maxRecDepth 20000 in
theorem ggX5_leadOfTurn_X5_sideOf : GoodIn wsX5_leadOfTurn wsX5_sideOf := goodIn_r _ [7, 8, 9, 17, 18, 19, 20, 21, 22, 23, 24, 25] (by decide +kernel) (by decide +kernel)
set_option maxRecDepth 20000 in
theorem gX5_leadOfTurn_X5_sideOf : GoodIn wsX5_leadOfTurn (wsV RX5 66 RX5 yX5_sideOf wsX5_sideOf) := goodIn_app (goodIn_of _ (by decide +kernel)) ggX5_leadOfTurn_X5_sideOf
set_option maxRecDepth 20000 in
theorem ggX5_leadOfTurn_X2_sumOfPlaces : GoodIn wsX5_leadOfTurn wsX2_sumOfPlaces := goodIn_r _ [13, 14, 15, 12, 16] (by decide +kernel) (by decide +kernel)
set_option maxRecDepth 20000 in
theorem gX5_leadOfTurn_X2_sumOfPlaces : GoodIn wsX5_leadOfTurn (va_wsS RX5 98 yX2_sumOfPlaces wsX2_sumOfPlaces) := goodIn_app (goodIn_of _ (by decide +kernel)) ggX5_leadOfTurn_X2_sumOfPlaces
theorem dX5_leadOfTurn_0 : decode cX5_leadOfTurn 0 = .ok (.aload_n 0, 1) := by decide +kernel
theorem dX5_leadOfTurn_1 : decode cX5_leadOfTurn 1 = .ok (.aload_n 0, 1) := by decide +kernel
theorem dX5_leadOfTurn_2 : decode cX5_leadOfTurn 2 = .ok (.getfield 59, 3) := by decide +kernel
theorem dX5_leadOfTurn_5 : decode cX5_leadOfTurn 5 = .ok (.invokevirtual 66, 3) := by decide +kernel
theorem dX5_leadOfTurn_8 : decode cX5_leadOfTurn 8 = .ok (.getfield 70, 3) := by decide +kernel
theorem dX5_leadOfTurn_11 : decode cX5_leadOfTurn 11 = .ok (.invokestatic 98, 3) := by decide +kernel
theorem dX5_leadOfTurn_14 : decode cX5_leadOfTurn 14 = .ok (.aload_n 0, 1) := by decide +kernel
theorem dX5_leadOfTurn_15 : decode cX5_leadOfTurn 15 = .ok (.iconst 1, 1) := by decide +kernel
theorem dX5_leadOfTurn_16 : decode cX5_leadOfTurn 16 = .ok (.aload_n 0, 1) := by decide +kernel
theorem dX5_leadOfTurn_17 : decode cX5_leadOfTurn 17 = .ok (.getfield 59, 3) := by decide +kernel
theorem dX5_leadOfTurn_20 : decode cX5_leadOfTurn 20 = .ok (.isub, 1) := by decide +kernel
theorem dX5_leadOfTurn_21 : decode cX5_leadOfTurn 21 = .ok (.invokevirtual 66, 3) := by decide +kernel
theorem dX5_leadOfTurn_24 : decode cX5_leadOfTurn 24 = .ok (.getfield 70, 3) := by decide +kernel
theorem dX5_leadOfTurn_27 : decode cX5_leadOfTurn 27 = .ok (.invokestatic 98, 3) := by decide +kernel
theorem dX5_leadOfTurn_30 : decode cX5_leadOfTurn 30 = .ok (.isub, 1) := by decide +kernel
theorem dX5_leadOfTurn_31 : decode cX5_leadOfTurn 31 = .ok (.ireturn, 1) := by decide +kernel
set_option maxRecDepth 20000 in
theorem ggX5_worthForTurn_X1_fillUpTo : GoodIn wsX5_worthForTurn wsX1_fillUpTo := goodIn_r _ [11, 12, 13, 14, 15, 16, 17, 18, 19, 10, 20, 21, 22, 23, 24, 25, 26, 27, 28, 29, 30, 31, 32, 33, 34, 35, 36, 37, 38, 39, 40, 41, 42, 43, 44, 45, 46, 47, 48, 49, 50, 51, 128, 129] (by decide +kernel) (by decide +kernel)
set_option maxRecDepth 20000 in
theorem gX5_worthForTurn_X1_fillUpTo : GoodIn wsX5_worthForTurn (wsV RX5 122 RX1 yX1_fillUpTo wsX1_fillUpTo) := goodIn_app (goodIn_of _ (by decide +kernel)) ggX5_worthForTurn_X1_fillUpTo
set_option maxRecDepth 20000 in
theorem ggX5_worthForTurn_X5_sideOf : GoodIn wsX5_worthForTurn wsX5_sideOf := goodIn_r _ [56, 57, 58, 117, 118, 119, 120, 121, 122, 123, 124, 125] (by decide +kernel) (by decide +kernel)
set_option maxRecDepth 20000 in
theorem gX5_worthForTurn_X5_sideOf : GoodIn wsX5_worthForTurn (wsV RX5 66 RX5 yX5_sideOf wsX5_sideOf) := goodIn_app (goodIn_of _ (by decide +kernel)) ggX5_worthForTurn_X5_sideOf
set_option maxRecDepth 20000 in
theorem ggX5_worthForTurn_X5_leadOfTurn : GoodIn wsX5_worthForTurn wsX5_leadOfTurn := goodIn_r _ [62, 2, 5, 52, 53, 54, 55, 56, 57, 58, 63, 64, 65, 66, 67, 68, 69, 117, 118, 119, 120, 121, 122, 123, 124, 125, 126, 127] (by decide +kernel) (by decide +kernel)
set_option maxRecDepth 20000 in
theorem gX5_worthForTurn_X5_leadOfTurn : GoodIn wsX5_worthForTurn (wsV RX5 146 RX5 yX5_leadOfTurn wsX5_leadOfTurn) := goodIn_app (goodIn_of _ (by decide +kernel)) ggX5_worthForTurn_X5_leadOfTurn
set_option maxRecDepth 20000 in
theorem ggX5_worthForTurn_X5_worthToThrow : GoodIn wsX5_worthForTurn wsX5_worthToThrow := goodIn_r _ [73, 74, 75, 76, 77, 55, 78, 79, 4, 80, 81, 82, 83, 14, 84, 85, 86, 13, 15, 87, 68, 65, 69, 88, 89, 90, 67, 91, 28, 29, 10, 30, 31, 21, 92, 33, 34, 35, 36, 93, 94, 95, 96, 3, 97, 98, 99, 100, 101, 102, 103, 104, 105, 106, 107, 47, 44, 48, 108, 50, 51, 70, 71, 72, 109, 110, 111, 112, 113, 43, 45, 114, 115, 116, 117, 118, 119, 120, 121, 122, 123, 124, 125, 128, 129] (by decide +kernel) (by decide +kernel)
set_option maxRecDepth 20000 in
theorem gX5_worthForTurn_X5_worthToThrow : GoodIn wsX5_worthForTurn (wsV RX5 150 RX5 yX5_worthToThrow wsX5_worthToThrow) := goodIn_app (goodIn_of _ (by decide +kernel)) ggX5_worthForTurn_X5_worthToThrow
set_option maxRecDepth 20000 in
theorem ggX5_worthForTurn_X5_worthBehindThrow : GoodIn wsX5_worthForTurn wsX5_worthBehindThrow := goodIn_r _ [109, 82, 83, 14, 84, 3, 110, 111, 65, 112, 67, 68, 69, 113, 43, 44, 45, 114, 115, 116, 55, 70, 71, 72, 96, 97, 98, 99, 100, 101, 102, 103, 104, 105, 106, 107, 47, 48, 108, 50, 51, 73, 74, 75, 76, 77, 78, 79, 4, 80, 81, 85, 86, 13, 15, 87, 88, 89, 90, 91, 28, 29, 10, 30, 31, 21, 92, 33, 34, 35, 36, 93, 94, 95, 117, 118, 119, 120, 121, 122, 123, 124, 125, 128, 129] (by decide +kernel) (by decide +kernel)
set_option maxRecDepth 20000 in
theorem gX5_worthForTurn_X5_worthBehindThrow : GoodIn wsX5_worthForTurn (wsV RX5 154 RX5 yX5_worthBehindThrow wsX5_worthBehindThrow) := goodIn_app (goodIn_of _ (by decide +kernel)) ggX5_worthForTurn_X5_worthBehindThrow
theorem dX5_worthForTurn_0 : decode cX5_worthForTurn 0 = .ok (.aload_n 0, 1) := by decide +kernel
theorem dX5_worthForTurn_1 : decode cX5_worthForTurn 1 = .ok (.getfield 42, 3) := by decide +kernel
theorem dX5_worthForTurn_4 : decode cX5_worthForTurn 4 = .ok (.iconst (-1), 1) := by decide +kernel
theorem dX5_worthForTurn_5 : decode cX5_worthForTurn 5 = .ok (.if_icmp .eq 21, 3) := by decide +kernel
theorem dX5_worthForTurn_8 : decode cX5_worthForTurn 8 = .ok (.aload_n 0, 1) := by decide +kernel
theorem dX5_worthForTurn_9 : decode cX5_worthForTurn 9 = .ok (.getfield 42, 3) := by decide +kernel
theorem dX5_worthForTurn_12 : decode cX5_worthForTurn 12 = .ok (.aload_n 0, 1) := by decide +kernel
theorem dX5_worthForTurn_13 : decode cX5_worthForTurn 13 = .ok (.getfield 59, 3) := by decide +kernel
theorem dX5_worthForTurn_16 : decode cX5_worthForTurn 16 = .ok (.if_icmp .ne 8, 3) := by decide +kernel
theorem dX5_worthForTurn_19 : decode cX5_worthForTurn 19 = .ok (.ldc 105, 2) := by decide +kernel
theorem dX5_worthForTurn_21 : decode cX5_worthForTurn 21 = .ok (.goto 4, 3) := by decide +kernel
theorem dX5_worthForTurn_24 : decode cX5_worthForTurn 24 = .ok (.iconst 0, 1) := by decide +kernel
theorem dX5_worthForTurn_25 : decode cX5_worthForTurn 25 = .ok (.ireturn, 1) := by decide +kernel
theorem dX5_worthForTurn_26 : decode cX5_worthForTurn 26 = .ok (.aload_n 0, 1) := by decide +kernel
theorem dX5_worthForTurn_27 : decode cX5_worthForTurn 27 = .ok (.getfield 22, 3) := by decide +kernel
theorem dX5_worthForTurn_30 : decode cX5_worthForTurn 30 = .ok (.bipush 40, 2) := by decide +kernel
theorem dX5_worthForTurn_32 : decode cX5_worthForTurn 32 = .ok (.invokevirtual 122, 3) := by decide +kernel
theorem dX5_worthForTurn_35 : decode cX5_worthForTurn 35 = .ok (.aload_n 0, 1) := by decide +kernel
theorem dX5_worthForTurn_36 : decode cX5_worthForTurn 36 = .ok (.aload_n 0, 1) := by decide +kernel
theorem dX5_worthForTurn_37 : decode cX5_worthForTurn 37 = .ok (.getfield 59, 3) := by decide +kernel
theorem dX5_worthForTurn_40 : decode cX5_worthForTurn 40 = .ok (.invokevirtual 66, 3) := by decide +kernel
theorem dX5_worthForTurn_43 : decode cX5_worthForTurn 43 = .ok (.getfield 70, 3) := by decide +kernel
theorem dX5_worthForTurn_46 : decode cX5_worthForTurn 46 = .ok (.lstore_n 2, 1) := by decide +kernel
theorem dX5_worthForTurn_47 : decode cX5_worthForTurn 47 = .ok (.aload_n 0, 1) := by decide +kernel
theorem dX5_worthForTurn_48 : decode cX5_worthForTurn 48 = .ok (.iconst 1, 1) := by decide +kernel
theorem dX5_worthForTurn_49 : decode cX5_worthForTurn 49 = .ok (.aload_n 0, 1) := by decide +kernel
theorem dX5_worthForTurn_50 : decode cX5_worthForTurn 50 = .ok (.getfield 59, 3) := by decide +kernel
theorem dX5_worthForTurn_53 : decode cX5_worthForTurn 53 = .ok (.isub, 1) := by decide +kernel
theorem dX5_worthForTurn_54 : decode cX5_worthForTurn 54 = .ok (.invokevirtual 66, 3) := by decide +kernel
theorem dX5_worthForTurn_57 : decode cX5_worthForTurn 57 = .ok (.getfield 70, 3) := by decide +kernel
theorem dX5_worthForTurn_60 : decode cX5_worthForTurn 60 = .ok (.lstore 4, 2) := by decide +kernel
theorem dX5_worthForTurn_62 : decode cX5_worthForTurn 62 = .ok (.aload_n 0, 1) := by decide +kernel
theorem dX5_worthForTurn_63 : decode cX5_worthForTurn 63 = .ok (.getfield 46, 3) := by decide +kernel
theorem dX5_worthForTurn_66 : decode cX5_worthForTurn 66 = .ok (.iconst (-1), 1) := by decide +kernel
theorem dX5_worthForTurn_67 : decode cX5_worthForTurn 67 = .ok (.if_icmp .ne 16, 3) := by decide +kernel
theorem dX5_worthForTurn_70 : decode cX5_worthForTurn 70 = .ok (.aload_n 0, 1) := by decide +kernel
theorem dX5_worthForTurn_71 : decode cX5_worthForTurn 71 = .ok (.lload_n 2, 1) := by decide +kernel
theorem dX5_worthForTurn_72 : decode cX5_worthForTurn 72 = .ok (.lload 4, 2) := by decide +kernel
theorem dX5_worthForTurn_74 : decode cX5_worthForTurn 74 = .ok (.aload_n 0, 1) := by decide +kernel
theorem dX5_worthForTurn_75 : decode cX5_worthForTurn 75 = .ok (.invokevirtual 146, 3) := by decide +kernel
theorem dX5_worthForTurn_78 : decode cX5_worthForTurn 78 = .ok (.iload_n 1, 1) := by decide +kernel
theorem dX5_worthForTurn_79 : decode cX5_worthForTurn 79 = .ok (.invokevirtual 150, 3) := by decide +kernel
theorem dX5_worthForTurn_82 : decode cX5_worthForTurn 82 = .ok (.ireturn, 1) := by decide +kernel
theorem dX5_worthForTurn_83 : decode cX5_worthForTurn 83 = .ok (.aload_n 0, 1) := by decide +kernel
theorem dX5_worthForTurn_84 : decode cX5_worthForTurn 84 = .ok (.lload_n 2, 1) := by decide +kernel
theorem dX5_worthForTurn_85 : decode cX5_worthForTurn 85 = .ok (.lload 4, 2) := by decide +kernel
theorem dX5_worthForTurn_87 : decode cX5_worthForTurn 87 = .ok (.aload_n 0, 1) := by decide +kernel
theorem dX5_worthForTurn_88 : decode cX5_worthForTurn 88 = .ok (.invokevirtual 146, 3) := by decide +kernel
theorem dX5_worthForTurn_91 : decode cX5_worthForTurn 91 = .ok (.aload_n 0, 1) := by decide +kernel
theorem dX5_worthForTurn_92 : decode cX5_worthForTurn 92 = .ok (.getfield 46, 3) := by decide +kernel
theorem dX5_worthForTurn_95 : decode cX5_worthForTurn 95 = .ok (.iload_n 1, 1) := by decide +kernel
theorem dX5_worthForTurn_96 : decode cX5_worthForTurn 96 = .ok (.invokevirtual 154, 3) := by decide +kernel
theorem dX5_worthForTurn_99 : decode cX5_worthForTurn 99 = .ok (.ireturn, 1) := by decide +kernel
set_option maxRecDepth 20000 in
theorem ggX5_noteWorthsBehind_X1_fillUpTo : GoodIn wsX5_noteWorthsBehind wsX1_fillUpTo := goodIn_r _ [10, 11, 12, 13, 14, 15, 16, 17, 18, 9, 19, 20, 21, 22, 23, 24, 25, 26, 27, 28, 29, 30, 31, 32, 33, 34, 35, 36, 37, 38, 39, 40, 41, 42, 43, 44, 45, 46, 47, 48, 49, 50, 128, 129] (by decide +kernel) (by decide +kernel)
set_option maxRecDepth 20000 in
theorem gX5_noteWorthsBehind_X1_fillUpTo : GoodIn wsX5_noteWorthsBehind (wsV RX5 122 RX1 yX1_fillUpTo wsX1_fillUpTo) := goodIn_app (goodIn_of _ (by decide +kernel)) ggX5_noteWorthsBehind_X1_fillUpTo
set_option maxRecDepth 20000 in
theorem ggX5_noteWorthsBehind_X5_sideOf : GoodIn wsX5_noteWorthsBehind wsX5_sideOf := goodIn_r _ [55, 56, 57, 117, 118, 119, 120, 121, 122, 123, 124, 125] (by decide +kernel) (by decide +kernel)
set_option maxRecDepth 20000 in
theorem gX5_noteWorthsBehind_X5_sideOf : GoodIn wsX5_noteWorthsBehind (wsV RX5 66 RX5 yX5_sideOf wsX5_sideOf) := goodIn_app (goodIn_of _ (by decide +kernel)) ggX5_noteWorthsBehind_X5_sideOf
set_option maxRecDepth 20000 in
theorem ggX5_noteWorthsBehind_X5_leadOfTurn : GoodIn wsX5_noteWorthsBehind wsX5_leadOfTurn := goodIn_r _ [61, 2, 3, 51, 52, 53, 54, 55, 56, 57, 62, 63, 64, 65, 66, 67, 68, 117, 118, 119, 120, 121, 122, 123, 124, 125, 126, 127] (by decide +kernel) (by decide +kernel)
set_option maxRecDepth 20000 in
theorem gX5_noteWorthsBehind_X5_leadOfTurn : GoodIn wsX5_noteWorthsBehind (wsV RX5 146 RX5 yX5_leadOfTurn wsX5_leadOfTurn) := goodIn_app (goodIn_of _ (by decide +kernel)) ggX5_noteWorthsBehind_X5_leadOfTurn
set_option maxRecDepth 20000 in
theorem ggX5_noteWorthsBehind_X2_canMove : GoodIn wsX5_noteWorthsBehind wsX2_canMove := goodIn_r _ [71, 66, 67, 64, 68, 72, 42, 43, 44] (by decide +kernel) (by decide +kernel)
set_option maxRecDepth 20000 in
theorem gX5_noteWorthsBehind_X2_canMove : GoodIn wsX5_noteWorthsBehind (va_wsS RX5 142 yX2_canMove wsX2_canMove) := goodIn_app (goodIn_of _ (by decide +kernel)) ggX5_noteWorthsBehind_X2_canMove
set_option maxRecDepth 20000 in
theorem ggX5_noteWorthsBehind_X5_worthBehindMove : GoodIn wsX5_noteWorthsBehind wsX5_worthBehindMove := goodIn_r _ [76, 77, 78, 79, 64, 80, 81, 82, 83, 84, 85, 86, 87, 88, 46, 43, 47, 66, 67, 68, 89, 49, 50, 90, 91, 92, 54, 93, 94, 95, 13, 96, 69, 70, 71, 72, 42, 44, 73, 74, 75, 97, 98, 99, 100, 101, 102, 103, 1, 104, 105, 106, 107, 12, 14, 108, 109, 110, 111, 112, 27, 28, 9, 29, 30, 20, 113, 32, 33, 34, 35, 114, 115, 116, 117, 118, 119, 120, 121, 122, 123, 124, 125, 128, 129] (by decide +kernel) (by decide +kernel)
set_option maxRecDepth 20000 in
theorem gX5_noteWorthsBehind_X5_worthBehindMove : GoodIn wsX5_noteWorthsBehind (wsV RX5 158 RX5 yX5_worthBehindMove wsX5_worthBehindMove) := goodIn_app (goodIn_of _ (by decide +kernel)) ggX5_noteWorthsBehind_X5_worthBehindMove
theorem dX5_noteWorthsBehind_0 : decode cX5_noteWorthsBehind 0 = .ok (.aload_n 0, 1) := by decide +kernel
theorem dX5_noteWorthsBehind_1 : decode cX5_noteWorthsBehind 1 = .ok (.getfield 22, 3) := by decide +kernel
theorem dX5_noteWorthsBehind_4 : decode cX5_noteWorthsBehind 4 = .ok (.bipush 40, 2) := by decide +kernel
theorem dX5_noteWorthsBehind_6 : decode cX5_noteWorthsBehind 6 = .ok (.invokevirtual 122, 3) := by decide +kernel
theorem dX5_noteWorthsBehind_9 : decode cX5_noteWorthsBehind 9 = .ok (.aload_n 0, 1) := by decide +kernel
theorem dX5_noteWorthsBehind_10 : decode cX5_noteWorthsBehind 10 = .ok (.aload_n 0, 1) := by decide +kernel
theorem dX5_noteWorthsBehind_11 : decode cX5_noteWorthsBehind 11 = .ok (.getfield 59, 3) := by decide +kernel
theorem dX5_noteWorthsBehind_14 : decode cX5_noteWorthsBehind 14 = .ok (.invokevirtual 66, 3) := by decide +kernel
theorem dX5_noteWorthsBehind_17 : decode cX5_noteWorthsBehind 17 = .ok (.getfield 70, 3) := by decide +kernel
theorem dX5_noteWorthsBehind_20 : decode cX5_noteWorthsBehind 20 = .ok (.lstore_n 2, 1) := by decide +kernel
theorem dX5_noteWorthsBehind_21 : decode cX5_noteWorthsBehind 21 = .ok (.aload_n 0, 1) := by decide +kernel
theorem dX5_noteWorthsBehind_22 : decode cX5_noteWorthsBehind 22 = .ok (.iconst 1, 1) := by decide +kernel
theorem dX5_noteWorthsBehind_23 : decode cX5_noteWorthsBehind 23 = .ok (.aload_n 0, 1) := by decide +kernel
theorem dX5_noteWorthsBehind_24 : decode cX5_noteWorthsBehind 24 = .ok (.getfield 59, 3) := by decide +kernel
theorem dX5_noteWorthsBehind_27 : decode cX5_noteWorthsBehind 27 = .ok (.isub, 1) := by decide +kernel
theorem dX5_noteWorthsBehind_28 : decode cX5_noteWorthsBehind 28 = .ok (.invokevirtual 66, 3) := by decide +kernel
theorem dX5_noteWorthsBehind_31 : decode cX5_noteWorthsBehind 31 = .ok (.getfield 70, 3) := by decide +kernel
theorem dX5_noteWorthsBehind_34 : decode cX5_noteWorthsBehind 34 = .ok (.lstore 4, 2) := by decide +kernel
theorem dX5_noteWorthsBehind_36 : decode cX5_noteWorthsBehind 36 = .ok (.aload_n 0, 1) := by decide +kernel
theorem dX5_noteWorthsBehind_37 : decode cX5_noteWorthsBehind 37 = .ok (.invokevirtual 146, 3) := by decide +kernel
theorem dX5_noteWorthsBehind_40 : decode cX5_noteWorthsBehind 40 = .ok (.istore 6, 2) := by decide +kernel
theorem dX5_noteWorthsBehind_42 : decode cX5_noteWorthsBehind 42 = .ok (.iconst 0, 1) := by decide +kernel
theorem dX5_noteWorthsBehind_43 : decode cX5_noteWorthsBehind 43 = .ok (.istore 7, 2) := by decide +kernel
theorem dX5_noteWorthsBehind_45 : decode cX5_noteWorthsBehind 45 = .ok (.iload 7, 2) := by decide +kernel
theorem dX5_noteWorthsBehind_47 : decode cX5_noteWorthsBehind 47 = .ok (.aload_n 0, 1) := by decide +kernel
theorem dX5_noteWorthsBehind_48 : decode cX5_noteWorthsBehind 48 = .ok (.getfield 28, 3) := by decide +kernel
theorem dX5_noteWorthsBehind_51 : decode cX5_noteWorthsBehind 51 = .ok (.arraylength, 1) := by decide +kernel
theorem dX5_noteWorthsBehind_52 : decode cX5_noteWorthsBehind 52 = .ok (.if_icmp .ge 51, 3) := by decide +kernel
theorem dX5_noteWorthsBehind_55 : decode cX5_noteWorthsBehind 55 = .ok (.aload_n 0, 1) := by decide +kernel
theorem dX5_noteWorthsBehind_56 : decode cX5_noteWorthsBehind 56 = .ok (.getfield 28, 3) := by decide +kernel
theorem dX5_noteWorthsBehind_59 : decode cX5_noteWorthsBehind 59 = .ok (.iload 7, 2) := by decide +kernel
theorem dX5_noteWorthsBehind_61 : decode cX5_noteWorthsBehind 61 = .ok (.lload_n 2, 1) := by decide +kernel
theorem dX5_noteWorthsBehind_62 : decode cX5_noteWorthsBehind 62 = .ok (.lload 4, 2) := by decide +kernel
theorem dX5_noteWorthsBehind_64 : decode cX5_noteWorthsBehind 64 = .ok (.iload 7, 2) := by decide +kernel
theorem dX5_noteWorthsBehind_66 : decode cX5_noteWorthsBehind 66 = .ok (.aload_n 0, 1) := by decide +kernel
theorem dX5_noteWorthsBehind_67 : decode cX5_noteWorthsBehind 67 = .ok (.getfield 46, 3) := by decide +kernel
theorem dX5_noteWorthsBehind_70 : decode cX5_noteWorthsBehind 70 = .ok (.invokestatic 142, 3) := by decide +kernel
theorem dX5_noteWorthsBehind_73 : decode cX5_noteWorthsBehind 73 = .ok (.ifCond .eq 22, 3) := by decide +kernel
theorem dX5_noteWorthsBehind_76 : decode cX5_noteWorthsBehind 76 = .ok (.aload_n 0, 1) := by decide +kernel
theorem dX5_noteWorthsBehind_77 : decode cX5_noteWorthsBehind 77 = .ok (.lload_n 2, 1) := by decide +kernel
theorem dX5_noteWorthsBehind_78 : decode cX5_noteWorthsBehind 78 = .ok (.lload 4, 2) := by decide +kernel
theorem dX5_noteWorthsBehind_80 : decode cX5_noteWorthsBehind 80 = .ok (.iload 6, 2) := by decide +kernel
theorem dX5_noteWorthsBehind_82 : decode cX5_noteWorthsBehind 82 = .ok (.iload 7, 2) := by decide +kernel
theorem dX5_noteWorthsBehind_84 : decode cX5_noteWorthsBehind 84 = .ok (.aload_n 0, 1) := by decide +kernel
theorem dX5_noteWorthsBehind_85 : decode cX5_noteWorthsBehind 85 = .ok (.getfield 46, 3) := by decide +kernel
theorem dX5_noteWorthsBehind_88 : decode cX5_noteWorthsBehind 88 = .ok (.iload_n 1, 1) := by decide +kernel
theorem dX5_noteWorthsBehind_89 : decode cX5_noteWorthsBehind 89 = .ok (.invokevirtual 158, 3) := by decide +kernel
theorem dX5_noteWorthsBehind_92 : decode cX5_noteWorthsBehind 92 = .ok (.goto 4, 3) := by decide +kernel
theorem dX5_noteWorthsBehind_95 : decode cX5_noteWorthsBehind 95 = .ok (.iconst (-1), 1) := by decide +kernel
theorem dX5_noteWorthsBehind_96 : decode cX5_noteWorthsBehind 96 = .ok (.iastore, 1) := by decide +kernel
theorem dX5_noteWorthsBehind_97 : decode cX5_noteWorthsBehind 97 = .ok (.iinc 7 1, 3) := by decide +kernel
theorem dX5_noteWorthsBehind_100 : decode cX5_noteWorthsBehind 100 = .ok (.goto (-55), 3) := by decide +kernel
theorem dX5_noteWorthsBehind_103 : decode cX5_noteWorthsBehind 103 = .ok (.return_, 1) := by decide +kernel
theorem dX5_countBetter_0 : decode cX5_countBetter 0 = .ok (.iconst 0, 1) := by decide +kernel
theorem dX5_countBetter_1 : decode cX5_countBetter 1 = .ok (.istore_n 3, 1) := by decide +kernel
theorem dX5_countBetter_2 : decode cX5_countBetter 2 = .ok (.iconst 0, 1) := by decide +kernel
theorem dX5_countBetter_3 : decode cX5_countBetter 3 = .ok (.istore 4, 2) := by decide +kernel
theorem dX5_countBetter_5 : decode cX5_countBetter 5 = .ok (.iload 4, 2) := by decide +kernel
theorem dX5_countBetter_7 : decode cX5_countBetter 7 = .ok (.aload_n 0, 1) := by decide +kernel
theorem dX5_countBetter_8 : decode cX5_countBetter 8 = .ok (.getfield 28, 3) := by decide +kernel
theorem dX5_countBetter_11 : decode cX5_countBetter 11 = .ok (.arraylength, 1) := by decide +kernel
theorem dX5_countBetter_12 : decode cX5_countBetter 12 = .ok (.if_icmp .ge 40, 3) := by decide +kernel
theorem dX5_countBetter_15 : decode cX5_countBetter 15 = .ok (.aload_n 0, 1) := by decide +kernel
theorem dX5_countBetter_16 : decode cX5_countBetter 16 = .ok (.getfield 28, 3) := by decide +kernel
theorem dX5_countBetter_19 : decode cX5_countBetter 19 = .ok (.iload 4, 2) := by decide +kernel
theorem dX5_countBetter_21 : decode cX5_countBetter 21 = .ok (.iaload, 1) := by decide +kernel
theorem dX5_countBetter_22 : decode cX5_countBetter 22 = .ok (.iload_n 2, 1) := by decide +kernel
theorem dX5_countBetter_23 : decode cX5_countBetter 23 = .ok (.if_icmp .gt 20, 3) := by decide +kernel
theorem dX5_countBetter_26 : decode cX5_countBetter 26 = .ok (.aload_n 0, 1) := by decide +kernel
theorem dX5_countBetter_27 : decode cX5_countBetter 27 = .ok (.getfield 28, 3) := by decide +kernel
theorem dX5_countBetter_30 : decode cX5_countBetter 30 = .ok (.iload 4, 2) := by decide +kernel
theorem dX5_countBetter_32 : decode cX5_countBetter 32 = .ok (.iaload, 1) := by decide +kernel
theorem dX5_countBetter_33 : decode cX5_countBetter 33 = .ok (.iload_n 2, 1) := by decide +kernel
theorem dX5_countBetter_34 : decode cX5_countBetter 34 = .ok (.if_icmp .ne 12, 3) := by decide +kernel
theorem dX5_countBetter_37 : decode cX5_countBetter 37 = .ok (.iload 4, 2) := by decide +kernel
theorem dX5_countBetter_39 : decode cX5_countBetter 39 = .ok (.iload_n 1, 1) := by decide +kernel
theorem dX5_countBetter_40 : decode cX5_countBetter 40 = .ok (.if_icmp .ge 6, 3) := by decide +kernel
theorem dX5_countBetter_43 : decode cX5_countBetter 43 = .ok (.iinc 3 1, 3) := by decide +kernel
theorem dX5_countBetter_46 : decode cX5_countBetter 46 = .ok (.iinc 4 1, 3) := by decide +kernel
theorem dX5_countBetter_49 : decode cX5_countBetter 49 = .ok (.goto (-44), 3) := by decide +kernel
theorem dX5_countBetter_52 : decode cX5_countBetter 52 = .ok (.iload_n 3, 1) := by decide +kernel
theorem dX5_countBetter_53 : decode cX5_countBetter 53 = .ok (.ireturn, 1) := by decide +kernel
set_option maxRecDepth 20000 in
theorem ggX5_worthToThrow_X5_worthAtOnce : GoodIn wsX5_worthToThrow wsX5_worthAtOnce := goodIn_r _ [6, 7, 8, 9, 10, 11, 12, 13, 14, 15, 16, 17, 18, 19, 20, 21, 22, 23, 24, 25, 26, 27, 28, 29, 30, 31, 32, 33, 74, 75, 76, 77, 78, 79, 80, 81, 82, 83, 84] (by decide +kernel) (by decide +kernel)
set_option maxRecDepth 20000 in
theorem gX5_worthToThrow_X5_worthAtOnce : GoodIn wsX5_worthToThrow (wsV RX5 162 RX5 yX5_worthAtOnce wsX5_worthAtOnce) := goodIn_app (goodIn_of _ (by decide +kernel)) ggX5_worthToThrow_X5_worthAtOnce
set_option maxRecDepth 20000 in
theorem ggX5_worthToThrow_X0_timesIn16 : GoodIn wsX5_worthToThrow wsX0_timesIn16 := goodIn_r _ [37, 38] (by decide +kernel) (by decide +kernel)
set_option maxRecDepth 20000 in
theorem gX5_worthToThrow_X0_timesIn16 : GoodIn wsX5_worthToThrow (va_wsS RX5 166 yX0_timesIn16 wsX0_timesIn16) := goodIn_app (goodIn_of _ (by decide +kernel)) ggX5_worthToThrow_X0_timesIn16
set_option maxRecDepth 20000 in
theorem ggX5_worthToThrow_X5_worthBehindThrow : GoodIn wsX5_worthToThrow wsX5_worthBehindThrow := goodIn_r _ [64, 11, 12, 13, 14, 43, 65, 66, 21, 67, 26, 20, 22, 68, 69, 56, 70, 71, 72, 73, 5, 61, 62, 63, 42, 44, 45, 46, 47, 48, 49, 50, 51, 52, 53, 54, 55, 57, 58, 59, 60, 0, 1, 2, 3, 4, 6, 7, 8, 9, 10, 15, 16, 17, 18, 19, 23, 24, 25, 27, 28, 29, 30, 31, 32, 33, 34, 35, 36, 37, 38, 39, 40, 41, 74, 75, 76, 77, 78, 79, 80, 81, 82, 83, 84] (by decide +kernel) (by decide +kernel)
set_option maxRecDepth 20000 in
theorem gX5_worthToThrow_X5_worthBehindThrow : GoodIn wsX5_worthToThrow (wsV RX5 154 RX5 yX5_worthBehindThrow wsX5_worthBehindThrow) := goodIn_app (goodIn_of _ (by decide +kernel)) ggX5_worthToThrow_X5_worthBehindThrow
theorem dX5_worthToThrow_0 : decode cX5_worthToThrow 0 = .ok (.iload 6, 2) := by decide +kernel
theorem dX5_worthToThrow_2 : decode cX5_worthToThrow 2 = .ok (.ifCond .gt 12, 3) := by decide +kernel
theorem dX5_worthToThrow_5 : decode cX5_worthToThrow 5 = .ok (.aload_n 0, 1) := by decide +kernel
theorem dX5_worthToThrow_6 : decode cX5_worthToThrow 6 = .ok (.lload_n 1, 1) := by decide +kernel
theorem dX5_worthToThrow_7 : decode cX5_worthToThrow 7 = .ok (.lload_n 3, 1) := by decide +kernel
theorem dX5_worthToThrow_8 : decode cX5_worthToThrow 8 = .ok (.iload 5, 2) := by decide +kernel
theorem dX5_worthToThrow_10 : decode cX5_worthToThrow 10 = .ok (.invokevirtual 162, 3) := by decide +kernel
theorem dX5_worthToThrow_13 : decode cX5_worthToThrow 13 = .ok (.ireturn, 1) := by decide +kernel
theorem dX5_worthToThrow_14 : decode cX5_worthToThrow 14 = .ok (.lconst 0, 1) := by decide +kernel
theorem dX5_worthToThrow_15 : decode cX5_worthToThrow 15 = .ok (.lstore 7, 2) := by decide +kernel
theorem dX5_worthToThrow_17 : decode cX5_worthToThrow 17 = .ok (.iconst 0, 1) := by decide +kernel
theorem dX5_worthToThrow_18 : decode cX5_worthToThrow 18 = .ok (.istore 9, 2) := by decide +kernel
theorem dX5_worthToThrow_20 : decode cX5_worthToThrow 20 = .ok (.iload 9, 2) := by decide +kernel
theorem dX5_worthToThrow_22 : decode cX5_worthToThrow 22 = .ok (.iconst 4, 1) := by decide +kernel
theorem dX5_worthToThrow_23 : decode cX5_worthToThrow 23 = .ok (.if_icmp .gt 36, 3) := by decide +kernel
theorem dX5_worthToThrow_26 : decode cX5_worthToThrow 26 = .ok (.lload 7, 2) := by decide +kernel
theorem dX5_worthToThrow_28 : decode cX5_worthToThrow 28 = .ok (.iload 9, 2) := by decide +kernel
theorem dX5_worthToThrow_30 : decode cX5_worthToThrow 30 = .ok (.invokestatic 166, 3) := by decide +kernel
theorem dX5_worthToThrow_33 : decode cX5_worthToThrow 33 = .ok (.i2l, 1) := by decide +kernel
theorem dX5_worthToThrow_34 : decode cX5_worthToThrow 34 = .ok (.aload_n 0, 1) := by decide +kernel
theorem dX5_worthToThrow_35 : decode cX5_worthToThrow 35 = .ok (.lload_n 1, 1) := by decide +kernel
theorem dX5_worthToThrow_36 : decode cX5_worthToThrow 36 = .ok (.lload_n 3, 1) := by decide +kernel
theorem dX5_worthToThrow_37 : decode cX5_worthToThrow 37 = .ok (.iload 5, 2) := by decide +kernel
theorem dX5_worthToThrow_39 : decode cX5_worthToThrow 39 = .ok (.iload 9, 2) := by decide +kernel
theorem dX5_worthToThrow_41 : decode cX5_worthToThrow 41 = .ok (.iload 6, 2) := by decide +kernel
theorem dX5_worthToThrow_43 : decode cX5_worthToThrow 43 = .ok (.iconst 1, 1) := by decide +kernel
theorem dX5_worthToThrow_44 : decode cX5_worthToThrow 44 = .ok (.isub, 1) := by decide +kernel
theorem dX5_worthToThrow_45 : decode cX5_worthToThrow 45 = .ok (.invokevirtual 154, 3) := by decide +kernel
theorem dX5_worthToThrow_48 : decode cX5_worthToThrow 48 = .ok (.i2l, 1) := by decide +kernel
theorem dX5_worthToThrow_49 : decode cX5_worthToThrow 49 = .ok (.lmul, 1) := by decide +kernel
theorem dX5_worthToThrow_50 : decode cX5_worthToThrow 50 = .ok (.ladd, 1) := by decide +kernel
theorem dX5_worthToThrow_51 : decode cX5_worthToThrow 51 = .ok (.lstore 7, 2) := by decide +kernel
theorem dX5_worthToThrow_53 : decode cX5_worthToThrow 53 = .ok (.iinc 9 1, 3) := by decide +kernel
theorem dX5_worthToThrow_56 : decode cX5_worthToThrow 56 = .ok (.goto (-36), 3) := by decide +kernel
theorem dX5_worthToThrow_59 : decode cX5_worthToThrow 59 = .ok (.lload 7, 2) := by decide +kernel
theorem dX5_worthToThrow_61 : decode cX5_worthToThrow 61 = .ok (.ldc2_w 169, 3) := by decide +kernel
theorem dX5_worthToThrow_64 : decode cX5_worthToThrow 64 = .ok (.ldiv, 1) := by decide +kernel
theorem dX5_worthToThrow_65 : decode cX5_worthToThrow 65 = .ok (.l2i, 1) := by decide +kernel
theorem dX5_worthToThrow_66 : decode cX5_worthToThrow 66 = .ok (.ireturn, 1) := by decide +kernel
set_option maxRecDepth 20000 in
theorem ggX5_worthBehindThrow_X2_canMove : GoodIn wsX5_worthBehindThrow wsX2_canMove := goodIn_r _ [9, 10, 11, 8, 12, 13, 14, 15, 16] (by decide +kernel) (by decide +kernel)
set_option maxRecDepth 20000 in
theorem gX5_worthBehindThrow_X2_canMove : GoodIn wsX5_worthBehindThrow (va_wsS RX5 142 yX2_canMove wsX2_canMove) := goodIn_app (goodIn_of _ (by decide +kernel)) ggX5_worthBehindThrow_X2_canMove
set_option maxRecDepth 20000 in
theorem ggX5_worthBehindThrow_X5_worthBehindMove : GoodIn wsX5_worthBehindThrow wsX5_worthBehindMove := goodIn_r _ [24, 5, 25, 26, 8, 27, 28, 29, 30, 31, 32, 33, 34, 35, 36, 15, 37, 10, 11, 12, 38, 39, 40, 21, 22, 23, 20, 0, 1, 2, 3, 4, 6, 7, 9, 13, 14, 16, 17, 18, 19, 41, 42, 43, 44, 45, 46, 47, 48, 49, 50, 51, 52, 53, 54, 55, 56, 57, 58, 59, 60, 61, 62, 63, 64, 65, 66, 67, 68, 69, 70, 71, 72, 73, 74, 75, 76, 77, 78, 79, 80, 81, 82, 83, 84] (by decide +kernel) (by decide +kernel)
set_option maxRecDepth 20000 in
theorem gX5_worthBehindThrow_X5_worthBehindMove : GoodIn wsX5_worthBehindThrow (wsV RX5 158 RX5 yX5_worthBehindMove wsX5_worthBehindMove) := goodIn_app (goodIn_of _ (by decide +kernel)) ggX5_worthBehindThrow_X5_worthBehindMove
set_option maxRecDepth 20000 in
theorem ggX5_worthBehindThrow_X5_worthToThrow : GoodIn wsX5_worthBehindThrow wsX5_worthToThrow := goodIn_r _ [41, 42, 43, 44, 45, 20, 46, 47, 48, 49, 50, 1, 2, 3, 4, 51, 52, 53, 54, 55, 11, 8, 12, 56, 57, 58, 10, 59, 60, 61, 62, 63, 64, 65, 66, 67, 68, 69, 70, 71, 72, 73, 24, 5, 25, 26, 27, 28, 29, 30, 31, 32, 33, 34, 35, 36, 15, 37, 38, 39, 40, 21, 22, 23, 0, 6, 7, 9, 13, 14, 16, 17, 18, 19, 74, 75, 76, 77, 78, 79, 80, 81, 82, 83, 84] (by decide +kernel) (by decide +kernel)
set_option maxRecDepth 20000 in
theorem gX5_worthBehindThrow_X5_worthToThrow : GoodIn wsX5_worthBehindThrow (wsV RX5 150 RX5 yX5_worthToThrow wsX5_worthToThrow) := goodIn_app (goodIn_of _ (by decide +kernel)) ggX5_worthBehindThrow_X5_worthToThrow
theorem dX5_worthBehindThrow_0 : decode cX5_worthBehindThrow 0 = .ok (.iconst (-1), 1) := by decide +kernel
theorem dX5_worthBehindThrow_1 : decode cX5_worthBehindThrow 1 = .ok (.istore 8, 2) := by decide +kernel
theorem dX5_worthBehindThrow_3 : decode cX5_worthBehindThrow 3 = .ok (.iconst 0, 1) := by decide +kernel
theorem dX5_worthBehindThrow_4 : decode cX5_worthBehindThrow 4 = .ok (.istore 9, 2) := by decide +kernel
theorem dX5_worthBehindThrow_6 : decode cX5_worthBehindThrow 6 = .ok (.iload 9, 2) := by decide +kernel
theorem dX5_worthBehindThrow_8 : decode cX5_worthBehindThrow 8 = .ok (.bipush 14, 2) := by decide +kernel
theorem dX5_worthBehindThrow_10 : decode cX5_worthBehindThrow 10 = .ok (.if_icmp .gt 42, 3) := by decide +kernel
theorem dX5_worthBehindThrow_13 : decode cX5_worthBehindThrow 13 = .ok (.lload_n 1, 1) := by decide +kernel
theorem dX5_worthBehindThrow_14 : decode cX5_worthBehindThrow 14 = .ok (.lload_n 3, 1) := by decide +kernel
theorem dX5_worthBehindThrow_15 : decode cX5_worthBehindThrow 15 = .ok (.iload 9, 2) := by decide +kernel
theorem dX5_worthBehindThrow_17 : decode cX5_worthBehindThrow 17 = .ok (.iload 6, 2) := by decide +kernel
theorem dX5_worthBehindThrow_19 : decode cX5_worthBehindThrow 19 = .ok (.invokestatic 142, 3) := by decide +kernel
theorem dX5_worthBehindThrow_22 : decode cX5_worthBehindThrow 22 = .ok (.ifCond .eq 24, 3) := by decide +kernel
theorem dX5_worthBehindThrow_25 : decode cX5_worthBehindThrow 25 = .ok (.iload 8, 2) := by decide +kernel
theorem dX5_worthBehindThrow_27 : decode cX5_worthBehindThrow 27 = .ok (.aload_n 0, 1) := by decide +kernel
theorem dX5_worthBehindThrow_28 : decode cX5_worthBehindThrow 28 = .ok (.lload_n 1, 1) := by decide +kernel
theorem dX5_worthBehindThrow_29 : decode cX5_worthBehindThrow 29 = .ok (.lload_n 3, 1) := by decide +kernel
theorem dX5_worthBehindThrow_30 : decode cX5_worthBehindThrow 30 = .ok (.iload 5, 2) := by decide +kernel
theorem dX5_worthBehindThrow_32 : decode cX5_worthBehindThrow 32 = .ok (.iload 9, 2) := by decide +kernel
theorem dX5_worthBehindThrow_34 : decode cX5_worthBehindThrow 34 = .ok (.iload 6, 2) := by decide +kernel
theorem dX5_worthBehindThrow_36 : decode cX5_worthBehindThrow 36 = .ok (.iload 7, 2) := by decide +kernel
theorem dX5_worthBehindThrow_38 : decode cX5_worthBehindThrow 38 = .ok (.invokevirtual 158, 3) := by decide +kernel
theorem dX5_worthBehindThrow_41 : decode cX5_worthBehindThrow 41 = .ok (.invokestatic 171, 3) := by decide +kernel
theorem dX5_worthBehindThrow_44 : decode cX5_worthBehindThrow 44 = .ok (.istore 8, 2) := by decide +kernel
theorem dX5_worthBehindThrow_46 : decode cX5_worthBehindThrow 46 = .ok (.iinc 9 1, 3) := by decide +kernel
theorem dX5_worthBehindThrow_49 : decode cX5_worthBehindThrow 49 = .ok (.goto (-43), 3) := by decide +kernel
theorem dX5_worthBehindThrow_52 : decode cX5_worthBehindThrow 52 = .ok (.iload 8, 2) := by decide +kernel
theorem dX5_worthBehindThrow_54 : decode cX5_worthBehindThrow 54 = .ok (.iconst (-1), 1) := by decide +kernel
theorem dX5_worthBehindThrow_55 : decode cX5_worthBehindThrow 55 = .ok (.if_icmp .eq 8, 3) := by decide +kernel
theorem dX5_worthBehindThrow_58 : decode cX5_worthBehindThrow 58 = .ok (.iload 8, 2) := by decide +kernel
theorem dX5_worthBehindThrow_60 : decode cX5_worthBehindThrow 60 = .ok (.goto 17, 3) := by decide +kernel
theorem dX5_worthBehindThrow_63 : decode cX5_worthBehindThrow 63 = .ok (.ldc 105, 2) := by decide +kernel
theorem dX5_worthBehindThrow_65 : decode cX5_worthBehindThrow 65 = .ok (.aload_n 0, 1) := by decide +kernel
theorem dX5_worthBehindThrow_66 : decode cX5_worthBehindThrow 66 = .ok (.lload_n 3, 1) := by decide +kernel
theorem dX5_worthBehindThrow_67 : decode cX5_worthBehindThrow 67 = .ok (.lload_n 1, 1) := by decide +kernel
theorem dX5_worthBehindThrow_68 : decode cX5_worthBehindThrow 68 = .ok (.iload 5, 2) := by decide +kernel
theorem dX5_worthBehindThrow_70 : decode cX5_worthBehindThrow 70 = .ok (.ineg, 1) := by decide +kernel
theorem dX5_worthBehindThrow_71 : decode cX5_worthBehindThrow 71 = .ok (.iload 7, 2) := by decide +kernel
theorem dX5_worthBehindThrow_73 : decode cX5_worthBehindThrow 73 = .ok (.invokevirtual 150, 3) := by decide +kernel
theorem dX5_worthBehindThrow_76 : decode cX5_worthBehindThrow 76 = .ok (.isub, 1) := by decide +kernel
theorem dX5_worthBehindThrow_77 : decode cX5_worthBehindThrow 77 = .ok (.ireturn, 1) := by decide +kernel
set_option maxRecDepth 20000 in
theorem ggX5_worthBehindMove_X2_shifted : GoodIn wsX5_worthBehindMove wsX2_shifted := goodIn_r _ [5] (by decide +kernel) (by decide +kernel)
set_option maxRecDepth 20000 in
theorem gX5_worthBehindMove_X2_shifted : GoodIn wsX5_worthBehindMove (va_wsS RX5 74 yX2_shifted wsX2_shifted) := goodIn_app (goodIn_of _ (by decide +kernel)) ggX5_worthBehindMove_X2_shifted
set_option maxRecDepth 20000 in
theorem ggX5_worthBehindMove_X2_isAllHome : GoodIn wsX5_worthBehindMove wsX2_isAllHome := goodIn_r _ [8, 9] (by decide +kernel) (by decide +kernel)
set_option maxRecDepth 20000 in
theorem gX5_worthBehindMove_X2_isAllHome : GoodIn wsX5_worthBehindMove (va_wsS RX5 87 yX2_isAllHome wsX2_isAllHome) := goodIn_app (goodIn_of _ (by decide +kernel)) ggX5_worthBehindMove_X2_isAllHome
set_option maxRecDepth 20000 in
theorem ggX5_worthBehindMove_X2_canBeTaken : GoodIn wsX5_worthBehindMove wsX2_canBeTaken := goodIn_r _ [12, 13, 14, 15, 16, 17, 18, 4, 19] (by decide +kernel) (by decide +kernel)
set_option maxRecDepth 20000 in
theorem gX5_worthBehindMove_X2_canBeTaken : GoodIn wsX5_worthBehindMove (va_wsS RX5 80 yX2_canBeTaken wsX2_canBeTaken) := goodIn_app (goodIn_of _ (by decide +kernel)) ggX5_worthBehindMove_X2_canBeTaken
set_option maxRecDepth 20000 in
theorem ggX5_worthBehindMove_X4_isRosette : GoodIn wsX5_worthBehindMove wsX4_isRosette := goodIn_r _ [22] (by decide +kernel) (by decide +kernel)
set_option maxRecDepth 20000 in
theorem gX5_worthBehindMove_X4_isRosette : GoodIn wsX5_worthBehindMove (va_wsS RX5 91 yX4_isRosette wsX4_isRosette) := goodIn_app (goodIn_of _ (by decide +kernel)) ggX5_worthBehindMove_X4_isRosette
set_option maxRecDepth 20000 in
theorem ggX5_worthBehindMove_X5_worthToThrow : GoodIn wsX5_worthBehindMove wsX5_worthToThrow := goodIn_r _ [41, 42, 43, 44, 45, 26, 46, 47, 48, 49, 50, 28, 29, 30, 31, 51, 52, 53, 54, 55, 18, 4, 19, 56, 57, 58, 17, 59, 60, 61, 62, 63, 64, 65, 66, 67, 68, 69, 70, 71, 72, 73, 0, 1, 2, 3, 5, 6, 7, 8, 9, 10, 11, 12, 13, 14, 15, 16, 20, 21, 22, 23, 24, 25, 27, 32, 33, 34, 35, 36, 37, 38, 39, 40, 74, 75, 76, 77, 78, 79, 80, 81, 82, 83, 84] (by decide +kernel) (by decide +kernel)
set_option maxRecDepth 20000 in
theorem gX5_worthBehindMove_X5_worthToThrow : GoodIn wsX5_worthBehindMove (wsV RX5 150 RX5 yX5_worthToThrow wsX5_worthToThrow) := goodIn_app (goodIn_of _ (by decide +kernel)) ggX5_worthBehindMove_X5_worthToThrow
theorem dX5_worthBehindMove_0 : decode cX5_worthBehindMove 0 = .ok (.iload 6, 2) := by decide +kernel
theorem dX5_worthBehindMove_2 : decode cX5_worthBehindMove 2 = .ok (.iload 7, 2) := by decide +kernel
theorem dX5_worthBehindMove_4 : decode cX5_worthBehindMove 4 = .ok (.iadd, 1) := by decide +kernel
theorem dX5_worthBehindMove_5 : decode cX5_worthBehindMove 5 = .ok (.istore 9, 2) := by decide +kernel
theorem dX5_worthBehindMove_7 : decode cX5_worthBehindMove 7 = .ok (.lload_n 1, 1) := by decide +kernel
theorem dX5_worthBehindMove_8 : decode cX5_worthBehindMove 8 = .ok (.iload 6, 2) := by decide +kernel
theorem dX5_worthBehindMove_10 : decode cX5_worthBehindMove 10 = .ok (.iload 9, 2) := by decide +kernel
theorem dX5_worthBehindMove_12 : decode cX5_worthBehindMove 12 = .ok (.invokestatic 74, 3) := by decide +kernel
theorem dX5_worthBehindMove_15 : decode cX5_worthBehindMove 15 = .ok (.lstore 10, 2) := by decide +kernel
theorem dX5_worthBehindMove_17 : decode cX5_worthBehindMove 17 = .ok (.lload 10, 2) := by decide +kernel
theorem dX5_worthBehindMove_19 : decode cX5_worthBehindMove 19 = .ok (.invokestatic 87, 3) := by decide +kernel
theorem dX5_worthBehindMove_22 : decode cX5_worthBehindMove 22 = .ok (.ifCond .eq 6, 3) := by decide +kernel
theorem dX5_worthBehindMove_25 : decode cX5_worthBehindMove 25 = .ok (.ldc 105, 2) := by decide +kernel
theorem dX5_worthBehindMove_27 : decode cX5_worthBehindMove 27 = .ok (.ireturn, 1) := by decide +kernel
theorem dX5_worthBehindMove_28 : decode cX5_worthBehindMove 28 = .ok (.lload_n 3, 1) := by decide +kernel
theorem dX5_worthBehindMove_29 : decode cX5_worthBehindMove 29 = .ok (.lstore 12, 2) := by decide +kernel
theorem dX5_worthBehindMove_31 : decode cX5_worthBehindMove 31 = .ok (.iload 5, 2) := by decide +kernel
theorem dX5_worthBehindMove_33 : decode cX5_worthBehindMove 33 = .ok (.iload 7, 2) := by decide +kernel
theorem dX5_worthBehindMove_35 : decode cX5_worthBehindMove 35 = .ok (.iadd, 1) := by decide +kernel
theorem dX5_worthBehindMove_36 : decode cX5_worthBehindMove 36 = .ok (.istore 14, 2) := by decide +kernel
theorem dX5_worthBehindMove_38 : decode cX5_worthBehindMove 38 = .ok (.lload_n 3, 1) := by decide +kernel
theorem dX5_worthBehindMove_39 : decode cX5_worthBehindMove 39 = .ok (.iload 9, 2) := by decide +kernel
theorem dX5_worthBehindMove_41 : decode cX5_worthBehindMove 41 = .ok (.invokestatic 80, 3) := by decide +kernel
theorem dX5_worthBehindMove_44 : decode cX5_worthBehindMove 44 = .ok (.ifCond .eq 19, 3) := by decide +kernel
theorem dX5_worthBehindMove_47 : decode cX5_worthBehindMove 47 = .ok (.lload_n 3, 1) := by decide +kernel
theorem dX5_worthBehindMove_48 : decode cX5_worthBehindMove 48 = .ok (.iload 9, 2) := by decide +kernel
theorem dX5_worthBehindMove_50 : decode cX5_worthBehindMove 50 = .ok (.iconst 0, 1) := by decide +kernel
theorem dX5_worthBehindMove_51 : decode cX5_worthBehindMove 51 = .ok (.invokestatic 74, 3) := by decide +kernel
theorem dX5_worthBehindMove_54 : decode cX5_worthBehindMove 54 = .ok (.lstore 12, 2) := by decide +kernel
theorem dX5_worthBehindMove_56 : decode cX5_worthBehindMove 56 = .ok (.iload 14, 2) := by decide +kernel
theorem dX5_worthBehindMove_58 : decode cX5_worthBehindMove 58 = .ok (.iload 9, 2) := by decide +kernel
theorem dX5_worthBehindMove_60 : decode cX5_worthBehindMove 60 = .ok (.iadd, 1) := by decide +kernel
theorem dX5_worthBehindMove_61 : decode cX5_worthBehindMove 61 = .ok (.istore 14, 2) := by decide +kernel
theorem dX5_worthBehindMove_63 : decode cX5_worthBehindMove 63 = .ok (.iload 9, 2) := by decide +kernel
theorem dX5_worthBehindMove_65 : decode cX5_worthBehindMove 65 = .ok (.invokestatic 91, 3) := by decide +kernel
theorem dX5_worthBehindMove_68 : decode cX5_worthBehindMove 68 = .ok (.ifCond .eq 16, 3) := by decide +kernel
theorem dX5_worthBehindMove_71 : decode cX5_worthBehindMove 71 = .ok (.aload_n 0, 1) := by decide +kernel
theorem dX5_worthBehindMove_72 : decode cX5_worthBehindMove 72 = .ok (.lload 10, 2) := by decide +kernel
theorem dX5_worthBehindMove_74 : decode cX5_worthBehindMove 74 = .ok (.lload 12, 2) := by decide +kernel
theorem dX5_worthBehindMove_76 : decode cX5_worthBehindMove 76 = .ok (.iload 14, 2) := by decide +kernel
theorem dX5_worthBehindMove_78 : decode cX5_worthBehindMove 78 = .ok (.iload 8, 2) := by decide +kernel
theorem dX5_worthBehindMove_80 : decode cX5_worthBehindMove 80 = .ok (.invokevirtual 150, 3) := by decide +kernel
theorem dX5_worthBehindMove_83 : decode cX5_worthBehindMove 83 = .ok (.ireturn, 1) := by decide +kernel
theorem dX5_worthBehindMove_84 : decode cX5_worthBehindMove 84 = .ok (.ldc 105, 2) := by decide +kernel
theorem dX5_worthBehindMove_86 : decode cX5_worthBehindMove 86 = .ok (.aload_n 0, 1) := by decide +kernel
theorem dX5_worthBehindMove_87 : decode cX5_worthBehindMove 87 = .ok (.lload 12, 2) := by decide +kernel
theorem dX5_worthBehindMove_89 : decode cX5_worthBehindMove 89 = .ok (.lload 10, 2) := by decide +kernel
theorem dX5_worthBehindMove_91 : decode cX5_worthBehindMove 91 = .ok (.iload 14, 2) := by decide +kernel
theorem dX5_worthBehindMove_93 : decode cX5_worthBehindMove 93 = .ok (.ineg, 1) := by decide +kernel
theorem dX5_worthBehindMove_94 : decode cX5_worthBehindMove 94 = .ok (.iload 8, 2) := by decide +kernel
theorem dX5_worthBehindMove_96 : decode cX5_worthBehindMove 96 = .ok (.invokevirtual 150, 3) := by decide +kernel
theorem dX5_worthBehindMove_99 : decode cX5_worthBehindMove 99 = .ok (.isub, 1) := by decide +kernel
theorem dX5_worthBehindMove_100 : decode cX5_worthBehindMove 100 = .ok (.ireturn, 1) := by decide +kernel
set_option maxRecDepth 20000 in
theorem ggX5_worthAtOnce_X2_countAt : GoodIn wsX5_worthAtOnce wsX2_countAt := goodIn_r _ [16] (by decide +kernel) (by decide +kernel)
set_option maxRecDepth 20000 in
theorem gX5_worthAtOnce_X2_countAt : GoodIn wsX5_worthAtOnce (va_wsS RX5 94 yX2_countAt wsX2_countAt) := goodIn_app (goodIn_of _ (by decide +kernel)) ggX5_worthAtOnce_X2_countAt
set_option maxRecDepth 20000 in
theorem ggX5_worthAtOnce_X2_firstPlace : GoodIn wsX5_worthAtOnce wsX2_firstPlace := goodIn_r _ [19, 20, 14, 15, 16] (by decide +kernel) (by decide +kernel)
set_option maxRecDepth 20000 in
theorem gX5_worthAtOnce_X2_firstPlace : GoodIn wsX5_worthAtOnce (va_wsS RX5 176 yX2_firstPlace wsX2_firstPlace) := goodIn_app (goodIn_of _ (by decide +kernel)) ggX5_worthAtOnce_X2_firstPlace
set_option maxRecDepth 20000 in
theorem ggX5_worthAtOnce_X1_held : GoodIn wsX5_worthAtOnce wsX1_held := goodIn_r _ [25, 26, 27, 37, 38] (by decide +kernel) (by decide +kernel)
set_option maxRecDepth 20000 in
theorem gX5_worthAtOnce_X1_held : GoodIn wsX5_worthAtOnce (wsV RX5 125 RX1 yX1_held wsX1_held) := goodIn_app (goodIn_of _ (by decide +kernel)) ggX5_worthAtOnce_X1_held
theorem dX5_worthAtOnce_0 : decode cX5_worthAtOnce 0 = .ok (.aload_n 0, 1) := by decide +kernel
theorem dX5_worthAtOnce_1 : decode cX5_worthAtOnce 1 = .ok (.getfield 135, 3) := by decide +kernel
theorem dX5_worthAtOnce_4 : decode cX5_worthAtOnce 4 = .ok (.iconst 1, 1) := by decide +kernel
theorem dX5_worthAtOnce_5 : decode cX5_worthAtOnce 5 = .ok (.isub, 1) := by decide +kernel
theorem dX5_worthAtOnce_6 : decode cX5_worthAtOnce 6 = .ok (.istore 6, 2) := by decide +kernel
theorem dX5_worthAtOnce_8 : decode cX5_worthAtOnce 8 = .ok (.lload_n 1, 1) := by decide +kernel
theorem dX5_worthAtOnce_9 : decode cX5_worthAtOnce 9 = .ok (.bipush 15, 2) := by decide +kernel
theorem dX5_worthAtOnce_11 : decode cX5_worthAtOnce 11 = .ok (.invokestatic 94, 3) := by decide +kernel
theorem dX5_worthAtOnce_14 : decode cX5_worthAtOnce 14 = .ok (.iload 6, 2) := by decide +kernel
theorem dX5_worthAtOnce_16 : decode cX5_worthAtOnce 16 = .ok (.if_icmp .ne 32, 3) := by decide +kernel
theorem dX5_worthAtOnce_19 : decode cX5_worthAtOnce 19 = .ok (.lload_n 3, 1) := by decide +kernel
theorem dX5_worthAtOnce_20 : decode cX5_worthAtOnce 20 = .ok (.bipush 15, 2) := by decide +kernel
theorem dX5_worthAtOnce_22 : decode cX5_worthAtOnce 22 = .ok (.invokestatic 94, 3) := by decide +kernel
theorem dX5_worthAtOnce_25 : decode cX5_worthAtOnce 25 = .ok (.iload 6, 2) := by decide +kernel
theorem dX5_worthAtOnce_27 : decode cX5_worthAtOnce 27 = .ok (.if_icmp .ne 21, 3) := by decide +kernel
theorem dX5_worthAtOnce_30 : decode cX5_worthAtOnce 30 = .ok (.aload_n 0, 1) := by decide +kernel
theorem dX5_worthAtOnce_31 : decode cX5_worthAtOnce 31 = .ok (.getfield 22, 3) := by decide +kernel
theorem dX5_worthAtOnce_34 : decode cX5_worthAtOnce 34 = .ok (.lload_n 1, 1) := by decide +kernel
theorem dX5_worthAtOnce_35 : decode cX5_worthAtOnce 35 = .ok (.invokestatic 176, 3) := by decide +kernel
theorem dX5_worthAtOnce_38 : decode cX5_worthAtOnce 38 = .ok (.lload_n 3, 1) := by decide +kernel
theorem dX5_worthAtOnce_39 : decode cX5_worthAtOnce 39 = .ok (.invokestatic 176, 3) := by decide +kernel
theorem dX5_worthAtOnce_42 : decode cX5_worthAtOnce 42 = .ok (.bipush 40, 2) := by decide +kernel
theorem dX5_worthAtOnce_44 : decode cX5_worthAtOnce 44 = .ok (.invokevirtual 125, 3) := by decide +kernel
theorem dX5_worthAtOnce_47 : decode cX5_worthAtOnce 47 = .ok (.ireturn, 1) := by decide +kernel
theorem dX5_worthAtOnce_48 : decode cX5_worthAtOnce 48 = .ok (.ldc 179, 2) := by decide +kernel
theorem dX5_worthAtOnce_50 : decode cX5_worthAtOnce 50 = .ok (.ldc 180, 2) := by decide +kernel
theorem dX5_worthAtOnce_52 : decode cX5_worthAtOnce 52 = .ok (.iload 5, 2) := by decide +kernel
theorem dX5_worthAtOnce_54 : decode cX5_worthAtOnce 54 = .ok (.imul, 1) := by decide +kernel
theorem dX5_worthAtOnce_55 : decode cX5_worthAtOnce 55 = .ok (.iadd, 1) := by decide +kernel
theorem dX5_worthAtOnce_56 : decode cX5_worthAtOnce 56 = .ok (.iconst 1, 1) := by decide +kernel
theorem dX5_worthAtOnce_57 : decode cX5_worthAtOnce 57 = .ok (.invokestatic 171, 3) := by decide +kernel
theorem dX5_worthAtOnce_60 : decode cX5_worthAtOnce 60 = .ok (.ldc 181, 2) := by decide +kernel
theorem dX5_worthAtOnce_62 : decode cX5_worthAtOnce 62 = .ok (.invokestatic 182, 3) := by decide +kernel
theorem dX5_worthAtOnce_65 : decode cX5_worthAtOnce 65 = .ok (.ireturn, 1) := by decide +kernel
theorem dJ9_max_7cf53_0 : decode cJ9_max_7cf53 0 = .ok (.iload_n 0, 1) := by decide +kernel
theorem dJ9_max_7cf53_1 : decode cJ9_max_7cf53 1 = .ok (.iload_n 1, 1) := by decide +kernel
theorem dJ9_max_7cf53_2 : decode cJ9_max_7cf53 2 = .ok (.if_icmp .lt 7, 3) := by decide +kernel
theorem dJ9_max_7cf53_5 : decode cJ9_max_7cf53 5 = .ok (.iload_n 0, 1) := by decide +kernel
theorem dJ9_max_7cf53_6 : decode cJ9_max_7cf53 6 = .ok (.goto 4, 3) := by decide +kernel
theorem dJ9_max_7cf53_9 : decode cJ9_max_7cf53 9 = .ok (.iload_n 1, 1) := by decide +kernel
theorem dJ9_max_7cf53_10 : decode cJ9_max_7cf53 10 = .ok (.ireturn, 1) := by decide +kernel
theorem dJ9_min_7cf53_0 : decode cJ9_min_7cf53 0 = .ok (.iload_n 0, 1) := by decide +kernel
theorem dJ9_min_7cf53_1 : decode cJ9_min_7cf53 1 = .ok (.iload_n 1, 1) := by decide +kernel
theorem dJ9_min_7cf53_2 : decode cJ9_min_7cf53 2 = .ok (.if_icmp .gt 7, 3) := by decide +kernel
theorem dJ9_min_7cf53_5 : decode cJ9_min_7cf53 5 = .ok (.iload_n 0, 1) := by decide +kernel
theorem dJ9_min_7cf53_6 : decode cJ9_min_7cf53 6 = .ok (.goto 4, 3) := by decide +kernel
theorem dJ9_min_7cf53_9 : decode cJ9_min_7cf53 9 = .ok (.iload_n 1, 1) := by decide +kernel
theorem dJ9_min_7cf53_10 : decode cJ9_min_7cf53 10 = .ok (.ireturn, 1) := by decide +kernel
