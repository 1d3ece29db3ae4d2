theorem dX3_init_0 : decode cX3_init 0 = .ok (.aload_n 0, 1) := by decide +kernel
theorem dX3_init_1 : decode cX3_init 1 = .ok (.invokespecial 3, 3) := by decide +kernel
theorem dX3_init_4 : decode cX3_init 4 = .ok (.aload_n 0, 1) := by decide +kernel
theorem dX3_init_5 : decode cX3_init 5 = .ok (.sipush 400, 3) := by decide +kernel
theorem dX3_init_8 : decode cX3_init 8 = .ok (.newarray .byte, 2) := by decide +kernel
theorem dX3_init_10 : decode cX3_init 10 = .ok (.putfield 9, 3) := by decide +kernel
theorem dX3_init_13 : decode cX3_init 13 = .ok (.return_, 1) := by decide +kernel
theorem dX3_append_0 : decode cX3_append 0 = .ok (.aload_n 0, 1) := by decide +kernel
theorem dX3_append_1 : decode cX3_append 1 = .ok (.getfield 15, 3) := by decide +kernel
theorem dX3_append_4 : decode cX3_append 4 = .ok (.sipush 396, 3) := by decide +kernel
theorem dX3_append_7 : decode cX3_append 7 = .ok (.if_icmp .le 5, 3) := by decide +kernel
theorem dX3_append_10 : decode cX3_append 10 = .ok (.iconst 0, 1) := by decide +kernel
theorem dX3_append_11 : decode cX3_append 11 = .ok (.ireturn, 1) := by decide +kernel
theorem dX3_append_12 : decode cX3_append 12 = .ok (.bipush 24, 2) := by decide +kernel
theorem dX3_append_14 : decode cX3_append 14 = .ok (.istore_n 2, 1) := by decide +kernel
theorem dX3_append_15 : decode cX3_append 15 = .ok (.iload_n 2, 1) := by decide +kernel
theorem dX3_append_16 : decode cX3_append 16 = .ok (.ifCond .lt 32, 3) := by decide +kernel
theorem dX3_append_19 : decode cX3_append 19 = .ok (.aload_n 0, 1) := by decide +kernel
theorem dX3_append_20 : decode cX3_append 20 = .ok (.getfield 9, 3) := by decide +kernel
theorem dX3_append_23 : decode cX3_append 23 = .ok (.aload_n 0, 1) := by decide +kernel
theorem dX3_append_24 : decode cX3_append 24 = .ok (.getfield 15, 3) := by decide +kernel
theorem dX3_append_27 : decode cX3_append 27 = .ok (.iload_n 1, 1) := by decide +kernel
theorem dX3_append_28 : decode cX3_append 28 = .ok (.iload_n 2, 1) := by decide +kernel
theorem dX3_append_29 : decode cX3_append 29 = .ok (.ishr, 1) := by decide +kernel
theorem dX3_append_30 : decode cX3_append 30 = .ok (.i2b, 1) := by decide +kernel
theorem dX3_append_31 : decode cX3_append 31 = .ok (.bastore, 1) := by decide +kernel
theorem dX3_append_32 : decode cX3_append 32 = .ok (.aload_n 0, 1) := by decide +kernel
theorem dX3_append_33 : decode cX3_append 33 = .ok (.dup, 1) := by decide +kernel
theorem dX3_append_34 : decode cX3_append 34 = .ok (.getfield 15, 3) := by decide +kernel
theorem dX3_append_37 : decode cX3_append 37 = .ok (.iconst 1, 1) := by decide +kernel
theorem dX3_append_38 : decode cX3_append 38 = .ok (.iadd, 1) := by decide +kernel
theorem dX3_append_39 : decode cX3_append 39 = .ok (.putfield 15, 3) := by decide +kernel
theorem dX3_append_42 : decode cX3_append 42 = .ok (.iinc 2 (-8), 3) := by decide +kernel
theorem dX3_append_45 : decode cX3_append 45 = .ok (.goto (-30), 3) := by decide +kernel
theorem dX3_append_48 : decode cX3_append 48 = .ok (.iconst 1, 1) := by decide +kernel
theorem dX3_append_49 : decode cX3_append 49 = .ok (.ireturn, 1) := by decide +kernel
theorem dX4_init_0 : decode cX4_init 0 = .ok (.aload_n 0, 1) := by decide +kernel
theorem dX4_init_1 : decode cX4_init 1 = .ok (.invokespecial 3, 3) := by decide +kernel
theorem dX4_init_4 : decode cX4_init 4 = .ok (.aload_n 0, 1) := by decide +kernel
theorem dX4_init_5 : decode cX4_init 5 = .ok (.bipush 24, 2) := by decide +kernel
theorem dX4_init_7 : decode cX4_init 7 = .ok (.newarray .byte, 2) := by decide +kernel
theorem dX4_init_9 : decode cX4_init 9 = .ok (.putfield 9, 3) := by decide +kernel
theorem dX4_init_12 : decode cX4_init 12 = .ok (.return_, 1) := by decide +kernel
theorem dX4_append_0 : decode cX4_append 0 = .ok (.aload_n 0, 1) := by decide +kernel
theorem dX4_append_1 : decode cX4_append 1 = .ok (.getfield 15, 3) := by decide +kernel
theorem dX4_append_4 : decode cX4_append 4 = .ok (.bipush 24, 2) := by decide +kernel
theorem dX4_append_6 : decode cX4_append 6 = .ok (.if_icmp .ge 24, 3) := by decide +kernel
theorem dX4_append_9 : decode cX4_append 9 = .ok (.aload_n 0, 1) := by decide +kernel
theorem dX4_append_10 : decode cX4_append 10 = .ok (.getfield 9, 3) := by decide +kernel
theorem dX4_append_13 : decode cX4_append 13 = .ok (.aload_n 0, 1) := by decide +kernel
theorem dX4_append_14 : decode cX4_append 14 = .ok (.getfield 15, 3) := by decide +kernel
theorem dX4_append_17 : decode cX4_append 17 = .ok (.iload_n 1, 1) := by decide +kernel
theorem dX4_append_18 : decode cX4_append 18 = .ok (.i2b, 1) := by decide +kernel
theorem dX4_append_19 : decode cX4_append 19 = .ok (.bastore, 1) := by decide +kernel
theorem dX4_append_20 : decode cX4_append 20 = .ok (.aload_n 0, 1) := by decide +kernel
theorem dX4_append_21 : decode cX4_append 21 = .ok (.dup, 1) := by decide +kernel
theorem dX4_append_22 : decode cX4_append 22 = .ok (.getfield 15, 3) := by decide +kernel
theorem dX4_append_25 : decode cX4_append 25 = .ok (.iconst 1, 1) := by decide +kernel
theorem dX4_append_26 : decode cX4_append 26 = .ok (.iadd, 1) := by decide +kernel
theorem dX4_append_27 : decode cX4_append 27 = .ok (.putfield 15, 3) := by decide +kernel
theorem dX4_append_30 : decode cX4_append 30 = .ok (.return_, 1) := by decide +kernel
set_option maxRecDepth 20000 in
theorem ggX5_init_X3_init : GoodIn wsX5_init wsX3_init := goodIn_r _ [25, 26, 2, 3, 27, 28, 53, 54] (by decide +kernel) (by decide +kernel)
set_option maxRecDepth 20000 in
theorem gX5_init_X3_init_n9 : GoodIn wsX5_init (wsX3_init) := ggX5_init_X3_init
set_option maxRecDepth 20000 in
theorem ggX5_init_X4_init : GoodIn wsX5_init wsX4_init := goodIn_r _ [30, 31, 2, 3, 27, 32, 60, 61] (by decide +kernel) (by decide +kernel)
set_option maxRecDepth 20000 in
theorem gX5_init_X4_init_n18 : GoodIn wsX5_init (wsX4_init) := ggX5_init_X4_init
set_option maxRecDepth 20000 in
theorem ggX5_init_X0_init : GoodIn wsX5_init wsX0_init := goodIn_r _ [34, 35, 2, 3, 27, 36, 37, 38, 39, 40, 62, 63, 64, 65] (by decide +kernel) (by decide +kernel)
set_option maxRecDepth 20000 in
theorem gX5_init_X0_init_n25 : GoodIn wsX5_init (wsX0_init) := ggX5_init_X0_init
set_option maxRecDepth 20000 in
theorem ggX5_init_X1_init : GoodIn wsX5_init wsX1_init := goodIn_r _ [42, 43, 2, 3, 37, 44, 66] (by decide +kernel) (by decide +kernel)
set_option maxRecDepth 20000 in
theorem gX5_init_X1_init_n32 : GoodIn wsX5_init (wsX1_init) := ggX5_init_X1_init
set_option maxRecDepth 20000 in
theorem ggX5_init_X2_init : GoodIn wsX5_init wsX2_init := goodIn_r _ [46, 47, 2, 3, 37, 48, 39, 49, 50, 51, 27, 52, 67, 68, 69, 70, 71, 72] (by decide +kernel) (by decide +kernel)
set_option maxRecDepth 20000 in
theorem gX5_init_X2_init_n39 : GoodIn wsX5_init (wsX2_init) := ggX5_init_X2_init
theorem dX5_init_0 : decode cX5_init 0 = .ok (.aload_n 0, 1) := by decide +kernel
theorem dX5_init_1 : decode cX5_init 1 = .ok (.invokespecial 1, 3) := by decide +kernel
theorem dX5_init_4 : decode cX5_init 4 = .ok (.aload_n 0, 1) := by decide +kernel
theorem dX5_init_5 : decode cX5_init 5 = .ok (.new 7, 3) := by decide +kernel
theorem dX5_init_8 : decode cX5_init 8 = .ok (.dup, 1) := by decide +kernel
theorem dX5_init_9 : decode cX5_init 9 = .ok (.invokespecial 9, 3) := by decide +kernel
theorem dX5_init_12 : decode cX5_init 12 = .ok (.putfield 10, 3) := by decide +kernel
theorem dX5_init_15 : decode cX5_init 15 = .ok (.aload_n 0, 1) := by decide +kernel
theorem dX5_init_16 : decode cX5_init 16 = .ok (.new 16, 3) := by decide +kernel
theorem dX5_init_19 : decode cX5_init 19 = .ok (.dup, 1) := by decide +kernel
theorem dX5_init_20 : decode cX5_init 20 = .ok (.invokespecial 18, 3) := by decide +kernel
theorem dX5_init_23 : decode cX5_init 23 = .ok (.putfield 19, 3) := by decide +kernel
theorem dX5_init_26 : decode cX5_init 26 = .ok (.aload_n 0, 1) := by decide +kernel
theorem dX5_init_27 : decode cX5_init 27 = .ok (.new 23, 3) := by decide +kernel
theorem dX5_init_30 : decode cX5_init 30 = .ok (.dup, 1) := by decide +kernel
theorem dX5_init_31 : decode cX5_init 31 = .ok (.invokespecial 25, 3) := by decide +kernel
theorem dX5_init_34 : decode cX5_init 34 = .ok (.putfield 26, 3) := by decide +kernel
theorem dX5_init_37 : decode cX5_init 37 = .ok (.aload_n 0, 1) := by decide +kernel
theorem dX5_init_38 : decode cX5_init 38 = .ok (.new 30, 3) := by decide +kernel
theorem dX5_init_41 : decode cX5_init 41 = .ok (.dup, 1) := by decide +kernel
theorem dX5_init_42 : decode cX5_init 42 = .ok (.invokespecial 32, 3) := by decide +kernel
theorem dX5_init_45 : decode cX5_init 45 = .ok (.putfield 33, 3) := by decide +kernel
theorem dX5_init_48 : decode cX5_init 48 = .ok (.aload_n 0, 1) := by decide +kernel
theorem dX5_init_49 : decode cX5_init 49 = .ok (.new 37, 3) := by decide +kernel
theorem dX5_init_52 : decode cX5_init 52 = .ok (.dup, 1) := by decide +kernel
theorem dX5_init_53 : decode cX5_init 53 = .ok (.invokespecial 39, 3) := by decide +kernel
theorem dX5_init_56 : decode cX5_init 56 = .ok (.putfield 40, 3) := by decide +kernel
theorem dX5_init_59 : decode cX5_init 59 = .ok (.return_, 1) := by decide +kernel
set_option maxRecDepth 20000 in
theorem ggX5_feed_X3_append : GoodIn wsX5_feed wsX3_append := goodIn_r _ [7, 8, 9, 15, 16] (by decide +kernel) (by decide +kernel)
set_option maxRecDepth 20000 in
theorem gX5_feed_X3_append : GoodIn wsX5_feed (wsV RX5 44 RX3 yX3_append wsX3_append) := goodIn_app (goodIn_of _ (by decide +kernel)) ggX5_feed_X3_append
theorem dX5_feed_0 : decode cX5_feed 0 = .ok (.aload_n 0, 1) := by decide +kernel
theorem dX5_feed_1 : decode cX5_feed 1 = .ok (.getfield 10, 3) := by decide +kernel
theorem dX5_feed_4 : decode cX5_feed 4 = .ok (.iload_n 1, 1) := by decide +kernel
theorem dX5_feed_5 : decode cX5_feed 5 = .ok (.invokevirtual 44, 3) := by decide +kernel
theorem dX5_feed_8 : decode cX5_feed 8 = .ok (.ifCond .eq 13, 3) := by decide +kernel
theorem dX5_feed_11 : decode cX5_feed 11 = .ok (.aload_n 0, 1) := by decide +kernel
theorem dX5_feed_12 : decode cX5_feed 12 = .ok (.getfield 10, 3) := by decide +kernel
theorem dX5_feed_15 : decode cX5_feed 15 = .ok (.getfield 48, 3) := by decide +kernel
theorem dX5_feed_18 : decode cX5_feed 18 = .ok (.goto 5, 3) := by decide +kernel
theorem dX5_feed_21 : decode cX5_feed 21 = .ok (.bipush (-2), 2) := by decide +kernel
theorem dX5_feed_23 : decode cX5_feed 23 = .ok (.ireturn, 1) := by decide +kernel
theorem dX5_cut_0 : decode cX5_cut 0 = .ok (.iload_n 1, 1) := by decide +kernel
theorem dX5_cut_1 : decode cX5_cut 1 = .ok (.ifCond .lt 14, 3) := by decide +kernel
theorem dX5_cut_4 : decode cX5_cut 4 = .ok (.iload_n 1, 1) := by decide +kernel
theorem dX5_cut_5 : decode cX5_cut 5 = .ok (.aload_n 0, 1) := by decide +kernel
theorem dX5_cut_6 : decode cX5_cut 6 = .ok (.getfield 10, 3) := by decide +kernel
theorem dX5_cut_9 : decode cX5_cut 9 = .ok (.getfield 48, 3) := by decide +kernel
theorem dX5_cut_12 : decode cX5_cut 12 = .ok (.if_icmp .le 5, 3) := by decide +kernel
theorem dX5_cut_15 : decode cX5_cut 15 = .ok (.iconst (-1), 1) := by decide +kernel
theorem dX5_cut_16 : decode cX5_cut 16 = .ok (.ireturn, 1) := by decide +kernel
theorem dX5_cut_17 : decode cX5_cut 17 = .ok (.aload_n 0, 1) := by decide +kernel
theorem dX5_cut_18 : decode cX5_cut 18 = .ok (.getfield 10, 3) := by decide +kernel
theorem dX5_cut_21 : decode cX5_cut 21 = .ok (.getfield 48, 3) := by decide +kernel
theorem dX5_cut_24 : decode cX5_cut 24 = .ok (.iload_n 1, 1) := by decide +kernel
theorem dX5_cut_25 : decode cX5_cut 25 = .ok (.isub, 1) := by decide +kernel
theorem dX5_cut_26 : decode cX5_cut 26 = .ok (.istore_n 2, 1) := by decide +kernel
theorem dX5_cut_27 : decode cX5_cut 27 = .ok (.aload_n 0, 1) := by decide +kernel
theorem dX5_cut_28 : decode cX5_cut 28 = .ok (.getfield 10, 3) := by decide +kernel
theorem dX5_cut_31 : decode cX5_cut 31 = .ok (.iload_n 1, 1) := by decide +kernel
theorem dX5_cut_32 : decode cX5_cut 32 = .ok (.putfield 48, 3) := by decide +kernel
theorem dX5_cut_35 : decode cX5_cut 35 = .ok (.iload_n 2, 1) := by decide +kernel
theorem dX5_cut_36 : decode cX5_cut 36 = .ok (.ireturn, 1) := by decide +kernel
set_option maxRecDepth 20000 in
theorem ggX5_learn_X5_smallLetter : GoodIn wsX5_learn wsX5_smallLetter := goodIn_r _ [10, 11, 12, 9, 13] (by decide +kernel) (by decide +kernel)
set_option maxRecDepth 20000 in
theorem gX5_learn_X5_smallLetter : GoodIn wsX5_learn (va_wsS RX5 60 yX5_smallLetter wsX5_smallLetter) := goodIn_app (goodIn_of _ (by decide +kernel)) ggX5_learn_X5_smallLetter
set_option maxRecDepth 20000 in
theorem ggX5_learn_X4_append : GoodIn wsX5_learn wsX4_append := goodIn_r _ [18, 19, 20, 86, 87] (by decide +kernel) (by decide +kernel)
set_option maxRecDepth 20000 in
theorem gX5_learn_X4_append : GoodIn wsX5_learn (wsV RX5 64 RX4 yX4_append wsX4_append) := goodIn_app (goodIn_of _ (by decide +kernel)) ggX5_learn_X4_append
set_option maxRecDepth 20000 in
theorem ggX5_learn_X5_takeUse : GoodIn wsX5_learn wsX5_takeUse := goodIn_r _ [24, 2, 3, 25, 26, 27, 28, 29, 30, 31, 32, 33, 34, 35, 36, 37, 38, 39, 40, 41, 42, 43, 44, 45, 46, 47, 48, 49, 50, 51, 52, 53, 54, 55, 56, 57, 58, 59, 60, 61, 62, 63, 64, 65, 66, 67, 68, 69, 70, 71, 72, 73, 74, 75, 76, 77, 78, 79, 80, 81, 82, 83, 84, 85, 86, 87, 90, 91, 92, 93] (by decide +kernel) (by decide +kernel)
set_option maxRecDepth 20000 in
theorem gX5_learn_X5_takeUse : GoodIn wsX5_learn (wsV RX5 67 RX5 yX5_takeUse wsX5_takeUse) := goodIn_app (goodIn_of _ (by decide +kernel)) ggX5_learn_X5_takeUse
theorem dX5_learn_0 : decode cX5_learn 0 = .ok (.iload_n 1, 1) := by decide +kernel
theorem dX5_learn_1 : decode cX5_learn 1 = .ok (.ifCond .lt 9, 3) := by decide +kernel
theorem dX5_learn_4 : decode cX5_learn 4 = .ok (.iload_n 1, 1) := by decide +kernel
theorem dX5_learn_5 : decode cX5_learn 5 = .ok (.ldc 52, 2) := by decide +kernel
theorem dX5_learn_7 : decode cX5_learn 7 = .ok (.if_icmp .le 5, 3) := by decide +kernel
theorem dX5_learn_10 : decode cX5_learn 10 = .ok (.iconst (-1), 1) := by decide +kernel
theorem dX5_learn_11 : decode cX5_learn 11 = .ok (.ireturn, 1) := by decide +kernel
theorem dX5_learn_12 : decode cX5_learn 12 = .ok (.iconst 0, 1) := by decide +kernel
theorem dX5_learn_13 : decode cX5_learn 13 = .ok (.istore_n 2, 1) := by decide +kernel
theorem dX5_learn_14 : decode cX5_learn 14 = .ok (.aload_n 0, 1) := by decide +kernel
theorem dX5_learn_15 : decode cX5_learn 15 = .ok (.getfield 19, 3) := by decide +kernel
theorem dX5_learn_18 : decode cX5_learn 18 = .ok (.iconst 0, 1) := by decide +kernel
theorem dX5_learn_19 : decode cX5_learn 19 = .ok (.putfield 53, 3) := by decide +kernel
theorem dX5_learn_22 : decode cX5_learn 22 = .ok (.iconst 0, 1) := by decide +kernel
theorem dX5_learn_23 : decode cX5_learn 23 = .ok (.istore_n 3, 1) := by decide +kernel
theorem dX5_learn_24 : decode cX5_learn 24 = .ok (.iload_n 3, 1) := by decide +kernel
theorem dX5_learn_25 : decode cX5_learn 25 = .ok (.aload_n 0, 1) := by decide +kernel
theorem dX5_learn_26 : decode cX5_learn 26 = .ok (.getfield 10, 3) := by decide +kernel
theorem dX5_learn_29 : decode cX5_learn 29 = .ok (.getfield 48, 3) := by decide +kernel
theorem dX5_learn_32 : decode cX5_learn 32 = .ok (.if_icmp .ge 49, 3) := by decide +kernel
theorem dX5_learn_35 : decode cX5_learn 35 = .ok (.aload_n 0, 1) := by decide +kernel
theorem dX5_learn_36 : decode cX5_learn 36 = .ok (.getfield 10, 3) := by decide +kernel
theorem dX5_learn_39 : decode cX5_learn 39 = .ok (.getfield 56, 3) := by decide +kernel
theorem dX5_learn_42 : decode cX5_learn 42 = .ok (.iload_n 3, 1) := by decide +kernel
theorem dX5_learn_43 : decode cX5_learn 43 = .ok (.baload, 1) := by decide +kernel
theorem dX5_learn_44 : decode cX5_learn 44 = .ok (.invokestatic 60, 3) := by decide +kernel
theorem dX5_learn_47 : decode cX5_learn 47 = .ok (.istore 4, 2) := by decide +kernel
theorem dX5_learn_49 : decode cX5_learn 49 = .ok (.iload 4, 2) := by decide +kernel
theorem dX5_learn_51 : decode cX5_learn 51 = .ok (.iconst (-1), 1) := by decide +kernel
theorem dX5_learn_52 : decode cX5_learn 52 = .ok (.if_icmp .eq 15, 3) := by decide +kernel
theorem dX5_learn_55 : decode cX5_learn 55 = .ok (.aload_n 0, 1) := by decide +kernel
theorem dX5_learn_56 : decode cX5_learn 56 = .ok (.getfield 19, 3) := by decide +kernel
theorem dX5_learn_59 : decode cX5_learn 59 = .ok (.iload 4, 2) := by decide +kernel
theorem dX5_learn_61 : decode cX5_learn 61 = .ok (.invokevirtual 64, 3) := by decide +kernel
theorem dX5_learn_64 : decode cX5_learn 64 = .ok (.goto 11, 3) := by decide +kernel
theorem dX5_learn_67 : decode cX5_learn 67 = .ok (.iload_n 2, 1) := by decide +kernel
theorem dX5_learn_68 : decode cX5_learn 68 = .ok (.aload_n 0, 1) := by decide +kernel
theorem dX5_learn_69 : decode cX5_learn 69 = .ok (.iload_n 1, 1) := by decide +kernel
theorem dX5_learn_70 : decode cX5_learn 70 = .ok (.invokevirtual 67, 3) := by decide +kernel
theorem dX5_learn_73 : decode cX5_learn 73 = .ok (.iadd, 1) := by decide +kernel
theorem dX5_learn_74 : decode cX5_learn 74 = .ok (.istore_n 2, 1) := by decide +kernel
theorem dX5_learn_75 : decode cX5_learn 75 = .ok (.iinc 3 1, 3) := by decide +kernel
theorem dX5_learn_78 : decode cX5_learn 78 = .ok (.goto (-54), 3) := by decide +kernel
theorem dX5_learn_81 : decode cX5_learn 81 = .ok (.iload_n 2, 1) := by decide +kernel
theorem dX5_learn_82 : decode cX5_learn 82 = .ok (.aload_n 0, 1) := by decide +kernel
theorem dX5_learn_83 : decode cX5_learn 83 = .ok (.iload_n 1, 1) := by decide +kernel
theorem dX5_learn_84 : decode cX5_learn 84 = .ok (.invokevirtual 67, 3) := by decide +kernel
theorem dX5_learn_87 : decode cX5_learn 87 = .ok (.iadd, 1) := by decide +kernel
theorem dX5_learn_88 : decode cX5_learn 88 = .ok (.istore_n 2, 1) := by decide +kernel
theorem dX5_learn_89 : decode cX5_learn 89 = .ok (.aload_n 0, 1) := by decide +kernel
theorem dX5_learn_90 : decode cX5_learn 90 = .ok (.getfield 10, 3) := by decide +kernel
theorem dX5_learn_93 : decode cX5_learn 93 = .ok (.iconst 0, 1) := by decide +kernel
theorem dX5_learn_94 : decode cX5_learn 94 = .ok (.putfield 48, 3) := by decide +kernel
theorem dX5_learn_97 : decode cX5_learn 97 = .ok (.iload_n 2, 1) := by decide +kernel
theorem dX5_learn_98 : decode cX5_learn 98 = .ok (.ireturn, 1) := by decide +kernel
set_option maxRecDepth 20000 in
theorem ggX5_set_X5_takeTerm : GoodIn wsX5_set wsX5_takeTerm := goodIn_r _ [9, 3, 10, 11, 12, 13, 8, 14, 15, 16, 17, 18, 19, 20, 21, 22, 23, 24, 25, 26, 27, 75, 76, 77, 78, 79, 84, 85, 86, 87] (by decide +kernel) (by decide +kernel)
set_option maxRecDepth 20000 in
theorem gX5_set_X5_takeTerm : GoodIn wsX5_set (wsV RX5 70 RX5 yX5_takeTerm wsX5_takeTerm) := goodIn_app (goodIn_of _ (by decide +kernel)) ggX5_set_X5_takeTerm
set_option maxRecDepth 20000 in
theorem ggX5_set_X0_placeOf : GoodIn wsX5_set wsX0_placeOf := goodIn_r _ [32, 33, 34, 35, 36, 31, 37, 38, 39, 40, 41, 42, 43, 44, 45, 46, 47, 48, 49, 50, 51, 52, 53, 80, 81, 82, 83, 84, 85] (by decide +kernel) (by decide +kernel)
set_option maxRecDepth 20000 in
theorem gX5_set_X0_placeOf : GoodIn wsX5_set (wsV RX5 76 RX0 yX0_placeOf wsX0_placeOf) := goodIn_app (goodIn_of _ (by decide +kernel)) ggX5_set_X0_placeOf
set_option maxRecDepth 20000 in
theorem ggX5_set_X0_standsAt : GoodIn wsX5_set wsX0_standsAt := goodIn_r _ [57, 33, 38, 50, 51, 52, 31, 53, 40, 58, 59, 60, 61, 42, 43, 44, 45, 46, 47, 48, 49, 39, 41, 80, 81, 82, 83, 84, 85] (by decide +kernel) (by decide +kernel)
set_option maxRecDepth 20000 in
theorem gX5_set_X0_standsAt : GoodIn wsX5_set (wsV RX5 80 RX0 yX0_standsAt wsX0_standsAt) := goodIn_app (goodIn_of _ (by decide +kernel)) ggX5_set_X0_standsAt
set_option maxRecDepth 20000 in
theorem ggX5_set_X0_insert : GoodIn wsX5_set wsX0_insert := goodIn_r _ [65, 33, 38, 40, 39, 66, 67, 68, 69, 41, 70, 71, 72, 73, 31, 74, 80, 81, 82, 83, 84, 85] (by decide +kernel) (by decide +kernel)
set_option maxRecDepth 20000 in
theorem gX5_set_X0_insert : GoodIn wsX5_set (wsV RX5 88 RX0 yX0_insert wsX0_insert) := goodIn_app (goodIn_of _ (by decide +kernel)) ggX5_set_X0_insert
theorem dX5_set_0 : decode cX5_set 0 = .ok (.aload_n 0, 1) := by decide +kernel
theorem dX5_set_1 : decode cX5_set 1 = .ok (.invokevirtual 70, 3) := by decide +kernel
theorem dX5_set_4 : decode cX5_set 4 = .ok (.ifCond .eq 17, 3) := by decide +kernel
theorem dX5_set_7 : decode cX5_set 7 = .ok (.lload_n 1, 1) := by decide +kernel
theorem dX5_set_8 : decode cX5_set 8 = .ok (.lconst 0, 1) := by decide +kernel
theorem dX5_set_9 : decode cX5_set 9 = .ok (.lcmp, 1) := by decide +kernel
theorem dX5_set_10 : decode cX5_set 10 = .ok (.ifCond .lt 11, 3) := by decide +kernel
theorem dX5_set_13 : decode cX5_set 13 = .ok (.lload_n 1, 1) := by decide +kernel
theorem dX5_set_14 : decode cX5_set 14 = .ok (.ldc2_w 74, 3) := by decide +kernel
theorem dX5_set_17 : decode cX5_set 17 = .ok (.lcmp, 1) := by decide +kernel
theorem dX5_set_18 : decode cX5_set 18 = .ok (.ifCond .le 5, 3) := by decide +kernel
theorem dX5_set_21 : decode cX5_set 21 = .ok (.iconst (-1), 1) := by decide +kernel
theorem dX5_set_22 : decode cX5_set 22 = .ok (.ireturn, 1) := by decide +kernel
theorem dX5_set_23 : decode cX5_set 23 = .ok (.aload_n 0, 1) := by decide +kernel
theorem dX5_set_24 : decode cX5_set 24 = .ok (.getfield 26, 3) := by decide +kernel
theorem dX5_set_27 : decode cX5_set 27 = .ok (.aload_n 0, 1) := by decide +kernel
theorem dX5_set_28 : decode cX5_set 28 = .ok (.getfield 19, 3) := by decide +kernel
theorem dX5_set_31 : decode cX5_set 31 = .ok (.invokevirtual 76, 3) := by decide +kernel
theorem dX5_set_34 : decode cX5_set 34 = .ok (.istore_n 3, 1) := by decide +kernel
theorem dX5_set_35 : decode cX5_set 35 = .ok (.aload_n 0, 1) := by decide +kernel
theorem dX5_set_36 : decode cX5_set 36 = .ok (.getfield 26, 3) := by decide +kernel
theorem dX5_set_39 : decode cX5_set 39 = .ok (.iload_n 3, 1) := by decide +kernel
theorem dX5_set_40 : decode cX5_set 40 = .ok (.aload_n 0, 1) := by decide +kernel
theorem dX5_set_41 : decode cX5_set 41 = .ok (.getfield 19, 3) := by decide +kernel
theorem dX5_set_44 : decode cX5_set 44 = .ok (.invokevirtual 80, 3) := by decide +kernel
theorem dX5_set_47 : decode cX5_set 47 = .ok (.ifCond .eq 15, 3) := by decide +kernel
theorem dX5_set_50 : decode cX5_set 50 = .ok (.aload_n 0, 1) := by decide +kernel
theorem dX5_set_51 : decode cX5_set 51 = .ok (.getfield 26, 3) := by decide +kernel
theorem dX5_set_54 : decode cX5_set 54 = .ok (.getfield 84, 3) := by decide +kernel
theorem dX5_set_57 : decode cX5_set 57 = .ok (.iload_n 3, 1) := by decide +kernel
theorem dX5_set_58 : decode cX5_set 58 = .ok (.lload_n 1, 1) := by decide +kernel
theorem dX5_set_59 : decode cX5_set 59 = .ok (.lastore, 1) := by decide +kernel
theorem dX5_set_60 : decode cX5_set 60 = .ok (.iconst 0, 1) := by decide +kernel
theorem dX5_set_61 : decode cX5_set 61 = .ok (.ireturn, 1) := by decide +kernel
theorem dX5_set_62 : decode cX5_set 62 = .ok (.aload_n 0, 1) := by decide +kernel
theorem dX5_set_63 : decode cX5_set 63 = .ok (.getfield 26, 3) := by decide +kernel
theorem dX5_set_66 : decode cX5_set 66 = .ok (.iload_n 3, 1) := by decide +kernel
theorem dX5_set_67 : decode cX5_set 67 = .ok (.aload_n 0, 1) := by decide +kernel
theorem dX5_set_68 : decode cX5_set 68 = .ok (.getfield 19, 3) := by decide +kernel
theorem dX5_set_71 : decode cX5_set 71 = .ok (.lload_n 1, 1) := by decide +kernel
theorem dX5_set_72 : decode cX5_set 72 = .ok (.invokevirtual 88, 3) := by decide +kernel
theorem dX5_set_75 : decode cX5_set 75 = .ok (.ifCond .eq 7, 3) := by decide +kernel
theorem dX5_set_78 : decode cX5_set 78 = .ok (.iconst 1, 1) := by decide +kernel
theorem dX5_set_79 : decode cX5_set 79 = .ok (.goto 5, 3) := by decide +kernel
theorem dX5_set_82 : decode cX5_set 82 = .ok (.bipush (-2), 2) := by decide +kernel
theorem dX5_set_84 : decode cX5_set 84 = .ok (.ireturn, 1) := by decide +kernel
set_option maxRecDepth 20000 in
theorem ggX5_drop_X5_takePlace : GoodIn wsX5_drop wsX5_takePlace := goodIn_r _ [8, 2, 9, 10, 11, 12, 7, 13, 14, 15, 16, 17, 18, 19, 20, 21, 22, 23, 24, 25, 26, 27, 28, 29, 30, 31, 32, 33, 34, 35, 36, 37, 38, 39, 40, 41, 42, 43, 44, 45, 46, 47, 48, 49, 50, 51, 52, 53, 54, 55, 56, 57, 58, 59, 60, 61, 62, 63, 64, 65, 79, 80, 81, 82, 83, 88, 89, 90, 91, 84, 85, 86, 87] (by decide +kernel) (by decide +kernel)
set_option maxRecDepth 20000 in
theorem gX5_drop_X5_takePlace : GoodIn wsX5_drop (wsV RX5 92 RX5 yX5_takePlace wsX5_takePlace) := goodIn_app (goodIn_of _ (by decide +kernel)) ggX5_drop_X5_takePlace
set_option maxRecDepth 20000 in
theorem ggX5_drop_X0_remove : GoodIn wsX5_drop wsX0_remove := goodIn_r _ [69, 44, 43, 70, 71, 72, 73, 74, 37, 54, 55, 56, 35, 57, 75, 76, 77, 78, 84, 85, 86, 87] (by decide +kernel) (by decide +kernel)
set_option maxRecDepth 20000 in
theorem gX5_drop_X0_remove : GoodIn wsX5_drop (wsV RX5 98 RX0 yX0_remove wsX0_remove) := goodIn_app (goodIn_of _ (by decide +kernel)) ggX5_drop_X0_remove
theorem dX5_drop_0 : decode cX5_drop 0 = .ok (.aload_n 0, 1) := by decide +kernel
theorem dX5_drop_1 : decode cX5_drop 1 = .ok (.invokevirtual 92, 3) := by decide +kernel
theorem dX5_drop_4 : decode cX5_drop 4 = .ok (.istore_n 1, 1) := by decide +kernel
theorem dX5_drop_5 : decode cX5_drop 5 = .ok (.iload_n 1, 1) := by decide +kernel
theorem dX5_drop_6 : decode cX5_drop 6 = .ok (.iconst (-1), 1) := by decide +kernel
theorem dX5_drop_7 : decode cX5_drop 7 = .ok (.if_icmp .ne 7, 3) := by decide +kernel
theorem dX5_drop_10 : decode cX5_drop 10 = .ok (.ldc2_w 96, 3) := by decide +kernel
theorem dX5_drop_13 : decode cX5_drop 13 = .ok (.lreturn, 1) := by decide +kernel
theorem dX5_drop_14 : decode cX5_drop 14 = .ok (.aload_n 0, 1) := by decide +kernel
theorem dX5_drop_15 : decode cX5_drop 15 = .ok (.getfield 26, 3) := by decide +kernel
theorem dX5_drop_18 : decode cX5_drop 18 = .ok (.getfield 84, 3) := by decide +kernel
theorem dX5_drop_21 : decode cX5_drop 21 = .ok (.iload_n 1, 1) := by decide +kernel
theorem dX5_drop_22 : decode cX5_drop 22 = .ok (.laload, 1) := by decide +kernel
theorem dX5_drop_23 : decode cX5_drop 23 = .ok (.lstore_n 2, 1) := by decide +kernel
theorem dX5_drop_24 : decode cX5_drop 24 = .ok (.aload_n 0, 1) := by decide +kernel
theorem dX5_drop_25 : decode cX5_drop 25 = .ok (.getfield 26, 3) := by decide +kernel
theorem dX5_drop_28 : decode cX5_drop 28 = .ok (.iload_n 1, 1) := by decide +kernel
theorem dX5_drop_29 : decode cX5_drop 29 = .ok (.invokevirtual 98, 3) := by decide +kernel
theorem dX5_drop_32 : decode cX5_drop 32 = .ok (.lload_n 2, 1) := by decide +kernel
theorem dX5_drop_33 : decode cX5_drop 33 = .ok (.lreturn, 1) := by decide +kernel
set_option maxRecDepth 20000 in
theorem ggX5_weight_X5_takePlace : GoodIn wsX5_weight wsX5_takePlace := goodIn_r _ [8, 2, 9, 10, 11, 12, 7, 13, 14, 15, 16, 17, 18, 19, 20, 21, 22, 23, 24, 25, 26, 27, 28, 29, 30, 31, 32, 33, 34, 35, 36, 37, 38, 39, 40, 41, 42, 43, 44, 45, 46, 47, 48, 49, 50, 51, 52, 53, 54, 55, 56, 57, 58, 59, 60, 61, 62, 63, 64, 65, 66, 67, 68, 69, 70, 75, 76, 77, 78, 71, 72, 73, 74] (by decide +kernel) (by decide +kernel)
set_option maxRecDepth 20000 in
theorem gX5_weight_X5_takePlace : GoodIn wsX5_weight (wsV RX5 92 RX5 yX5_takePlace wsX5_takePlace) := goodIn_app (goodIn_of _ (by decide +kernel)) ggX5_weight_X5_takePlace
theorem dX5_weight_0 : decode cX5_weight 0 = .ok (.aload_n 0, 1) := by decide +kernel
theorem dX5_weight_1 : decode cX5_weight 1 = .ok (.invokevirtual 92, 3) := by decide +kernel
theorem dX5_weight_4 : decode cX5_weight 4 = .ok (.istore_n 1, 1) := by decide +kernel
theorem dX5_weight_5 : decode cX5_weight 5 = .ok (.iload_n 1, 1) := by decide +kernel
theorem dX5_weight_6 : decode cX5_weight 6 = .ok (.iconst (-1), 1) := by decide +kernel
theorem dX5_weight_7 : decode cX5_weight 7 = .ok (.if_icmp .ne 9, 3) := by decide +kernel
theorem dX5_weight_10 : decode cX5_weight 10 = .ok (.ldc2_w 96, 3) := by decide +kernel
theorem dX5_weight_13 : decode cX5_weight 13 = .ok (.goto 12, 3) := by decide +kernel
theorem dX5_weight_16 : decode cX5_weight 16 = .ok (.aload_n 0, 1) := by decide +kernel
theorem dX5_weight_17 : decode cX5_weight 17 = .ok (.getfield 26, 3) := by decide +kernel
theorem dX5_weight_20 : decode cX5_weight 20 = .ok (.getfield 84, 3) := by decide +kernel
theorem dX5_weight_23 : decode cX5_weight 23 = .ok (.iload_n 1, 1) := by decide +kernel
theorem dX5_weight_24 : decode cX5_weight 24 = .ok (.laload, 1) := by decide +kernel
theorem dX5_weight_25 : decode cX5_weight 25 = .ok (.lreturn, 1) := by decide +kernel
set_option maxRecDepth 20000 in
theorem ggX5_ask_X5_takeLetters : GoodIn wsX5_ask wsX5_takeLetters := goodIn_r _ [12, 13, 14, 6, 15, 16, 17, 18, 11, 19, 20, 21, 22, 23, 24, 25, 26, 73, 74, 75, 76, 77, 88, 89, 90, 91] (by decide +kernel) (by decide +kernel)
set_option maxRecDepth 20000 in
theorem gX5_ask_X5_takeLetters : GoodIn wsX5_ask (wsV RX5 101 RX5 yX5_takeLetters wsX5_takeLetters) := goodIn_app (goodIn_of _ (by decide +kernel)) ggX5_ask_X5_takeLetters
set_option maxRecDepth 20000 in
theorem ggX5_ask_X1_nearness : GoodIn wsX5_ask wsX1_nearness := goodIn_r _ [31, 32, 33, 34, 35, 36, 37, 38, 39, 40, 41, 42, 30, 43, 44, 90, 91, 92, 84, 85, 86, 87] (by decide +kernel) (by decide +kernel)
set_option maxRecDepth 20000 in
theorem gX5_ask_X1_nearness : GoodIn wsX5_ask (wsV RX5 108 RX1 yX1_nearness wsX1_nearness) := goodIn_app (goodIn_of _ (by decide +kernel)) ggX5_ask_X1_nearness
set_option maxRecDepth 20000 in
theorem ggX5_ask_X2_offer : GoodIn wsX5_ask wsX2_offer := goodIn_r _ [49, 50, 51, 52, 35, 36, 37, 53, 54, 78, 79, 80, 81, 82, 83] (by decide +kernel) (by decide +kernel)
set_option maxRecDepth 20000 in
theorem gX5_ask_X2_offer : GoodIn wsX5_ask (wsV RX5 112 RX2 yX2_offer wsX2_offer) := goodIn_app (goodIn_of _ (by decide +kernel)) ggX5_ask_X2_offer
set_option maxRecDepth 20000 in
theorem ggX5_ask_X2_keepLetters : GoodIn wsX5_ask wsX2_keepLetters := goodIn_r _ [58, 50, 53, 59, 60, 61, 62, 63, 64, 65, 66, 67, 68, 69, 70, 71, 72, 78, 79, 80, 81, 82, 83, 84, 85, 86, 87] (by decide +kernel) (by decide +kernel)
set_option maxRecDepth 20000 in
theorem gX5_ask_X2_keepLetters : GoodIn wsX5_ask (wsV RX5 116 RX2 yX2_keepLetters wsX2_keepLetters) := goodIn_app (goodIn_of _ (by decide +kernel)) ggX5_ask_X2_keepLetters
theorem dX5_ask_0 : decode cX5_ask 0 = .ok (.aload_n 0, 1) := by decide +kernel
theorem dX5_ask_1 : decode cX5_ask 1 = .ok (.invokevirtual 101, 3) := by decide +kernel
theorem dX5_ask_4 : decode cX5_ask 4 = .ok (.ifCond .eq 23, 3) := by decide +kernel
theorem dX5_ask_7 : decode cX5_ask 7 = .ok (.iload_n 1, 1) := by decide +kernel
theorem dX5_ask_8 : decode cX5_ask 8 = .ok (.iconst 1, 1) := by decide +kernel
theorem dX5_ask_9 : decode cX5_ask 9 = .ok (.if_icmp .lt 18, 3) := by decide +kernel
theorem dX5_ask_12 : decode cX5_ask 12 = .ok (.iload_n 1, 1) := by decide +kernel
theorem dX5_ask_13 : decode cX5_ask 13 = .ok (.bipush 50, 2) := by decide +kernel
theorem dX5_ask_15 : decode cX5_ask 15 = .ok (.if_icmp .gt 12, 3) := by decide +kernel
theorem dX5_ask_18 : decode cX5_ask 18 = .ok (.iload_n 2, 1) := by decide +kernel
theorem dX5_ask_19 : decode cX5_ask 19 = .ok (.ifCond .lt 8, 3) := by decide +kernel
theorem dX5_ask_22 : decode cX5_ask 22 = .ok (.iload_n 2, 1) := by decide +kernel
theorem dX5_ask_23 : decode cX5_ask 23 = .ok (.iconst 2, 1) := by decide +kernel
theorem dX5_ask_24 : decode cX5_ask 24 = .ok (.if_icmp .le 5, 3) := by decide +kernel
theorem dX5_ask_27 : decode cX5_ask 27 = .ok (.iconst (-1), 1) := by decide +kernel
theorem dX5_ask_28 : decode cX5_ask 28 = .ok (.ireturn, 1) := by decide +kernel
theorem dX5_ask_29 : decode cX5_ask 29 = .ok (.aload_n 0, 1) := by decide +kernel
theorem dX5_ask_30 : decode cX5_ask 30 = .ok (.getfield 40, 3) := by decide +kernel
theorem dX5_ask_33 : decode cX5_ask 33 = .ok (.iconst 0, 1) := by decide +kernel
theorem dX5_ask_34 : decode cX5_ask 34 = .ok (.putfield 104, 3) := by decide +kernel
theorem dX5_ask_37 : decode cX5_ask 37 = .ok (.iconst 0, 1) := by decide +kernel
theorem dX5_ask_38 : decode cX5_ask 38 = .ok (.istore_n 3, 1) := by decide +kernel
theorem dX5_ask_39 : decode cX5_ask 39 = .ok (.iload_n 3, 1) := by decide +kernel
theorem dX5_ask_40 : decode cX5_ask 40 = .ok (.aload_n 0, 1) := by decide +kernel
theorem dX5_ask_41 : decode cX5_ask 41 = .ok (.getfield 26, 3) := by decide +kernel
theorem dX5_ask_44 : decode cX5_ask 44 = .ok (.getfield 107, 3) := by decide +kernel
theorem dX5_ask_47 : decode cX5_ask 47 = .ok (.if_icmp .ge 54, 3) := by decide +kernel
theorem dX5_ask_50 : decode cX5_ask 50 = .ok (.aload_n 0, 1) := by decide +kernel
theorem dX5_ask_51 : decode cX5_ask 51 = .ok (.getfield 33, 3) := by decide +kernel
theorem dX5_ask_54 : decode cX5_ask 54 = .ok (.aload_n 0, 1) := by decide +kernel
theorem dX5_ask_55 : decode cX5_ask 55 = .ok (.getfield 19, 3) := by decide +kernel
theorem dX5_ask_58 : decode cX5_ask 58 = .ok (.aload_n 0, 1) := by decide +kernel
theorem dX5_ask_59 : decode cX5_ask 59 = .ok (.getfield 26, 3) := by decide +kernel
theorem dX5_ask_62 : decode cX5_ask 62 = .ok (.iload_n 3, 1) := by decide +kernel
theorem dX5_ask_63 : decode cX5_ask 63 = .ok (.iload_n 2, 1) := by decide +kernel
theorem dX5_ask_64 : decode cX5_ask 64 = .ok (.invokevirtual 108, 3) := by decide +kernel
theorem dX5_ask_67 : decode cX5_ask 67 = .ok (.istore 4, 2) := by decide +kernel
theorem dX5_ask_69 : decode cX5_ask 69 = .ok (.iload 4, 2) := by decide +kernel
theorem dX5_ask_71 : decode cX5_ask 71 = .ok (.iload_n 2, 1) := by decide +kernel
theorem dX5_ask_72 : decode cX5_ask 72 = .ok (.if_icmp .gt 23, 3) := by decide +kernel
theorem dX5_ask_75 : decode cX5_ask 75 = .ok (.aload_n 0, 1) := by decide +kernel
theorem dX5_ask_76 : decode cX5_ask 76 = .ok (.getfield 40, 3) := by decide +kernel
theorem dX5_ask_79 : decode cX5_ask 79 = .ok (.iload_n 3, 1) := by decide +kernel
theorem dX5_ask_80 : decode cX5_ask 80 = .ok (.aload_n 0, 1) := by decide +kernel
theorem dX5_ask_81 : decode cX5_ask 81 = .ok (.getfield 26, 3) := by decide +kernel
theorem dX5_ask_84 : decode cX5_ask 84 = .ok (.getfield 84, 3) := by decide +kernel
theorem dX5_ask_87 : decode cX5_ask 87 = .ok (.iload_n 3, 1) := by decide +kernel
theorem dX5_ask_88 : decode cX5_ask 88 = .ok (.laload, 1) := by decide +kernel
theorem dX5_ask_89 : decode cX5_ask 89 = .ok (.iload 4, 2) := by decide +kernel
theorem dX5_ask_91 : decode cX5_ask 91 = .ok (.iload_n 1, 1) := by decide +kernel
theorem dX5_ask_92 : decode cX5_ask 92 = .ok (.invokevirtual 112, 3) := by decide +kernel
theorem dX5_ask_95 : decode cX5_ask 95 = .ok (.iinc 3 1, 3) := by decide +kernel
theorem dX5_ask_98 : decode cX5_ask 98 = .ok (.goto (-59), 3) := by decide +kernel
theorem dX5_ask_101 : decode cX5_ask 101 = .ok (.aload_n 0, 1) := by decide +kernel
theorem dX5_ask_102 : decode cX5_ask 102 = .ok (.getfield 40, 3) := by decide +kernel
theorem dX5_ask_105 : decode cX5_ask 105 = .ok (.aload_n 0, 1) := by decide +kernel
theorem dX5_ask_106 : decode cX5_ask 106 = .ok (.getfield 26, 3) := by decide +kernel
theorem dX5_ask_109 : decode cX5_ask 109 = .ok (.invokevirtual 116, 3) := by decide +kernel
theorem dX5_ask_112 : decode cX5_ask 112 = .ok (.aload_n 0, 1) := by decide +kernel
theorem dX5_ask_113 : decode cX5_ask 113 = .ok (.getfield 40, 3) := by decide +kernel
theorem dX5_ask_116 : decode cX5_ask 116 = .ok (.getfield 104, 3) := by decide +kernel
theorem dX5_ask_119 : decode cX5_ask 119 = .ok (.ireturn, 1) := by decide +kernel
set_option maxRecDepth 20000 in
theorem ggX5_near_X5_takeLetters : GoodIn wsX5_near wsX5_takeLetters := goodIn_r _ [9, 10, 11, 4, 12, 13, 14, 15, 8, 16, 17, 18, 19, 20, 21, 22, 23, 42, 43, 44, 45, 46, 51, 52, 53, 54] (by decide +kernel) (by decide +kernel)
set_option maxRecDepth 20000 in
theorem gX5_near_X5_takeLetters : GoodIn wsX5_near (wsV RX5 101 RX5 yX5_takeLetters wsX5_takeLetters) := goodIn_app (goodIn_of _ (by decide +kernel)) ggX5_near_X5_takeLetters
set_option maxRecDepth 20000 in
theorem ggX5_near_X1_nearness : GoodIn wsX5_near wsX1_nearness := goodIn_r _ [28, 29, 30, 31, 32, 33, 34, 35, 36, 37, 38, 39, 27, 40, 41, 53, 54, 55, 47, 48, 49, 50] (by decide +kernel) (by decide +kernel)
set_option maxRecDepth 20000 in
theorem gX5_near_X1_nearness : GoodIn wsX5_near (wsV RX5 108 RX1 yX1_nearness wsX1_nearness) := goodIn_app (goodIn_of _ (by decide +kernel)) ggX5_near_X1_nearness
theorem dX5_near_0 : decode cX5_near 0 = .ok (.aload_n 0, 1) := by decide +kernel
theorem dX5_near_1 : decode cX5_near 1 = .ok (.invokevirtual 101, 3) := by decide +kernel
theorem dX5_near_4 : decode cX5_near 4 = .ok (.ifCond .eq 12, 3) := by decide +kernel
theorem dX5_near_7 : decode cX5_near 7 = .ok (.iload_n 1, 1) := by decide +kernel
theorem dX5_near_8 : decode cX5_near 8 = .ok (.ifCond .lt 8, 3) := by decide +kernel
theorem dX5_near_11 : decode cX5_near 11 = .ok (.iload_n 1, 1) := by decide +kernel
theorem dX5_near_12 : decode cX5_near 12 = .ok (.iconst 2, 1) := by decide +kernel
theorem dX5_near_13 : decode cX5_near 13 = .ok (.if_icmp .le 5, 3) := by decide +kernel
theorem dX5_near_16 : decode cX5_near 16 = .ok (.iconst (-1), 1) := by decide +kernel
theorem dX5_near_17 : decode cX5_near 17 = .ok (.ireturn, 1) := by decide +kernel
theorem dX5_near_18 : decode cX5_near 18 = .ok (.iconst 0, 1) := by decide +kernel
theorem dX5_near_19 : decode cX5_near 19 = .ok (.istore_n 2, 1) := by decide +kernel
theorem dX5_near_20 : decode cX5_near 20 = .ok (.iconst 0, 1) := by decide +kernel
theorem dX5_near_21 : decode cX5_near 21 = .ok (.istore_n 3, 1) := by decide +kernel
theorem dX5_near_22 : decode cX5_near 22 = .ok (.iload_n 3, 1) := by decide +kernel
theorem dX5_near_23 : decode cX5_near 23 = .ok (.aload_n 0, 1) := by decide +kernel
theorem dX5_near_24 : decode cX5_near 24 = .ok (.getfield 26, 3) := by decide +kernel
theorem dX5_near_27 : decode cX5_near 27 = .ok (.getfield 107, 3) := by decide +kernel
theorem dX5_near_30 : decode cX5_near 30 = .ok (.if_icmp .ge 33, 3) := by decide +kernel
theorem dX5_near_33 : decode cX5_near 33 = .ok (.aload_n 0, 1) := by decide +kernel
theorem dX5_near_34 : decode cX5_near 34 = .ok (.getfield 33, 3) := by decide +kernel
theorem dX5_near_37 : decode cX5_near 37 = .ok (.aload_n 0, 1) := by decide +kernel
theorem dX5_near_38 : decode cX5_near 38 = .ok (.getfield 19, 3) := by decide +kernel
theorem dX5_near_41 : decode cX5_near 41 = .ok (.aload_n 0, 1) := by decide +kernel
theorem dX5_near_42 : decode cX5_near 42 = .ok (.getfield 26, 3) := by decide +kernel
theorem dX5_near_45 : decode cX5_near 45 = .ok (.iload_n 3, 1) := by decide +kernel
theorem dX5_near_46 : decode cX5_near 46 = .ok (.iload_n 1, 1) := by decide +kernel
theorem dX5_near_47 : decode cX5_near 47 = .ok (.invokevirtual 108, 3) := by decide +kernel
theorem dX5_near_50 : decode cX5_near 50 = .ok (.iload_n 1, 1) := by decide +kernel
theorem dX5_near_51 : decode cX5_near 51 = .ok (.if_icmp .gt 6, 3) := by decide +kernel
theorem dX5_near_54 : decode cX5_near 54 = .ok (.iinc 2 1, 3) := by decide +kernel
theorem dX5_near_57 : decode cX5_near 57 = .ok (.iinc 3 1, 3) := by decide +kernel
theorem dX5_near_60 : decode cX5_near 60 = .ok (.goto (-38), 3) := by decide +kernel
theorem dX5_near_63 : decode cX5_near 63 = .ok (.iload_n 2, 1) := by decide +kernel
theorem dX5_near_64 : decode cX5_near 64 = .ok (.ireturn, 1) := by decide +kernel
set_option maxRecDepth 20000 in
theorem ggX5_best_X5_takeLetters : GoodIn wsX5_best wsX5_takeLetters := goodIn_r _ [14, 15, 16, 3, 17, 18, 19, 20, 13, 21, 22, 23, 24, 25, 26, 27, 28, 58, 59, 60, 61, 62, 67, 68, 69, 70] (by decide +kernel) (by decide +kernel)
set_option maxRecDepth 20000 in
theorem gX5_best_X5_takeLetters : GoodIn wsX5_best (wsV RX5 101 RX5 yX5_takeLetters wsX5_takeLetters) := goodIn_app (goodIn_of _ (by decide +kernel)) ggX5_best_X5_takeLetters
set_option maxRecDepth 20000 in
theorem ggX5_best_X0_placeOf : GoodIn wsX5_best wsX0_placeOf := goodIn_r _ [33, 34, 35, 36, 37, 32, 38, 39, 40, 41, 42, 43, 44, 45, 46, 47, 48, 8, 49, 50, 51, 52, 53, 63, 64, 65, 66, 69, 70] (by decide +kernel) (by decide +kernel)
set_option maxRecDepth 20000 in
theorem gX5_best_X0_placeOf : GoodIn wsX5_best (wsV RX5 76 RX0 yX0_placeOf wsX0_placeOf) := goodIn_app (goodIn_of _ (by decide +kernel)) ggX5_best_X0_placeOf
set_option maxRecDepth 20000 in
theorem ggX5_best_X0_beginsWith : GoodIn wsX5_best wsX0_beginsWith := goodIn_r _ [57, 39, 43, 44, 45, 32, 46, 47, 48, 8, 49, 40, 41, 42, 50, 51, 52, 53, 69, 70, 63, 64, 65, 66] (by decide +kernel) (by decide +kernel)
set_option maxRecDepth 20000 in
theorem gX5_best_X0_beginsWith : GoodIn wsX5_best (wsV RX5 120 RX0 yX0_beginsWith wsX0_beginsWith) := goodIn_app (goodIn_of _ (by decide +kernel)) ggX5_best_X0_beginsWith
theorem dX5_best_0 : decode cX5_best 0 = .ok (.aload_n 0, 1) := by decide +kernel
theorem dX5_best_1 : decode cX5_best 1 = .ok (.invokevirtual 101, 3) := by decide +kernel
theorem dX5_best_4 : decode cX5_best 4 = .ok (.ifCond .ne 7, 3) := by decide +kernel
theorem dX5_best_7 : decode cX5_best 7 = .ok (.ldc2_w 96, 3) := by decide +kernel
theorem dX5_best_10 : decode cX5_best 10 = .ok (.lreturn, 1) := by decide +kernel
theorem dX5_best_11 : decode cX5_best 11 = .ok (.ldc2_w 96, 3) := by decide +kernel
theorem dX5_best_14 : decode cX5_best 14 = .ok (.lstore_n 1, 1) := by decide +kernel
theorem dX5_best_15 : decode cX5_best 15 = .ok (.aload_n 0, 1) := by decide +kernel
theorem dX5_best_16 : decode cX5_best 16 = .ok (.getfield 26, 3) := by decide +kernel
theorem dX5_best_19 : decode cX5_best 19 = .ok (.aload_n 0, 1) := by decide +kernel
theorem dX5_best_20 : decode cX5_best 20 = .ok (.getfield 19, 3) := by decide +kernel
theorem dX5_best_23 : decode cX5_best 23 = .ok (.invokevirtual 76, 3) := by decide +kernel
theorem dX5_best_26 : decode cX5_best 26 = .ok (.istore_n 3, 1) := by decide +kernel
theorem dX5_best_27 : decode cX5_best 27 = .ok (.iload_n 3, 1) := by decide +kernel
theorem dX5_best_28 : decode cX5_best 28 = .ok (.aload_n 0, 1) := by decide +kernel
theorem dX5_best_29 : decode cX5_best 29 = .ok (.getfield 26, 3) := by decide +kernel
theorem dX5_best_32 : decode cX5_best 32 = .ok (.getfield 107, 3) := by decide +kernel
theorem dX5_best_35 : decode cX5_best 35 = .ok (.if_icmp .ge 38, 3) := by decide +kernel
theorem dX5_best_38 : decode cX5_best 38 = .ok (.aload_n 0, 1) := by decide +kernel
theorem dX5_best_39 : decode cX5_best 39 = .ok (.getfield 26, 3) := by decide +kernel
theorem dX5_best_42 : decode cX5_best 42 = .ok (.iload_n 3, 1) := by decide +kernel
theorem dX5_best_43 : decode cX5_best 43 = .ok (.aload_n 0, 1) := by decide +kernel
theorem dX5_best_44 : decode cX5_best 44 = .ok (.getfield 19, 3) := by decide +kernel
theorem dX5_best_47 : decode cX5_best 47 = .ok (.invokevirtual 120, 3) := by decide +kernel
theorem dX5_best_50 : decode cX5_best 50 = .ok (.ifCond .eq 23, 3) := by decide +kernel
theorem dX5_best_53 : decode cX5_best 53 = .ok (.lload_n 1, 1) := by decide +kernel
theorem dX5_best_54 : decode cX5_best 54 = .ok (.aload_n 0, 1) := by decide +kernel
theorem dX5_best_55 : decode cX5_best 55 = .ok (.getfield 26, 3) := by decide +kernel
theorem dX5_best_58 : decode cX5_best 58 = .ok (.getfield 84, 3) := by decide +kernel
theorem dX5_best_61 : decode cX5_best 61 = .ok (.iload_n 3, 1) := by decide +kernel
theorem dX5_best_62 : decode cX5_best 62 = .ok (.laload, 1) := by decide +kernel
theorem dX5_best_63 : decode cX5_best 63 = .ok (.invokestatic 123, 3) := by decide +kernel
theorem dX5_best_66 : decode cX5_best 66 = .ok (.lstore_n 1, 1) := by decide +kernel
theorem dX5_best_67 : decode cX5_best 67 = .ok (.iinc 3 1, 3) := by decide +kernel
theorem dX5_best_70 : decode cX5_best 70 = .ok (.goto (-43), 3) := by decide +kernel
theorem dX5_best_73 : decode cX5_best 73 = .ok (.lload_n 1, 1) := by decide +kernel
theorem dX5_best_74 : decode cX5_best 74 = .ok (.lreturn, 1) := by decide +kernel
set_option maxRecDepth 20000 in
theorem ggX5_rank_X5_takePlace : GoodIn wsX5_rank wsX5_takePlace := goodIn_r _ [6, 1, 7, 8, 9, 10, 5, 11, 12, 13, 14, 15, 16, 17, 18, 19, 20, 21, 22, 23, 24, 25, 26, 27, 28, 29, 30, 31, 32, 33, 34, 35, 36, 37, 38, 39, 40, 41, 42, 43, 44, 45, 46, 47, 48, 49, 50, 51, 52, 53, 54, 55, 56, 57, 58, 59, 60, 61, 62, 63, 69, 70, 71, 72, 73, 74, 75, 76, 77, 78, 79, 80, 81] (by decide +kernel) (by decide +kernel)
set_option maxRecDepth 20000 in
theorem gX5_rank_X5_takePlace : GoodIn wsX5_rank (wsV RX5 92 RX5 yX5_takePlace wsX5_takePlace) := goodIn_app (goodIn_of _ (by decide +kernel)) ggX5_rank_X5_takePlace
set_option maxRecDepth 20000 in
theorem ggX5_rank_X0_rankOf : GoodIn wsX5_rank wsX0_rankOf := goodIn_r _ [67, 35, 68, 78, 79, 80, 81] (by decide +kernel) (by decide +kernel)
set_option maxRecDepth 20000 in
theorem gX5_rank_X0_rankOf : GoodIn wsX5_rank (wsV RX5 129 RX0 yX0_rankOf wsX0_rankOf) := goodIn_app (goodIn_of _ (by decide +kernel)) ggX5_rank_X0_rankOf
theorem dX5_rank_0 : decode cX5_rank 0 = .ok (.aload_n 0, 1) := by decide +kernel
theorem dX5_rank_1 : decode cX5_rank 1 = .ok (.invokevirtual 92, 3) := by decide +kernel
theorem dX5_rank_4 : decode cX5_rank 4 = .ok (.istore_n 1, 1) := by decide +kernel
theorem dX5_rank_5 : decode cX5_rank 5 = .ok (.iload_n 1, 1) := by decide +kernel
theorem dX5_rank_6 : decode cX5_rank 6 = .ok (.iconst (-1), 1) := by decide +kernel
theorem dX5_rank_7 : decode cX5_rank 7 = .ok (.if_icmp .ne 7, 3) := by decide +kernel
theorem dX5_rank_10 : decode cX5_rank 10 = .ok (.iconst (-1), 1) := by decide +kernel
theorem dX5_rank_11 : decode cX5_rank 11 = .ok (.goto 11, 3) := by decide +kernel
theorem dX5_rank_14 : decode cX5_rank 14 = .ok (.aload_n 0, 1) := by decide +kernel
theorem dX5_rank_15 : decode cX5_rank 15 = .ok (.getfield 26, 3) := by decide +kernel
theorem dX5_rank_18 : decode cX5_rank 18 = .ok (.iload_n 1, 1) := by decide +kernel
theorem dX5_rank_19 : decode cX5_rank 19 = .ok (.invokevirtual 129, 3) := by decide +kernel
theorem dX5_rank_22 : decode cX5_rank 22 = .ok (.ireturn, 1) := by decide +kernel
theorem dX5_found_0 : decode cX5_found 0 = .ok (.aload_n 0, 1) := by decide +kernel
theorem dX5_found_1 : decode cX5_found 1 = .ok (.getfield 40, 3) := by decide +kernel
theorem dX5_found_4 : decode cX5_found 4 = .ok (.getfield 104, 3) := by decide +kernel
theorem dX5_found_7 : decode cX5_found 7 = .ok (.ireturn, 1) := by decide +kernel
set_option maxRecDepth 20000 in
theorem ggX5_letter_X2_letterOf : GoodIn wsX5_letter wsX2_letterOf := goodIn_r _ [6, 7, 8, 9, 15, 16, 17, 18, 19, 20] (by decide +kernel) (by decide +kernel)
set_option maxRecDepth 20000 in
theorem gX5_letter_X2_letterOf : GoodIn wsX5_letter (wsV RX5 132 RX2 yX2_letterOf wsX2_letterOf) := goodIn_app (goodIn_of _ (by decide +kernel)) ggX5_letter_X2_letterOf
theorem dX5_letter_0 : decode cX5_letter 0 = .ok (.aload_n 0, 1) := by decide +kernel
theorem dX5_letter_1 : decode cX5_letter 1 = .ok (.getfield 40, 3) := by decide +kernel
theorem dX5_letter_4 : decode cX5_letter 4 = .ok (.iload_n 1, 1) := by decide +kernel
theorem dX5_letter_5 : decode cX5_letter 5 = .ok (.iload_n 2, 1) := by decide +kernel
theorem dX5_letter_6 : decode cX5_letter 6 = .ok (.invokevirtual 132, 3) := by decide +kernel
theorem dX5_letter_9 : decode cX5_letter 9 = .ok (.ireturn, 1) := by decide +kernel
theorem dX5_of_0 : decode cX5_of 0 = .ok (.iload_n 1, 1) := by decide +kernel
theorem dX5_of_1 : decode cX5_of 1 = .ok (.ifCond .lt 14, 3) := by decide +kernel
theorem dX5_of_4 : decode cX5_of 4 = .ok (.iload_n 1, 1) := by decide +kernel
theorem dX5_of_5 : decode cX5_of 5 = .ok (.aload_n 0, 1) := by decide +kernel
theorem dX5_of_6 : decode cX5_of 6 = .ok (.getfield 40, 3) := by decide +kernel
theorem dX5_of_9 : decode cX5_of 9 = .ok (.getfield 104, 3) := by decide +kernel
theorem dX5_of_12 : decode cX5_of 12 = .ok (.if_icmp .lt 7, 3) := by decide +kernel
theorem dX5_of_15 : decode cX5_of 15 = .ok (.ldc2_w 96, 3) := by decide +kernel
theorem dX5_of_18 : decode cX5_of 18 = .ok (.lreturn, 1) := by decide +kernel
theorem dX5_of_19 : decode cX5_of 19 = .ok (.iload_n 2, 1) := by decide +kernel
theorem dX5_of_20 : decode cX5_of 20 = .ok (.tableswitch 60 0 2 #[28, 39, 49], 28) := by decide +kernel
theorem dX5_of_48 : decode cX5_of 48 = .ok (.aload_n 0, 1) := by decide +kernel
theorem dX5_of_49 : decode cX5_of 49 = .ok (.getfield 40, 3) := by decide +kernel
theorem dX5_of_52 : decode cX5_of 52 = .ok (.getfield 136, 3) := by decide +kernel
theorem dX5_of_55 : decode cX5_of 55 = .ok (.iload_n 1, 1) := by decide +kernel
theorem dX5_of_56 : decode cX5_of 56 = .ok (.iaload, 1) := by decide +kernel
theorem dX5_of_57 : decode cX5_of 57 = .ok (.i2l, 1) := by decide +kernel
theorem dX5_of_58 : decode cX5_of 58 = .ok (.lreturn, 1) := by decide +kernel
theorem dX5_of_59 : decode cX5_of 59 = .ok (.aload_n 0, 1) := by decide +kernel
theorem dX5_of_60 : decode cX5_of 60 = .ok (.getfield 40, 3) := by decide +kernel
theorem dX5_of_63 : decode cX5_of 63 = .ok (.getfield 140, 3) := by decide +kernel
theorem dX5_of_66 : decode cX5_of 66 = .ok (.iload_n 1, 1) := by decide +kernel
theorem dX5_of_67 : decode cX5_of 67 = .ok (.laload, 1) := by decide +kernel
theorem dX5_of_68 : decode cX5_of 68 = .ok (.lreturn, 1) := by decide +kernel
theorem dX5_of_69 : decode cX5_of 69 = .ok (.aload_n 0, 1) := by decide +kernel
theorem dX5_of_70 : decode cX5_of 70 = .ok (.getfield 40, 3) := by decide +kernel
theorem dX5_of_73 : decode cX5_of 73 = .ok (.getfield 141, 3) := by decide +kernel
theorem dX5_of_76 : decode cX5_of 76 = .ok (.iload_n 1, 1) := by decide +kernel
theorem dX5_of_77 : decode cX5_of 77 = .ok (.iaload, 1) := by decide +kernel
theorem dX5_of_78 : decode cX5_of 78 = .ok (.i2l, 1) := by decide +kernel
theorem dX5_of_79 : decode cX5_of 79 = .ok (.lreturn, 1) := by decide +kernel
theorem dX5_of_80 : decode cX5_of 80 = .ok (.ldc2_w 96, 3) := by decide +kernel
theorem dX5_of_83 : decode cX5_of 83 = .ok (.lreturn, 1) := by decide +kernel
theorem dX5_terms_0 : decode cX5_terms 0 = .ok (.aload_n 0, 1) := by decide +kernel
theorem dX5_terms_1 : decode cX5_terms 1 = .ok (.getfield 26, 3) := by decide +kernel
theorem dX5_terms_4 : decode cX5_terms 4 = .ok (.getfield 107, 3) := by decide +kernel
theorem dX5_terms_7 : decode cX5_terms 7 = .ok (.ireturn, 1) := by decide +kernel
set_option maxRecDepth 20000 in
theorem ggX5_letters_X0_size : GoodIn wsX5_letters wsX0_size := goodIn_r _ [6, 7, 8, 14, 15, 16, 17] (by decide +kernel) (by decide +kernel)
set_option maxRecDepth 20000 in
theorem gX5_letters_X0_size : GoodIn wsX5_letters (wsV RX5 144 RX0 yX0_size wsX0_size) := goodIn_app (goodIn_of _ (by decide +kernel)) ggX5_letters_X0_size
theorem dX5_letters_0 : decode cX5_letters 0 = .ok (.aload_n 0, 1) := by decide +kernel
theorem dX5_letters_1 : decode cX5_letters 1 = .ok (.getfield 26, 3) := by decide +kernel
theorem dX5_letters_4 : decode cX5_letters 4 = .ok (.invokevirtual 144, 3) := by decide +kernel
theorem dX5_letters_7 : decode cX5_letters 7 = .ok (.ireturn, 1) := by decide +kernel
set_option maxRecDepth 20000 in
theorem ggX5_term_X0_letterOf : GoodIn wsX5_term wsX0_letterOf := goodIn_r _ [6, 7, 8, 9, 10, 11, 12, 5, 13, 19, 20, 21, 22] (by decide +kernel) (by decide +kernel)
set_option maxRecDepth 20000 in
theorem gX5_term_X0_letterOf : GoodIn wsX5_term (wsV RX5 146 RX0 yX0_letterOf wsX0_letterOf) := goodIn_app (goodIn_of _ (by decide +kernel)) ggX5_term_X0_letterOf
theorem dX5_term_0 : decode cX5_term 0 = .ok (.aload_n 0, 1) := by decide +kernel
theorem dX5_term_1 : decode cX5_term 1 = .ok (.getfield 26, 3) := by decide +kernel
theorem dX5_term_4 : decode cX5_term 4 = .ok (.iload_n 1, 1) := by decide +kernel
theorem dX5_term_5 : decode cX5_term 5 = .ok (.iload_n 2, 1) := by decide +kernel
theorem dX5_term_6 : decode cX5_term 6 = .ok (.invokevirtual 146, 3) := by decide +kernel
theorem dX5_term_9 : decode cX5_term 9 = .ok (.ireturn, 1) := by decide +kernel
set_option maxRecDepth 20000 in
theorem ggX5_prefixes_X0_countPrefixes : GoodIn wsX5_prefixes wsX0_countPrefixes := goodIn_r _ [6, 7, 8, 9, 10, 5, 11, 12, 13, 14, 15, 16, 17, 18, 19, 20, 21, 22, 23, 24, 25, 31, 32, 33, 34] (by decide +kernel) (by decide +kernel)
set_option maxRecDepth 20000 in
theorem gX5_prefixes_X0_countPrefixes : GoodIn wsX5_prefixes (wsV RX5 147 RX0 yX0_countPrefixes wsX0_countPrefixes) := goodIn_app (goodIn_of _ (by decide +kernel)) ggX5_prefixes_X0_countPrefixes
theorem dX5_prefixes_0 : decode cX5_prefixes 0 = .ok (.aload_n 0, 1) := by decide +kernel
theorem dX5_prefixes_1 : decode cX5_prefixes 1 = .ok (.getfield 26, 3) := by decide +kernel
theorem dX5_prefixes_4 : decode cX5_prefixes 4 = .ok (.invokevirtual 147, 3) := by decide +kernel
theorem dX5_prefixes_7 : decode cX5_prefixes 7 = .ok (.ireturn, 1) := by decide +kernel
set_option maxRecDepth 20000 in
theorem ggX5_takeLetters_X5_isSmallLetter : GoodIn wsX5_takeLetters wsX5_isSmallLetter := goodIn_r _ [9] (by decide +kernel) (by decide +kernel)
set_option maxRecDepth 20000 in
theorem gX5_takeLetters_X5_isSmallLetter : GoodIn wsX5_takeLetters (va_wsS RX5 150 yX5_isSmallLetter wsX5_isSmallLetter) := goodIn_app (goodIn_of _ (by decide +kernel)) ggX5_takeLetters_X5_isSmallLetter
set_option maxRecDepth 20000 in
theorem ggX5_takeLetters_X4_append : GoodIn wsX5_takeLetters wsX4_append := goodIn_r _ [14, 15, 16, 24, 25] (by decide +kernel) (by decide +kernel)
set_option maxRecDepth 20000 in
theorem gX5_takeLetters_X4_append : GoodIn wsX5_takeLetters (wsV RX5 64 RX4 yX4_append wsX4_append) := goodIn_app (goodIn_of _ (by decide +kernel)) ggX5_takeLetters_X4_append
theorem dX5_takeLetters_0 : decode cX5_takeLetters 0 = .ok (.aload_n 0, 1) := by decide +kernel
theorem dX5_takeLetters_1 : decode cX5_takeLetters 1 = .ok (.getfield 10, 3) := by decide +kernel
theorem dX5_takeLetters_4 : decode cX5_takeLetters 4 = .ok (.getfield 48, 3) := by decide +kernel
theorem dX5_takeLetters_7 : decode cX5_takeLetters 7 = .ok (.istore_n 1, 1) := by decide +kernel
theorem dX5_takeLetters_8 : decode cX5_takeLetters 8 = .ok (.aload_n 0, 1) := by decide +kernel
theorem dX5_takeLetters_9 : decode cX5_takeLetters 9 = .ok (.getfield 10, 3) := by decide +kernel
theorem dX5_takeLetters_12 : decode cX5_takeLetters 12 = .ok (.iconst 0, 1) := by decide +kernel
theorem dX5_takeLetters_13 : decode cX5_takeLetters 13 = .ok (.putfield 48, 3) := by decide +kernel
theorem dX5_takeLetters_16 : decode cX5_takeLetters 16 = .ok (.aload_n 0, 1) := by decide +kernel
theorem dX5_takeLetters_17 : decode cX5_takeLetters 17 = .ok (.getfield 19, 3) := by decide +kernel
theorem dX5_takeLetters_20 : decode cX5_takeLetters 20 = .ok (.iconst 0, 1) := by decide +kernel
theorem dX5_takeLetters_21 : decode cX5_takeLetters 21 = .ok (.putfield 53, 3) := by decide +kernel
theorem dX5_takeLetters_24 : decode cX5_takeLetters 24 = .ok (.iload_n 1, 1) := by decide +kernel
theorem dX5_takeLetters_25 : decode cX5_takeLetters 25 = .ok (.bipush 24, 2) := by decide +kernel
theorem dX5_takeLetters_27 : decode cX5_takeLetters 27 = .ok (.if_icmp .le 5, 3) := by decide +kernel
theorem dX5_takeLetters_30 : decode cX5_takeLetters 30 = .ok (.iconst 0, 1) := by decide +kernel
theorem dX5_takeLetters_31 : decode cX5_takeLetters 31 = .ok (.ireturn, 1) := by decide +kernel
theorem dX5_takeLetters_32 : decode cX5_takeLetters 32 = .ok (.iconst 0, 1) := by decide +kernel
theorem dX5_takeLetters_33 : decode cX5_takeLetters 33 = .ok (.istore_n 2, 1) := by decide +kernel
theorem dX5_takeLetters_34 : decode cX5_takeLetters 34 = .ok (.iload_n 2, 1) := by decide +kernel
theorem dX5_takeLetters_35 : decode cX5_takeLetters 35 = .ok (.iload_n 1, 1) := by decide +kernel
theorem dX5_takeLetters_36 : decode cX5_takeLetters 36 = .ok (.if_icmp .ge 42, 3) := by decide +kernel
theorem dX5_takeLetters_39 : decode cX5_takeLetters 39 = .ok (.aload_n 0, 1) := by decide +kernel
theorem dX5_takeLetters_40 : decode cX5_takeLetters 40 = .ok (.getfield 10, 3) := by decide +kernel
theorem dX5_takeLetters_43 : decode cX5_takeLetters 43 = .ok (.getfield 56, 3) := by decide +kernel
theorem dX5_takeLetters_46 : decode cX5_takeLetters 46 = .ok (.iload_n 2, 1) := by decide +kernel
theorem dX5_takeLetters_47 : decode cX5_takeLetters 47 = .ok (.baload, 1) := by decide +kernel
theorem dX5_takeLetters_48 : decode cX5_takeLetters 48 = .ok (.invokestatic 150, 3) := by decide +kernel
theorem dX5_takeLetters_51 : decode cX5_takeLetters 51 = .ok (.ifCond .ne 5, 3) := by decide +kernel
theorem dX5_takeLetters_54 : decode cX5_takeLetters 54 = .ok (.iconst 0, 1) := by decide +kernel
theorem dX5_takeLetters_55 : decode cX5_takeLetters 55 = .ok (.ireturn, 1) := by decide +kernel
theorem dX5_takeLetters_56 : decode cX5_takeLetters 56 = .ok (.aload_n 0, 1) := by decide +kernel
theorem dX5_takeLetters_57 : decode cX5_takeLetters 57 = .ok (.getfield 19, 3) := by decide +kernel
theorem dX5_takeLetters_60 : decode cX5_takeLetters 60 = .ok (.aload_n 0, 1) := by decide +kernel
theorem dX5_takeLetters_61 : decode cX5_takeLetters 61 = .ok (.getfield 10, 3) := by decide +kernel
theorem dX5_takeLetters_64 : decode cX5_takeLetters 64 = .ok (.getfield 56, 3) := by decide +kernel
theorem dX5_takeLetters_67 : decode cX5_takeLetters 67 = .ok (.iload_n 2, 1) := by decide +kernel
theorem dX5_takeLetters_68 : decode cX5_takeLetters 68 = .ok (.baload, 1) := by decide +kernel
theorem dX5_takeLetters_69 : decode cX5_takeLetters 69 = .ok (.invokevirtual 64, 3) := by decide +kernel
theorem dX5_takeLetters_72 : decode cX5_takeLetters 72 = .ok (.iinc 2 1, 3) := by decide +kernel
theorem dX5_takeLetters_75 : decode cX5_takeLetters 75 = .ok (.goto (-41), 3) := by decide +kernel
theorem dX5_takeLetters_78 : decode cX5_takeLetters 78 = .ok (.iconst 1, 1) := by decide +kernel
theorem dX5_takeLetters_79 : decode cX5_takeLetters 79 = .ok (.ireturn, 1) := by decide +kernel
set_option maxRecDepth 20000 in
theorem ggX5_takeTerm_X5_takeLetters : GoodIn wsX5_takeTerm wsX5_takeLetters := goodIn_r _ [7, 8, 9, 1, 2, 10, 11, 12, 6, 13, 14, 15, 16, 17, 18, 19, 20, 21, 22, 23, 24, 25, 28, 29, 26, 27] (by decide +kernel) (by decide +kernel)
set_option maxRecDepth 20000 in
theorem gX5_takeTerm_X5_takeLetters : GoodIn wsX5_takeTerm (wsV RX5 101 RX5 yX5_takeLetters wsX5_takeLetters) := goodIn_app (goodIn_of _ (by decide +kernel)) ggX5_takeTerm_X5_takeLetters
theorem dX5_takeTerm_0 : decode cX5_takeTerm 0 = .ok (.aload_n 0, 1) := by decide +kernel
theorem dX5_takeTerm_1 : decode cX5_takeTerm 1 = .ok (.invokevirtual 101, 3) := by decide +kernel
theorem dX5_takeTerm_4 : decode cX5_takeTerm 4 = .ok (.ifCond .eq 17, 3) := by decide +kernel
theorem dX5_takeTerm_7 : decode cX5_takeTerm 7 = .ok (.aload_n 0, 1) := by decide +kernel
theorem dX5_takeTerm_8 : decode cX5_takeTerm 8 = .ok (.getfield 19, 3) := by decide +kernel
theorem dX5_takeTerm_11 : decode cX5_takeTerm 11 = .ok (.getfield 53, 3) := by decide +kernel
theorem dX5_takeTerm_14 : decode cX5_takeTerm 14 = .ok (.ifCond .le 7, 3) := by decide +kernel
theorem dX5_takeTerm_17 : decode cX5_takeTerm 17 = .ok (.iconst 1, 1) := by decide +kernel
theorem dX5_takeTerm_18 : decode cX5_takeTerm 18 = .ok (.goto 4, 3) := by decide +kernel
theorem dX5_takeTerm_21 : decode cX5_takeTerm 21 = .ok (.iconst 0, 1) := by decide +kernel
theorem dX5_takeTerm_22 : decode cX5_takeTerm 22 = .ok (.ireturn, 1) := by decide +kernel
set_option maxRecDepth 20000 in
theorem ggX5_takePlace_X5_takeTerm : GoodIn wsX5_takePlace wsX5_takeTerm := goodIn_r _ [7, 2, 8, 9, 10, 11, 6, 12, 13, 14, 15, 16, 17, 18, 19, 20, 21, 22, 23, 24, 25, 60, 61, 62, 63, 64, 65, 66, 67, 68] (by decide +kernel) (by decide +kernel)
set_option maxRecDepth 20000 in
theorem gX5_takePlace_X5_takeTerm : GoodIn wsX5_takePlace (wsV RX5 70 RX5 yX5_takeTerm wsX5_takeTerm) := goodIn_app (goodIn_of _ (by decide +kernel)) ggX5_takePlace_X5_takeTerm
set_option maxRecDepth 20000 in
theorem ggX5_takePlace_X0_placeOf : GoodIn wsX5_takePlace wsX0_placeOf := goodIn_r _ [30, 31, 32, 33, 34, 29, 35, 36, 37, 38, 39, 40, 41, 42, 43, 44, 45, 46, 47, 48, 49, 50, 51, 69, 70, 71, 72, 65, 66] (by decide +kernel) (by decide +kernel)
set_option maxRecDepth 20000 in
theorem gX5_takePlace_X0_placeOf : GoodIn wsX5_takePlace (wsV RX5 76 RX0 yX0_placeOf wsX0_placeOf) := goodIn_app (goodIn_of _ (by decide +kernel)) ggX5_takePlace_X0_placeOf
set_option maxRecDepth 20000 in
theorem ggX5_takePlace_X0_standsAt : GoodIn wsX5_takePlace wsX0_standsAt := goodIn_r _ [55, 31, 36, 48, 49, 50, 29, 51, 38, 56, 57, 58, 59, 40, 41, 42, 43, 44, 45, 46, 47, 37, 39, 69, 70, 71, 72, 65, 66] (by decide +kernel) (by decide +kernel)
set_option maxRecDepth 20000 in
theorem gX5_takePlace_X0_standsAt : GoodIn wsX5_takePlace (wsV RX5 80 RX0 yX0_standsAt wsX0_standsAt) := goodIn_app (goodIn_of _ (by decide +kernel)) ggX5_takePlace_X0_standsAt
theorem dX5_takePlace_0 : decode cX5_takePlace 0 = .ok (.aload_n 0, 1) := by decide +kernel
theorem dX5_takePlace_1 : decode cX5_takePlace 1 = .ok (.invokevirtual 70, 3) := by decide +kernel
theorem dX5_takePlace_4 : decode cX5_takePlace 4 = .ok (.ifCond .ne 5, 3) := by decide +kernel
theorem dX5_takePlace_7 : decode cX5_takePlace 7 = .ok (.iconst (-1), 1) := by decide +kernel
theorem dX5_takePlace_8 : decode cX5_takePlace 8 = .ok (.ireturn, 1) := by decide +kernel
theorem dX5_takePlace_9 : decode cX5_takePlace 9 = .ok (.aload_n 0, 1) := by decide +kernel
theorem dX5_takePlace_10 : decode cX5_takePlace 10 = .ok (.getfield 26, 3) := by decide +kernel
theorem dX5_takePlace_13 : decode cX5_takePlace 13 = .ok (.aload_n 0, 1) := by decide +kernel
theorem dX5_takePlace_14 : decode cX5_takePlace 14 = .ok (.getfield 19, 3) := by decide +kernel
theorem dX5_takePlace_17 : decode cX5_takePlace 17 = .ok (.invokevirtual 76, 3) := by decide +kernel
theorem dX5_takePlace_20 : decode cX5_takePlace 20 = .ok (.istore_n 1, 1) := by decide +kernel
theorem dX5_takePlace_21 : decode cX5_takePlace 21 = .ok (.aload_n 0, 1) := by decide +kernel
theorem dX5_takePlace_22 : decode cX5_takePlace 22 = .ok (.getfield 26, 3) := by decide +kernel
theorem dX5_takePlace_25 : decode cX5_takePlace 25 = .ok (.iload_n 1, 1) := by decide +kernel
theorem dX5_takePlace_26 : decode cX5_takePlace 26 = .ok (.aload_n 0, 1) := by decide +kernel
theorem dX5_takePlace_27 : decode cX5_takePlace 27 = .ok (.getfield 19, 3) := by decide +kernel
theorem dX5_takePlace_30 : decode cX5_takePlace 30 = .ok (.invokevirtual 80, 3) := by decide +kernel
theorem dX5_takePlace_33 : decode cX5_takePlace 33 = .ok (.ifCond .eq 7, 3) := by decide +kernel
theorem dX5_takePlace_36 : decode cX5_takePlace 36 = .ok (.iload_n 1, 1) := by decide +kernel
theorem dX5_takePlace_37 : decode cX5_takePlace 37 = .ok (.goto 4, 3) := by decide +kernel
theorem dX5_takePlace_40 : decode cX5_takePlace 40 = .ok (.iconst (-1), 1) := by decide +kernel
theorem dX5_takePlace_41 : decode cX5_takePlace 41 = .ok (.ireturn, 1) := by decide +kernel
set_option maxRecDepth 20000 in
theorem ggX5_takeUse_X0_grow : GoodIn wsX5_takeUse wsX0_grow := goodIn_r _ [8, 9, 10, 11, 12, 13, 14, 15, 16, 17, 7, 18, 19, 20, 21, 22, 23, 24, 25, 26, 27, 28, 29, 30, 31, 32, 33, 34, 35, 36, 37, 38, 39, 40, 41, 42, 43, 44, 45, 46, 47, 48, 49, 50, 51, 52, 53, 54, 55, 56, 57, 58, 66, 67, 68, 69, 64, 65] (by decide +kernel) (by decide +kernel)
set_option maxRecDepth 20000 in
theorem gX5_takeUse_X0_grow : GoodIn wsX5_takeUse (wsV RX5 153 RX0 yX0_grow wsX0_grow) := goodIn_app (goodIn_of _ (by decide +kernel)) ggX5_takeUse_X0_grow
theorem dX5_takeUse_0 : decode cX5_takeUse 0 = .ok (.aload_n 0, 1) := by decide +kernel
theorem dX5_takeUse_1 : decode cX5_takeUse 1 = .ok (.getfield 19, 3) := by decide +kernel
theorem dX5_takeUse_4 : decode cX5_takeUse 4 = .ok (.getfield 53, 3) := by decide +kernel
theorem dX5_takeUse_7 : decode cX5_takeUse 7 = .ok (.ifCond .le 22, 3) := by decide +kernel
theorem dX5_takeUse_10 : decode cX5_takeUse 10 = .ok (.aload_n 0, 1) := by decide +kernel
theorem dX5_takeUse_11 : decode cX5_takeUse 11 = .ok (.getfield 26, 3) := by decide +kernel
theorem dX5_takeUse_14 : decode cX5_takeUse 14 = .ok (.aload_n 0, 1) := by decide +kernel
theorem dX5_takeUse_15 : decode cX5_takeUse 15 = .ok (.getfield 19, 3) := by decide +kernel
theorem dX5_takeUse_18 : decode cX5_takeUse 18 = .ok (.iload_n 1, 1) := by decide +kernel
theorem dX5_takeUse_19 : decode cX5_takeUse 19 = .ok (.invokevirtual 153, 3) := by decide +kernel
theorem dX5_takeUse_22 : decode cX5_takeUse 22 = .ok (.ifCond .eq 7, 3) := by decide +kernel
theorem dX5_takeUse_25 : decode cX5_takeUse 25 = .ok (.iconst 1, 1) := by decide +kernel
theorem dX5_takeUse_26 : decode cX5_takeUse 26 = .ok (.goto 4, 3) := by decide +kernel
theorem dX5_takeUse_29 : decode cX5_takeUse 29 = .ok (.iconst 0, 1) := by decide +kernel
theorem dX5_takeUse_30 : decode cX5_takeUse 30 = .ok (.istore_n 2, 1) := by decide +kernel
theorem dX5_takeUse_31 : decode cX5_takeUse 31 = .ok (.aload_n 0, 1) := by decide +kernel
theorem dX5_takeUse_32 : decode cX5_takeUse 32 = .ok (.getfield 19, 3) := by decide +kernel
theorem dX5_takeUse_35 : decode cX5_takeUse 35 = .ok (.iconst 0, 1) := by decide +kernel
theorem dX5_takeUse_36 : decode cX5_takeUse 36 = .ok (.putfield 53, 3) := by decide +kernel
theorem dX5_takeUse_39 : decode cX5_takeUse 39 = .ok (.iload_n 2, 1) := by decide +kernel
theorem dX5_takeUse_40 : decode cX5_takeUse 40 = .ok (.ifCond .eq 7, 3) := by decide +kernel
theorem dX5_takeUse_43 : decode cX5_takeUse 43 = .ok (.iconst 1, 1) := by decide +kernel
theorem dX5_takeUse_44 : decode cX5_takeUse 44 = .ok (.goto 4, 3) := by decide +kernel
theorem dX5_takeUse_47 : decode cX5_takeUse 47 = .ok (.iconst 0, 1) := by decide +kernel
theorem dX5_takeUse_48 : decode cX5_takeUse 48 = .ok (.ireturn, 1) := by decide +kernel
theorem dX5_isSmallLetter_0 : decode cX5_isSmallLetter 0 = .ok (.iload_n 0, 1) := by decide +kernel
theorem dX5_isSmallLetter_1 : decode cX5_isSmallLetter 1 = .ok (.bipush 97, 2) := by decide +kernel
theorem dX5_isSmallLetter_3 : decode cX5_isSmallLetter 3 = .ok (.if_icmp .lt 13, 3) := by decide +kernel
theorem dX5_isSmallLetter_6 : decode cX5_isSmallLetter 6 = .ok (.iload_n 0, 1) := by decide +kernel
theorem dX5_isSmallLetter_7 : decode cX5_isSmallLetter 7 = .ok (.bipush 122, 2) := by decide +kernel
theorem dX5_isSmallLetter_9 : decode cX5_isSmallLetter 9 = .ok (.if_icmp .gt 7, 3) := by decide +kernel
theorem dX5_isSmallLetter_12 : decode cX5_isSmallLetter 12 = .ok (.iconst 1, 1) := by decide +kernel
theorem dX5_isSmallLetter_13 : decode cX5_isSmallLetter 13 = .ok (.goto 4, 3) := by decide +kernel
theorem dX5_isSmallLetter_16 : decode cX5_isSmallLetter 16 = .ok (.iconst 0, 1) := by decide +kernel
theorem dX5_isSmallLetter_17 : decode cX5_isSmallLetter 17 = .ok (.ireturn, 1) := by decide +kernel
set_option maxRecDepth 20000 in
theorem ggX5_smallLetter_X5_isSmallLetter : GoodIn wsX5_smallLetter wsX5_isSmallLetter := goodIn_r _ [4] (by decide +kernel) (by decide +kernel)
set_option maxRecDepth 20000 in
theorem gX5_smallLetter_X5_isSmallLetter : GoodIn wsX5_smallLetter (va_wsS RX5 150 yX5_isSmallLetter wsX5_isSmallLetter) := goodIn_app (goodIn_of _ (by decide +kernel)) ggX5_smallLetter_X5_isSmallLetter
theorem dX5_smallLetter_0 : decode cX5_smallLetter 0 = .ok (.iload_n 0, 1) := by decide +kernel
theorem dX5_smallLetter_1 : decode cX5_smallLetter 1 = .ok (.invokestatic 150, 3) := by decide +kernel
theorem dX5_smallLetter_4 : decode cX5_smallLetter 4 = .ok (.ifCond .eq 5, 3) := by decide +kernel
theorem dX5_smallLetter_7 : decode cX5_smallLetter 7 = .ok (.iload_n 0, 1) := by decide +kernel
theorem dX5_smallLetter_8 : decode cX5_smallLetter 8 = .ok (.ireturn, 1) := by decide +kernel
theorem dX5_smallLetter_9 : decode cX5_smallLetter 9 = .ok (.iload_n 0, 1) := by decide +kernel
theorem dX5_smallLetter_10 : decode cX5_smallLetter 10 = .ok (.bipush 65, 2) := by decide +kernel
theorem dX5_smallLetter_12 : decode cX5_smallLetter 12 = .ok (.if_icmp .lt 19, 3) := by decide +kernel
theorem dX5_smallLetter_15 : decode cX5_smallLetter 15 = .ok (.iload_n 0, 1) := by decide +kernel
theorem dX5_smallLetter_16 : decode cX5_smallLetter 16 = .ok (.bipush 90, 2) := by decide +kernel
theorem dX5_smallLetter_18 : decode cX5_smallLetter 18 = .ok (.if_icmp .gt 13, 3) := by decide +kernel
theorem dX5_smallLetter_21 : decode cX5_smallLetter 21 = .ok (.iload_n 0, 1) := by decide +kernel
theorem dX5_smallLetter_22 : decode cX5_smallLetter 22 = .ok (.bipush 65, 2) := by decide +kernel
theorem dX5_smallLetter_24 : decode cX5_smallLetter 24 = .ok (.isub, 1) := by decide +kernel
theorem dX5_smallLetter_25 : decode cX5_smallLetter 25 = .ok (.bipush 97, 2) := by decide +kernel
theorem dX5_smallLetter_27 : decode cX5_smallLetter 27 = .ok (.iadd, 1) := by decide +kernel
theorem dX5_smallLetter_28 : decode cX5_smallLetter 28 = .ok (.goto 4, 3) := by decide +kernel
theorem dX5_smallLetter_31 : decode cX5_smallLetter 31 = .ok (.iconst (-1), 1) := by decide +kernel
theorem dX5_smallLetter_32 : decode cX5_smallLetter 32 = .ok (.ireturn, 1) := by decide +kernel
