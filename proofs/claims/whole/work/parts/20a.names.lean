theorem dX6_init_0 : decode cX6_init 0 = .ok (.aload_n 0, 1) := by decide +kernel
theorem dX6_init_1 : decode cX6_init 1 = .ok (.invokespecial 1, 3) := by decide +kernel
theorem dX6_init_4 : decode cX6_init 4 = .ok (.aload_n 0, 1) := by decide +kernel
theorem dX6_init_5 : decode cX6_init 5 = .ok (.sipush 400, 3) := by decide +kernel
theorem dX6_init_8 : decode cX6_init 8 = .ok (.newarray .byte, 2) := by decide +kernel
theorem dX6_init_10 : decode cX6_init 10 = .ok (.putfield 7, 3) := by decide +kernel
theorem dX6_init_13 : decode cX6_init 13 = .ok (.aload_n 0, 1) := by decide +kernel
theorem dX6_init_14 : decode cX6_init 14 = .ok (.sipush 14424, 3) := by decide +kernel
theorem dX6_init_17 : decode cX6_init 17 = .ok (.newarray .byte, 2) := by decide +kernel
theorem dX6_init_19 : decode cX6_init 19 = .ok (.putfield 13, 3) := by decide +kernel
theorem dX6_init_22 : decode cX6_init 22 = .ok (.aload_n 0, 1) := by decide +kernel
theorem dX6_init_23 : decode cX6_init 23 = .ok (.sipush 601, 3) := by decide +kernel
theorem dX6_init_26 : decode cX6_init 26 = .ok (.newarray .int, 2) := by decide +kernel
theorem dX6_init_28 : decode cX6_init 28 = .ok (.putfield 16, 3) := by decide +kernel
theorem dX6_init_31 : decode cX6_init 31 = .ok (.aload_n 0, 1) := by decide +kernel
theorem dX6_init_32 : decode cX6_init 32 = .ok (.sipush 601, 3) := by decide +kernel
theorem dX6_init_35 : decode cX6_init 35 = .ok (.newarray .long, 2) := by decide +kernel
theorem dX6_init_37 : decode cX6_init 37 = .ok (.putfield 20, 3) := by decide +kernel
theorem dX6_init_40 : decode cX6_init 40 = .ok (.aload_n 0, 1) := by decide +kernel
theorem dX6_init_41 : decode cX6_init 41 = .ok (.sipush 1200, 3) := by decide +kernel
theorem dX6_init_44 : decode cX6_init 44 = .ok (.newarray .byte, 2) := by decide +kernel
theorem dX6_init_46 : decode cX6_init 46 = .ok (.putfield 24, 3) := by decide +kernel
theorem dX6_init_49 : decode cX6_init 49 = .ok (.aload_n 0, 1) := by decide +kernel
theorem dX6_init_50 : decode cX6_init 50 = .ok (.bipush 50, 2) := by decide +kernel
theorem dX6_init_52 : decode cX6_init 52 = .ok (.newarray .int, 2) := by decide +kernel
theorem dX6_init_54 : decode cX6_init 54 = .ok (.putfield 27, 3) := by decide +kernel
theorem dX6_init_57 : decode cX6_init 57 = .ok (.aload_n 0, 1) := by decide +kernel
theorem dX6_init_58 : decode cX6_init 58 = .ok (.bipush 50, 2) := by decide +kernel
theorem dX6_init_60 : decode cX6_init 60 = .ok (.newarray .long, 2) := by decide +kernel
theorem dX6_init_62 : decode cX6_init 62 = .ok (.putfield 30, 3) := by decide +kernel
theorem dX6_init_65 : decode cX6_init 65 = .ok (.aload_n 0, 1) := by decide +kernel
theorem dX6_init_66 : decode cX6_init 66 = .ok (.bipush 50, 2) := by decide +kernel
theorem dX6_init_68 : decode cX6_init 68 = .ok (.newarray .int, 2) := by decide +kernel
theorem dX6_init_70 : decode cX6_init 70 = .ok (.putfield 33, 3) := by decide +kernel
theorem dX6_init_73 : decode cX6_init 73 = .ok (.aload_n 0, 1) := by decide +kernel
theorem dX6_init_74 : decode cX6_init 74 = .ok (.sipush 600, 3) := by decide +kernel
theorem dX6_init_77 : decode cX6_init 77 = .ok (.newarray .boolean, 2) := by decide +kernel
theorem dX6_init_79 : decode cX6_init 79 = .ok (.putfield 36, 3) := by decide +kernel
theorem dX6_init_82 : decode cX6_init 82 = .ok (.aload_n 0, 1) := by decide +kernel
theorem dX6_init_83 : decode cX6_init 83 = .ok (.sipush 600, 3) := by decide +kernel
theorem dX6_init_86 : decode cX6_init 86 = .ok (.newarray .int, 2) := by decide +kernel
theorem dX6_init_88 : decode cX6_init 88 = .ok (.putfield 40, 3) := by decide +kernel
theorem dX6_init_91 : decode cX6_init 91 = .ok (.aload_n 0, 1) := by decide +kernel
theorem dX6_init_92 : decode cX6_init 92 = .ok (.bipush 25, 2) := by decide +kernel
theorem dX6_init_94 : decode cX6_init 94 = .ok (.newarray .int, 2) := by decide +kernel
theorem dX6_init_96 : decode cX6_init 96 = .ok (.putfield 43, 3) := by decide +kernel
theorem dX6_init_99 : decode cX6_init 99 = .ok (.aload_n 0, 1) := by decide +kernel
theorem dX6_init_100 : decode cX6_init 100 = .ok (.iconst 0, 1) := by decide +kernel
theorem dX6_init_101 : decode cX6_init 101 = .ok (.putfield 46, 3) := by decide +kernel
theorem dX6_init_104 : decode cX6_init 104 = .ok (.return_, 1) := by decide +kernel
theorem dX6_feed_0 : decode cX6_feed 0 = .ok (.aload_n 0, 1) := by decide +kernel
theorem dX6_feed_1 : decode cX6_feed 1 = .ok (.getfield 50, 3) := by decide +kernel
theorem dX6_feed_4 : decode cX6_feed 4 = .ok (.iconst 4, 1) := by decide +kernel
theorem dX6_feed_5 : decode cX6_feed 5 = .ok (.iadd, 1) := by decide +kernel
theorem dX6_feed_6 : decode cX6_feed 6 = .ok (.sipush 400, 3) := by decide +kernel
theorem dX6_feed_9 : decode cX6_feed 9 = .ok (.if_icmp .le 6, 3) := by decide +kernel
theorem dX6_feed_12 : decode cX6_feed 12 = .ok (.bipush (-2), 2) := by decide +kernel
theorem dX6_feed_14 : decode cX6_feed 14 = .ok (.ireturn, 1) := by decide +kernel
theorem dX6_feed_15 : decode cX6_feed 15 = .ok (.bipush 24, 2) := by decide +kernel
theorem dX6_feed_17 : decode cX6_feed 17 = .ok (.istore_n 2, 1) := by decide +kernel
theorem dX6_feed_18 : decode cX6_feed 18 = .ok (.iload_n 2, 1) := by decide +kernel
theorem dX6_feed_19 : decode cX6_feed 19 = .ok (.ifCond .lt 32, 3) := by decide +kernel
theorem dX6_feed_22 : decode cX6_feed 22 = .ok (.aload_n 0, 1) := by decide +kernel
theorem dX6_feed_23 : decode cX6_feed 23 = .ok (.getfield 7, 3) := by decide +kernel
theorem dX6_feed_26 : decode cX6_feed 26 = .ok (.aload_n 0, 1) := by decide +kernel
theorem dX6_feed_27 : decode cX6_feed 27 = .ok (.getfield 50, 3) := by decide +kernel
theorem dX6_feed_30 : decode cX6_feed 30 = .ok (.iload_n 1, 1) := by decide +kernel
theorem dX6_feed_31 : decode cX6_feed 31 = .ok (.iload_n 2, 1) := by decide +kernel
theorem dX6_feed_32 : decode cX6_feed 32 = .ok (.ishr, 1) := by decide +kernel
theorem dX6_feed_33 : decode cX6_feed 33 = .ok (.i2b, 1) := by decide +kernel
theorem dX6_feed_34 : decode cX6_feed 34 = .ok (.bastore, 1) := by decide +kernel
theorem dX6_feed_35 : decode cX6_feed 35 = .ok (.aload_n 0, 1) := by decide +kernel
theorem dX6_feed_36 : decode cX6_feed 36 = .ok (.dup, 1) := by decide +kernel
theorem dX6_feed_37 : decode cX6_feed 37 = .ok (.getfield 50, 3) := by decide +kernel
theorem dX6_feed_40 : decode cX6_feed 40 = .ok (.iconst 1, 1) := by decide +kernel
theorem dX6_feed_41 : decode cX6_feed 41 = .ok (.iadd, 1) := by decide +kernel
theorem dX6_feed_42 : decode cX6_feed 42 = .ok (.putfield 50, 3) := by decide +kernel
theorem dX6_feed_45 : decode cX6_feed 45 = .ok (.iinc 2 (-8), 3) := by decide +kernel
theorem dX6_feed_48 : decode cX6_feed 48 = .ok (.goto (-30), 3) := by decide +kernel
theorem dX6_feed_51 : decode cX6_feed 51 = .ok (.aload_n 0, 1) := by decide +kernel
theorem dX6_feed_52 : decode cX6_feed 52 = .ok (.getfield 50, 3) := by decide +kernel
theorem dX6_feed_55 : decode cX6_feed 55 = .ok (.ireturn, 1) := by decide +kernel
theorem dX6_cut_0 : decode cX6_cut 0 = .ok (.iload_n 1, 1) := by decide +kernel
theorem dX6_cut_1 : decode cX6_cut 1 = .ok (.ifCond .lt 11, 3) := by decide +kernel
theorem dX6_cut_4 : decode cX6_cut 4 = .ok (.iload_n 1, 1) := by decide +kernel
theorem dX6_cut_5 : decode cX6_cut 5 = .ok (.aload_n 0, 1) := by decide +kernel
theorem dX6_cut_6 : decode cX6_cut 6 = .ok (.getfield 50, 3) := by decide +kernel
theorem dX6_cut_9 : decode cX6_cut 9 = .ok (.if_icmp .le 5, 3) := by decide +kernel
theorem dX6_cut_12 : decode cX6_cut 12 = .ok (.iconst (-1), 1) := by decide +kernel
theorem dX6_cut_13 : decode cX6_cut 13 = .ok (.ireturn, 1) := by decide +kernel
theorem dX6_cut_14 : decode cX6_cut 14 = .ok (.aload_n 0, 1) := by decide +kernel
theorem dX6_cut_15 : decode cX6_cut 15 = .ok (.getfield 50, 3) := by decide +kernel
theorem dX6_cut_18 : decode cX6_cut 18 = .ok (.iload_n 1, 1) := by decide +kernel
theorem dX6_cut_19 : decode cX6_cut 19 = .ok (.isub, 1) := by decide +kernel
theorem dX6_cut_20 : decode cX6_cut 20 = .ok (.istore_n 2, 1) := by decide +kernel
theorem dX6_cut_21 : decode cX6_cut 21 = .ok (.aload_n 0, 1) := by decide +kernel
theorem dX6_cut_22 : decode cX6_cut 22 = .ok (.iload_n 1, 1) := by decide +kernel
theorem dX6_cut_23 : decode cX6_cut 23 = .ok (.putfield 50, 3) := by decide +kernel
theorem dX6_cut_26 : decode cX6_cut 26 = .ok (.iload_n 2, 1) := by decide +kernel
theorem dX6_cut_27 : decode cX6_cut 27 = .ok (.ireturn, 1) := by decide +kernel
theorem dX6_isSmall_0 : decode cX6_isSmall 0 = .ok (.iload_n 0, 1) := by decide +kernel
theorem dX6_isSmall_1 : decode cX6_isSmall 1 = .ok (.bipush 97, 2) := by decide +kernel
theorem dX6_isSmall_3 : decode cX6_isSmall 3 = .ok (.if_icmp .lt 13, 3) := by decide +kernel
theorem dX6_isSmall_6 : decode cX6_isSmall 6 = .ok (.iload_n 0, 1) := by decide +kernel
theorem dX6_isSmall_7 : decode cX6_isSmall 7 = .ok (.bipush 122, 2) := by decide +kernel
theorem dX6_isSmall_9 : decode cX6_isSmall 9 = .ok (.if_icmp .gt 7, 3) := by decide +kernel
theorem dX6_isSmall_12 : decode cX6_isSmall 12 = .ok (.iconst 1, 1) := by decide +kernel
theorem dX6_isSmall_13 : decode cX6_isSmall 13 = .ok (.goto 4, 3) := by decide +kernel
theorem dX6_isSmall_16 : decode cX6_isSmall 16 = .ok (.iconst 0, 1) := by decide +kernel
theorem dX6_isSmall_17 : decode cX6_isSmall 17 = .ok (.ireturn, 1) := by decide +kernel
set_option maxRecDepth 20000 in
theorem ggX6_compare_X6_small : GoodIn wsX6_compare wsX6_small := goodIn_r _ [7] (by decide +kernel) (by decide +kernel)
set_option maxRecDepth 20000 in
theorem gX6_compare_X6_small : GoodIn wsX6_compare (va_wsS RX6 53 yX6_small wsX6_small) := goodIn_app (goodIn_of _ (by decide +kernel)) ggX6_compare_X6_small
theorem dX6_compare_0 : decode cX6_compare 0 = .ok (.iconst 0, 1) := by decide +kernel
theorem dX6_compare_1 : decode cX6_compare 1 = .ok (.istore 4, 2) := by decide +kernel
theorem dX6_compare_3 : decode cX6_compare 3 = .ok (.iload 4, 2) := by decide +kernel
theorem dX6_compare_5 : decode cX6_compare 5 = .ok (.iload_n 2, 1) := by decide +kernel
theorem dX6_compare_6 : decode cX6_compare 6 = .ok (.if_icmp .ge 63, 3) := by decide +kernel
theorem dX6_compare_9 : decode cX6_compare 9 = .ok (.iload 4, 2) := by decide +kernel
theorem dX6_compare_11 : decode cX6_compare 11 = .ok (.aload_n 0, 1) := by decide +kernel
theorem dX6_compare_12 : decode cX6_compare 12 = .ok (.getfield 16, 3) := by decide +kernel
theorem dX6_compare_15 : decode cX6_compare 15 = .ok (.iload_n 3, 1) := by decide +kernel
theorem dX6_compare_16 : decode cX6_compare 16 = .ok (.iaload, 1) := by decide +kernel
theorem dX6_compare_17 : decode cX6_compare 17 = .ok (.if_icmp .ge 52, 3) := by decide +kernel
theorem dX6_compare_20 : decode cX6_compare 20 = .ok (.aload_n 0, 1) := by decide +kernel
theorem dX6_compare_21 : decode cX6_compare 21 = .ok (.getfield 7, 3) := by decide +kernel
theorem dX6_compare_24 : decode cX6_compare 24 = .ok (.iload_n 1, 1) := by decide +kernel
theorem dX6_compare_25 : decode cX6_compare 25 = .ok (.iload 4, 2) := by decide +kernel
theorem dX6_compare_27 : decode cX6_compare 27 = .ok (.iadd, 1) := by decide +kernel
theorem dX6_compare_28 : decode cX6_compare 28 = .ok (.baload, 1) := by decide +kernel
theorem dX6_compare_29 : decode cX6_compare 29 = .ok (.invokestatic 53, 3) := by decide +kernel
theorem dX6_compare_32 : decode cX6_compare 32 = .ok (.aload_n 0, 1) := by decide +kernel
theorem dX6_compare_33 : decode cX6_compare 33 = .ok (.getfield 13, 3) := by decide +kernel
theorem dX6_compare_36 : decode cX6_compare 36 = .ok (.bipush 24, 2) := by decide +kernel
theorem dX6_compare_38 : decode cX6_compare 38 = .ok (.iload_n 3, 1) := by decide +kernel
theorem dX6_compare_39 : decode cX6_compare 39 = .ok (.imul, 1) := by decide +kernel
theorem dX6_compare_40 : decode cX6_compare 40 = .ok (.iload 4, 2) := by decide +kernel
theorem dX6_compare_42 : decode cX6_compare 42 = .ok (.iadd, 1) := by decide +kernel
theorem dX6_compare_43 : decode cX6_compare 43 = .ok (.baload, 1) := by decide +kernel
theorem dX6_compare_44 : decode cX6_compare 44 = .ok (.isub, 1) := by decide +kernel
theorem dX6_compare_45 : decode cX6_compare 45 = .ok (.istore 5, 2) := by decide +kernel
theorem dX6_compare_47 : decode cX6_compare 47 = .ok (.iload 5, 2) := by decide +kernel
theorem dX6_compare_49 : decode cX6_compare 49 = .ok (.ifCond .eq 14, 3) := by decide +kernel
theorem dX6_compare_52 : decode cX6_compare 52 = .ok (.iload 5, 2) := by decide +kernel
theorem dX6_compare_54 : decode cX6_compare 54 = .ok (.ifCond .ge 7, 3) := by decide +kernel
theorem dX6_compare_57 : decode cX6_compare 57 = .ok (.iconst (-1), 1) := by decide +kernel
theorem dX6_compare_58 : decode cX6_compare 58 = .ok (.goto 4, 3) := by decide +kernel
theorem dX6_compare_61 : decode cX6_compare 61 = .ok (.iconst 1, 1) := by decide +kernel
theorem dX6_compare_62 : decode cX6_compare 62 = .ok (.ireturn, 1) := by decide +kernel
theorem dX6_compare_63 : decode cX6_compare 63 = .ok (.iinc 4 1, 3) := by decide +kernel
theorem dX6_compare_66 : decode cX6_compare 66 = .ok (.goto (-63), 3) := by decide +kernel
theorem dX6_compare_69 : decode cX6_compare 69 = .ok (.iload_n 2, 1) := by decide +kernel
theorem dX6_compare_70 : decode cX6_compare 70 = .ok (.aload_n 0, 1) := by decide +kernel
theorem dX6_compare_71 : decode cX6_compare 71 = .ok (.getfield 16, 3) := by decide +kernel
theorem dX6_compare_74 : decode cX6_compare 74 = .ok (.iload_n 3, 1) := by decide +kernel
theorem dX6_compare_75 : decode cX6_compare 75 = .ok (.iaload, 1) := by decide +kernel
theorem dX6_compare_76 : decode cX6_compare 76 = .ok (.if_icmp .ge 7, 3) := by decide +kernel
theorem dX6_compare_79 : decode cX6_compare 79 = .ok (.iconst (-1), 1) := by decide +kernel
theorem dX6_compare_80 : decode cX6_compare 80 = .ok (.goto 18, 3) := by decide +kernel
theorem dX6_compare_83 : decode cX6_compare 83 = .ok (.iload_n 2, 1) := by decide +kernel
theorem dX6_compare_84 : decode cX6_compare 84 = .ok (.aload_n 0, 1) := by decide +kernel
theorem dX6_compare_85 : decode cX6_compare 85 = .ok (.getfield 16, 3) := by decide +kernel
theorem dX6_compare_88 : decode cX6_compare 88 = .ok (.iload_n 3, 1) := by decide +kernel
theorem dX6_compare_89 : decode cX6_compare 89 = .ok (.iaload, 1) := by decide +kernel
theorem dX6_compare_90 : decode cX6_compare 90 = .ok (.if_icmp .le 7, 3) := by decide +kernel
theorem dX6_compare_93 : decode cX6_compare 93 = .ok (.iconst 1, 1) := by decide +kernel
theorem dX6_compare_94 : decode cX6_compare 94 = .ok (.goto 4, 3) := by decide +kernel
theorem dX6_compare_97 : decode cX6_compare 97 = .ok (.iconst 0, 1) := by decide +kernel
theorem dX6_compare_98 : decode cX6_compare 98 = .ok (.ireturn, 1) := by decide +kernel
theorem dX6_small_0 : decode cX6_small 0 = .ok (.iload_n 0, 1) := by decide +kernel
theorem dX6_small_1 : decode cX6_small 1 = .ok (.bipush 65, 2) := by decide +kernel
theorem dX6_small_3 : decode cX6_small 3 = .ok (.if_icmp .lt 16, 3) := by decide +kernel
theorem dX6_small_6 : decode cX6_small 6 = .ok (.iload_n 0, 1) := by decide +kernel
theorem dX6_small_7 : decode cX6_small 7 = .ok (.bipush 90, 2) := by decide +kernel
theorem dX6_small_9 : decode cX6_small 9 = .ok (.if_icmp .gt 10, 3) := by decide +kernel
theorem dX6_small_12 : decode cX6_small 12 = .ok (.iload_n 0, 1) := by decide +kernel
theorem dX6_small_13 : decode cX6_small 13 = .ok (.bipush 32, 2) := by decide +kernel
theorem dX6_small_15 : decode cX6_small 15 = .ok (.iadd, 1) := by decide +kernel
theorem dX6_small_16 : decode cX6_small 16 = .ok (.goto 4, 3) := by decide +kernel
theorem dX6_small_19 : decode cX6_small 19 = .ok (.iload_n 0, 1) := by decide +kernel
theorem dX6_small_20 : decode cX6_small 20 = .ok (.ireturn, 1) := by decide +kernel
set_option maxRecDepth 20000 in
theorem ggX6_find_X6_compare : GoodIn wsX6_find wsX6_compare := goodIn_r _ [6, 7, 8, 9, 10, 11, 5, 12, 13, 14, 15, 16, 17, 18, 19, 20, 21, 22, 23, 24, 25, 26, 27] (by decide +kernel) (by decide +kernel)
set_option maxRecDepth 20000 in
theorem gX6_find_X6_compare : GoodIn wsX6_find (wsV RX6 57 RX6 yX6_compare wsX6_compare) := goodIn_app (goodIn_of _ (by decide +kernel)) ggX6_find_X6_compare
theorem dX6_find_0 : decode cX6_find 0 = .ok (.iconst 0, 1) := by decide +kernel
theorem dX6_find_1 : decode cX6_find 1 = .ok (.istore_n 3, 1) := by decide +kernel
theorem dX6_find_2 : decode cX6_find 2 = .ok (.iload_n 3, 1) := by decide +kernel
theorem dX6_find_3 : decode cX6_find 3 = .ok (.aload_n 0, 1) := by decide +kernel
theorem dX6_find_4 : decode cX6_find 4 = .ok (.getfield 46, 3) := by decide +kernel
theorem dX6_find_7 : decode cX6_find 7 = .ok (.if_icmp .ge 21, 3) := by decide +kernel
theorem dX6_find_10 : decode cX6_find 10 = .ok (.aload_n 0, 1) := by decide +kernel
theorem dX6_find_11 : decode cX6_find 11 = .ok (.iload_n 1, 1) := by decide +kernel
theorem dX6_find_12 : decode cX6_find 12 = .ok (.iload_n 2, 1) := by decide +kernel
theorem dX6_find_13 : decode cX6_find 13 = .ok (.iload_n 3, 1) := by decide +kernel
theorem dX6_find_14 : decode cX6_find 14 = .ok (.invokevirtual 57, 3) := by decide +kernel
theorem dX6_find_17 : decode cX6_find 17 = .ok (.ifCond .ne 5, 3) := by decide +kernel
theorem dX6_find_20 : decode cX6_find 20 = .ok (.iload_n 3, 1) := by decide +kernel
theorem dX6_find_21 : decode cX6_find 21 = .ok (.ireturn, 1) := by decide +kernel
theorem dX6_find_22 : decode cX6_find 22 = .ok (.iinc 3 1, 3) := by decide +kernel
theorem dX6_find_25 : decode cX6_find 25 = .ok (.goto (-23), 3) := by decide +kernel
theorem dX6_find_28 : decode cX6_find 28 = .ok (.iconst (-1), 1) := by decide +kernel
theorem dX6_find_29 : decode cX6_find 29 = .ok (.ireturn, 1) := by decide +kernel
set_option maxRecDepth 20000 in
theorem ggX6_add_X6_compare : GoodIn wsX6_add wsX6_compare := goodIn_r _ [11, 5, 4, 3, 12, 13, 10, 14, 19, 20, 21, 22, 23, 24, 25, 26, 27, 28, 29, 30, 31, 32, 33] (by decide +kernel) (by decide +kernel)
set_option maxRecDepth 20000 in
theorem gX6_add_X6_compare : GoodIn wsX6_add (wsV RX6 57 RX6 yX6_compare wsX6_compare) := goodIn_app (goodIn_of _ (by decide +kernel)) ggX6_add_X6_compare
set_option maxRecDepth 20000 in
theorem ggX6_add_X6_move : GoodIn wsX6_add wsX6_move := goodIn_r _ [18, 3, 5, 6, 19, 20, 21, 22, 23, 24, 25, 26, 27, 28, 29, 30, 31, 32, 33] (by decide +kernel) (by decide +kernel)
set_option maxRecDepth 20000 in
theorem gX6_add_X6_move : GoodIn wsX6_add (wsV RX6 64 RX6 yX6_move wsX6_move) := goodIn_app (goodIn_of _ (by decide +kernel)) ggX6_add_X6_move
set_option maxRecDepth 20000 in
theorem ggX6_add_X6_small : GoodIn wsX6_add wsX6_small := goodIn_r _ [14] (by decide +kernel) (by decide +kernel)
set_option maxRecDepth 20000 in
theorem gX6_add_X6_small : GoodIn wsX6_add (va_wsS RX6 53 yX6_small wsX6_small) := goodIn_app (goodIn_of _ (by decide +kernel)) ggX6_add_X6_small
theorem dX6_add_0 : decode cX6_add 0 = .ok (.aload_n 0, 1) := by decide +kernel
theorem dX6_add_1 : decode cX6_add 1 = .ok (.getfield 46, 3) := by decide +kernel
theorem dX6_add_4 : decode cX6_add 4 = .ok (.sipush 600, 3) := by decide +kernel
theorem dX6_add_7 : decode cX6_add 7 = .ok (.if_icmp .eq 15, 3) := by decide +kernel
theorem dX6_add_10 : decode cX6_add 10 = .ok (.aload_n 0, 1) := by decide +kernel
theorem dX6_add_11 : decode cX6_add 11 = .ok (.getfield 61, 3) := by decide +kernel
theorem dX6_add_14 : decode cX6_add 14 = .ok (.iload_n 2, 1) := by decide +kernel
theorem dX6_add_15 : decode cX6_add 15 = .ok (.iadd, 1) := by decide +kernel
theorem dX6_add_16 : decode cX6_add 16 = .ok (.sipush 6000, 3) := by decide +kernel
theorem dX6_add_19 : decode cX6_add 19 = .ok (.if_icmp .le 5, 3) := by decide +kernel
theorem dX6_add_22 : decode cX6_add 22 = .ok (.iconst (-1), 1) := by decide +kernel
theorem dX6_add_23 : decode cX6_add 23 = .ok (.ireturn, 1) := by decide +kernel
theorem dX6_add_24 : decode cX6_add 24 = .ok (.aload_n 0, 1) := by decide +kernel
theorem dX6_add_25 : decode cX6_add 25 = .ok (.getfield 46, 3) := by decide +kernel
theorem dX6_add_28 : decode cX6_add 28 = .ok (.istore 5, 2) := by decide +kernel
theorem dX6_add_30 : decode cX6_add 30 = .ok (.iload 5, 2) := by decide +kernel
theorem dX6_add_32 : decode cX6_add 32 = .ok (.ifCond .le 32, 3) := by decide +kernel
theorem dX6_add_35 : decode cX6_add 35 = .ok (.aload_n 0, 1) := by decide +kernel
theorem dX6_add_36 : decode cX6_add 36 = .ok (.iload_n 1, 1) := by decide +kernel
theorem dX6_add_37 : decode cX6_add 37 = .ok (.iload_n 2, 1) := by decide +kernel
theorem dX6_add_38 : decode cX6_add 38 = .ok (.iload 5, 2) := by decide +kernel
theorem dX6_add_40 : decode cX6_add 40 = .ok (.iconst 1, 1) := by decide +kernel
theorem dX6_add_41 : decode cX6_add 41 = .ok (.isub, 1) := by decide +kernel
theorem dX6_add_42 : decode cX6_add 42 = .ok (.invokevirtual 57, 3) := by decide +kernel
theorem dX6_add_45 : decode cX6_add 45 = .ok (.ifCond .ge 19, 3) := by decide +kernel
theorem dX6_add_48 : decode cX6_add 48 = .ok (.aload_n 0, 1) := by decide +kernel
theorem dX6_add_49 : decode cX6_add 49 = .ok (.iload 5, 2) := by decide +kernel
theorem dX6_add_51 : decode cX6_add 51 = .ok (.iconst 1, 1) := by decide +kernel
theorem dX6_add_52 : decode cX6_add 52 = .ok (.isub, 1) := by decide +kernel
theorem dX6_add_53 : decode cX6_add 53 = .ok (.iload 5, 2) := by decide +kernel
theorem dX6_add_55 : decode cX6_add 55 = .ok (.invokevirtual 64, 3) := by decide +kernel
theorem dX6_add_58 : decode cX6_add 58 = .ok (.iinc 5 (-1), 3) := by decide +kernel
theorem dX6_add_61 : decode cX6_add 61 = .ok (.goto (-31), 3) := by decide +kernel
theorem dX6_add_64 : decode cX6_add 64 = .ok (.iconst 0, 1) := by decide +kernel
theorem dX6_add_65 : decode cX6_add 65 = .ok (.istore 6, 2) := by decide +kernel
theorem dX6_add_67 : decode cX6_add 67 = .ok (.iload 6, 2) := by decide +kernel
theorem dX6_add_69 : decode cX6_add 69 = .ok (.iload_n 2, 1) := by decide +kernel
theorem dX6_add_70 : decode cX6_add 70 = .ok (.if_icmp .ge 35, 3) := by decide +kernel
theorem dX6_add_73 : decode cX6_add 73 = .ok (.aload_n 0, 1) := by decide +kernel
theorem dX6_add_74 : decode cX6_add 74 = .ok (.getfield 13, 3) := by decide +kernel
theorem dX6_add_77 : decode cX6_add 77 = .ok (.bipush 24, 2) := by decide +kernel
theorem dX6_add_79 : decode cX6_add 79 = .ok (.iload 5, 2) := by decide +kernel
theorem dX6_add_81 : decode cX6_add 81 = .ok (.imul, 1) := by decide +kernel
theorem dX6_add_82 : decode cX6_add 82 = .ok (.iload 6, 2) := by decide +kernel
theorem dX6_add_84 : decode cX6_add 84 = .ok (.iadd, 1) := by decide +kernel
theorem dX6_add_85 : decode cX6_add 85 = .ok (.aload_n 0, 1) := by decide +kernel
theorem dX6_add_86 : decode cX6_add 86 = .ok (.getfield 7, 3) := by decide +kernel
theorem dX6_add_89 : decode cX6_add 89 = .ok (.iload_n 1, 1) := by decide +kernel
theorem dX6_add_90 : decode cX6_add 90 = .ok (.iload 6, 2) := by decide +kernel
theorem dX6_add_92 : decode cX6_add 92 = .ok (.iadd, 1) := by decide +kernel
theorem dX6_add_93 : decode cX6_add 93 = .ok (.baload, 1) := by decide +kernel
theorem dX6_add_94 : decode cX6_add 94 = .ok (.invokestatic 53, 3) := by decide +kernel
theorem dX6_add_97 : decode cX6_add 97 = .ok (.i2b, 1) := by decide +kernel
theorem dX6_add_98 : decode cX6_add 98 = .ok (.bastore, 1) := by decide +kernel
theorem dX6_add_99 : decode cX6_add 99 = .ok (.iinc 6 1, 3) := by decide +kernel
theorem dX6_add_102 : decode cX6_add 102 = .ok (.goto (-35), 3) := by decide +kernel
theorem dX6_add_105 : decode cX6_add 105 = .ok (.aload_n 0, 1) := by decide +kernel
theorem dX6_add_106 : decode cX6_add 106 = .ok (.getfield 16, 3) := by decide +kernel
theorem dX6_add_109 : decode cX6_add 109 = .ok (.iload 5, 2) := by decide +kernel
theorem dX6_add_111 : decode cX6_add 111 = .ok (.iload_n 2, 1) := by decide +kernel
theorem dX6_add_112 : decode cX6_add 112 = .ok (.iastore, 1) := by decide +kernel
theorem dX6_add_113 : decode cX6_add 113 = .ok (.aload_n 0, 1) := by decide +kernel
theorem dX6_add_114 : decode cX6_add 114 = .ok (.getfield 20, 3) := by decide +kernel
theorem dX6_add_117 : decode cX6_add 117 = .ok (.iload 5, 2) := by decide +kernel
theorem dX6_add_119 : decode cX6_add 119 = .ok (.lload_n 3, 1) := by decide +kernel
theorem dX6_add_120 : decode cX6_add 120 = .ok (.lastore, 1) := by decide +kernel
theorem dX6_add_121 : decode cX6_add 121 = .ok (.aload_n 0, 1) := by decide +kernel
theorem dX6_add_122 : decode cX6_add 122 = .ok (.dup, 1) := by decide +kernel
theorem dX6_add_123 : decode cX6_add 123 = .ok (.getfield 46, 3) := by decide +kernel
theorem dX6_add_126 : decode cX6_add 126 = .ok (.iconst 1, 1) := by decide +kernel
theorem dX6_add_127 : decode cX6_add 127 = .ok (.iadd, 1) := by decide +kernel
theorem dX6_add_128 : decode cX6_add 128 = .ok (.putfield 46, 3) := by decide +kernel
theorem dX6_add_131 : decode cX6_add 131 = .ok (.aload_n 0, 1) := by decide +kernel
theorem dX6_add_132 : decode cX6_add 132 = .ok (.dup, 1) := by decide +kernel
theorem dX6_add_133 : decode cX6_add 133 = .ok (.getfield 61, 3) := by decide +kernel
theorem dX6_add_136 : decode cX6_add 136 = .ok (.iload_n 2, 1) := by decide +kernel
theorem dX6_add_137 : decode cX6_add 137 = .ok (.iadd, 1) := by decide +kernel
theorem dX6_add_138 : decode cX6_add 138 = .ok (.putfield 61, 3) := by decide +kernel
theorem dX6_add_141 : decode cX6_add 141 = .ok (.iload 5, 2) := by decide +kernel
theorem dX6_add_143 : decode cX6_add 143 = .ok (.ireturn, 1) := by decide +kernel
theorem dX6_move_0 : decode cX6_move 0 = .ok (.iconst 0, 1) := by decide +kernel
theorem dX6_move_1 : decode cX6_move 1 = .ok (.istore_n 3, 1) := by decide +kernel
theorem dX6_move_2 : decode cX6_move 2 = .ok (.iload_n 3, 1) := by decide +kernel
theorem dX6_move_3 : decode cX6_move 3 = .ok (.bipush 24, 2) := by decide +kernel
theorem dX6_move_5 : decode cX6_move 5 = .ok (.if_icmp .ge 31, 3) := by decide +kernel
theorem dX6_move_8 : decode cX6_move 8 = .ok (.aload_n 0, 1) := by decide +kernel
theorem dX6_move_9 : decode cX6_move 9 = .ok (.getfield 13, 3) := by decide +kernel
theorem dX6_move_12 : decode cX6_move 12 = .ok (.bipush 24, 2) := by decide +kernel
theorem dX6_move_14 : decode cX6_move 14 = .ok (.iload_n 2, 1) := by decide +kernel
theorem dX6_move_15 : decode cX6_move 15 = .ok (.imul, 1) := by decide +kernel
theorem dX6_move_16 : decode cX6_move 16 = .ok (.iload_n 3, 1) := by decide +kernel
theorem dX6_move_17 : decode cX6_move 17 = .ok (.iadd, 1) := by decide +kernel
theorem dX6_move_18 : decode cX6_move 18 = .ok (.aload_n 0, 1) := by decide +kernel
theorem dX6_move_19 : decode cX6_move 19 = .ok (.getfield 13, 3) := by decide +kernel
theorem dX6_move_22 : decode cX6_move 22 = .ok (.bipush 24, 2) := by decide +kernel
theorem dX6_move_24 : decode cX6_move 24 = .ok (.iload_n 1, 1) := by decide +kernel
theorem dX6_move_25 : decode cX6_move 25 = .ok (.imul, 1) := by decide +kernel
theorem dX6_move_26 : decode cX6_move 26 = .ok (.iload_n 3, 1) := by decide +kernel
theorem dX6_move_27 : decode cX6_move 27 = .ok (.iadd, 1) := by decide +kernel
theorem dX6_move_28 : decode cX6_move 28 = .ok (.baload, 1) := by decide +kernel
theorem dX6_move_29 : decode cX6_move 29 = .ok (.bastore, 1) := by decide +kernel
theorem dX6_move_30 : decode cX6_move 30 = .ok (.iinc 3 1, 3) := by decide +kernel
theorem dX6_move_33 : decode cX6_move 33 = .ok (.goto (-31), 3) := by decide +kernel
theorem dX6_move_36 : decode cX6_move 36 = .ok (.aload_n 0, 1) := by decide +kernel
theorem dX6_move_37 : decode cX6_move 37 = .ok (.getfield 16, 3) := by decide +kernel
theorem dX6_move_40 : decode cX6_move 40 = .ok (.iload_n 2, 1) := by decide +kernel
theorem dX6_move_41 : decode cX6_move 41 = .ok (.aload_n 0, 1) := by decide +kernel
theorem dX6_move_42 : decode cX6_move 42 = .ok (.getfield 16, 3) := by decide +kernel
theorem dX6_move_45 : decode cX6_move 45 = .ok (.iload_n 1, 1) := by decide +kernel
theorem dX6_move_46 : decode cX6_move 46 = .ok (.iaload, 1) := by decide +kernel
theorem dX6_move_47 : decode cX6_move 47 = .ok (.iastore, 1) := by decide +kernel
theorem dX6_move_48 : decode cX6_move 48 = .ok (.aload_n 0, 1) := by decide +kernel
theorem dX6_move_49 : decode cX6_move 49 = .ok (.getfield 20, 3) := by decide +kernel
theorem dX6_move_52 : decode cX6_move 52 = .ok (.iload_n 2, 1) := by decide +kernel
theorem dX6_move_53 : decode cX6_move 53 = .ok (.aload_n 0, 1) := by decide +kernel
theorem dX6_move_54 : decode cX6_move 54 = .ok (.getfield 20, 3) := by decide +kernel
theorem dX6_move_57 : decode cX6_move 57 = .ok (.iload_n 1, 1) := by decide +kernel
theorem dX6_move_58 : decode cX6_move 58 = .ok (.laload, 1) := by decide +kernel
theorem dX6_move_59 : decode cX6_move 59 = .ok (.lastore, 1) := by decide +kernel
theorem dX6_move_60 : decode cX6_move 60 = .ok (.return_, 1) := by decide +kernel
set_option maxRecDepth 20000 in
theorem ggX6_taken_X6_isSmall : GoodIn wsX6_taken wsX6_isSmall := goodIn_r _ [6] (by decide +kernel) (by decide +kernel)
set_option maxRecDepth 20000 in
theorem gX6_taken_X6_isSmall : GoodIn wsX6_taken (va_wsS RX6 68 yX6_isSmall wsX6_isSmall) := goodIn_app (goodIn_of _ (by decide +kernel)) ggX6_taken_X6_isSmall
theorem dX6_taken_0 : decode cX6_taken 0 = .ok (.aload_n 0, 1) := by decide +kernel
theorem dX6_taken_1 : decode cX6_taken 1 = .ok (.getfield 50, 3) := by decide +kernel
theorem dX6_taken_4 : decode cX6_taken 4 = .ok (.istore_n 2, 1) := by decide +kernel
theorem dX6_taken_5 : decode cX6_taken 5 = .ok (.aload_n 0, 1) := by decide +kernel
theorem dX6_taken_6 : decode cX6_taken 6 = .ok (.iconst 0, 1) := by decide +kernel
theorem dX6_taken_7 : decode cX6_taken 7 = .ok (.putfield 50, 3) := by decide +kernel
theorem dX6_taken_10 : decode cX6_taken 10 = .ok (.iload_n 2, 1) := by decide +kernel
theorem dX6_taken_11 : decode cX6_taken 11 = .ok (.iload_n 1, 1) := by decide +kernel
theorem dX6_taken_12 : decode cX6_taken 12 = .ok (.if_icmp .lt 13, 3) := by decide +kernel
theorem dX6_taken_15 : decode cX6_taken 15 = .ok (.iload_n 2, 1) := by decide +kernel
theorem dX6_taken_16 : decode cX6_taken 16 = .ok (.bipush 24, 2) := by decide +kernel
theorem dX6_taken_18 : decode cX6_taken 18 = .ok (.if_icmp .gt 7, 3) := by decide +kernel
theorem dX6_taken_21 : decode cX6_taken 21 = .ok (.iconst 1, 1) := by decide +kernel
theorem dX6_taken_22 : decode cX6_taken 22 = .ok (.goto 4, 3) := by decide +kernel
theorem dX6_taken_25 : decode cX6_taken 25 = .ok (.iconst 0, 1) := by decide +kernel
theorem dX6_taken_26 : decode cX6_taken 26 = .ok (.istore_n 3, 1) := by decide +kernel
theorem dX6_taken_27 : decode cX6_taken 27 = .ok (.iconst 0, 1) := by decide +kernel
theorem dX6_taken_28 : decode cX6_taken 28 = .ok (.istore 4, 2) := by decide +kernel
theorem dX6_taken_30 : decode cX6_taken 30 = .ok (.iload 4, 2) := by decide +kernel
theorem dX6_taken_32 : decode cX6_taken 32 = .ok (.iload_n 2, 1) := by decide +kernel
theorem dX6_taken_33 : decode cX6_taken 33 = .ok (.if_icmp .ge 24, 3) := by decide +kernel
theorem dX6_taken_36 : decode cX6_taken 36 = .ok (.iload_n 3, 1) := by decide +kernel
theorem dX6_taken_37 : decode cX6_taken 37 = .ok (.ifCond .eq 20, 3) := by decide +kernel
theorem dX6_taken_40 : decode cX6_taken 40 = .ok (.aload_n 0, 1) := by decide +kernel
theorem dX6_taken_41 : decode cX6_taken 41 = .ok (.getfield 7, 3) := by decide +kernel
theorem dX6_taken_44 : decode cX6_taken 44 = .ok (.iload 4, 2) := by decide +kernel
theorem dX6_taken_46 : decode cX6_taken 46 = .ok (.baload, 1) := by decide +kernel
theorem dX6_taken_47 : decode cX6_taken 47 = .ok (.invokestatic 68, 3) := by decide +kernel
theorem dX6_taken_50 : decode cX6_taken 50 = .ok (.istore_n 3, 1) := by decide +kernel
theorem dX6_taken_51 : decode cX6_taken 51 = .ok (.iinc 4 1, 3) := by decide +kernel
theorem dX6_taken_54 : decode cX6_taken 54 = .ok (.goto (-24), 3) := by decide +kernel
theorem dX6_taken_57 : decode cX6_taken 57 = .ok (.iload_n 3, 1) := by decide +kernel
theorem dX6_taken_58 : decode cX6_taken 58 = .ok (.ifCond .eq 7, 3) := by decide +kernel
theorem dX6_taken_61 : decode cX6_taken 61 = .ok (.iload_n 2, 1) := by decide +kernel
theorem dX6_taken_62 : decode cX6_taken 62 = .ok (.goto 4, 3) := by decide +kernel
theorem dX6_taken_65 : decode cX6_taken 65 = .ok (.iconst (-1), 1) := by decide +kernel
theorem dX6_taken_66 : decode cX6_taken 66 = .ok (.ireturn, 1) := by decide +kernel
theorem dX6_isLetter_0 : decode cX6_isLetter 0 = .ok (.iload_n 0, 1) := by decide +kernel
theorem dX6_isLetter_1 : decode cX6_isLetter 1 = .ok (.bipush 97, 2) := by decide +kernel
theorem dX6_isLetter_3 : decode cX6_isLetter 3 = .ok (.if_icmp .lt 9, 3) := by decide +kernel
theorem dX6_isLetter_6 : decode cX6_isLetter 6 = .ok (.iload_n 0, 1) := by decide +kernel
theorem dX6_isLetter_7 : decode cX6_isLetter 7 = .ok (.bipush 122, 2) := by decide +kernel
theorem dX6_isLetter_9 : decode cX6_isLetter 9 = .ok (.if_icmp .le 15, 3) := by decide +kernel
theorem dX6_isLetter_12 : decode cX6_isLetter 12 = .ok (.iload_n 0, 1) := by decide +kernel
theorem dX6_isLetter_13 : decode cX6_isLetter 13 = .ok (.bipush 65, 2) := by decide +kernel
theorem dX6_isLetter_15 : decode cX6_isLetter 15 = .ok (.if_icmp .lt 13, 3) := by decide +kernel
theorem dX6_isLetter_18 : decode cX6_isLetter 18 = .ok (.iload_n 0, 1) := by decide +kernel
theorem dX6_isLetter_19 : decode cX6_isLetter 19 = .ok (.bipush 90, 2) := by decide +kernel
theorem dX6_isLetter_21 : decode cX6_isLetter 21 = .ok (.if_icmp .gt 7, 3) := by decide +kernel
theorem dX6_isLetter_24 : decode cX6_isLetter 24 = .ok (.iconst 1, 1) := by decide +kernel
theorem dX6_isLetter_25 : decode cX6_isLetter 25 = .ok (.goto 4, 3) := by decide +kernel
theorem dX6_isLetter_28 : decode cX6_isLetter 28 = .ok (.iconst 0, 1) := by decide +kernel
theorem dX6_isLetter_29 : decode cX6_isLetter 29 = .ok (.ireturn, 1) := by decide +kernel
set_option maxRecDepth 20000 in
theorem ggX6_learn_X6_isLetter : GoodIn wsX6_learn wsX6_isLetter := goodIn_r _ [9] (by decide +kernel) (by decide +kernel)
set_option maxRecDepth 20000 in
theorem gX6_learn_X6_isLetter : GoodIn wsX6_learn (va_wsS RX6 73 yX6_isLetter wsX6_isLetter) := goodIn_app (goodIn_of _ (by decide +kernel)) ggX6_learn_X6_isLetter
set_option maxRecDepth 20000 in
theorem ggX6_learn_X6_find : GoodIn wsX6_learn wsX6_find := goodIn_r _ [13, 14, 15, 16, 17, 8, 18, 19, 3, 20, 21, 22, 23, 33, 34, 35, 36, 37, 38, 39, 40, 41, 42, 43, 44, 45, 46, 47] (by decide +kernel) (by decide +kernel)
set_option maxRecDepth 20000 in
theorem gX6_learn_X6_find : GoodIn wsX6_learn (wsV RX6 76 RX6 yX6_find wsX6_find) := goodIn_app (goodIn_of _ (by decide +kernel)) ggX6_learn_X6_find
set_option maxRecDepth 20000 in
theorem ggX6_learn_X6_add : GoodIn wsX6_learn wsX6_add := goodIn_r _ [27, 14, 28, 20, 3, 19, 4, 15, 16, 17, 8, 18, 21, 22, 23, 29, 30, 31, 32, 33, 34, 35, 36, 37, 38, 39, 40, 41, 42, 43, 44, 45, 46, 47] (by decide +kernel) (by decide +kernel)
set_option maxRecDepth 20000 in
theorem gX6_learn_X6_add : GoodIn wsX6_learn (wsV RX6 82 RX6 yX6_add wsX6_add) := goodIn_app (goodIn_of _ (by decide +kernel)) ggX6_learn_X6_add
theorem dX6_learn_0 : decode cX6_learn 0 = .ok (.iload_n 1, 1) := by decide +kernel
theorem dX6_learn_1 : decode cX6_learn 1 = .ok (.ifCond .lt 9, 3) := by decide +kernel
theorem dX6_learn_4 : decode cX6_learn 4 = .ok (.iload_n 1, 1) := by decide +kernel
theorem dX6_learn_5 : decode cX6_learn 5 = .ok (.ldc 72, 2) := by decide +kernel
theorem dX6_learn_7 : decode cX6_learn 7 = .ok (.if_icmp .le 5, 3) := by decide +kernel
theorem dX6_learn_10 : decode cX6_learn 10 = .ok (.iconst (-1), 1) := by decide +kernel
theorem dX6_learn_11 : decode cX6_learn 11 = .ok (.ireturn, 1) := by decide +kernel
theorem dX6_learn_12 : decode cX6_learn 12 = .ok (.iconst 0, 1) := by decide +kernel
theorem dX6_learn_13 : decode cX6_learn 13 = .ok (.istore_n 2, 1) := by decide +kernel
theorem dX6_learn_14 : decode cX6_learn 14 = .ok (.iconst 0, 1) := by decide +kernel
theorem dX6_learn_15 : decode cX6_learn 15 = .ok (.istore_n 3, 1) := by decide +kernel
theorem dX6_learn_16 : decode cX6_learn 16 = .ok (.iload_n 3, 1) := by decide +kernel
theorem dX6_learn_17 : decode cX6_learn 17 = .ok (.aload_n 0, 1) := by decide +kernel
theorem dX6_learn_18 : decode cX6_learn 18 = .ok (.getfield 50, 3) := by decide +kernel
theorem dX6_learn_21 : decode cX6_learn 21 = .ok (.if_icmp .ge 145, 3) := by decide +kernel
theorem dX6_learn_24 : decode cX6_learn 24 = .ok (.iload_n 3, 1) := by decide +kernel
theorem dX6_learn_25 : decode cX6_learn 25 = .ok (.istore 4, 2) := by decide +kernel
theorem dX6_learn_27 : decode cX6_learn 27 = .ok (.iload_n 3, 1) := by decide +kernel
theorem dX6_learn_28 : decode cX6_learn 28 = .ok (.aload_n 0, 1) := by decide +kernel
theorem dX6_learn_29 : decode cX6_learn 29 = .ok (.getfield 50, 3) := by decide +kernel
theorem dX6_learn_32 : decode cX6_learn 32 = .ok (.if_icmp .ge 21, 3) := by decide +kernel
theorem dX6_learn_35 : decode cX6_learn 35 = .ok (.aload_n 0, 1) := by decide +kernel
theorem dX6_learn_36 : decode cX6_learn 36 = .ok (.getfield 7, 3) := by decide +kernel
theorem dX6_learn_39 : decode cX6_learn 39 = .ok (.iload_n 3, 1) := by decide +kernel
theorem dX6_learn_40 : decode cX6_learn 40 = .ok (.baload, 1) := by decide +kernel
theorem dX6_learn_41 : decode cX6_learn 41 = .ok (.invokestatic 73, 3) := by decide +kernel
theorem dX6_learn_44 : decode cX6_learn 44 = .ok (.ifCond .eq 9, 3) := by decide +kernel
theorem dX6_learn_47 : decode cX6_learn 47 = .ok (.iinc 3 1, 3) := by decide +kernel
theorem dX6_learn_50 : decode cX6_learn 50 = .ok (.goto (-23), 3) := by decide +kernel
theorem dX6_learn_53 : decode cX6_learn 53 = .ok (.iload_n 3, 1) := by decide +kernel
theorem dX6_learn_54 : decode cX6_learn 54 = .ok (.iload 4, 2) := by decide +kernel
theorem dX6_learn_56 : decode cX6_learn 56 = .ok (.isub, 1) := by decide +kernel
theorem dX6_learn_57 : decode cX6_learn 57 = .ok (.bipush 24, 2) := by decide +kernel
theorem dX6_learn_59 : decode cX6_learn 59 = .ok (.if_icmp .le 8, 3) := by decide +kernel
theorem dX6_learn_62 : decode cX6_learn 62 = .ok (.bipush 24, 2) := by decide +kernel
theorem dX6_learn_64 : decode cX6_learn 64 = .ok (.goto 7, 3) := by decide +kernel
theorem dX6_learn_67 : decode cX6_learn 67 = .ok (.iload_n 3, 1) := by decide +kernel
theorem dX6_learn_68 : decode cX6_learn 68 = .ok (.iload 4, 2) := by decide +kernel
theorem dX6_learn_70 : decode cX6_learn 70 = .ok (.isub, 1) := by decide +kernel
theorem dX6_learn_71 : decode cX6_learn 71 = .ok (.istore 5, 2) := by decide +kernel
theorem dX6_learn_73 : decode cX6_learn 73 = .ok (.iload 5, 2) := by decide +kernel
theorem dX6_learn_75 : decode cX6_learn 75 = .ok (.ifCond .le 85, 3) := by decide +kernel
theorem dX6_learn_78 : decode cX6_learn 78 = .ok (.aload_n 0, 1) := by decide +kernel
theorem dX6_learn_79 : decode cX6_learn 79 = .ok (.iload 4, 2) := by decide +kernel
theorem dX6_learn_81 : decode cX6_learn 81 = .ok (.iload 5, 2) := by decide +kernel
theorem dX6_learn_83 : decode cX6_learn 83 = .ok (.invokevirtual 76, 3) := by decide +kernel
theorem dX6_learn_86 : decode cX6_learn 86 = .ok (.istore 6, 2) := by decide +kernel
theorem dX6_learn_88 : decode cX6_learn 88 = .ok (.iload 6, 2) := by decide +kernel
theorem dX6_learn_90 : decode cX6_learn 90 = .ok (.ifCond .lt 49, 3) := by decide +kernel
theorem dX6_learn_93 : decode cX6_learn 93 = .ok (.aload_n 0, 1) := by decide +kernel
theorem dX6_learn_94 : decode cX6_learn 94 = .ok (.getfield 20, 3) := by decide +kernel
theorem dX6_learn_97 : decode cX6_learn 97 = .ok (.iload 6, 2) := by decide +kernel
theorem dX6_learn_99 : decode cX6_learn 99 = .ok (.aload_n 0, 1) := by decide +kernel
theorem dX6_learn_100 : decode cX6_learn 100 = .ok (.getfield 20, 3) := by decide +kernel
theorem dX6_learn_103 : decode cX6_learn 103 = .ok (.iload 6, 2) := by decide +kernel
theorem dX6_learn_105 : decode cX6_learn 105 = .ok (.laload, 1) := by decide +kernel
theorem dX6_learn_106 : decode cX6_learn 106 = .ok (.iload_n 1, 1) := by decide +kernel
theorem dX6_learn_107 : decode cX6_learn 107 = .ok (.i2l, 1) := by decide +kernel
theorem dX6_learn_108 : decode cX6_learn 108 = .ok (.ladd, 1) := by decide +kernel
theorem dX6_learn_109 : decode cX6_learn 109 = .ok (.ldc2_w 80, 3) := by decide +kernel
theorem dX6_learn_112 : decode cX6_learn 112 = .ok (.lcmp, 1) := by decide +kernel
theorem dX6_learn_113 : decode cX6_learn 113 = .ok (.ifCond .le 9, 3) := by decide +kernel
theorem dX6_learn_116 : decode cX6_learn 116 = .ok (.ldc2_w 80, 3) := by decide +kernel
theorem dX6_learn_119 : decode cX6_learn 119 = .ok (.goto 13, 3) := by decide +kernel
theorem dX6_learn_122 : decode cX6_learn 122 = .ok (.aload_n 0, 1) := by decide +kernel
theorem dX6_learn_123 : decode cX6_learn 123 = .ok (.getfield 20, 3) := by decide +kernel
theorem dX6_learn_126 : decode cX6_learn 126 = .ok (.iload 6, 2) := by decide +kernel
theorem dX6_learn_128 : decode cX6_learn 128 = .ok (.laload, 1) := by decide +kernel
theorem dX6_learn_129 : decode cX6_learn 129 = .ok (.iload_n 1, 1) := by decide +kernel
theorem dX6_learn_130 : decode cX6_learn 130 = .ok (.i2l, 1) := by decide +kernel
theorem dX6_learn_131 : decode cX6_learn 131 = .ok (.ladd, 1) := by decide +kernel
theorem dX6_learn_132 : decode cX6_learn 132 = .ok (.lastore, 1) := by decide +kernel
theorem dX6_learn_133 : decode cX6_learn 133 = .ok (.iinc 2 1, 3) := by decide +kernel
theorem dX6_learn_136 : decode cX6_learn 136 = .ok (.goto 24, 3) := by decide +kernel
theorem dX6_learn_139 : decode cX6_learn 139 = .ok (.iload_n 2, 1) := by decide +kernel
theorem dX6_learn_140 : decode cX6_learn 140 = .ok (.aload_n 0, 1) := by decide +kernel
theorem dX6_learn_141 : decode cX6_learn 141 = .ok (.iload 4, 2) := by decide +kernel
theorem dX6_learn_143 : decode cX6_learn 143 = .ok (.iload 5, 2) := by decide +kernel
theorem dX6_learn_145 : decode cX6_learn 145 = .ok (.iload_n 1, 1) := by decide +kernel
theorem dX6_learn_146 : decode cX6_learn 146 = .ok (.i2l, 1) := by decide +kernel
theorem dX6_learn_147 : decode cX6_learn 147 = .ok (.invokevirtual 82, 3) := by decide +kernel
theorem dX6_learn_150 : decode cX6_learn 150 = .ok (.ifCond .lt 7, 3) := by decide +kernel
theorem dX6_learn_153 : decode cX6_learn 153 = .ok (.iconst 1, 1) := by decide +kernel
theorem dX6_learn_154 : decode cX6_learn 154 = .ok (.goto 4, 3) := by decide +kernel
theorem dX6_learn_157 : decode cX6_learn 157 = .ok (.iconst 0, 1) := by decide +kernel
theorem dX6_learn_158 : decode cX6_learn 158 = .ok (.iadd, 1) := by decide +kernel
theorem dX6_learn_159 : decode cX6_learn 159 = .ok (.istore_n 2, 1) := by decide +kernel
theorem dX6_learn_160 : decode cX6_learn 160 = .ok (.iinc 3 1, 3) := by decide +kernel
theorem dX6_learn_163 : decode cX6_learn 163 = .ok (.goto (-147), 3) := by decide +kernel
theorem dX6_learn_166 : decode cX6_learn 166 = .ok (.aload_n 0, 1) := by decide +kernel
theorem dX6_learn_167 : decode cX6_learn 167 = .ok (.iconst 0, 1) := by decide +kernel
theorem dX6_learn_168 : decode cX6_learn 168 = .ok (.putfield 50, 3) := by decide +kernel
theorem dX6_learn_171 : decode cX6_learn 171 = .ok (.iload_n 2, 1) := by decide +kernel
theorem dX6_learn_172 : decode cX6_learn 172 = .ok (.ireturn, 1) := by decide +kernel
set_option maxRecDepth 20000 in
theorem ggX6_set_X6_taken : GoodIn wsX6_set wsX6_taken := goodIn_r _ [7, 8, 9, 10, 11, 6, 12, 36, 37, 38, 39, 40, 41, 42, 43, 44, 45, 46, 47, 48, 49, 50] (by decide +kernel) (by decide +kernel)
set_option maxRecDepth 20000 in
theorem gX6_set_X6_taken : GoodIn wsX6_set (wsV RX6 86 RX6 yX6_taken wsX6_taken) := goodIn_app (goodIn_of _ (by decide +kernel)) ggX6_set_X6_taken
set_option maxRecDepth 20000 in
theorem ggX6_set_X6_find : GoodIn wsX6_set wsX6_find := goodIn_r _ [16, 17, 18, 19, 20, 6, 21, 22, 9, 23, 24, 25, 26, 36, 37, 38, 39, 40, 41, 42, 43, 44, 45, 46, 47, 48, 49, 50] (by decide +kernel) (by decide +kernel)
set_option maxRecDepth 20000 in
theorem gX6_set_X6_find : GoodIn wsX6_set (wsV RX6 76 RX6 yX6_find wsX6_find) := goodIn_app (goodIn_of _ (by decide +kernel)) ggX6_set_X6_find
set_option maxRecDepth 20000 in
theorem ggX6_set_X6_add : GoodIn wsX6_set wsX6_add := goodIn_r _ [30, 17, 31, 23, 9, 22, 2, 18, 19, 20, 6, 21, 24, 25, 26, 32, 33, 34, 35, 36, 37, 38, 39, 40, 41, 42, 43, 44, 45, 46, 47, 48, 49, 50] (by decide +kernel) (by decide +kernel)
set_option maxRecDepth 20000 in
theorem gX6_set_X6_add : GoodIn wsX6_set (wsV RX6 82 RX6 yX6_add wsX6_add) := goodIn_app (goodIn_of _ (by decide +kernel)) ggX6_set_X6_add
theorem dX6_set_0 : decode cX6_set 0 = .ok (.aload_n 0, 1) := by decide +kernel
theorem dX6_set_1 : decode cX6_set 1 = .ok (.iconst 1, 1) := by decide +kernel
theorem dX6_set_2 : decode cX6_set 2 = .ok (.invokevirtual 86, 3) := by decide +kernel
theorem dX6_set_5 : decode cX6_set 5 = .ok (.istore_n 3, 1) := by decide +kernel
theorem dX6_set_6 : decode cX6_set 6 = .ok (.iload_n 3, 1) := by decide +kernel
theorem dX6_set_7 : decode cX6_set 7 = .ok (.iconst (-1), 1) := by decide +kernel
theorem dX6_set_8 : decode cX6_set 8 = .ok (.if_icmp .eq 17, 3) := by decide +kernel
theorem dX6_set_11 : decode cX6_set 11 = .ok (.lload_n 1, 1) := by decide +kernel
theorem dX6_set_12 : decode cX6_set 12 = .ok (.lconst 0, 1) := by decide +kernel
theorem dX6_set_13 : decode cX6_set 13 = .ok (.lcmp, 1) := by decide +kernel
theorem dX6_set_14 : decode cX6_set 14 = .ok (.ifCond .lt 11, 3) := by decide +kernel
theorem dX6_set_17 : decode cX6_set 17 = .ok (.lload_n 1, 1) := by decide +kernel
theorem dX6_set_18 : decode cX6_set 18 = .ok (.ldc2_w 80, 3) := by decide +kernel
theorem dX6_set_21 : decode cX6_set 21 = .ok (.lcmp, 1) := by decide +kernel
theorem dX6_set_22 : decode cX6_set 22 = .ok (.ifCond .le 5, 3) := by decide +kernel
theorem dX6_set_25 : decode cX6_set 25 = .ok (.iconst (-1), 1) := by decide +kernel
theorem dX6_set_26 : decode cX6_set 26 = .ok (.ireturn, 1) := by decide +kernel
theorem dX6_set_27 : decode cX6_set 27 = .ok (.aload_n 0, 1) := by decide +kernel
theorem dX6_set_28 : decode cX6_set 28 = .ok (.iconst 0, 1) := by decide +kernel
theorem dX6_set_29 : decode cX6_set 29 = .ok (.iload_n 3, 1) := by decide +kernel
theorem dX6_set_30 : decode cX6_set 30 = .ok (.invokevirtual 76, 3) := by decide +kernel
theorem dX6_set_33 : decode cX6_set 33 = .ok (.istore 4, 2) := by decide +kernel
theorem dX6_set_35 : decode cX6_set 35 = .ok (.iload 4, 2) := by decide +kernel
theorem dX6_set_37 : decode cX6_set 37 = .ok (.ifCond .lt 13, 3) := by decide +kernel
theorem dX6_set_40 : decode cX6_set 40 = .ok (.aload_n 0, 1) := by decide +kernel
theorem dX6_set_41 : decode cX6_set 41 = .ok (.getfield 20, 3) := by decide +kernel
theorem dX6_set_44 : decode cX6_set 44 = .ok (.iload 4, 2) := by decide +kernel
theorem dX6_set_46 : decode cX6_set 46 = .ok (.lload_n 1, 1) := by decide +kernel
theorem dX6_set_47 : decode cX6_set 47 = .ok (.lastore, 1) := by decide +kernel
theorem dX6_set_48 : decode cX6_set 48 = .ok (.iconst 0, 1) := by decide +kernel
theorem dX6_set_49 : decode cX6_set 49 = .ok (.ireturn, 1) := by decide +kernel
theorem dX6_set_50 : decode cX6_set 50 = .ok (.aload_n 0, 1) := by decide +kernel
theorem dX6_set_51 : decode cX6_set 51 = .ok (.iconst 0, 1) := by decide +kernel
theorem dX6_set_52 : decode cX6_set 52 = .ok (.iload_n 3, 1) := by decide +kernel
theorem dX6_set_53 : decode cX6_set 53 = .ok (.lload_n 1, 1) := by decide +kernel
theorem dX6_set_54 : decode cX6_set 54 = .ok (.invokevirtual 82, 3) := by decide +kernel
theorem dX6_set_57 : decode cX6_set 57 = .ok (.ifCond .lt 7, 3) := by decide +kernel
theorem dX6_set_60 : decode cX6_set 60 = .ok (.iconst 1, 1) := by decide +kernel
theorem dX6_set_61 : decode cX6_set 61 = .ok (.goto 5, 3) := by decide +kernel
theorem dX6_set_64 : decode cX6_set 64 = .ok (.bipush (-2), 2) := by decide +kernel
theorem dX6_set_66 : decode cX6_set 66 = .ok (.ireturn, 1) := by decide +kernel
set_option maxRecDepth 20000 in
theorem ggX6_drop_X6_taken : GoodIn wsX6_drop wsX6_taken := goodIn_r _ [9, 10, 11, 12, 13, 8, 14, 32, 33, 34, 35, 36, 37, 38, 39, 40, 41, 42, 43, 44, 45, 46] (by decide +kernel) (by decide +kernel)
set_option maxRecDepth 20000 in
theorem gX6_drop_X6_taken : GoodIn wsX6_drop (wsV RX6 86 RX6 yX6_taken wsX6_taken) := goodIn_app (goodIn_of _ (by decide +kernel)) ggX6_drop_X6_taken
set_option maxRecDepth 20000 in
theorem ggX6_drop_X6_find : GoodIn wsX6_drop wsX6_find := goodIn_r _ [18, 4, 19, 20, 21, 8, 22, 23, 11, 24, 25, 26, 27, 32, 33, 34, 35, 36, 37, 38, 39, 40, 41, 42, 43, 44, 45, 46] (by decide +kernel) (by decide +kernel)
set_option maxRecDepth 20000 in
theorem gX6_drop_X6_find : GoodIn wsX6_drop (wsV RX6 76 RX6 yX6_find wsX6_find) := goodIn_app (goodIn_of _ (by decide +kernel)) ggX6_drop_X6_find
set_option maxRecDepth 20000 in
theorem ggX6_drop_X6_move : GoodIn wsX6_drop wsX6_move := goodIn_r _ [31, 24, 23, 2, 32, 33, 34, 35, 36, 37, 38, 39, 40, 41, 42, 43, 44, 45, 46] (by decide +kernel) (by decide +kernel)
set_option maxRecDepth 20000 in
theorem gX6_drop_X6_move : GoodIn wsX6_drop (wsV RX6 64 RX6 yX6_move wsX6_move) := goodIn_app (goodIn_of _ (by decide +kernel)) ggX6_drop_X6_move
theorem dX6_drop_0 : decode cX6_drop 0 = .ok (.aload_n 0, 1) := by decide +kernel
theorem dX6_drop_1 : decode cX6_drop 1 = .ok (.iconst 1, 1) := by decide +kernel
theorem dX6_drop_2 : decode cX6_drop 2 = .ok (.invokevirtual 86, 3) := by decide +kernel
theorem dX6_drop_5 : decode cX6_drop 5 = .ok (.istore_n 1, 1) := by decide +kernel
theorem dX6_drop_6 : decode cX6_drop 6 = .ok (.iload_n 1, 1) := by decide +kernel
theorem dX6_drop_7 : decode cX6_drop 7 = .ok (.iconst (-1), 1) := by decide +kernel
theorem dX6_drop_8 : decode cX6_drop 8 = .ok (.if_icmp .ne 7, 3) := by decide +kernel
theorem dX6_drop_11 : decode cX6_drop 11 = .ok (.iconst (-1), 1) := by decide +kernel
theorem dX6_drop_12 : decode cX6_drop 12 = .ok (.goto 9, 3) := by decide +kernel
theorem dX6_drop_15 : decode cX6_drop 15 = .ok (.aload_n 0, 1) := by decide +kernel
theorem dX6_drop_16 : decode cX6_drop 16 = .ok (.iconst 0, 1) := by decide +kernel
theorem dX6_drop_17 : decode cX6_drop 17 = .ok (.iload_n 1, 1) := by decide +kernel
theorem dX6_drop_18 : decode cX6_drop 18 = .ok (.invokevirtual 76, 3) := by decide +kernel
theorem dX6_drop_21 : decode cX6_drop 21 = .ok (.istore_n 2, 1) := by decide +kernel
theorem dX6_drop_22 : decode cX6_drop 22 = .ok (.iload_n 2, 1) := by decide +kernel
theorem dX6_drop_23 : decode cX6_drop 23 = .ok (.iconst (-1), 1) := by decide +kernel
theorem dX6_drop_24 : decode cX6_drop 24 = .ok (.if_icmp .ne 7, 3) := by decide +kernel
theorem dX6_drop_27 : decode cX6_drop 27 = .ok (.ldc2_w 89, 3) := by decide +kernel
theorem dX6_drop_30 : decode cX6_drop 30 = .ok (.lreturn, 1) := by decide +kernel
theorem dX6_drop_31 : decode cX6_drop 31 = .ok (.aload_n 0, 1) := by decide +kernel
theorem dX6_drop_32 : decode cX6_drop 32 = .ok (.getfield 20, 3) := by decide +kernel
theorem dX6_drop_35 : decode cX6_drop 35 = .ok (.iload_n 2, 1) := by decide +kernel
theorem dX6_drop_36 : decode cX6_drop 36 = .ok (.laload, 1) := by decide +kernel
theorem dX6_drop_37 : decode cX6_drop 37 = .ok (.lstore_n 3, 1) := by decide +kernel
theorem dX6_drop_38 : decode cX6_drop 38 = .ok (.aload_n 0, 1) := by decide +kernel
theorem dX6_drop_39 : decode cX6_drop 39 = .ok (.dup, 1) := by decide +kernel
theorem dX6_drop_40 : decode cX6_drop 40 = .ok (.getfield 61, 3) := by decide +kernel
theorem dX6_drop_43 : decode cX6_drop 43 = .ok (.iload_n 1, 1) := by decide +kernel
theorem dX6_drop_44 : decode cX6_drop 44 = .ok (.isub, 1) := by decide +kernel
theorem dX6_drop_45 : decode cX6_drop 45 = .ok (.putfield 61, 3) := by decide +kernel
theorem dX6_drop_48 : decode cX6_drop 48 = .ok (.aload_n 0, 1) := by decide +kernel
theorem dX6_drop_49 : decode cX6_drop 49 = .ok (.dup, 1) := by decide +kernel
theorem dX6_drop_50 : decode cX6_drop 50 = .ok (.getfield 46, 3) := by decide +kernel
theorem dX6_drop_53 : decode cX6_drop 53 = .ok (.iconst 1, 1) := by decide +kernel
theorem dX6_drop_54 : decode cX6_drop 54 = .ok (.isub, 1) := by decide +kernel
theorem dX6_drop_55 : decode cX6_drop 55 = .ok (.putfield 46, 3) := by decide +kernel
theorem dX6_drop_58 : decode cX6_drop 58 = .ok (.iload_n 2, 1) := by decide +kernel
theorem dX6_drop_59 : decode cX6_drop 59 = .ok (.istore 5, 2) := by decide +kernel
theorem dX6_drop_61 : decode cX6_drop 61 = .ok (.iload 5, 2) := by decide +kernel
theorem dX6_drop_63 : decode cX6_drop 63 = .ok (.aload_n 0, 1) := by decide +kernel
theorem dX6_drop_64 : decode cX6_drop 64 = .ok (.getfield 46, 3) := by decide +kernel
theorem dX6_drop_67 : decode cX6_drop 67 = .ok (.if_icmp .ge 19, 3) := by decide +kernel
theorem dX6_drop_70 : decode cX6_drop 70 = .ok (.aload_n 0, 1) := by decide +kernel
theorem dX6_drop_71 : decode cX6_drop 71 = .ok (.iload 5, 2) := by decide +kernel
theorem dX6_drop_73 : decode cX6_drop 73 = .ok (.iconst 1, 1) := by decide +kernel
theorem dX6_drop_74 : decode cX6_drop 74 = .ok (.iadd, 1) := by decide +kernel
theorem dX6_drop_75 : decode cX6_drop 75 = .ok (.iload 5, 2) := by decide +kernel
theorem dX6_drop_77 : decode cX6_drop 77 = .ok (.invokevirtual 64, 3) := by decide +kernel
theorem dX6_drop_80 : decode cX6_drop 80 = .ok (.iinc 5 1, 3) := by decide +kernel
theorem dX6_drop_83 : decode cX6_drop 83 = .ok (.goto (-22), 3) := by decide +kernel
theorem dX6_drop_86 : decode cX6_drop 86 = .ok (.lload_n 3, 1) := by decide +kernel
theorem dX6_drop_87 : decode cX6_drop 87 = .ok (.lreturn, 1) := by decide +kernel
set_option maxRecDepth 20000 in
theorem ggX6_weight_X6_taken : GoodIn wsX6_weight wsX6_taken := goodIn_r _ [7, 8, 9, 10, 11, 6, 12, 27, 28, 29, 30, 31, 32, 33, 34, 35, 36, 37, 38, 39, 40, 41] (by decide +kernel) (by decide +kernel)
set_option maxRecDepth 20000 in
theorem gX6_weight_X6_taken : GoodIn wsX6_weight (wsV RX6 86 RX6 yX6_taken wsX6_taken) := goodIn_app (goodIn_of _ (by decide +kernel)) ggX6_weight_X6_taken
set_option maxRecDepth 20000 in
theorem ggX6_weight_X6_find : GoodIn wsX6_weight wsX6_find := goodIn_r _ [16, 17, 18, 19, 20, 6, 21, 22, 9, 23, 24, 25, 26, 27, 28, 29, 30, 31, 32, 33, 34, 35, 36, 37, 38, 39, 40, 41] (by decide +kernel) (by decide +kernel)
set_option maxRecDepth 20000 in
theorem gX6_weight_X6_find : GoodIn wsX6_weight (wsV RX6 76 RX6 yX6_find wsX6_find) := goodIn_app (goodIn_of _ (by decide +kernel)) ggX6_weight_X6_find
theorem dX6_weight_0 : decode cX6_weight 0 = .ok (.aload_n 0, 1) := by decide +kernel
theorem dX6_weight_1 : decode cX6_weight 1 = .ok (.iconst 1, 1) := by decide +kernel
theorem dX6_weight_2 : decode cX6_weight 2 = .ok (.invokevirtual 86, 3) := by decide +kernel
theorem dX6_weight_5 : decode cX6_weight 5 = .ok (.istore_n 1, 1) := by decide +kernel
theorem dX6_weight_6 : decode cX6_weight 6 = .ok (.iload_n 1, 1) := by decide +kernel
theorem dX6_weight_7 : decode cX6_weight 7 = .ok (.iconst (-1), 1) := by decide +kernel
theorem dX6_weight_8 : decode cX6_weight 8 = .ok (.if_icmp .ne 7, 3) := by decide +kernel
theorem dX6_weight_11 : decode cX6_weight 11 = .ok (.iconst (-1), 1) := by decide +kernel
theorem dX6_weight_12 : decode cX6_weight 12 = .ok (.goto 9, 3) := by decide +kernel
theorem dX6_weight_15 : decode cX6_weight 15 = .ok (.aload_n 0, 1) := by decide +kernel
theorem dX6_weight_16 : decode cX6_weight 16 = .ok (.iconst 0, 1) := by decide +kernel
theorem dX6_weight_17 : decode cX6_weight 17 = .ok (.iload_n 1, 1) := by decide +kernel
theorem dX6_weight_18 : decode cX6_weight 18 = .ok (.invokevirtual 76, 3) := by decide +kernel
theorem dX6_weight_21 : decode cX6_weight 21 = .ok (.istore_n 2, 1) := by decide +kernel
theorem dX6_weight_22 : decode cX6_weight 22 = .ok (.iload_n 2, 1) := by decide +kernel
theorem dX6_weight_23 : decode cX6_weight 23 = .ok (.iconst (-1), 1) := by decide +kernel
theorem dX6_weight_24 : decode cX6_weight 24 = .ok (.if_icmp .ne 9, 3) := by decide +kernel
theorem dX6_weight_27 : decode cX6_weight 27 = .ok (.ldc2_w 89, 3) := by decide +kernel
theorem dX6_weight_30 : decode cX6_weight 30 = .ok (.goto 9, 3) := by decide +kernel
theorem dX6_weight_33 : decode cX6_weight 33 = .ok (.aload_n 0, 1) := by decide +kernel
theorem dX6_weight_34 : decode cX6_weight 34 = .ok (.getfield 20, 3) := by decide +kernel
theorem dX6_weight_37 : decode cX6_weight 37 = .ok (.iload_n 2, 1) := by decide +kernel
theorem dX6_weight_38 : decode cX6_weight 38 = .ok (.laload, 1) := by decide +kernel
theorem dX6_weight_39 : decode cX6_weight 39 = .ok (.lreturn, 1) := by decide +kernel
theorem dX6_nearnessOf_0 : decode cX6_nearnessOf 0 = .ok (.iconst 0, 1) := by decide +kernel
theorem dX6_nearnessOf_1 : decode cX6_nearnessOf 1 = .ok (.istore_n 3, 1) := by decide +kernel
theorem dX6_nearnessOf_2 : decode cX6_nearnessOf 2 = .ok (.iload_n 3, 1) := by decide +kernel
theorem dX6_nearnessOf_3 : decode cX6_nearnessOf 3 = .ok (.iload_n 2, 1) := by decide +kernel
theorem dX6_nearnessOf_4 : decode cX6_nearnessOf 4 = .ok (.if_icmp .gt 16, 3) := by decide +kernel
theorem dX6_nearnessOf_7 : decode cX6_nearnessOf 7 = .ok (.aload_n 0, 1) := by decide +kernel
theorem dX6_nearnessOf_8 : decode cX6_nearnessOf 8 = .ok (.getfield 43, 3) := by decide +kernel
theorem dX6_nearnessOf_11 : decode cX6_nearnessOf 11 = .ok (.iload_n 3, 1) := by decide +kernel
theorem dX6_nearnessOf_12 : decode cX6_nearnessOf 12 = .ok (.iload_n 3, 1) := by decide +kernel
theorem dX6_nearnessOf_13 : decode cX6_nearnessOf 13 = .ok (.iastore, 1) := by decide +kernel
theorem dX6_nearnessOf_14 : decode cX6_nearnessOf 14 = .ok (.iinc 3 1, 3) := by decide +kernel
theorem dX6_nearnessOf_17 : decode cX6_nearnessOf 17 = .ok (.goto (-15), 3) := by decide +kernel
theorem dX6_nearnessOf_20 : decode cX6_nearnessOf 20 = .ok (.aload_n 0, 1) := by decide +kernel
theorem dX6_nearnessOf_21 : decode cX6_nearnessOf 21 = .ok (.getfield 43, 3) := by decide +kernel
theorem dX6_nearnessOf_24 : decode cX6_nearnessOf 24 = .ok (.iload_n 2, 1) := by decide +kernel
theorem dX6_nearnessOf_25 : decode cX6_nearnessOf 25 = .ok (.iaload, 1) := by decide +kernel
theorem dX6_nearnessOf_26 : decode cX6_nearnessOf 26 = .ok (.istore_n 3, 1) := by decide +kernel
theorem dX6_nearnessOf_27 : decode cX6_nearnessOf 27 = .ok (.iconst 1, 1) := by decide +kernel
theorem dX6_nearnessOf_28 : decode cX6_nearnessOf 28 = .ok (.istore 4, 2) := by decide +kernel
theorem dX6_nearnessOf_30 : decode cX6_nearnessOf 30 = .ok (.iload 4, 2) := by decide +kernel
theorem dX6_nearnessOf_32 : decode cX6_nearnessOf 32 = .ok (.aload_n 0, 1) := by decide +kernel
theorem dX6_nearnessOf_33 : decode cX6_nearnessOf 33 = .ok (.getfield 16, 3) := by decide +kernel
theorem dX6_nearnessOf_36 : decode cX6_nearnessOf 36 = .ok (.iload_n 1, 1) := by decide +kernel
theorem dX6_nearnessOf_37 : decode cX6_nearnessOf 37 = .ok (.iaload, 1) := by decide +kernel
theorem dX6_nearnessOf_38 : decode cX6_nearnessOf 38 = .ok (.if_icmp .gt 169, 3) := by decide +kernel
theorem dX6_nearnessOf_41 : decode cX6_nearnessOf 41 = .ok (.aload_n 0, 1) := by decide +kernel
theorem dX6_nearnessOf_42 : decode cX6_nearnessOf 42 = .ok (.getfield 43, 3) := by decide +kernel
theorem dX6_nearnessOf_45 : decode cX6_nearnessOf 45 = .ok (.iconst 0, 1) := by decide +kernel
theorem dX6_nearnessOf_46 : decode cX6_nearnessOf 46 = .ok (.iaload, 1) := by decide +kernel
theorem dX6_nearnessOf_47 : decode cX6_nearnessOf 47 = .ok (.istore 5, 2) := by decide +kernel
theorem dX6_nearnessOf_49 : decode cX6_nearnessOf 49 = .ok (.aload_n 0, 1) := by decide +kernel
theorem dX6_nearnessOf_50 : decode cX6_nearnessOf 50 = .ok (.getfield 43, 3) := by decide +kernel
theorem dX6_nearnessOf_53 : decode cX6_nearnessOf 53 = .ok (.iconst 0, 1) := by decide +kernel
theorem dX6_nearnessOf_54 : decode cX6_nearnessOf 54 = .ok (.iload 4, 2) := by decide +kernel
theorem dX6_nearnessOf_56 : decode cX6_nearnessOf 56 = .ok (.iastore, 1) := by decide +kernel
theorem dX6_nearnessOf_57 : decode cX6_nearnessOf 57 = .ok (.iconst 1, 1) := by decide +kernel
theorem dX6_nearnessOf_58 : decode cX6_nearnessOf 58 = .ok (.istore 6, 2) := by decide +kernel
theorem dX6_nearnessOf_60 : decode cX6_nearnessOf 60 = .ok (.iload 6, 2) := by decide +kernel
theorem dX6_nearnessOf_62 : decode cX6_nearnessOf 62 = .ok (.iload_n 2, 1) := by decide +kernel
theorem dX6_nearnessOf_63 : decode cX6_nearnessOf 63 = .ok (.if_icmp .gt 117, 3) := by decide +kernel
theorem dX6_nearnessOf_66 : decode cX6_nearnessOf 66 = .ok (.iload 5, 2) := by decide +kernel
theorem dX6_nearnessOf_68 : decode cX6_nearnessOf 68 = .ok (.aload_n 0, 1) := by decide +kernel
theorem dX6_nearnessOf_69 : decode cX6_nearnessOf 69 = .ok (.getfield 7, 3) := by decide +kernel
theorem dX6_nearnessOf_72 : decode cX6_nearnessOf 72 = .ok (.iload 6, 2) := by decide +kernel
theorem dX6_nearnessOf_74 : decode cX6_nearnessOf 74 = .ok (.iconst 1, 1) := by decide +kernel
theorem dX6_nearnessOf_75 : decode cX6_nearnessOf 75 = .ok (.isub, 1) := by decide +kernel
theorem dX6_nearnessOf_76 : decode cX6_nearnessOf 76 = .ok (.baload, 1) := by decide +kernel
theorem dX6_nearnessOf_77 : decode cX6_nearnessOf 77 = .ok (.aload_n 0, 1) := by decide +kernel
theorem dX6_nearnessOf_78 : decode cX6_nearnessOf 78 = .ok (.getfield 13, 3) := by decide +kernel
theorem dX6_nearnessOf_81 : decode cX6_nearnessOf 81 = .ok (.bipush 24, 2) := by decide +kernel
theorem dX6_nearnessOf_83 : decode cX6_nearnessOf 83 = .ok (.iload_n 1, 1) := by decide +kernel
theorem dX6_nearnessOf_84 : decode cX6_nearnessOf 84 = .ok (.imul, 1) := by decide +kernel
