theorem dX0_init_0 : decode cX0_init 0 = .ok (.aload_n 0, 1) := by decide +kernel
theorem dX0_init_1 : decode cX0_init 1 = .ok (.invokespecial 3, 3) := by decide +kernel
theorem dX0_init_4 : decode cX0_init 4 = .ok (.aload_n 0, 1) := by decide +kernel
theorem dX0_init_5 : decode cX0_init 5 = .ok (.sipush 6000, 3) := by decide +kernel
theorem dX0_init_8 : decode cX0_init 8 = .ok (.newarray .byte, 2) := by decide +kernel
theorem dX0_init_10 : decode cX0_init 10 = .ok (.putfield 9, 3) := by decide +kernel
theorem dX0_init_13 : decode cX0_init 13 = .ok (.aload_n 0, 1) := by decide +kernel
theorem dX0_init_14 : decode cX0_init 14 = .ok (.sipush 601, 3) := by decide +kernel
theorem dX0_init_17 : decode cX0_init 17 = .ok (.newarray .int, 2) := by decide +kernel
theorem dX0_init_19 : decode cX0_init 19 = .ok (.putfield 15, 3) := by decide +kernel
theorem dX0_init_22 : decode cX0_init 22 = .ok (.aload_n 0, 1) := by decide +kernel
theorem dX0_init_23 : decode cX0_init 23 = .ok (.sipush 600, 3) := by decide +kernel
theorem dX0_init_26 : decode cX0_init 26 = .ok (.newarray .long, 2) := by decide +kernel
theorem dX0_init_28 : decode cX0_init 28 = .ok (.putfield 19, 3) := by decide +kernel
theorem dX0_init_31 : decode cX0_init 31 = .ok (.return_, 1) := by decide +kernel
theorem dX0_size_0 : decode cX0_size 0 = .ok (.aload_n 0, 1) := by decide +kernel
theorem dX0_size_1 : decode cX0_size 1 = .ok (.getfield 15, 3) := by decide +kernel
theorem dX0_size_4 : decode cX0_size 4 = .ok (.aload_n 0, 1) := by decide +kernel
theorem dX0_size_5 : decode cX0_size 5 = .ok (.getfield 23, 3) := by decide +kernel
theorem dX0_size_8 : decode cX0_size 8 = .ok (.iaload, 1) := by decide +kernel
theorem dX0_size_9 : decode cX0_size 9 = .ok (.ireturn, 1) := by decide +kernel
theorem dX0_lengthOf_0 : decode cX0_lengthOf 0 = .ok (.aload_n 0, 1) := by decide +kernel
theorem dX0_lengthOf_1 : decode cX0_lengthOf 1 = .ok (.getfield 15, 3) := by decide +kernel
theorem dX0_lengthOf_4 : decode cX0_lengthOf 4 = .ok (.iload_n 1, 1) := by decide +kernel
theorem dX0_lengthOf_5 : decode cX0_lengthOf 5 = .ok (.iconst 1, 1) := by decide +kernel
theorem dX0_lengthOf_6 : decode cX0_lengthOf 6 = .ok (.iadd, 1) := by decide +kernel
theorem dX0_lengthOf_7 : decode cX0_lengthOf 7 = .ok (.iaload, 1) := by decide +kernel
theorem dX0_lengthOf_8 : decode cX0_lengthOf 8 = .ok (.aload_n 0, 1) := by decide +kernel
theorem dX0_lengthOf_9 : decode cX0_lengthOf 9 = .ok (.getfield 15, 3) := by decide +kernel
theorem dX0_lengthOf_12 : decode cX0_lengthOf 12 = .ok (.iload_n 1, 1) := by decide +kernel
theorem dX0_lengthOf_13 : decode cX0_lengthOf 13 = .ok (.iaload, 1) := by decide +kernel
theorem dX0_lengthOf_14 : decode cX0_lengthOf 14 = .ok (.isub, 1) := by decide +kernel
theorem dX0_lengthOf_15 : decode cX0_lengthOf 15 = .ok (.ireturn, 1) := by decide +kernel
set_option maxRecDepth 20000 in
theorem ggX0_letterOf_X0_lengthOf : GoodIn wsX0_letterOf wsX0_lengthOf := goodIn_r _ [8, 3, 9, 10, 11, 12] (by decide +kernel) (by decide +kernel)
set_option maxRecDepth 20000 in
theorem gX0_letterOf_X0_lengthOf : GoodIn wsX0_letterOf (wsV RX0 27 RX0 yX0_lengthOf wsX0_lengthOf) := goodIn_app (goodIn_of _ (by decide +kernel)) ggX0_letterOf_X0_lengthOf
theorem dX0_letterOf_0 : decode cX0_letterOf 0 = .ok (.iload_n 1, 1) := by decide +kernel
theorem dX0_letterOf_1 : decode cX0_letterOf 1 = .ok (.ifCond .lt 24, 3) := by decide +kernel
theorem dX0_letterOf_4 : decode cX0_letterOf 4 = .ok (.iload_n 1, 1) := by decide +kernel
theorem dX0_letterOf_5 : decode cX0_letterOf 5 = .ok (.aload_n 0, 1) := by decide +kernel
theorem dX0_letterOf_6 : decode cX0_letterOf 6 = .ok (.getfield 23, 3) := by decide +kernel
theorem dX0_letterOf_9 : decode cX0_letterOf 9 = .ok (.if_icmp .ge 16, 3) := by decide +kernel
theorem dX0_letterOf_12 : decode cX0_letterOf 12 = .ok (.iload_n 2, 1) := by decide +kernel
theorem dX0_letterOf_13 : decode cX0_letterOf 13 = .ok (.ifCond .lt 12, 3) := by decide +kernel
theorem dX0_letterOf_16 : decode cX0_letterOf 16 = .ok (.iload_n 2, 1) := by decide +kernel
theorem dX0_letterOf_17 : decode cX0_letterOf 17 = .ok (.aload_n 0, 1) := by decide +kernel
theorem dX0_letterOf_18 : decode cX0_letterOf 18 = .ok (.iload_n 1, 1) := by decide +kernel
theorem dX0_letterOf_19 : decode cX0_letterOf 19 = .ok (.invokevirtual 27, 3) := by decide +kernel
theorem dX0_letterOf_22 : decode cX0_letterOf 22 = .ok (.if_icmp .lt 5, 3) := by decide +kernel
theorem dX0_letterOf_25 : decode cX0_letterOf 25 = .ok (.iconst (-1), 1) := by decide +kernel
theorem dX0_letterOf_26 : decode cX0_letterOf 26 = .ok (.ireturn, 1) := by decide +kernel
theorem dX0_letterOf_27 : decode cX0_letterOf 27 = .ok (.aload_n 0, 1) := by decide +kernel
theorem dX0_letterOf_28 : decode cX0_letterOf 28 = .ok (.getfield 9, 3) := by decide +kernel
theorem dX0_letterOf_31 : decode cX0_letterOf 31 = .ok (.aload_n 0, 1) := by decide +kernel
theorem dX0_letterOf_32 : decode cX0_letterOf 32 = .ok (.getfield 15, 3) := by decide +kernel
theorem dX0_letterOf_35 : decode cX0_letterOf 35 = .ok (.iload_n 1, 1) := by decide +kernel
theorem dX0_letterOf_36 : decode cX0_letterOf 36 = .ok (.iaload, 1) := by decide +kernel
theorem dX0_letterOf_37 : decode cX0_letterOf 37 = .ok (.iload_n 2, 1) := by decide +kernel
theorem dX0_letterOf_38 : decode cX0_letterOf 38 = .ok (.iadd, 1) := by decide +kernel
theorem dX0_letterOf_39 : decode cX0_letterOf 39 = .ok (.baload, 1) := by decide +kernel
theorem dX0_letterOf_40 : decode cX0_letterOf 40 = .ok (.ireturn, 1) := by decide +kernel
set_option maxRecDepth 20000 in
theorem ggX0_placeOf_X0_goesBefore : GoodIn wsX0_placeOf wsX0_goesBefore := goodIn_r _ [6, 7, 8, 9, 10, 11, 12, 13, 5, 14, 15, 16, 17, 18, 19, 20, 21, 22, 27, 28, 23, 24, 25, 26] (by decide +kernel) (by decide +kernel)
set_option maxRecDepth 20000 in
theorem gX0_placeOf_X0_goesBefore : GoodIn wsX0_placeOf (wsV RX0 31 RX0 yX0_goesBefore wsX0_goesBefore) := goodIn_app (goodIn_of _ (by decide +kernel)) ggX0_placeOf_X0_goesBefore
theorem dX0_placeOf_0 : decode cX0_placeOf 0 = .ok (.iconst 0, 1) := by decide +kernel
theorem dX0_placeOf_1 : decode cX0_placeOf 1 = .ok (.istore_n 2, 1) := by decide +kernel
theorem dX0_placeOf_2 : decode cX0_placeOf 2 = .ok (.aload_n 0, 1) := by decide +kernel
theorem dX0_placeOf_3 : decode cX0_placeOf 3 = .ok (.getfield 23, 3) := by decide +kernel
theorem dX0_placeOf_6 : decode cX0_placeOf 6 = .ok (.istore_n 3, 1) := by decide +kernel
theorem dX0_placeOf_7 : decode cX0_placeOf 7 = .ok (.iload_n 2, 1) := by decide +kernel
theorem dX0_placeOf_8 : decode cX0_placeOf 8 = .ok (.iload_n 3, 1) := by decide +kernel
theorem dX0_placeOf_9 : decode cX0_placeOf 9 = .ok (.if_icmp .ge 34, 3) := by decide +kernel
theorem dX0_placeOf_12 : decode cX0_placeOf 12 = .ok (.iload_n 2, 1) := by decide +kernel
theorem dX0_placeOf_13 : decode cX0_placeOf 13 = .ok (.iload_n 3, 1) := by decide +kernel
theorem dX0_placeOf_14 : decode cX0_placeOf 14 = .ok (.iadd, 1) := by decide +kernel
theorem dX0_placeOf_15 : decode cX0_placeOf 15 = .ok (.iconst 2, 1) := by decide +kernel
theorem dX0_placeOf_16 : decode cX0_placeOf 16 = .ok (.idiv, 1) := by decide +kernel
theorem dX0_placeOf_17 : decode cX0_placeOf 17 = .ok (.istore 4, 2) := by decide +kernel
theorem dX0_placeOf_19 : decode cX0_placeOf 19 = .ok (.aload_n 0, 1) := by decide +kernel
theorem dX0_placeOf_20 : decode cX0_placeOf 20 = .ok (.iload 4, 2) := by decide +kernel
theorem dX0_placeOf_22 : decode cX0_placeOf 22 = .ok (.aload_n 1, 1) := by decide +kernel
theorem dX0_placeOf_23 : decode cX0_placeOf 23 = .ok (.invokevirtual 31, 3) := by decide +kernel
theorem dX0_placeOf_26 : decode cX0_placeOf 26 = .ok (.ifCond .eq 11, 3) := by decide +kernel
theorem dX0_placeOf_29 : decode cX0_placeOf 29 = .ok (.iload 4, 2) := by decide +kernel
theorem dX0_placeOf_31 : decode cX0_placeOf 31 = .ok (.iconst 1, 1) := by decide +kernel
theorem dX0_placeOf_32 : decode cX0_placeOf 32 = .ok (.iadd, 1) := by decide +kernel
theorem dX0_placeOf_33 : decode cX0_placeOf 33 = .ok (.istore_n 2, 1) := by decide +kernel
theorem dX0_placeOf_34 : decode cX0_placeOf 34 = .ok (.goto 6, 3) := by decide +kernel
theorem dX0_placeOf_37 : decode cX0_placeOf 37 = .ok (.iload 4, 2) := by decide +kernel
theorem dX0_placeOf_39 : decode cX0_placeOf 39 = .ok (.istore_n 3, 1) := by decide +kernel
theorem dX0_placeOf_40 : decode cX0_placeOf 40 = .ok (.goto (-33), 3) := by decide +kernel
theorem dX0_placeOf_43 : decode cX0_placeOf 43 = .ok (.iload_n 2, 1) := by decide +kernel
theorem dX0_placeOf_44 : decode cX0_placeOf 44 = .ok (.ireturn, 1) := by decide +kernel
set_option maxRecDepth 20000 in
theorem ggX0_goesBefore_X0_sharedWith : GoodIn wsX0_goesBefore wsX0_sharedWith := goodIn_r _ [9, 1, 10, 11, 12, 13, 2, 3, 4, 14, 15, 16, 8, 17, 18, 19, 20, 21, 22, 23] (by decide +kernel) (by decide +kernel)
set_option maxRecDepth 20000 in
theorem gX0_goesBefore_X0_sharedWith : GoodIn wsX0_goesBefore (wsV RX0 35 RX0 yX0_sharedWith wsX0_sharedWith) := goodIn_app (goodIn_of _ (by decide +kernel)) ggX0_goesBefore_X0_sharedWith
set_option maxRecDepth 20000 in
theorem ggX0_goesBefore_X0_lengthOf : GoodIn wsX0_goesBefore wsX0_lengthOf := goodIn_r _ [17, 3, 20, 21, 22, 23] (by decide +kernel) (by decide +kernel)
set_option maxRecDepth 20000 in
theorem gX0_goesBefore_X0_lengthOf : GoodIn wsX0_goesBefore (wsV RX0 27 RX0 yX0_lengthOf wsX0_lengthOf) := goodIn_app (goodIn_of _ (by decide +kernel)) ggX0_goesBefore_X0_lengthOf
theorem dX0_goesBefore_0 : decode cX0_goesBefore 0 = .ok (.aload_n 0, 1) := by decide +kernel
theorem dX0_goesBefore_1 : decode cX0_goesBefore 1 = .ok (.iload_n 1, 1) := by decide +kernel
theorem dX0_goesBefore_2 : decode cX0_goesBefore 2 = .ok (.aload_n 2, 1) := by decide +kernel
theorem dX0_goesBefore_3 : decode cX0_goesBefore 3 = .ok (.invokevirtual 35, 3) := by decide +kernel
theorem dX0_goesBefore_6 : decode cX0_goesBefore 6 = .ok (.istore_n 3, 1) := by decide +kernel
theorem dX0_goesBefore_7 : decode cX0_goesBefore 7 = .ok (.iload_n 3, 1) := by decide +kernel
theorem dX0_goesBefore_8 : decode cX0_goesBefore 8 = .ok (.aload_n 2, 1) := by decide +kernel
theorem dX0_goesBefore_9 : decode cX0_goesBefore 9 = .ok (.getfield 39, 3) := by decide +kernel
theorem dX0_goesBefore_12 : decode cX0_goesBefore 12 = .ok (.if_icmp .ne 5, 3) := by decide +kernel
theorem dX0_goesBefore_15 : decode cX0_goesBefore 15 = .ok (.iconst 0, 1) := by decide +kernel
theorem dX0_goesBefore_16 : decode cX0_goesBefore 16 = .ok (.ireturn, 1) := by decide +kernel
theorem dX0_goesBefore_17 : decode cX0_goesBefore 17 = .ok (.iload_n 3, 1) := by decide +kernel
theorem dX0_goesBefore_18 : decode cX0_goesBefore 18 = .ok (.aload_n 0, 1) := by decide +kernel
theorem dX0_goesBefore_19 : decode cX0_goesBefore 19 = .ok (.iload_n 1, 1) := by decide +kernel
theorem dX0_goesBefore_20 : decode cX0_goesBefore 20 = .ok (.invokevirtual 27, 3) := by decide +kernel
theorem dX0_goesBefore_23 : decode cX0_goesBefore 23 = .ok (.if_icmp .eq 25, 3) := by decide +kernel
theorem dX0_goesBefore_26 : decode cX0_goesBefore 26 = .ok (.aload_n 0, 1) := by decide +kernel
theorem dX0_goesBefore_27 : decode cX0_goesBefore 27 = .ok (.getfield 9, 3) := by decide +kernel
theorem dX0_goesBefore_30 : decode cX0_goesBefore 30 = .ok (.aload_n 0, 1) := by decide +kernel
theorem dX0_goesBefore_31 : decode cX0_goesBefore 31 = .ok (.getfield 15, 3) := by decide +kernel
theorem dX0_goesBefore_34 : decode cX0_goesBefore 34 = .ok (.iload_n 1, 1) := by decide +kernel
theorem dX0_goesBefore_35 : decode cX0_goesBefore 35 = .ok (.iaload, 1) := by decide +kernel
theorem dX0_goesBefore_36 : decode cX0_goesBefore 36 = .ok (.iload_n 3, 1) := by decide +kernel
theorem dX0_goesBefore_37 : decode cX0_goesBefore 37 = .ok (.iadd, 1) := by decide +kernel
theorem dX0_goesBefore_38 : decode cX0_goesBefore 38 = .ok (.baload, 1) := by decide +kernel
theorem dX0_goesBefore_39 : decode cX0_goesBefore 39 = .ok (.aload_n 2, 1) := by decide +kernel
theorem dX0_goesBefore_40 : decode cX0_goesBefore 40 = .ok (.getfield 44, 3) := by decide +kernel
theorem dX0_goesBefore_43 : decode cX0_goesBefore 43 = .ok (.iload_n 3, 1) := by decide +kernel
theorem dX0_goesBefore_44 : decode cX0_goesBefore 44 = .ok (.baload, 1) := by decide +kernel
theorem dX0_goesBefore_45 : decode cX0_goesBefore 45 = .ok (.if_icmp .ge 7, 3) := by decide +kernel
theorem dX0_goesBefore_48 : decode cX0_goesBefore 48 = .ok (.iconst 1, 1) := by decide +kernel
theorem dX0_goesBefore_49 : decode cX0_goesBefore 49 = .ok (.goto 4, 3) := by decide +kernel
theorem dX0_goesBefore_52 : decode cX0_goesBefore 52 = .ok (.iconst 0, 1) := by decide +kernel
theorem dX0_goesBefore_53 : decode cX0_goesBefore 53 = .ok (.ireturn, 1) := by decide +kernel
set_option maxRecDepth 20000 in
theorem ggX0_beginsWith_X0_sharedWith : GoodIn wsX0_beginsWith wsX0_sharedWith := goodIn_r _ [6, 1, 7, 8, 9, 10, 11, 12, 13, 14, 15, 16, 5, 17, 18, 19, 20, 21, 22, 23] (by decide +kernel) (by decide +kernel)
set_option maxRecDepth 20000 in
theorem gX0_beginsWith_X0_sharedWith : GoodIn wsX0_beginsWith (wsV RX0 35 RX0 yX0_sharedWith wsX0_sharedWith) := goodIn_app (goodIn_of _ (by decide +kernel)) ggX0_beginsWith_X0_sharedWith
theorem dX0_beginsWith_0 : decode cX0_beginsWith 0 = .ok (.aload_n 0, 1) := by decide +kernel
theorem dX0_beginsWith_1 : decode cX0_beginsWith 1 = .ok (.iload_n 1, 1) := by decide +kernel
theorem dX0_beginsWith_2 : decode cX0_beginsWith 2 = .ok (.aload_n 2, 1) := by decide +kernel
theorem dX0_beginsWith_3 : decode cX0_beginsWith 3 = .ok (.invokevirtual 35, 3) := by decide +kernel
theorem dX0_beginsWith_6 : decode cX0_beginsWith 6 = .ok (.aload_n 2, 1) := by decide +kernel
theorem dX0_beginsWith_7 : decode cX0_beginsWith 7 = .ok (.getfield 39, 3) := by decide +kernel
theorem dX0_beginsWith_10 : decode cX0_beginsWith 10 = .ok (.if_icmp .ne 7, 3) := by decide +kernel
theorem dX0_beginsWith_13 : decode cX0_beginsWith 13 = .ok (.iconst 1, 1) := by decide +kernel
theorem dX0_beginsWith_14 : decode cX0_beginsWith 14 = .ok (.goto 4, 3) := by decide +kernel
theorem dX0_beginsWith_17 : decode cX0_beginsWith 17 = .ok (.iconst 0, 1) := by decide +kernel
theorem dX0_beginsWith_18 : decode cX0_beginsWith 18 = .ok (.ireturn, 1) := by decide +kernel
set_option maxRecDepth 20000 in
theorem ggX0_standsAt_X0_lengthOf : GoodIn wsX0_standsAt wsX0_lengthOf := goodIn_r _ [7, 8, 23, 24, 25, 26] (by decide +kernel) (by decide +kernel)
set_option maxRecDepth 20000 in
theorem gX0_standsAt_X0_lengthOf : GoodIn wsX0_standsAt (wsV RX0 27 RX0 yX0_lengthOf wsX0_lengthOf) := goodIn_app (goodIn_of _ (by decide +kernel)) ggX0_standsAt_X0_lengthOf
set_option maxRecDepth 20000 in
theorem ggX0_standsAt_X0_beginsWith : GoodIn wsX0_standsAt wsX0_beginsWith := goodIn_r _ [12, 2, 13, 14, 15, 6, 16, 17, 18, 19, 20, 21, 8, 22, 3, 4, 5, 7, 27, 28, 23, 24, 25, 26] (by decide +kernel) (by decide +kernel)
set_option maxRecDepth 20000 in
theorem gX0_standsAt_X0_beginsWith : GoodIn wsX0_standsAt (wsV RX0 45 RX0 yX0_beginsWith wsX0_beginsWith) := goodIn_app (goodIn_of _ (by decide +kernel)) ggX0_standsAt_X0_beginsWith
theorem dX0_standsAt_0 : decode cX0_standsAt 0 = .ok (.iload_n 1, 1) := by decide +kernel
theorem dX0_standsAt_1 : decode cX0_standsAt 1 = .ok (.aload_n 0, 1) := by decide +kernel
theorem dX0_standsAt_2 : decode cX0_standsAt 2 = .ok (.getfield 23, 3) := by decide +kernel
theorem dX0_standsAt_5 : decode cX0_standsAt 5 = .ok (.if_icmp .ge 28, 3) := by decide +kernel
theorem dX0_standsAt_8 : decode cX0_standsAt 8 = .ok (.aload_n 0, 1) := by decide +kernel
theorem dX0_standsAt_9 : decode cX0_standsAt 9 = .ok (.iload_n 1, 1) := by decide +kernel
theorem dX0_standsAt_10 : decode cX0_standsAt 10 = .ok (.invokevirtual 27, 3) := by decide +kernel
theorem dX0_standsAt_13 : decode cX0_standsAt 13 = .ok (.aload_n 2, 1) := by decide +kernel
theorem dX0_standsAt_14 : decode cX0_standsAt 14 = .ok (.getfield 39, 3) := by decide +kernel
theorem dX0_standsAt_17 : decode cX0_standsAt 17 = .ok (.if_icmp .ne 16, 3) := by decide +kernel
theorem dX0_standsAt_20 : decode cX0_standsAt 20 = .ok (.aload_n 0, 1) := by decide +kernel
theorem dX0_standsAt_21 : decode cX0_standsAt 21 = .ok (.iload_n 1, 1) := by decide +kernel
theorem dX0_standsAt_22 : decode cX0_standsAt 22 = .ok (.aload_n 2, 1) := by decide +kernel
theorem dX0_standsAt_23 : decode cX0_standsAt 23 = .ok (.invokevirtual 45, 3) := by decide +kernel
theorem dX0_standsAt_26 : decode cX0_standsAt 26 = .ok (.ifCond .eq 7, 3) := by decide +kernel
theorem dX0_standsAt_29 : decode cX0_standsAt 29 = .ok (.iconst 1, 1) := by decide +kernel
theorem dX0_standsAt_30 : decode cX0_standsAt 30 = .ok (.goto 4, 3) := by decide +kernel
theorem dX0_standsAt_33 : decode cX0_standsAt 33 = .ok (.iconst 0, 1) := by decide +kernel
theorem dX0_standsAt_34 : decode cX0_standsAt 34 = .ok (.ireturn, 1) := by decide +kernel
set_option maxRecDepth 20000 in
theorem ggX0_sharedWith_X0_lengthOf : GoodIn wsX0_sharedWith wsX0_lengthOf := goodIn_r _ [13, 7, 16, 17, 18, 19] (by decide +kernel) (by decide +kernel)
set_option maxRecDepth 20000 in
theorem gX0_sharedWith_X0_lengthOf : GoodIn wsX0_sharedWith (wsV RX0 27 RX0 yX0_lengthOf wsX0_lengthOf) := goodIn_app (goodIn_of _ (by decide +kernel)) ggX0_sharedWith_X0_lengthOf
theorem dX0_sharedWith_0 : decode cX0_sharedWith 0 = .ok (.aload_n 0, 1) := by decide +kernel
theorem dX0_sharedWith_1 : decode cX0_sharedWith 1 = .ok (.iload_n 1, 1) := by decide +kernel
theorem dX0_sharedWith_2 : decode cX0_sharedWith 2 = .ok (.invokevirtual 27, 3) := by decide +kernel
theorem dX0_sharedWith_5 : decode cX0_sharedWith 5 = .ok (.aload_n 2, 1) := by decide +kernel
theorem dX0_sharedWith_6 : decode cX0_sharedWith 6 = .ok (.getfield 39, 3) := by decide +kernel
theorem dX0_sharedWith_9 : decode cX0_sharedWith 9 = .ok (.invokestatic 48, 3) := by decide +kernel
theorem dX0_sharedWith_12 : decode cX0_sharedWith 12 = .ok (.istore_n 3, 1) := by decide +kernel
theorem dX0_sharedWith_13 : decode cX0_sharedWith 13 = .ok (.iconst 0, 1) := by decide +kernel
theorem dX0_sharedWith_14 : decode cX0_sharedWith 14 = .ok (.istore 4, 2) := by decide +kernel
theorem dX0_sharedWith_16 : decode cX0_sharedWith 16 = .ok (.iload 4, 2) := by decide +kernel
theorem dX0_sharedWith_18 : decode cX0_sharedWith 18 = .ok (.iload_n 3, 1) := by decide +kernel
theorem dX0_sharedWith_19 : decode cX0_sharedWith 19 = .ok (.if_icmp .ge 33, 3) := by decide +kernel
theorem dX0_sharedWith_22 : decode cX0_sharedWith 22 = .ok (.aload_n 0, 1) := by decide +kernel
theorem dX0_sharedWith_23 : decode cX0_sharedWith 23 = .ok (.getfield 9, 3) := by decide +kernel
theorem dX0_sharedWith_26 : decode cX0_sharedWith 26 = .ok (.aload_n 0, 1) := by decide +kernel
theorem dX0_sharedWith_27 : decode cX0_sharedWith 27 = .ok (.getfield 15, 3) := by decide +kernel
theorem dX0_sharedWith_30 : decode cX0_sharedWith 30 = .ok (.iload_n 1, 1) := by decide +kernel
theorem dX0_sharedWith_31 : decode cX0_sharedWith 31 = .ok (.iaload, 1) := by decide +kernel
theorem dX0_sharedWith_32 : decode cX0_sharedWith 32 = .ok (.iload 4, 2) := by decide +kernel
theorem dX0_sharedWith_34 : decode cX0_sharedWith 34 = .ok (.iadd, 1) := by decide +kernel
theorem dX0_sharedWith_35 : decode cX0_sharedWith 35 = .ok (.baload, 1) := by decide +kernel
theorem dX0_sharedWith_36 : decode cX0_sharedWith 36 = .ok (.aload_n 2, 1) := by decide +kernel
theorem dX0_sharedWith_37 : decode cX0_sharedWith 37 = .ok (.getfield 44, 3) := by decide +kernel
theorem dX0_sharedWith_40 : decode cX0_sharedWith 40 = .ok (.iload 4, 2) := by decide +kernel
theorem dX0_sharedWith_42 : decode cX0_sharedWith 42 = .ok (.baload, 1) := by decide +kernel
theorem dX0_sharedWith_43 : decode cX0_sharedWith 43 = .ok (.if_icmp .ne 9, 3) := by decide +kernel
theorem dX0_sharedWith_46 : decode cX0_sharedWith 46 = .ok (.iinc 4 1, 3) := by decide +kernel
theorem dX0_sharedWith_49 : decode cX0_sharedWith 49 = .ok (.goto (-33), 3) := by decide +kernel
theorem dX0_sharedWith_52 : decode cX0_sharedWith 52 = .ok (.iload 4, 2) := by decide +kernel
theorem dX0_sharedWith_54 : decode cX0_sharedWith 54 = .ok (.ireturn, 1) := by decide +kernel
set_option maxRecDepth 20000 in
theorem ggX0_sharedWithNext_X0_lengthOf : GoodIn wsX0_sharedWithNext wsX0_lengthOf := goodIn_r _ [11, 6, 12, 13, 14, 15] (by decide +kernel) (by decide +kernel)
set_option maxRecDepth 20000 in
theorem gX0_sharedWithNext_X0_lengthOf : GoodIn wsX0_sharedWithNext (wsV RX0 27 RX0 yX0_lengthOf wsX0_lengthOf) := goodIn_app (goodIn_of _ (by decide +kernel)) ggX0_sharedWithNext_X0_lengthOf
theorem dX0_sharedWithNext_0 : decode cX0_sharedWithNext 0 = .ok (.aload_n 0, 1) := by decide +kernel
theorem dX0_sharedWithNext_1 : decode cX0_sharedWithNext 1 = .ok (.iload_n 1, 1) := by decide +kernel
theorem dX0_sharedWithNext_2 : decode cX0_sharedWithNext 2 = .ok (.invokevirtual 27, 3) := by decide +kernel
theorem dX0_sharedWithNext_5 : decode cX0_sharedWithNext 5 = .ok (.aload_n 0, 1) := by decide +kernel
theorem dX0_sharedWithNext_6 : decode cX0_sharedWithNext 6 = .ok (.iload_n 1, 1) := by decide +kernel
theorem dX0_sharedWithNext_7 : decode cX0_sharedWithNext 7 = .ok (.iconst 1, 1) := by decide +kernel
theorem dX0_sharedWithNext_8 : decode cX0_sharedWithNext 8 = .ok (.iadd, 1) := by decide +kernel
theorem dX0_sharedWithNext_9 : decode cX0_sharedWithNext 9 = .ok (.invokevirtual 27, 3) := by decide +kernel
theorem dX0_sharedWithNext_12 : decode cX0_sharedWithNext 12 = .ok (.invokestatic 48, 3) := by decide +kernel
theorem dX0_sharedWithNext_15 : decode cX0_sharedWithNext 15 = .ok (.istore_n 2, 1) := by decide +kernel
theorem dX0_sharedWithNext_16 : decode cX0_sharedWithNext 16 = .ok (.iconst 0, 1) := by decide +kernel
theorem dX0_sharedWithNext_17 : decode cX0_sharedWithNext 17 = .ok (.istore_n 3, 1) := by decide +kernel
theorem dX0_sharedWithNext_18 : decode cX0_sharedWithNext 18 = .ok (.iload_n 3, 1) := by decide +kernel
theorem dX0_sharedWithNext_19 : decode cX0_sharedWithNext 19 = .ok (.iload_n 2, 1) := by decide +kernel
theorem dX0_sharedWithNext_20 : decode cX0_sharedWithNext 20 = .ok (.if_icmp .ge 40, 3) := by decide +kernel
theorem dX0_sharedWithNext_23 : decode cX0_sharedWithNext 23 = .ok (.aload_n 0, 1) := by decide +kernel
theorem dX0_sharedWithNext_24 : decode cX0_sharedWithNext 24 = .ok (.getfield 9, 3) := by decide +kernel
theorem dX0_sharedWithNext_27 : decode cX0_sharedWithNext 27 = .ok (.aload_n 0, 1) := by decide +kernel
theorem dX0_sharedWithNext_28 : decode cX0_sharedWithNext 28 = .ok (.getfield 15, 3) := by decide +kernel
theorem dX0_sharedWithNext_31 : decode cX0_sharedWithNext 31 = .ok (.iload_n 1, 1) := by decide +kernel
theorem dX0_sharedWithNext_32 : decode cX0_sharedWithNext 32 = .ok (.iaload, 1) := by decide +kernel
theorem dX0_sharedWithNext_33 : decode cX0_sharedWithNext 33 = .ok (.iload_n 3, 1) := by decide +kernel
theorem dX0_sharedWithNext_34 : decode cX0_sharedWithNext 34 = .ok (.iadd, 1) := by decide +kernel
theorem dX0_sharedWithNext_35 : decode cX0_sharedWithNext 35 = .ok (.baload, 1) := by decide +kernel
theorem dX0_sharedWithNext_36 : decode cX0_sharedWithNext 36 = .ok (.aload_n 0, 1) := by decide +kernel
theorem dX0_sharedWithNext_37 : decode cX0_sharedWithNext 37 = .ok (.getfield 9, 3) := by decide +kernel
theorem dX0_sharedWithNext_40 : decode cX0_sharedWithNext 40 = .ok (.aload_n 0, 1) := by decide +kernel
theorem dX0_sharedWithNext_41 : decode cX0_sharedWithNext 41 = .ok (.getfield 15, 3) := by decide +kernel
theorem dX0_sharedWithNext_44 : decode cX0_sharedWithNext 44 = .ok (.iload_n 1, 1) := by decide +kernel
theorem dX0_sharedWithNext_45 : decode cX0_sharedWithNext 45 = .ok (.iconst 1, 1) := by decide +kernel
theorem dX0_sharedWithNext_46 : decode cX0_sharedWithNext 46 = .ok (.iadd, 1) := by decide +kernel
theorem dX0_sharedWithNext_47 : decode cX0_sharedWithNext 47 = .ok (.iaload, 1) := by decide +kernel
theorem dX0_sharedWithNext_48 : decode cX0_sharedWithNext 48 = .ok (.iload_n 3, 1) := by decide +kernel
theorem dX0_sharedWithNext_49 : decode cX0_sharedWithNext 49 = .ok (.iadd, 1) := by decide +kernel
theorem dX0_sharedWithNext_50 : decode cX0_sharedWithNext 50 = .ok (.baload, 1) := by decide +kernel
theorem dX0_sharedWithNext_51 : decode cX0_sharedWithNext 51 = .ok (.if_icmp .ne 9, 3) := by decide +kernel
theorem dX0_sharedWithNext_54 : decode cX0_sharedWithNext 54 = .ok (.iinc 3 1, 3) := by decide +kernel
theorem dX0_sharedWithNext_57 : decode cX0_sharedWithNext 57 = .ok (.goto (-39), 3) := by decide +kernel
theorem dX0_sharedWithNext_60 : decode cX0_sharedWithNext 60 = .ok (.iload_n 3, 1) := by decide +kernel
theorem dX0_sharedWithNext_61 : decode cX0_sharedWithNext 61 = .ok (.ireturn, 1) := by decide +kernel
set_option maxRecDepth 20000 in
theorem ggX0_grow_X0_placeOf : GoodIn wsX0_grow wsX0_placeOf := goodIn_r _ [11, 12, 13, 14, 15, 10, 16, 17, 18, 19, 20, 21, 22, 23, 24, 25, 26, 5, 27, 28, 29, 30, 31, 52, 53, 54, 55, 56, 57] (by decide +kernel) (by decide +kernel)
set_option maxRecDepth 20000 in
theorem gX0_grow_X0_placeOf : GoodIn wsX0_grow (wsV RX0 54 RX0 yX0_placeOf wsX0_placeOf) := goodIn_app (goodIn_of _ (by decide +kernel)) ggX0_grow_X0_placeOf
set_option maxRecDepth 20000 in
theorem ggX0_grow_X0_standsAt : GoodIn wsX0_grow wsX0_standsAt := goodIn_r _ [35, 12, 17, 28, 29, 30, 10, 31, 19, 36, 37, 38, 39, 21, 22, 23, 24, 25, 26, 5, 27, 18, 20, 52, 53, 54, 55, 56, 57] (by decide +kernel) (by decide +kernel)
set_option maxRecDepth 20000 in
theorem gX0_grow_X0_standsAt : GoodIn wsX0_grow (wsV RX0 58 RX0 yX0_standsAt wsX0_standsAt) := goodIn_app (goodIn_of _ (by decide +kernel)) ggX0_grow_X0_standsAt
set_option maxRecDepth 20000 in
theorem ggX0_grow_X0_insert : GoodIn wsX0_grow wsX0_insert := goodIn_r _ [43, 12, 17, 19, 18, 44, 45, 46, 47, 20, 1, 48, 49, 50, 10, 51, 52, 53, 54, 55, 56, 57] (by decide +kernel) (by decide +kernel)
set_option maxRecDepth 20000 in
theorem gX0_grow_X0_insert : GoodIn wsX0_grow (wsV RX0 66 RX0 yX0_insert wsX0_insert) := goodIn_app (goodIn_of _ (by decide +kernel)) ggX0_grow_X0_insert
theorem dX0_grow_0 : decode cX0_grow 0 = .ok (.aload_n 0, 1) := by decide +kernel
theorem dX0_grow_1 : decode cX0_grow 1 = .ok (.aload_n 1, 1) := by decide +kernel
theorem dX0_grow_2 : decode cX0_grow 2 = .ok (.invokevirtual 54, 3) := by decide +kernel
theorem dX0_grow_5 : decode cX0_grow 5 = .ok (.istore_n 3, 1) := by decide +kernel
theorem dX0_grow_6 : decode cX0_grow 6 = .ok (.aload_n 0, 1) := by decide +kernel
theorem dX0_grow_7 : decode cX0_grow 7 = .ok (.iload_n 3, 1) := by decide +kernel
theorem dX0_grow_8 : decode cX0_grow 8 = .ok (.aload_n 1, 1) := by decide +kernel
theorem dX0_grow_9 : decode cX0_grow 9 = .ok (.invokevirtual 58, 3) := by decide +kernel
theorem dX0_grow_12 : decode cX0_grow 12 = .ok (.ifCond .eq 26, 3) := by decide +kernel
theorem dX0_grow_15 : decode cX0_grow 15 = .ok (.aload_n 0, 1) := by decide +kernel
theorem dX0_grow_16 : decode cX0_grow 16 = .ok (.getfield 19, 3) := by decide +kernel
theorem dX0_grow_19 : decode cX0_grow 19 = .ok (.iload_n 3, 1) := by decide +kernel
theorem dX0_grow_20 : decode cX0_grow 20 = .ok (.aload_n 0, 1) := by decide +kernel
theorem dX0_grow_21 : decode cX0_grow 21 = .ok (.getfield 19, 3) := by decide +kernel
theorem dX0_grow_24 : decode cX0_grow 24 = .ok (.iload_n 3, 1) := by decide +kernel
theorem dX0_grow_25 : decode cX0_grow 25 = .ok (.laload, 1) := by decide +kernel
theorem dX0_grow_26 : decode cX0_grow 26 = .ok (.iload_n 2, 1) := by decide +kernel
theorem dX0_grow_27 : decode cX0_grow 27 = .ok (.i2l, 1) := by decide +kernel
theorem dX0_grow_28 : decode cX0_grow 28 = .ok (.ladd, 1) := by decide +kernel
theorem dX0_grow_29 : decode cX0_grow 29 = .ok (.ldc2_w 61, 3) := by decide +kernel
theorem dX0_grow_32 : decode cX0_grow 32 = .ok (.invokestatic 63, 3) := by decide +kernel
theorem dX0_grow_35 : decode cX0_grow 35 = .ok (.lastore, 1) := by decide +kernel
theorem dX0_grow_36 : decode cX0_grow 36 = .ok (.iconst 1, 1) := by decide +kernel
theorem dX0_grow_37 : decode cX0_grow 37 = .ok (.ireturn, 1) := by decide +kernel
theorem dX0_grow_38 : decode cX0_grow 38 = .ok (.aload_n 0, 1) := by decide +kernel
theorem dX0_grow_39 : decode cX0_grow 39 = .ok (.iload_n 3, 1) := by decide +kernel
theorem dX0_grow_40 : decode cX0_grow 40 = .ok (.aload_n 1, 1) := by decide +kernel
theorem dX0_grow_41 : decode cX0_grow 41 = .ok (.iload_n 2, 1) := by decide +kernel
theorem dX0_grow_42 : decode cX0_grow 42 = .ok (.i2l, 1) := by decide +kernel
theorem dX0_grow_43 : decode cX0_grow 43 = .ok (.invokevirtual 66, 3) := by decide +kernel
theorem dX0_grow_46 : decode cX0_grow 46 = .ok (.ireturn, 1) := by decide +kernel
set_option maxRecDepth 20000 in
theorem ggX0_insert_X0_size : GoodIn wsX0_insert wsX0_size := goodIn_r _ [15, 3, 1, 16, 17, 18, 19] (by decide +kernel) (by decide +kernel)
set_option maxRecDepth 20000 in
theorem gX0_insert_X0_size : GoodIn wsX0_insert (wsV RX0 70 RX0 yX0_size wsX0_size) := goodIn_app (goodIn_of _ (by decide +kernel)) ggX0_insert_X0_size
theorem dX0_insert_0 : decode cX0_insert 0 = .ok (.aload_n 0, 1) := by decide +kernel
theorem dX0_insert_1 : decode cX0_insert 1 = .ok (.getfield 23, 3) := by decide +kernel
theorem dX0_insert_4 : decode cX0_insert 4 = .ok (.sipush 600, 3) := by decide +kernel
theorem dX0_insert_7 : decode cX0_insert 7 = .ok (.if_icmp .ge 18, 3) := by decide +kernel
theorem dX0_insert_10 : decode cX0_insert 10 = .ok (.aload_n 0, 1) := by decide +kernel
theorem dX0_insert_11 : decode cX0_insert 11 = .ok (.invokevirtual 70, 3) := by decide +kernel
theorem dX0_insert_14 : decode cX0_insert 14 = .ok (.aload_n 2, 1) := by decide +kernel
theorem dX0_insert_15 : decode cX0_insert 15 = .ok (.getfield 39, 3) := by decide +kernel
theorem dX0_insert_18 : decode cX0_insert 18 = .ok (.iadd, 1) := by decide +kernel
theorem dX0_insert_19 : decode cX0_insert 19 = .ok (.sipush 6000, 3) := by decide +kernel
theorem dX0_insert_22 : decode cX0_insert 22 = .ok (.if_icmp .le 5, 3) := by decide +kernel
theorem dX0_insert_25 : decode cX0_insert 25 = .ok (.iconst 0, 1) := by decide +kernel
theorem dX0_insert_26 : decode cX0_insert 26 = .ok (.ireturn, 1) := by decide +kernel
theorem dX0_insert_27 : decode cX0_insert 27 = .ok (.aload_n 0, 1) := by decide +kernel
theorem dX0_insert_28 : decode cX0_insert 28 = .ok (.getfield 15, 3) := by decide +kernel
theorem dX0_insert_31 : decode cX0_insert 31 = .ok (.iload_n 1, 1) := by decide +kernel
theorem dX0_insert_32 : decode cX0_insert 32 = .ok (.iaload, 1) := by decide +kernel
theorem dX0_insert_33 : decode cX0_insert 33 = .ok (.istore 5, 2) := by decide +kernel
theorem dX0_insert_35 : decode cX0_insert 35 = .ok (.aload_n 0, 1) := by decide +kernel
theorem dX0_insert_36 : decode cX0_insert 36 = .ok (.getfield 9, 3) := by decide +kernel
theorem dX0_insert_39 : decode cX0_insert 39 = .ok (.iload 5, 2) := by decide +kernel
theorem dX0_insert_41 : decode cX0_insert 41 = .ok (.aload_n 0, 1) := by decide +kernel
theorem dX0_insert_42 : decode cX0_insert 42 = .ok (.getfield 9, 3) := by decide +kernel
theorem dX0_insert_45 : decode cX0_insert 45 = .ok (.iload 5, 2) := by decide +kernel
theorem dX0_insert_47 : decode cX0_insert 47 = .ok (.aload_n 2, 1) := by decide +kernel
theorem dX0_insert_48 : decode cX0_insert 48 = .ok (.getfield 39, 3) := by decide +kernel
theorem dX0_insert_51 : decode cX0_insert 51 = .ok (.iadd, 1) := by decide +kernel
theorem dX0_insert_52 : decode cX0_insert 52 = .ok (.aload_n 0, 1) := by decide +kernel
theorem dX0_insert_53 : decode cX0_insert 53 = .ok (.invokevirtual 70, 3) := by decide +kernel
theorem dX0_insert_56 : decode cX0_insert 56 = .ok (.iload 5, 2) := by decide +kernel
theorem dX0_insert_58 : decode cX0_insert 58 = .ok (.isub, 1) := by decide +kernel
theorem dX0_insert_59 : decode cX0_insert 59 = .ok (.invokestatic 74, 3) := by decide +kernel
theorem dX0_insert_62 : decode cX0_insert 62 = .ok (.aload_n 2, 1) := by decide +kernel
theorem dX0_insert_63 : decode cX0_insert 63 = .ok (.getfield 44, 3) := by decide +kernel
theorem dX0_insert_66 : decode cX0_insert 66 = .ok (.iconst 0, 1) := by decide +kernel
theorem dX0_insert_67 : decode cX0_insert 67 = .ok (.aload_n 0, 1) := by decide +kernel
theorem dX0_insert_68 : decode cX0_insert 68 = .ok (.getfield 9, 3) := by decide +kernel
theorem dX0_insert_71 : decode cX0_insert 71 = .ok (.iload 5, 2) := by decide +kernel
theorem dX0_insert_73 : decode cX0_insert 73 = .ok (.aload_n 2, 1) := by decide +kernel
theorem dX0_insert_74 : decode cX0_insert 74 = .ok (.getfield 39, 3) := by decide +kernel
theorem dX0_insert_77 : decode cX0_insert 77 = .ok (.invokestatic 74, 3) := by decide +kernel
theorem dX0_insert_80 : decode cX0_insert 80 = .ok (.aload_n 0, 1) := by decide +kernel
theorem dX0_insert_81 : decode cX0_insert 81 = .ok (.getfield 19, 3) := by decide +kernel
theorem dX0_insert_84 : decode cX0_insert 84 = .ok (.iload_n 1, 1) := by decide +kernel
theorem dX0_insert_85 : decode cX0_insert 85 = .ok (.aload_n 0, 1) := by decide +kernel
theorem dX0_insert_86 : decode cX0_insert 86 = .ok (.getfield 19, 3) := by decide +kernel
theorem dX0_insert_89 : decode cX0_insert 89 = .ok (.iload_n 1, 1) := by decide +kernel
theorem dX0_insert_90 : decode cX0_insert 90 = .ok (.iconst 1, 1) := by decide +kernel
theorem dX0_insert_91 : decode cX0_insert 91 = .ok (.iadd, 1) := by decide +kernel
theorem dX0_insert_92 : decode cX0_insert 92 = .ok (.aload_n 0, 1) := by decide +kernel
theorem dX0_insert_93 : decode cX0_insert 93 = .ok (.getfield 23, 3) := by decide +kernel
theorem dX0_insert_96 : decode cX0_insert 96 = .ok (.iload_n 1, 1) := by decide +kernel
theorem dX0_insert_97 : decode cX0_insert 97 = .ok (.isub, 1) := by decide +kernel
theorem dX0_insert_98 : decode cX0_insert 98 = .ok (.invokestatic 74, 3) := by decide +kernel
theorem dX0_insert_101 : decode cX0_insert 101 = .ok (.aload_n 0, 1) := by decide +kernel
theorem dX0_insert_102 : decode cX0_insert 102 = .ok (.getfield 19, 3) := by decide +kernel
theorem dX0_insert_105 : decode cX0_insert 105 = .ok (.iload_n 1, 1) := by decide +kernel
theorem dX0_insert_106 : decode cX0_insert 106 = .ok (.lload_n 3, 1) := by decide +kernel
theorem dX0_insert_107 : decode cX0_insert 107 = .ok (.lastore, 1) := by decide +kernel
theorem dX0_insert_108 : decode cX0_insert 108 = .ok (.aload_n 0, 1) := by decide +kernel
theorem dX0_insert_109 : decode cX0_insert 109 = .ok (.getfield 23, 3) := by decide +kernel
theorem dX0_insert_112 : decode cX0_insert 112 = .ok (.istore 6, 2) := by decide +kernel
theorem dX0_insert_114 : decode cX0_insert 114 = .ok (.iload 6, 2) := by decide +kernel
theorem dX0_insert_116 : decode cX0_insert 116 = .ok (.iload_n 1, 1) := by decide +kernel
theorem dX0_insert_117 : decode cX0_insert 117 = .ok (.if_icmp .lt 30, 3) := by decide +kernel
theorem dX0_insert_120 : decode cX0_insert 120 = .ok (.aload_n 0, 1) := by decide +kernel
theorem dX0_insert_121 : decode cX0_insert 121 = .ok (.getfield 15, 3) := by decide +kernel
theorem dX0_insert_124 : decode cX0_insert 124 = .ok (.iload 6, 2) := by decide +kernel
theorem dX0_insert_126 : decode cX0_insert 126 = .ok (.iconst 1, 1) := by decide +kernel
theorem dX0_insert_127 : decode cX0_insert 127 = .ok (.iadd, 1) := by decide +kernel
theorem dX0_insert_128 : decode cX0_insert 128 = .ok (.aload_n 0, 1) := by decide +kernel
theorem dX0_insert_129 : decode cX0_insert 129 = .ok (.getfield 15, 3) := by decide +kernel
theorem dX0_insert_132 : decode cX0_insert 132 = .ok (.iload 6, 2) := by decide +kernel
theorem dX0_insert_134 : decode cX0_insert 134 = .ok (.iaload, 1) := by decide +kernel
theorem dX0_insert_135 : decode cX0_insert 135 = .ok (.aload_n 2, 1) := by decide +kernel
theorem dX0_insert_136 : decode cX0_insert 136 = .ok (.getfield 39, 3) := by decide +kernel
theorem dX0_insert_139 : decode cX0_insert 139 = .ok (.iadd, 1) := by decide +kernel
theorem dX0_insert_140 : decode cX0_insert 140 = .ok (.iastore, 1) := by decide +kernel
theorem dX0_insert_141 : decode cX0_insert 141 = .ok (.iinc 6 (-1), 3) := by decide +kernel
theorem dX0_insert_144 : decode cX0_insert 144 = .ok (.goto (-30), 3) := by decide +kernel
theorem dX0_insert_147 : decode cX0_insert 147 = .ok (.aload_n 0, 1) := by decide +kernel
theorem dX0_insert_148 : decode cX0_insert 148 = .ok (.dup, 1) := by decide +kernel
theorem dX0_insert_149 : decode cX0_insert 149 = .ok (.getfield 23, 3) := by decide +kernel
theorem dX0_insert_152 : decode cX0_insert 152 = .ok (.iconst 1, 1) := by decide +kernel
theorem dX0_insert_153 : decode cX0_insert 153 = .ok (.iadd, 1) := by decide +kernel
theorem dX0_insert_154 : decode cX0_insert 154 = .ok (.putfield 23, 3) := by decide +kernel
theorem dX0_insert_157 : decode cX0_insert 157 = .ok (.iconst 1, 1) := by decide +kernel
theorem dX0_insert_158 : decode cX0_insert 158 = .ok (.ireturn, 1) := by decide +kernel
set_option maxRecDepth 20000 in
theorem ggX0_remove_X0_lengthOf : GoodIn wsX0_remove wsX0_lengthOf := goodIn_r _ [13, 1, 18, 19, 20, 21] (by decide +kernel) (by decide +kernel)
set_option maxRecDepth 20000 in
theorem gX0_remove_X0_lengthOf : GoodIn wsX0_remove (wsV RX0 27 RX0 yX0_lengthOf wsX0_lengthOf) := goodIn_app (goodIn_of _ (by decide +kernel)) ggX0_remove_X0_lengthOf
set_option maxRecDepth 20000 in
theorem ggX0_remove_X0_size : GoodIn wsX0_remove wsX0_size := goodIn_r _ [17, 1, 8, 18, 19, 20, 21] (by decide +kernel) (by decide +kernel)
set_option maxRecDepth 20000 in
theorem gX0_remove_X0_size : GoodIn wsX0_remove (wsV RX0 70 RX0 yX0_size wsX0_size) := goodIn_app (goodIn_of _ (by decide +kernel)) ggX0_remove_X0_size
theorem dX0_remove_0 : decode cX0_remove 0 = .ok (.aload_n 0, 1) := by decide +kernel
theorem dX0_remove_1 : decode cX0_remove 1 = .ok (.iload_n 1, 1) := by decide +kernel
theorem dX0_remove_2 : decode cX0_remove 2 = .ok (.invokevirtual 27, 3) := by decide +kernel
theorem dX0_remove_5 : decode cX0_remove 5 = .ok (.istore_n 2, 1) := by decide +kernel
theorem dX0_remove_6 : decode cX0_remove 6 = .ok (.aload_n 0, 1) := by decide +kernel
theorem dX0_remove_7 : decode cX0_remove 7 = .ok (.getfield 15, 3) := by decide +kernel
theorem dX0_remove_10 : decode cX0_remove 10 = .ok (.iload_n 1, 1) := by decide +kernel
theorem dX0_remove_11 : decode cX0_remove 11 = .ok (.iconst 1, 1) := by decide +kernel
theorem dX0_remove_12 : decode cX0_remove 12 = .ok (.iadd, 1) := by decide +kernel
theorem dX0_remove_13 : decode cX0_remove 13 = .ok (.iaload, 1) := by decide +kernel
theorem dX0_remove_14 : decode cX0_remove 14 = .ok (.istore_n 3, 1) := by decide +kernel
theorem dX0_remove_15 : decode cX0_remove 15 = .ok (.aload_n 0, 1) := by decide +kernel
theorem dX0_remove_16 : decode cX0_remove 16 = .ok (.getfield 9, 3) := by decide +kernel
theorem dX0_remove_19 : decode cX0_remove 19 = .ok (.iload_n 3, 1) := by decide +kernel
theorem dX0_remove_20 : decode cX0_remove 20 = .ok (.aload_n 0, 1) := by decide +kernel
theorem dX0_remove_21 : decode cX0_remove 21 = .ok (.getfield 9, 3) := by decide +kernel
theorem dX0_remove_24 : decode cX0_remove 24 = .ok (.aload_n 0, 1) := by decide +kernel
theorem dX0_remove_25 : decode cX0_remove 25 = .ok (.getfield 15, 3) := by decide +kernel
theorem dX0_remove_28 : decode cX0_remove 28 = .ok (.iload_n 1, 1) := by decide +kernel
theorem dX0_remove_29 : decode cX0_remove 29 = .ok (.iaload, 1) := by decide +kernel
theorem dX0_remove_30 : decode cX0_remove 30 = .ok (.aload_n 0, 1) := by decide +kernel
theorem dX0_remove_31 : decode cX0_remove 31 = .ok (.invokevirtual 70, 3) := by decide +kernel
theorem dX0_remove_34 : decode cX0_remove 34 = .ok (.iload_n 3, 1) := by decide +kernel
theorem dX0_remove_35 : decode cX0_remove 35 = .ok (.isub, 1) := by decide +kernel
theorem dX0_remove_36 : decode cX0_remove 36 = .ok (.invokestatic 74, 3) := by decide +kernel
theorem dX0_remove_39 : decode cX0_remove 39 = .ok (.aload_n 0, 1) := by decide +kernel
theorem dX0_remove_40 : decode cX0_remove 40 = .ok (.getfield 19, 3) := by decide +kernel
theorem dX0_remove_43 : decode cX0_remove 43 = .ok (.iload_n 1, 1) := by decide +kernel
theorem dX0_remove_44 : decode cX0_remove 44 = .ok (.iconst 1, 1) := by decide +kernel
theorem dX0_remove_45 : decode cX0_remove 45 = .ok (.iadd, 1) := by decide +kernel
theorem dX0_remove_46 : decode cX0_remove 46 = .ok (.aload_n 0, 1) := by decide +kernel
theorem dX0_remove_47 : decode cX0_remove 47 = .ok (.getfield 19, 3) := by decide +kernel
theorem dX0_remove_50 : decode cX0_remove 50 = .ok (.iload_n 1, 1) := by decide +kernel
theorem dX0_remove_51 : decode cX0_remove 51 = .ok (.aload_n 0, 1) := by decide +kernel
theorem dX0_remove_52 : decode cX0_remove 52 = .ok (.getfield 23, 3) := by decide +kernel
theorem dX0_remove_55 : decode cX0_remove 55 = .ok (.iload_n 1, 1) := by decide +kernel
theorem dX0_remove_56 : decode cX0_remove 56 = .ok (.isub, 1) := by decide +kernel
theorem dX0_remove_57 : decode cX0_remove 57 = .ok (.iconst 1, 1) := by decide +kernel
theorem dX0_remove_58 : decode cX0_remove 58 = .ok (.isub, 1) := by decide +kernel
theorem dX0_remove_59 : decode cX0_remove 59 = .ok (.invokestatic 74, 3) := by decide +kernel
theorem dX0_remove_62 : decode cX0_remove 62 = .ok (.iload_n 1, 1) := by decide +kernel
theorem dX0_remove_63 : decode cX0_remove 63 = .ok (.iconst 1, 1) := by decide +kernel
theorem dX0_remove_64 : decode cX0_remove 64 = .ok (.iadd, 1) := by decide +kernel
theorem dX0_remove_65 : decode cX0_remove 65 = .ok (.istore 4, 2) := by decide +kernel
theorem dX0_remove_67 : decode cX0_remove 67 = .ok (.iload 4, 2) := by decide +kernel
theorem dX0_remove_69 : decode cX0_remove 69 = .ok (.aload_n 0, 1) := by decide +kernel
theorem dX0_remove_70 : decode cX0_remove 70 = .ok (.getfield 23, 3) := by decide +kernel
theorem dX0_remove_73 : decode cX0_remove 73 = .ok (.if_icmp .ge 27, 3) := by decide +kernel
theorem dX0_remove_76 : decode cX0_remove 76 = .ok (.aload_n 0, 1) := by decide +kernel
theorem dX0_remove_77 : decode cX0_remove 77 = .ok (.getfield 15, 3) := by decide +kernel
theorem dX0_remove_80 : decode cX0_remove 80 = .ok (.iload 4, 2) := by decide +kernel
theorem dX0_remove_82 : decode cX0_remove 82 = .ok (.aload_n 0, 1) := by decide +kernel
theorem dX0_remove_83 : decode cX0_remove 83 = .ok (.getfield 15, 3) := by decide +kernel
theorem dX0_remove_86 : decode cX0_remove 86 = .ok (.iload 4, 2) := by decide +kernel
theorem dX0_remove_88 : decode cX0_remove 88 = .ok (.iconst 1, 1) := by decide +kernel
theorem dX0_remove_89 : decode cX0_remove 89 = .ok (.iadd, 1) := by decide +kernel
theorem dX0_remove_90 : decode cX0_remove 90 = .ok (.iaload, 1) := by decide +kernel
theorem dX0_remove_91 : decode cX0_remove 91 = .ok (.iload_n 2, 1) := by decide +kernel
theorem dX0_remove_92 : decode cX0_remove 92 = .ok (.isub, 1) := by decide +kernel
theorem dX0_remove_93 : decode cX0_remove 93 = .ok (.iastore, 1) := by decide +kernel
theorem dX0_remove_94 : decode cX0_remove 94 = .ok (.iinc 4 1, 3) := by decide +kernel
theorem dX0_remove_97 : decode cX0_remove 97 = .ok (.goto (-30), 3) := by decide +kernel
theorem dX0_remove_100 : decode cX0_remove 100 = .ok (.aload_n 0, 1) := by decide +kernel
theorem dX0_remove_101 : decode cX0_remove 101 = .ok (.dup, 1) := by decide +kernel
theorem dX0_remove_102 : decode cX0_remove 102 = .ok (.getfield 23, 3) := by decide +kernel
theorem dX0_remove_105 : decode cX0_remove 105 = .ok (.iconst 1, 1) := by decide +kernel
theorem dX0_remove_106 : decode cX0_remove 106 = .ok (.isub, 1) := by decide +kernel
theorem dX0_remove_107 : decode cX0_remove 107 = .ok (.putfield 23, 3) := by decide +kernel
theorem dX0_remove_110 : decode cX0_remove 110 = .ok (.return_, 1) := by decide +kernel
theorem dX0_rankOf_0 : decode cX0_rankOf 0 = .ok (.iconst 0, 1) := by decide +kernel
theorem dX0_rankOf_1 : decode cX0_rankOf 1 = .ok (.istore_n 2, 1) := by decide +kernel
theorem dX0_rankOf_2 : decode cX0_rankOf 2 = .ok (.iconst 0, 1) := by decide +kernel
theorem dX0_rankOf_3 : decode cX0_rankOf 3 = .ok (.istore_n 3, 1) := by decide +kernel
theorem dX0_rankOf_4 : decode cX0_rankOf 4 = .ok (.iload_n 3, 1) := by decide +kernel
theorem dX0_rankOf_5 : decode cX0_rankOf 5 = .ok (.aload_n 0, 1) := by decide +kernel
theorem dX0_rankOf_6 : decode cX0_rankOf 6 = .ok (.getfield 23, 3) := by decide +kernel
theorem dX0_rankOf_9 : decode cX0_rankOf 9 = .ok (.if_icmp .ge 49, 3) := by decide +kernel
theorem dX0_rankOf_12 : decode cX0_rankOf 12 = .ok (.aload_n 0, 1) := by decide +kernel
theorem dX0_rankOf_13 : decode cX0_rankOf 13 = .ok (.getfield 19, 3) := by decide +kernel
theorem dX0_rankOf_16 : decode cX0_rankOf 16 = .ok (.iload_n 3, 1) := by decide +kernel
theorem dX0_rankOf_17 : decode cX0_rankOf 17 = .ok (.laload, 1) := by decide +kernel
theorem dX0_rankOf_18 : decode cX0_rankOf 18 = .ok (.aload_n 0, 1) := by decide +kernel
theorem dX0_rankOf_19 : decode cX0_rankOf 19 = .ok (.getfield 19, 3) := by decide +kernel
theorem dX0_rankOf_22 : decode cX0_rankOf 22 = .ok (.iload_n 1, 1) := by decide +kernel
theorem dX0_rankOf_23 : decode cX0_rankOf 23 = .ok (.laload, 1) := by decide +kernel
theorem dX0_rankOf_24 : decode cX0_rankOf 24 = .ok (.lcmp, 1) := by decide +kernel
theorem dX0_rankOf_25 : decode cX0_rankOf 25 = .ok (.ifCond .gt 24, 3) := by decide +kernel
theorem dX0_rankOf_28 : decode cX0_rankOf 28 = .ok (.aload_n 0, 1) := by decide +kernel
theorem dX0_rankOf_29 : decode cX0_rankOf 29 = .ok (.getfield 19, 3) := by decide +kernel
theorem dX0_rankOf_32 : decode cX0_rankOf 32 = .ok (.iload_n 3, 1) := by decide +kernel
theorem dX0_rankOf_33 : decode cX0_rankOf 33 = .ok (.laload, 1) := by decide +kernel
theorem dX0_rankOf_34 : decode cX0_rankOf 34 = .ok (.aload_n 0, 1) := by decide +kernel
theorem dX0_rankOf_35 : decode cX0_rankOf 35 = .ok (.getfield 19, 3) := by decide +kernel
theorem dX0_rankOf_38 : decode cX0_rankOf 38 = .ok (.iload_n 1, 1) := by decide +kernel
theorem dX0_rankOf_39 : decode cX0_rankOf 39 = .ok (.laload, 1) := by decide +kernel
theorem dX0_rankOf_40 : decode cX0_rankOf 40 = .ok (.lcmp, 1) := by decide +kernel
theorem dX0_rankOf_41 : decode cX0_rankOf 41 = .ok (.ifCond .ne 11, 3) := by decide +kernel
theorem dX0_rankOf_44 : decode cX0_rankOf 44 = .ok (.iload_n 3, 1) := by decide +kernel
theorem dX0_rankOf_45 : decode cX0_rankOf 45 = .ok (.iload_n 1, 1) := by decide +kernel
theorem dX0_rankOf_46 : decode cX0_rankOf 46 = .ok (.if_icmp .ge 6, 3) := by decide +kernel
theorem dX0_rankOf_49 : decode cX0_rankOf 49 = .ok (.iinc 2 1, 3) := by decide +kernel
theorem dX0_rankOf_52 : decode cX0_rankOf 52 = .ok (.iinc 3 1, 3) := by decide +kernel
theorem dX0_rankOf_55 : decode cX0_rankOf 55 = .ok (.goto (-51), 3) := by decide +kernel
theorem dX0_rankOf_58 : decode cX0_rankOf 58 = .ok (.iload_n 2, 1) := by decide +kernel
theorem dX0_rankOf_59 : decode cX0_rankOf 59 = .ok (.ireturn, 1) := by decide +kernel
set_option maxRecDepth 20000 in
theorem ggX0_countPrefixes_X0_size : GoodIn wsX0_countPrefixes wsX0_size := goodIn_r _ [6, 7, 1, 21, 22, 23, 24] (by decide +kernel) (by decide +kernel)
set_option maxRecDepth 20000 in
theorem gX0_countPrefixes_X0_size : GoodIn wsX0_countPrefixes (wsV RX0 70 RX0 yX0_size wsX0_size) := goodIn_app (goodIn_of _ (by decide +kernel)) ggX0_countPrefixes_X0_size
set_option maxRecDepth 20000 in
theorem ggX0_countPrefixes_X0_sharedWithNext : GoodIn wsX0_countPrefixes wsX0_sharedWithNext := goodIn_r _ [11, 12, 13, 14, 15, 16, 7, 17, 18, 19, 5, 20, 21, 22, 23, 24] (by decide +kernel) (by decide +kernel)
set_option maxRecDepth 20000 in
theorem gX0_countPrefixes_X0_sharedWithNext : GoodIn wsX0_countPrefixes (wsV RX0 80 RX0 yX0_sharedWithNext wsX0_sharedWithNext) := goodIn_app (goodIn_of _ (by decide +kernel)) ggX0_countPrefixes_X0_sharedWithNext
theorem dX0_countPrefixes_0 : decode cX0_countPrefixes 0 = .ok (.aload_n 0, 1) := by decide +kernel
theorem dX0_countPrefixes_1 : decode cX0_countPrefixes 1 = .ok (.getfield 23, 3) := by decide +kernel
theorem dX0_countPrefixes_4 : decode cX0_countPrefixes 4 = .ok (.ifCond .ne 5, 3) := by decide +kernel
theorem dX0_countPrefixes_7 : decode cX0_countPrefixes 7 = .ok (.iconst 0, 1) := by decide +kernel
theorem dX0_countPrefixes_8 : decode cX0_countPrefixes 8 = .ok (.ireturn, 1) := by decide +kernel
theorem dX0_countPrefixes_9 : decode cX0_countPrefixes 9 = .ok (.iconst 1, 1) := by decide +kernel
theorem dX0_countPrefixes_10 : decode cX0_countPrefixes 10 = .ok (.aload_n 0, 1) := by decide +kernel
theorem dX0_countPrefixes_11 : decode cX0_countPrefixes 11 = .ok (.invokevirtual 70, 3) := by decide +kernel
theorem dX0_countPrefixes_14 : decode cX0_countPrefixes 14 = .ok (.iadd, 1) := by decide +kernel
theorem dX0_countPrefixes_15 : decode cX0_countPrefixes 15 = .ok (.istore_n 1, 1) := by decide +kernel
theorem dX0_countPrefixes_16 : decode cX0_countPrefixes 16 = .ok (.iconst 0, 1) := by decide +kernel
theorem dX0_countPrefixes_17 : decode cX0_countPrefixes 17 = .ok (.istore_n 2, 1) := by decide +kernel
theorem dX0_countPrefixes_18 : decode cX0_countPrefixes 18 = .ok (.iload_n 2, 1) := by decide +kernel
theorem dX0_countPrefixes_19 : decode cX0_countPrefixes 19 = .ok (.iconst 1, 1) := by decide +kernel
theorem dX0_countPrefixes_20 : decode cX0_countPrefixes 20 = .ok (.iadd, 1) := by decide +kernel
theorem dX0_countPrefixes_21 : decode cX0_countPrefixes 21 = .ok (.aload_n 0, 1) := by decide +kernel
theorem dX0_countPrefixes_22 : decode cX0_countPrefixes 22 = .ok (.getfield 23, 3) := by decide +kernel
theorem dX0_countPrefixes_25 : decode cX0_countPrefixes 25 = .ok (.if_icmp .ge 17, 3) := by decide +kernel
theorem dX0_countPrefixes_28 : decode cX0_countPrefixes 28 = .ok (.iload_n 1, 1) := by decide +kernel
theorem dX0_countPrefixes_29 : decode cX0_countPrefixes 29 = .ok (.aload_n 0, 1) := by decide +kernel
theorem dX0_countPrefixes_30 : decode cX0_countPrefixes 30 = .ok (.iload_n 2, 1) := by decide +kernel
theorem dX0_countPrefixes_31 : decode cX0_countPrefixes 31 = .ok (.invokevirtual 80, 3) := by decide +kernel
theorem dX0_countPrefixes_34 : decode cX0_countPrefixes 34 = .ok (.isub, 1) := by decide +kernel
theorem dX0_countPrefixes_35 : decode cX0_countPrefixes 35 = .ok (.istore_n 1, 1) := by decide +kernel
theorem dX0_countPrefixes_36 : decode cX0_countPrefixes 36 = .ok (.iinc 2 1, 3) := by decide +kernel
theorem dX0_countPrefixes_39 : decode cX0_countPrefixes 39 = .ok (.goto (-21), 3) := by decide +kernel
theorem dX0_countPrefixes_42 : decode cX0_countPrefixes 42 = .ok (.iload_n 1, 1) := by decide +kernel
theorem dX0_countPrefixes_43 : decode cX0_countPrefixes 43 = .ok (.ireturn, 1) := by decide +kernel
