theorem dX1_init_0 : decode cX1_init 0 = .ok (.aload_n 0, 1) := by decide +kernel
theorem dX1_init_1 : decode cX1_init 1 = .ok (.invokespecial 3, 3) := by decide +kernel
theorem dX1_init_4 : decode cX1_init 4 = .ok (.aload_n 0, 1) := by decide +kernel
theorem dX1_init_5 : decode cX1_init 5 = .ok (.bipush 25, 2) := by decide +kernel
theorem dX1_init_7 : decode cX1_init 7 = .ok (.newarray .int, 2) := by decide +kernel
theorem dX1_init_9 : decode cX1_init 9 = .ok (.putfield 9, 3) := by decide +kernel
theorem dX1_init_12 : decode cX1_init 12 = .ok (.return_, 1) := by decide +kernel
set_option maxRecDepth 20000 in
theorem ggX1_nearness_X1_lengthenPrefix : GoodIn wsX1_nearness wsX1_lengthenPrefix := goodIn_r _ [13, 2, 1, 14, 3, 4, 5, 6, 17, 15, 16] (by decide +kernel) (by decide +kernel)
set_option maxRecDepth 20000 in
theorem gX1_nearness_X1_lengthenPrefix : GoodIn wsX1_nearness (wsV RX1 36 RX1 yX1_lengthenPrefix wsX1_lengthenPrefix) := goodIn_app (goodIn_of _ (by decide +kernel)) ggX1_nearness_X1_lengthenPrefix
theorem dX1_nearness_0 : decode cX1_nearness 0 = .ok (.iconst 0, 1) := by decide +kernel
theorem dX1_nearness_1 : decode cX1_nearness 1 = .ok (.istore 5, 2) := by decide +kernel
theorem dX1_nearness_3 : decode cX1_nearness 3 = .ok (.iload 5, 2) := by decide +kernel
theorem dX1_nearness_5 : decode cX1_nearness 5 = .ok (.aload_n 1, 1) := by decide +kernel
theorem dX1_nearness_6 : decode cX1_nearness 6 = .ok (.getfield 15, 3) := by decide +kernel
theorem dX1_nearness_9 : decode cX1_nearness 9 = .ok (.if_icmp .gt 18, 3) := by decide +kernel
theorem dX1_nearness_12 : decode cX1_nearness 12 = .ok (.aload_n 0, 1) := by decide +kernel
theorem dX1_nearness_13 : decode cX1_nearness 13 = .ok (.getfield 9, 3) := by decide +kernel
theorem dX1_nearness_16 : decode cX1_nearness 16 = .ok (.iload 5, 2) := by decide +kernel
theorem dX1_nearness_18 : decode cX1_nearness 18 = .ok (.iload 5, 2) := by decide +kernel
theorem dX1_nearness_20 : decode cX1_nearness 20 = .ok (.iastore, 1) := by decide +kernel
theorem dX1_nearness_21 : decode cX1_nearness 21 = .ok (.iinc 5 1, 3) := by decide +kernel
theorem dX1_nearness_24 : decode cX1_nearness 24 = .ok (.goto (-21), 3) := by decide +kernel
theorem dX1_nearness_27 : decode cX1_nearness 27 = .ok (.aload_n 1, 1) := by decide +kernel
theorem dX1_nearness_28 : decode cX1_nearness 28 = .ok (.getfield 15, 3) := by decide +kernel
theorem dX1_nearness_31 : decode cX1_nearness 31 = .ok (.iload 4, 2) := by decide +kernel
theorem dX1_nearness_33 : decode cX1_nearness 33 = .ok (.iconst 1, 1) := by decide +kernel
theorem dX1_nearness_34 : decode cX1_nearness 34 = .ok (.iadd, 1) := by decide +kernel
theorem dX1_nearness_35 : decode cX1_nearness 35 = .ok (.invokestatic 21, 3) := by decide +kernel
theorem dX1_nearness_38 : decode cX1_nearness 38 = .ok (.istore 5, 2) := by decide +kernel
theorem dX1_nearness_40 : decode cX1_nearness 40 = .ok (.iconst 0, 1) := by decide +kernel
theorem dX1_nearness_41 : decode cX1_nearness 41 = .ok (.istore 6, 2) := by decide +kernel
theorem dX1_nearness_43 : decode cX1_nearness 43 = .ok (.aload_n 2, 1) := by decide +kernel
theorem dX1_nearness_44 : decode cX1_nearness 44 = .ok (.getfield 27, 3) := by decide +kernel
theorem dX1_nearness_47 : decode cX1_nearness 47 = .ok (.iload_n 3, 1) := by decide +kernel
theorem dX1_nearness_48 : decode cX1_nearness 48 = .ok (.iconst 1, 1) := by decide +kernel
theorem dX1_nearness_49 : decode cX1_nearness 49 = .ok (.iadd, 1) := by decide +kernel
theorem dX1_nearness_50 : decode cX1_nearness 50 = .ok (.iaload, 1) := by decide +kernel
theorem dX1_nearness_51 : decode cX1_nearness 51 = .ok (.istore 7, 2) := by decide +kernel
theorem dX1_nearness_53 : decode cX1_nearness 53 = .ok (.aload_n 2, 1) := by decide +kernel
theorem dX1_nearness_54 : decode cX1_nearness 54 = .ok (.getfield 27, 3) := by decide +kernel
theorem dX1_nearness_57 : decode cX1_nearness 57 = .ok (.iload_n 3, 1) := by decide +kernel
theorem dX1_nearness_58 : decode cX1_nearness 58 = .ok (.iaload, 1) := by decide +kernel
theorem dX1_nearness_59 : decode cX1_nearness 59 = .ok (.istore 8, 2) := by decide +kernel
theorem dX1_nearness_61 : decode cX1_nearness 61 = .ok (.iload 8, 2) := by decide +kernel
theorem dX1_nearness_63 : decode cX1_nearness 63 = .ok (.iload 7, 2) := by decide +kernel
theorem dX1_nearness_65 : decode cX1_nearness 65 = .ok (.if_icmp .ge 46, 3) := by decide +kernel
theorem dX1_nearness_68 : decode cX1_nearness 68 = .ok (.iload 6, 2) := by decide +kernel
theorem dX1_nearness_70 : decode cX1_nearness 70 = .ok (.iload 5, 2) := by decide +kernel
theorem dX1_nearness_72 : decode cX1_nearness 72 = .ok (.if_icmp .ge 39, 3) := by decide +kernel
theorem dX1_nearness_75 : decode cX1_nearness 75 = .ok (.aload_n 0, 1) := by decide +kernel
theorem dX1_nearness_76 : decode cX1_nearness 76 = .ok (.aload_n 1, 1) := by decide +kernel
theorem dX1_nearness_77 : decode cX1_nearness 77 = .ok (.aload_n 2, 1) := by decide +kernel
theorem dX1_nearness_78 : decode cX1_nearness 78 = .ok (.getfield 32, 3) := by decide +kernel
theorem dX1_nearness_81 : decode cX1_nearness 81 = .ok (.iload 8, 2) := by decide +kernel
theorem dX1_nearness_83 : decode cX1_nearness 83 = .ok (.baload, 1) := by decide +kernel
theorem dX1_nearness_84 : decode cX1_nearness 84 = .ok (.invokevirtual 36, 3) := by decide +kernel
theorem dX1_nearness_87 : decode cX1_nearness 87 = .ok (.istore 6, 2) := by decide +kernel
theorem dX1_nearness_89 : decode cX1_nearness 89 = .ok (.iload 5, 2) := by decide +kernel
theorem dX1_nearness_91 : decode cX1_nearness 91 = .ok (.aload_n 0, 1) := by decide +kernel
theorem dX1_nearness_92 : decode cX1_nearness 92 = .ok (.getfield 9, 3) := by decide +kernel
theorem dX1_nearness_95 : decode cX1_nearness 95 = .ok (.aload_n 1, 1) := by decide +kernel
theorem dX1_nearness_96 : decode cX1_nearness 96 = .ok (.getfield 15, 3) := by decide +kernel
theorem dX1_nearness_99 : decode cX1_nearness 99 = .ok (.iaload, 1) := by decide +kernel
theorem dX1_nearness_100 : decode cX1_nearness 100 = .ok (.invokestatic 21, 3) := by decide +kernel
theorem dX1_nearness_103 : decode cX1_nearness 103 = .ok (.istore 5, 2) := by decide +kernel
theorem dX1_nearness_105 : decode cX1_nearness 105 = .ok (.iinc 8 1, 3) := by decide +kernel
theorem dX1_nearness_108 : decode cX1_nearness 108 = .ok (.goto (-47), 3) := by decide +kernel
theorem dX1_nearness_111 : decode cX1_nearness 111 = .ok (.iload 5, 2) := by decide +kernel
theorem dX1_nearness_113 : decode cX1_nearness 113 = .ok (.ireturn, 1) := by decide +kernel
theorem dX1_lengthenPrefix_0 : decode cX1_lengthenPrefix 0 = .ok (.aload_n 0, 1) := by decide +kernel
theorem dX1_lengthenPrefix_1 : decode cX1_lengthenPrefix 1 = .ok (.getfield 9, 3) := by decide +kernel
theorem dX1_lengthenPrefix_4 : decode cX1_lengthenPrefix 4 = .ok (.iconst 0, 1) := by decide +kernel
theorem dX1_lengthenPrefix_5 : decode cX1_lengthenPrefix 5 = .ok (.iaload, 1) := by decide +kernel
theorem dX1_lengthenPrefix_6 : decode cX1_lengthenPrefix 6 = .ok (.istore_n 3, 1) := by decide +kernel
theorem dX1_lengthenPrefix_7 : decode cX1_lengthenPrefix 7 = .ok (.aload_n 0, 1) := by decide +kernel
theorem dX1_lengthenPrefix_8 : decode cX1_lengthenPrefix 8 = .ok (.getfield 9, 3) := by decide +kernel
theorem dX1_lengthenPrefix_11 : decode cX1_lengthenPrefix 11 = .ok (.iconst 0, 1) := by decide +kernel
theorem dX1_lengthenPrefix_12 : decode cX1_lengthenPrefix 12 = .ok (.dup2, 1) := by decide +kernel
theorem dX1_lengthenPrefix_13 : decode cX1_lengthenPrefix 13 = .ok (.iaload, 1) := by decide +kernel
theorem dX1_lengthenPrefix_14 : decode cX1_lengthenPrefix 14 = .ok (.iconst 1, 1) := by decide +kernel
theorem dX1_lengthenPrefix_15 : decode cX1_lengthenPrefix 15 = .ok (.iadd, 1) := by decide +kernel
theorem dX1_lengthenPrefix_16 : decode cX1_lengthenPrefix 16 = .ok (.iastore, 1) := by decide +kernel
theorem dX1_lengthenPrefix_17 : decode cX1_lengthenPrefix 17 = .ok (.aload_n 0, 1) := by decide +kernel
theorem dX1_lengthenPrefix_18 : decode cX1_lengthenPrefix 18 = .ok (.getfield 9, 3) := by decide +kernel
theorem dX1_lengthenPrefix_21 : decode cX1_lengthenPrefix 21 = .ok (.iconst 0, 1) := by decide +kernel
theorem dX1_lengthenPrefix_22 : decode cX1_lengthenPrefix 22 = .ok (.iaload, 1) := by decide +kernel
theorem dX1_lengthenPrefix_23 : decode cX1_lengthenPrefix 23 = .ok (.istore 4, 2) := by decide +kernel
theorem dX1_lengthenPrefix_25 : decode cX1_lengthenPrefix 25 = .ok (.iconst 1, 1) := by decide +kernel
theorem dX1_lengthenPrefix_26 : decode cX1_lengthenPrefix 26 = .ok (.istore 5, 2) := by decide +kernel
theorem dX1_lengthenPrefix_28 : decode cX1_lengthenPrefix 28 = .ok (.iload 5, 2) := by decide +kernel
theorem dX1_lengthenPrefix_30 : decode cX1_lengthenPrefix 30 = .ok (.aload_n 1, 1) := by decide +kernel
theorem dX1_lengthenPrefix_31 : decode cX1_lengthenPrefix 31 = .ok (.getfield 15, 3) := by decide +kernel
theorem dX1_lengthenPrefix_34 : decode cX1_lengthenPrefix 34 = .ok (.if_icmp .gt 86, 3) := by decide +kernel
theorem dX1_lengthenPrefix_37 : decode cX1_lengthenPrefix 37 = .ok (.aload_n 1, 1) := by decide +kernel
theorem dX1_lengthenPrefix_38 : decode cX1_lengthenPrefix 38 = .ok (.getfield 40, 3) := by decide +kernel
theorem dX1_lengthenPrefix_41 : decode cX1_lengthenPrefix 41 = .ok (.iload 5, 2) := by decide +kernel
theorem dX1_lengthenPrefix_43 : decode cX1_lengthenPrefix 43 = .ok (.iconst 1, 1) := by decide +kernel
theorem dX1_lengthenPrefix_44 : decode cX1_lengthenPrefix 44 = .ok (.isub, 1) := by decide +kernel
theorem dX1_lengthenPrefix_45 : decode cX1_lengthenPrefix 45 = .ok (.baload, 1) := by decide +kernel
theorem dX1_lengthenPrefix_46 : decode cX1_lengthenPrefix 46 = .ok (.iload_n 2, 1) := by decide +kernel
theorem dX1_lengthenPrefix_47 : decode cX1_lengthenPrefix 47 = .ok (.if_icmp .ne 7, 3) := by decide +kernel
theorem dX1_lengthenPrefix_50 : decode cX1_lengthenPrefix 50 = .ok (.iload_n 3, 1) := by decide +kernel
theorem dX1_lengthenPrefix_51 : decode cX1_lengthenPrefix 51 = .ok (.goto 6, 3) := by decide +kernel
theorem dX1_lengthenPrefix_54 : decode cX1_lengthenPrefix 54 = .ok (.iload_n 3, 1) := by decide +kernel
theorem dX1_lengthenPrefix_55 : decode cX1_lengthenPrefix 55 = .ok (.iconst 1, 1) := by decide +kernel
theorem dX1_lengthenPrefix_56 : decode cX1_lengthenPrefix 56 = .ok (.iadd, 1) := by decide +kernel
theorem dX1_lengthenPrefix_57 : decode cX1_lengthenPrefix 57 = .ok (.istore 6, 2) := by decide +kernel
theorem dX1_lengthenPrefix_59 : decode cX1_lengthenPrefix 59 = .ok (.aload_n 0, 1) := by decide +kernel
theorem dX1_lengthenPrefix_60 : decode cX1_lengthenPrefix 60 = .ok (.getfield 9, 3) := by decide +kernel
theorem dX1_lengthenPrefix_63 : decode cX1_lengthenPrefix 63 = .ok (.iload 5, 2) := by decide +kernel
theorem dX1_lengthenPrefix_65 : decode cX1_lengthenPrefix 65 = .ok (.iaload, 1) := by decide +kernel
theorem dX1_lengthenPrefix_66 : decode cX1_lengthenPrefix 66 = .ok (.istore_n 3, 1) := by decide +kernel
theorem dX1_lengthenPrefix_67 : decode cX1_lengthenPrefix 67 = .ok (.aload_n 0, 1) := by decide +kernel
theorem dX1_lengthenPrefix_68 : decode cX1_lengthenPrefix 68 = .ok (.getfield 9, 3) := by decide +kernel
theorem dX1_lengthenPrefix_71 : decode cX1_lengthenPrefix 71 = .ok (.iload 5, 2) := by decide +kernel
theorem dX1_lengthenPrefix_73 : decode cX1_lengthenPrefix 73 = .ok (.iload 6, 2) := by decide +kernel
theorem dX1_lengthenPrefix_75 : decode cX1_lengthenPrefix 75 = .ok (.aload_n 0, 1) := by decide +kernel
theorem dX1_lengthenPrefix_76 : decode cX1_lengthenPrefix 76 = .ok (.getfield 9, 3) := by decide +kernel
theorem dX1_lengthenPrefix_79 : decode cX1_lengthenPrefix 79 = .ok (.iload 5, 2) := by decide +kernel
theorem dX1_lengthenPrefix_81 : decode cX1_lengthenPrefix 81 = .ok (.iconst 1, 1) := by decide +kernel
theorem dX1_lengthenPrefix_82 : decode cX1_lengthenPrefix 82 = .ok (.isub, 1) := by decide +kernel
theorem dX1_lengthenPrefix_83 : decode cX1_lengthenPrefix 83 = .ok (.iaload, 1) := by decide +kernel
theorem dX1_lengthenPrefix_84 : decode cX1_lengthenPrefix 84 = .ok (.aload_n 0, 1) := by decide +kernel
theorem dX1_lengthenPrefix_85 : decode cX1_lengthenPrefix 85 = .ok (.getfield 9, 3) := by decide +kernel
theorem dX1_lengthenPrefix_88 : decode cX1_lengthenPrefix 88 = .ok (.iload 5, 2) := by decide +kernel
theorem dX1_lengthenPrefix_90 : decode cX1_lengthenPrefix 90 = .ok (.iaload, 1) := by decide +kernel
theorem dX1_lengthenPrefix_91 : decode cX1_lengthenPrefix 91 = .ok (.invokestatic 21, 3) := by decide +kernel
theorem dX1_lengthenPrefix_94 : decode cX1_lengthenPrefix 94 = .ok (.iconst 1, 1) := by decide +kernel
theorem dX1_lengthenPrefix_95 : decode cX1_lengthenPrefix 95 = .ok (.iadd, 1) := by decide +kernel
theorem dX1_lengthenPrefix_96 : decode cX1_lengthenPrefix 96 = .ok (.invokestatic 21, 3) := by decide +kernel
theorem dX1_lengthenPrefix_99 : decode cX1_lengthenPrefix 99 = .ok (.iastore, 1) := by decide +kernel
theorem dX1_lengthenPrefix_100 : decode cX1_lengthenPrefix 100 = .ok (.iload 4, 2) := by decide +kernel
theorem dX1_lengthenPrefix_102 : decode cX1_lengthenPrefix 102 = .ok (.aload_n 0, 1) := by decide +kernel
theorem dX1_lengthenPrefix_103 : decode cX1_lengthenPrefix 103 = .ok (.getfield 9, 3) := by decide +kernel
theorem dX1_lengthenPrefix_106 : decode cX1_lengthenPrefix 106 = .ok (.iload 5, 2) := by decide +kernel
theorem dX1_lengthenPrefix_108 : decode cX1_lengthenPrefix 108 = .ok (.iaload, 1) := by decide +kernel
theorem dX1_lengthenPrefix_109 : decode cX1_lengthenPrefix 109 = .ok (.invokestatic 21, 3) := by decide +kernel
theorem dX1_lengthenPrefix_112 : decode cX1_lengthenPrefix 112 = .ok (.istore 4, 2) := by decide +kernel
theorem dX1_lengthenPrefix_114 : decode cX1_lengthenPrefix 114 = .ok (.iinc 5 1, 3) := by decide +kernel
theorem dX1_lengthenPrefix_117 : decode cX1_lengthenPrefix 117 = .ok (.goto (-89), 3) := by decide +kernel
theorem dX1_lengthenPrefix_120 : decode cX1_lengthenPrefix 120 = .ok (.iload 4, 2) := by decide +kernel
theorem dX1_lengthenPrefix_122 : decode cX1_lengthenPrefix 122 = .ok (.ireturn, 1) := by decide +kernel
theorem dX2_init_0 : decode cX2_init 0 = .ok (.aload_n 0, 1) := by decide +kernel
theorem dX2_init_1 : decode cX2_init 1 = .ok (.invokespecial 3, 3) := by decide +kernel
theorem dX2_init_4 : decode cX2_init 4 = .ok (.aload_n 0, 1) := by decide +kernel
theorem dX2_init_5 : decode cX2_init 5 = .ok (.bipush 50, 2) := by decide +kernel
theorem dX2_init_7 : decode cX2_init 7 = .ok (.newarray .int, 2) := by decide +kernel
theorem dX2_init_9 : decode cX2_init 9 = .ok (.putfield 9, 3) := by decide +kernel
theorem dX2_init_12 : decode cX2_init 12 = .ok (.aload_n 0, 1) := by decide +kernel
theorem dX2_init_13 : decode cX2_init 13 = .ok (.bipush 50, 2) := by decide +kernel
theorem dX2_init_15 : decode cX2_init 15 = .ok (.newarray .long, 2) := by decide +kernel
theorem dX2_init_17 : decode cX2_init 17 = .ok (.putfield 15, 3) := by decide +kernel
theorem dX2_init_20 : decode cX2_init 20 = .ok (.aload_n 0, 1) := by decide +kernel
theorem dX2_init_21 : decode cX2_init 21 = .ok (.bipush 50, 2) := by decide +kernel
theorem dX2_init_23 : decode cX2_init 23 = .ok (.newarray .int, 2) := by decide +kernel
theorem dX2_init_25 : decode cX2_init 25 = .ok (.putfield 19, 3) := by decide +kernel
theorem dX2_init_28 : decode cX2_init 28 = .ok (.aload_n 0, 1) := by decide +kernel
theorem dX2_init_29 : decode cX2_init 29 = .ok (.bipush 50, 2) := by decide +kernel
theorem dX2_init_31 : decode cX2_init 31 = .ok (.newarray .int, 2) := by decide +kernel
theorem dX2_init_33 : decode cX2_init 33 = .ok (.putfield 22, 3) := by decide +kernel
theorem dX2_init_36 : decode cX2_init 36 = .ok (.aload_n 0, 1) := by decide +kernel
theorem dX2_init_37 : decode cX2_init 37 = .ok (.sipush 1200, 3) := by decide +kernel
theorem dX2_init_40 : decode cX2_init 40 = .ok (.newarray .byte, 2) := by decide +kernel
theorem dX2_init_42 : decode cX2_init 42 = .ok (.putfield 25, 3) := by decide +kernel
theorem dX2_init_45 : decode cX2_init 45 = .ok (.return_, 1) := by decide +kernel
theorem dX2_offer_0 : decode cX2_offer 0 = .ok (.aload_n 0, 1) := by decide +kernel
theorem dX2_offer_1 : decode cX2_offer 1 = .ok (.getfield 29, 3) := by decide +kernel
theorem dX2_offer_4 : decode cX2_offer 4 = .ok (.istore 6, 2) := by decide +kernel
theorem dX2_offer_6 : decode cX2_offer 6 = .ok (.iload 6, 2) := by decide +kernel
theorem dX2_offer_8 : decode cX2_offer 8 = .ok (.ifCond .le 23, 3) := by decide +kernel
theorem dX2_offer_11 : decode cX2_offer 11 = .ok (.aload_n 0, 1) := by decide +kernel
theorem dX2_offer_12 : decode cX2_offer 12 = .ok (.getfield 15, 3) := by decide +kernel
theorem dX2_offer_15 : decode cX2_offer 15 = .ok (.iload 6, 2) := by decide +kernel
theorem dX2_offer_17 : decode cX2_offer 17 = .ok (.iconst 1, 1) := by decide +kernel
theorem dX2_offer_18 : decode cX2_offer 18 = .ok (.isub, 1) := by decide +kernel
theorem dX2_offer_19 : decode cX2_offer 19 = .ok (.laload, 1) := by decide +kernel
theorem dX2_offer_20 : decode cX2_offer 20 = .ok (.lload_n 2, 1) := by decide +kernel
theorem dX2_offer_21 : decode cX2_offer 21 = .ok (.lcmp, 1) := by decide +kernel
theorem dX2_offer_22 : decode cX2_offer 22 = .ok (.ifCond .ge 9, 3) := by decide +kernel
theorem dX2_offer_25 : decode cX2_offer 25 = .ok (.iinc 6 (-1), 3) := by decide +kernel
theorem dX2_offer_28 : decode cX2_offer 28 = .ok (.goto (-22), 3) := by decide +kernel
theorem dX2_offer_31 : decode cX2_offer 31 = .ok (.iload 6, 2) := by decide +kernel
theorem dX2_offer_33 : decode cX2_offer 33 = .ok (.iload 5, 2) := by decide +kernel
theorem dX2_offer_35 : decode cX2_offer 35 = .ok (.if_icmp .lt 4, 3) := by decide +kernel
theorem dX2_offer_38 : decode cX2_offer 38 = .ok (.return_, 1) := by decide +kernel
theorem dX2_offer_39 : decode cX2_offer 39 = .ok (.aload_n 0, 1) := by decide +kernel
theorem dX2_offer_40 : decode cX2_offer 40 = .ok (.aload_n 0, 1) := by decide +kernel
theorem dX2_offer_41 : decode cX2_offer 41 = .ok (.getfield 29, 3) := by decide +kernel
theorem dX2_offer_44 : decode cX2_offer 44 = .ok (.iconst 1, 1) := by decide +kernel
theorem dX2_offer_45 : decode cX2_offer 45 = .ok (.iadd, 1) := by decide +kernel
theorem dX2_offer_46 : decode cX2_offer 46 = .ok (.iload 5, 2) := by decide +kernel
theorem dX2_offer_48 : decode cX2_offer 48 = .ok (.invokestatic 33, 3) := by decide +kernel
theorem dX2_offer_51 : decode cX2_offer 51 = .ok (.putfield 29, 3) := by decide +kernel
theorem dX2_offer_54 : decode cX2_offer 54 = .ok (.aload_n 0, 1) := by decide +kernel
theorem dX2_offer_55 : decode cX2_offer 55 = .ok (.getfield 29, 3) := by decide +kernel
theorem dX2_offer_58 : decode cX2_offer 58 = .ok (.iconst 1, 1) := by decide +kernel
theorem dX2_offer_59 : decode cX2_offer 59 = .ok (.isub, 1) := by decide +kernel
theorem dX2_offer_60 : decode cX2_offer 60 = .ok (.istore 7, 2) := by decide +kernel
theorem dX2_offer_62 : decode cX2_offer 62 = .ok (.iload 7, 2) := by decide +kernel
theorem dX2_offer_64 : decode cX2_offer 64 = .ok (.iload 6, 2) := by decide +kernel
theorem dX2_offer_66 : decode cX2_offer 66 = .ok (.if_icmp .le 57, 3) := by decide +kernel
theorem dX2_offer_69 : decode cX2_offer 69 = .ok (.aload_n 0, 1) := by decide +kernel
theorem dX2_offer_70 : decode cX2_offer 70 = .ok (.getfield 9, 3) := by decide +kernel
theorem dX2_offer_73 : decode cX2_offer 73 = .ok (.iload 7, 2) := by decide +kernel
theorem dX2_offer_75 : decode cX2_offer 75 = .ok (.aload_n 0, 1) := by decide +kernel
theorem dX2_offer_76 : decode cX2_offer 76 = .ok (.getfield 9, 3) := by decide +kernel
theorem dX2_offer_79 : decode cX2_offer 79 = .ok (.iload 7, 2) := by decide +kernel
theorem dX2_offer_81 : decode cX2_offer 81 = .ok (.iconst 1, 1) := by decide +kernel
theorem dX2_offer_82 : decode cX2_offer 82 = .ok (.isub, 1) := by decide +kernel
theorem dX2_offer_83 : decode cX2_offer 83 = .ok (.iaload, 1) := by decide +kernel
theorem dX2_offer_84 : decode cX2_offer 84 = .ok (.iastore, 1) := by decide +kernel
theorem dX2_offer_85 : decode cX2_offer 85 = .ok (.aload_n 0, 1) := by decide +kernel
theorem dX2_offer_86 : decode cX2_offer 86 = .ok (.getfield 15, 3) := by decide +kernel
theorem dX2_offer_89 : decode cX2_offer 89 = .ok (.iload 7, 2) := by decide +kernel
theorem dX2_offer_91 : decode cX2_offer 91 = .ok (.aload_n 0, 1) := by decide +kernel
theorem dX2_offer_92 : decode cX2_offer 92 = .ok (.getfield 15, 3) := by decide +kernel
theorem dX2_offer_95 : decode cX2_offer 95 = .ok (.iload 7, 2) := by decide +kernel
theorem dX2_offer_97 : decode cX2_offer 97 = .ok (.iconst 1, 1) := by decide +kernel
theorem dX2_offer_98 : decode cX2_offer 98 = .ok (.isub, 1) := by decide +kernel
theorem dX2_offer_99 : decode cX2_offer 99 = .ok (.laload, 1) := by decide +kernel
theorem dX2_offer_100 : decode cX2_offer 100 = .ok (.lastore, 1) := by decide +kernel
theorem dX2_offer_101 : decode cX2_offer 101 = .ok (.aload_n 0, 1) := by decide +kernel
theorem dX2_offer_102 : decode cX2_offer 102 = .ok (.getfield 19, 3) := by decide +kernel
theorem dX2_offer_105 : decode cX2_offer 105 = .ok (.iload 7, 2) := by decide +kernel
theorem dX2_offer_107 : decode cX2_offer 107 = .ok (.aload_n 0, 1) := by decide +kernel
theorem dX2_offer_108 : decode cX2_offer 108 = .ok (.getfield 19, 3) := by decide +kernel
theorem dX2_offer_111 : decode cX2_offer 111 = .ok (.iload 7, 2) := by decide +kernel
theorem dX2_offer_113 : decode cX2_offer 113 = .ok (.iconst 1, 1) := by decide +kernel
theorem dX2_offer_114 : decode cX2_offer 114 = .ok (.isub, 1) := by decide +kernel
theorem dX2_offer_115 : decode cX2_offer 115 = .ok (.iaload, 1) := by decide +kernel
theorem dX2_offer_116 : decode cX2_offer 116 = .ok (.iastore, 1) := by decide +kernel
theorem dX2_offer_117 : decode cX2_offer 117 = .ok (.iinc 7 (-1), 3) := by decide +kernel
theorem dX2_offer_120 : decode cX2_offer 120 = .ok (.goto (-58), 3) := by decide +kernel
theorem dX2_offer_123 : decode cX2_offer 123 = .ok (.aload_n 0, 1) := by decide +kernel
theorem dX2_offer_124 : decode cX2_offer 124 = .ok (.getfield 9, 3) := by decide +kernel
theorem dX2_offer_127 : decode cX2_offer 127 = .ok (.iload 6, 2) := by decide +kernel
theorem dX2_offer_129 : decode cX2_offer 129 = .ok (.iload_n 1, 1) := by decide +kernel
theorem dX2_offer_130 : decode cX2_offer 130 = .ok (.iastore, 1) := by decide +kernel
theorem dX2_offer_131 : decode cX2_offer 131 = .ok (.aload_n 0, 1) := by decide +kernel
theorem dX2_offer_132 : decode cX2_offer 132 = .ok (.getfield 15, 3) := by decide +kernel
theorem dX2_offer_135 : decode cX2_offer 135 = .ok (.iload 6, 2) := by decide +kernel
theorem dX2_offer_137 : decode cX2_offer 137 = .ok (.lload_n 2, 1) := by decide +kernel
theorem dX2_offer_138 : decode cX2_offer 138 = .ok (.lastore, 1) := by decide +kernel
theorem dX2_offer_139 : decode cX2_offer 139 = .ok (.aload_n 0, 1) := by decide +kernel
theorem dX2_offer_140 : decode cX2_offer 140 = .ok (.getfield 19, 3) := by decide +kernel
theorem dX2_offer_143 : decode cX2_offer 143 = .ok (.iload 6, 2) := by decide +kernel
theorem dX2_offer_145 : decode cX2_offer 145 = .ok (.iload 4, 2) := by decide +kernel
theorem dX2_offer_147 : decode cX2_offer 147 = .ok (.iastore, 1) := by decide +kernel
theorem dX2_offer_148 : decode cX2_offer 148 = .ok (.return_, 1) := by decide +kernel
set_option maxRecDepth 20000 in
theorem ggX2_keepLetters_X0_lengthOf : GoodIn wsX2_keepLetters wsX0_lengthOf := goodIn_r _ [15, 16, 23, 24, 25, 26] (by decide +kernel) (by decide +kernel)
set_option maxRecDepth 20000 in
theorem gX2_keepLetters_X0_lengthOf : GoodIn wsX2_keepLetters (wsV RX2 39 RX0 yX0_lengthOf wsX0_lengthOf) := goodIn_app (goodIn_of _ (by decide +kernel)) ggX2_keepLetters_X0_lengthOf
theorem dX2_keepLetters_0 : decode cX2_keepLetters 0 = .ok (.iconst 0, 1) := by decide +kernel
theorem dX2_keepLetters_1 : decode cX2_keepLetters 1 = .ok (.istore_n 2, 1) := by decide +kernel
theorem dX2_keepLetters_2 : decode cX2_keepLetters 2 = .ok (.iload_n 2, 1) := by decide +kernel
theorem dX2_keepLetters_3 : decode cX2_keepLetters 3 = .ok (.aload_n 0, 1) := by decide +kernel
theorem dX2_keepLetters_4 : decode cX2_keepLetters 4 = .ok (.getfield 29, 3) := by decide +kernel
theorem dX2_keepLetters_7 : decode cX2_keepLetters 7 = .ok (.if_icmp .ge 54, 3) := by decide +kernel
theorem dX2_keepLetters_10 : decode cX2_keepLetters 10 = .ok (.aload_n 0, 1) := by decide +kernel
theorem dX2_keepLetters_11 : decode cX2_keepLetters 11 = .ok (.getfield 9, 3) := by decide +kernel
theorem dX2_keepLetters_14 : decode cX2_keepLetters 14 = .ok (.iload_n 2, 1) := by decide +kernel
theorem dX2_keepLetters_15 : decode cX2_keepLetters 15 = .ok (.iaload, 1) := by decide +kernel
theorem dX2_keepLetters_16 : decode cX2_keepLetters 16 = .ok (.istore_n 3, 1) := by decide +kernel
theorem dX2_keepLetters_17 : decode cX2_keepLetters 17 = .ok (.aload_n 0, 1) := by decide +kernel
theorem dX2_keepLetters_18 : decode cX2_keepLetters 18 = .ok (.getfield 22, 3) := by decide +kernel
theorem dX2_keepLetters_21 : decode cX2_keepLetters 21 = .ok (.iload_n 2, 1) := by decide +kernel
theorem dX2_keepLetters_22 : decode cX2_keepLetters 22 = .ok (.aload_n 1, 1) := by decide +kernel
theorem dX2_keepLetters_23 : decode cX2_keepLetters 23 = .ok (.iload_n 3, 1) := by decide +kernel
theorem dX2_keepLetters_24 : decode cX2_keepLetters 24 = .ok (.invokevirtual 39, 3) := by decide +kernel
theorem dX2_keepLetters_27 : decode cX2_keepLetters 27 = .ok (.iastore, 1) := by decide +kernel
theorem dX2_keepLetters_28 : decode cX2_keepLetters 28 = .ok (.aload_n 1, 1) := by decide +kernel
theorem dX2_keepLetters_29 : decode cX2_keepLetters 29 = .ok (.getfield 45, 3) := by decide +kernel
theorem dX2_keepLetters_32 : decode cX2_keepLetters 32 = .ok (.aload_n 1, 1) := by decide +kernel
theorem dX2_keepLetters_33 : decode cX2_keepLetters 33 = .ok (.getfield 46, 3) := by decide +kernel
theorem dX2_keepLetters_36 : decode cX2_keepLetters 36 = .ok (.iload_n 3, 1) := by decide +kernel
theorem dX2_keepLetters_37 : decode cX2_keepLetters 37 = .ok (.iaload, 1) := by decide +kernel
theorem dX2_keepLetters_38 : decode cX2_keepLetters 38 = .ok (.aload_n 0, 1) := by decide +kernel
theorem dX2_keepLetters_39 : decode cX2_keepLetters 39 = .ok (.getfield 25, 3) := by decide +kernel
theorem dX2_keepLetters_42 : decode cX2_keepLetters 42 = .ok (.iload_n 2, 1) := by decide +kernel
theorem dX2_keepLetters_43 : decode cX2_keepLetters 43 = .ok (.bipush 24, 2) := by decide +kernel
theorem dX2_keepLetters_45 : decode cX2_keepLetters 45 = .ok (.imul, 1) := by decide +kernel
theorem dX2_keepLetters_46 : decode cX2_keepLetters 46 = .ok (.aload_n 0, 1) := by decide +kernel
theorem dX2_keepLetters_47 : decode cX2_keepLetters 47 = .ok (.getfield 22, 3) := by decide +kernel
theorem dX2_keepLetters_50 : decode cX2_keepLetters 50 = .ok (.iload_n 2, 1) := by decide +kernel
theorem dX2_keepLetters_51 : decode cX2_keepLetters 51 = .ok (.iaload, 1) := by decide +kernel
theorem dX2_keepLetters_52 : decode cX2_keepLetters 52 = .ok (.invokestatic 49, 3) := by decide +kernel
theorem dX2_keepLetters_55 : decode cX2_keepLetters 55 = .ok (.iinc 2 1, 3) := by decide +kernel
theorem dX2_keepLetters_58 : decode cX2_keepLetters 58 = .ok (.goto (-56), 3) := by decide +kernel
theorem dX2_keepLetters_61 : decode cX2_keepLetters 61 = .ok (.return_, 1) := by decide +kernel
theorem dX2_letterOf_0 : decode cX2_letterOf 0 = .ok (.iload_n 1, 1) := by decide +kernel
theorem dX2_letterOf_1 : decode cX2_letterOf 1 = .ok (.ifCond .lt 25, 3) := by decide +kernel
theorem dX2_letterOf_4 : decode cX2_letterOf 4 = .ok (.iload_n 1, 1) := by decide +kernel
theorem dX2_letterOf_5 : decode cX2_letterOf 5 = .ok (.aload_n 0, 1) := by decide +kernel
theorem dX2_letterOf_6 : decode cX2_letterOf 6 = .ok (.getfield 29, 3) := by decide +kernel
theorem dX2_letterOf_9 : decode cX2_letterOf 9 = .ok (.if_icmp .ge 17, 3) := by decide +kernel
theorem dX2_letterOf_12 : decode cX2_letterOf 12 = .ok (.iload_n 2, 1) := by decide +kernel
theorem dX2_letterOf_13 : decode cX2_letterOf 13 = .ok (.ifCond .lt 13, 3) := by decide +kernel
theorem dX2_letterOf_16 : decode cX2_letterOf 16 = .ok (.iload_n 2, 1) := by decide +kernel
theorem dX2_letterOf_17 : decode cX2_letterOf 17 = .ok (.aload_n 0, 1) := by decide +kernel
theorem dX2_letterOf_18 : decode cX2_letterOf 18 = .ok (.getfield 22, 3) := by decide +kernel
theorem dX2_letterOf_21 : decode cX2_letterOf 21 = .ok (.iload_n 1, 1) := by decide +kernel
theorem dX2_letterOf_22 : decode cX2_letterOf 22 = .ok (.iaload, 1) := by decide +kernel
theorem dX2_letterOf_23 : decode cX2_letterOf 23 = .ok (.if_icmp .lt 5, 3) := by decide +kernel
theorem dX2_letterOf_26 : decode cX2_letterOf 26 = .ok (.iconst (-1), 1) := by decide +kernel
theorem dX2_letterOf_27 : decode cX2_letterOf 27 = .ok (.ireturn, 1) := by decide +kernel
theorem dX2_letterOf_28 : decode cX2_letterOf 28 = .ok (.aload_n 0, 1) := by decide +kernel
theorem dX2_letterOf_29 : decode cX2_letterOf 29 = .ok (.getfield 25, 3) := by decide +kernel
theorem dX2_letterOf_32 : decode cX2_letterOf 32 = .ok (.iload_n 1, 1) := by decide +kernel
theorem dX2_letterOf_33 : decode cX2_letterOf 33 = .ok (.bipush 24, 2) := by decide +kernel
theorem dX2_letterOf_35 : decode cX2_letterOf 35 = .ok (.imul, 1) := by decide +kernel
theorem dX2_letterOf_36 : decode cX2_letterOf 36 = .ok (.iload_n 2, 1) := by decide +kernel
theorem dX2_letterOf_37 : decode cX2_letterOf 37 = .ok (.iadd, 1) := by decide +kernel
theorem dX2_letterOf_38 : decode cX2_letterOf 38 = .ok (.baload, 1) := by decide +kernel
theorem dX2_letterOf_39 : decode cX2_letterOf 39 = .ok (.ireturn, 1) := by decide +kernel
