theorem dX5_knotOf_75 : decode cX5_knotOf 75 = .ok (.iload_n 3, 1) := by decide +kernel
theorem dX5_knotOf_76 : decode cX5_knotOf 76 = .ok (.bipush 8, 2) := by decide +kernel
theorem dX5_knotOf_78 : decode cX5_knotOf 78 = .ok (.iadd, 1) := by decide +kernel
theorem dX5_knotOf_79 : decode cX5_knotOf 79 = .ok (.iaload, 1) := by decide +kernel
theorem dX5_knotOf_80 : decode cX5_knotOf 80 = .ok (.aload_n 0, 1) := by decide +kernel
theorem dX5_knotOf_81 : decode cX5_knotOf 81 = .ok (.getfield 13, 3) := by decide +kernel
theorem dX5_knotOf_84 : decode cX5_knotOf 84 = .ok (.iload_n 3, 1) := by decide +kernel
theorem dX5_knotOf_85 : decode cX5_knotOf 85 = .ok (.iaload, 1) := by decide +kernel
theorem dX5_knotOf_86 : decode cX5_knotOf 86 = .ok (.invokestatic 80, 3) := by decide +kernel
theorem dX5_knotOf_89 : decode cX5_knotOf 89 = .ok (.istore 7, 2) := by decide +kernel
theorem dX5_knotOf_91 : decode cX5_knotOf 91 = .ok (.iload 4, 2) := by decide +kernel
theorem dX5_knotOf_93 : decode cX5_knotOf 93 = .ok (.iconst 4, 1) := by decide +kernel
theorem dX5_knotOf_94 : decode cX5_knotOf 94 = .ok (.if_icmp .eq 21, 3) := by decide +kernel
theorem dX5_knotOf_97 : decode cX5_knotOf 97 = .ok (.iload 5, 2) := by decide +kernel
theorem dX5_knotOf_99 : decode cX5_knotOf 99 = .ok (.iconst 4, 1) := by decide +kernel
theorem dX5_knotOf_100 : decode cX5_knotOf 100 = .ok (.if_icmp .eq 15, 3) := by decide +kernel
theorem dX5_knotOf_103 : decode cX5_knotOf 103 = .ok (.iload 6, 2) := by decide +kernel
theorem dX5_knotOf_105 : decode cX5_knotOf 105 = .ok (.iconst 4, 1) := by decide +kernel
theorem dX5_knotOf_106 : decode cX5_knotOf 106 = .ok (.if_icmp .eq 9, 3) := by decide +kernel
theorem dX5_knotOf_109 : decode cX5_knotOf 109 = .ok (.iload 7, 2) := by decide +kernel
theorem dX5_knotOf_111 : decode cX5_knotOf 111 = .ok (.iconst 4, 1) := by decide +kernel
theorem dX5_knotOf_112 : decode cX5_knotOf 112 = .ok (.if_icmp .ne 7, 3) := by decide +kernel
theorem dX5_knotOf_115 : decode cX5_knotOf 115 = .ok (.iconst 2, 1) := by decide +kernel
theorem dX5_knotOf_116 : decode cX5_knotOf 116 = .ok (.goto 17, 3) := by decide +kernel
theorem dX5_knotOf_119 : decode cX5_knotOf 119 = .ok (.iload 4, 2) := by decide +kernel
theorem dX5_knotOf_121 : decode cX5_knotOf 121 = .ok (.iload 5, 2) := by decide +kernel
theorem dX5_knotOf_123 : decode cX5_knotOf 123 = .ok (.iadd, 1) := by decide +kernel
theorem dX5_knotOf_124 : decode cX5_knotOf 124 = .ok (.iload 6, 2) := by decide +kernel
theorem dX5_knotOf_126 : decode cX5_knotOf 126 = .ok (.iadd, 1) := by decide +kernel
theorem dX5_knotOf_127 : decode cX5_knotOf 127 = .ok (.iload 7, 2) := by decide +kernel
theorem dX5_knotOf_129 : decode cX5_knotOf 129 = .ok (.iadd, 1) := by decide +kernel
theorem dX5_knotOf_130 : decode cX5_knotOf 130 = .ok (.bipush 8, 2) := by decide +kernel
theorem dX5_knotOf_132 : decode cX5_knotOf 132 = .ok (.idiv, 1) := by decide +kernel
theorem dX5_knotOf_133 : decode cX5_knotOf 133 = .ok (.ireturn, 1) := by decide +kernel
set_option maxRecDepth 20000 in
theorem ggX5_knot_X5_in : GoodIn wsX5_knot wsX5_in := goodIn_r _ [4] (by decide +kernel) (by decide +kernel)
set_option maxRecDepth 20000 in
theorem gX5_knot_X5_in : GoodIn wsX5_knot (va_wsS RX5 54 yX5_in wsX5_in) := goodIn_app (goodIn_of _ (by decide +kernel)) ggX5_knot_X5_in
set_option maxRecDepth 20000 in
theorem ggX5_knot_X5_knotOf : GoodIn wsX5_knot wsX5_knotOf := goodIn_r _ [8, 9, 10, 11, 3, 12, 13, 14, 15, 16, 17, 18, 19, 20, 21, 22, 23, 24, 25, 26, 27, 28] (by decide +kernel) (by decide +kernel)
set_option maxRecDepth 20000 in
theorem gX5_knot_X5_knotOf : GoodIn wsX5_knot (wsV RX5 83 RX5 yX5_knotOf wsX5_knotOf) := goodIn_app (goodIn_of _ (by decide +kernel)) ggX5_knot_X5_knotOf
theorem dX5_knot_0 : decode cX5_knot 0 = .ok (.iload_n 1, 1) := by decide +kernel
theorem dX5_knot_1 : decode cX5_knot 1 = .ok (.iconst 0, 1) := by decide +kernel
theorem dX5_knot_2 : decode cX5_knot 2 = .ok (.bipush 6, 2) := by decide +kernel
theorem dX5_knot_4 : decode cX5_knot 4 = .ok (.invokestatic 54, 3) := by decide +kernel
theorem dX5_knot_7 : decode cX5_knot 7 = .ok (.ifCond .eq 22, 3) := by decide +kernel
theorem dX5_knot_10 : decode cX5_knot 10 = .ok (.iload_n 2, 1) := by decide +kernel
theorem dX5_knot_11 : decode cX5_knot 11 = .ok (.iconst 0, 1) := by decide +kernel
theorem dX5_knot_12 : decode cX5_knot 12 = .ok (.bipush 6, 2) := by decide +kernel
theorem dX5_knot_14 : decode cX5_knot 14 = .ok (.invokestatic 54, 3) := by decide +kernel
theorem dX5_knot_17 : decode cX5_knot 17 = .ok (.ifCond .eq 12, 3) := by decide +kernel
theorem dX5_knot_20 : decode cX5_knot 20 = .ok (.aload_n 0, 1) := by decide +kernel
theorem dX5_knot_21 : decode cX5_knot 21 = .ok (.iload_n 1, 1) := by decide +kernel
theorem dX5_knot_22 : decode cX5_knot 22 = .ok (.iload_n 2, 1) := by decide +kernel
theorem dX5_knot_23 : decode cX5_knot 23 = .ok (.invokevirtual 83, 3) := by decide +kernel
theorem dX5_knot_26 : decode cX5_knot 26 = .ok (.goto 5, 3) := by decide +kernel
theorem dX5_knot_29 : decode cX5_knot 29 = .ok (.bipush (-2), 2) := by decide +kernel
theorem dX5_knot_31 : decode cX5_knot 31 = .ok (.ireturn, 1) := by decide +kernel
set_option maxRecDepth 20000 in
theorem ggX5_set_X5_in : GoodIn wsX5_set wsX5_in := goodIn_r _ [8] (by decide +kernel) (by decide +kernel)
set_option maxRecDepth 20000 in
theorem gX5_set_X5_in : GoodIn wsX5_set (va_wsS RX5 54 yX5_in wsX5_in) := goodIn_app (goodIn_of _ (by decide +kernel)) ggX5_set_X5_in
theorem dX5_set_0 : decode cX5_set 0 = .ok (.iload_n 1, 1) := by decide +kernel
theorem dX5_set_1 : decode cX5_set 1 = .ok (.ifCond .ne 25, 3) := by decide +kernel
theorem dX5_set_4 : decode cX5_set 4 = .ok (.iload_n 2, 1) := by decide +kernel
theorem dX5_set_5 : decode cX5_set 5 = .ok (.iconst 4, 1) := by decide +kernel
theorem dX5_set_6 : decode cX5_set 6 = .ok (.bipush 40, 2) := by decide +kernel
theorem dX5_set_8 : decode cX5_set 8 = .ok (.invokestatic 54, 3) := by decide +kernel
theorem dX5_set_11 : decode cX5_set 11 = .ok (.ifCond .eq 15, 3) := by decide +kernel
theorem dX5_set_14 : decode cX5_set 14 = .ok (.aload_n 0, 1) := by decide +kernel
theorem dX5_set_15 : decode cX5_set 15 = .ok (.getfield 20, 3) := by decide +kernel
theorem dX5_set_18 : decode cX5_set 18 = .ok (.istore_n 3, 1) := by decide +kernel
theorem dX5_set_19 : decode cX5_set 19 = .ok (.aload_n 0, 1) := by decide +kernel
theorem dX5_set_20 : decode cX5_set 20 = .ok (.iload_n 2, 1) := by decide +kernel
theorem dX5_set_21 : decode cX5_set 21 = .ok (.putfield 20, 3) := by decide +kernel
theorem dX5_set_24 : decode cX5_set 24 = .ok (.iload_n 3, 1) := by decide +kernel
theorem dX5_set_25 : decode cX5_set 25 = .ok (.ireturn, 1) := by decide +kernel
theorem dX5_set_26 : decode cX5_set 26 = .ok (.iload_n 1, 1) := by decide +kernel
theorem dX5_set_27 : decode cX5_set 27 = .ok (.iconst 1, 1) := by decide +kernel
theorem dX5_set_28 : decode cX5_set 28 = .ok (.if_icmp .ne 26, 3) := by decide +kernel
theorem dX5_set_31 : decode cX5_set 31 = .ok (.iload_n 2, 1) := by decide +kernel
theorem dX5_set_32 : decode cX5_set 32 = .ok (.bipush 10, 2) := by decide +kernel
theorem dX5_set_34 : decode cX5_set 34 = .ok (.bipush 100, 2) := by decide +kernel
theorem dX5_set_36 : decode cX5_set 36 = .ok (.invokestatic 54, 3) := by decide +kernel
theorem dX5_set_39 : decode cX5_set 39 = .ok (.ifCond .eq 15, 3) := by decide +kernel
theorem dX5_set_42 : decode cX5_set 42 = .ok (.aload_n 0, 1) := by decide +kernel
theorem dX5_set_43 : decode cX5_set 43 = .ok (.getfield 24, 3) := by decide +kernel
theorem dX5_set_46 : decode cX5_set 46 = .ok (.istore_n 3, 1) := by decide +kernel
theorem dX5_set_47 : decode cX5_set 47 = .ok (.aload_n 0, 1) := by decide +kernel
theorem dX5_set_48 : decode cX5_set 48 = .ok (.iload_n 2, 1) := by decide +kernel
theorem dX5_set_49 : decode cX5_set 49 = .ok (.putfield 24, 3) := by decide +kernel
theorem dX5_set_52 : decode cX5_set 52 = .ok (.iload_n 3, 1) := by decide +kernel
theorem dX5_set_53 : decode cX5_set 53 = .ok (.ireturn, 1) := by decide +kernel
theorem dX5_set_54 : decode cX5_set 54 = .ok (.iload_n 1, 1) := by decide +kernel
theorem dX5_set_55 : decode cX5_set 55 = .ok (.iconst 2, 1) := by decide +kernel
theorem dX5_set_56 : decode cX5_set 56 = .ok (.if_icmp .ne 25, 3) := by decide +kernel
theorem dX5_set_59 : decode cX5_set 59 = .ok (.iload_n 2, 1) := by decide +kernel
theorem dX5_set_60 : decode cX5_set 60 = .ok (.iconst 1, 1) := by decide +kernel
theorem dX5_set_61 : decode cX5_set 61 = .ok (.bipush 10, 2) := by decide +kernel
theorem dX5_set_63 : decode cX5_set 63 = .ok (.invokestatic 54, 3) := by decide +kernel
theorem dX5_set_66 : decode cX5_set 66 = .ok (.ifCond .eq 15, 3) := by decide +kernel
theorem dX5_set_69 : decode cX5_set 69 = .ok (.aload_n 0, 1) := by decide +kernel
theorem dX5_set_70 : decode cX5_set 70 = .ok (.getfield 27, 3) := by decide +kernel
theorem dX5_set_73 : decode cX5_set 73 = .ok (.istore_n 3, 1) := by decide +kernel
theorem dX5_set_74 : decode cX5_set 74 = .ok (.aload_n 0, 1) := by decide +kernel
theorem dX5_set_75 : decode cX5_set 75 = .ok (.iload_n 2, 1) := by decide +kernel
theorem dX5_set_76 : decode cX5_set 76 = .ok (.putfield 27, 3) := by decide +kernel
theorem dX5_set_79 : decode cX5_set 79 = .ok (.iload_n 3, 1) := by decide +kernel
theorem dX5_set_80 : decode cX5_set 80 = .ok (.ireturn, 1) := by decide +kernel
theorem dX5_set_81 : decode cX5_set 81 = .ok (.iload_n 1, 1) := by decide +kernel
theorem dX5_set_82 : decode cX5_set 82 = .ok (.iconst 3, 1) := by decide +kernel
theorem dX5_set_83 : decode cX5_set 83 = .ok (.if_icmp .ne 25, 3) := by decide +kernel
theorem dX5_set_86 : decode cX5_set 86 = .ok (.iload_n 2, 1) := by decide +kernel
theorem dX5_set_87 : decode cX5_set 87 = .ok (.iconst 1, 1) := by decide +kernel
theorem dX5_set_88 : decode cX5_set 88 = .ok (.bipush 40, 2) := by decide +kernel
theorem dX5_set_90 : decode cX5_set 90 = .ok (.invokestatic 54, 3) := by decide +kernel
theorem dX5_set_93 : decode cX5_set 93 = .ok (.ifCond .eq 15, 3) := by decide +kernel
theorem dX5_set_96 : decode cX5_set 96 = .ok (.aload_n 0, 1) := by decide +kernel
theorem dX5_set_97 : decode cX5_set 97 = .ok (.getfield 30, 3) := by decide +kernel
theorem dX5_set_100 : decode cX5_set 100 = .ok (.istore_n 3, 1) := by decide +kernel
theorem dX5_set_101 : decode cX5_set 101 = .ok (.aload_n 0, 1) := by decide +kernel
theorem dX5_set_102 : decode cX5_set 102 = .ok (.iload_n 2, 1) := by decide +kernel
theorem dX5_set_103 : decode cX5_set 103 = .ok (.putfield 30, 3) := by decide +kernel
theorem dX5_set_106 : decode cX5_set 106 = .ok (.iload_n 3, 1) := by decide +kernel
theorem dX5_set_107 : decode cX5_set 107 = .ok (.ireturn, 1) := by decide +kernel
theorem dX5_set_108 : decode cX5_set 108 = .ok (.bipush (-3), 2) := by decide +kernel
theorem dX5_set_110 : decode cX5_set 110 = .ok (.ireturn, 1) := by decide +kernel
set_option maxRecDepth 20000 in
theorem ggX5_wantedOf_X5_less : GoodIn wsX5_wantedOf wsX5_less := goodIn_r _ [8] (by decide +kernel) (by decide +kernel)
set_option maxRecDepth 20000 in
theorem gX5_wantedOf_X5_less : GoodIn wsX5_wantedOf (va_wsS RX5 65 yX5_less wsX5_less) := goodIn_app (goodIn_of _ (by decide +kernel)) ggX5_wantedOf_X5_less
set_option maxRecDepth 20000 in
theorem ggX5_wantedOf_X5_more : GoodIn wsX5_wantedOf wsX5_more := goodIn_r _ [11] (by decide +kernel) (by decide +kernel)
set_option maxRecDepth 20000 in
theorem gX5_wantedOf_X5_more : GoodIn wsX5_wantedOf (va_wsS RX5 86 yX5_more wsX5_more) := goodIn_app (goodIn_of _ (by decide +kernel)) ggX5_wantedOf_X5_more
theorem dX5_wantedOf_0 : decode cX5_wantedOf 0 = .ok (.iload_n 2, 1) := by decide +kernel
theorem dX5_wantedOf_1 : decode cX5_wantedOf 1 = .ok (.ifCond .ne 19, 3) := by decide +kernel
theorem dX5_wantedOf_4 : decode cX5_wantedOf 4 = .ok (.aload_n 0, 1) := by decide +kernel
theorem dX5_wantedOf_5 : decode cX5_wantedOf 5 = .ok (.getfield 7, 3) := by decide +kernel
theorem dX5_wantedOf_8 : decode cX5_wantedOf 8 = .ok (.iload_n 1, 1) := by decide +kernel
theorem dX5_wantedOf_9 : decode cX5_wantedOf 9 = .ok (.iaload, 1) := by decide +kernel
theorem dX5_wantedOf_10 : decode cX5_wantedOf 10 = .ok (.aload_n 0, 1) := by decide +kernel
theorem dX5_wantedOf_11 : decode cX5_wantedOf 11 = .ok (.getfield 24, 3) := by decide +kernel
theorem dX5_wantedOf_14 : decode cX5_wantedOf 14 = .ok (.invokestatic 65, 3) := by decide +kernel
theorem dX5_wantedOf_17 : decode cX5_wantedOf 17 = .ok (.goto 18, 3) := by decide +kernel
theorem dX5_wantedOf_20 : decode cX5_wantedOf 20 = .ok (.iconst 0, 1) := by decide +kernel
theorem dX5_wantedOf_21 : decode cX5_wantedOf 21 = .ok (.aload_n 0, 1) := by decide +kernel
theorem dX5_wantedOf_22 : decode cX5_wantedOf 22 = .ok (.getfield 7, 3) := by decide +kernel
theorem dX5_wantedOf_25 : decode cX5_wantedOf 25 = .ok (.iload_n 1, 1) := by decide +kernel
theorem dX5_wantedOf_26 : decode cX5_wantedOf 26 = .ok (.iaload, 1) := by decide +kernel
theorem dX5_wantedOf_27 : decode cX5_wantedOf 27 = .ok (.aload_n 0, 1) := by decide +kernel
theorem dX5_wantedOf_28 : decode cX5_wantedOf 28 = .ok (.getfield 24, 3) := by decide +kernel
theorem dX5_wantedOf_31 : decode cX5_wantedOf 31 = .ok (.isub, 1) := by decide +kernel
theorem dX5_wantedOf_32 : decode cX5_wantedOf 32 = .ok (.invokestatic 86, 3) := by decide +kernel
theorem dX5_wantedOf_35 : decode cX5_wantedOf 35 = .ok (.istore_n 3, 1) := by decide +kernel
theorem dX5_wantedOf_36 : decode cX5_wantedOf 36 = .ok (.aload_n 0, 1) := by decide +kernel
theorem dX5_wantedOf_37 : decode cX5_wantedOf 37 = .ok (.getfield 20, 3) := by decide +kernel
theorem dX5_wantedOf_40 : decode cX5_wantedOf 40 = .ok (.iload_n 3, 1) := by decide +kernel
theorem dX5_wantedOf_41 : decode cX5_wantedOf 41 = .ok (.imul, 1) := by decide +kernel
theorem dX5_wantedOf_42 : decode cX5_wantedOf 42 = .ok (.bipush 100, 2) := by decide +kernel
theorem dX5_wantedOf_44 : decode cX5_wantedOf 44 = .ok (.idiv, 1) := by decide +kernel
theorem dX5_wantedOf_45 : decode cX5_wantedOf 45 = .ok (.istore 4, 2) := by decide +kernel
theorem dX5_wantedOf_47 : decode cX5_wantedOf 47 = .ok (.iload 4, 2) := by decide +kernel
theorem dX5_wantedOf_49 : decode cX5_wantedOf 49 = .ok (.aload_n 0, 1) := by decide +kernel
theorem dX5_wantedOf_50 : decode cX5_wantedOf 50 = .ok (.getfield 27, 3) := by decide +kernel
theorem dX5_wantedOf_53 : decode cX5_wantedOf 53 = .ok (.if_icmp .ge 7, 3) := by decide +kernel
theorem dX5_wantedOf_56 : decode cX5_wantedOf 56 = .ok (.iconst 0, 1) := by decide +kernel
theorem dX5_wantedOf_57 : decode cX5_wantedOf 57 = .ok (.goto 5, 3) := by decide +kernel
theorem dX5_wantedOf_60 : decode cX5_wantedOf 60 = .ok (.iload 4, 2) := by decide +kernel
theorem dX5_wantedOf_62 : decode cX5_wantedOf 62 = .ok (.ireturn, 1) := by decide +kernel
theorem dX5_wayOf_0 : decode cX5_wayOf 0 = .ok (.aload_n 0, 1) := by decide +kernel
theorem dX5_wayOf_1 : decode cX5_wayOf 1 = .ok (.getfield 13, 3) := by decide +kernel
theorem dX5_wayOf_4 : decode cX5_wayOf 4 = .ok (.iload_n 1, 1) := by decide +kernel
theorem dX5_wayOf_5 : decode cX5_wayOf 5 = .ok (.iaload, 1) := by decide +kernel
theorem dX5_wayOf_6 : decode cX5_wayOf 6 = .ok (.iconst 4, 1) := by decide +kernel
theorem dX5_wayOf_7 : decode cX5_wayOf 7 = .ok (.iload_n 2, 1) := by decide +kernel
theorem dX5_wayOf_8 : decode cX5_wayOf 8 = .ok (.imul, 1) := by decide +kernel
theorem dX5_wayOf_9 : decode cX5_wayOf 9 = .ok (.iadd, 1) := by decide +kernel
theorem dX5_wayOf_10 : decode cX5_wayOf 10 = .ok (.bipush 8, 2) := by decide +kernel
theorem dX5_wayOf_12 : decode cX5_wayOf 12 = .ok (.irem, 1) := by decide +kernel
theorem dX5_wayOf_13 : decode cX5_wayOf 13 = .ok (.iconst 2, 1) := by decide +kernel
theorem dX5_wayOf_14 : decode cX5_wayOf 14 = .ok (.idiv, 1) := by decide +kernel
theorem dX5_wayOf_15 : decode cX5_wayOf 15 = .ok (.ireturn, 1) := by decide +kernel
set_option maxRecDepth 20000 in
theorem ggX5_tied_X5_wayOf : GoodIn wsX5_tied wsX5_wayOf := goodIn_r _ [6, 7, 14, 15, 16, 17, 18, 19, 20, 21, 22, 23, 24, 25, 26, 27, 28, 29] (by decide +kernel) (by decide +kernel)
set_option maxRecDepth 20000 in
theorem gX5_tied_X5_wayOf : GoodIn wsX5_tied (wsV RX5 89 RX5 yX5_wayOf wsX5_wayOf) := goodIn_app (goodIn_of _ (by decide +kernel)) ggX5_tied_X5_wayOf
set_option maxRecDepth 20000 in
theorem ggX5_tied_X5_isCell : GoodIn wsX5_tied wsX5_isCell := goodIn_r _ [10, 11, 12, 5, 13] (by decide +kernel) (by decide +kernel)
set_option maxRecDepth 20000 in
theorem gX5_tied_X5_isCell : GoodIn wsX5_tied (va_wsS RX5 58 yX5_isCell wsX5_isCell) := goodIn_app (goodIn_of _ (by decide +kernel)) ggX5_tied_X5_isCell
theorem dX5_tied_0 : decode cX5_tied 0 = .ok (.aload_n 0, 1) := by decide +kernel
theorem dX5_tied_1 : decode cX5_tied 1 = .ok (.iload_n 1, 1) := by decide +kernel
theorem dX5_tied_2 : decode cX5_tied 2 = .ok (.iload_n 2, 1) := by decide +kernel
theorem dX5_tied_3 : decode cX5_tied 3 = .ok (.invokevirtual 89, 3) := by decide +kernel
theorem dX5_tied_6 : decode cX5_tied 6 = .ok (.istore 4, 2) := by decide +kernel
theorem dX5_tied_8 : decode cX5_tied 8 = .ok (.iload_n 1, 1) := by decide +kernel
theorem dX5_tied_9 : decode cX5_tied 9 = .ok (.bipush 8, 2) := by decide +kernel
theorem dX5_tied_11 : decode cX5_tied 11 = .ok (.irem, 1) := by decide +kernel
theorem dX5_tied_12 : decode cX5_tied 12 = .ok (.iload_n 3, 1) := by decide +kernel
theorem dX5_tied_13 : decode cX5_tied 13 = .ok (.iload 4, 2) := by decide +kernel
theorem dX5_tied_15 : decode cX5_tied 15 = .ok (.ifCond .eq 9, 3) := by decide +kernel
theorem dX5_tied_18 : decode cX5_tied 18 = .ok (.iload 4, 2) := by decide +kernel
theorem dX5_tied_20 : decode cX5_tied 20 = .ok (.iconst 1, 1) := by decide +kernel
theorem dX5_tied_21 : decode cX5_tied 21 = .ok (.if_icmp .ne 7, 3) := by decide +kernel
theorem dX5_tied_24 : decode cX5_tied 24 = .ok (.iconst 1, 1) := by decide +kernel
theorem dX5_tied_25 : decode cX5_tied 25 = .ok (.goto 14, 3) := by decide +kernel
theorem dX5_tied_28 : decode cX5_tied 28 = .ok (.iload 4, 2) := by decide +kernel
theorem dX5_tied_30 : decode cX5_tied 30 = .ok (.iconst 2, 1) := by decide +kernel
theorem dX5_tied_31 : decode cX5_tied 31 = .ok (.if_icmp .ne 7, 3) := by decide +kernel
theorem dX5_tied_34 : decode cX5_tied 34 = .ok (.iconst 0, 1) := by decide +kernel
theorem dX5_tied_35 : decode cX5_tied 35 = .ok (.goto 4, 3) := by decide +kernel
theorem dX5_tied_38 : decode cX5_tied 38 = .ok (.iconst (-1), 1) := by decide +kernel
theorem dX5_tied_39 : decode cX5_tied 39 = .ok (.imul, 1) := by decide +kernel
theorem dX5_tied_40 : decode cX5_tied 40 = .ok (.iadd, 1) := by decide +kernel
theorem dX5_tied_41 : decode cX5_tied 41 = .ok (.istore 5, 2) := by decide +kernel
theorem dX5_tied_43 : decode cX5_tied 43 = .ok (.iload_n 1, 1) := by decide +kernel
theorem dX5_tied_44 : decode cX5_tied 44 = .ok (.bipush 8, 2) := by decide +kernel
theorem dX5_tied_46 : decode cX5_tied 46 = .ok (.idiv, 1) := by decide +kernel
theorem dX5_tied_47 : decode cX5_tied 47 = .ok (.iload_n 3, 1) := by decide +kernel
theorem dX5_tied_48 : decode cX5_tied 48 = .ok (.iload 4, 2) := by decide +kernel
theorem dX5_tied_50 : decode cX5_tied 50 = .ok (.ifCond .ne 7, 3) := by decide +kernel
theorem dX5_tied_53 : decode cX5_tied 53 = .ok (.iconst 0, 1) := by decide +kernel
theorem dX5_tied_54 : decode cX5_tied 54 = .ok (.goto 4, 3) := by decide +kernel
theorem dX5_tied_57 : decode cX5_tied 57 = .ok (.iconst 1, 1) := by decide +kernel
theorem dX5_tied_58 : decode cX5_tied 58 = .ok (.imul, 1) := by decide +kernel
theorem dX5_tied_59 : decode cX5_tied 59 = .ok (.iadd, 1) := by decide +kernel
theorem dX5_tied_60 : decode cX5_tied 60 = .ok (.istore 6, 2) := by decide +kernel
theorem dX5_tied_62 : decode cX5_tied 62 = .ok (.iload 5, 2) := by decide +kernel
theorem dX5_tied_64 : decode cX5_tied 64 = .ok (.iload 6, 2) := by decide +kernel
theorem dX5_tied_66 : decode cX5_tied 66 = .ok (.invokestatic 58, 3) := by decide +kernel
theorem dX5_tied_69 : decode cX5_tied 69 = .ok (.ifCond .eq 48, 3) := by decide +kernel
theorem dX5_tied_72 : decode cX5_tied 72 = .ok (.aload_n 0, 1) := by decide +kernel
theorem dX5_tied_73 : decode cX5_tied 73 = .ok (.getfield 33, 3) := by decide +kernel
theorem dX5_tied_76 : decode cX5_tied 76 = .ok (.bipush 8, 2) := by decide +kernel
theorem dX5_tied_78 : decode cX5_tied 78 = .ok (.iload 6, 2) := by decide +kernel
theorem dX5_tied_80 : decode cX5_tied 80 = .ok (.imul, 1) := by decide +kernel
theorem dX5_tied_81 : decode cX5_tied 81 = .ok (.iload 5, 2) := by decide +kernel
theorem dX5_tied_83 : decode cX5_tied 83 = .ok (.iadd, 1) := by decide +kernel
theorem dX5_tied_84 : decode cX5_tied 84 = .ok (.iaload, 1) := by decide +kernel
theorem dX5_tied_85 : decode cX5_tied 85 = .ok (.ifCond .le 32, 3) := by decide +kernel
theorem dX5_tied_88 : decode cX5_tied 88 = .ok (.aload_n 0, 1) := by decide +kernel
theorem dX5_tied_89 : decode cX5_tied 89 = .ok (.bipush 8, 2) := by decide +kernel
theorem dX5_tied_91 : decode cX5_tied 91 = .ok (.iload 6, 2) := by decide +kernel
theorem dX5_tied_93 : decode cX5_tied 93 = .ok (.imul, 1) := by decide +kernel
theorem dX5_tied_94 : decode cX5_tied 94 = .ok (.iload 5, 2) := by decide +kernel
theorem dX5_tied_96 : decode cX5_tied 96 = .ok (.iadd, 1) := by decide +kernel
theorem dX5_tied_97 : decode cX5_tied 97 = .ok (.iload_n 2, 1) := by decide +kernel
theorem dX5_tied_98 : decode cX5_tied 98 = .ok (.invokevirtual 89, 3) := by decide +kernel
theorem dX5_tied_101 : decode cX5_tied 101 = .ok (.iload 4, 2) := by decide +kernel
theorem dX5_tied_103 : decode cX5_tied 103 = .ok (.if_icmp .ne 14, 3) := by decide +kernel
theorem dX5_tied_106 : decode cX5_tied 106 = .ok (.bipush 8, 2) := by decide +kernel
theorem dX5_tied_108 : decode cX5_tied 108 = .ok (.iload 6, 2) := by decide +kernel
theorem dX5_tied_110 : decode cX5_tied 110 = .ok (.imul, 1) := by decide +kernel
theorem dX5_tied_111 : decode cX5_tied 111 = .ok (.iload 5, 2) := by decide +kernel
theorem dX5_tied_113 : decode cX5_tied 113 = .ok (.iadd, 1) := by decide +kernel
theorem dX5_tied_114 : decode cX5_tied 114 = .ok (.goto 4, 3) := by decide +kernel
theorem dX5_tied_117 : decode cX5_tied 117 = .ok (.iconst (-1), 1) := by decide +kernel
theorem dX5_tied_118 : decode cX5_tied 118 = .ok (.ireturn, 1) := by decide +kernel
set_option maxRecDepth 20000 in
theorem ggX5_findLayer_X5_wantedOf : GoodIn wsX5_findLayer wsX5_wantedOf := goodIn_r _ [12, 13, 14, 15, 16, 17, 18, 11, 19, 20, 21, 22, 38, 39, 40, 41, 42, 43, 44, 45, 46, 47, 48, 49, 50, 51, 52, 53] (by decide +kernel) (by decide +kernel)
set_option maxRecDepth 20000 in
theorem gX5_findLayer_X5_wantedOf : GoodIn wsX5_findLayer (wsV RX5 92 RX5 yX5_wantedOf wsX5_wantedOf) := goodIn_app (goodIn_of _ (by decide +kernel)) ggX5_findLayer_X5_wantedOf
set_option maxRecDepth 20000 in
theorem ggX5_findLayer_X5_tied : GoodIn wsX5_findLayer wsX5_tied := goodIn_r _ [26, 1, 27, 28, 29, 11, 30, 31, 32, 33, 34, 35, 36, 37, 38, 39, 40, 41, 42, 43, 44, 45, 46, 47, 48, 49, 50, 51, 52, 53] (by decide +kernel) (by decide +kernel)
set_option maxRecDepth 20000 in
theorem gX5_findLayer_X5_tied : GoodIn wsX5_findLayer (wsV RX5 98 RX5 yX5_tied wsX5_tied) := goodIn_app (goodIn_of _ (by decide +kernel)) ggX5_findLayer_X5_tied
set_option maxRecDepth 20000 in
theorem ggX5_findLayer_X5_less : GoodIn wsX5_findLayer wsX5_less := goodIn_r _ [19] (by decide +kernel) (by decide +kernel)
set_option maxRecDepth 20000 in
theorem gX5_findLayer_X5_less : GoodIn wsX5_findLayer (va_wsS RX5 65 yX5_less wsX5_less) := goodIn_app (goodIn_of _ (by decide +kernel)) ggX5_findLayer_X5_less
theorem dX5_findLayer_0 : decode cX5_findLayer 0 = .ok (.iconst 0, 1) := by decide +kernel
theorem dX5_findLayer_1 : decode cX5_findLayer 1 = .ok (.istore_n 2, 1) := by decide +kernel
theorem dX5_findLayer_2 : decode cX5_findLayer 2 = .ok (.iload_n 2, 1) := by decide +kernel
theorem dX5_findLayer_3 : decode cX5_findLayer 3 = .ok (.bipush 64, 2) := by decide +kernel
theorem dX5_findLayer_5 : decode cX5_findLayer 5 = .ok (.if_icmp .ge 28, 3) := by decide +kernel
theorem dX5_findLayer_8 : decode cX5_findLayer 8 = .ok (.aload_n 0, 1) := by decide +kernel
theorem dX5_findLayer_9 : decode cX5_findLayer 9 = .ok (.getfield 33, 3) := by decide +kernel
theorem dX5_findLayer_12 : decode cX5_findLayer 12 = .ok (.iload_n 2, 1) := by decide +kernel
theorem dX5_findLayer_13 : decode cX5_findLayer 13 = .ok (.aload_n 0, 1) := by decide +kernel
theorem dX5_findLayer_14 : decode cX5_findLayer 14 = .ok (.iload_n 2, 1) := by decide +kernel
theorem dX5_findLayer_15 : decode cX5_findLayer 15 = .ok (.iload_n 1, 1) := by decide +kernel
theorem dX5_findLayer_16 : decode cX5_findLayer 16 = .ok (.invokevirtual 92, 3) := by decide +kernel
theorem dX5_findLayer_19 : decode cX5_findLayer 19 = .ok (.iastore, 1) := by decide +kernel
theorem dX5_findLayer_20 : decode cX5_findLayer 20 = .ok (.aload_n 0, 1) := by decide +kernel
theorem dX5_findLayer_21 : decode cX5_findLayer 21 = .ok (.getfield 36, 3) := by decide +kernel
theorem dX5_findLayer_24 : decode cX5_findLayer 24 = .ok (.iload_n 2, 1) := by decide +kernel
theorem dX5_findLayer_25 : decode cX5_findLayer 25 = .ok (.iconst 0, 1) := by decide +kernel
theorem dX5_findLayer_26 : decode cX5_findLayer 26 = .ok (.iastore, 1) := by decide +kernel
theorem dX5_findLayer_27 : decode cX5_findLayer 27 = .ok (.iinc 2 1, 3) := by decide +kernel
theorem dX5_findLayer_30 : decode cX5_findLayer 30 = .ok (.goto (-28), 3) := by decide +kernel
theorem dX5_findLayer_33 : decode cX5_findLayer 33 = .ok (.aload_n 0, 1) := by decide +kernel
theorem dX5_findLayer_34 : decode cX5_findLayer 34 = .ok (.iconst 0, 1) := by decide +kernel
theorem dX5_findLayer_35 : decode cX5_findLayer 35 = .ok (.putfield 95, 3) := by decide +kernel
theorem dX5_findLayer_38 : decode cX5_findLayer 38 = .ok (.iconst 0, 1) := by decide +kernel
theorem dX5_findLayer_39 : decode cX5_findLayer 39 = .ok (.istore_n 2, 1) := by decide +kernel
theorem dX5_findLayer_40 : decode cX5_findLayer 40 = .ok (.iload_n 2, 1) := by decide +kernel
theorem dX5_findLayer_41 : decode cX5_findLayer 41 = .ok (.bipush 64, 2) := by decide +kernel
theorem dX5_findLayer_43 : decode cX5_findLayer 43 = .ok (.if_icmp .ge 187, 3) := by decide +kernel
theorem dX5_findLayer_46 : decode cX5_findLayer 46 = .ok (.aload_n 0, 1) := by decide +kernel
theorem dX5_findLayer_47 : decode cX5_findLayer 47 = .ok (.getfield 33, 3) := by decide +kernel
theorem dX5_findLayer_50 : decode cX5_findLayer 50 = .ok (.iload_n 2, 1) := by decide +kernel
theorem dX5_findLayer_51 : decode cX5_findLayer 51 = .ok (.iaload, 1) := by decide +kernel
theorem dX5_findLayer_52 : decode cX5_findLayer 52 = .ok (.ifCond .le 172, 3) := by decide +kernel
theorem dX5_findLayer_55 : decode cX5_findLayer 55 = .ok (.aload_n 0, 1) := by decide +kernel
theorem dX5_findLayer_56 : decode cX5_findLayer 56 = .ok (.iload_n 2, 1) := by decide +kernel
theorem dX5_findLayer_57 : decode cX5_findLayer 57 = .ok (.iload_n 1, 1) := by decide +kernel
theorem dX5_findLayer_58 : decode cX5_findLayer 58 = .ok (.iconst (-1), 1) := by decide +kernel
theorem dX5_findLayer_59 : decode cX5_findLayer 59 = .ok (.invokevirtual 98, 3) := by decide +kernel
theorem dX5_findLayer_62 : decode cX5_findLayer 62 = .ok (.iconst (-1), 1) := by decide +kernel
theorem dX5_findLayer_63 : decode cX5_findLayer 63 = .ok (.if_icmp .ne 161, 3) := by decide +kernel
theorem dX5_findLayer_66 : decode cX5_findLayer 66 = .ok (.aload_n 0, 1) := by decide +kernel
theorem dX5_findLayer_67 : decode cX5_findLayer 67 = .ok (.getfield 39, 3) := by decide +kernel
theorem dX5_findLayer_70 : decode cX5_findLayer 70 = .ok (.aload_n 0, 1) := by decide +kernel
theorem dX5_findLayer_71 : decode cX5_findLayer 71 = .ok (.getfield 95, 3) := by decide +kernel
theorem dX5_findLayer_74 : decode cX5_findLayer 74 = .ok (.iload_n 2, 1) := by decide +kernel
theorem dX5_findLayer_75 : decode cX5_findLayer 75 = .ok (.iastore, 1) := by decide +kernel
theorem dX5_findLayer_76 : decode cX5_findLayer 76 = .ok (.aload_n 0, 1) := by decide +kernel
theorem dX5_findLayer_77 : decode cX5_findLayer 77 = .ok (.getfield 45, 3) := by decide +kernel
theorem dX5_findLayer_80 : decode cX5_findLayer 80 = .ok (.aload_n 0, 1) := by decide +kernel
theorem dX5_findLayer_81 : decode cX5_findLayer 81 = .ok (.getfield 95, 3) := by decide +kernel
theorem dX5_findLayer_84 : decode cX5_findLayer 84 = .ok (.iconst 0, 1) := by decide +kernel
theorem dX5_findLayer_85 : decode cX5_findLayer 85 = .ok (.iastore, 1) := by decide +kernel
theorem dX5_findLayer_86 : decode cX5_findLayer 86 = .ok (.iload_n 2, 1) := by decide +kernel
theorem dX5_findLayer_87 : decode cX5_findLayer 87 = .ok (.istore_n 3, 1) := by decide +kernel
theorem dX5_findLayer_88 : decode cX5_findLayer 88 = .ok (.sipush 1000, 3) := by decide +kernel
theorem dX5_findLayer_91 : decode cX5_findLayer 91 = .ok (.istore 4, 2) := by decide +kernel
theorem dX5_findLayer_93 : decode cX5_findLayer 93 = .ok (.iload_n 3, 1) := by decide +kernel
theorem dX5_findLayer_94 : decode cX5_findLayer 94 = .ok (.iconst (-1), 1) := by decide +kernel
theorem dX5_findLayer_95 : decode cX5_findLayer 95 = .ok (.if_icmp .eq 63, 3) := by decide +kernel
theorem dX5_findLayer_98 : decode cX5_findLayer 98 = .ok (.iload 4, 2) := by decide +kernel
theorem dX5_findLayer_100 : decode cX5_findLayer 100 = .ok (.aload_n 0, 1) := by decide +kernel
theorem dX5_findLayer_101 : decode cX5_findLayer 101 = .ok (.getfield 30, 3) := by decide +kernel
theorem dX5_findLayer_104 : decode cX5_findLayer 104 = .ok (.iadd, 1) := by decide +kernel
theorem dX5_findLayer_105 : decode cX5_findLayer 105 = .ok (.aload_n 0, 1) := by decide +kernel
theorem dX5_findLayer_106 : decode cX5_findLayer 106 = .ok (.getfield 33, 3) := by decide +kernel
theorem dX5_findLayer_109 : decode cX5_findLayer 109 = .ok (.iload_n 3, 1) := by decide +kernel
theorem dX5_findLayer_110 : decode cX5_findLayer 110 = .ok (.iaload, 1) := by decide +kernel
theorem dX5_findLayer_111 : decode cX5_findLayer 111 = .ok (.invokestatic 65, 3) := by decide +kernel
theorem dX5_findLayer_114 : decode cX5_findLayer 114 = .ok (.istore 4, 2) := by decide +kernel
theorem dX5_findLayer_116 : decode cX5_findLayer 116 = .ok (.aload_n 0, 1) := by decide +kernel
theorem dX5_findLayer_117 : decode cX5_findLayer 117 = .ok (.getfield 36, 3) := by decide +kernel
theorem dX5_findLayer_120 : decode cX5_findLayer 120 = .ok (.iload_n 3, 1) := by decide +kernel
theorem dX5_findLayer_121 : decode cX5_findLayer 121 = .ok (.iload 4, 2) := by decide +kernel
theorem dX5_findLayer_123 : decode cX5_findLayer 123 = .ok (.iastore, 1) := by decide +kernel
theorem dX5_findLayer_124 : decode cX5_findLayer 124 = .ok (.aload_n 0, 1) := by decide +kernel
theorem dX5_findLayer_125 : decode cX5_findLayer 125 = .ok (.getfield 42, 3) := by decide +kernel
theorem dX5_findLayer_128 : decode cX5_findLayer 128 = .ok (.aload_n 0, 1) := by decide +kernel
theorem dX5_findLayer_129 : decode cX5_findLayer 129 = .ok (.getfield 95, 3) := by decide +kernel
theorem dX5_findLayer_132 : decode cX5_findLayer 132 = .ok (.iload_n 3, 1) := by decide +kernel
theorem dX5_findLayer_133 : decode cX5_findLayer 133 = .ok (.iastore, 1) := by decide +kernel
theorem dX5_findLayer_134 : decode cX5_findLayer 134 = .ok (.aload_n 0, 1) := by decide +kernel
theorem dX5_findLayer_135 : decode cX5_findLayer 135 = .ok (.getfield 45, 3) := by decide +kernel
theorem dX5_findLayer_138 : decode cX5_findLayer 138 = .ok (.aload_n 0, 1) := by decide +kernel
theorem dX5_findLayer_139 : decode cX5_findLayer 139 = .ok (.getfield 95, 3) := by decide +kernel
theorem dX5_findLayer_142 : decode cX5_findLayer 142 = .ok (.dup2, 1) := by decide +kernel
theorem dX5_findLayer_143 : decode cX5_findLayer 143 = .ok (.iaload, 1) := by decide +kernel
theorem dX5_findLayer_144 : decode cX5_findLayer 144 = .ok (.iconst 1, 1) := by decide +kernel
theorem dX5_findLayer_145 : decode cX5_findLayer 145 = .ok (.iadd, 1) := by decide +kernel
theorem dX5_findLayer_146 : decode cX5_findLayer 146 = .ok (.iastore, 1) := by decide +kernel
theorem dX5_findLayer_147 : decode cX5_findLayer 147 = .ok (.aload_n 0, 1) := by decide +kernel
theorem dX5_findLayer_148 : decode cX5_findLayer 148 = .ok (.iload_n 3, 1) := by decide +kernel
theorem dX5_findLayer_149 : decode cX5_findLayer 149 = .ok (.iload_n 1, 1) := by decide +kernel
theorem dX5_findLayer_150 : decode cX5_findLayer 150 = .ok (.iconst 1, 1) := by decide +kernel
theorem dX5_findLayer_151 : decode cX5_findLayer 151 = .ok (.invokevirtual 98, 3) := by decide +kernel
theorem dX5_findLayer_154 : decode cX5_findLayer 154 = .ok (.istore_n 3, 1) := by decide +kernel
theorem dX5_findLayer_155 : decode cX5_findLayer 155 = .ok (.goto (-62), 3) := by decide +kernel
theorem dX5_findLayer_158 : decode cX5_findLayer 158 = .ok (.aload_n 0, 1) := by decide +kernel
theorem dX5_findLayer_159 : decode cX5_findLayer 159 = .ok (.getfield 42, 3) := by decide +kernel
theorem dX5_findLayer_162 : decode cX5_findLayer 162 = .ok (.aload_n 0, 1) := by decide +kernel
theorem dX5_findLayer_163 : decode cX5_findLayer 163 = .ok (.getfield 95, 3) := by decide +kernel
theorem dX5_findLayer_166 : decode cX5_findLayer 166 = .ok (.iaload, 1) := by decide +kernel
theorem dX5_findLayer_167 : decode cX5_findLayer 167 = .ok (.istore_n 3, 1) := by decide +kernel
theorem dX5_findLayer_168 : decode cX5_findLayer 168 = .ok (.iload_n 3, 1) := by decide +kernel
theorem dX5_findLayer_169 : decode cX5_findLayer 169 = .ok (.iconst (-1), 1) := by decide +kernel
theorem dX5_findLayer_170 : decode cX5_findLayer 170 = .ok (.if_icmp .eq 44, 3) := by decide +kernel
theorem dX5_findLayer_173 : decode cX5_findLayer 173 = .ok (.iload 4, 2) := by decide +kernel
theorem dX5_findLayer_175 : decode cX5_findLayer 175 = .ok (.aload_n 0, 1) := by decide +kernel
theorem dX5_findLayer_176 : decode cX5_findLayer 176 = .ok (.getfield 36, 3) := by decide +kernel
theorem dX5_findLayer_179 : decode cX5_findLayer 179 = .ok (.iload_n 3, 1) := by decide +kernel
theorem dX5_findLayer_180 : decode cX5_findLayer 180 = .ok (.iaload, 1) := by decide +kernel
theorem dX5_findLayer_181 : decode cX5_findLayer 181 = .ok (.invokestatic 65, 3) := by decide +kernel
theorem dX5_findLayer_184 : decode cX5_findLayer 184 = .ok (.istore 4, 2) := by decide +kernel
theorem dX5_findLayer_186 : decode cX5_findLayer 186 = .ok (.aload_n 0, 1) := by decide +kernel
theorem dX5_findLayer_187 : decode cX5_findLayer 187 = .ok (.getfield 36, 3) := by decide +kernel
theorem dX5_findLayer_190 : decode cX5_findLayer 190 = .ok (.iload_n 3, 1) := by decide +kernel
theorem dX5_findLayer_191 : decode cX5_findLayer 191 = .ok (.iload 4, 2) := by decide +kernel
theorem dX5_findLayer_193 : decode cX5_findLayer 193 = .ok (.iastore, 1) := by decide +kernel
theorem dX5_findLayer_194 : decode cX5_findLayer 194 = .ok (.iload 4, 2) := by decide +kernel
theorem dX5_findLayer_196 : decode cX5_findLayer 196 = .ok (.aload_n 0, 1) := by decide +kernel
theorem dX5_findLayer_197 : decode cX5_findLayer 197 = .ok (.getfield 30, 3) := by decide +kernel
theorem dX5_findLayer_200 : decode cX5_findLayer 200 = .ok (.iadd, 1) := by decide +kernel
theorem dX5_findLayer_201 : decode cX5_findLayer 201 = .ok (.istore 4, 2) := by decide +kernel
theorem dX5_findLayer_203 : decode cX5_findLayer 203 = .ok (.aload_n 0, 1) := by decide +kernel
theorem dX5_findLayer_204 : decode cX5_findLayer 204 = .ok (.iload_n 3, 1) := by decide +kernel
theorem dX5_findLayer_205 : decode cX5_findLayer 205 = .ok (.iload_n 1, 1) := by decide +kernel
theorem dX5_findLayer_206 : decode cX5_findLayer 206 = .ok (.iconst (-1), 1) := by decide +kernel
theorem dX5_findLayer_207 : decode cX5_findLayer 207 = .ok (.invokevirtual 98, 3) := by decide +kernel
theorem dX5_findLayer_210 : decode cX5_findLayer 210 = .ok (.istore_n 3, 1) := by decide +kernel
theorem dX5_findLayer_211 : decode cX5_findLayer 211 = .ok (.goto (-43), 3) := by decide +kernel
theorem dX5_findLayer_214 : decode cX5_findLayer 214 = .ok (.aload_n 0, 1) := by decide +kernel
theorem dX5_findLayer_215 : decode cX5_findLayer 215 = .ok (.dup, 1) := by decide +kernel
theorem dX5_findLayer_216 : decode cX5_findLayer 216 = .ok (.getfield 95, 3) := by decide +kernel
theorem dX5_findLayer_219 : decode cX5_findLayer 219 = .ok (.iconst 1, 1) := by decide +kernel
theorem dX5_findLayer_220 : decode cX5_findLayer 220 = .ok (.iadd, 1) := by decide +kernel
theorem dX5_findLayer_221 : decode cX5_findLayer 221 = .ok (.putfield 95, 3) := by decide +kernel
theorem dX5_findLayer_224 : decode cX5_findLayer 224 = .ok (.iinc 2 1, 3) := by decide +kernel
theorem dX5_findLayer_227 : decode cX5_findLayer 227 = .ok (.goto (-187), 3) := by decide +kernel
theorem dX5_findLayer_230 : decode cX5_findLayer 230 = .ok (.return_, 1) := by decide +kernel
theorem dX5_isLayer_0 : decode cX5_isLayer 0 = .ok (.iload_n 0, 1) := by decide +kernel
theorem dX5_isLayer_1 : decode cX5_isLayer 1 = .ok (.ifCond .eq 8, 3) := by decide +kernel
theorem dX5_isLayer_4 : decode cX5_isLayer 4 = .ok (.iload_n 0, 1) := by decide +kernel
theorem dX5_isLayer_5 : decode cX5_isLayer 5 = .ok (.iconst 1, 1) := by decide +kernel
theorem dX5_isLayer_6 : decode cX5_isLayer 6 = .ok (.if_icmp .ne 7, 3) := by decide +kernel
theorem dX5_isLayer_9 : decode cX5_isLayer 9 = .ok (.iconst 1, 1) := by decide +kernel
theorem dX5_isLayer_10 : decode cX5_isLayer 10 = .ok (.goto 4, 3) := by decide +kernel
theorem dX5_isLayer_13 : decode cX5_isLayer 13 = .ok (.iconst 0, 1) := by decide +kernel
theorem dX5_isLayer_14 : decode cX5_isLayer 14 = .ok (.ireturn, 1) := by decide +kernel
set_option maxRecDepth 20000 in
theorem ggX5_wanted_X5_isCell : GoodIn wsX5_wanted wsX5_isCell := goodIn_r _ [4, 5, 6, 3, 7] (by decide +kernel) (by decide +kernel)
set_option maxRecDepth 20000 in
theorem gX5_wanted_X5_isCell : GoodIn wsX5_wanted (va_wsS RX5 58 yX5_isCell wsX5_isCell) := goodIn_app (goodIn_of _ (by decide +kernel)) ggX5_wanted_X5_isCell
set_option maxRecDepth 20000 in
theorem ggX5_wanted_X5_isLayer : GoodIn wsX5_wanted wsX5_isLayer := goodIn_r _ [10] (by decide +kernel) (by decide +kernel)
set_option maxRecDepth 20000 in
theorem gX5_wanted_X5_isLayer : GoodIn wsX5_wanted (va_wsS RX5 101 yX5_isLayer wsX5_isLayer) := goodIn_app (goodIn_of _ (by decide +kernel)) ggX5_wanted_X5_isLayer
set_option maxRecDepth 20000 in
theorem ggX5_wanted_X5_wantedOf : GoodIn wsX5_wanted wsX5_wantedOf := goodIn_r _ [14, 15, 16, 17, 18, 19, 20, 3, 21, 22, 23, 24, 25, 26, 27, 28, 29, 30, 31, 32, 33, 34, 35, 36, 37, 38, 39, 40] (by decide +kernel) (by decide +kernel)
set_option maxRecDepth 20000 in
theorem gX5_wanted_X5_wantedOf : GoodIn wsX5_wanted (wsV RX5 92 RX5 yX5_wantedOf wsX5_wantedOf) := goodIn_app (goodIn_of _ (by decide +kernel)) ggX5_wanted_X5_wantedOf
theorem dX5_wanted_0 : decode cX5_wanted 0 = .ok (.iload_n 1, 1) := by decide +kernel
theorem dX5_wanted_1 : decode cX5_wanted 1 = .ok (.iload_n 2, 1) := by decide +kernel
theorem dX5_wanted_2 : decode cX5_wanted 2 = .ok (.invokestatic 58, 3) := by decide +kernel
theorem dX5_wanted_5 : decode cX5_wanted 5 = .ok (.ifCond .eq 24, 3) := by decide +kernel
theorem dX5_wanted_8 : decode cX5_wanted 8 = .ok (.iload_n 3, 1) := by decide +kernel
theorem dX5_wanted_9 : decode cX5_wanted 9 = .ok (.invokestatic 101, 3) := by decide +kernel
theorem dX5_wanted_12 : decode cX5_wanted 12 = .ok (.ifCond .eq 17, 3) := by decide +kernel
theorem dX5_wanted_15 : decode cX5_wanted 15 = .ok (.aload_n 0, 1) := by decide +kernel
theorem dX5_wanted_16 : decode cX5_wanted 16 = .ok (.bipush 8, 2) := by decide +kernel
theorem dX5_wanted_18 : decode cX5_wanted 18 = .ok (.iload_n 2, 1) := by decide +kernel
theorem dX5_wanted_19 : decode cX5_wanted 19 = .ok (.imul, 1) := by decide +kernel
theorem dX5_wanted_20 : decode cX5_wanted 20 = .ok (.iload_n 1, 1) := by decide +kernel
theorem dX5_wanted_21 : decode cX5_wanted 21 = .ok (.iadd, 1) := by decide +kernel
theorem dX5_wanted_22 : decode cX5_wanted 22 = .ok (.iload_n 3, 1) := by decide +kernel
theorem dX5_wanted_23 : decode cX5_wanted 23 = .ok (.invokevirtual 92, 3) := by decide +kernel
theorem dX5_wanted_26 : decode cX5_wanted 26 = .ok (.goto 5, 3) := by decide +kernel
theorem dX5_wanted_29 : decode cX5_wanted 29 = .ok (.bipush (-2), 2) := by decide +kernel
theorem dX5_wanted_31 : decode cX5_wanted 31 = .ok (.ireturn, 1) := by decide +kernel
set_option maxRecDepth 20000 in
theorem ggX5_width_X5_isCell : GoodIn wsX5_width wsX5_isCell := goodIn_r _ [5, 6, 7, 4, 8] (by decide +kernel) (by decide +kernel)
set_option maxRecDepth 20000 in
theorem gX5_width_X5_isCell : GoodIn wsX5_width (va_wsS RX5 58 yX5_isCell wsX5_isCell) := goodIn_app (goodIn_of _ (by decide +kernel)) ggX5_width_X5_isCell
set_option maxRecDepth 20000 in
theorem ggX5_width_X5_isLayer : GoodIn wsX5_width wsX5_isLayer := goodIn_r _ [11] (by decide +kernel) (by decide +kernel)
set_option maxRecDepth 20000 in
theorem gX5_width_X5_isLayer : GoodIn wsX5_width (va_wsS RX5 101 yX5_isLayer wsX5_isLayer) := goodIn_app (goodIn_of _ (by decide +kernel)) ggX5_width_X5_isLayer
set_option maxRecDepth 20000 in
theorem ggX5_width_X5_findLayer : GoodIn wsX5_width wsX5_findLayer := goodIn_r _ [15, 16, 1, 17, 18, 19, 20, 21, 22, 23, 24, 4, 25, 26, 27, 28, 29, 30, 31, 32, 33, 34, 35, 36, 37, 38, 39, 40, 41, 42, 43, 44, 2, 3, 5, 6, 7, 8, 45, 46, 47, 48, 49, 50, 51, 52, 53, 54, 55, 56, 57, 58, 59, 60] (by decide +kernel) (by decide +kernel)
set_option maxRecDepth 20000 in
theorem gX5_width_X5_findLayer : GoodIn wsX5_width (wsV RX5 105 RX5 yX5_findLayer wsX5_findLayer) := goodIn_app (goodIn_of _ (by decide +kernel)) ggX5_width_X5_findLayer
theorem dX5_width_0 : decode cX5_width 0 = .ok (.iload_n 1, 1) := by decide +kernel
theorem dX5_width_1 : decode cX5_width 1 = .ok (.iload_n 2, 1) := by decide +kernel
theorem dX5_width_2 : decode cX5_width 2 = .ok (.invokestatic 58, 3) := by decide +kernel
theorem dX5_width_5 : decode cX5_width 5 = .ok (.ifCond .eq 10, 3) := by decide +kernel
theorem dX5_width_8 : decode cX5_width 8 = .ok (.iload_n 3, 1) := by decide +kernel
theorem dX5_width_9 : decode cX5_width 9 = .ok (.invokestatic 101, 3) := by decide +kernel
theorem dX5_width_12 : decode cX5_width 12 = .ok (.ifCond .ne 6, 3) := by decide +kernel
theorem dX5_width_15 : decode cX5_width 15 = .ok (.bipush (-2), 2) := by decide +kernel
theorem dX5_width_17 : decode cX5_width 17 = .ok (.ireturn, 1) := by decide +kernel
theorem dX5_width_18 : decode cX5_width 18 = .ok (.aload_n 0, 1) := by decide +kernel
theorem dX5_width_19 : decode cX5_width 19 = .ok (.iload_n 3, 1) := by decide +kernel
theorem dX5_width_20 : decode cX5_width 20 = .ok (.invokevirtual 105, 3) := by decide +kernel
theorem dX5_width_23 : decode cX5_width 23 = .ok (.aload_n 0, 1) := by decide +kernel
theorem dX5_width_24 : decode cX5_width 24 = .ok (.getfield 36, 3) := by decide +kernel
theorem dX5_width_27 : decode cX5_width 27 = .ok (.bipush 8, 2) := by decide +kernel
theorem dX5_width_29 : decode cX5_width 29 = .ok (.iload_n 2, 1) := by decide +kernel
theorem dX5_width_30 : decode cX5_width 30 = .ok (.imul, 1) := by decide +kernel
theorem dX5_width_31 : decode cX5_width 31 = .ok (.iload_n 1, 1) := by decide +kernel
theorem dX5_width_32 : decode cX5_width 32 = .ok (.iadd, 1) := by decide +kernel
theorem dX5_width_33 : decode cX5_width 33 = .ok (.iaload, 1) := by decide +kernel
theorem dX5_width_34 : decode cX5_width 34 = .ok (.ireturn, 1) := by decide +kernel
set_option maxRecDepth 20000 in
theorem ggX5_made_X5_isCell : GoodIn wsX5_made wsX5_isCell := goodIn_r _ [6, 7, 8, 5, 9] (by decide +kernel) (by decide +kernel)
set_option maxRecDepth 20000 in
theorem gX5_made_X5_isCell : GoodIn wsX5_made (va_wsS RX5 58 yX5_isCell wsX5_isCell) := goodIn_app (goodIn_of _ (by decide +kernel)) ggX5_made_X5_isCell
set_option maxRecDepth 20000 in
theorem ggX5_made_X5_findLayer : GoodIn wsX5_made wsX5_findLayer := goodIn_r _ [13, 14, 1, 15, 16, 17, 18, 19, 20, 21, 22, 5, 23, 24, 25, 2, 26, 27, 28, 29, 30, 31, 32, 33, 34, 35, 36, 37, 38, 39, 40, 41, 3, 4, 6, 7, 8, 9, 42, 43, 44, 45, 46, 47, 48, 49, 50, 51, 52, 53, 54, 55, 56, 57] (by decide +kernel) (by decide +kernel)
set_option maxRecDepth 20000 in
theorem gX5_made_X5_findLayer : GoodIn wsX5_made (wsV RX5 105 RX5 yX5_findLayer wsX5_findLayer) := goodIn_app (goodIn_of _ (by decide +kernel)) ggX5_made_X5_findLayer
theorem dX5_made_0 : decode cX5_made 0 = .ok (.iload_n 1, 1) := by decide +kernel
theorem dX5_made_1 : decode cX5_made 1 = .ok (.iload_n 2, 1) := by decide +kernel
theorem dX5_made_2 : decode cX5_made 2 = .ok (.invokestatic 58, 3) := by decide +kernel
theorem dX5_made_5 : decode cX5_made 5 = .ok (.ifCond .ne 6, 3) := by decide +kernel
theorem dX5_made_8 : decode cX5_made 8 = .ok (.bipush (-2), 2) := by decide +kernel
theorem dX5_made_10 : decode cX5_made 10 = .ok (.ireturn, 1) := by decide +kernel
theorem dX5_made_11 : decode cX5_made 11 = .ok (.aload_n 0, 1) := by decide +kernel
theorem dX5_made_12 : decode cX5_made 12 = .ok (.iconst 0, 1) := by decide +kernel
theorem dX5_made_13 : decode cX5_made 13 = .ok (.invokevirtual 105, 3) := by decide +kernel
theorem dX5_made_16 : decode cX5_made 16 = .ok (.aload_n 0, 1) := by decide +kernel
theorem dX5_made_17 : decode cX5_made 17 = .ok (.getfield 36, 3) := by decide +kernel
theorem dX5_made_20 : decode cX5_made 20 = .ok (.bipush 8, 2) := by decide +kernel
theorem dX5_made_22 : decode cX5_made 22 = .ok (.iload_n 2, 1) := by decide +kernel
theorem dX5_made_23 : decode cX5_made 23 = .ok (.imul, 1) := by decide +kernel
theorem dX5_made_24 : decode cX5_made 24 = .ok (.iload_n 1, 1) := by decide +kernel
theorem dX5_made_25 : decode cX5_made 25 = .ok (.iadd, 1) := by decide +kernel
theorem dX5_made_26 : decode cX5_made 26 = .ok (.iaload, 1) := by decide +kernel
theorem dX5_made_27 : decode cX5_made 27 = .ok (.istore_n 3, 1) := by decide +kernel
theorem dX5_made_28 : decode cX5_made 28 = .ok (.aload_n 0, 1) := by decide +kernel
theorem dX5_made_29 : decode cX5_made 29 = .ok (.iconst 1, 1) := by decide +kernel
theorem dX5_made_30 : decode cX5_made 30 = .ok (.invokevirtual 105, 3) := by decide +kernel
theorem dX5_made_33 : decode cX5_made 33 = .ok (.bipush 100, 2) := by decide +kernel
theorem dX5_made_35 : decode cX5_made 35 = .ok (.iload_n 3, 1) := by decide +kernel
theorem dX5_made_36 : decode cX5_made 36 = .ok (.aload_n 0, 1) := by decide +kernel
theorem dX5_made_37 : decode cX5_made 37 = .ok (.getfield 36, 3) := by decide +kernel
theorem dX5_made_40 : decode cX5_made 40 = .ok (.bipush 8, 2) := by decide +kernel
theorem dX5_made_42 : decode cX5_made 42 = .ok (.iload_n 2, 1) := by decide +kernel
theorem dX5_made_43 : decode cX5_made 43 = .ok (.imul, 1) := by decide +kernel
theorem dX5_made_44 : decode cX5_made 44 = .ok (.iload_n 1, 1) := by decide +kernel
theorem dX5_made_45 : decode cX5_made 45 = .ok (.iadd, 1) := by decide +kernel
theorem dX5_made_46 : decode cX5_made 46 = .ok (.iaload, 1) := by decide +kernel
theorem dX5_made_47 : decode cX5_made 47 = .ok (.iadd, 1) := by decide +kernel
theorem dX5_made_48 : decode cX5_made 48 = .ok (.imul, 1) := by decide +kernel
theorem dX5_made_49 : decode cX5_made 49 = .ok (.aload_n 0, 1) := by decide +kernel
theorem dX5_made_50 : decode cX5_made 50 = .ok (.getfield 20, 3) := by decide +kernel
theorem dX5_made_53 : decode cX5_made 53 = .ok (.idiv, 1) := by decide +kernel
theorem dX5_made_54 : decode cX5_made 54 = .ok (.ireturn, 1) := by decide +kernel
set_option maxRecDepth 20000 in
theorem ggX5_error_X5_in : GoodIn wsX5_error wsX5_in := goodIn_r _ [8] (by decide +kernel) (by decide +kernel)
set_option maxRecDepth 20000 in
theorem gX5_error_X5_in : GoodIn wsX5_error (va_wsS RX5 54 yX5_in wsX5_in) := goodIn_app (goodIn_of _ (by decide +kernel)) ggX5_error_X5_in
set_option maxRecDepth 20000 in
theorem ggX5_error_X5_findLayer : GoodIn wsX5_error wsX5_findLayer := goodIn_r _ [12, 13, 2, 14, 15, 16, 17, 18, 19, 20, 21, 7, 22, 3, 23, 4, 24, 25, 26, 27, 28, 29, 30, 31, 32, 33, 34, 35, 36, 37, 38, 39, 40, 41, 42, 5, 6, 8, 46, 47, 48, 49, 50, 51, 52, 53, 54, 55, 56, 57, 58, 59, 60, 61] (by decide +kernel) (by decide +kernel)
set_option maxRecDepth 20000 in
theorem gX5_error_X5_findLayer : GoodIn wsX5_error (wsV RX5 105 RX5 yX5_findLayer wsX5_findLayer) := goodIn_app (goodIn_of _ (by decide +kernel)) ggX5_error_X5_findLayer
set_option maxRecDepth 20000 in
theorem ggX5_error_X5_size : GoodIn wsX5_error wsX5_size := goodIn_r _ [45] (by decide +kernel) (by decide +kernel)
set_option maxRecDepth 20000 in
theorem gX5_error_X5_size : GoodIn wsX5_error (va_wsS RX5 62 yX5_size wsX5_size) := goodIn_app (goodIn_of _ (by decide +kernel)) ggX5_error_X5_size
set_option maxRecDepth 20000 in
theorem ggX5_error_X5_more : GoodIn wsX5_error wsX5_more := goodIn_r _ [30] (by decide +kernel) (by decide +kernel)
set_option maxRecDepth 20000 in
theorem gX5_error_X5_more : GoodIn wsX5_error (va_wsS RX5 86 yX5_more wsX5_more) := goodIn_app (goodIn_of _ (by decide +kernel)) ggX5_error_X5_more
theorem dX5_error_0 : decode cX5_error 0 = .ok (.iload_n 1, 1) := by decide +kernel
theorem dX5_error_1 : decode cX5_error 1 = .ok (.iconst 0, 1) := by decide +kernel
theorem dX5_error_2 : decode cX5_error 2 = .ok (.iconst 1, 1) := by decide +kernel
theorem dX5_error_3 : decode cX5_error 3 = .ok (.invokestatic 54, 3) := by decide +kernel
theorem dX5_error_6 : decode cX5_error 6 = .ok (.ifCond .ne 6, 3) := by decide +kernel
theorem dX5_error_9 : decode cX5_error 9 = .ok (.bipush (-3), 2) := by decide +kernel
theorem dX5_error_11 : decode cX5_error 11 = .ok (.ireturn, 1) := by decide +kernel
theorem dX5_error_12 : decode cX5_error 12 = .ok (.aload_n 0, 1) := by decide +kernel
theorem dX5_error_13 : decode cX5_error 13 = .ok (.iconst 0, 1) := by decide +kernel
theorem dX5_error_14 : decode cX5_error 14 = .ok (.invokevirtual 105, 3) := by decide +kernel
theorem dX5_error_17 : decode cX5_error 17 = .ok (.iconst 0, 1) := by decide +kernel
theorem dX5_error_18 : decode cX5_error 18 = .ok (.istore_n 2, 1) := by decide +kernel
theorem dX5_error_19 : decode cX5_error 19 = .ok (.iload_n 2, 1) := by decide +kernel
theorem dX5_error_20 : decode cX5_error 20 = .ok (.bipush 64, 2) := by decide +kernel
theorem dX5_error_22 : decode cX5_error 22 = .ok (.if_icmp .ge 21, 3) := by decide +kernel
theorem dX5_error_25 : decode cX5_error 25 = .ok (.aload_n 0, 1) := by decide +kernel
theorem dX5_error_26 : decode cX5_error 26 = .ok (.getfield 48, 3) := by decide +kernel
theorem dX5_error_29 : decode cX5_error 29 = .ok (.iload_n 2, 1) := by decide +kernel
theorem dX5_error_30 : decode cX5_error 30 = .ok (.aload_n 0, 1) := by decide +kernel
theorem dX5_error_31 : decode cX5_error 31 = .ok (.getfield 36, 3) := by decide +kernel
theorem dX5_error_34 : decode cX5_error 34 = .ok (.iload_n 2, 1) := by decide +kernel
theorem dX5_error_35 : decode cX5_error 35 = .ok (.iaload, 1) := by decide +kernel
theorem dX5_error_36 : decode cX5_error 36 = .ok (.iastore, 1) := by decide +kernel
theorem dX5_error_37 : decode cX5_error 37 = .ok (.iinc 2 1, 3) := by decide +kernel
theorem dX5_error_40 : decode cX5_error 40 = .ok (.goto (-21), 3) := by decide +kernel
theorem dX5_error_43 : decode cX5_error 43 = .ok (.aload_n 0, 1) := by decide +kernel
theorem dX5_error_44 : decode cX5_error 44 = .ok (.iconst 1, 1) := by decide +kernel
theorem dX5_error_45 : decode cX5_error 45 = .ok (.invokevirtual 105, 3) := by decide +kernel
theorem dX5_error_48 : decode cX5_error 48 = .ok (.iconst 0, 1) := by decide +kernel
theorem dX5_error_49 : decode cX5_error 49 = .ok (.istore_n 2, 1) := by decide +kernel
theorem dX5_error_50 : decode cX5_error 50 = .ok (.iconst 0, 1) := by decide +kernel
theorem dX5_error_51 : decode cX5_error 51 = .ok (.istore_n 3, 1) := by decide +kernel
theorem dX5_error_52 : decode cX5_error 52 = .ok (.iconst 0, 1) := by decide +kernel
theorem dX5_error_53 : decode cX5_error 53 = .ok (.istore 4, 2) := by decide +kernel
theorem dX5_error_55 : decode cX5_error 55 = .ok (.iload 4, 2) := by decide +kernel
theorem dX5_error_57 : decode cX5_error 57 = .ok (.bipush 64, 2) := by decide +kernel
theorem dX5_error_59 : decode cX5_error 59 = .ok (.if_icmp .ge 57, 3) := by decide +kernel
theorem dX5_error_62 : decode cX5_error 62 = .ok (.aload_n 0, 1) := by decide +kernel
theorem dX5_error_63 : decode cX5_error 63 = .ok (.getfield 7, 3) := by decide +kernel
theorem dX5_error_66 : decode cX5_error 66 = .ok (.iload 4, 2) := by decide +kernel
theorem dX5_error_68 : decode cX5_error 68 = .ok (.iaload, 1) := by decide +kernel
theorem dX5_error_69 : decode cX5_error 69 = .ok (.bipush 100, 2) := by decide +kernel
theorem dX5_error_71 : decode cX5_error 71 = .ok (.aload_n 0, 1) := by decide +kernel
theorem dX5_error_72 : decode cX5_error 72 = .ok (.getfield 48, 3) := by decide +kernel
theorem dX5_error_75 : decode cX5_error 75 = .ok (.iload 4, 2) := by decide +kernel
theorem dX5_error_77 : decode cX5_error 77 = .ok (.iaload, 1) := by decide +kernel
theorem dX5_error_78 : decode cX5_error 78 = .ok (.aload_n 0, 1) := by decide +kernel
theorem dX5_error_79 : decode cX5_error 79 = .ok (.getfield 36, 3) := by decide +kernel
theorem dX5_error_82 : decode cX5_error 82 = .ok (.iload 4, 2) := by decide +kernel
theorem dX5_error_84 : decode cX5_error 84 = .ok (.iaload, 1) := by decide +kernel
theorem dX5_error_85 : decode cX5_error 85 = .ok (.iadd, 1) := by decide +kernel
theorem dX5_error_86 : decode cX5_error 86 = .ok (.imul, 1) := by decide +kernel
theorem dX5_error_87 : decode cX5_error 87 = .ok (.aload_n 0, 1) := by decide +kernel
theorem dX5_error_88 : decode cX5_error 88 = .ok (.getfield 20, 3) := by decide +kernel
theorem dX5_error_91 : decode cX5_error 91 = .ok (.idiv, 1) := by decide +kernel
theorem dX5_error_92 : decode cX5_error 92 = .ok (.isub, 1) := by decide +kernel
theorem dX5_error_93 : decode cX5_error 93 = .ok (.invokestatic 62, 3) := by decide +kernel
theorem dX5_error_96 : decode cX5_error 96 = .ok (.istore 5, 2) := by decide +kernel
theorem dX5_error_98 : decode cX5_error 98 = .ok (.iload_n 2, 1) := by decide +kernel
theorem dX5_error_99 : decode cX5_error 99 = .ok (.iload 5, 2) := by decide +kernel
theorem dX5_error_101 : decode cX5_error 101 = .ok (.invokestatic 86, 3) := by decide +kernel
