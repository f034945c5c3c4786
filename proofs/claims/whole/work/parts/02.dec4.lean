theorem dX4_countStrokes_33 : decode cX4_countStrokes 33 = .ok (.iinc 3 1, 3) := by decide +kernel
theorem dX4_countStrokes_36 : decode cX4_countStrokes 36 = .ok (.goto (-32), 3) := by decide +kernel
theorem dX4_countStrokes_39 : decode cX4_countStrokes 39 = .ok (.iload_n 2, 1) := by decide +kernel
theorem dX4_countStrokes_40 : decode cX4_countStrokes 40 = .ok (.ireturn, 1) := by decide +kernel
theorem dX5_init_0 : decode cX5_init 0 = .ok (.aload_n 0, 1) := by decide +kernel
theorem dX5_init_1 : decode cX5_init 1 = .ok (.invokespecial 1, 3) := by decide +kernel
theorem dX5_init_4 : decode cX5_init 4 = .ok (.aload_n 0, 1) := by decide +kernel
theorem dX5_init_5 : decode cX5_init 5 = .ok (.bipush 64, 2) := by decide +kernel
theorem dX5_init_7 : decode cX5_init 7 = .ok (.newarray .int, 2) := by decide +kernel
theorem dX5_init_9 : decode cX5_init 9 = .ok (.putfield 7, 3) := by decide +kernel
theorem dX5_init_12 : decode cX5_init 12 = .ok (.aload_n 0, 1) := by decide +kernel
theorem dX5_init_13 : decode cX5_init 13 = .ok (.bipush 64, 2) := by decide +kernel
theorem dX5_init_15 : decode cX5_init 15 = .ok (.newarray .int, 2) := by decide +kernel
theorem dX5_init_17 : decode cX5_init 17 = .ok (.putfield 13, 3) := by decide +kernel
theorem dX5_init_20 : decode cX5_init 20 = .ok (.aload_n 0, 1) := by decide +kernel
theorem dX5_init_21 : decode cX5_init 21 = .ok (.bipush 64, 2) := by decide +kernel
theorem dX5_init_23 : decode cX5_init 23 = .ok (.newarray .boolean, 2) := by decide +kernel
theorem dX5_init_25 : decode cX5_init 25 = .ok (.putfield 16, 3) := by decide +kernel
theorem dX5_init_28 : decode cX5_init 28 = .ok (.aload_n 0, 1) := by decide +kernel
theorem dX5_init_29 : decode cX5_init 29 = .ok (.bipush 10, 2) := by decide +kernel
theorem dX5_init_31 : decode cX5_init 31 = .ok (.putfield 20, 3) := by decide +kernel
theorem dX5_init_34 : decode cX5_init 34 = .ok (.aload_n 0, 1) := by decide +kernel
theorem dX5_init_35 : decode cX5_init 35 = .ok (.bipush 60, 2) := by decide +kernel
theorem dX5_init_37 : decode cX5_init 37 = .ok (.putfield 24, 3) := by decide +kernel
theorem dX5_init_40 : decode cX5_init 40 = .ok (.aload_n 0, 1) := by decide +kernel
theorem dX5_init_41 : decode cX5_init 41 = .ok (.iconst 1, 1) := by decide +kernel
theorem dX5_init_42 : decode cX5_init 42 = .ok (.putfield 27, 3) := by decide +kernel
theorem dX5_init_45 : decode cX5_init 45 = .ok (.aload_n 0, 1) := by decide +kernel
theorem dX5_init_46 : decode cX5_init 46 = .ok (.bipush 40, 2) := by decide +kernel
theorem dX5_init_48 : decode cX5_init 48 = .ok (.putfield 30, 3) := by decide +kernel
theorem dX5_init_51 : decode cX5_init 51 = .ok (.aload_n 0, 1) := by decide +kernel
theorem dX5_init_52 : decode cX5_init 52 = .ok (.bipush 64, 2) := by decide +kernel
theorem dX5_init_54 : decode cX5_init 54 = .ok (.newarray .int, 2) := by decide +kernel
theorem dX5_init_56 : decode cX5_init 56 = .ok (.putfield 33, 3) := by decide +kernel
theorem dX5_init_59 : decode cX5_init 59 = .ok (.aload_n 0, 1) := by decide +kernel
theorem dX5_init_60 : decode cX5_init 60 = .ok (.bipush 64, 2) := by decide +kernel
theorem dX5_init_62 : decode cX5_init 62 = .ok (.newarray .int, 2) := by decide +kernel
theorem dX5_init_64 : decode cX5_init 64 = .ok (.putfield 36, 3) := by decide +kernel
theorem dX5_init_67 : decode cX5_init 67 = .ok (.aload_n 0, 1) := by decide +kernel
theorem dX5_init_68 : decode cX5_init 68 = .ok (.bipush 64, 2) := by decide +kernel
theorem dX5_init_70 : decode cX5_init 70 = .ok (.newarray .int, 2) := by decide +kernel
theorem dX5_init_72 : decode cX5_init 72 = .ok (.putfield 39, 3) := by decide +kernel
theorem dX5_init_75 : decode cX5_init 75 = .ok (.aload_n 0, 1) := by decide +kernel
theorem dX5_init_76 : decode cX5_init 76 = .ok (.bipush 64, 2) := by decide +kernel
theorem dX5_init_78 : decode cX5_init 78 = .ok (.newarray .int, 2) := by decide +kernel
theorem dX5_init_80 : decode cX5_init 80 = .ok (.putfield 42, 3) := by decide +kernel
theorem dX5_init_83 : decode cX5_init 83 = .ok (.aload_n 0, 1) := by decide +kernel
theorem dX5_init_84 : decode cX5_init 84 = .ok (.bipush 64, 2) := by decide +kernel
theorem dX5_init_86 : decode cX5_init 86 = .ok (.newarray .int, 2) := by decide +kernel
theorem dX5_init_88 : decode cX5_init 88 = .ok (.putfield 45, 3) := by decide +kernel
theorem dX5_init_91 : decode cX5_init 91 = .ok (.aload_n 0, 1) := by decide +kernel
theorem dX5_init_92 : decode cX5_init 92 = .ok (.bipush 64, 2) := by decide +kernel
theorem dX5_init_94 : decode cX5_init 94 = .ok (.newarray .int, 2) := by decide +kernel
theorem dX5_init_96 : decode cX5_init 96 = .ok (.putfield 48, 3) := by decide +kernel
theorem dX5_init_99 : decode cX5_init 99 = .ok (.aload_n 0, 1) := by decide +kernel
theorem dX5_init_100 : decode cX5_init 100 = .ok (.bipush 64, 2) := by decide +kernel
theorem dX5_init_102 : decode cX5_init 102 = .ok (.newarray .int, 2) := by decide +kernel
theorem dX5_init_104 : decode cX5_init 104 = .ok (.putfield 51, 3) := by decide +kernel
theorem dX5_init_107 : decode cX5_init 107 = .ok (.return_, 1) := by decide +kernel
theorem dX5_in_0 : decode cX5_in 0 = .ok (.iload_n 0, 1) := by decide +kernel
theorem dX5_in_1 : decode cX5_in 1 = .ok (.iload_n 1, 1) := by decide +kernel
theorem dX5_in_2 : decode cX5_in 2 = .ok (.if_icmp .lt 12, 3) := by decide +kernel
theorem dX5_in_5 : decode cX5_in 5 = .ok (.iload_n 0, 1) := by decide +kernel
theorem dX5_in_6 : decode cX5_in 6 = .ok (.iload_n 2, 1) := by decide +kernel
theorem dX5_in_7 : decode cX5_in 7 = .ok (.if_icmp .gt 7, 3) := by decide +kernel
theorem dX5_in_10 : decode cX5_in 10 = .ok (.iconst 1, 1) := by decide +kernel
theorem dX5_in_11 : decode cX5_in 11 = .ok (.goto 4, 3) := by decide +kernel
theorem dX5_in_14 : decode cX5_in 14 = .ok (.iconst 0, 1) := by decide +kernel
theorem dX5_in_15 : decode cX5_in 15 = .ok (.ireturn, 1) := by decide +kernel
set_option maxRecDepth 20000 in
theorem ggX5_isCell_X5_in : GoodIn wsX5_isCell wsX5_in := goodIn_r _ [4] (by decide +kernel) (by decide +kernel)
set_option maxRecDepth 20000 in
theorem gX5_isCell_X5_in : GoodIn wsX5_isCell (va_wsS RX5 54 yX5_in wsX5_in) := goodIn_app (goodIn_of _ (by decide +kernel)) ggX5_isCell_X5_in
theorem dX5_isCell_0 : decode cX5_isCell 0 = .ok (.iload_n 0, 1) := by decide +kernel
theorem dX5_isCell_1 : decode cX5_isCell 1 = .ok (.iconst 0, 1) := by decide +kernel
theorem dX5_isCell_2 : decode cX5_isCell 2 = .ok (.bipush 7, 2) := by decide +kernel
theorem dX5_isCell_4 : decode cX5_isCell 4 = .ok (.invokestatic 54, 3) := by decide +kernel
theorem dX5_isCell_7 : decode cX5_isCell 7 = .ok (.ifCond .eq 17, 3) := by decide +kernel
theorem dX5_isCell_10 : decode cX5_isCell 10 = .ok (.iload_n 1, 1) := by decide +kernel
theorem dX5_isCell_11 : decode cX5_isCell 11 = .ok (.iconst 0, 1) := by decide +kernel
theorem dX5_isCell_12 : decode cX5_isCell 12 = .ok (.bipush 7, 2) := by decide +kernel
theorem dX5_isCell_14 : decode cX5_isCell 14 = .ok (.invokestatic 54, 3) := by decide +kernel
theorem dX5_isCell_17 : decode cX5_isCell 17 = .ok (.ifCond .eq 7, 3) := by decide +kernel
theorem dX5_isCell_20 : decode cX5_isCell 20 = .ok (.iconst 1, 1) := by decide +kernel
theorem dX5_isCell_21 : decode cX5_isCell 21 = .ok (.goto 4, 3) := by decide +kernel
theorem dX5_isCell_24 : decode cX5_isCell 24 = .ok (.iconst 0, 1) := by decide +kernel
theorem dX5_isCell_25 : decode cX5_isCell 25 = .ok (.ireturn, 1) := by decide +kernel
theorem dX5_less_0 : decode cX5_less 0 = .ok (.iload_n 0, 1) := by decide +kernel
theorem dX5_less_1 : decode cX5_less 1 = .ok (.iload_n 1, 1) := by decide +kernel
theorem dX5_less_2 : decode cX5_less 2 = .ok (.if_icmp .ge 7, 3) := by decide +kernel
theorem dX5_less_5 : decode cX5_less 5 = .ok (.iload_n 0, 1) := by decide +kernel
theorem dX5_less_6 : decode cX5_less 6 = .ok (.goto 4, 3) := by decide +kernel
theorem dX5_less_9 : decode cX5_less 9 = .ok (.iload_n 1, 1) := by decide +kernel
theorem dX5_less_10 : decode cX5_less 10 = .ok (.ireturn, 1) := by decide +kernel
theorem dX5_more_0 : decode cX5_more 0 = .ok (.iload_n 0, 1) := by decide +kernel
theorem dX5_more_1 : decode cX5_more 1 = .ok (.iload_n 1, 1) := by decide +kernel
theorem dX5_more_2 : decode cX5_more 2 = .ok (.if_icmp .le 7, 3) := by decide +kernel
theorem dX5_more_5 : decode cX5_more 5 = .ok (.iload_n 0, 1) := by decide +kernel
theorem dX5_more_6 : decode cX5_more 6 = .ok (.goto 4, 3) := by decide +kernel
theorem dX5_more_9 : decode cX5_more 9 = .ok (.iload_n 1, 1) := by decide +kernel
theorem dX5_more_10 : decode cX5_more 10 = .ok (.ireturn, 1) := by decide +kernel
theorem dX5_size_0 : decode cX5_size 0 = .ok (.iload_n 0, 1) := by decide +kernel
theorem dX5_size_1 : decode cX5_size 1 = .ok (.ifCond .ge 8, 3) := by decide +kernel
theorem dX5_size_4 : decode cX5_size 4 = .ok (.iload_n 0, 1) := by decide +kernel
theorem dX5_size_5 : decode cX5_size 5 = .ok (.ineg, 1) := by decide +kernel
theorem dX5_size_6 : decode cX5_size 6 = .ok (.goto 4, 3) := by decide +kernel
theorem dX5_size_9 : decode cX5_size 9 = .ok (.iload_n 0, 1) := by decide +kernel
theorem dX5_size_10 : decode cX5_size 10 = .ok (.ireturn, 1) := by decide +kernel
set_option maxRecDepth 20000 in
theorem ggX5_tone_X5_isCell : GoodIn wsX5_tone wsX5_isCell := goodIn_r _ [5, 6, 7, 4, 8] (by decide +kernel) (by decide +kernel)
set_option maxRecDepth 20000 in
theorem gX5_tone_X5_isCell : GoodIn wsX5_tone (va_wsS RX5 58 yX5_isCell wsX5_isCell) := goodIn_app (goodIn_of _ (by decide +kernel)) ggX5_tone_X5_isCell
set_option maxRecDepth 20000 in
theorem ggX5_tone_X5_in : GoodIn wsX5_tone wsX5_in := goodIn_r _ [8] (by decide +kernel) (by decide +kernel)
set_option maxRecDepth 20000 in
theorem gX5_tone_X5_in : GoodIn wsX5_tone (va_wsS RX5 54 yX5_in wsX5_in) := goodIn_app (goodIn_of _ (by decide +kernel)) ggX5_tone_X5_in
theorem dX5_tone_0 : decode cX5_tone 0 = .ok (.iload_n 1, 1) := by decide +kernel
theorem dX5_tone_1 : decode cX5_tone 1 = .ok (.iload_n 2, 1) := by decide +kernel
theorem dX5_tone_2 : decode cX5_tone 2 = .ok (.invokestatic 58, 3) := by decide +kernel
theorem dX5_tone_5 : decode cX5_tone 5 = .ok (.ifCond .ne 6, 3) := by decide +kernel
theorem dX5_tone_8 : decode cX5_tone 8 = .ok (.bipush (-2), 2) := by decide +kernel
theorem dX5_tone_10 : decode cX5_tone 10 = .ok (.ireturn, 1) := by decide +kernel
theorem dX5_tone_11 : decode cX5_tone 11 = .ok (.iload_n 3, 1) := by decide +kernel
theorem dX5_tone_12 : decode cX5_tone 12 = .ok (.iconst 0, 1) := by decide +kernel
theorem dX5_tone_13 : decode cX5_tone 13 = .ok (.bipush 100, 2) := by decide +kernel
theorem dX5_tone_15 : decode cX5_tone 15 = .ok (.invokestatic 54, 3) := by decide +kernel
theorem dX5_tone_18 : decode cX5_tone 18 = .ok (.ifCond .ne 6, 3) := by decide +kernel
theorem dX5_tone_21 : decode cX5_tone 21 = .ok (.bipush (-3), 2) := by decide +kernel
theorem dX5_tone_23 : decode cX5_tone 23 = .ok (.ireturn, 1) := by decide +kernel
theorem dX5_tone_24 : decode cX5_tone 24 = .ok (.aload_n 0, 1) := by decide +kernel
theorem dX5_tone_25 : decode cX5_tone 25 = .ok (.getfield 7, 3) := by decide +kernel
theorem dX5_tone_28 : decode cX5_tone 28 = .ok (.bipush 8, 2) := by decide +kernel
theorem dX5_tone_30 : decode cX5_tone 30 = .ok (.iload_n 2, 1) := by decide +kernel
theorem dX5_tone_31 : decode cX5_tone 31 = .ok (.imul, 1) := by decide +kernel
theorem dX5_tone_32 : decode cX5_tone 32 = .ok (.iload_n 1, 1) := by decide +kernel
theorem dX5_tone_33 : decode cX5_tone 33 = .ok (.iadd, 1) := by decide +kernel
theorem dX5_tone_34 : decode cX5_tone 34 = .ok (.iaload, 1) := by decide +kernel
theorem dX5_tone_35 : decode cX5_tone 35 = .ok (.istore 4, 2) := by decide +kernel
theorem dX5_tone_37 : decode cX5_tone 37 = .ok (.aload_n 0, 1) := by decide +kernel
theorem dX5_tone_38 : decode cX5_tone 38 = .ok (.getfield 7, 3) := by decide +kernel
theorem dX5_tone_41 : decode cX5_tone 41 = .ok (.bipush 8, 2) := by decide +kernel
theorem dX5_tone_43 : decode cX5_tone 43 = .ok (.iload_n 2, 1) := by decide +kernel
theorem dX5_tone_44 : decode cX5_tone 44 = .ok (.imul, 1) := by decide +kernel
theorem dX5_tone_45 : decode cX5_tone 45 = .ok (.iload_n 1, 1) := by decide +kernel
theorem dX5_tone_46 : decode cX5_tone 46 = .ok (.iadd, 1) := by decide +kernel
theorem dX5_tone_47 : decode cX5_tone 47 = .ok (.iload_n 3, 1) := by decide +kernel
theorem dX5_tone_48 : decode cX5_tone 48 = .ok (.iastore, 1) := by decide +kernel
theorem dX5_tone_49 : decode cX5_tone 49 = .ok (.iload 4, 2) := by decide +kernel
theorem dX5_tone_51 : decode cX5_tone 51 = .ok (.ireturn, 1) := by decide +kernel
set_option maxRecDepth 20000 in
theorem ggX5_shade_X5_isCell : GoodIn wsX5_shade wsX5_isCell := goodIn_r _ [5, 6, 7, 4, 8] (by decide +kernel) (by decide +kernel)
set_option maxRecDepth 20000 in
theorem gX5_shade_X5_isCell : GoodIn wsX5_shade (va_wsS RX5 58 yX5_isCell wsX5_isCell) := goodIn_app (goodIn_of _ (by decide +kernel)) ggX5_shade_X5_isCell
set_option maxRecDepth 20000 in
theorem ggX5_shade_X5_in : GoodIn wsX5_shade wsX5_in := goodIn_r _ [8] (by decide +kernel) (by decide +kernel)
set_option maxRecDepth 20000 in
theorem gX5_shade_X5_in : GoodIn wsX5_shade (va_wsS RX5 54 yX5_in wsX5_in) := goodIn_app (goodIn_of _ (by decide +kernel)) ggX5_shade_X5_in
theorem dX5_shade_0 : decode cX5_shade 0 = .ok (.iload_n 1, 1) := by decide +kernel
theorem dX5_shade_1 : decode cX5_shade 1 = .ok (.iload_n 2, 1) := by decide +kernel
theorem dX5_shade_2 : decode cX5_shade 2 = .ok (.invokestatic 58, 3) := by decide +kernel
theorem dX5_shade_5 : decode cX5_shade 5 = .ok (.ifCond .eq 12, 3) := by decide +kernel
theorem dX5_shade_8 : decode cX5_shade 8 = .ok (.iload_n 3, 1) := by decide +kernel
theorem dX5_shade_9 : decode cX5_shade 9 = .ok (.iload 4, 2) := by decide +kernel
theorem dX5_shade_11 : decode cX5_shade 11 = .ok (.invokestatic 58, 3) := by decide +kernel
theorem dX5_shade_14 : decode cX5_shade 14 = .ok (.ifCond .ne 6, 3) := by decide +kernel
theorem dX5_shade_17 : decode cX5_shade 17 = .ok (.bipush (-2), 2) := by decide +kernel
theorem dX5_shade_19 : decode cX5_shade 19 = .ok (.ireturn, 1) := by decide +kernel
theorem dX5_shade_20 : decode cX5_shade 20 = .ok (.iload 5, 2) := by decide +kernel
theorem dX5_shade_22 : decode cX5_shade 22 = .ok (.iconst 0, 1) := by decide +kernel
theorem dX5_shade_23 : decode cX5_shade 23 = .ok (.bipush 100, 2) := by decide +kernel
theorem dX5_shade_25 : decode cX5_shade 25 = .ok (.invokestatic 54, 3) := by decide +kernel
theorem dX5_shade_28 : decode cX5_shade 28 = .ok (.ifCond .eq 14, 3) := by decide +kernel
theorem dX5_shade_31 : decode cX5_shade 31 = .ok (.iload_n 1, 1) := by decide +kernel
theorem dX5_shade_32 : decode cX5_shade 32 = .ok (.iload_n 3, 1) := by decide +kernel
theorem dX5_shade_33 : decode cX5_shade 33 = .ok (.if_icmp .gt 9, 3) := by decide +kernel
theorem dX5_shade_36 : decode cX5_shade 36 = .ok (.iload_n 2, 1) := by decide +kernel
theorem dX5_shade_37 : decode cX5_shade 37 = .ok (.iload 4, 2) := by decide +kernel
theorem dX5_shade_39 : decode cX5_shade 39 = .ok (.if_icmp .le 6, 3) := by decide +kernel
theorem dX5_shade_42 : decode cX5_shade 42 = .ok (.bipush (-3), 2) := by decide +kernel
theorem dX5_shade_44 : decode cX5_shade 44 = .ok (.ireturn, 1) := by decide +kernel
theorem dX5_shade_45 : decode cX5_shade 45 = .ok (.iconst 0, 1) := by decide +kernel
theorem dX5_shade_46 : decode cX5_shade 46 = .ok (.istore 6, 2) := by decide +kernel
theorem dX5_shade_48 : decode cX5_shade 48 = .ok (.iload_n 2, 1) := by decide +kernel
theorem dX5_shade_49 : decode cX5_shade 49 = .ok (.istore 7, 2) := by decide +kernel
theorem dX5_shade_51 : decode cX5_shade 51 = .ok (.iload 7, 2) := by decide +kernel
theorem dX5_shade_53 : decode cX5_shade 53 = .ok (.iload 4, 2) := by decide +kernel
theorem dX5_shade_55 : decode cX5_shade 55 = .ok (.if_icmp .gt 67, 3) := by decide +kernel
theorem dX5_shade_58 : decode cX5_shade 58 = .ok (.iload_n 1, 1) := by decide +kernel
theorem dX5_shade_59 : decode cX5_shade 59 = .ok (.istore 8, 2) := by decide +kernel
theorem dX5_shade_61 : decode cX5_shade 61 = .ok (.iload 8, 2) := by decide +kernel
theorem dX5_shade_63 : decode cX5_shade 63 = .ok (.iload_n 3, 1) := by decide +kernel
theorem dX5_shade_64 : decode cX5_shade 64 = .ok (.if_icmp .gt 52, 3) := by decide +kernel
theorem dX5_shade_67 : decode cX5_shade 67 = .ok (.iload 6, 2) := by decide +kernel
theorem dX5_shade_69 : decode cX5_shade 69 = .ok (.aload_n 0, 1) := by decide +kernel
theorem dX5_shade_70 : decode cX5_shade 70 = .ok (.getfield 7, 3) := by decide +kernel
theorem dX5_shade_73 : decode cX5_shade 73 = .ok (.bipush 8, 2) := by decide +kernel
theorem dX5_shade_75 : decode cX5_shade 75 = .ok (.iload 7, 2) := by decide +kernel
theorem dX5_shade_77 : decode cX5_shade 77 = .ok (.imul, 1) := by decide +kernel
theorem dX5_shade_78 : decode cX5_shade 78 = .ok (.iload 8, 2) := by decide +kernel
theorem dX5_shade_80 : decode cX5_shade 80 = .ok (.iadd, 1) := by decide +kernel
theorem dX5_shade_81 : decode cX5_shade 81 = .ok (.iaload, 1) := by decide +kernel
theorem dX5_shade_82 : decode cX5_shade 82 = .ok (.iload 5, 2) := by decide +kernel
theorem dX5_shade_84 : decode cX5_shade 84 = .ok (.if_icmp .eq 7, 3) := by decide +kernel
theorem dX5_shade_87 : decode cX5_shade 87 = .ok (.iconst 1, 1) := by decide +kernel
theorem dX5_shade_88 : decode cX5_shade 88 = .ok (.goto 4, 3) := by decide +kernel
theorem dX5_shade_91 : decode cX5_shade 91 = .ok (.iconst 0, 1) := by decide +kernel
theorem dX5_shade_92 : decode cX5_shade 92 = .ok (.iadd, 1) := by decide +kernel
theorem dX5_shade_93 : decode cX5_shade 93 = .ok (.istore 6, 2) := by decide +kernel
theorem dX5_shade_95 : decode cX5_shade 95 = .ok (.aload_n 0, 1) := by decide +kernel
theorem dX5_shade_96 : decode cX5_shade 96 = .ok (.getfield 7, 3) := by decide +kernel
theorem dX5_shade_99 : decode cX5_shade 99 = .ok (.bipush 8, 2) := by decide +kernel
theorem dX5_shade_101 : decode cX5_shade 101 = .ok (.iload 7, 2) := by decide +kernel
theorem dX5_shade_103 : decode cX5_shade 103 = .ok (.imul, 1) := by decide +kernel
theorem dX5_shade_104 : decode cX5_shade 104 = .ok (.iload 8, 2) := by decide +kernel
theorem dX5_shade_106 : decode cX5_shade 106 = .ok (.iadd, 1) := by decide +kernel
theorem dX5_shade_107 : decode cX5_shade 107 = .ok (.iload 5, 2) := by decide +kernel
theorem dX5_shade_109 : decode cX5_shade 109 = .ok (.iastore, 1) := by decide +kernel
theorem dX5_shade_110 : decode cX5_shade 110 = .ok (.iinc 8 1, 3) := by decide +kernel
theorem dX5_shade_113 : decode cX5_shade 113 = .ok (.goto (-52), 3) := by decide +kernel
theorem dX5_shade_116 : decode cX5_shade 116 = .ok (.iinc 7 1, 3) := by decide +kernel
theorem dX5_shade_119 : decode cX5_shade 119 = .ok (.goto (-68), 3) := by decide +kernel
theorem dX5_shade_122 : decode cX5_shade 122 = .ok (.iload 6, 2) := by decide +kernel
theorem dX5_shade_124 : decode cX5_shade 124 = .ok (.ireturn, 1) := by decide +kernel
set_option maxRecDepth 20000 in
theorem ggX5_tell_X5_isCell : GoodIn wsX5_tell wsX5_isCell := goodIn_r _ [6, 7, 8, 5, 9] (by decide +kernel) (by decide +kernel)
set_option maxRecDepth 20000 in
theorem gX5_tell_X5_isCell : GoodIn wsX5_tell (va_wsS RX5 58 yX5_isCell wsX5_isCell) := goodIn_app (goodIn_of _ (by decide +kernel)) ggX5_tell_X5_isCell
set_option maxRecDepth 20000 in
theorem ggX5_tell_X5_in : GoodIn wsX5_tell wsX5_in := goodIn_r _ [9] (by decide +kernel) (by decide +kernel)
set_option maxRecDepth 20000 in
theorem gX5_tell_X5_in : GoodIn wsX5_tell (va_wsS RX5 54 yX5_in wsX5_in) := goodIn_app (goodIn_of _ (by decide +kernel)) ggX5_tell_X5_in
theorem dX5_tell_0 : decode cX5_tell 0 = .ok (.iload_n 1, 1) := by decide +kernel
theorem dX5_tell_1 : decode cX5_tell 1 = .ok (.iload_n 2, 1) := by decide +kernel
theorem dX5_tell_2 : decode cX5_tell 2 = .ok (.invokestatic 58, 3) := by decide +kernel
theorem dX5_tell_5 : decode cX5_tell 5 = .ok (.ifCond .ne 6, 3) := by decide +kernel
theorem dX5_tell_8 : decode cX5_tell 8 = .ok (.bipush (-2), 2) := by decide +kernel
theorem dX5_tell_10 : decode cX5_tell 10 = .ok (.ireturn, 1) := by decide +kernel
theorem dX5_tell_11 : decode cX5_tell 11 = .ok (.iload_n 3, 1) := by decide +kernel
theorem dX5_tell_12 : decode cX5_tell 12 = .ok (.iconst 0, 1) := by decide +kernel
theorem dX5_tell_13 : decode cX5_tell 13 = .ok (.bipush 7, 2) := by decide +kernel
theorem dX5_tell_15 : decode cX5_tell 15 = .ok (.invokestatic 54, 3) := by decide +kernel
theorem dX5_tell_18 : decode cX5_tell 18 = .ok (.ifCond .ne 6, 3) := by decide +kernel
theorem dX5_tell_21 : decode cX5_tell 21 = .ok (.bipush (-3), 2) := by decide +kernel
theorem dX5_tell_23 : decode cX5_tell 23 = .ok (.ireturn, 1) := by decide +kernel
theorem dX5_tell_24 : decode cX5_tell 24 = .ok (.aload_n 0, 1) := by decide +kernel
theorem dX5_tell_25 : decode cX5_tell 25 = .ok (.getfield 13, 3) := by decide +kernel
theorem dX5_tell_28 : decode cX5_tell 28 = .ok (.bipush 8, 2) := by decide +kernel
theorem dX5_tell_30 : decode cX5_tell 30 = .ok (.iload_n 2, 1) := by decide +kernel
theorem dX5_tell_31 : decode cX5_tell 31 = .ok (.imul, 1) := by decide +kernel
theorem dX5_tell_32 : decode cX5_tell 32 = .ok (.iload_n 1, 1) := by decide +kernel
theorem dX5_tell_33 : decode cX5_tell 33 = .ok (.iadd, 1) := by decide +kernel
theorem dX5_tell_34 : decode cX5_tell 34 = .ok (.iaload, 1) := by decide +kernel
theorem dX5_tell_35 : decode cX5_tell 35 = .ok (.istore 4, 2) := by decide +kernel
theorem dX5_tell_37 : decode cX5_tell 37 = .ok (.aload_n 0, 1) := by decide +kernel
theorem dX5_tell_38 : decode cX5_tell 38 = .ok (.getfield 13, 3) := by decide +kernel
theorem dX5_tell_41 : decode cX5_tell 41 = .ok (.bipush 8, 2) := by decide +kernel
theorem dX5_tell_43 : decode cX5_tell 43 = .ok (.iload_n 2, 1) := by decide +kernel
theorem dX5_tell_44 : decode cX5_tell 44 = .ok (.imul, 1) := by decide +kernel
theorem dX5_tell_45 : decode cX5_tell 45 = .ok (.iload_n 1, 1) := by decide +kernel
theorem dX5_tell_46 : decode cX5_tell 46 = .ok (.iadd, 1) := by decide +kernel
theorem dX5_tell_47 : decode cX5_tell 47 = .ok (.iload_n 3, 1) := by decide +kernel
theorem dX5_tell_48 : decode cX5_tell 48 = .ok (.iastore, 1) := by decide +kernel
theorem dX5_tell_49 : decode cX5_tell 49 = .ok (.aload_n 0, 1) := by decide +kernel
theorem dX5_tell_50 : decode cX5_tell 50 = .ok (.getfield 16, 3) := by decide +kernel
theorem dX5_tell_53 : decode cX5_tell 53 = .ok (.bipush 8, 2) := by decide +kernel
theorem dX5_tell_55 : decode cX5_tell 55 = .ok (.iload_n 2, 1) := by decide +kernel
theorem dX5_tell_56 : decode cX5_tell 56 = .ok (.imul, 1) := by decide +kernel
theorem dX5_tell_57 : decode cX5_tell 57 = .ok (.iload_n 1, 1) := by decide +kernel
theorem dX5_tell_58 : decode cX5_tell 58 = .ok (.iadd, 1) := by decide +kernel
theorem dX5_tell_59 : decode cX5_tell 59 = .ok (.iconst 1, 1) := by decide +kernel
theorem dX5_tell_60 : decode cX5_tell 60 = .ok (.bastore, 1) := by decide +kernel
theorem dX5_tell_61 : decode cX5_tell 61 = .ok (.iload 4, 2) := by decide +kernel
theorem dX5_tell_63 : decode cX5_tell 63 = .ok (.ireturn, 1) := by decide +kernel
set_option maxRecDepth 20000 in
theorem ggX5_free_X5_isCell : GoodIn wsX5_free wsX5_isCell := goodIn_r _ [5, 6, 7, 4, 8] (by decide +kernel) (by decide +kernel)
set_option maxRecDepth 20000 in
theorem gX5_free_X5_isCell : GoodIn wsX5_free (va_wsS RX5 58 yX5_isCell wsX5_isCell) := goodIn_app (goodIn_of _ (by decide +kernel)) ggX5_free_X5_isCell
theorem dX5_free_0 : decode cX5_free 0 = .ok (.iload_n 1, 1) := by decide +kernel
theorem dX5_free_1 : decode cX5_free 1 = .ok (.iload_n 2, 1) := by decide +kernel
theorem dX5_free_2 : decode cX5_free 2 = .ok (.invokestatic 58, 3) := by decide +kernel
theorem dX5_free_5 : decode cX5_free 5 = .ok (.ifCond .ne 6, 3) := by decide +kernel
theorem dX5_free_8 : decode cX5_free 8 = .ok (.bipush (-2), 2) := by decide +kernel
theorem dX5_free_10 : decode cX5_free 10 = .ok (.ireturn, 1) := by decide +kernel
theorem dX5_free_11 : decode cX5_free 11 = .ok (.aload_n 0, 1) := by decide +kernel
theorem dX5_free_12 : decode cX5_free 12 = .ok (.getfield 16, 3) := by decide +kernel
theorem dX5_free_15 : decode cX5_free 15 = .ok (.bipush 8, 2) := by decide +kernel
theorem dX5_free_17 : decode cX5_free 17 = .ok (.iload_n 2, 1) := by decide +kernel
theorem dX5_free_18 : decode cX5_free 18 = .ok (.imul, 1) := by decide +kernel
theorem dX5_free_19 : decode cX5_free 19 = .ok (.iload_n 1, 1) := by decide +kernel
theorem dX5_free_20 : decode cX5_free 20 = .ok (.iadd, 1) := by decide +kernel
theorem dX5_free_21 : decode cX5_free 21 = .ok (.baload, 1) := by decide +kernel
theorem dX5_free_22 : decode cX5_free 22 = .ok (.ifCond .ne 6, 3) := by decide +kernel
theorem dX5_free_25 : decode cX5_free 25 = .ok (.bipush (-4), 2) := by decide +kernel
theorem dX5_free_27 : decode cX5_free 27 = .ok (.ireturn, 1) := by decide +kernel
theorem dX5_free_28 : decode cX5_free 28 = .ok (.aload_n 0, 1) := by decide +kernel
theorem dX5_free_29 : decode cX5_free 29 = .ok (.getfield 16, 3) := by decide +kernel
theorem dX5_free_32 : decode cX5_free 32 = .ok (.bipush 8, 2) := by decide +kernel
theorem dX5_free_34 : decode cX5_free 34 = .ok (.iload_n 2, 1) := by decide +kernel
theorem dX5_free_35 : decode cX5_free 35 = .ok (.imul, 1) := by decide +kernel
theorem dX5_free_36 : decode cX5_free 36 = .ok (.iload_n 1, 1) := by decide +kernel
theorem dX5_free_37 : decode cX5_free 37 = .ok (.iadd, 1) := by decide +kernel
theorem dX5_free_38 : decode cX5_free 38 = .ok (.iconst 0, 1) := by decide +kernel
theorem dX5_free_39 : decode cX5_free 39 = .ok (.bastore, 1) := by decide +kernel
theorem dX5_free_40 : decode cX5_free 40 = .ok (.iconst 1, 1) := by decide +kernel
theorem dX5_free_41 : decode cX5_free 41 = .ok (.ireturn, 1) := by decide +kernel
set_option maxRecDepth 20000 in
theorem ggX5_off_X5_isCell : GoodIn wsX5_off wsX5_isCell := goodIn_r _ [5, 6, 7, 4, 8] (by decide +kernel) (by decide +kernel)
set_option maxRecDepth 20000 in
theorem gX5_off_X5_isCell : GoodIn wsX5_off (va_wsS RX5 58 yX5_isCell wsX5_isCell) := goodIn_app (goodIn_of _ (by decide +kernel)) ggX5_off_X5_isCell
set_option maxRecDepth 20000 in
theorem ggX5_off_X5_size : GoodIn wsX5_off wsX5_size := goodIn_r _ [11] (by decide +kernel) (by decide +kernel)
set_option maxRecDepth 20000 in
theorem gX5_off_X5_size : GoodIn wsX5_off (va_wsS RX5 62 yX5_size wsX5_size) := goodIn_app (goodIn_of _ (by decide +kernel)) ggX5_off_X5_size
set_option maxRecDepth 20000 in
theorem ggX5_off_X5_less : GoodIn wsX5_off wsX5_less := goodIn_r _ [14] (by decide +kernel) (by decide +kernel)
set_option maxRecDepth 20000 in
theorem gX5_off_X5_less : GoodIn wsX5_off (va_wsS RX5 65 yX5_less wsX5_less) := goodIn_app (goodIn_of _ (by decide +kernel)) ggX5_off_X5_less
theorem dX5_off_0 : decode cX5_off 0 = .ok (.iload_n 1, 1) := by decide +kernel
theorem dX5_off_1 : decode cX5_off 1 = .ok (.iload_n 2, 1) := by decide +kernel
theorem dX5_off_2 : decode cX5_off 2 = .ok (.invokestatic 58, 3) := by decide +kernel
theorem dX5_off_5 : decode cX5_off 5 = .ok (.ifCond .ne 5, 3) := by decide +kernel
theorem dX5_off_8 : decode cX5_off 8 = .ok (.iconst 0, 1) := by decide +kernel
theorem dX5_off_9 : decode cX5_off 9 = .ok (.ireturn, 1) := by decide +kernel
theorem dX5_off_10 : decode cX5_off 10 = .ok (.aload_n 0, 1) := by decide +kernel
theorem dX5_off_11 : decode cX5_off 11 = .ok (.getfield 13, 3) := by decide +kernel
theorem dX5_off_14 : decode cX5_off 14 = .ok (.bipush 8, 2) := by decide +kernel
theorem dX5_off_16 : decode cX5_off 16 = .ok (.iload_n 2, 1) := by decide +kernel
theorem dX5_off_17 : decode cX5_off 17 = .ok (.imul, 1) := by decide +kernel
theorem dX5_off_18 : decode cX5_off 18 = .ok (.iload_n 1, 1) := by decide +kernel
theorem dX5_off_19 : decode cX5_off 19 = .ok (.iadd, 1) := by decide +kernel
theorem dX5_off_20 : decode cX5_off 20 = .ok (.iaload, 1) := by decide +kernel
theorem dX5_off_21 : decode cX5_off 21 = .ok (.iload_n 3, 1) := by decide +kernel
theorem dX5_off_22 : decode cX5_off 22 = .ok (.isub, 1) := by decide +kernel
theorem dX5_off_23 : decode cX5_off 23 = .ok (.invokestatic 62, 3) := by decide +kernel
theorem dX5_off_26 : decode cX5_off 26 = .ok (.istore 4, 2) := by decide +kernel
theorem dX5_off_28 : decode cX5_off 28 = .ok (.iload 4, 2) := by decide +kernel
theorem dX5_off_30 : decode cX5_off 30 = .ok (.bipush 8, 2) := by decide +kernel
theorem dX5_off_32 : decode cX5_off 32 = .ok (.iload 4, 2) := by decide +kernel
theorem dX5_off_34 : decode cX5_off 34 = .ok (.isub, 1) := by decide +kernel
theorem dX5_off_35 : decode cX5_off 35 = .ok (.invokestatic 65, 3) := by decide +kernel
theorem dX5_off_38 : decode cX5_off 38 = .ok (.istore 4, 2) := by decide +kernel
theorem dX5_off_40 : decode cX5_off 40 = .ok (.iload 4, 2) := by decide +kernel
theorem dX5_off_42 : decode cX5_off 42 = .ok (.iload 4, 2) := by decide +kernel
theorem dX5_off_44 : decode cX5_off 44 = .ok (.imul, 1) := by decide +kernel
theorem dX5_off_45 : decode cX5_off 45 = .ok (.ireturn, 1) := by decide +kernel
set_option maxRecDepth 20000 in
theorem ggX5_offOf_X5_off : GoodIn wsX5_offOf wsX5_off := goodIn_r _ [5, 6, 7, 8, 4, 9, 10, 11, 12, 13, 14, 15, 16, 17, 18, 19, 20, 21, 22, 23, 24, 25, 26, 27, 28, 29, 30, 31, 32, 33, 34] (by decide +kernel) (by decide +kernel)
set_option maxRecDepth 20000 in
theorem gX5_offOf_X5_off : GoodIn wsX5_offOf (wsV RX5 69 RX5 yX5_off wsX5_off) := goodIn_app (goodIn_of _ (by decide +kernel)) ggX5_offOf_X5_off
theorem dX5_offOf_0 : decode cX5_offOf 0 = .ok (.aload_n 0, 1) := by decide +kernel
theorem dX5_offOf_1 : decode cX5_offOf 1 = .ok (.iload_n 1, 1) := by decide +kernel
theorem dX5_offOf_2 : decode cX5_offOf 2 = .ok (.iconst 1, 1) := by decide +kernel
theorem dX5_offOf_3 : decode cX5_offOf 3 = .ok (.isub, 1) := by decide +kernel
theorem dX5_offOf_4 : decode cX5_offOf 4 = .ok (.iload_n 2, 1) := by decide +kernel
theorem dX5_offOf_5 : decode cX5_offOf 5 = .ok (.iload_n 3, 1) := by decide +kernel
theorem dX5_offOf_6 : decode cX5_offOf 6 = .ok (.invokevirtual 69, 3) := by decide +kernel
theorem dX5_offOf_9 : decode cX5_offOf 9 = .ok (.aload_n 0, 1) := by decide +kernel
theorem dX5_offOf_10 : decode cX5_offOf 10 = .ok (.iload_n 1, 1) := by decide +kernel
theorem dX5_offOf_11 : decode cX5_offOf 11 = .ok (.iconst 1, 1) := by decide +kernel
theorem dX5_offOf_12 : decode cX5_offOf 12 = .ok (.iadd, 1) := by decide +kernel
theorem dX5_offOf_13 : decode cX5_offOf 13 = .ok (.iload_n 2, 1) := by decide +kernel
theorem dX5_offOf_14 : decode cX5_offOf 14 = .ok (.iload_n 3, 1) := by decide +kernel
theorem dX5_offOf_15 : decode cX5_offOf 15 = .ok (.invokevirtual 69, 3) := by decide +kernel
theorem dX5_offOf_18 : decode cX5_offOf 18 = .ok (.iadd, 1) := by decide +kernel
theorem dX5_offOf_19 : decode cX5_offOf 19 = .ok (.aload_n 0, 1) := by decide +kernel
theorem dX5_offOf_20 : decode cX5_offOf 20 = .ok (.iload_n 1, 1) := by decide +kernel
theorem dX5_offOf_21 : decode cX5_offOf 21 = .ok (.iload_n 2, 1) := by decide +kernel
theorem dX5_offOf_22 : decode cX5_offOf 22 = .ok (.iconst 1, 1) := by decide +kernel
theorem dX5_offOf_23 : decode cX5_offOf 23 = .ok (.isub, 1) := by decide +kernel
theorem dX5_offOf_24 : decode cX5_offOf 24 = .ok (.iload_n 3, 1) := by decide +kernel
theorem dX5_offOf_25 : decode cX5_offOf 25 = .ok (.invokevirtual 69, 3) := by decide +kernel
theorem dX5_offOf_28 : decode cX5_offOf 28 = .ok (.iadd, 1) := by decide +kernel
theorem dX5_offOf_29 : decode cX5_offOf 29 = .ok (.aload_n 0, 1) := by decide +kernel
theorem dX5_offOf_30 : decode cX5_offOf 30 = .ok (.iload_n 1, 1) := by decide +kernel
theorem dX5_offOf_31 : decode cX5_offOf 31 = .ok (.iload_n 2, 1) := by decide +kernel
theorem dX5_offOf_32 : decode cX5_offOf 32 = .ok (.iconst 1, 1) := by decide +kernel
theorem dX5_offOf_33 : decode cX5_offOf 33 = .ok (.iadd, 1) := by decide +kernel
theorem dX5_offOf_34 : decode cX5_offOf 34 = .ok (.iload_n 3, 1) := by decide +kernel
theorem dX5_offOf_35 : decode cX5_offOf 35 = .ok (.invokevirtual 69, 3) := by decide +kernel
theorem dX5_offOf_38 : decode cX5_offOf 38 = .ok (.iadd, 1) := by decide +kernel
theorem dX5_offOf_39 : decode cX5_offOf 39 = .ok (.ireturn, 1) := by decide +kernel
set_option maxRecDepth 20000 in
theorem ggX5_goThrough_X5_offOf : GoodIn wsX5_goThrough wsX5_offOf := goodIn_r _ [7, 8, 9, 10, 6, 11, 2, 12, 13, 14, 15, 16, 17, 18, 19, 20, 21, 22, 23, 24, 25, 26, 27, 28, 29, 30, 31, 32, 33, 34, 35, 36, 37, 38, 39] (by decide +kernel) (by decide +kernel)
set_option maxRecDepth 20000 in
theorem gX5_goThrough_X5_offOf : GoodIn wsX5_goThrough (wsV RX5 73 RX5 yX5_offOf wsX5_offOf) := goodIn_app (goodIn_of _ (by decide +kernel)) ggX5_goThrough_X5_offOf
theorem dX5_goThrough_0 : decode cX5_goThrough 0 = .ok (.iconst 0, 1) := by decide +kernel
theorem dX5_goThrough_1 : decode cX5_goThrough 1 = .ok (.istore_n 1, 1) := by decide +kernel
theorem dX5_goThrough_2 : decode cX5_goThrough 2 = .ok (.iconst 0, 1) := by decide +kernel
theorem dX5_goThrough_3 : decode cX5_goThrough 3 = .ok (.istore_n 2, 1) := by decide +kernel
theorem dX5_goThrough_4 : decode cX5_goThrough 4 = .ok (.iload_n 2, 1) := by decide +kernel
theorem dX5_goThrough_5 : decode cX5_goThrough 5 = .ok (.bipush 64, 2) := by decide +kernel
theorem dX5_goThrough_7 : decode cX5_goThrough 7 = .ok (.if_icmp .ge 116, 3) := by decide +kernel
theorem dX5_goThrough_10 : decode cX5_goThrough 10 = .ok (.aload_n 0, 1) := by decide +kernel
theorem dX5_goThrough_11 : decode cX5_goThrough 11 = .ok (.getfield 16, 3) := by decide +kernel
theorem dX5_goThrough_14 : decode cX5_goThrough 14 = .ok (.iload_n 2, 1) := by decide +kernel
theorem dX5_goThrough_15 : decode cX5_goThrough 15 = .ok (.baload, 1) := by decide +kernel
theorem dX5_goThrough_16 : decode cX5_goThrough 16 = .ok (.ifCond .ne 101, 3) := by decide +kernel
theorem dX5_goThrough_19 : decode cX5_goThrough 19 = .ok (.iconst 0, 1) := by decide +kernel
theorem dX5_goThrough_20 : decode cX5_goThrough 20 = .ok (.istore_n 3, 1) := by decide +kernel
theorem dX5_goThrough_21 : decode cX5_goThrough 21 = .ok (.iconst 1, 1) := by decide +kernel
theorem dX5_goThrough_22 : decode cX5_goThrough 22 = .ok (.istore 4, 2) := by decide +kernel
theorem dX5_goThrough_24 : decode cX5_goThrough 24 = .ok (.iload 4, 2) := by decide +kernel
theorem dX5_goThrough_26 : decode cX5_goThrough 26 = .ok (.bipush 8, 2) := by decide +kernel
theorem dX5_goThrough_28 : decode cX5_goThrough 28 = .ok (.if_icmp .ge 46, 3) := by decide +kernel
theorem dX5_goThrough_31 : decode cX5_goThrough 31 = .ok (.aload_n 0, 1) := by decide +kernel
theorem dX5_goThrough_32 : decode cX5_goThrough 32 = .ok (.iload_n 2, 1) := by decide +kernel
theorem dX5_goThrough_33 : decode cX5_goThrough 33 = .ok (.bipush 8, 2) := by decide +kernel
theorem dX5_goThrough_35 : decode cX5_goThrough 35 = .ok (.irem, 1) := by decide +kernel
theorem dX5_goThrough_36 : decode cX5_goThrough 36 = .ok (.iload_n 2, 1) := by decide +kernel
theorem dX5_goThrough_37 : decode cX5_goThrough 37 = .ok (.bipush 8, 2) := by decide +kernel
theorem dX5_goThrough_39 : decode cX5_goThrough 39 = .ok (.idiv, 1) := by decide +kernel
theorem dX5_goThrough_40 : decode cX5_goThrough 40 = .ok (.iload 4, 2) := by decide +kernel
theorem dX5_goThrough_42 : decode cX5_goThrough 42 = .ok (.invokevirtual 73, 3) := by decide +kernel
theorem dX5_goThrough_45 : decode cX5_goThrough 45 = .ok (.aload_n 0, 1) := by decide +kernel
theorem dX5_goThrough_46 : decode cX5_goThrough 46 = .ok (.iload_n 2, 1) := by decide +kernel
theorem dX5_goThrough_47 : decode cX5_goThrough 47 = .ok (.bipush 8, 2) := by decide +kernel
theorem dX5_goThrough_49 : decode cX5_goThrough 49 = .ok (.irem, 1) := by decide +kernel
theorem dX5_goThrough_50 : decode cX5_goThrough 50 = .ok (.iload_n 2, 1) := by decide +kernel
theorem dX5_goThrough_51 : decode cX5_goThrough 51 = .ok (.bipush 8, 2) := by decide +kernel
theorem dX5_goThrough_53 : decode cX5_goThrough 53 = .ok (.idiv, 1) := by decide +kernel
theorem dX5_goThrough_54 : decode cX5_goThrough 54 = .ok (.iload_n 3, 1) := by decide +kernel
theorem dX5_goThrough_55 : decode cX5_goThrough 55 = .ok (.invokevirtual 73, 3) := by decide +kernel
theorem dX5_goThrough_58 : decode cX5_goThrough 58 = .ok (.if_icmp .ge 8, 3) := by decide +kernel
theorem dX5_goThrough_61 : decode cX5_goThrough 61 = .ok (.iload 4, 2) := by decide +kernel
theorem dX5_goThrough_63 : decode cX5_goThrough 63 = .ok (.goto 4, 3) := by decide +kernel
theorem dX5_goThrough_66 : decode cX5_goThrough 66 = .ok (.iload_n 3, 1) := by decide +kernel
theorem dX5_goThrough_67 : decode cX5_goThrough 67 = .ok (.istore_n 3, 1) := by decide +kernel
theorem dX5_goThrough_68 : decode cX5_goThrough 68 = .ok (.iinc 4 1, 3) := by decide +kernel
theorem dX5_goThrough_71 : decode cX5_goThrough 71 = .ok (.goto (-47), 3) := by decide +kernel
theorem dX5_goThrough_74 : decode cX5_goThrough 74 = .ok (.aload_n 0, 1) := by decide +kernel
theorem dX5_goThrough_75 : decode cX5_goThrough 75 = .ok (.iload_n 2, 1) := by decide +kernel
theorem dX5_goThrough_76 : decode cX5_goThrough 76 = .ok (.bipush 8, 2) := by decide +kernel
theorem dX5_goThrough_78 : decode cX5_goThrough 78 = .ok (.irem, 1) := by decide +kernel
theorem dX5_goThrough_79 : decode cX5_goThrough 79 = .ok (.iload_n 2, 1) := by decide +kernel
theorem dX5_goThrough_80 : decode cX5_goThrough 80 = .ok (.bipush 8, 2) := by decide +kernel
theorem dX5_goThrough_82 : decode cX5_goThrough 82 = .ok (.idiv, 1) := by decide +kernel
theorem dX5_goThrough_83 : decode cX5_goThrough 83 = .ok (.iload_n 3, 1) := by decide +kernel
theorem dX5_goThrough_84 : decode cX5_goThrough 84 = .ok (.invokevirtual 73, 3) := by decide +kernel
theorem dX5_goThrough_87 : decode cX5_goThrough 87 = .ok (.aload_n 0, 1) := by decide +kernel
theorem dX5_goThrough_88 : decode cX5_goThrough 88 = .ok (.iload_n 2, 1) := by decide +kernel
theorem dX5_goThrough_89 : decode cX5_goThrough 89 = .ok (.bipush 8, 2) := by decide +kernel
theorem dX5_goThrough_91 : decode cX5_goThrough 91 = .ok (.irem, 1) := by decide +kernel
theorem dX5_goThrough_92 : decode cX5_goThrough 92 = .ok (.iload_n 2, 1) := by decide +kernel
theorem dX5_goThrough_93 : decode cX5_goThrough 93 = .ok (.bipush 8, 2) := by decide +kernel
theorem dX5_goThrough_95 : decode cX5_goThrough 95 = .ok (.idiv, 1) := by decide +kernel
theorem dX5_goThrough_96 : decode cX5_goThrough 96 = .ok (.aload_n 0, 1) := by decide +kernel
theorem dX5_goThrough_97 : decode cX5_goThrough 97 = .ok (.getfield 13, 3) := by decide +kernel
theorem dX5_goThrough_100 : decode cX5_goThrough 100 = .ok (.iload_n 2, 1) := by decide +kernel
theorem dX5_goThrough_101 : decode cX5_goThrough 101 = .ok (.iaload, 1) := by decide +kernel
theorem dX5_goThrough_102 : decode cX5_goThrough 102 = .ok (.invokevirtual 73, 3) := by decide +kernel
theorem dX5_goThrough_105 : decode cX5_goThrough 105 = .ok (.if_icmp .ge 12, 3) := by decide +kernel
theorem dX5_goThrough_108 : decode cX5_goThrough 108 = .ok (.aload_n 0, 1) := by decide +kernel
theorem dX5_goThrough_109 : decode cX5_goThrough 109 = .ok (.getfield 13, 3) := by decide +kernel
theorem dX5_goThrough_112 : decode cX5_goThrough 112 = .ok (.iload_n 2, 1) := by decide +kernel
theorem dX5_goThrough_113 : decode cX5_goThrough 113 = .ok (.iload_n 3, 1) := by decide +kernel
theorem dX5_goThrough_114 : decode cX5_goThrough 114 = .ok (.iastore, 1) := by decide +kernel
theorem dX5_goThrough_115 : decode cX5_goThrough 115 = .ok (.iconst 1, 1) := by decide +kernel
theorem dX5_goThrough_116 : decode cX5_goThrough 116 = .ok (.istore_n 1, 1) := by decide +kernel
theorem dX5_goThrough_117 : decode cX5_goThrough 117 = .ok (.iinc 2 1, 3) := by decide +kernel
theorem dX5_goThrough_120 : decode cX5_goThrough 120 = .ok (.goto (-116), 3) := by decide +kernel
theorem dX5_goThrough_123 : decode cX5_goThrough 123 = .ok (.iload_n 1, 1) := by decide +kernel
theorem dX5_goThrough_124 : decode cX5_goThrough 124 = .ok (.ireturn, 1) := by decide +kernel
set_option maxRecDepth 20000 in
theorem ggX5_even_X5_goThrough : GoodIn wsX5_even wsX5_goThrough := goodIn_r _ [5, 6, 7, 8, 9, 10, 4, 11, 12, 13, 14, 15, 16, 17, 18, 19, 20, 21, 22, 23, 24, 25, 26, 27, 28, 29, 30, 31, 32, 33, 34, 35, 36, 37, 38, 39, 40, 41, 42, 43] (by decide +kernel) (by decide +kernel)
set_option maxRecDepth 20000 in
theorem gX5_even_X5_goThrough : GoodIn wsX5_even (wsV RX5 76 RX5 yX5_goThrough wsX5_goThrough) := goodIn_app (goodIn_of _ (by decide +kernel)) ggX5_even_X5_goThrough
theorem dX5_even_0 : decode cX5_even 0 = .ok (.iconst 1, 1) := by decide +kernel
theorem dX5_even_1 : decode cX5_even 1 = .ok (.istore_n 1, 1) := by decide +kernel
theorem dX5_even_2 : decode cX5_even 2 = .ok (.aload_n 0, 1) := by decide +kernel
theorem dX5_even_3 : decode cX5_even 3 = .ok (.invokevirtual 76, 3) := by decide +kernel
theorem dX5_even_6 : decode cX5_even 6 = .ok (.ifCond .eq 15, 3) := by decide +kernel
theorem dX5_even_9 : decode cX5_even 9 = .ok (.iload_n 1, 1) := by decide +kernel
theorem dX5_even_10 : decode cX5_even 10 = .ok (.bipush 20, 2) := by decide +kernel
theorem dX5_even_12 : decode cX5_even 12 = .ok (.if_icmp .ge 9, 3) := by decide +kernel
theorem dX5_even_15 : decode cX5_even 15 = .ok (.iinc 1 1, 3) := by decide +kernel
theorem dX5_even_18 : decode cX5_even 18 = .ok (.goto (-16), 3) := by decide +kernel
theorem dX5_even_21 : decode cX5_even 21 = .ok (.iload_n 1, 1) := by decide +kernel
theorem dX5_even_22 : decode cX5_even 22 = .ok (.ireturn, 1) := by decide +kernel
set_option maxRecDepth 20000 in
theorem ggX5_at_X5_isCell : GoodIn wsX5_at wsX5_isCell := goodIn_r _ [7, 8, 9, 6, 10] (by decide +kernel) (by decide +kernel)
set_option maxRecDepth 20000 in
theorem gX5_at_X5_isCell : GoodIn wsX5_at (va_wsS RX5 58 yX5_isCell wsX5_isCell) := goodIn_app (goodIn_of _ (by decide +kernel)) ggX5_at_X5_isCell
theorem dX5_at_0 : decode cX5_at 0 = .ok (.iload_n 1, 1) := by decide +kernel
theorem dX5_at_1 : decode cX5_at 1 = .ok (.iload_n 2, 1) := by decide +kernel
theorem dX5_at_2 : decode cX5_at 2 = .ok (.invokestatic 58, 3) := by decide +kernel
theorem dX5_at_5 : decode cX5_at 5 = .ok (.ifCond .ne 6, 3) := by decide +kernel
theorem dX5_at_8 : decode cX5_at 8 = .ok (.bipush (-2), 2) := by decide +kernel
theorem dX5_at_10 : decode cX5_at 10 = .ok (.ireturn, 1) := by decide +kernel
theorem dX5_at_11 : decode cX5_at 11 = .ok (.bipush 8, 2) := by decide +kernel
theorem dX5_at_13 : decode cX5_at 13 = .ok (.iload_n 2, 1) := by decide +kernel
theorem dX5_at_14 : decode cX5_at 14 = .ok (.imul, 1) := by decide +kernel
theorem dX5_at_15 : decode cX5_at 15 = .ok (.iload_n 1, 1) := by decide +kernel
theorem dX5_at_16 : decode cX5_at 16 = .ok (.iadd, 1) := by decide +kernel
theorem dX5_at_17 : decode cX5_at 17 = .ok (.istore 4, 2) := by decide +kernel
theorem dX5_at_19 : decode cX5_at 19 = .ok (.iload_n 3, 1) := by decide +kernel
theorem dX5_at_20 : decode cX5_at 20 = .ok (.ifCond .ne 13, 3) := by decide +kernel
theorem dX5_at_23 : decode cX5_at 23 = .ok (.aload_n 0, 1) := by decide +kernel
theorem dX5_at_24 : decode cX5_at 24 = .ok (.getfield 7, 3) := by decide +kernel
theorem dX5_at_27 : decode cX5_at 27 = .ok (.iload 4, 2) := by decide +kernel
theorem dX5_at_29 : decode cX5_at 29 = .ok (.iaload, 1) := by decide +kernel
theorem dX5_at_30 : decode cX5_at 30 = .ok (.goto 43, 3) := by decide +kernel
theorem dX5_at_33 : decode cX5_at 33 = .ok (.iload_n 3, 1) := by decide +kernel
theorem dX5_at_34 : decode cX5_at 34 = .ok (.iconst 1, 1) := by decide +kernel
theorem dX5_at_35 : decode cX5_at 35 = .ok (.if_icmp .ne 13, 3) := by decide +kernel
theorem dX5_at_38 : decode cX5_at 38 = .ok (.aload_n 0, 1) := by decide +kernel
theorem dX5_at_39 : decode cX5_at 39 = .ok (.getfield 13, 3) := by decide +kernel
theorem dX5_at_42 : decode cX5_at 42 = .ok (.iload 4, 2) := by decide +kernel
theorem dX5_at_44 : decode cX5_at 44 = .ok (.iaload, 1) := by decide +kernel
theorem dX5_at_45 : decode cX5_at 45 = .ok (.goto 28, 3) := by decide +kernel
theorem dX5_at_48 : decode cX5_at 48 = .ok (.iload_n 3, 1) := by decide +kernel
theorem dX5_at_49 : decode cX5_at 49 = .ok (.iconst 2, 1) := by decide +kernel
theorem dX5_at_50 : decode cX5_at 50 = .ok (.if_icmp .ne 21, 3) := by decide +kernel
theorem dX5_at_53 : decode cX5_at 53 = .ok (.aload_n 0, 1) := by decide +kernel
theorem dX5_at_54 : decode cX5_at 54 = .ok (.getfield 16, 3) := by decide +kernel
theorem dX5_at_57 : decode cX5_at 57 = .ok (.iload 4, 2) := by decide +kernel
theorem dX5_at_59 : decode cX5_at 59 = .ok (.baload, 1) := by decide +kernel
theorem dX5_at_60 : decode cX5_at 60 = .ok (.ifCond .eq 7, 3) := by decide +kernel
theorem dX5_at_63 : decode cX5_at 63 = .ok (.iconst 1, 1) := by decide +kernel
theorem dX5_at_64 : decode cX5_at 64 = .ok (.goto 9, 3) := by decide +kernel
theorem dX5_at_67 : decode cX5_at 67 = .ok (.iconst 0, 1) := by decide +kernel
theorem dX5_at_68 : decode cX5_at 68 = .ok (.goto 5, 3) := by decide +kernel
theorem dX5_at_71 : decode cX5_at 71 = .ok (.bipush (-3), 2) := by decide +kernel
theorem dX5_at_73 : decode cX5_at 73 = .ok (.ireturn, 1) := by decide +kernel
theorem dX5_grows_0 : decode cX5_grows 0 = .ok (.iload_n 1, 1) := by decide +kernel
theorem dX5_grows_1 : decode cX5_grows 1 = .ok (.iload_n 0, 1) := by decide +kernel
theorem dX5_grows_2 : decode cX5_grows 2 = .ok (.isub, 1) := by decide +kernel
theorem dX5_grows_3 : decode cX5_grows 3 = .ok (.bipush 8, 2) := by decide +kernel
theorem dX5_grows_5 : decode cX5_grows 5 = .ok (.iadd, 1) := by decide +kernel
theorem dX5_grows_6 : decode cX5_grows 6 = .ok (.bipush 8, 2) := by decide +kernel
theorem dX5_grows_8 : decode cX5_grows 8 = .ok (.irem, 1) := by decide +kernel
theorem dX5_grows_9 : decode cX5_grows 9 = .ok (.istore_n 2, 1) := by decide +kernel
theorem dX5_grows_10 : decode cX5_grows 10 = .ok (.iload_n 2, 1) := by decide +kernel
theorem dX5_grows_11 : decode cX5_grows 11 = .ok (.iconst 4, 1) := by decide +kernel
theorem dX5_grows_12 : decode cX5_grows 12 = .ok (.if_icmp .le 10, 3) := by decide +kernel
theorem dX5_grows_15 : decode cX5_grows 15 = .ok (.iload_n 2, 1) := by decide +kernel
theorem dX5_grows_16 : decode cX5_grows 16 = .ok (.bipush 8, 2) := by decide +kernel
theorem dX5_grows_18 : decode cX5_grows 18 = .ok (.isub, 1) := by decide +kernel
theorem dX5_grows_19 : decode cX5_grows 19 = .ok (.goto 4, 3) := by decide +kernel
theorem dX5_grows_22 : decode cX5_grows 22 = .ok (.iload_n 2, 1) := by decide +kernel
theorem dX5_grows_23 : decode cX5_grows 23 = .ok (.ireturn, 1) := by decide +kernel
set_option maxRecDepth 20000 in
theorem ggX5_knotOf_X5_grows : GoodIn wsX5_knotOf wsX5_grows := goodIn_r _ [5] (by decide +kernel) (by decide +kernel)
set_option maxRecDepth 20000 in
theorem gX5_knotOf_X5_grows : GoodIn wsX5_knotOf (va_wsS RX5 80 yX5_grows wsX5_grows) := goodIn_app (goodIn_of _ (by decide +kernel)) ggX5_knotOf_X5_grows
theorem dX5_knotOf_0 : decode cX5_knotOf 0 = .ok (.bipush 8, 2) := by decide +kernel
theorem dX5_knotOf_2 : decode cX5_knotOf 2 = .ok (.iload_n 2, 1) := by decide +kernel
theorem dX5_knotOf_3 : decode cX5_knotOf 3 = .ok (.imul, 1) := by decide +kernel
theorem dX5_knotOf_4 : decode cX5_knotOf 4 = .ok (.iload_n 1, 1) := by decide +kernel
theorem dX5_knotOf_5 : decode cX5_knotOf 5 = .ok (.iadd, 1) := by decide +kernel
theorem dX5_knotOf_6 : decode cX5_knotOf 6 = .ok (.istore_n 3, 1) := by decide +kernel
theorem dX5_knotOf_7 : decode cX5_knotOf 7 = .ok (.aload_n 0, 1) := by decide +kernel
theorem dX5_knotOf_8 : decode cX5_knotOf 8 = .ok (.getfield 13, 3) := by decide +kernel
theorem dX5_knotOf_11 : decode cX5_knotOf 11 = .ok (.iload_n 3, 1) := by decide +kernel
theorem dX5_knotOf_12 : decode cX5_knotOf 12 = .ok (.iaload, 1) := by decide +kernel
theorem dX5_knotOf_13 : decode cX5_knotOf 13 = .ok (.aload_n 0, 1) := by decide +kernel
theorem dX5_knotOf_14 : decode cX5_knotOf 14 = .ok (.getfield 13, 3) := by decide +kernel
theorem dX5_knotOf_17 : decode cX5_knotOf 17 = .ok (.iload_n 3, 1) := by decide +kernel
theorem dX5_knotOf_18 : decode cX5_knotOf 18 = .ok (.iconst 1, 1) := by decide +kernel
theorem dX5_knotOf_19 : decode cX5_knotOf 19 = .ok (.iadd, 1) := by decide +kernel
theorem dX5_knotOf_20 : decode cX5_knotOf 20 = .ok (.iaload, 1) := by decide +kernel
theorem dX5_knotOf_21 : decode cX5_knotOf 21 = .ok (.invokestatic 80, 3) := by decide +kernel
theorem dX5_knotOf_24 : decode cX5_knotOf 24 = .ok (.istore 4, 2) := by decide +kernel
theorem dX5_knotOf_26 : decode cX5_knotOf 26 = .ok (.aload_n 0, 1) := by decide +kernel
theorem dX5_knotOf_27 : decode cX5_knotOf 27 = .ok (.getfield 13, 3) := by decide +kernel
theorem dX5_knotOf_30 : decode cX5_knotOf 30 = .ok (.iload_n 3, 1) := by decide +kernel
theorem dX5_knotOf_31 : decode cX5_knotOf 31 = .ok (.iconst 1, 1) := by decide +kernel
theorem dX5_knotOf_32 : decode cX5_knotOf 32 = .ok (.iadd, 1) := by decide +kernel
theorem dX5_knotOf_33 : decode cX5_knotOf 33 = .ok (.iaload, 1) := by decide +kernel
theorem dX5_knotOf_34 : decode cX5_knotOf 34 = .ok (.aload_n 0, 1) := by decide +kernel
theorem dX5_knotOf_35 : decode cX5_knotOf 35 = .ok (.getfield 13, 3) := by decide +kernel
theorem dX5_knotOf_38 : decode cX5_knotOf 38 = .ok (.iload_n 3, 1) := by decide +kernel
theorem dX5_knotOf_39 : decode cX5_knotOf 39 = .ok (.bipush 9, 2) := by decide +kernel
theorem dX5_knotOf_41 : decode cX5_knotOf 41 = .ok (.iadd, 1) := by decide +kernel
theorem dX5_knotOf_42 : decode cX5_knotOf 42 = .ok (.iaload, 1) := by decide +kernel
theorem dX5_knotOf_43 : decode cX5_knotOf 43 = .ok (.invokestatic 80, 3) := by decide +kernel
theorem dX5_knotOf_46 : decode cX5_knotOf 46 = .ok (.istore 5, 2) := by decide +kernel
theorem dX5_knotOf_48 : decode cX5_knotOf 48 = .ok (.aload_n 0, 1) := by decide +kernel
theorem dX5_knotOf_49 : decode cX5_knotOf 49 = .ok (.getfield 13, 3) := by decide +kernel
theorem dX5_knotOf_52 : decode cX5_knotOf 52 = .ok (.iload_n 3, 1) := by decide +kernel
theorem dX5_knotOf_53 : decode cX5_knotOf 53 = .ok (.bipush 9, 2) := by decide +kernel
theorem dX5_knotOf_55 : decode cX5_knotOf 55 = .ok (.iadd, 1) := by decide +kernel
theorem dX5_knotOf_56 : decode cX5_knotOf 56 = .ok (.iaload, 1) := by decide +kernel
theorem dX5_knotOf_57 : decode cX5_knotOf 57 = .ok (.aload_n 0, 1) := by decide +kernel
theorem dX5_knotOf_58 : decode cX5_knotOf 58 = .ok (.getfield 13, 3) := by decide +kernel
theorem dX5_knotOf_61 : decode cX5_knotOf 61 = .ok (.iload_n 3, 1) := by decide +kernel
theorem dX5_knotOf_62 : decode cX5_knotOf 62 = .ok (.bipush 8, 2) := by decide +kernel
theorem dX5_knotOf_64 : decode cX5_knotOf 64 = .ok (.iadd, 1) := by decide +kernel
theorem dX5_knotOf_65 : decode cX5_knotOf 65 = .ok (.iaload, 1) := by decide +kernel
theorem dX5_knotOf_66 : decode cX5_knotOf 66 = .ok (.invokestatic 80, 3) := by decide +kernel
theorem dX5_knotOf_69 : decode cX5_knotOf 69 = .ok (.istore 6, 2) := by decide +kernel
theorem dX5_knotOf_71 : decode cX5_knotOf 71 = .ok (.aload_n 0, 1) := by decide +kernel
theorem dX5_knotOf_72 : decode cX5_knotOf 72 = .ok (.getfield 13, 3) := by decide +kernel
