theorem dX5_error_104 : decode cX5_error 104 = .ok (.istore_n 2, 1) := by decide +kernel
theorem dX5_error_105 : decode cX5_error 105 = .ok (.iload_n 3, 1) := by decide +kernel
theorem dX5_error_106 : decode cX5_error 106 = .ok (.iload 5, 2) := by decide +kernel
theorem dX5_error_108 : decode cX5_error 108 = .ok (.iadd, 1) := by decide +kernel
theorem dX5_error_109 : decode cX5_error 109 = .ok (.istore_n 3, 1) := by decide +kernel
theorem dX5_error_110 : decode cX5_error 110 = .ok (.iinc 4 1, 3) := by decide +kernel
theorem dX5_error_113 : decode cX5_error 113 = .ok (.goto (-58), 3) := by decide +kernel
theorem dX5_error_116 : decode cX5_error 116 = .ok (.iload_n 1, 1) := by decide +kernel
theorem dX5_error_117 : decode cX5_error 117 = .ok (.ifCond .ne 7, 3) := by decide +kernel
theorem dX5_error_120 : decode cX5_error 120 = .ok (.iload_n 2, 1) := by decide +kernel
theorem dX5_error_121 : decode cX5_error 121 = .ok (.goto 4, 3) := by decide +kernel
theorem dX5_error_124 : decode cX5_error 124 = .ok (.iload_n 3, 1) := by decide +kernel
theorem dX5_error_125 : decode cX5_error 125 = .ok (.ireturn, 1) := by decide +kernel
set_option maxRecDepth 20000 in
theorem ggX5_paths_X5_isLayer : GoodIn wsX5_paths wsX5_isLayer := goodIn_r _ [5] (by decide +kernel) (by decide +kernel)
set_option maxRecDepth 20000 in
theorem gX5_paths_X5_isLayer : GoodIn wsX5_paths (va_wsS RX5 101 yX5_isLayer wsX5_isLayer) := goodIn_app (goodIn_of _ (by decide +kernel)) ggX5_paths_X5_isLayer
set_option maxRecDepth 20000 in
theorem ggX5_paths_X5_findLayer : GoodIn wsX5_paths wsX5_findLayer := goodIn_r _ [9, 10, 11, 1, 12, 13, 14, 15, 16, 17, 18, 4, 19, 20, 21, 22, 23, 24, 25, 26, 27, 28, 29, 30, 31, 32, 33, 34, 35, 36, 37, 38, 39, 40, 41, 42, 43, 44, 45, 46, 47, 48, 49, 50, 51, 52, 53, 54, 55, 56, 57, 58, 59, 60] (by decide +kernel) (by decide +kernel)
set_option maxRecDepth 20000 in
theorem gX5_paths_X5_findLayer : GoodIn wsX5_paths (wsV RX5 105 RX5 yX5_findLayer wsX5_findLayer) := goodIn_app (goodIn_of _ (by decide +kernel)) ggX5_paths_X5_findLayer
theorem dX5_paths_0 : decode cX5_paths 0 = .ok (.iload_n 1, 1) := by decide +kernel
theorem dX5_paths_1 : decode cX5_paths 1 = .ok (.invokestatic 101, 3) := by decide +kernel
theorem dX5_paths_4 : decode cX5_paths 4 = .ok (.ifCond .ne 6, 3) := by decide +kernel
theorem dX5_paths_7 : decode cX5_paths 7 = .ok (.bipush (-2), 2) := by decide +kernel
theorem dX5_paths_9 : decode cX5_paths 9 = .ok (.ireturn, 1) := by decide +kernel
theorem dX5_paths_10 : decode cX5_paths 10 = .ok (.aload_n 0, 1) := by decide +kernel
theorem dX5_paths_11 : decode cX5_paths 11 = .ok (.iload_n 1, 1) := by decide +kernel
theorem dX5_paths_12 : decode cX5_paths 12 = .ok (.invokevirtual 105, 3) := by decide +kernel
theorem dX5_paths_15 : decode cX5_paths 15 = .ok (.aload_n 0, 1) := by decide +kernel
theorem dX5_paths_16 : decode cX5_paths 16 = .ok (.getfield 95, 3) := by decide +kernel
theorem dX5_paths_19 : decode cX5_paths 19 = .ok (.ireturn, 1) := by decide +kernel
set_option maxRecDepth 20000 in
theorem ggX5_path_X5_isLayer : GoodIn wsX5_path wsX5_isLayer := goodIn_r _ [9] (by decide +kernel) (by decide +kernel)
set_option maxRecDepth 20000 in
theorem gX5_path_X5_isLayer : GoodIn wsX5_path (va_wsS RX5 101 yX5_isLayer wsX5_isLayer) := goodIn_app (goodIn_of _ (by decide +kernel)) ggX5_path_X5_isLayer
set_option maxRecDepth 20000 in
theorem ggX5_path_X5_findLayer : GoodIn wsX5_path wsX5_findLayer := goodIn_r _ [13, 14, 3, 1, 2, 5, 15, 4, 16, 17, 18, 8, 19, 20, 21, 22, 23, 24, 25, 26, 27, 28, 29, 30, 31, 32, 33, 34, 35, 36, 37, 38, 39, 40, 41, 42, 43, 44, 45, 46, 47, 48, 49, 50, 51, 52, 53, 54, 55, 56, 57, 58, 59, 60] (by decide +kernel) (by decide +kernel)
set_option maxRecDepth 20000 in
theorem gX5_path_X5_findLayer : GoodIn wsX5_path (wsV RX5 105 RX5 yX5_findLayer wsX5_findLayer) := goodIn_app (goodIn_of _ (by decide +kernel)) ggX5_path_X5_findLayer
set_option maxRecDepth 20000 in
theorem ggX5_path_X5_in : GoodIn wsX5_path wsX5_in := goodIn_r _ [44] (by decide +kernel) (by decide +kernel)
set_option maxRecDepth 20000 in
theorem gX5_path_X5_in : GoodIn wsX5_path (va_wsS RX5 54 yX5_in wsX5_in) := goodIn_app (goodIn_of _ (by decide +kernel)) ggX5_path_X5_in
set_option maxRecDepth 20000 in
theorem ggX5_path_X5_more : GoodIn wsX5_path wsX5_more := goodIn_r _ [29] (by decide +kernel) (by decide +kernel)
set_option maxRecDepth 20000 in
theorem gX5_path_X5_more : GoodIn wsX5_path (va_wsS RX5 86 yX5_more wsX5_more) := goodIn_app (goodIn_of _ (by decide +kernel)) ggX5_path_X5_more
set_option maxRecDepth 20000 in
theorem ggX5_path_X5_tied : GoodIn wsX5_path wsX5_tied := goodIn_r _ [33, 14, 34, 35, 36, 8, 37, 38, 39, 40, 41, 42, 43, 44, 45, 46, 47, 48, 49, 50, 51, 52, 53, 54, 55, 56, 57, 58, 59, 60] (by decide +kernel) (by decide +kernel)
set_option maxRecDepth 20000 in
theorem gX5_path_X5_tied : GoodIn wsX5_path (wsV RX5 98 RX5 yX5_tied wsX5_tied) := goodIn_app (goodIn_of _ (by decide +kernel)) ggX5_path_X5_tied
theorem dX5_path_0 : decode cX5_path 0 = .ok (.iload_n 1, 1) := by decide +kernel
theorem dX5_path_1 : decode cX5_path 1 = .ok (.invokestatic 101, 3) := by decide +kernel
theorem dX5_path_4 : decode cX5_path 4 = .ok (.ifCond .ne 6, 3) := by decide +kernel
theorem dX5_path_7 : decode cX5_path 7 = .ok (.bipush (-2), 2) := by decide +kernel
theorem dX5_path_9 : decode cX5_path 9 = .ok (.ireturn, 1) := by decide +kernel
theorem dX5_path_10 : decode cX5_path 10 = .ok (.aload_n 0, 1) := by decide +kernel
theorem dX5_path_11 : decode cX5_path 11 = .ok (.iload_n 1, 1) := by decide +kernel
theorem dX5_path_12 : decode cX5_path 12 = .ok (.invokevirtual 105, 3) := by decide +kernel
theorem dX5_path_15 : decode cX5_path 15 = .ok (.iload_n 2, 1) := by decide +kernel
theorem dX5_path_16 : decode cX5_path 16 = .ok (.iconst 0, 1) := by decide +kernel
theorem dX5_path_17 : decode cX5_path 17 = .ok (.aload_n 0, 1) := by decide +kernel
theorem dX5_path_18 : decode cX5_path 18 = .ok (.getfield 95, 3) := by decide +kernel
theorem dX5_path_21 : decode cX5_path 21 = .ok (.iconst 1, 1) := by decide +kernel
theorem dX5_path_22 : decode cX5_path 22 = .ok (.isub, 1) := by decide +kernel
theorem dX5_path_23 : decode cX5_path 23 = .ok (.invokestatic 54, 3) := by decide +kernel
theorem dX5_path_26 : decode cX5_path 26 = .ok (.ifCond .ne 6, 3) := by decide +kernel
theorem dX5_path_29 : decode cX5_path 29 = .ok (.bipush (-2), 2) := by decide +kernel
theorem dX5_path_31 : decode cX5_path 31 = .ok (.ireturn, 1) := by decide +kernel
theorem dX5_path_32 : decode cX5_path 32 = .ok (.iconst 0, 1) := by decide +kernel
theorem dX5_path_33 : decode cX5_path 33 = .ok (.istore 4, 2) := by decide +kernel
theorem dX5_path_35 : decode cX5_path 35 = .ok (.aload_n 0, 1) := by decide +kernel
theorem dX5_path_36 : decode cX5_path 36 = .ok (.getfield 39, 3) := by decide +kernel
theorem dX5_path_39 : decode cX5_path 39 = .ok (.iload_n 2, 1) := by decide +kernel
theorem dX5_path_40 : decode cX5_path 40 = .ok (.iaload, 1) := by decide +kernel
theorem dX5_path_41 : decode cX5_path 41 = .ok (.istore 5, 2) := by decide +kernel
theorem dX5_path_43 : decode cX5_path 43 = .ok (.iload 5, 2) := by decide +kernel
theorem dX5_path_45 : decode cX5_path 45 = .ok (.iconst (-1), 1) := by decide +kernel
theorem dX5_path_46 : decode cX5_path 46 = .ok (.if_icmp .eq 30, 3) := by decide +kernel
theorem dX5_path_49 : decode cX5_path 49 = .ok (.iload 4, 2) := by decide +kernel
theorem dX5_path_51 : decode cX5_path 51 = .ok (.aload_n 0, 1) := by decide +kernel
theorem dX5_path_52 : decode cX5_path 52 = .ok (.getfield 36, 3) := by decide +kernel
theorem dX5_path_55 : decode cX5_path 55 = .ok (.iload 5, 2) := by decide +kernel
theorem dX5_path_57 : decode cX5_path 57 = .ok (.iaload, 1) := by decide +kernel
theorem dX5_path_58 : decode cX5_path 58 = .ok (.invokestatic 86, 3) := by decide +kernel
theorem dX5_path_61 : decode cX5_path 61 = .ok (.istore 4, 2) := by decide +kernel
theorem dX5_path_63 : decode cX5_path 63 = .ok (.aload_n 0, 1) := by decide +kernel
theorem dX5_path_64 : decode cX5_path 64 = .ok (.iload 5, 2) := by decide +kernel
theorem dX5_path_66 : decode cX5_path 66 = .ok (.iload_n 1, 1) := by decide +kernel
theorem dX5_path_67 : decode cX5_path 67 = .ok (.iconst 1, 1) := by decide +kernel
theorem dX5_path_68 : decode cX5_path 68 = .ok (.invokevirtual 98, 3) := by decide +kernel
theorem dX5_path_71 : decode cX5_path 71 = .ok (.istore 5, 2) := by decide +kernel
theorem dX5_path_73 : decode cX5_path 73 = .ok (.goto (-30), 3) := by decide +kernel
theorem dX5_path_76 : decode cX5_path 76 = .ok (.iload_n 3, 1) := by decide +kernel
theorem dX5_path_77 : decode cX5_path 77 = .ok (.ifCond .ne 12, 3) := by decide +kernel
theorem dX5_path_80 : decode cX5_path 80 = .ok (.aload_n 0, 1) := by decide +kernel
theorem dX5_path_81 : decode cX5_path 81 = .ok (.getfield 39, 3) := by decide +kernel
theorem dX5_path_84 : decode cX5_path 84 = .ok (.iload_n 2, 1) := by decide +kernel
theorem dX5_path_85 : decode cX5_path 85 = .ok (.iaload, 1) := by decide +kernel
theorem dX5_path_86 : decode cX5_path 86 = .ok (.goto 43, 3) := by decide +kernel
theorem dX5_path_89 : decode cX5_path 89 = .ok (.iload_n 3, 1) := by decide +kernel
theorem dX5_path_90 : decode cX5_path 90 = .ok (.iconst 1, 1) := by decide +kernel
theorem dX5_path_91 : decode cX5_path 91 = .ok (.if_icmp .ne 12, 3) := by decide +kernel
theorem dX5_path_94 : decode cX5_path 94 = .ok (.aload_n 0, 1) := by decide +kernel
theorem dX5_path_95 : decode cX5_path 95 = .ok (.getfield 42, 3) := by decide +kernel
theorem dX5_path_98 : decode cX5_path 98 = .ok (.iload_n 2, 1) := by decide +kernel
theorem dX5_path_99 : decode cX5_path 99 = .ok (.iaload, 1) := by decide +kernel
theorem dX5_path_100 : decode cX5_path 100 = .ok (.goto 29, 3) := by decide +kernel
theorem dX5_path_103 : decode cX5_path 103 = .ok (.iload_n 3, 1) := by decide +kernel
theorem dX5_path_104 : decode cX5_path 104 = .ok (.iconst 2, 1) := by decide +kernel
theorem dX5_path_105 : decode cX5_path 105 = .ok (.if_icmp .ne 12, 3) := by decide +kernel
theorem dX5_path_108 : decode cX5_path 108 = .ok (.aload_n 0, 1) := by decide +kernel
theorem dX5_path_109 : decode cX5_path 109 = .ok (.getfield 45, 3) := by decide +kernel
theorem dX5_path_112 : decode cX5_path 112 = .ok (.iload_n 2, 1) := by decide +kernel
theorem dX5_path_113 : decode cX5_path 113 = .ok (.iaload, 1) := by decide +kernel
theorem dX5_path_114 : decode cX5_path 114 = .ok (.goto 15, 3) := by decide +kernel
theorem dX5_path_117 : decode cX5_path 117 = .ok (.iload_n 3, 1) := by decide +kernel
theorem dX5_path_118 : decode cX5_path 118 = .ok (.iconst 3, 1) := by decide +kernel
theorem dX5_path_119 : decode cX5_path 119 = .ok (.if_icmp .ne 8, 3) := by decide +kernel
theorem dX5_path_122 : decode cX5_path 122 = .ok (.iload 4, 2) := by decide +kernel
theorem dX5_path_124 : decode cX5_path 124 = .ok (.goto 5, 3) := by decide +kernel
theorem dX5_path_127 : decode cX5_path 127 = .ok (.bipush (-3), 2) := by decide +kernel
theorem dX5_path_129 : decode cX5_path 129 = .ok (.ireturn, 1) := by decide +kernel
set_option maxRecDepth 20000 in
theorem ggX5_far_X5_size : GoodIn wsX5_far wsX5_size := goodIn_r _ [4] (by decide +kernel) (by decide +kernel)
set_option maxRecDepth 20000 in
theorem gX5_far_X5_size : GoodIn wsX5_far (va_wsS RX5 62 yX5_size wsX5_size) := goodIn_app (goodIn_of _ (by decide +kernel)) ggX5_far_X5_size
set_option maxRecDepth 20000 in
theorem ggX5_far_X5_more : GoodIn wsX5_far wsX5_more := goodIn_r _ [7] (by decide +kernel) (by decide +kernel)
set_option maxRecDepth 20000 in
theorem gX5_far_X5_more : GoodIn wsX5_far (va_wsS RX5 86 yX5_more wsX5_more) := goodIn_app (goodIn_of _ (by decide +kernel)) ggX5_far_X5_more
theorem dX5_far_0 : decode cX5_far 0 = .ok (.iload_n 0, 1) := by decide +kernel
theorem dX5_far_1 : decode cX5_far 1 = .ok (.bipush 8, 2) := by decide +kernel
theorem dX5_far_3 : decode cX5_far 3 = .ok (.irem, 1) := by decide +kernel
theorem dX5_far_4 : decode cX5_far 4 = .ok (.iload_n 1, 1) := by decide +kernel
theorem dX5_far_5 : decode cX5_far 5 = .ok (.bipush 8, 2) := by decide +kernel
theorem dX5_far_7 : decode cX5_far 7 = .ok (.irem, 1) := by decide +kernel
theorem dX5_far_8 : decode cX5_far 8 = .ok (.isub, 1) := by decide +kernel
theorem dX5_far_9 : decode cX5_far 9 = .ok (.invokestatic 62, 3) := by decide +kernel
theorem dX5_far_12 : decode cX5_far 12 = .ok (.iload_n 0, 1) := by decide +kernel
theorem dX5_far_13 : decode cX5_far 13 = .ok (.bipush 8, 2) := by decide +kernel
theorem dX5_far_15 : decode cX5_far 15 = .ok (.idiv, 1) := by decide +kernel
theorem dX5_far_16 : decode cX5_far 16 = .ok (.iload_n 1, 1) := by decide +kernel
theorem dX5_far_17 : decode cX5_far 17 = .ok (.bipush 8, 2) := by decide +kernel
theorem dX5_far_19 : decode cX5_far 19 = .ok (.idiv, 1) := by decide +kernel
theorem dX5_far_20 : decode cX5_far 20 = .ok (.isub, 1) := by decide +kernel
theorem dX5_far_21 : decode cX5_far 21 = .ok (.invokestatic 62, 3) := by decide +kernel
theorem dX5_far_24 : decode cX5_far 24 = .ok (.invokestatic 86, 3) := by decide +kernel
theorem dX5_far_27 : decode cX5_far 27 = .ok (.ireturn, 1) := by decide +kernel
set_option maxRecDepth 20000 in
theorem ggX5_findOrder_X5_findLayer : GoodIn wsX5_findOrder wsX5_findLayer := goodIn_r _ [11, 12, 13, 2, 4, 14, 15, 5, 16, 17, 18, 10, 19, 20, 21, 22, 23, 24, 25, 26, 27, 28, 29, 30, 31, 32, 33, 34, 35, 36, 37, 38, 39, 40, 41, 42, 43, 44, 51, 52, 53, 54, 55, 56, 57, 58, 59, 60, 61, 62, 63, 64, 65, 66] (by decide +kernel) (by decide +kernel)
set_option maxRecDepth 20000 in
theorem gX5_findOrder_X5_findLayer : GoodIn wsX5_findOrder (wsV RX5 105 RX5 yX5_findLayer wsX5_findLayer) := goodIn_app (goodIn_of _ (by decide +kernel)) ggX5_findOrder_X5_findLayer
set_option maxRecDepth 20000 in
theorem ggX5_findOrder_X5_far : GoodIn wsX5_findOrder wsX5_far := goodIn_r _ [47, 48, 49, 10, 50, 27, 28, 29] (by decide +kernel) (by decide +kernel)
set_option maxRecDepth 20000 in
theorem gX5_findOrder_X5_far : GoodIn wsX5_findOrder (va_wsS RX5 112 yX5_far wsX5_far) := goodIn_app (goodIn_of _ (by decide +kernel)) ggX5_findOrder_X5_far
set_option maxRecDepth 20000 in
theorem ggX5_findOrder_X5_less : GoodIn wsX5_findOrder wsX5_less := goodIn_r _ [26] (by decide +kernel) (by decide +kernel)
set_option maxRecDepth 20000 in
theorem gX5_findOrder_X5_less : GoodIn wsX5_findOrder (va_wsS RX5 65 yX5_less wsX5_less) := goodIn_app (goodIn_of _ (by decide +kernel)) ggX5_findOrder_X5_less
theorem dX5_findOrder_0 : decode cX5_findOrder 0 = .ok (.aload_n 0, 1) := by decide +kernel
theorem dX5_findOrder_1 : decode cX5_findOrder 1 = .ok (.iload_n 1, 1) := by decide +kernel
theorem dX5_findOrder_2 : decode cX5_findOrder 2 = .ok (.invokevirtual 105, 3) := by decide +kernel
theorem dX5_findOrder_5 : decode cX5_findOrder 5 = .ok (.aload_n 0, 1) := by decide +kernel
theorem dX5_findOrder_6 : decode cX5_findOrder 6 = .ok (.iconst 0, 1) := by decide +kernel
theorem dX5_findOrder_7 : decode cX5_findOrder 7 = .ok (.putfield 109, 3) := by decide +kernel
theorem dX5_findOrder_10 : decode cX5_findOrder 10 = .ok (.iconst 0, 1) := by decide +kernel
theorem dX5_findOrder_11 : decode cX5_findOrder 11 = .ok (.istore_n 2, 1) := by decide +kernel
theorem dX5_findOrder_12 : decode cX5_findOrder 12 = .ok (.iconst 0, 1) := by decide +kernel
theorem dX5_findOrder_13 : decode cX5_findOrder 13 = .ok (.istore_n 3, 1) := by decide +kernel
theorem dX5_findOrder_14 : decode cX5_findOrder 14 = .ok (.iload_n 3, 1) := by decide +kernel
theorem dX5_findOrder_15 : decode cX5_findOrder 15 = .ok (.aload_n 0, 1) := by decide +kernel
theorem dX5_findOrder_16 : decode cX5_findOrder 16 = .ok (.getfield 95, 3) := by decide +kernel
theorem dX5_findOrder_19 : decode cX5_findOrder 19 = .ok (.if_icmp .ge 225, 3) := by decide +kernel
theorem dX5_findOrder_22 : decode cX5_findOrder 22 = .ok (.iconst (-1), 1) := by decide +kernel
theorem dX5_findOrder_23 : decode cX5_findOrder 23 = .ok (.istore 4, 2) := by decide +kernel
theorem dX5_findOrder_25 : decode cX5_findOrder 25 = .ok (.bipush 100, 2) := by decide +kernel
theorem dX5_findOrder_27 : decode cX5_findOrder 27 = .ok (.istore 5, 2) := by decide +kernel
theorem dX5_findOrder_29 : decode cX5_findOrder 29 = .ok (.iconst 0, 1) := by decide +kernel
theorem dX5_findOrder_30 : decode cX5_findOrder 30 = .ok (.istore 6, 2) := by decide +kernel
theorem dX5_findOrder_32 : decode cX5_findOrder 32 = .ok (.iload 6, 2) := by decide +kernel
theorem dX5_findOrder_34 : decode cX5_findOrder 34 = .ok (.aload_n 0, 1) := by decide +kernel
theorem dX5_findOrder_35 : decode cX5_findOrder 35 = .ok (.getfield 95, 3) := by decide +kernel
theorem dX5_findOrder_38 : decode cX5_findOrder 38 = .ok (.if_icmp .ge 98, 3) := by decide +kernel
theorem dX5_findOrder_41 : decode cX5_findOrder 41 = .ok (.iconst 0, 1) := by decide +kernel
theorem dX5_findOrder_42 : decode cX5_findOrder 42 = .ok (.istore 7, 2) := by decide +kernel
theorem dX5_findOrder_44 : decode cX5_findOrder 44 = .ok (.iconst 0, 1) := by decide +kernel
theorem dX5_findOrder_45 : decode cX5_findOrder 45 = .ok (.istore 8, 2) := by decide +kernel
theorem dX5_findOrder_47 : decode cX5_findOrder 47 = .ok (.iload 8, 2) := by decide +kernel
theorem dX5_findOrder_49 : decode cX5_findOrder 49 = .ok (.iload_n 3, 1) := by decide +kernel
theorem dX5_findOrder_50 : decode cX5_findOrder 50 = .ok (.if_icmp .ge 33, 3) := by decide +kernel
theorem dX5_findOrder_53 : decode cX5_findOrder 53 = .ok (.iload 7, 2) := by decide +kernel
theorem dX5_findOrder_55 : decode cX5_findOrder 55 = .ok (.ifCond .ne 15, 3) := by decide +kernel
theorem dX5_findOrder_58 : decode cX5_findOrder 58 = .ok (.aload_n 0, 1) := by decide +kernel
theorem dX5_findOrder_59 : decode cX5_findOrder 59 = .ok (.getfield 48, 3) := by decide +kernel
theorem dX5_findOrder_62 : decode cX5_findOrder 62 = .ok (.iload 8, 2) := by decide +kernel
theorem dX5_findOrder_64 : decode cX5_findOrder 64 = .ok (.iaload, 1) := by decide +kernel
theorem dX5_findOrder_65 : decode cX5_findOrder 65 = .ok (.iload 6, 2) := by decide +kernel
theorem dX5_findOrder_67 : decode cX5_findOrder 67 = .ok (.if_icmp .ne 7, 3) := by decide +kernel
theorem dX5_findOrder_70 : decode cX5_findOrder 70 = .ok (.iconst 1, 1) := by decide +kernel
theorem dX5_findOrder_71 : decode cX5_findOrder 71 = .ok (.goto 4, 3) := by decide +kernel
theorem dX5_findOrder_74 : decode cX5_findOrder 74 = .ok (.iconst 0, 1) := by decide +kernel
theorem dX5_findOrder_75 : decode cX5_findOrder 75 = .ok (.istore 7, 2) := by decide +kernel
theorem dX5_findOrder_77 : decode cX5_findOrder 77 = .ok (.iinc 8 1, 3) := by decide +kernel
theorem dX5_findOrder_80 : decode cX5_findOrder 80 = .ok (.goto (-33), 3) := by decide +kernel
theorem dX5_findOrder_83 : decode cX5_findOrder 83 = .ok (.iload_n 2, 1) := by decide +kernel
theorem dX5_findOrder_84 : decode cX5_findOrder 84 = .ok (.aload_n 0, 1) := by decide +kernel
theorem dX5_findOrder_85 : decode cX5_findOrder 85 = .ok (.getfield 39, 3) := by decide +kernel
theorem dX5_findOrder_88 : decode cX5_findOrder 88 = .ok (.iload 6, 2) := by decide +kernel
theorem dX5_findOrder_90 : decode cX5_findOrder 90 = .ok (.iaload, 1) := by decide +kernel
theorem dX5_findOrder_91 : decode cX5_findOrder 91 = .ok (.invokestatic 112, 3) := by decide +kernel
theorem dX5_findOrder_94 : decode cX5_findOrder 94 = .ok (.iload_n 2, 1) := by decide +kernel
theorem dX5_findOrder_95 : decode cX5_findOrder 95 = .ok (.aload_n 0, 1) := by decide +kernel
theorem dX5_findOrder_96 : decode cX5_findOrder 96 = .ok (.getfield 42, 3) := by decide +kernel
theorem dX5_findOrder_99 : decode cX5_findOrder 99 = .ok (.iload 6, 2) := by decide +kernel
theorem dX5_findOrder_101 : decode cX5_findOrder 101 = .ok (.iaload, 1) := by decide +kernel
theorem dX5_findOrder_102 : decode cX5_findOrder 102 = .ok (.invokestatic 112, 3) := by decide +kernel
theorem dX5_findOrder_105 : decode cX5_findOrder 105 = .ok (.invokestatic 65, 3) := by decide +kernel
theorem dX5_findOrder_108 : decode cX5_findOrder 108 = .ok (.istore 8, 2) := by decide +kernel
theorem dX5_findOrder_110 : decode cX5_findOrder 110 = .ok (.iload 7, 2) := by decide +kernel
theorem dX5_findOrder_112 : decode cX5_findOrder 112 = .ok (.ifCond .ne 18, 3) := by decide +kernel
theorem dX5_findOrder_115 : decode cX5_findOrder 115 = .ok (.iload 8, 2) := by decide +kernel
theorem dX5_findOrder_117 : decode cX5_findOrder 117 = .ok (.iload 5, 2) := by decide +kernel
theorem dX5_findOrder_119 : decode cX5_findOrder 119 = .ok (.if_icmp .ge 11, 3) := by decide +kernel
theorem dX5_findOrder_122 : decode cX5_findOrder 122 = .ok (.iload 8, 2) := by decide +kernel
theorem dX5_findOrder_124 : decode cX5_findOrder 124 = .ok (.istore 5, 2) := by decide +kernel
theorem dX5_findOrder_126 : decode cX5_findOrder 126 = .ok (.iload 6, 2) := by decide +kernel
theorem dX5_findOrder_128 : decode cX5_findOrder 128 = .ok (.istore 4, 2) := by decide +kernel
theorem dX5_findOrder_130 : decode cX5_findOrder 130 = .ok (.iinc 6 1, 3) := by decide +kernel
theorem dX5_findOrder_133 : decode cX5_findOrder 133 = .ok (.goto (-101), 3) := by decide +kernel
theorem dX5_findOrder_136 : decode cX5_findOrder 136 = .ok (.aload_n 0, 1) := by decide +kernel
theorem dX5_findOrder_137 : decode cX5_findOrder 137 = .ok (.getfield 48, 3) := by decide +kernel
theorem dX5_findOrder_140 : decode cX5_findOrder 140 = .ok (.iload_n 3, 1) := by decide +kernel
theorem dX5_findOrder_141 : decode cX5_findOrder 141 = .ok (.iload 4, 2) := by decide +kernel
theorem dX5_findOrder_143 : decode cX5_findOrder 143 = .ok (.iastore, 1) := by decide +kernel
theorem dX5_findOrder_144 : decode cX5_findOrder 144 = .ok (.iload_n 2, 1) := by decide +kernel
theorem dX5_findOrder_145 : decode cX5_findOrder 145 = .ok (.aload_n 0, 1) := by decide +kernel
theorem dX5_findOrder_146 : decode cX5_findOrder 146 = .ok (.getfield 39, 3) := by decide +kernel
theorem dX5_findOrder_149 : decode cX5_findOrder 149 = .ok (.iload 4, 2) := by decide +kernel
theorem dX5_findOrder_151 : decode cX5_findOrder 151 = .ok (.iaload, 1) := by decide +kernel
theorem dX5_findOrder_152 : decode cX5_findOrder 152 = .ok (.invokestatic 112, 3) := by decide +kernel
theorem dX5_findOrder_155 : decode cX5_findOrder 155 = .ok (.iload_n 2, 1) := by decide +kernel
theorem dX5_findOrder_156 : decode cX5_findOrder 156 = .ok (.aload_n 0, 1) := by decide +kernel
theorem dX5_findOrder_157 : decode cX5_findOrder 157 = .ok (.getfield 42, 3) := by decide +kernel
theorem dX5_findOrder_160 : decode cX5_findOrder 160 = .ok (.iload 4, 2) := by decide +kernel
theorem dX5_findOrder_162 : decode cX5_findOrder 162 = .ok (.iaload, 1) := by decide +kernel
theorem dX5_findOrder_163 : decode cX5_findOrder 163 = .ok (.invokestatic 112, 3) := by decide +kernel
theorem dX5_findOrder_166 : decode cX5_findOrder 166 = .ok (.if_icmp .gt 7, 3) := by decide +kernel
theorem dX5_findOrder_169 : decode cX5_findOrder 169 = .ok (.iconst 1, 1) := by decide +kernel
theorem dX5_findOrder_170 : decode cX5_findOrder 170 = .ok (.goto 4, 3) := by decide +kernel
theorem dX5_findOrder_173 : decode cX5_findOrder 173 = .ok (.iconst 0, 1) := by decide +kernel
theorem dX5_findOrder_174 : decode cX5_findOrder 174 = .ok (.istore 6, 2) := by decide +kernel
theorem dX5_findOrder_176 : decode cX5_findOrder 176 = .ok (.aload_n 0, 1) := by decide +kernel
theorem dX5_findOrder_177 : decode cX5_findOrder 177 = .ok (.getfield 51, 3) := by decide +kernel
theorem dX5_findOrder_180 : decode cX5_findOrder 180 = .ok (.iload_n 3, 1) := by decide +kernel
theorem dX5_findOrder_181 : decode cX5_findOrder 181 = .ok (.iload 6, 2) := by decide +kernel
theorem dX5_findOrder_183 : decode cX5_findOrder 183 = .ok (.ifCond .eq 13, 3) := by decide +kernel
theorem dX5_findOrder_186 : decode cX5_findOrder 186 = .ok (.aload_n 0, 1) := by decide +kernel
theorem dX5_findOrder_187 : decode cX5_findOrder 187 = .ok (.getfield 39, 3) := by decide +kernel
theorem dX5_findOrder_190 : decode cX5_findOrder 190 = .ok (.iload 4, 2) := by decide +kernel
theorem dX5_findOrder_192 : decode cX5_findOrder 192 = .ok (.iaload, 1) := by decide +kernel
theorem dX5_findOrder_193 : decode cX5_findOrder 193 = .ok (.goto 10, 3) := by decide +kernel
theorem dX5_findOrder_196 : decode cX5_findOrder 196 = .ok (.aload_n 0, 1) := by decide +kernel
theorem dX5_findOrder_197 : decode cX5_findOrder 197 = .ok (.getfield 42, 3) := by decide +kernel
theorem dX5_findOrder_200 : decode cX5_findOrder 200 = .ok (.iload 4, 2) := by decide +kernel
theorem dX5_findOrder_202 : decode cX5_findOrder 202 = .ok (.iaload, 1) := by decide +kernel
theorem dX5_findOrder_203 : decode cX5_findOrder 203 = .ok (.iastore, 1) := by decide +kernel
theorem dX5_findOrder_204 : decode cX5_findOrder 204 = .ok (.iload 6, 2) := by decide +kernel
theorem dX5_findOrder_206 : decode cX5_findOrder 206 = .ok (.ifCond .eq 13, 3) := by decide +kernel
theorem dX5_findOrder_209 : decode cX5_findOrder 209 = .ok (.aload_n 0, 1) := by decide +kernel
theorem dX5_findOrder_210 : decode cX5_findOrder 210 = .ok (.getfield 42, 3) := by decide +kernel
theorem dX5_findOrder_213 : decode cX5_findOrder 213 = .ok (.iload 4, 2) := by decide +kernel
theorem dX5_findOrder_215 : decode cX5_findOrder 215 = .ok (.iaload, 1) := by decide +kernel
theorem dX5_findOrder_216 : decode cX5_findOrder 216 = .ok (.goto 10, 3) := by decide +kernel
theorem dX5_findOrder_219 : decode cX5_findOrder 219 = .ok (.aload_n 0, 1) := by decide +kernel
theorem dX5_findOrder_220 : decode cX5_findOrder 220 = .ok (.getfield 39, 3) := by decide +kernel
theorem dX5_findOrder_223 : decode cX5_findOrder 223 = .ok (.iload 4, 2) := by decide +kernel
theorem dX5_findOrder_225 : decode cX5_findOrder 225 = .ok (.iaload, 1) := by decide +kernel
theorem dX5_findOrder_226 : decode cX5_findOrder 226 = .ok (.istore_n 2, 1) := by decide +kernel
theorem dX5_findOrder_227 : decode cX5_findOrder 227 = .ok (.aload_n 0, 1) := by decide +kernel
theorem dX5_findOrder_228 : decode cX5_findOrder 228 = .ok (.dup, 1) := by decide +kernel
theorem dX5_findOrder_229 : decode cX5_findOrder 229 = .ok (.getfield 109, 3) := by decide +kernel
theorem dX5_findOrder_232 : decode cX5_findOrder 232 = .ok (.iload 5, 2) := by decide +kernel
theorem dX5_findOrder_234 : decode cX5_findOrder 234 = .ok (.iadd, 1) := by decide +kernel
theorem dX5_findOrder_235 : decode cX5_findOrder 235 = .ok (.putfield 109, 3) := by decide +kernel
theorem dX5_findOrder_238 : decode cX5_findOrder 238 = .ok (.iinc 3 1, 3) := by decide +kernel
theorem dX5_findOrder_241 : decode cX5_findOrder 241 = .ok (.goto (-227), 3) := by decide +kernel
theorem dX5_findOrder_244 : decode cX5_findOrder 244 = .ok (.return_, 1) := by decide +kernel
set_option maxRecDepth 20000 in
theorem ggX5_cut_X5_isLayer : GoodIn wsX5_cut wsX5_isLayer := goodIn_r _ [6] (by decide +kernel) (by decide +kernel)
set_option maxRecDepth 20000 in
theorem gX5_cut_X5_isLayer : GoodIn wsX5_cut (va_wsS RX5 101 yX5_isLayer wsX5_isLayer) := goodIn_app (goodIn_of _ (by decide +kernel)) ggX5_cut_X5_isLayer
set_option maxRecDepth 20000 in
theorem ggX5_cut_X5_findOrder : GoodIn wsX5_cut wsX5_findOrder := goodIn_r _ [10, 11, 1, 2, 12, 13, 14, 15, 16, 17, 5, 18, 19, 20, 21, 22, 23, 24, 25, 26, 27, 28, 29, 30, 31, 32, 33, 34, 35, 36, 37, 38, 39, 40, 41, 42, 43, 44, 45, 46, 47, 48, 49, 50, 51, 52, 53, 54, 55, 56, 57, 58, 59, 60, 61, 62, 63, 64, 65, 66, 67, 68, 69, 70, 71, 72, 73] (by decide +kernel) (by decide +kernel)
set_option maxRecDepth 20000 in
theorem gX5_cut_X5_findOrder : GoodIn wsX5_cut (wsV RX5 115 RX5 yX5_findOrder wsX5_findOrder) := goodIn_app (goodIn_of _ (by decide +kernel)) ggX5_cut_X5_findOrder
set_option maxRecDepth 20000 in
theorem ggX5_cut_X5_in : GoodIn wsX5_cut wsX5_in := goodIn_r _ [51] (by decide +kernel) (by decide +kernel)
set_option maxRecDepth 20000 in
theorem gX5_cut_X5_in : GoodIn wsX5_cut (va_wsS RX5 54 yX5_in wsX5_in) := goodIn_app (goodIn_of _ (by decide +kernel)) ggX5_cut_X5_in
theorem dX5_cut_0 : decode cX5_cut 0 = .ok (.iload_n 1, 1) := by decide +kernel
theorem dX5_cut_1 : decode cX5_cut 1 = .ok (.invokestatic 101, 3) := by decide +kernel
theorem dX5_cut_4 : decode cX5_cut 4 = .ok (.ifCond .ne 6, 3) := by decide +kernel
theorem dX5_cut_7 : decode cX5_cut 7 = .ok (.bipush (-2), 2) := by decide +kernel
theorem dX5_cut_9 : decode cX5_cut 9 = .ok (.ireturn, 1) := by decide +kernel
theorem dX5_cut_10 : decode cX5_cut 10 = .ok (.aload_n 0, 1) := by decide +kernel
theorem dX5_cut_11 : decode cX5_cut 11 = .ok (.iload_n 1, 1) := by decide +kernel
theorem dX5_cut_12 : decode cX5_cut 12 = .ok (.invokevirtual 115, 3) := by decide +kernel
theorem dX5_cut_15 : decode cX5_cut 15 = .ok (.iload_n 2, 1) := by decide +kernel
theorem dX5_cut_16 : decode cX5_cut 16 = .ok (.iconst 0, 1) := by decide +kernel
theorem dX5_cut_17 : decode cX5_cut 17 = .ok (.aload_n 0, 1) := by decide +kernel
theorem dX5_cut_18 : decode cX5_cut 18 = .ok (.getfield 95, 3) := by decide +kernel
theorem dX5_cut_21 : decode cX5_cut 21 = .ok (.iconst 1, 1) := by decide +kernel
theorem dX5_cut_22 : decode cX5_cut 22 = .ok (.isub, 1) := by decide +kernel
theorem dX5_cut_23 : decode cX5_cut 23 = .ok (.invokestatic 54, 3) := by decide +kernel
theorem dX5_cut_26 : decode cX5_cut 26 = .ok (.ifCond .eq 12, 3) := by decide +kernel
theorem dX5_cut_29 : decode cX5_cut 29 = .ok (.aload_n 0, 1) := by decide +kernel
theorem dX5_cut_30 : decode cX5_cut 30 = .ok (.getfield 48, 3) := by decide +kernel
theorem dX5_cut_33 : decode cX5_cut 33 = .ok (.iload_n 2, 1) := by decide +kernel
theorem dX5_cut_34 : decode cX5_cut 34 = .ok (.iaload, 1) := by decide +kernel
theorem dX5_cut_35 : decode cX5_cut 35 = .ok (.goto 5, 3) := by decide +kernel
theorem dX5_cut_38 : decode cX5_cut 38 = .ok (.bipush (-3), 2) := by decide +kernel
theorem dX5_cut_40 : decode cX5_cut 40 = .ok (.ireturn, 1) := by decide +kernel
set_option maxRecDepth 20000 in
theorem ggX5_begin_X5_isLayer : GoodIn wsX5_begin wsX5_isLayer := goodIn_r _ [6] (by decide +kernel) (by decide +kernel)
set_option maxRecDepth 20000 in
theorem gX5_begin_X5_isLayer : GoodIn wsX5_begin (va_wsS RX5 101 yX5_isLayer wsX5_isLayer) := goodIn_app (goodIn_of _ (by decide +kernel)) ggX5_begin_X5_isLayer
set_option maxRecDepth 20000 in
theorem ggX5_begin_X5_findOrder : GoodIn wsX5_begin wsX5_findOrder := goodIn_r _ [10, 11, 1, 12, 13, 14, 2, 15, 16, 17, 5, 18, 19, 20, 21, 22, 23, 24, 25, 26, 27, 28, 29, 30, 31, 32, 33, 34, 35, 36, 37, 38, 39, 40, 41, 42, 43, 44, 45, 46, 47, 48, 49, 50, 51, 52, 53, 54, 55, 56, 57, 58, 59, 60, 61, 62, 63, 64, 65, 66, 67, 68, 69, 70, 71, 72, 73] (by decide +kernel) (by decide +kernel)
set_option maxRecDepth 20000 in
theorem gX5_begin_X5_findOrder : GoodIn wsX5_begin (wsV RX5 115 RX5 yX5_findOrder wsX5_findOrder) := goodIn_app (goodIn_of _ (by decide +kernel)) ggX5_begin_X5_findOrder
set_option maxRecDepth 20000 in
theorem ggX5_begin_X5_in : GoodIn wsX5_begin wsX5_in := goodIn_r _ [51] (by decide +kernel) (by decide +kernel)
set_option maxRecDepth 20000 in
theorem gX5_begin_X5_in : GoodIn wsX5_begin (va_wsS RX5 54 yX5_in wsX5_in) := goodIn_app (goodIn_of _ (by decide +kernel)) ggX5_begin_X5_in
theorem dX5_begin_0 : decode cX5_begin 0 = .ok (.iload_n 1, 1) := by decide +kernel
theorem dX5_begin_1 : decode cX5_begin 1 = .ok (.invokestatic 101, 3) := by decide +kernel
theorem dX5_begin_4 : decode cX5_begin 4 = .ok (.ifCond .ne 6, 3) := by decide +kernel
theorem dX5_begin_7 : decode cX5_begin 7 = .ok (.bipush (-2), 2) := by decide +kernel
theorem dX5_begin_9 : decode cX5_begin 9 = .ok (.ireturn, 1) := by decide +kernel
theorem dX5_begin_10 : decode cX5_begin 10 = .ok (.aload_n 0, 1) := by decide +kernel
theorem dX5_begin_11 : decode cX5_begin 11 = .ok (.iload_n 1, 1) := by decide +kernel
theorem dX5_begin_12 : decode cX5_begin 12 = .ok (.invokevirtual 115, 3) := by decide +kernel
theorem dX5_begin_15 : decode cX5_begin 15 = .ok (.iload_n 2, 1) := by decide +kernel
theorem dX5_begin_16 : decode cX5_begin 16 = .ok (.iconst 0, 1) := by decide +kernel
theorem dX5_begin_17 : decode cX5_begin 17 = .ok (.aload_n 0, 1) := by decide +kernel
theorem dX5_begin_18 : decode cX5_begin 18 = .ok (.getfield 95, 3) := by decide +kernel
theorem dX5_begin_21 : decode cX5_begin 21 = .ok (.iconst 1, 1) := by decide +kernel
theorem dX5_begin_22 : decode cX5_begin 22 = .ok (.isub, 1) := by decide +kernel
theorem dX5_begin_23 : decode cX5_begin 23 = .ok (.invokestatic 54, 3) := by decide +kernel
theorem dX5_begin_26 : decode cX5_begin 26 = .ok (.ifCond .eq 12, 3) := by decide +kernel
theorem dX5_begin_29 : decode cX5_begin 29 = .ok (.aload_n 0, 1) := by decide +kernel
theorem dX5_begin_30 : decode cX5_begin 30 = .ok (.getfield 51, 3) := by decide +kernel
theorem dX5_begin_33 : decode cX5_begin 33 = .ok (.iload_n 2, 1) := by decide +kernel
theorem dX5_begin_34 : decode cX5_begin 34 = .ok (.iaload, 1) := by decide +kernel
theorem dX5_begin_35 : decode cX5_begin 35 = .ok (.goto 5, 3) := by decide +kernel
theorem dX5_begin_38 : decode cX5_begin 38 = .ok (.bipush (-3), 2) := by decide +kernel
theorem dX5_begin_40 : decode cX5_begin 40 = .ok (.ireturn, 1) := by decide +kernel
set_option maxRecDepth 20000 in
theorem ggX5_air_X5_isLayer : GoodIn wsX5_air wsX5_isLayer := goodIn_r _ [5] (by decide +kernel) (by decide +kernel)
set_option maxRecDepth 20000 in
theorem gX5_air_X5_isLayer : GoodIn wsX5_air (va_wsS RX5 101 yX5_isLayer wsX5_isLayer) := goodIn_app (goodIn_of _ (by decide +kernel)) ggX5_air_X5_isLayer
set_option maxRecDepth 20000 in
theorem ggX5_air_X5_findOrder : GoodIn wsX5_air wsX5_findOrder := goodIn_r _ [9, 1, 10, 11, 12, 13, 14, 15, 16, 17, 4, 18, 19, 20, 21, 22, 23, 24, 25, 26, 27, 28, 29, 30, 31, 32, 33, 34, 35, 36, 37, 38, 39, 40, 41, 42, 43, 44, 45, 46, 47, 48, 49, 50, 51, 52, 53, 54, 55, 56, 57, 58, 59, 60, 61, 62, 63, 64, 65, 66, 67, 68, 69, 70, 71, 72, 73] (by decide +kernel) (by decide +kernel)
set_option maxRecDepth 20000 in
theorem gX5_air_X5_findOrder : GoodIn wsX5_air (wsV RX5 115 RX5 yX5_findOrder wsX5_findOrder) := goodIn_app (goodIn_of _ (by decide +kernel)) ggX5_air_X5_findOrder
theorem dX5_air_0 : decode cX5_air 0 = .ok (.iload_n 1, 1) := by decide +kernel
theorem dX5_air_1 : decode cX5_air 1 = .ok (.invokestatic 101, 3) := by decide +kernel
theorem dX5_air_4 : decode cX5_air 4 = .ok (.ifCond .ne 6, 3) := by decide +kernel
theorem dX5_air_7 : decode cX5_air 7 = .ok (.bipush (-2), 2) := by decide +kernel
theorem dX5_air_9 : decode cX5_air 9 = .ok (.ireturn, 1) := by decide +kernel
theorem dX5_air_10 : decode cX5_air 10 = .ok (.aload_n 0, 1) := by decide +kernel
theorem dX5_air_11 : decode cX5_air 11 = .ok (.iload_n 1, 1) := by decide +kernel
theorem dX5_air_12 : decode cX5_air 12 = .ok (.invokevirtual 115, 3) := by decide +kernel
theorem dX5_air_15 : decode cX5_air 15 = .ok (.aload_n 0, 1) := by decide +kernel
theorem dX5_air_16 : decode cX5_air 16 = .ok (.getfield 109, 3) := by decide +kernel
theorem dX5_air_19 : decode cX5_air 19 = .ok (.ireturn, 1) := by decide +kernel
set_option maxRecDepth 20000 in
theorem ggX5_count_X5_in : GoodIn wsX5_count wsX5_in := goodIn_r _ [6] (by decide +kernel) (by decide +kernel)
set_option maxRecDepth 20000 in
theorem gX5_count_X5_in : GoodIn wsX5_count (va_wsS RX5 54 yX5_in wsX5_in) := goodIn_app (goodIn_of _ (by decide +kernel)) ggX5_count_X5_in
set_option maxRecDepth 20000 in
theorem ggX5_count_X5_wantedOf : GoodIn wsX5_count wsX5_wantedOf := goodIn_r _ [10, 1, 11, 12, 13, 14, 15, 5, 16, 17, 18, 19, 28, 29, 30, 31, 32, 33, 34, 35, 36, 37, 38, 39, 40, 41, 42, 43] (by decide +kernel) (by decide +kernel)
set_option maxRecDepth 20000 in
theorem gX5_count_X5_wantedOf : GoodIn wsX5_count (wsV RX5 92 RX5 yX5_wantedOf wsX5_wantedOf) := goodIn_app (goodIn_of _ (by decide +kernel)) ggX5_count_X5_wantedOf
set_option maxRecDepth 20000 in
theorem ggX5_count_X5_knotOf : GoodIn wsX5_count wsX5_knotOf := goodIn_r _ [23, 24, 25, 26, 5, 27, 28, 29, 30, 31, 32, 33, 34, 35, 36, 37, 38, 39, 40, 41, 42, 43] (by decide +kernel) (by decide +kernel)
set_option maxRecDepth 20000 in
theorem gX5_count_X5_knotOf : GoodIn wsX5_count (wsV RX5 83 RX5 yX5_knotOf wsX5_knotOf) := goodIn_app (goodIn_of _ (by decide +kernel)) ggX5_count_X5_knotOf
theorem dX5_count_0 : decode cX5_count 0 = .ok (.iconst 0, 1) := by decide +kernel
theorem dX5_count_1 : decode cX5_count 1 = .ok (.istore_n 2, 1) := by decide +kernel
theorem dX5_count_2 : decode cX5_count 2 = .ok (.iload_n 1, 1) := by decide +kernel
theorem dX5_count_3 : decode cX5_count 3 = .ok (.iconst 0, 1) := by decide +kernel
theorem dX5_count_4 : decode cX5_count 4 = .ok (.iconst 4, 1) := by decide +kernel
theorem dX5_count_5 : decode cX5_count 5 = .ok (.invokestatic 54, 3) := by decide +kernel
theorem dX5_count_8 : decode cX5_count 8 = .ok (.ifCond .ne 6, 3) := by decide +kernel
theorem dX5_count_11 : decode cX5_count 11 = .ok (.bipush (-3), 2) := by decide +kernel
theorem dX5_count_13 : decode cX5_count 13 = .ok (.ireturn, 1) := by decide +kernel
theorem dX5_count_14 : decode cX5_count 14 = .ok (.iconst 0, 1) := by decide +kernel
theorem dX5_count_15 : decode cX5_count 15 = .ok (.istore_n 3, 1) := by decide +kernel
theorem dX5_count_16 : decode cX5_count 16 = .ok (.iload_n 3, 1) := by decide +kernel
theorem dX5_count_17 : decode cX5_count 17 = .ok (.bipush 64, 2) := by decide +kernel
theorem dX5_count_19 : decode cX5_count 19 = .ok (.if_icmp .ge 137, 3) := by decide +kernel
theorem dX5_count_22 : decode cX5_count 22 = .ok (.iload_n 1, 1) := by decide +kernel
theorem dX5_count_23 : decode cX5_count 23 = .ok (.ifCond .ne 20, 3) := by decide +kernel
theorem dX5_count_26 : decode cX5_count 26 = .ok (.aload_n 0, 1) := by decide +kernel
theorem dX5_count_27 : decode cX5_count 27 = .ok (.getfield 7, 3) := by decide +kernel
theorem dX5_count_30 : decode cX5_count 30 = .ok (.iload_n 3, 1) := by decide +kernel
theorem dX5_count_31 : decode cX5_count 31 = .ok (.iaload, 1) := by decide +kernel
theorem dX5_count_32 : decode cX5_count 32 = .ok (.ifCond .le 7, 3) := by decide +kernel
theorem dX5_count_35 : decode cX5_count 35 = .ok (.iconst 1, 1) := by decide +kernel
theorem dX5_count_36 : decode cX5_count 36 = .ok (.goto 99, 3) := by decide +kernel
theorem dX5_count_39 : decode cX5_count 39 = .ok (.iconst 0, 1) := by decide +kernel
theorem dX5_count_40 : decode cX5_count 40 = .ok (.goto 95, 3) := by decide +kernel
theorem dX5_count_43 : decode cX5_count 43 = .ok (.iload_n 1, 1) := by decide +kernel
theorem dX5_count_44 : decode cX5_count 44 = .ok (.iconst 1, 1) := by decide +kernel
theorem dX5_count_45 : decode cX5_count 45 = .ok (.if_icmp .ne 12, 3) := by decide +kernel
theorem dX5_count_48 : decode cX5_count 48 = .ok (.aload_n 0, 1) := by decide +kernel
theorem dX5_count_49 : decode cX5_count 49 = .ok (.getfield 16, 3) := by decide +kernel
theorem dX5_count_52 : decode cX5_count 52 = .ok (.iload_n 3, 1) := by decide +kernel
theorem dX5_count_53 : decode cX5_count 53 = .ok (.baload, 1) := by decide +kernel
theorem dX5_count_54 : decode cX5_count 54 = .ok (.goto 81, 3) := by decide +kernel
theorem dX5_count_57 : decode cX5_count 57 = .ok (.iload_n 1, 1) := by decide +kernel
theorem dX5_count_58 : decode cX5_count 58 = .ok (.iconst 4, 1) := by decide +kernel
theorem dX5_count_59 : decode cX5_count 59 = .ok (.if_icmp .ge 22, 3) := by decide +kernel
theorem dX5_count_62 : decode cX5_count 62 = .ok (.aload_n 0, 1) := by decide +kernel
theorem dX5_count_63 : decode cX5_count 63 = .ok (.iload_n 3, 1) := by decide +kernel
theorem dX5_count_64 : decode cX5_count 64 = .ok (.iload_n 1, 1) := by decide +kernel
theorem dX5_count_65 : decode cX5_count 65 = .ok (.iconst 2, 1) := by decide +kernel
theorem dX5_count_66 : decode cX5_count 66 = .ok (.isub, 1) := by decide +kernel
theorem dX5_count_67 : decode cX5_count 67 = .ok (.invokevirtual 92, 3) := by decide +kernel
theorem dX5_count_70 : decode cX5_count 70 = .ok (.ifCond .le 7, 3) := by decide +kernel
theorem dX5_count_73 : decode cX5_count 73 = .ok (.iconst 1, 1) := by decide +kernel
theorem dX5_count_74 : decode cX5_count 74 = .ok (.goto 61, 3) := by decide +kernel
theorem dX5_count_77 : decode cX5_count 77 = .ok (.iconst 0, 1) := by decide +kernel
theorem dX5_count_78 : decode cX5_count 78 = .ok (.goto 57, 3) := by decide +kernel
theorem dX5_count_81 : decode cX5_count 81 = .ok (.iload_n 3, 1) := by decide +kernel
theorem dX5_count_82 : decode cX5_count 82 = .ok (.bipush 8, 2) := by decide +kernel
theorem dX5_count_84 : decode cX5_count 84 = .ok (.irem, 1) := by decide +kernel
theorem dX5_count_85 : decode cX5_count 85 = .ok (.bipush 7, 2) := by decide +kernel
theorem dX5_count_87 : decode cX5_count 87 = .ok (.if_icmp .ge 47, 3) := by decide +kernel
theorem dX5_count_90 : decode cX5_count 90 = .ok (.iload_n 3, 1) := by decide +kernel
theorem dX5_count_91 : decode cX5_count 91 = .ok (.bipush 8, 2) := by decide +kernel
theorem dX5_count_93 : decode cX5_count 93 = .ok (.idiv, 1) := by decide +kernel
theorem dX5_count_94 : decode cX5_count 94 = .ok (.bipush 7, 2) := by decide +kernel
theorem dX5_count_96 : decode cX5_count 96 = .ok (.if_icmp .ge 38, 3) := by decide +kernel
theorem dX5_count_99 : decode cX5_count 99 = .ok (.aload_n 0, 1) := by decide +kernel
theorem dX5_count_100 : decode cX5_count 100 = .ok (.iload_n 3, 1) := by decide +kernel
theorem dX5_count_101 : decode cX5_count 101 = .ok (.bipush 8, 2) := by decide +kernel
theorem dX5_count_103 : decode cX5_count 103 = .ok (.irem, 1) := by decide +kernel
theorem dX5_count_104 : decode cX5_count 104 = .ok (.iload_n 3, 1) := by decide +kernel
theorem dX5_count_105 : decode cX5_count 105 = .ok (.bipush 8, 2) := by decide +kernel
theorem dX5_count_107 : decode cX5_count 107 = .ok (.idiv, 1) := by decide +kernel
theorem dX5_count_108 : decode cX5_count 108 = .ok (.invokevirtual 83, 3) := by decide +kernel
theorem dX5_count_111 : decode cX5_count 111 = .ok (.ifCond .eq 23, 3) := by decide +kernel
theorem dX5_count_114 : decode cX5_count 114 = .ok (.aload_n 0, 1) := by decide +kernel
theorem dX5_count_115 : decode cX5_count 115 = .ok (.iload_n 3, 1) := by decide +kernel
theorem dX5_count_116 : decode cX5_count 116 = .ok (.bipush 8, 2) := by decide +kernel
theorem dX5_count_118 : decode cX5_count 118 = .ok (.irem, 1) := by decide +kernel
theorem dX5_count_119 : decode cX5_count 119 = .ok (.iload_n 3, 1) := by decide +kernel
theorem dX5_count_120 : decode cX5_count 120 = .ok (.bipush 8, 2) := by decide +kernel
theorem dX5_count_122 : decode cX5_count 122 = .ok (.idiv, 1) := by decide +kernel
theorem dX5_count_123 : decode cX5_count 123 = .ok (.invokevirtual 83, 3) := by decide +kernel
theorem dX5_count_126 : decode cX5_count 126 = .ok (.iconst 2, 1) := by decide +kernel
theorem dX5_count_127 : decode cX5_count 127 = .ok (.if_icmp .eq 7, 3) := by decide +kernel
theorem dX5_count_130 : decode cX5_count 130 = .ok (.iconst 1, 1) := by decide +kernel
theorem dX5_count_131 : decode cX5_count 131 = .ok (.goto 4, 3) := by decide +kernel
theorem dX5_count_134 : decode cX5_count 134 = .ok (.iconst 0, 1) := by decide +kernel
theorem dX5_count_135 : decode cX5_count 135 = .ok (.istore 4, 2) := by decide +kernel
theorem dX5_count_137 : decode cX5_count 137 = .ok (.iload_n 2, 1) := by decide +kernel
theorem dX5_count_138 : decode cX5_count 138 = .ok (.iload 4, 2) := by decide +kernel
theorem dX5_count_140 : decode cX5_count 140 = .ok (.ifCond .eq 7, 3) := by decide +kernel
theorem dX5_count_143 : decode cX5_count 143 = .ok (.iconst 1, 1) := by decide +kernel
theorem dX5_count_144 : decode cX5_count 144 = .ok (.goto 4, 3) := by decide +kernel
theorem dX5_count_147 : decode cX5_count 147 = .ok (.iconst 0, 1) := by decide +kernel
theorem dX5_count_148 : decode cX5_count 148 = .ok (.iadd, 1) := by decide +kernel
theorem dX5_count_149 : decode cX5_count 149 = .ok (.istore_n 2, 1) := by decide +kernel
theorem dX5_count_150 : decode cX5_count 150 = .ok (.iinc 3 1, 3) := by decide +kernel
theorem dX5_count_153 : decode cX5_count 153 = .ok (.goto (-137), 3) := by decide +kernel
theorem dX5_count_156 : decode cX5_count 156 = .ok (.iload_n 2, 1) := by decide +kernel
theorem dX5_count_157 : decode cX5_count 157 = .ok (.ireturn, 1) := by decide +kernel
theorem dJ9_floorMod_7cf53_0 : decode cJ9_floorMod_7cf53 0 = .ok (.iload_n 0, 1) := by decide +kernel
theorem dJ9_floorMod_7cf53_1 : decode cJ9_floorMod_7cf53 1 = .ok (.iload_n 1, 1) := by decide +kernel
theorem dJ9_floorMod_7cf53_2 : decode cJ9_floorMod_7cf53 2 = .ok (.irem, 1) := by decide +kernel
theorem dJ9_floorMod_7cf53_3 : decode cJ9_floorMod_7cf53 3 = .ok (.istore_n 2, 1) := by decide +kernel
theorem dJ9_floorMod_7cf53_4 : decode cJ9_floorMod_7cf53 4 = .ok (.iload_n 0, 1) := by decide +kernel
theorem dJ9_floorMod_7cf53_5 : decode cJ9_floorMod_7cf53 5 = .ok (.iload_n 1, 1) := by decide +kernel
theorem dJ9_floorMod_7cf53_6 : decode cJ9_floorMod_7cf53 6 = .ok (.ixor, 1) := by decide +kernel
theorem dJ9_floorMod_7cf53_7 : decode cJ9_floorMod_7cf53 7 = .ok (.ifCond .ge 11, 3) := by decide +kernel
theorem dJ9_floorMod_7cf53_10 : decode cJ9_floorMod_7cf53 10 = .ok (.iload_n 2, 1) := by decide +kernel
theorem dJ9_floorMod_7cf53_11 : decode cJ9_floorMod_7cf53 11 = .ok (.ifCond .eq 7, 3) := by decide +kernel
theorem dJ9_floorMod_7cf53_14 : decode cJ9_floorMod_7cf53 14 = .ok (.iload_n 2, 1) := by decide +kernel
theorem dJ9_floorMod_7cf53_15 : decode cJ9_floorMod_7cf53 15 = .ok (.iload_n 1, 1) := by decide +kernel
theorem dJ9_floorMod_7cf53_16 : decode cJ9_floorMod_7cf53 16 = .ok (.iadd, 1) := by decide +kernel
theorem dJ9_floorMod_7cf53_17 : decode cJ9_floorMod_7cf53 17 = .ok (.ireturn, 1) := by decide +kernel
theorem dJ9_floorMod_7cf53_18 : decode cJ9_floorMod_7cf53 18 = .ok (.iload_n 2, 1) := by decide +kernel
theorem dJ9_floorMod_7cf53_19 : decode cJ9_floorMod_7cf53 19 = .ok (.ireturn, 1) := by decide +kernel
theorem dJ9_abs_0f7a4_0 : decode cJ9_abs_0f7a4 0 = .ok (.iload_n 0, 1) := by decide +kernel
theorem dJ9_abs_0f7a4_1 : decode cJ9_abs_0f7a4 1 = .ok (.ifCond .ge 8, 3) := by decide +kernel
theorem dJ9_abs_0f7a4_4 : decode cJ9_abs_0f7a4 4 = .ok (.iload_n 0, 1) := by decide +kernel
theorem dJ9_abs_0f7a4_5 : decode cJ9_abs_0f7a4 5 = .ok (.ineg, 1) := by decide +kernel
theorem dJ9_abs_0f7a4_6 : decode cJ9_abs_0f7a4 6 = .ok (.goto 4, 3) := by decide +kernel
theorem dJ9_abs_0f7a4_9 : decode cJ9_abs_0f7a4 9 = .ok (.iload_n 0, 1) := by decide +kernel
theorem dJ9_abs_0f7a4_10 : decode cJ9_abs_0f7a4 10 = .ok (.ireturn, 1) := by decide +kernel
theorem dJ9_max_7cf53_0 : decode cJ9_max_7cf53 0 = .ok (.iload_n 0, 1) := by decide +kernel
theorem dJ9_max_7cf53_1 : decode cJ9_max_7cf53 1 = .ok (.iload_n 1, 1) := by decide +kernel
theorem dJ9_max_7cf53_2 : decode cJ9_max_7cf53 2 = .ok (.if_icmp .lt 7, 3) := by decide +kernel
theorem dJ9_max_7cf53_5 : decode cJ9_max_7cf53 5 = .ok (.iload_n 0, 1) := by decide +kernel
theorem dJ9_max_7cf53_6 : decode cJ9_max_7cf53 6 = .ok (.goto 4, 3) := by decide +kernel
theorem dJ9_max_7cf53_9 : decode cJ9_max_7cf53 9 = .ok (.iload_n 1, 1) := by decide +kernel
theorem dJ9_max_7cf53_10 : decode cJ9_max_7cf53 10 = .ok (.ireturn, 1) := by decide +kernel
theorem dJ9_min_7cf53_0 : decode cJ9_min_7cf53 0 = .ok (.iload_n 0, 1) := by decide +kernel
theorem dJ9_min_7cf53_1 : decode cJ9_min_7cf53 1 = .ok (.iload_n 1, 1) := by decide +kernel
theorem dJ9_min_7cf53_2 : decode cJ9_min_7cf53 2 = .ok (.if_icmp .gt 7, 3) := by decide +kernel
theorem dJ9_min_7cf53_5 : decode cJ9_min_7cf53 5 = .ok (.iload_n 0, 1) := by decide +kernel
theorem dJ9_min_7cf53_6 : decode cJ9_min_7cf53 6 = .ok (.goto 4, 3) := by decide +kernel
theorem dJ9_min_7cf53_9 : decode cJ9_min_7cf53 9 = .ok (.iload_n 1, 1) := by decide +kernel
theorem dJ9_min_7cf53_10 : decode cJ9_min_7cf53 10 = .ok (.ireturn, 1) := by decide +kernel
