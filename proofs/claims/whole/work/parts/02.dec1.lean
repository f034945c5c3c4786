theorem dX0_init_0 : decode cX0_init 0 = .ok (.aload_n 0, 1) := by decide +kernel
theorem dX0_init_1 : decode cX0_init 1 = .ok (.invokespecial 3, 3) := by decide +kernel
theorem dX0_init_4 : decode cX0_init 4 = .ok (.aload_n 0, 1) := by decide +kernel
theorem dX0_init_5 : decode cX0_init 5 = .ok (.bipush 64, 2) := by decide +kernel
theorem dX0_init_7 : decode cX0_init 7 = .ok (.newarray .int, 2) := by decide +kernel
theorem dX0_init_9 : decode cX0_init 9 = .ok (.putfield 9, 3) := by decide +kernel
theorem dX0_init_12 : decode cX0_init 12 = .ok (.aload_n 0, 1) := by decide +kernel
theorem dX0_init_13 : decode cX0_init 13 = .ok (.bipush 64, 2) := by decide +kernel
theorem dX0_init_15 : decode cX0_init 15 = .ok (.newarray .int, 2) := by decide +kernel
theorem dX0_init_17 : decode cX0_init 17 = .ok (.putfield 15, 3) := by decide +kernel
theorem dX0_init_20 : decode cX0_init 20 = .ok (.aload_n 0, 1) := by decide +kernel
theorem dX0_init_21 : decode cX0_init 21 = .ok (.bipush 64, 2) := by decide +kernel
theorem dX0_init_23 : decode cX0_init 23 = .ok (.newarray .boolean, 2) := by decide +kernel
theorem dX0_init_25 : decode cX0_init 25 = .ok (.putfield 18, 3) := by decide +kernel
theorem dX0_init_28 : decode cX0_init 28 = .ok (.return_, 1) := by decide +kernel
theorem dX0_has_0 : decode cX0_has 0 = .ok (.iload_n 1, 1) := by decide +kernel
theorem dX0_has_1 : decode cX0_has 1 = .ok (.ifCond .lt 21, 3) := by decide +kernel
theorem dX0_has_4 : decode cX0_has 4 = .ok (.iload_n 1, 1) := by decide +kernel
theorem dX0_has_5 : decode cX0_has 5 = .ok (.aload_n 0, 1) := by decide +kernel
theorem dX0_has_6 : decode cX0_has 6 = .ok (.getfield 22, 3) := by decide +kernel
theorem dX0_has_9 : decode cX0_has 9 = .ok (.if_icmp .ge 13, 3) := by decide +kernel
theorem dX0_has_12 : decode cX0_has 12 = .ok (.iload_n 1, 1) := by decide +kernel
theorem dX0_has_13 : decode cX0_has 13 = .ok (.bipush 64, 2) := by decide +kernel
theorem dX0_has_15 : decode cX0_has 15 = .ok (.if_icmp .ge 7, 3) := by decide +kernel
theorem dX0_has_18 : decode cX0_has 18 = .ok (.iconst 1, 1) := by decide +kernel
theorem dX0_has_19 : decode cX0_has 19 = .ok (.goto 4, 3) := by decide +kernel
theorem dX0_has_22 : decode cX0_has 22 = .ok (.iconst 0, 1) := by decide +kernel
theorem dX0_has_23 : decode cX0_has 23 = .ok (.ireturn, 1) := by decide +kernel
set_option maxRecDepth 20000 in
theorem ggX0_plan_X4_cellOf : GoodIn wsX0_plan wsX4_cellOf := goodIn_r _ [7] (by decide +kernel) (by decide +kernel)
set_option maxRecDepth 20000 in
theorem gX0_plan_X4_cellOf_n29 : GoodIn wsX0_plan (wsX4_cellOf) := ggX0_plan_X4_cellOf
set_option maxRecDepth 20000 in
theorem ggX0_plan_X0_nearestPath : GoodIn wsX0_plan wsX0_nearestPath := goodIn_r _ [12, 4, 1, 13, 14, 15, 16, 17, 18, 19, 6, 20, 21, 22, 23, 24, 25, 26, 38, 39, 40, 41, 42, 43, 44, 45, 46, 33, 34, 35, 36, 37] (by decide +kernel) (by decide +kernel)
set_option maxRecDepth 20000 in
theorem gX0_plan_X0_nearestPath : GoodIn wsX0_plan (wsV RX0 38 RX0 yX0_nearestPath wsX0_nearestPath) := goodIn_app (goodIn_of _ (by decide +kernel)) ggX0_plan_X0_nearestPath
set_option maxRecDepth 20000 in
theorem ggX0_plan_X0_cutPath : GoodIn wsX0_plan wsX0_cutPath := goodIn_r _ [30, 2, 13, 14, 31, 32, 3, 1, 19, 6, 20, 21, 22, 17, 23, 24, 25, 26, 33, 34, 35, 36, 37, 38, 39, 40, 41, 42, 43, 44, 45, 46] (by decide +kernel) (by decide +kernel)
set_option maxRecDepth 20000 in
theorem gX0_plan_X0_cutPath : GoodIn wsX0_plan (wsV RX0 42 RX0 yX0_cutPath wsX0_cutPath) := goodIn_app (goodIn_of _ (by decide +kernel)) ggX0_plan_X0_cutPath
theorem dX0_plan_0 : decode cX0_plan 0 = .ok (.iconst 0, 1) := by decide +kernel
theorem dX0_plan_1 : decode cX0_plan 1 = .ok (.istore_n 2, 1) := by decide +kernel
theorem dX0_plan_2 : decode cX0_plan 2 = .ok (.iload_n 2, 1) := by decide +kernel
theorem dX0_plan_3 : decode cX0_plan 3 = .ok (.bipush 64, 2) := by decide +kernel
theorem dX0_plan_5 : decode cX0_plan 5 = .ok (.if_icmp .ge 16, 3) := by decide +kernel
theorem dX0_plan_8 : decode cX0_plan 8 = .ok (.aload_n 0, 1) := by decide +kernel
theorem dX0_plan_9 : decode cX0_plan 9 = .ok (.getfield 18, 3) := by decide +kernel
theorem dX0_plan_12 : decode cX0_plan 12 = .ok (.iload_n 2, 1) := by decide +kernel
theorem dX0_plan_13 : decode cX0_plan 13 = .ok (.iconst 0, 1) := by decide +kernel
theorem dX0_plan_14 : decode cX0_plan 14 = .ok (.bastore, 1) := by decide +kernel
theorem dX0_plan_15 : decode cX0_plan 15 = .ok (.iinc 2 1, 3) := by decide +kernel
theorem dX0_plan_18 : decode cX0_plan 18 = .ok (.goto (-16), 3) := by decide +kernel
theorem dX0_plan_21 : decode cX0_plan 21 = .ok (.aload_n 0, 1) := by decide +kernel
theorem dX0_plan_22 : decode cX0_plan 22 = .ok (.iconst 0, 1) := by decide +kernel
theorem dX0_plan_23 : decode cX0_plan 23 = .ok (.putfield 22, 3) := by decide +kernel
theorem dX0_plan_26 : decode cX0_plan 26 = .ok (.aload_n 0, 1) := by decide +kernel
theorem dX0_plan_27 : decode cX0_plan 27 = .ok (.iconst 0, 1) := by decide +kernel
theorem dX0_plan_28 : decode cX0_plan 28 = .ok (.putfield 26, 3) := by decide +kernel
theorem dX0_plan_31 : decode cX0_plan 31 = .ok (.iconst 0, 1) := by decide +kernel
theorem dX0_plan_32 : decode cX0_plan 32 = .ok (.iconst 0, 1) := by decide +kernel
theorem dX0_plan_33 : decode cX0_plan 33 = .ok (.invokestatic 29, 3) := by decide +kernel
theorem dX0_plan_36 : decode cX0_plan 36 = .ok (.istore_n 2, 1) := by decide +kernel
theorem dX0_plan_37 : decode cX0_plan 37 = .ok (.iconst 0, 1) := by decide +kernel
theorem dX0_plan_38 : decode cX0_plan 38 = .ok (.istore_n 3, 1) := by decide +kernel
theorem dX0_plan_39 : decode cX0_plan 39 = .ok (.iload_n 3, 1) := by decide +kernel
theorem dX0_plan_40 : decode cX0_plan 40 = .ok (.aload_n 1, 1) := by decide +kernel
theorem dX0_plan_41 : decode cX0_plan 41 = .ok (.getfield 33, 3) := by decide +kernel
theorem dX0_plan_44 : decode cX0_plan 44 = .ok (.if_icmp .ge 39, 3) := by decide +kernel
theorem dX0_plan_47 : decode cX0_plan 47 = .ok (.iload_n 3, 1) := by decide +kernel
theorem dX0_plan_48 : decode cX0_plan 48 = .ok (.bipush 64, 2) := by decide +kernel
theorem dX0_plan_50 : decode cX0_plan 50 = .ok (.if_icmp .ge 33, 3) := by decide +kernel
theorem dX0_plan_53 : decode cX0_plan 53 = .ok (.aload_n 0, 1) := by decide +kernel
theorem dX0_plan_54 : decode cX0_plan 54 = .ok (.aload_n 1, 1) := by decide +kernel
theorem dX0_plan_55 : decode cX0_plan 55 = .ok (.iload_n 2, 1) := by decide +kernel
theorem dX0_plan_56 : decode cX0_plan 56 = .ok (.invokevirtual 38, 3) := by decide +kernel
theorem dX0_plan_59 : decode cX0_plan 59 = .ok (.istore 4, 2) := by decide +kernel
theorem dX0_plan_61 : decode cX0_plan 61 = .ok (.iload 4, 2) := by decide +kernel
theorem dX0_plan_63 : decode cX0_plan 63 = .ok (.iconst (-1), 1) := by decide +kernel
theorem dX0_plan_64 : decode cX0_plan 64 = .ok (.if_icmp .ne 4, 3) := by decide +kernel
theorem dX0_plan_67 : decode cX0_plan 67 = .ok (.return_, 1) := by decide +kernel
theorem dX0_plan_68 : decode cX0_plan 68 = .ok (.aload_n 0, 1) := by decide +kernel
theorem dX0_plan_69 : decode cX0_plan 69 = .ok (.aload_n 1, 1) := by decide +kernel
theorem dX0_plan_70 : decode cX0_plan 70 = .ok (.iload 4, 2) := by decide +kernel
theorem dX0_plan_72 : decode cX0_plan 72 = .ok (.iload_n 2, 1) := by decide +kernel
theorem dX0_plan_73 : decode cX0_plan 73 = .ok (.invokevirtual 42, 3) := by decide +kernel
theorem dX0_plan_76 : decode cX0_plan 76 = .ok (.istore_n 2, 1) := by decide +kernel
theorem dX0_plan_77 : decode cX0_plan 77 = .ok (.iinc 3 1, 3) := by decide +kernel
theorem dX0_plan_80 : decode cX0_plan 80 = .ok (.goto (-41), 3) := by decide +kernel
theorem dX0_plan_83 : decode cX0_plan 83 = .ok (.return_, 1) := by decide +kernel
set_option maxRecDepth 20000 in
theorem ggX0_nearestPath_X4_wayBetween : GoodIn wsX0_nearestPath wsX4_wayBetween := goodIn_r _ [11, 12, 13, 7, 14, 15, 16, 17] (by decide +kernel) (by decide +kernel)
set_option maxRecDepth 20000 in
theorem gX0_nearestPath_X4_wayBetween_n49 : GoodIn wsX0_nearestPath (wsX4_wayBetween) := ggX0_nearestPath_X4_wayBetween
theorem dX0_nearestPath_0 : decode cX0_nearestPath 0 = .ok (.iconst (-1), 1) := by decide +kernel
theorem dX0_nearestPath_1 : decode cX0_nearestPath 1 = .ok (.istore_n 3, 1) := by decide +kernel
theorem dX0_nearestPath_2 : decode cX0_nearestPath 2 = .ok (.bipush 8, 2) := by decide +kernel
theorem dX0_nearestPath_4 : decode cX0_nearestPath 4 = .ok (.istore 4, 2) := by decide +kernel
theorem dX0_nearestPath_6 : decode cX0_nearestPath 6 = .ok (.iconst 0, 1) := by decide +kernel
theorem dX0_nearestPath_7 : decode cX0_nearestPath 7 = .ok (.istore 5, 2) := by decide +kernel
theorem dX0_nearestPath_9 : decode cX0_nearestPath 9 = .ok (.iload 5, 2) := by decide +kernel
theorem dX0_nearestPath_11 : decode cX0_nearestPath 11 = .ok (.aload_n 1, 1) := by decide +kernel
theorem dX0_nearestPath_12 : decode cX0_nearestPath 12 = .ok (.getfield 33, 3) := by decide +kernel
theorem dX0_nearestPath_15 : decode cX0_nearestPath 15 = .ok (.if_icmp .ge 70, 3) := by decide +kernel
theorem dX0_nearestPath_18 : decode cX0_nearestPath 18 = .ok (.iload 5, 2) := by decide +kernel
theorem dX0_nearestPath_20 : decode cX0_nearestPath 20 = .ok (.bipush 64, 2) := by decide +kernel
theorem dX0_nearestPath_22 : decode cX0_nearestPath 22 = .ok (.if_icmp .ge 63, 3) := by decide +kernel
theorem dX0_nearestPath_25 : decode cX0_nearestPath 25 = .ok (.aload_n 0, 1) := by decide +kernel
theorem dX0_nearestPath_26 : decode cX0_nearestPath 26 = .ok (.getfield 18, 3) := by decide +kernel
theorem dX0_nearestPath_29 : decode cX0_nearestPath 29 = .ok (.iload 5, 2) := by decide +kernel
theorem dX0_nearestPath_31 : decode cX0_nearestPath 31 = .ok (.baload, 1) := by decide +kernel
theorem dX0_nearestPath_32 : decode cX0_nearestPath 32 = .ok (.ifCond .eq 6, 3) := by decide +kernel
theorem dX0_nearestPath_35 : decode cX0_nearestPath 35 = .ok (.goto 44, 3) := by decide +kernel
theorem dX0_nearestPath_38 : decode cX0_nearestPath 38 = .ok (.iload_n 2, 1) := by decide +kernel
theorem dX0_nearestPath_39 : decode cX0_nearestPath 39 = .ok (.aload_n 1, 1) := by decide +kernel
theorem dX0_nearestPath_40 : decode cX0_nearestPath 40 = .ok (.getfield 46, 3) := by decide +kernel
theorem dX0_nearestPath_43 : decode cX0_nearestPath 43 = .ok (.iload 5, 2) := by decide +kernel
theorem dX0_nearestPath_45 : decode cX0_nearestPath 45 = .ok (.iaload, 1) := by decide +kernel
theorem dX0_nearestPath_46 : decode cX0_nearestPath 46 = .ok (.invokestatic 49, 3) := by decide +kernel
theorem dX0_nearestPath_49 : decode cX0_nearestPath 49 = .ok (.iload_n 2, 1) := by decide +kernel
theorem dX0_nearestPath_50 : decode cX0_nearestPath 50 = .ok (.aload_n 1, 1) := by decide +kernel
theorem dX0_nearestPath_51 : decode cX0_nearestPath 51 = .ok (.getfield 52, 3) := by decide +kernel
theorem dX0_nearestPath_54 : decode cX0_nearestPath 54 = .ok (.iload 5, 2) := by decide +kernel
theorem dX0_nearestPath_56 : decode cX0_nearestPath 56 = .ok (.iaload, 1) := by decide +kernel
theorem dX0_nearestPath_57 : decode cX0_nearestPath 57 = .ok (.invokestatic 49, 3) := by decide +kernel
theorem dX0_nearestPath_60 : decode cX0_nearestPath 60 = .ok (.invokestatic 55, 3) := by decide +kernel
theorem dX0_nearestPath_63 : decode cX0_nearestPath 63 = .ok (.istore 6, 2) := by decide +kernel
theorem dX0_nearestPath_65 : decode cX0_nearestPath 65 = .ok (.iload 6, 2) := by decide +kernel
theorem dX0_nearestPath_67 : decode cX0_nearestPath 67 = .ok (.iload 4, 2) := by decide +kernel
theorem dX0_nearestPath_69 : decode cX0_nearestPath 69 = .ok (.if_icmp .ge 10, 3) := by decide +kernel
theorem dX0_nearestPath_72 : decode cX0_nearestPath 72 = .ok (.iload 6, 2) := by decide +kernel
theorem dX0_nearestPath_74 : decode cX0_nearestPath 74 = .ok (.istore 4, 2) := by decide +kernel
theorem dX0_nearestPath_76 : decode cX0_nearestPath 76 = .ok (.iload 5, 2) := by decide +kernel
theorem dX0_nearestPath_78 : decode cX0_nearestPath 78 = .ok (.istore_n 3, 1) := by decide +kernel
theorem dX0_nearestPath_79 : decode cX0_nearestPath 79 = .ok (.iinc 5 1, 3) := by decide +kernel
theorem dX0_nearestPath_82 : decode cX0_nearestPath 82 = .ok (.goto (-73), 3) := by decide +kernel
theorem dX0_nearestPath_85 : decode cX0_nearestPath 85 = .ok (.iload_n 3, 1) := by decide +kernel
theorem dX0_nearestPath_86 : decode cX0_nearestPath 86 = .ok (.ireturn, 1) := by decide +kernel
set_option maxRecDepth 20000 in
theorem ggX0_cutPath_X4_wayBetween : GoodIn wsX0_cutPath wsX4_wayBetween := goodIn_r _ [10, 11, 12, 13, 14, 15, 16, 17] (by decide +kernel) (by decide +kernel)
set_option maxRecDepth 20000 in
theorem gX0_cutPath_X4_wayBetween_n49 : GoodIn wsX0_cutPath (wsX4_wayBetween) := ggX0_cutPath_X4_wayBetween
theorem dX0_cutPath_0 : decode cX0_cutPath 0 = .ok (.aload_n 0, 1) := by decide +kernel
theorem dX0_cutPath_1 : decode cX0_cutPath 1 = .ok (.getfield 22, 3) := by decide +kernel
theorem dX0_cutPath_4 : decode cX0_cutPath 4 = .ok (.bipush 64, 2) := by decide +kernel
theorem dX0_cutPath_6 : decode cX0_cutPath 6 = .ok (.if_icmp .lt 5, 3) := by decide +kernel
theorem dX0_cutPath_9 : decode cX0_cutPath 9 = .ok (.iload_n 3, 1) := by decide +kernel
theorem dX0_cutPath_10 : decode cX0_cutPath 10 = .ok (.ireturn, 1) := by decide +kernel
theorem dX0_cutPath_11 : decode cX0_cutPath 11 = .ok (.aload_n 1, 1) := by decide +kernel
theorem dX0_cutPath_12 : decode cX0_cutPath 12 = .ok (.getfield 46, 3) := by decide +kernel
theorem dX0_cutPath_15 : decode cX0_cutPath 15 = .ok (.iload_n 2, 1) := by decide +kernel
theorem dX0_cutPath_16 : decode cX0_cutPath 16 = .ok (.iaload, 1) := by decide +kernel
theorem dX0_cutPath_17 : decode cX0_cutPath 17 = .ok (.istore 4, 2) := by decide +kernel
theorem dX0_cutPath_19 : decode cX0_cutPath 19 = .ok (.aload_n 1, 1) := by decide +kernel
theorem dX0_cutPath_20 : decode cX0_cutPath 20 = .ok (.getfield 52, 3) := by decide +kernel
theorem dX0_cutPath_23 : decode cX0_cutPath 23 = .ok (.iload_n 2, 1) := by decide +kernel
theorem dX0_cutPath_24 : decode cX0_cutPath 24 = .ok (.iaload, 1) := by decide +kernel
theorem dX0_cutPath_25 : decode cX0_cutPath 25 = .ok (.istore 5, 2) := by decide +kernel
theorem dX0_cutPath_27 : decode cX0_cutPath 27 = .ok (.iload_n 3, 1) := by decide +kernel
theorem dX0_cutPath_28 : decode cX0_cutPath 28 = .ok (.iload 4, 2) := by decide +kernel
theorem dX0_cutPath_30 : decode cX0_cutPath 30 = .ok (.invokestatic 49, 3) := by decide +kernel
theorem dX0_cutPath_33 : decode cX0_cutPath 33 = .ok (.iload_n 3, 1) := by decide +kernel
theorem dX0_cutPath_34 : decode cX0_cutPath 34 = .ok (.iload 5, 2) := by decide +kernel
theorem dX0_cutPath_36 : decode cX0_cutPath 36 = .ok (.invokestatic 49, 3) := by decide +kernel
theorem dX0_cutPath_39 : decode cX0_cutPath 39 = .ok (.if_icmp .gt 7, 3) := by decide +kernel
theorem dX0_cutPath_42 : decode cX0_cutPath 42 = .ok (.iconst 1, 1) := by decide +kernel
theorem dX0_cutPath_43 : decode cX0_cutPath 43 = .ok (.goto 4, 3) := by decide +kernel
theorem dX0_cutPath_46 : decode cX0_cutPath 46 = .ok (.iconst 0, 1) := by decide +kernel
theorem dX0_cutPath_47 : decode cX0_cutPath 47 = .ok (.istore 6, 2) := by decide +kernel
theorem dX0_cutPath_49 : decode cX0_cutPath 49 = .ok (.iload 6, 2) := by decide +kernel
theorem dX0_cutPath_51 : decode cX0_cutPath 51 = .ok (.ifCond .eq 8, 3) := by decide +kernel
theorem dX0_cutPath_54 : decode cX0_cutPath 54 = .ok (.iload 4, 2) := by decide +kernel
theorem dX0_cutPath_56 : decode cX0_cutPath 56 = .ok (.goto 5, 3) := by decide +kernel
theorem dX0_cutPath_59 : decode cX0_cutPath 59 = .ok (.iload 5, 2) := by decide +kernel
theorem dX0_cutPath_61 : decode cX0_cutPath 61 = .ok (.istore 7, 2) := by decide +kernel
theorem dX0_cutPath_63 : decode cX0_cutPath 63 = .ok (.aload_n 0, 1) := by decide +kernel
theorem dX0_cutPath_64 : decode cX0_cutPath 64 = .ok (.getfield 9, 3) := by decide +kernel
theorem dX0_cutPath_67 : decode cX0_cutPath 67 = .ok (.aload_n 0, 1) := by decide +kernel
theorem dX0_cutPath_68 : decode cX0_cutPath 68 = .ok (.getfield 22, 3) := by decide +kernel
theorem dX0_cutPath_71 : decode cX0_cutPath 71 = .ok (.iload_n 2, 1) := by decide +kernel
theorem dX0_cutPath_72 : decode cX0_cutPath 72 = .ok (.iastore, 1) := by decide +kernel
theorem dX0_cutPath_73 : decode cX0_cutPath 73 = .ok (.aload_n 0, 1) := by decide +kernel
theorem dX0_cutPath_74 : decode cX0_cutPath 74 = .ok (.getfield 15, 3) := by decide +kernel
theorem dX0_cutPath_77 : decode cX0_cutPath 77 = .ok (.aload_n 0, 1) := by decide +kernel
theorem dX0_cutPath_78 : decode cX0_cutPath 78 = .ok (.getfield 22, 3) := by decide +kernel
theorem dX0_cutPath_81 : decode cX0_cutPath 81 = .ok (.iload 7, 2) := by decide +kernel
theorem dX0_cutPath_83 : decode cX0_cutPath 83 = .ok (.iastore, 1) := by decide +kernel
theorem dX0_cutPath_84 : decode cX0_cutPath 84 = .ok (.aload_n 0, 1) := by decide +kernel
theorem dX0_cutPath_85 : decode cX0_cutPath 85 = .ok (.dup, 1) := by decide +kernel
theorem dX0_cutPath_86 : decode cX0_cutPath 86 = .ok (.getfield 22, 3) := by decide +kernel
theorem dX0_cutPath_89 : decode cX0_cutPath 89 = .ok (.iconst 1, 1) := by decide +kernel
theorem dX0_cutPath_90 : decode cX0_cutPath 90 = .ok (.iadd, 1) := by decide +kernel
theorem dX0_cutPath_91 : decode cX0_cutPath 91 = .ok (.putfield 22, 3) := by decide +kernel
theorem dX0_cutPath_94 : decode cX0_cutPath 94 = .ok (.aload_n 0, 1) := by decide +kernel
theorem dX0_cutPath_95 : decode cX0_cutPath 95 = .ok (.dup, 1) := by decide +kernel
theorem dX0_cutPath_96 : decode cX0_cutPath 96 = .ok (.getfield 26, 3) := by decide +kernel
theorem dX0_cutPath_99 : decode cX0_cutPath 99 = .ok (.iload_n 3, 1) := by decide +kernel
theorem dX0_cutPath_100 : decode cX0_cutPath 100 = .ok (.iload 7, 2) := by decide +kernel
theorem dX0_cutPath_102 : decode cX0_cutPath 102 = .ok (.invokestatic 49, 3) := by decide +kernel
theorem dX0_cutPath_105 : decode cX0_cutPath 105 = .ok (.iadd, 1) := by decide +kernel
theorem dX0_cutPath_106 : decode cX0_cutPath 106 = .ok (.putfield 26, 3) := by decide +kernel
theorem dX0_cutPath_109 : decode cX0_cutPath 109 = .ok (.aload_n 0, 1) := by decide +kernel
theorem dX0_cutPath_110 : decode cX0_cutPath 110 = .ok (.getfield 18, 3) := by decide +kernel
theorem dX0_cutPath_113 : decode cX0_cutPath 113 = .ok (.iload_n 2, 1) := by decide +kernel
theorem dX0_cutPath_114 : decode cX0_cutPath 114 = .ok (.iconst 1, 1) := by decide +kernel
theorem dX0_cutPath_115 : decode cX0_cutPath 115 = .ok (.bastore, 1) := by decide +kernel
theorem dX0_cutPath_116 : decode cX0_cutPath 116 = .ok (.iload 6, 2) := by decide +kernel
theorem dX0_cutPath_118 : decode cX0_cutPath 118 = .ok (.ifCond .eq 8, 3) := by decide +kernel
theorem dX0_cutPath_121 : decode cX0_cutPath 121 = .ok (.iload 5, 2) := by decide +kernel
theorem dX0_cutPath_123 : decode cX0_cutPath 123 = .ok (.goto 5, 3) := by decide +kernel
theorem dX0_cutPath_126 : decode cX0_cutPath 126 = .ok (.iload 4, 2) := by decide +kernel
theorem dX0_cutPath_128 : decode cX0_cutPath 128 = .ok (.ireturn, 1) := by decide +kernel
theorem dX1_init_0 : decode cX1_init 0 = .ok (.aload_n 0, 1) := by decide +kernel
theorem dX1_init_1 : decode cX1_init 1 = .ok (.invokespecial 3, 3) := by decide +kernel
theorem dX1_init_4 : decode cX1_init 4 = .ok (.aload_n 0, 1) := by decide +kernel
theorem dX1_init_5 : decode cX1_init 5 = .ok (.bipush 64, 2) := by decide +kernel
theorem dX1_init_7 : decode cX1_init 7 = .ok (.newarray .int, 2) := by decide +kernel
theorem dX1_init_9 : decode cX1_init 9 = .ok (.putfield 9, 3) := by decide +kernel
theorem dX1_init_12 : decode cX1_init 12 = .ok (.aload_n 0, 1) := by decide +kernel
theorem dX1_init_13 : decode cX1_init 13 = .ok (.bipush 64, 2) := by decide +kernel
theorem dX1_init_15 : decode cX1_init 15 = .ok (.newarray .int, 2) := by decide +kernel
theorem dX1_init_17 : decode cX1_init 17 = .ok (.putfield 15, 3) := by decide +kernel
theorem dX1_init_20 : decode cX1_init 20 = .ok (.aload_n 0, 1) := by decide +kernel
theorem dX1_init_21 : decode cX1_init 21 = .ok (.bipush 64, 2) := by decide +kernel
theorem dX1_init_23 : decode cX1_init 23 = .ok (.newarray .int, 2) := by decide +kernel
theorem dX1_init_25 : decode cX1_init 25 = .ok (.putfield 18, 3) := by decide +kernel
theorem dX1_init_28 : decode cX1_init 28 = .ok (.aload_n 0, 1) := by decide +kernel
theorem dX1_init_29 : decode cX1_init 29 = .ok (.bipush 64, 2) := by decide +kernel
theorem dX1_init_31 : decode cX1_init 31 = .ok (.newarray .int, 2) := by decide +kernel
theorem dX1_init_33 : decode cX1_init 33 = .ok (.putfield 21, 3) := by decide +kernel
theorem dX1_init_36 : decode cX1_init 36 = .ok (.aload_n 0, 1) := by decide +kernel
theorem dX1_init_37 : decode cX1_init 37 = .ok (.bipush 64, 2) := by decide +kernel
theorem dX1_init_39 : decode cX1_init 39 = .ok (.newarray .int, 2) := by decide +kernel
theorem dX1_init_41 : decode cX1_init 41 = .ok (.putfield 24, 3) := by decide +kernel
theorem dX1_init_44 : decode cX1_init 44 = .ok (.aload_n 0, 1) := by decide +kernel
theorem dX1_init_45 : decode cX1_init 45 = .ok (.bipush 64, 2) := by decide +kernel
theorem dX1_init_47 : decode cX1_init 47 = .ok (.newarray .int, 2) := by decide +kernel
theorem dX1_init_49 : decode cX1_init 49 = .ok (.putfield 27, 3) := by decide +kernel
theorem dX1_init_52 : decode cX1_init 52 = .ok (.aload_n 0, 1) := by decide +kernel
theorem dX1_init_53 : decode cX1_init 53 = .ok (.bipush 64, 2) := by decide +kernel
theorem dX1_init_55 : decode cX1_init 55 = .ok (.newarray .int, 2) := by decide +kernel
theorem dX1_init_57 : decode cX1_init 57 = .ok (.putfield 30, 3) := by decide +kernel
theorem dX1_init_60 : decode cX1_init 60 = .ok (.aload_n 0, 1) := by decide +kernel
theorem dX1_init_61 : decode cX1_init 61 = .ok (.iload_n 1, 1) := by decide +kernel
theorem dX1_init_62 : decode cX1_init 62 = .ok (.putfield 33, 3) := by decide +kernel
theorem dX1_init_65 : decode cX1_init 65 = .ok (.return_, 1) := by decide +kernel
set_option maxRecDepth 20000 in
theorem ggX1_draw_X3_widthFor : GoodIn wsX1_draw wsX3_widthFor := goodIn_r _ [12, 13, 14, 15, 16, 17, 78] (by decide +kernel) (by decide +kernel)
set_option maxRecDepth 20000 in
theorem gX1_draw_X3_widthFor : GoodIn wsX1_draw (wsV RX1 42 RX3 yX3_widthFor wsX3_widthFor) := goodIn_app (goodIn_of _ (by decide +kernel)) ggX1_draw_X3_widthFor
set_option maxRecDepth 20000 in
theorem ggX1_draw_X1_wayFor : GoodIn wsX1_draw wsX1_wayFor := goodIn_r _ [22, 3, 23, 24, 25, 26, 66, 67, 68, 69, 70, 71, 72, 73, 74] (by decide +kernel) (by decide +kernel)
set_option maxRecDepth 20000 in
theorem gX1_draw_X1_wayFor : GoodIn wsX1_draw (wsV RX1 51 RX1 yX1_wayFor wsX1_wayFor) := goodIn_app (goodIn_of _ (by decide +kernel)) ggX1_draw_X1_wayFor
set_option maxRecDepth 20000 in
theorem ggX1_draw_X1_tiedTo : GoodIn wsX1_draw wsX1_tiedTo := goodIn_r _ [30, 4, 1, 31, 32, 33, 34, 35, 66, 67, 68, 69, 70, 71, 72, 73, 74] (by decide +kernel) (by decide +kernel)
set_option maxRecDepth 20000 in
theorem gX1_draw_X1_tiedTo : GoodIn wsX1_draw (wsV RX1 58 RX1 yX1_tiedTo wsX1_tiedTo) := goodIn_app (goodIn_of _ (by decide +kernel)) ggX1_draw_X1_tiedTo
set_option maxRecDepth 20000 in
theorem ggX1_draw_X3_swell : GoodIn wsX1_draw wsX3_swell := goodIn_r _ [39, 13, 78] (by decide +kernel) (by decide +kernel)
set_option maxRecDepth 20000 in
theorem gX1_draw_X3_swell : GoodIn wsX1_draw (wsV RX1 61 RX3 yX3_swell wsX3_swell) := goodIn_app (goodIn_of _ (by decide +kernel)) ggX1_draw_X3_swell
set_option maxRecDepth 20000 in
theorem ggX1_draw_X1_addPath : GoodIn wsX1_draw wsX1_addPath := goodIn_r _ [43, 7, 44, 45, 46, 47, 48, 49, 50, 21, 51, 6, 52, 15, 16, 17, 27, 28, 29, 30, 4, 1, 31, 32, 33, 34, 35, 53, 54, 55, 56, 57, 58, 59, 60, 61, 62, 63, 64, 65, 66, 67, 68, 69, 70, 71, 72, 73, 74] (by decide +kernel) (by decide +kernel)
set_option maxRecDepth 20000 in
theorem gX1_draw_X1_addPath : GoodIn wsX1_draw (wsV RX1 65 RX1 yX1_addPath wsX1_addPath) := goodIn_app (goodIn_of _ (by decide +kernel)) ggX1_draw_X1_addPath
theorem dX1_draw_0 : decode cX1_draw 0 = .ok (.iconst 0, 1) := by decide +kernel
theorem dX1_draw_1 : decode cX1_draw 1 = .ok (.istore_n 3, 1) := by decide +kernel
theorem dX1_draw_2 : decode cX1_draw 2 = .ok (.iload_n 3, 1) := by decide +kernel
theorem dX1_draw_3 : decode cX1_draw 3 = .ok (.bipush 64, 2) := by decide +kernel
theorem dX1_draw_5 : decode cX1_draw 5 = .ok (.if_icmp .ge 57, 3) := by decide +kernel
theorem dX1_draw_8 : decode cX1_draw 8 = .ok (.aload_n 0, 1) := by decide +kernel
theorem dX1_draw_9 : decode cX1_draw 9 = .ok (.getfield 9, 3) := by decide +kernel
theorem dX1_draw_12 : decode cX1_draw 12 = .ok (.iload_n 3, 1) := by decide +kernel
theorem dX1_draw_13 : decode cX1_draw 13 = .ok (.aload_n 2, 1) := by decide +kernel
theorem dX1_draw_14 : decode cX1_draw 14 = .ok (.aload_n 1, 1) := by decide +kernel
theorem dX1_draw_15 : decode cX1_draw 15 = .ok (.getfield 37, 3) := by decide +kernel
theorem dX1_draw_18 : decode cX1_draw 18 = .ok (.iload_n 3, 1) := by decide +kernel
theorem dX1_draw_19 : decode cX1_draw 19 = .ok (.iaload, 1) := by decide +kernel
theorem dX1_draw_20 : decode cX1_draw 20 = .ok (.aload_n 0, 1) := by decide +kernel
theorem dX1_draw_21 : decode cX1_draw 21 = .ok (.getfield 33, 3) := by decide +kernel
theorem dX1_draw_24 : decode cX1_draw 24 = .ok (.invokevirtual 42, 3) := by decide +kernel
theorem dX1_draw_27 : decode cX1_draw 27 = .ok (.iastore, 1) := by decide +kernel
theorem dX1_draw_28 : decode cX1_draw 28 = .ok (.aload_n 0, 1) := by decide +kernel
theorem dX1_draw_29 : decode cX1_draw 29 = .ok (.getfield 15, 3) := by decide +kernel
theorem dX1_draw_32 : decode cX1_draw 32 = .ok (.iload_n 3, 1) := by decide +kernel
theorem dX1_draw_33 : decode cX1_draw 33 = .ok (.aload_n 0, 1) := by decide +kernel
theorem dX1_draw_34 : decode cX1_draw 34 = .ok (.aload_n 1, 1) := by decide +kernel
theorem dX1_draw_35 : decode cX1_draw 35 = .ok (.getfield 48, 3) := by decide +kernel
theorem dX1_draw_38 : decode cX1_draw 38 = .ok (.iload_n 3, 1) := by decide +kernel
theorem dX1_draw_39 : decode cX1_draw 39 = .ok (.iaload, 1) := by decide +kernel
theorem dX1_draw_40 : decode cX1_draw 40 = .ok (.invokevirtual 51, 3) := by decide +kernel
theorem dX1_draw_43 : decode cX1_draw 43 = .ok (.iastore, 1) := by decide +kernel
theorem dX1_draw_44 : decode cX1_draw 44 = .ok (.aload_n 0, 1) := by decide +kernel
theorem dX1_draw_45 : decode cX1_draw 45 = .ok (.getfield 18, 3) := by decide +kernel
theorem dX1_draw_48 : decode cX1_draw 48 = .ok (.iload_n 3, 1) := by decide +kernel
theorem dX1_draw_49 : decode cX1_draw 49 = .ok (.aload_n 0, 1) := by decide +kernel
theorem dX1_draw_50 : decode cX1_draw 50 = .ok (.getfield 9, 3) := by decide +kernel
theorem dX1_draw_53 : decode cX1_draw 53 = .ok (.iload_n 3, 1) := by decide +kernel
theorem dX1_draw_54 : decode cX1_draw 54 = .ok (.iaload, 1) := by decide +kernel
theorem dX1_draw_55 : decode cX1_draw 55 = .ok (.iastore, 1) := by decide +kernel
theorem dX1_draw_56 : decode cX1_draw 56 = .ok (.iinc 3 1, 3) := by decide +kernel
theorem dX1_draw_59 : decode cX1_draw 59 = .ok (.goto (-57), 3) := by decide +kernel
theorem dX1_draw_62 : decode cX1_draw 62 = .ok (.aload_n 0, 1) := by decide +kernel
theorem dX1_draw_63 : decode cX1_draw 63 = .ok (.iconst 0, 1) := by decide +kernel
theorem dX1_draw_64 : decode cX1_draw 64 = .ok (.putfield 55, 3) := by decide +kernel
theorem dX1_draw_67 : decode cX1_draw 67 = .ok (.iconst 0, 1) := by decide +kernel
theorem dX1_draw_68 : decode cX1_draw 68 = .ok (.istore_n 3, 1) := by decide +kernel
theorem dX1_draw_69 : decode cX1_draw 69 = .ok (.iload_n 3, 1) := by decide +kernel
theorem dX1_draw_70 : decode cX1_draw 70 = .ok (.bipush 64, 2) := by decide +kernel
theorem dX1_draw_72 : decode cX1_draw 72 = .ok (.if_icmp .ge 37, 3) := by decide +kernel
theorem dX1_draw_75 : decode cX1_draw 75 = .ok (.aload_n 0, 1) := by decide +kernel
theorem dX1_draw_76 : decode cX1_draw 76 = .ok (.getfield 9, 3) := by decide +kernel
theorem dX1_draw_79 : decode cX1_draw 79 = .ok (.iload_n 3, 1) := by decide +kernel
theorem dX1_draw_80 : decode cX1_draw 80 = .ok (.iaload, 1) := by decide +kernel
theorem dX1_draw_81 : decode cX1_draw 81 = .ok (.ifCond .le 22, 3) := by decide +kernel
theorem dX1_draw_84 : decode cX1_draw 84 = .ok (.aload_n 0, 1) := by decide +kernel
theorem dX1_draw_85 : decode cX1_draw 85 = .ok (.iload_n 3, 1) := by decide +kernel
theorem dX1_draw_86 : decode cX1_draw 86 = .ok (.iconst (-1), 1) := by decide +kernel
theorem dX1_draw_87 : decode cX1_draw 87 = .ok (.invokevirtual 58, 3) := by decide +kernel
theorem dX1_draw_90 : decode cX1_draw 90 = .ok (.iconst (-1), 1) := by decide +kernel
theorem dX1_draw_91 : decode cX1_draw 91 = .ok (.if_icmp .ne 12, 3) := by decide +kernel
theorem dX1_draw_94 : decode cX1_draw 94 = .ok (.aload_n 0, 1) := by decide +kernel
theorem dX1_draw_95 : decode cX1_draw 95 = .ok (.iload_n 3, 1) := by decide +kernel
theorem dX1_draw_96 : decode cX1_draw 96 = .ok (.aload_n 2, 1) := by decide +kernel
theorem dX1_draw_97 : decode cX1_draw 97 = .ok (.invokevirtual 61, 3) := by decide +kernel
theorem dX1_draw_100 : decode cX1_draw 100 = .ok (.invokevirtual 65, 3) := by decide +kernel
theorem dX1_draw_103 : decode cX1_draw 103 = .ok (.iinc 3 1, 3) := by decide +kernel
theorem dX1_draw_106 : decode cX1_draw 106 = .ok (.goto (-37), 3) := by decide +kernel
theorem dX1_draw_109 : decode cX1_draw 109 = .ok (.return_, 1) := by decide +kernel
set_option maxRecDepth 20000 in
theorem ggX1_wayFor_J9_floorMod_7cf53 : GoodIn wsX1_wayFor wsJ9_floorMod_7cf53 := goodIn_r _ [5] (by decide +kernel) (by decide +kernel)
set_option maxRecDepth 20000 in
theorem gX1_wayFor_J9_floorMod_7cf53 : GoodIn wsX1_wayFor (va_wsS RX1 69 yJ9_floorMod_7cf53 wsJ9_floorMod_7cf53) := goodIn_app (goodIn_of _ (by decide +kernel)) ggX1_wayFor_J9_floorMod_7cf53
theorem dX1_wayFor_0 : decode cX1_wayFor 0 = .ok (.aload_n 0, 1) := by decide +kernel
theorem dX1_wayFor_1 : decode cX1_wayFor 1 = .ok (.getfield 33, 3) := by decide +kernel
theorem dX1_wayFor_4 : decode cX1_wayFor 4 = .ok (.ifCond .ne 7, 3) := by decide +kernel
theorem dX1_wayFor_7 : decode cX1_wayFor 7 = .ok (.iload_n 1, 1) := by decide +kernel
theorem dX1_wayFor_8 : decode cX1_wayFor 8 = .ok (.goto 6, 3) := by decide +kernel
theorem dX1_wayFor_11 : decode cX1_wayFor 11 = .ok (.iload_n 1, 1) := by decide +kernel
theorem dX1_wayFor_12 : decode cX1_wayFor 12 = .ok (.iconst 4, 1) := by decide +kernel
theorem dX1_wayFor_13 : decode cX1_wayFor 13 = .ok (.iadd, 1) := by decide +kernel
theorem dX1_wayFor_14 : decode cX1_wayFor 14 = .ok (.istore_n 2, 1) := by decide +kernel
theorem dX1_wayFor_15 : decode cX1_wayFor 15 = .ok (.iload_n 2, 1) := by decide +kernel
theorem dX1_wayFor_16 : decode cX1_wayFor 16 = .ok (.bipush 8, 2) := by decide +kernel
theorem dX1_wayFor_18 : decode cX1_wayFor 18 = .ok (.invokestatic 69, 3) := by decide +kernel
theorem dX1_wayFor_21 : decode cX1_wayFor 21 = .ok (.iconst 2, 1) := by decide +kernel
theorem dX1_wayFor_22 : decode cX1_wayFor 22 = .ok (.idiv, 1) := by decide +kernel
theorem dX1_wayFor_23 : decode cX1_wayFor 23 = .ok (.ireturn, 1) := by decide +kernel
set_option maxRecDepth 20000 in
theorem ggX1_tiedTo_X4_isCell : GoodIn wsX1_tiedTo wsX4_isCell := goodIn_r _ [5] (by decide +kernel) (by decide +kernel)
set_option maxRecDepth 20000 in
theorem gX1_tiedTo_X4_isCell_n80 : GoodIn wsX1_tiedTo (wsX4_isCell) := ggX1_tiedTo_X4_isCell
set_option maxRecDepth 20000 in
theorem ggX1_tiedTo_X4_cellOf : GoodIn wsX1_tiedTo wsX4_cellOf := goodIn_r _ [7] (by decide +kernel) (by decide +kernel)
set_option maxRecDepth 20000 in
theorem gX1_tiedTo_X4_cellOf_n84 : GoodIn wsX1_tiedTo (wsX4_cellOf) := ggX1_tiedTo_X4_cellOf
theorem dX1_tiedTo_0 : decode cX1_tiedTo 0 = .ok (.aload_n 0, 1) := by decide +kernel
theorem dX1_tiedTo_1 : decode cX1_tiedTo 1 = .ok (.getfield 15, 3) := by decide +kernel
theorem dX1_tiedTo_4 : decode cX1_tiedTo 4 = .ok (.iload_n 1, 1) := by decide +kernel
theorem dX1_tiedTo_5 : decode cX1_tiedTo 5 = .ok (.iaload, 1) := by decide +kernel
theorem dX1_tiedTo_6 : decode cX1_tiedTo 6 = .ok (.istore_n 3, 1) := by decide +kernel
theorem dX1_tiedTo_7 : decode cX1_tiedTo 7 = .ok (.iload_n 1, 1) := by decide +kernel
theorem dX1_tiedTo_8 : decode cX1_tiedTo 8 = .ok (.bipush 8, 2) := by decide +kernel
theorem dX1_tiedTo_10 : decode cX1_tiedTo 10 = .ok (.irem, 1) := by decide +kernel
theorem dX1_tiedTo_11 : decode cX1_tiedTo 11 = .ok (.iload_n 2, 1) := by decide +kernel
theorem dX1_tiedTo_12 : decode cX1_tiedTo 12 = .ok (.getstatic 74, 3) := by decide +kernel
theorem dX1_tiedTo_15 : decode cX1_tiedTo 15 = .ok (.iload_n 3, 1) := by decide +kernel
theorem dX1_tiedTo_16 : decode cX1_tiedTo 16 = .ok (.iaload, 1) := by decide +kernel
theorem dX1_tiedTo_17 : decode cX1_tiedTo 17 = .ok (.imul, 1) := by decide +kernel
theorem dX1_tiedTo_18 : decode cX1_tiedTo 18 = .ok (.iadd, 1) := by decide +kernel
theorem dX1_tiedTo_19 : decode cX1_tiedTo 19 = .ok (.istore 4, 2) := by decide +kernel
theorem dX1_tiedTo_21 : decode cX1_tiedTo 21 = .ok (.iload_n 1, 1) := by decide +kernel
theorem dX1_tiedTo_22 : decode cX1_tiedTo 22 = .ok (.bipush 8, 2) := by decide +kernel
theorem dX1_tiedTo_24 : decode cX1_tiedTo 24 = .ok (.idiv, 1) := by decide +kernel
theorem dX1_tiedTo_25 : decode cX1_tiedTo 25 = .ok (.iload_n 2, 1) := by decide +kernel
theorem dX1_tiedTo_26 : decode cX1_tiedTo 26 = .ok (.getstatic 77, 3) := by decide +kernel
theorem dX1_tiedTo_29 : decode cX1_tiedTo 29 = .ok (.iload_n 3, 1) := by decide +kernel
theorem dX1_tiedTo_30 : decode cX1_tiedTo 30 = .ok (.iaload, 1) := by decide +kernel
theorem dX1_tiedTo_31 : decode cX1_tiedTo 31 = .ok (.imul, 1) := by decide +kernel
theorem dX1_tiedTo_32 : decode cX1_tiedTo 32 = .ok (.iadd, 1) := by decide +kernel
theorem dX1_tiedTo_33 : decode cX1_tiedTo 33 = .ok (.istore 5, 2) := by decide +kernel
theorem dX1_tiedTo_35 : decode cX1_tiedTo 35 = .ok (.iload 4, 2) := by decide +kernel
theorem dX1_tiedTo_37 : decode cX1_tiedTo 37 = .ok (.iload 5, 2) := by decide +kernel
theorem dX1_tiedTo_39 : decode cX1_tiedTo 39 = .ok (.invokestatic 80, 3) := by decide +kernel
theorem dX1_tiedTo_42 : decode cX1_tiedTo 42 = .ok (.ifCond .ne 5, 3) := by decide +kernel
theorem dX1_tiedTo_45 : decode cX1_tiedTo 45 = .ok (.iconst (-1), 1) := by decide +kernel
theorem dX1_tiedTo_46 : decode cX1_tiedTo 46 = .ok (.ireturn, 1) := by decide +kernel
theorem dX1_tiedTo_47 : decode cX1_tiedTo 47 = .ok (.iload 4, 2) := by decide +kernel
theorem dX1_tiedTo_49 : decode cX1_tiedTo 49 = .ok (.iload 5, 2) := by decide +kernel
theorem dX1_tiedTo_51 : decode cX1_tiedTo 51 = .ok (.invokestatic 84, 3) := by decide +kernel
theorem dX1_tiedTo_54 : decode cX1_tiedTo 54 = .ok (.istore 6, 2) := by decide +kernel
theorem dX1_tiedTo_56 : decode cX1_tiedTo 56 = .ok (.aload_n 0, 1) := by decide +kernel
theorem dX1_tiedTo_57 : decode cX1_tiedTo 57 = .ok (.getfield 9, 3) := by decide +kernel
theorem dX1_tiedTo_60 : decode cX1_tiedTo 60 = .ok (.iload 6, 2) := by decide +kernel
theorem dX1_tiedTo_62 : decode cX1_tiedTo 62 = .ok (.iaload, 1) := by decide +kernel
theorem dX1_tiedTo_63 : decode cX1_tiedTo 63 = .ok (.ifCond .le 19, 3) := by decide +kernel
theorem dX1_tiedTo_66 : decode cX1_tiedTo 66 = .ok (.aload_n 0, 1) := by decide +kernel
theorem dX1_tiedTo_67 : decode cX1_tiedTo 67 = .ok (.getfield 15, 3) := by decide +kernel
theorem dX1_tiedTo_70 : decode cX1_tiedTo 70 = .ok (.iload 6, 2) := by decide +kernel
theorem dX1_tiedTo_72 : decode cX1_tiedTo 72 = .ok (.iaload, 1) := by decide +kernel
theorem dX1_tiedTo_73 : decode cX1_tiedTo 73 = .ok (.iload_n 3, 1) := by decide +kernel
theorem dX1_tiedTo_74 : decode cX1_tiedTo 74 = .ok (.if_icmp .ne 8, 3) := by decide +kernel
theorem dX1_tiedTo_77 : decode cX1_tiedTo 77 = .ok (.iload 6, 2) := by decide +kernel
theorem dX1_tiedTo_79 : decode cX1_tiedTo 79 = .ok (.goto 4, 3) := by decide +kernel
theorem dX1_tiedTo_82 : decode cX1_tiedTo 82 = .ok (.iconst (-1), 1) := by decide +kernel
theorem dX1_tiedTo_83 : decode cX1_tiedTo 83 = .ok (.ireturn, 1) := by decide +kernel
set_option maxRecDepth 20000 in
theorem ggX1_addPath_X1_limitSwell : GoodIn wsX1_addPath wsX1_limitSwell := goodIn_r _ [10, 11, 12, 13, 14, 15, 16, 17, 18, 9, 19, 20, 21, 22, 23, 24, 25, 26, 40, 41, 42, 43, 44, 45, 46, 47, 48] (by decide +kernel) (by decide +kernel)
set_option maxRecDepth 20000 in
theorem gX1_addPath_X1_limitSwell : GoodIn wsX1_addPath (wsV RX1 87 RX1 yX1_limitSwell wsX1_limitSwell) := goodIn_app (goodIn_of _ (by decide +kernel)) ggX1_addPath_X1_limitSwell
set_option maxRecDepth 20000 in
theorem ggX1_addPath_X4_wayBetween : GoodIn wsX1_addPath wsX4_wayBetween := goodIn_r _ [28, 29, 30, 14, 31, 32, 33, 34] (by decide +kernel) (by decide +kernel)
set_option maxRecDepth 20000 in
theorem gX1_addPath_X4_wayBetween_n91 : GoodIn wsX1_addPath (wsX4_wayBetween) := ggX1_addPath_X4_wayBetween
set_option maxRecDepth 20000 in
theorem ggX1_addPath_X1_greatestWidthFrom : GoodIn wsX1_addPath wsX1_greatestWidthFrom := goodIn_r _ [38, 11, 39, 33, 14, 34, 16, 17, 18, 9, 19, 20, 21, 22, 23, 24, 25, 26, 40, 41, 42, 43, 44, 45, 46, 47, 48] (by decide +kernel) (by decide +kernel)
set_option maxRecDepth 20000 in
theorem gX1_addPath_X1_greatestWidthFrom : GoodIn wsX1_addPath (wsV RX1 94 RX1 yX1_greatestWidthFrom wsX1_greatestWidthFrom) := goodIn_app (goodIn_of _ (by decide +kernel)) ggX1_addPath_X1_greatestWidthFrom
theorem dX1_addPath_0 : decode cX1_addPath 0 = .ok (.aload_n 0, 1) := by decide +kernel
theorem dX1_addPath_1 : decode cX1_addPath 1 = .ok (.getfield 55, 3) := by decide +kernel
theorem dX1_addPath_4 : decode cX1_addPath 4 = .ok (.bipush 64, 2) := by decide +kernel
theorem dX1_addPath_6 : decode cX1_addPath 6 = .ok (.if_icmp .lt 4, 3) := by decide +kernel
theorem dX1_addPath_9 : decode cX1_addPath 9 = .ok (.return_, 1) := by decide +kernel
theorem dX1_addPath_10 : decode cX1_addPath 10 = .ok (.aload_n 0, 1) := by decide +kernel
theorem dX1_addPath_11 : decode cX1_addPath 11 = .ok (.iload_n 1, 1) := by decide +kernel
theorem dX1_addPath_12 : decode cX1_addPath 12 = .ok (.iconst 1, 1) := by decide +kernel
theorem dX1_addPath_13 : decode cX1_addPath 13 = .ok (.iload_n 2, 1) := by decide +kernel
theorem dX1_addPath_14 : decode cX1_addPath 14 = .ok (.invokevirtual 87, 3) := by decide +kernel
theorem dX1_addPath_17 : decode cX1_addPath 17 = .ok (.istore_n 3, 1) := by decide +kernel
theorem dX1_addPath_18 : decode cX1_addPath 18 = .ok (.aload_n 0, 1) := by decide +kernel
theorem dX1_addPath_19 : decode cX1_addPath 19 = .ok (.iload_n 3, 1) := by decide +kernel
theorem dX1_addPath_20 : decode cX1_addPath 20 = .ok (.iconst (-1), 1) := by decide +kernel
theorem dX1_addPath_21 : decode cX1_addPath 21 = .ok (.iload_n 2, 1) := by decide +kernel
theorem dX1_addPath_22 : decode cX1_addPath 22 = .ok (.invokevirtual 87, 3) := by decide +kernel
theorem dX1_addPath_25 : decode cX1_addPath 25 = .ok (.pop, 1) := by decide +kernel
theorem dX1_addPath_26 : decode cX1_addPath 26 = .ok (.aload_n 0, 1) := by decide +kernel
theorem dX1_addPath_27 : decode cX1_addPath 27 = .ok (.getfield 21, 3) := by decide +kernel
theorem dX1_addPath_30 : decode cX1_addPath 30 = .ok (.aload_n 0, 1) := by decide +kernel
theorem dX1_addPath_31 : decode cX1_addPath 31 = .ok (.getfield 55, 3) := by decide +kernel
theorem dX1_addPath_34 : decode cX1_addPath 34 = .ok (.iload_n 1, 1) := by decide +kernel
theorem dX1_addPath_35 : decode cX1_addPath 35 = .ok (.iastore, 1) := by decide +kernel
theorem dX1_addPath_36 : decode cX1_addPath 36 = .ok (.aload_n 0, 1) := by decide +kernel
theorem dX1_addPath_37 : decode cX1_addPath 37 = .ok (.getfield 24, 3) := by decide +kernel
theorem dX1_addPath_40 : decode cX1_addPath 40 = .ok (.aload_n 0, 1) := by decide +kernel
theorem dX1_addPath_41 : decode cX1_addPath 41 = .ok (.getfield 55, 3) := by decide +kernel
theorem dX1_addPath_44 : decode cX1_addPath 44 = .ok (.iload_n 3, 1) := by decide +kernel
theorem dX1_addPath_45 : decode cX1_addPath 45 = .ok (.iastore, 1) := by decide +kernel
theorem dX1_addPath_46 : decode cX1_addPath 46 = .ok (.aload_n 0, 1) := by decide +kernel
theorem dX1_addPath_47 : decode cX1_addPath 47 = .ok (.getfield 27, 3) := by decide +kernel
theorem dX1_addPath_50 : decode cX1_addPath 50 = .ok (.aload_n 0, 1) := by decide +kernel
theorem dX1_addPath_51 : decode cX1_addPath 51 = .ok (.getfield 55, 3) := by decide +kernel
theorem dX1_addPath_54 : decode cX1_addPath 54 = .ok (.iload_n 1, 1) := by decide +kernel
theorem dX1_addPath_55 : decode cX1_addPath 55 = .ok (.iload_n 3, 1) := by decide +kernel
theorem dX1_addPath_56 : decode cX1_addPath 56 = .ok (.invokestatic 91, 3) := by decide +kernel
theorem dX1_addPath_59 : decode cX1_addPath 59 = .ok (.iconst 1, 1) := by decide +kernel
theorem dX1_addPath_60 : decode cX1_addPath 60 = .ok (.iadd, 1) := by decide +kernel
theorem dX1_addPath_61 : decode cX1_addPath 61 = .ok (.iastore, 1) := by decide +kernel
theorem dX1_addPath_62 : decode cX1_addPath 62 = .ok (.aload_n 0, 1) := by decide +kernel
theorem dX1_addPath_63 : decode cX1_addPath 63 = .ok (.getfield 30, 3) := by decide +kernel
theorem dX1_addPath_66 : decode cX1_addPath 66 = .ok (.aload_n 0, 1) := by decide +kernel
theorem dX1_addPath_67 : decode cX1_addPath 67 = .ok (.getfield 55, 3) := by decide +kernel
theorem dX1_addPath_70 : decode cX1_addPath 70 = .ok (.aload_n 0, 1) := by decide +kernel
theorem dX1_addPath_71 : decode cX1_addPath 71 = .ok (.iload_n 1, 1) := by decide +kernel
theorem dX1_addPath_72 : decode cX1_addPath 72 = .ok (.invokevirtual 94, 3) := by decide +kernel
theorem dX1_addPath_75 : decode cX1_addPath 75 = .ok (.iastore, 1) := by decide +kernel
theorem dX1_addPath_76 : decode cX1_addPath 76 = .ok (.aload_n 0, 1) := by decide +kernel
theorem dX1_addPath_77 : decode cX1_addPath 77 = .ok (.dup, 1) := by decide +kernel
theorem dX1_addPath_78 : decode cX1_addPath 78 = .ok (.getfield 55, 3) := by decide +kernel
theorem dX1_addPath_81 : decode cX1_addPath 81 = .ok (.iconst 1, 1) := by decide +kernel
theorem dX1_addPath_82 : decode cX1_addPath 82 = .ok (.iadd, 1) := by decide +kernel
theorem dX1_addPath_83 : decode cX1_addPath 83 = .ok (.putfield 55, 3) := by decide +kernel
theorem dX1_addPath_86 : decode cX1_addPath 86 = .ok (.return_, 1) := by decide +kernel
set_option maxRecDepth 20000 in
theorem ggX1_limitSwell_X1_tiedTo : GoodIn wsX1_limitSwell wsX1_tiedTo := goodIn_r _ [10, 11, 12, 13, 14, 15, 16, 17, 18, 19, 20, 21, 22, 23, 24, 25, 26] (by decide +kernel) (by decide +kernel)
set_option maxRecDepth 20000 in
theorem gX1_limitSwell_X1_tiedTo : GoodIn wsX1_limitSwell (wsV RX1 58 RX1 yX1_tiedTo wsX1_tiedTo) := goodIn_app (goodIn_of _ (by decide +kernel)) ggX1_limitSwell_X1_tiedTo
theorem dX1_limitSwell_0 : decode cX1_limitSwell 0 = .ok (.iload_n 1, 1) := by decide +kernel
theorem dX1_limitSwell_1 : decode cX1_limitSwell 1 = .ok (.istore 4, 2) := by decide +kernel
theorem dX1_limitSwell_3 : decode cX1_limitSwell 3 = .ok (.iconst 1, 1) := by decide +kernel
theorem dX1_limitSwell_4 : decode cX1_limitSwell 4 = .ok (.istore 5, 2) := by decide +kernel
theorem dX1_limitSwell_6 : decode cX1_limitSwell 6 = .ok (.iload 5, 2) := by decide +kernel
theorem dX1_limitSwell_8 : decode cX1_limitSwell 8 = .ok (.bipush 8, 2) := by decide +kernel
theorem dX1_limitSwell_10 : decode cX1_limitSwell 10 = .ok (.if_icmp .ge 57, 3) := by decide +kernel
theorem dX1_limitSwell_13 : decode cX1_limitSwell 13 = .ok (.aload_n 0, 1) := by decide +kernel
theorem dX1_limitSwell_14 : decode cX1_limitSwell 14 = .ok (.iload 4, 2) := by decide +kernel
theorem dX1_limitSwell_16 : decode cX1_limitSwell 16 = .ok (.iload_n 2, 1) := by decide +kernel
theorem dX1_limitSwell_17 : decode cX1_limitSwell 17 = .ok (.invokevirtual 58, 3) := by decide +kernel
theorem dX1_limitSwell_20 : decode cX1_limitSwell 20 = .ok (.istore 6, 2) := by decide +kernel
theorem dX1_limitSwell_22 : decode cX1_limitSwell 22 = .ok (.iload 6, 2) := by decide +kernel
theorem dX1_limitSwell_24 : decode cX1_limitSwell 24 = .ok (.iconst (-1), 1) := by decide +kernel
theorem dX1_limitSwell_25 : decode cX1_limitSwell 25 = .ok (.if_icmp .ne 6, 3) := by decide +kernel
theorem dX1_limitSwell_28 : decode cX1_limitSwell 28 = .ok (.goto 39, 3) := by decide +kernel
theorem dX1_limitSwell_31 : decode cX1_limitSwell 31 = .ok (.aload_n 0, 1) := by decide +kernel
theorem dX1_limitSwell_32 : decode cX1_limitSwell 32 = .ok (.getfield 18, 3) := by decide +kernel
theorem dX1_limitSwell_35 : decode cX1_limitSwell 35 = .ok (.iload 6, 2) := by decide +kernel
theorem dX1_limitSwell_37 : decode cX1_limitSwell 37 = .ok (.aload_n 0, 1) := by decide +kernel
theorem dX1_limitSwell_38 : decode cX1_limitSwell 38 = .ok (.getfield 18, 3) := by decide +kernel
theorem dX1_limitSwell_41 : decode cX1_limitSwell 41 = .ok (.iload 6, 2) := by decide +kernel
theorem dX1_limitSwell_43 : decode cX1_limitSwell 43 = .ok (.iaload, 1) := by decide +kernel
theorem dX1_limitSwell_44 : decode cX1_limitSwell 44 = .ok (.aload_n 0, 1) := by decide +kernel
theorem dX1_limitSwell_45 : decode cX1_limitSwell 45 = .ok (.getfield 18, 3) := by decide +kernel
theorem dX1_limitSwell_48 : decode cX1_limitSwell 48 = .ok (.iload 4, 2) := by decide +kernel
theorem dX1_limitSwell_50 : decode cX1_limitSwell 50 = .ok (.iaload, 1) := by decide +kernel
theorem dX1_limitSwell_51 : decode cX1_limitSwell 51 = .ok (.iload_n 3, 1) := by decide +kernel
theorem dX1_limitSwell_52 : decode cX1_limitSwell 52 = .ok (.iadd, 1) := by decide +kernel
theorem dX1_limitSwell_53 : decode cX1_limitSwell 53 = .ok (.invokestatic 97, 3) := by decide +kernel
theorem dX1_limitSwell_56 : decode cX1_limitSwell 56 = .ok (.iastore, 1) := by decide +kernel
theorem dX1_limitSwell_57 : decode cX1_limitSwell 57 = .ok (.iload 6, 2) := by decide +kernel
theorem dX1_limitSwell_59 : decode cX1_limitSwell 59 = .ok (.istore 4, 2) := by decide +kernel
theorem dX1_limitSwell_61 : decode cX1_limitSwell 61 = .ok (.iinc 5 1, 3) := by decide +kernel
theorem dX1_limitSwell_64 : decode cX1_limitSwell 64 = .ok (.goto (-58), 3) := by decide +kernel
theorem dX1_limitSwell_67 : decode cX1_limitSwell 67 = .ok (.iload 4, 2) := by decide +kernel
theorem dX1_limitSwell_69 : decode cX1_limitSwell 69 = .ok (.ireturn, 1) := by decide +kernel
set_option maxRecDepth 20000 in
theorem ggX1_greatestWidthFrom_X1_tiedTo : GoodIn wsX1_greatestWidthFrom wsX1_tiedTo := goodIn_r _ [10, 11, 12, 13, 14, 15, 16, 17, 18, 19, 20, 21, 22, 23, 24, 25, 26] (by decide +kernel) (by decide +kernel)
set_option maxRecDepth 20000 in
theorem gX1_greatestWidthFrom_X1_tiedTo : GoodIn wsX1_greatestWidthFrom (wsV RX1 58 RX1 yX1_tiedTo wsX1_tiedTo) := goodIn_app (goodIn_of _ (by decide +kernel)) ggX1_greatestWidthFrom_X1_tiedTo
theorem dX1_greatestWidthFrom_0 : decode cX1_greatestWidthFrom 0 = .ok (.iconst 0, 1) := by decide +kernel
theorem dX1_greatestWidthFrom_1 : decode cX1_greatestWidthFrom 1 = .ok (.istore_n 2, 1) := by decide +kernel
theorem dX1_greatestWidthFrom_2 : decode cX1_greatestWidthFrom 2 = .ok (.iload_n 1, 1) := by decide +kernel
theorem dX1_greatestWidthFrom_3 : decode cX1_greatestWidthFrom 3 = .ok (.istore_n 3, 1) := by decide +kernel
theorem dX1_greatestWidthFrom_4 : decode cX1_greatestWidthFrom 4 = .ok (.iconst 0, 1) := by decide +kernel
theorem dX1_greatestWidthFrom_5 : decode cX1_greatestWidthFrom 5 = .ok (.istore 4, 2) := by decide +kernel
theorem dX1_greatestWidthFrom_7 : decode cX1_greatestWidthFrom 7 = .ok (.iload 4, 2) := by decide +kernel
theorem dX1_greatestWidthFrom_9 : decode cX1_greatestWidthFrom 9 = .ok (.bipush 8, 2) := by decide +kernel
theorem dX1_greatestWidthFrom_11 : decode cX1_greatestWidthFrom 11 = .ok (.if_icmp .ge 32, 3) := by decide +kernel
theorem dX1_greatestWidthFrom_14 : decode cX1_greatestWidthFrom 14 = .ok (.iload_n 3, 1) := by decide +kernel
theorem dX1_greatestWidthFrom_15 : decode cX1_greatestWidthFrom 15 = .ok (.iconst (-1), 1) := by decide +kernel
theorem dX1_greatestWidthFrom_16 : decode cX1_greatestWidthFrom 16 = .ok (.if_icmp .eq 27, 3) := by decide +kernel
theorem dX1_greatestWidthFrom_19 : decode cX1_greatestWidthFrom 19 = .ok (.iload_n 2, 1) := by decide +kernel
theorem dX1_greatestWidthFrom_20 : decode cX1_greatestWidthFrom 20 = .ok (.aload_n 0, 1) := by decide +kernel
theorem dX1_greatestWidthFrom_21 : decode cX1_greatestWidthFrom 21 = .ok (.getfield 18, 3) := by decide +kernel
theorem dX1_greatestWidthFrom_24 : decode cX1_greatestWidthFrom 24 = .ok (.iload_n 3, 1) := by decide +kernel
theorem dX1_greatestWidthFrom_25 : decode cX1_greatestWidthFrom 25 = .ok (.iaload, 1) := by decide +kernel
theorem dX1_greatestWidthFrom_26 : decode cX1_greatestWidthFrom 26 = .ok (.invokestatic 100, 3) := by decide +kernel
theorem dX1_greatestWidthFrom_29 : decode cX1_greatestWidthFrom 29 = .ok (.istore_n 2, 1) := by decide +kernel
theorem dX1_greatestWidthFrom_30 : decode cX1_greatestWidthFrom 30 = .ok (.aload_n 0, 1) := by decide +kernel
theorem dX1_greatestWidthFrom_31 : decode cX1_greatestWidthFrom 31 = .ok (.iload_n 3, 1) := by decide +kernel
theorem dX1_greatestWidthFrom_32 : decode cX1_greatestWidthFrom 32 = .ok (.iconst 1, 1) := by decide +kernel
theorem dX1_greatestWidthFrom_33 : decode cX1_greatestWidthFrom 33 = .ok (.invokevirtual 58, 3) := by decide +kernel
theorem dX1_greatestWidthFrom_36 : decode cX1_greatestWidthFrom 36 = .ok (.istore_n 3, 1) := by decide +kernel
theorem dX1_greatestWidthFrom_37 : decode cX1_greatestWidthFrom 37 = .ok (.iinc 4 1, 3) := by decide +kernel
theorem dX1_greatestWidthFrom_40 : decode cX1_greatestWidthFrom 40 = .ok (.goto (-33), 3) := by decide +kernel
theorem dX1_greatestWidthFrom_43 : decode cX1_greatestWidthFrom 43 = .ok (.iload_n 2, 1) := by decide +kernel
theorem dX1_greatestWidthFrom_44 : decode cX1_greatestWidthFrom 44 = .ok (.ireturn, 1) := by decide +kernel
theorem dX2_init_0 : decode cX2_init 0 = .ok (.aload_n 0, 1) := by decide +kernel
theorem dX2_init_1 : decode cX2_init 1 = .ok (.invokespecial 3, 3) := by decide +kernel
theorem dX2_init_4 : decode cX2_init 4 = .ok (.aload_n 0, 1) := by decide +kernel
theorem dX2_init_5 : decode cX2_init 5 = .ok (.bipush 64, 2) := by decide +kernel
theorem dX2_init_7 : decode cX2_init 7 = .ok (.newarray .int, 2) := by decide +kernel
theorem dX2_init_9 : decode cX2_init 9 = .ok (.putfield 9, 3) := by decide +kernel
theorem dX2_init_12 : decode cX2_init 12 = .ok (.aload_n 0, 1) := by decide +kernel
theorem dX2_init_13 : decode cX2_init 13 = .ok (.bipush 64, 2) := by decide +kernel
theorem dX2_init_15 : decode cX2_init 15 = .ok (.newarray .int, 2) := by decide +kernel
theorem dX2_init_17 : decode cX2_init 17 = .ok (.putfield 15, 3) := by decide +kernel
theorem dX2_init_20 : decode cX2_init 20 = .ok (.aload_n 0, 1) := by decide +kernel
theorem dX2_init_21 : decode cX2_init 21 = .ok (.bipush 64, 2) := by decide +kernel
theorem dX2_init_23 : decode cX2_init 23 = .ok (.newarray .boolean, 2) := by decide +kernel
theorem dX2_init_25 : decode cX2_init 25 = .ok (.putfield 18, 3) := by decide +kernel
theorem dX2_init_28 : decode cX2_init 28 = .ok (.return_, 1) := by decide +kernel
set_option maxRecDepth 20000 in
theorem ggX2_smooth_X2_goThrough : GoodIn wsX2_smooth wsX2_goThrough := goodIn_r _ [5, 6, 7, 8, 9, 10, 4, 11, 12, 13, 14, 15, 16, 17, 18, 19, 20, 21, 22, 23, 24, 25, 26, 27, 28, 29, 30, 31] (by decide +kernel) (by decide +kernel)
set_option maxRecDepth 20000 in
theorem gX2_smooth_X2_goThrough : GoodIn wsX2_smooth (wsV RX2 22 RX2 yX2_goThrough wsX2_goThrough) := goodIn_app (goodIn_of _ (by decide +kernel)) ggX2_smooth_X2_goThrough
theorem dX2_smooth_0 : decode cX2_smooth 0 = .ok (.iconst 0, 1) := by decide +kernel
theorem dX2_smooth_1 : decode cX2_smooth 1 = .ok (.istore_n 1, 1) := by decide +kernel
theorem dX2_smooth_2 : decode cX2_smooth 2 = .ok (.iconst 1, 1) := by decide +kernel
theorem dX2_smooth_3 : decode cX2_smooth 3 = .ok (.istore_n 2, 1) := by decide +kernel
theorem dX2_smooth_4 : decode cX2_smooth 4 = .ok (.iload_n 2, 1) := by decide +kernel
theorem dX2_smooth_5 : decode cX2_smooth 5 = .ok (.ifCond .eq 20, 3) := by decide +kernel
theorem dX2_smooth_8 : decode cX2_smooth 8 = .ok (.iload_n 1, 1) := by decide +kernel
theorem dX2_smooth_9 : decode cX2_smooth 9 = .ok (.bipush 20, 2) := by decide +kernel
theorem dX2_smooth_11 : decode cX2_smooth 11 = .ok (.if_icmp .ge 14, 3) := by decide +kernel
theorem dX2_smooth_14 : decode cX2_smooth 14 = .ok (.aload_n 0, 1) := by decide +kernel
theorem dX2_smooth_15 : decode cX2_smooth 15 = .ok (.invokevirtual 22, 3) := by decide +kernel
theorem dX2_smooth_18 : decode cX2_smooth 18 = .ok (.istore_n 2, 1) := by decide +kernel
theorem dX2_smooth_19 : decode cX2_smooth 19 = .ok (.iinc 1 1, 3) := by decide +kernel
theorem dX2_smooth_22 : decode cX2_smooth 22 = .ok (.goto (-18), 3) := by decide +kernel
theorem dX2_smooth_25 : decode cX2_smooth 25 = .ok (.iload_n 1, 1) := by decide +kernel
theorem dX2_smooth_26 : decode cX2_smooth 26 = .ok (.ireturn, 1) := by decide +kernel
set_option maxRecDepth 20000 in
theorem ggX2_goThrough_X2_calmestTurn : GoodIn wsX2_goThrough wsX2_calmestTurn := goodIn_r _ [7, 2, 8, 9, 10, 6, 11, 12, 13, 14, 15, 16, 17, 18, 19, 20, 21, 22, 23, 24, 25, 26, 27] (by decide +kernel) (by decide +kernel)
set_option maxRecDepth 20000 in
theorem gX2_goThrough_X2_calmestTurn : GoodIn wsX2_goThrough (wsV RX2 26 RX2 yX2_calmestTurn wsX2_calmestTurn) := goodIn_app (goodIn_of _ (by decide +kernel)) ggX2_goThrough_X2_calmestTurn
theorem dX2_goThrough_0 : decode cX2_goThrough 0 = .ok (.iconst 0, 1) := by decide +kernel
theorem dX2_goThrough_1 : decode cX2_goThrough 1 = .ok (.istore_n 1, 1) := by decide +kernel
theorem dX2_goThrough_2 : decode cX2_goThrough 2 = .ok (.iconst 0, 1) := by decide +kernel
theorem dX2_goThrough_3 : decode cX2_goThrough 3 = .ok (.istore_n 2, 1) := by decide +kernel
theorem dX2_goThrough_4 : decode cX2_goThrough 4 = .ok (.iload_n 2, 1) := by decide +kernel
theorem dX2_goThrough_5 : decode cX2_goThrough 5 = .ok (.bipush 64, 2) := by decide +kernel
theorem dX2_goThrough_7 : decode cX2_goThrough 7 = .ok (.if_icmp .ge 52, 3) := by decide +kernel
theorem dX2_goThrough_10 : decode cX2_goThrough 10 = .ok (.aload_n 0, 1) := by decide +kernel
theorem dX2_goThrough_11 : decode cX2_goThrough 11 = .ok (.getfield 18, 3) := by decide +kernel
theorem dX2_goThrough_14 : decode cX2_goThrough 14 = .ok (.iload_n 2, 1) := by decide +kernel
theorem dX2_goThrough_15 : decode cX2_goThrough 15 = .ok (.baload, 1) := by decide +kernel
theorem dX2_goThrough_16 : decode cX2_goThrough 16 = .ok (.ifCond .eq 12, 3) := by decide +kernel
theorem dX2_goThrough_19 : decode cX2_goThrough 19 = .ok (.aload_n 0, 1) := by decide +kernel
theorem dX2_goThrough_20 : decode cX2_goThrough 20 = .ok (.getfield 15, 3) := by decide +kernel
theorem dX2_goThrough_23 : decode cX2_goThrough 23 = .ok (.iload_n 2, 1) := by decide +kernel
theorem dX2_goThrough_24 : decode cX2_goThrough 24 = .ok (.iaload, 1) := by decide +kernel
