theorem dX2_goThrough_25 : decode cX2_goThrough 25 = .ok (.goto 8, 3) := by decide +kernel
theorem dX2_goThrough_28 : decode cX2_goThrough 28 = .ok (.aload_n 0, 1) := by decide +kernel
theorem dX2_goThrough_29 : decode cX2_goThrough 29 = .ok (.iload_n 2, 1) := by decide +kernel
theorem dX2_goThrough_30 : decode cX2_goThrough 30 = .ok (.invokevirtual 26, 3) := by decide +kernel
theorem dX2_goThrough_33 : decode cX2_goThrough 33 = .ok (.istore_n 3, 1) := by decide +kernel
theorem dX2_goThrough_34 : decode cX2_goThrough 34 = .ok (.iload_n 3, 1) := by decide +kernel
theorem dX2_goThrough_35 : decode cX2_goThrough 35 = .ok (.aload_n 0, 1) := by decide +kernel
theorem dX2_goThrough_36 : decode cX2_goThrough 36 = .ok (.getfield 15, 3) := by decide +kernel
theorem dX2_goThrough_39 : decode cX2_goThrough 39 = .ok (.iload_n 2, 1) := by decide +kernel
theorem dX2_goThrough_40 : decode cX2_goThrough 40 = .ok (.iaload, 1) := by decide +kernel
theorem dX2_goThrough_41 : decode cX2_goThrough 41 = .ok (.if_icmp .eq 12, 3) := by decide +kernel
theorem dX2_goThrough_44 : decode cX2_goThrough 44 = .ok (.aload_n 0, 1) := by decide +kernel
theorem dX2_goThrough_45 : decode cX2_goThrough 45 = .ok (.getfield 15, 3) := by decide +kernel
theorem dX2_goThrough_48 : decode cX2_goThrough 48 = .ok (.iload_n 2, 1) := by decide +kernel
theorem dX2_goThrough_49 : decode cX2_goThrough 49 = .ok (.iload_n 3, 1) := by decide +kernel
theorem dX2_goThrough_50 : decode cX2_goThrough 50 = .ok (.iastore, 1) := by decide +kernel
theorem dX2_goThrough_51 : decode cX2_goThrough 51 = .ok (.iconst 1, 1) := by decide +kernel
theorem dX2_goThrough_52 : decode cX2_goThrough 52 = .ok (.istore_n 1, 1) := by decide +kernel
theorem dX2_goThrough_53 : decode cX2_goThrough 53 = .ok (.iinc 2 1, 3) := by decide +kernel
theorem dX2_goThrough_56 : decode cX2_goThrough 56 = .ok (.goto (-52), 3) := by decide +kernel
theorem dX2_goThrough_59 : decode cX2_goThrough 59 = .ok (.iload_n 1, 1) := by decide +kernel
theorem dX2_goThrough_60 : decode cX2_goThrough 60 = .ok (.ireturn, 1) := by decide +kernel
set_option maxRecDepth 20000 in
theorem ggX2_calmestTurn_X2_strain : GoodIn wsX2_calmestTurn wsX2_strain := goodIn_r _ [6, 7, 8, 9, 5, 10, 1, 11, 12, 13, 14, 15, 16, 17, 18, 19, 20, 21, 22] (by decide +kernel) (by decide +kernel)
set_option maxRecDepth 20000 in
theorem gX2_calmestTurn_X2_strain : GoodIn wsX2_calmestTurn (wsV RX2 30 RX2 yX2_strain wsX2_strain) := goodIn_app (goodIn_of _ (by decide +kernel)) ggX2_calmestTurn_X2_strain
theorem dX2_calmestTurn_0 : decode cX2_calmestTurn 0 = .ok (.aload_n 0, 1) := by decide +kernel
theorem dX2_calmestTurn_1 : decode cX2_calmestTurn 1 = .ok (.getfield 15, 3) := by decide +kernel
theorem dX2_calmestTurn_4 : decode cX2_calmestTurn 4 = .ok (.iload_n 1, 1) := by decide +kernel
theorem dX2_calmestTurn_5 : decode cX2_calmestTurn 5 = .ok (.iaload, 1) := by decide +kernel
theorem dX2_calmestTurn_6 : decode cX2_calmestTurn 6 = .ok (.istore_n 2, 1) := by decide +kernel
theorem dX2_calmestTurn_7 : decode cX2_calmestTurn 7 = .ok (.aload_n 0, 1) := by decide +kernel
theorem dX2_calmestTurn_8 : decode cX2_calmestTurn 8 = .ok (.iload_n 1, 1) := by decide +kernel
theorem dX2_calmestTurn_9 : decode cX2_calmestTurn 9 = .ok (.iload_n 2, 1) := by decide +kernel
theorem dX2_calmestTurn_10 : decode cX2_calmestTurn 10 = .ok (.invokevirtual 30, 3) := by decide +kernel
theorem dX2_calmestTurn_13 : decode cX2_calmestTurn 13 = .ok (.istore_n 3, 1) := by decide +kernel
theorem dX2_calmestTurn_14 : decode cX2_calmestTurn 14 = .ok (.iconst 0, 1) := by decide +kernel
theorem dX2_calmestTurn_15 : decode cX2_calmestTurn 15 = .ok (.istore 4, 2) := by decide +kernel
theorem dX2_calmestTurn_17 : decode cX2_calmestTurn 17 = .ok (.iload 4, 2) := by decide +kernel
theorem dX2_calmestTurn_19 : decode cX2_calmestTurn 19 = .ok (.bipush 8, 2) := by decide +kernel
theorem dX2_calmestTurn_21 : decode cX2_calmestTurn 21 = .ok (.if_icmp .ge 30, 3) := by decide +kernel
theorem dX2_calmestTurn_24 : decode cX2_calmestTurn 24 = .ok (.aload_n 0, 1) := by decide +kernel
theorem dX2_calmestTurn_25 : decode cX2_calmestTurn 25 = .ok (.iload_n 1, 1) := by decide +kernel
theorem dX2_calmestTurn_26 : decode cX2_calmestTurn 26 = .ok (.iload 4, 2) := by decide +kernel
theorem dX2_calmestTurn_28 : decode cX2_calmestTurn 28 = .ok (.invokevirtual 30, 3) := by decide +kernel
theorem dX2_calmestTurn_31 : decode cX2_calmestTurn 31 = .ok (.istore 5, 2) := by decide +kernel
theorem dX2_calmestTurn_33 : decode cX2_calmestTurn 33 = .ok (.iload 5, 2) := by decide +kernel
theorem dX2_calmestTurn_35 : decode cX2_calmestTurn 35 = .ok (.iload_n 3, 1) := by decide +kernel
theorem dX2_calmestTurn_36 : decode cX2_calmestTurn 36 = .ok (.if_icmp .ge 9, 3) := by decide +kernel
theorem dX2_calmestTurn_39 : decode cX2_calmestTurn 39 = .ok (.iload 5, 2) := by decide +kernel
theorem dX2_calmestTurn_41 : decode cX2_calmestTurn 41 = .ok (.istore_n 3, 1) := by decide +kernel
theorem dX2_calmestTurn_42 : decode cX2_calmestTurn 42 = .ok (.iload 4, 2) := by decide +kernel
theorem dX2_calmestTurn_44 : decode cX2_calmestTurn 44 = .ok (.istore_n 2, 1) := by decide +kernel
theorem dX2_calmestTurn_45 : decode cX2_calmestTurn 45 = .ok (.iinc 4 1, 3) := by decide +kernel
theorem dX2_calmestTurn_48 : decode cX2_calmestTurn 48 = .ok (.goto (-31), 3) := by decide +kernel
theorem dX2_calmestTurn_51 : decode cX2_calmestTurn 51 = .ok (.iload_n 2, 1) := by decide +kernel
theorem dX2_calmestTurn_52 : decode cX2_calmestTurn 52 = .ok (.ireturn, 1) := by decide +kernel
set_option maxRecDepth 20000 in
theorem ggX2_strain_X2_strainAgainst : GoodIn wsX2_strain wsX2_strainAgainst := goodIn_r _ [5, 6, 7, 8, 9, 10, 11, 12, 13, 14, 15, 16, 17, 18] (by decide +kernel) (by decide +kernel)
set_option maxRecDepth 20000 in
theorem gX2_strain_X2_strainAgainst : GoodIn wsX2_strain (wsV RX2 34 RX2 yX2_strainAgainst wsX2_strainAgainst) := goodIn_app (goodIn_of _ (by decide +kernel)) ggX2_strain_X2_strainAgainst
theorem dX2_strain_0 : decode cX2_strain 0 = .ok (.iload_n 1, 1) := by decide +kernel
theorem dX2_strain_1 : decode cX2_strain 1 = .ok (.bipush 8, 2) := by decide +kernel
theorem dX2_strain_3 : decode cX2_strain 3 = .ok (.irem, 1) := by decide +kernel
theorem dX2_strain_4 : decode cX2_strain 4 = .ok (.istore_n 3, 1) := by decide +kernel
theorem dX2_strain_5 : decode cX2_strain 5 = .ok (.iload_n 1, 1) := by decide +kernel
theorem dX2_strain_6 : decode cX2_strain 6 = .ok (.bipush 8, 2) := by decide +kernel
theorem dX2_strain_8 : decode cX2_strain 8 = .ok (.idiv, 1) := by decide +kernel
theorem dX2_strain_9 : decode cX2_strain 9 = .ok (.istore 4, 2) := by decide +kernel
theorem dX2_strain_11 : decode cX2_strain 11 = .ok (.aload_n 0, 1) := by decide +kernel
theorem dX2_strain_12 : decode cX2_strain 12 = .ok (.iload_n 3, 1) := by decide +kernel
theorem dX2_strain_13 : decode cX2_strain 13 = .ok (.iconst 1, 1) := by decide +kernel
theorem dX2_strain_14 : decode cX2_strain 14 = .ok (.isub, 1) := by decide +kernel
theorem dX2_strain_15 : decode cX2_strain 15 = .ok (.iload 4, 2) := by decide +kernel
theorem dX2_strain_17 : decode cX2_strain 17 = .ok (.iload_n 2, 1) := by decide +kernel
theorem dX2_strain_18 : decode cX2_strain 18 = .ok (.invokevirtual 34, 3) := by decide +kernel
theorem dX2_strain_21 : decode cX2_strain 21 = .ok (.aload_n 0, 1) := by decide +kernel
theorem dX2_strain_22 : decode cX2_strain 22 = .ok (.iload_n 3, 1) := by decide +kernel
theorem dX2_strain_23 : decode cX2_strain 23 = .ok (.iconst 1, 1) := by decide +kernel
theorem dX2_strain_24 : decode cX2_strain 24 = .ok (.iadd, 1) := by decide +kernel
theorem dX2_strain_25 : decode cX2_strain 25 = .ok (.iload 4, 2) := by decide +kernel
theorem dX2_strain_27 : decode cX2_strain 27 = .ok (.iload_n 2, 1) := by decide +kernel
theorem dX2_strain_28 : decode cX2_strain 28 = .ok (.invokevirtual 34, 3) := by decide +kernel
theorem dX2_strain_31 : decode cX2_strain 31 = .ok (.iadd, 1) := by decide +kernel
theorem dX2_strain_32 : decode cX2_strain 32 = .ok (.aload_n 0, 1) := by decide +kernel
theorem dX2_strain_33 : decode cX2_strain 33 = .ok (.iload_n 3, 1) := by decide +kernel
theorem dX2_strain_34 : decode cX2_strain 34 = .ok (.iload 4, 2) := by decide +kernel
theorem dX2_strain_36 : decode cX2_strain 36 = .ok (.iconst 1, 1) := by decide +kernel
theorem dX2_strain_37 : decode cX2_strain 37 = .ok (.isub, 1) := by decide +kernel
theorem dX2_strain_38 : decode cX2_strain 38 = .ok (.iload_n 2, 1) := by decide +kernel
theorem dX2_strain_39 : decode cX2_strain 39 = .ok (.invokevirtual 34, 3) := by decide +kernel
theorem dX2_strain_42 : decode cX2_strain 42 = .ok (.iadd, 1) := by decide +kernel
theorem dX2_strain_43 : decode cX2_strain 43 = .ok (.aload_n 0, 1) := by decide +kernel
theorem dX2_strain_44 : decode cX2_strain 44 = .ok (.iload_n 3, 1) := by decide +kernel
theorem dX2_strain_45 : decode cX2_strain 45 = .ok (.iload 4, 2) := by decide +kernel
theorem dX2_strain_47 : decode cX2_strain 47 = .ok (.iconst 1, 1) := by decide +kernel
theorem dX2_strain_48 : decode cX2_strain 48 = .ok (.iadd, 1) := by decide +kernel
theorem dX2_strain_49 : decode cX2_strain 49 = .ok (.iload_n 2, 1) := by decide +kernel
theorem dX2_strain_50 : decode cX2_strain 50 = .ok (.invokevirtual 34, 3) := by decide +kernel
theorem dX2_strain_53 : decode cX2_strain 53 = .ok (.iadd, 1) := by decide +kernel
theorem dX2_strain_54 : decode cX2_strain 54 = .ok (.ireturn, 1) := by decide +kernel
set_option maxRecDepth 20000 in
theorem ggX2_strainAgainst_X4_isCell : GoodIn wsX2_strainAgainst wsX4_isCell := goodIn_r _ [4] (by decide +kernel) (by decide +kernel)
set_option maxRecDepth 20000 in
theorem gX2_strainAgainst_X4_isCell_n38 : GoodIn wsX2_strainAgainst (wsX4_isCell) := ggX2_strainAgainst_X4_isCell
set_option maxRecDepth 20000 in
theorem ggX2_strainAgainst_X4_cellOf : GoodIn wsX2_strainAgainst wsX4_cellOf := goodIn_r _ [6] (by decide +kernel) (by decide +kernel)
set_option maxRecDepth 20000 in
theorem gX2_strainAgainst_X4_cellOf_n45 : GoodIn wsX2_strainAgainst (wsX4_cellOf) := ggX2_strainAgainst_X4_cellOf
set_option maxRecDepth 20000 in
theorem ggX2_strainAgainst_J9_floorMod_7cf53 : GoodIn wsX2_strainAgainst wsJ9_floorMod_7cf53 := goodIn_r _ [10] (by decide +kernel) (by decide +kernel)
set_option maxRecDepth 20000 in
theorem gX2_strainAgainst_J9_floorMod_7cf53 : GoodIn wsX2_strainAgainst (va_wsS RX2 48 yJ9_floorMod_7cf53 wsJ9_floorMod_7cf53) := goodIn_app (goodIn_of _ (by decide +kernel)) ggX2_strainAgainst_J9_floorMod_7cf53
theorem dX2_strainAgainst_0 : decode cX2_strainAgainst 0 = .ok (.iload_n 1, 1) := by decide +kernel
theorem dX2_strainAgainst_1 : decode cX2_strainAgainst 1 = .ok (.iload_n 2, 1) := by decide +kernel
theorem dX2_strainAgainst_2 : decode cX2_strainAgainst 2 = .ok (.invokestatic 38, 3) := by decide +kernel
theorem dX2_strainAgainst_5 : decode cX2_strainAgainst 5 = .ok (.ifCond .ne 5, 3) := by decide +kernel
theorem dX2_strainAgainst_8 : decode cX2_strainAgainst 8 = .ok (.iconst 0, 1) := by decide +kernel
theorem dX2_strainAgainst_9 : decode cX2_strainAgainst 9 = .ok (.ireturn, 1) := by decide +kernel
theorem dX2_strainAgainst_10 : decode cX2_strainAgainst 10 = .ok (.getstatic 42, 3) := by decide +kernel
theorem dX2_strainAgainst_13 : decode cX2_strainAgainst 13 = .ok (.aload_n 0, 1) := by decide +kernel
theorem dX2_strainAgainst_14 : decode cX2_strainAgainst 14 = .ok (.getfield 15, 3) := by decide +kernel
theorem dX2_strainAgainst_17 : decode cX2_strainAgainst 17 = .ok (.iload_n 1, 1) := by decide +kernel
theorem dX2_strainAgainst_18 : decode cX2_strainAgainst 18 = .ok (.iload_n 2, 1) := by decide +kernel
theorem dX2_strainAgainst_19 : decode cX2_strainAgainst 19 = .ok (.invokestatic 45, 3) := by decide +kernel
theorem dX2_strainAgainst_22 : decode cX2_strainAgainst 22 = .ok (.iaload, 1) := by decide +kernel
theorem dX2_strainAgainst_23 : decode cX2_strainAgainst 23 = .ok (.iload_n 3, 1) := by decide +kernel
theorem dX2_strainAgainst_24 : decode cX2_strainAgainst 24 = .ok (.isub, 1) := by decide +kernel
theorem dX2_strainAgainst_25 : decode cX2_strainAgainst 25 = .ok (.bipush 8, 2) := by decide +kernel
theorem dX2_strainAgainst_27 : decode cX2_strainAgainst 27 = .ok (.invokestatic 48, 3) := by decide +kernel
theorem dX2_strainAgainst_30 : decode cX2_strainAgainst 30 = .ok (.iaload, 1) := by decide +kernel
theorem dX2_strainAgainst_31 : decode cX2_strainAgainst 31 = .ok (.ireturn, 1) := by decide +kernel
set_option maxRecDepth 20000 in
theorem ggX2_knotOf_X4_cellOf : GoodIn wsX2_knotOf wsX4_cellOf := goodIn_r _ [4] (by decide +kernel) (by decide +kernel)
set_option maxRecDepth 20000 in
theorem gX2_knotOf_X4_cellOf_n45 : GoodIn wsX2_knotOf (wsX4_cellOf) := ggX2_knotOf_X4_cellOf
set_option maxRecDepth 20000 in
theorem ggX2_knotOf_X2_growth : GoodIn wsX2_knotOf wsX2_growth := goodIn_r _ [8, 9, 10, 11, 12] (by decide +kernel) (by decide +kernel)
set_option maxRecDepth 20000 in
theorem gX2_knotOf_X2_growth : GoodIn wsX2_knotOf (va_wsS RX2 53 yX2_growth wsX2_growth) := goodIn_app (goodIn_of _ (by decide +kernel)) ggX2_knotOf_X2_growth
theorem dX2_knotOf_0 : decode cX2_knotOf 0 = .ok (.aload_n 0, 1) := by decide +kernel
theorem dX2_knotOf_1 : decode cX2_knotOf 1 = .ok (.getfield 15, 3) := by decide +kernel
theorem dX2_knotOf_4 : decode cX2_knotOf 4 = .ok (.iload_n 1, 1) := by decide +kernel
theorem dX2_knotOf_5 : decode cX2_knotOf 5 = .ok (.iload_n 2, 1) := by decide +kernel
theorem dX2_knotOf_6 : decode cX2_knotOf 6 = .ok (.invokestatic 45, 3) := by decide +kernel
theorem dX2_knotOf_9 : decode cX2_knotOf 9 = .ok (.iaload, 1) := by decide +kernel
theorem dX2_knotOf_10 : decode cX2_knotOf 10 = .ok (.istore_n 3, 1) := by decide +kernel
theorem dX2_knotOf_11 : decode cX2_knotOf 11 = .ok (.aload_n 0, 1) := by decide +kernel
theorem dX2_knotOf_12 : decode cX2_knotOf 12 = .ok (.getfield 15, 3) := by decide +kernel
theorem dX2_knotOf_15 : decode cX2_knotOf 15 = .ok (.iload_n 1, 1) := by decide +kernel
theorem dX2_knotOf_16 : decode cX2_knotOf 16 = .ok (.iconst 1, 1) := by decide +kernel
theorem dX2_knotOf_17 : decode cX2_knotOf 17 = .ok (.iadd, 1) := by decide +kernel
theorem dX2_knotOf_18 : decode cX2_knotOf 18 = .ok (.iload_n 2, 1) := by decide +kernel
theorem dX2_knotOf_19 : decode cX2_knotOf 19 = .ok (.invokestatic 45, 3) := by decide +kernel
theorem dX2_knotOf_22 : decode cX2_knotOf 22 = .ok (.iaload, 1) := by decide +kernel
theorem dX2_knotOf_23 : decode cX2_knotOf 23 = .ok (.istore 4, 2) := by decide +kernel
theorem dX2_knotOf_25 : decode cX2_knotOf 25 = .ok (.aload_n 0, 1) := by decide +kernel
theorem dX2_knotOf_26 : decode cX2_knotOf 26 = .ok (.getfield 15, 3) := by decide +kernel
theorem dX2_knotOf_29 : decode cX2_knotOf 29 = .ok (.iload_n 1, 1) := by decide +kernel
theorem dX2_knotOf_30 : decode cX2_knotOf 30 = .ok (.iconst 1, 1) := by decide +kernel
theorem dX2_knotOf_31 : decode cX2_knotOf 31 = .ok (.iadd, 1) := by decide +kernel
theorem dX2_knotOf_32 : decode cX2_knotOf 32 = .ok (.iload_n 2, 1) := by decide +kernel
theorem dX2_knotOf_33 : decode cX2_knotOf 33 = .ok (.iconst 1, 1) := by decide +kernel
theorem dX2_knotOf_34 : decode cX2_knotOf 34 = .ok (.iadd, 1) := by decide +kernel
theorem dX2_knotOf_35 : decode cX2_knotOf 35 = .ok (.invokestatic 45, 3) := by decide +kernel
theorem dX2_knotOf_38 : decode cX2_knotOf 38 = .ok (.iaload, 1) := by decide +kernel
theorem dX2_knotOf_39 : decode cX2_knotOf 39 = .ok (.istore 5, 2) := by decide +kernel
theorem dX2_knotOf_41 : decode cX2_knotOf 41 = .ok (.aload_n 0, 1) := by decide +kernel
theorem dX2_knotOf_42 : decode cX2_knotOf 42 = .ok (.getfield 15, 3) := by decide +kernel
theorem dX2_knotOf_45 : decode cX2_knotOf 45 = .ok (.iload_n 1, 1) := by decide +kernel
theorem dX2_knotOf_46 : decode cX2_knotOf 46 = .ok (.iload_n 2, 1) := by decide +kernel
theorem dX2_knotOf_47 : decode cX2_knotOf 47 = .ok (.iconst 1, 1) := by decide +kernel
theorem dX2_knotOf_48 : decode cX2_knotOf 48 = .ok (.iadd, 1) := by decide +kernel
theorem dX2_knotOf_49 : decode cX2_knotOf 49 = .ok (.invokestatic 45, 3) := by decide +kernel
theorem dX2_knotOf_52 : decode cX2_knotOf 52 = .ok (.iaload, 1) := by decide +kernel
theorem dX2_knotOf_53 : decode cX2_knotOf 53 = .ok (.istore 6, 2) := by decide +kernel
theorem dX2_knotOf_55 : decode cX2_knotOf 55 = .ok (.iload_n 3, 1) := by decide +kernel
theorem dX2_knotOf_56 : decode cX2_knotOf 56 = .ok (.iload 4, 2) := by decide +kernel
theorem dX2_knotOf_58 : decode cX2_knotOf 58 = .ok (.invokestatic 53, 3) := by decide +kernel
theorem dX2_knotOf_61 : decode cX2_knotOf 61 = .ok (.istore 7, 2) := by decide +kernel
theorem dX2_knotOf_63 : decode cX2_knotOf 63 = .ok (.iload 4, 2) := by decide +kernel
theorem dX2_knotOf_65 : decode cX2_knotOf 65 = .ok (.iload 5, 2) := by decide +kernel
theorem dX2_knotOf_67 : decode cX2_knotOf 67 = .ok (.invokestatic 53, 3) := by decide +kernel
theorem dX2_knotOf_70 : decode cX2_knotOf 70 = .ok (.istore 8, 2) := by decide +kernel
theorem dX2_knotOf_72 : decode cX2_knotOf 72 = .ok (.iload 5, 2) := by decide +kernel
theorem dX2_knotOf_74 : decode cX2_knotOf 74 = .ok (.iload 6, 2) := by decide +kernel
theorem dX2_knotOf_76 : decode cX2_knotOf 76 = .ok (.invokestatic 53, 3) := by decide +kernel
theorem dX2_knotOf_79 : decode cX2_knotOf 79 = .ok (.istore 9, 2) := by decide +kernel
theorem dX2_knotOf_81 : decode cX2_knotOf 81 = .ok (.iload 6, 2) := by decide +kernel
theorem dX2_knotOf_83 : decode cX2_knotOf 83 = .ok (.iload_n 3, 1) := by decide +kernel
theorem dX2_knotOf_84 : decode cX2_knotOf 84 = .ok (.invokestatic 53, 3) := by decide +kernel
theorem dX2_knotOf_87 : decode cX2_knotOf 87 = .ok (.istore 10, 2) := by decide +kernel
theorem dX2_knotOf_89 : decode cX2_knotOf 89 = .ok (.iconst 4, 1) := by decide +kernel
theorem dX2_knotOf_90 : decode cX2_knotOf 90 = .ok (.istore 11, 2) := by decide +kernel
theorem dX2_knotOf_92 : decode cX2_knotOf 92 = .ok (.iload 7, 2) := by decide +kernel
theorem dX2_knotOf_94 : decode cX2_knotOf 94 = .ok (.iload 11, 2) := by decide +kernel
theorem dX2_knotOf_96 : decode cX2_knotOf 96 = .ok (.if_icmp .eq 24, 3) := by decide +kernel
theorem dX2_knotOf_99 : decode cX2_knotOf 99 = .ok (.iload 8, 2) := by decide +kernel
theorem dX2_knotOf_101 : decode cX2_knotOf 101 = .ok (.iload 11, 2) := by decide +kernel
theorem dX2_knotOf_103 : decode cX2_knotOf 103 = .ok (.if_icmp .eq 17, 3) := by decide +kernel
theorem dX2_knotOf_106 : decode cX2_knotOf 106 = .ok (.iload 9, 2) := by decide +kernel
theorem dX2_knotOf_108 : decode cX2_knotOf 108 = .ok (.iload 11, 2) := by decide +kernel
theorem dX2_knotOf_110 : decode cX2_knotOf 110 = .ok (.if_icmp .eq 10, 3) := by decide +kernel
theorem dX2_knotOf_113 : decode cX2_knotOf 113 = .ok (.iload 10, 2) := by decide +kernel
theorem dX2_knotOf_115 : decode cX2_knotOf 115 = .ok (.iload 11, 2) := by decide +kernel
theorem dX2_knotOf_117 : decode cX2_knotOf 117 = .ok (.if_icmp .ne 5, 3) := by decide +kernel
theorem dX2_knotOf_120 : decode cX2_knotOf 120 = .ok (.iconst 2, 1) := by decide +kernel
theorem dX2_knotOf_121 : decode cX2_knotOf 121 = .ok (.ireturn, 1) := by decide +kernel
theorem dX2_knotOf_122 : decode cX2_knotOf 122 = .ok (.iload 7, 2) := by decide +kernel
theorem dX2_knotOf_124 : decode cX2_knotOf 124 = .ok (.iload 8, 2) := by decide +kernel
theorem dX2_knotOf_126 : decode cX2_knotOf 126 = .ok (.iadd, 1) := by decide +kernel
theorem dX2_knotOf_127 : decode cX2_knotOf 127 = .ok (.iload 9, 2) := by decide +kernel
theorem dX2_knotOf_129 : decode cX2_knotOf 129 = .ok (.iadd, 1) := by decide +kernel
theorem dX2_knotOf_130 : decode cX2_knotOf 130 = .ok (.iload 10, 2) := by decide +kernel
theorem dX2_knotOf_132 : decode cX2_knotOf 132 = .ok (.iadd, 1) := by decide +kernel
theorem dX2_knotOf_133 : decode cX2_knotOf 133 = .ok (.bipush 8, 2) := by decide +kernel
theorem dX2_knotOf_135 : decode cX2_knotOf 135 = .ok (.idiv, 1) := by decide +kernel
theorem dX2_knotOf_136 : decode cX2_knotOf 136 = .ok (.ireturn, 1) := by decide +kernel
set_option maxRecDepth 20000 in
theorem ggX2_growth_J9_floorMod_7cf53 : GoodIn wsX2_growth wsJ9_floorMod_7cf53 := goodIn_r _ [4] (by decide +kernel) (by decide +kernel)
set_option maxRecDepth 20000 in
theorem gX2_growth_J9_floorMod_7cf53 : GoodIn wsX2_growth (va_wsS RX2 48 yJ9_floorMod_7cf53 wsJ9_floorMod_7cf53) := goodIn_app (goodIn_of _ (by decide +kernel)) ggX2_growth_J9_floorMod_7cf53
theorem dX2_growth_0 : decode cX2_growth 0 = .ok (.iload_n 1, 1) := by decide +kernel
theorem dX2_growth_1 : decode cX2_growth 1 = .ok (.iload_n 0, 1) := by decide +kernel
theorem dX2_growth_2 : decode cX2_growth 2 = .ok (.isub, 1) := by decide +kernel
theorem dX2_growth_3 : decode cX2_growth 3 = .ok (.bipush 8, 2) := by decide +kernel
theorem dX2_growth_5 : decode cX2_growth 5 = .ok (.invokestatic 48, 3) := by decide +kernel
theorem dX2_growth_8 : decode cX2_growth 8 = .ok (.istore_n 2, 1) := by decide +kernel
theorem dX2_growth_9 : decode cX2_growth 9 = .ok (.iload_n 2, 1) := by decide +kernel
theorem dX2_growth_10 : decode cX2_growth 10 = .ok (.iconst 4, 1) := by decide +kernel
theorem dX2_growth_11 : decode cX2_growth 11 = .ok (.if_icmp .le 10, 3) := by decide +kernel
theorem dX2_growth_14 : decode cX2_growth 14 = .ok (.iload_n 2, 1) := by decide +kernel
theorem dX2_growth_15 : decode cX2_growth 15 = .ok (.bipush 8, 2) := by decide +kernel
theorem dX2_growth_17 : decode cX2_growth 17 = .ok (.isub, 1) := by decide +kernel
theorem dX2_growth_18 : decode cX2_growth 18 = .ok (.goto 4, 3) := by decide +kernel
theorem dX2_growth_21 : decode cX2_growth 21 = .ok (.iload_n 2, 1) := by decide +kernel
theorem dX2_growth_22 : decode cX2_growth 22 = .ok (.ireturn, 1) := by decide +kernel
theorem dX2_countToned_0 : decode cX2_countToned 0 = .ok (.iconst 0, 1) := by decide +kernel
theorem dX2_countToned_1 : decode cX2_countToned 1 = .ok (.istore_n 1, 1) := by decide +kernel
theorem dX2_countToned_2 : decode cX2_countToned 2 = .ok (.iconst 0, 1) := by decide +kernel
theorem dX2_countToned_3 : decode cX2_countToned 3 = .ok (.istore_n 2, 1) := by decide +kernel
theorem dX2_countToned_4 : decode cX2_countToned 4 = .ok (.iload_n 2, 1) := by decide +kernel
theorem dX2_countToned_5 : decode cX2_countToned 5 = .ok (.bipush 64, 2) := by decide +kernel
theorem dX2_countToned_7 : decode cX2_countToned 7 = .ok (.if_icmp .ge 21, 3) := by decide +kernel
theorem dX2_countToned_10 : decode cX2_countToned 10 = .ok (.aload_n 0, 1) := by decide +kernel
theorem dX2_countToned_11 : decode cX2_countToned 11 = .ok (.getfield 9, 3) := by decide +kernel
theorem dX2_countToned_14 : decode cX2_countToned 14 = .ok (.iload_n 2, 1) := by decide +kernel
theorem dX2_countToned_15 : decode cX2_countToned 15 = .ok (.iaload, 1) := by decide +kernel
theorem dX2_countToned_16 : decode cX2_countToned 16 = .ok (.ifCond .le 6, 3) := by decide +kernel
theorem dX2_countToned_19 : decode cX2_countToned 19 = .ok (.iinc 1 1, 3) := by decide +kernel
theorem dX2_countToned_22 : decode cX2_countToned 22 = .ok (.iinc 2 1, 3) := by decide +kernel
theorem dX2_countToned_25 : decode cX2_countToned 25 = .ok (.goto (-21), 3) := by decide +kernel
theorem dX2_countToned_28 : decode cX2_countToned 28 = .ok (.iload_n 1, 1) := by decide +kernel
theorem dX2_countToned_29 : decode cX2_countToned 29 = .ok (.ireturn, 1) := by decide +kernel
theorem dX2_countTold_0 : decode cX2_countTold 0 = .ok (.iconst 0, 1) := by decide +kernel
theorem dX2_countTold_1 : decode cX2_countTold 1 = .ok (.istore_n 1, 1) := by decide +kernel
theorem dX2_countTold_2 : decode cX2_countTold 2 = .ok (.iconst 0, 1) := by decide +kernel
theorem dX2_countTold_3 : decode cX2_countTold 3 = .ok (.istore_n 2, 1) := by decide +kernel
theorem dX2_countTold_4 : decode cX2_countTold 4 = .ok (.iload_n 2, 1) := by decide +kernel
theorem dX2_countTold_5 : decode cX2_countTold 5 = .ok (.bipush 64, 2) := by decide +kernel
theorem dX2_countTold_7 : decode cX2_countTold 7 = .ok (.if_icmp .ge 21, 3) := by decide +kernel
theorem dX2_countTold_10 : decode cX2_countTold 10 = .ok (.aload_n 0, 1) := by decide +kernel
theorem dX2_countTold_11 : decode cX2_countTold 11 = .ok (.getfield 18, 3) := by decide +kernel
theorem dX2_countTold_14 : decode cX2_countTold 14 = .ok (.iload_n 2, 1) := by decide +kernel
theorem dX2_countTold_15 : decode cX2_countTold 15 = .ok (.baload, 1) := by decide +kernel
theorem dX2_countTold_16 : decode cX2_countTold 16 = .ok (.ifCond .eq 6, 3) := by decide +kernel
theorem dX2_countTold_19 : decode cX2_countTold 19 = .ok (.iinc 1 1, 3) := by decide +kernel
theorem dX2_countTold_22 : decode cX2_countTold 22 = .ok (.iinc 2 1, 3) := by decide +kernel
theorem dX2_countTold_25 : decode cX2_countTold 25 = .ok (.goto (-21), 3) := by decide +kernel
theorem dX2_countTold_28 : decode cX2_countTold 28 = .ok (.iload_n 1, 1) := by decide +kernel
theorem dX2_countTold_29 : decode cX2_countTold 29 = .ok (.ireturn, 1) := by decide +kernel
set_option maxRecDepth 20000 in
theorem ggX2_countKnots_X2_knotOf : GoodIn wsX2_countKnots wsX2_knotOf := goodIn_r _ [5, 6, 7, 8, 9, 10, 11, 4, 12, 13, 14, 15, 16, 17, 18, 19] (by decide +kernel) (by decide +kernel)
set_option maxRecDepth 20000 in
theorem gX2_countKnots_X2_knotOf : GoodIn wsX2_countKnots (wsV RX2 56 RX2 yX2_knotOf wsX2_knotOf) := goodIn_app (goodIn_of _ (by decide +kernel)) ggX2_countKnots_X2_knotOf
theorem dX2_countKnots_0 : decode cX2_countKnots 0 = .ok (.iconst 0, 1) := by decide +kernel
theorem dX2_countKnots_1 : decode cX2_countKnots 1 = .ok (.istore_n 1, 1) := by decide +kernel
theorem dX2_countKnots_2 : decode cX2_countKnots 2 = .ok (.iconst 0, 1) := by decide +kernel
theorem dX2_countKnots_3 : decode cX2_countKnots 3 = .ok (.istore_n 2, 1) := by decide +kernel
theorem dX2_countKnots_4 : decode cX2_countKnots 4 = .ok (.iload_n 2, 1) := by decide +kernel
theorem dX2_countKnots_5 : decode cX2_countKnots 5 = .ok (.bipush 7, 2) := by decide +kernel
theorem dX2_countKnots_7 : decode cX2_countKnots 7 = .ok (.if_icmp .ge 45, 3) := by decide +kernel
theorem dX2_countKnots_10 : decode cX2_countKnots 10 = .ok (.iconst 0, 1) := by decide +kernel
theorem dX2_countKnots_11 : decode cX2_countKnots 11 = .ok (.istore_n 3, 1) := by decide +kernel
theorem dX2_countKnots_12 : decode cX2_countKnots 12 = .ok (.iload_n 3, 1) := by decide +kernel
theorem dX2_countKnots_13 : decode cX2_countKnots 13 = .ok (.bipush 7, 2) := by decide +kernel
theorem dX2_countKnots_15 : decode cX2_countKnots 15 = .ok (.if_icmp .ge 31, 3) := by decide +kernel
theorem dX2_countKnots_18 : decode cX2_countKnots 18 = .ok (.aload_n 0, 1) := by decide +kernel
theorem dX2_countKnots_19 : decode cX2_countKnots 19 = .ok (.iload_n 3, 1) := by decide +kernel
theorem dX2_countKnots_20 : decode cX2_countKnots 20 = .ok (.iload_n 2, 1) := by decide +kernel
theorem dX2_countKnots_21 : decode cX2_countKnots 21 = .ok (.invokevirtual 56, 3) := by decide +kernel
theorem dX2_countKnots_24 : decode cX2_countKnots 24 = .ok (.istore 4, 2) := by decide +kernel
theorem dX2_countKnots_26 : decode cX2_countKnots 26 = .ok (.iload 4, 2) := by decide +kernel
theorem dX2_countKnots_28 : decode cX2_countKnots 28 = .ok (.ifCond .eq 12, 3) := by decide +kernel
theorem dX2_countKnots_31 : decode cX2_countKnots 31 = .ok (.iload 4, 2) := by decide +kernel
theorem dX2_countKnots_33 : decode cX2_countKnots 33 = .ok (.iconst 2, 1) := by decide +kernel
theorem dX2_countKnots_34 : decode cX2_countKnots 34 = .ok (.if_icmp .eq 6, 3) := by decide +kernel
theorem dX2_countKnots_37 : decode cX2_countKnots 37 = .ok (.iinc 1 1, 3) := by decide +kernel
theorem dX2_countKnots_40 : decode cX2_countKnots 40 = .ok (.iinc 3 1, 3) := by decide +kernel
theorem dX2_countKnots_43 : decode cX2_countKnots 43 = .ok (.goto (-31), 3) := by decide +kernel
theorem dX2_countKnots_46 : decode cX2_countKnots 46 = .ok (.iinc 2 1, 3) := by decide +kernel
theorem dX2_countKnots_49 : decode cX2_countKnots 49 = .ok (.goto (-45), 3) := by decide +kernel
theorem dX2_countKnots_52 : decode cX2_countKnots 52 = .ok (.iload_n 1, 1) := by decide +kernel
theorem dX2_countKnots_53 : decode cX2_countKnots 53 = .ok (.ireturn, 1) := by decide +kernel
theorem dX3_init_0 : decode cX3_init 0 = .ok (.aload_n 0, 1) := by decide +kernel
theorem dX3_init_1 : decode cX3_init 1 = .ok (.invokespecial 3, 3) := by decide +kernel
theorem dX3_init_4 : decode cX3_init 4 = .ok (.aload_n 0, 1) := by decide +kernel
theorem dX3_init_5 : decode cX3_init 5 = .ok (.iconst 4, 1) := by decide +kernel
theorem dX3_init_6 : decode cX3_init 6 = .ok (.newarray .int, 2) := by decide +kernel
theorem dX3_init_8 : decode cX3_init 8 = .ok (.dup, 1) := by decide +kernel
theorem dX3_init_9 : decode cX3_init 9 = .ok (.iconst 0, 1) := by decide +kernel
theorem dX3_init_10 : decode cX3_init 10 = .ok (.bipush 10, 2) := by decide +kernel
theorem dX3_init_12 : decode cX3_init 12 = .ok (.iastore, 1) := by decide +kernel
theorem dX3_init_13 : decode cX3_init 13 = .ok (.dup, 1) := by decide +kernel
theorem dX3_init_14 : decode cX3_init 14 = .ok (.iconst 1, 1) := by decide +kernel
theorem dX3_init_15 : decode cX3_init 15 = .ok (.bipush 60, 2) := by decide +kernel
theorem dX3_init_17 : decode cX3_init 17 = .ok (.iastore, 1) := by decide +kernel
theorem dX3_init_18 : decode cX3_init 18 = .ok (.dup, 1) := by decide +kernel
theorem dX3_init_19 : decode cX3_init 19 = .ok (.iconst 2, 1) := by decide +kernel
theorem dX3_init_20 : decode cX3_init 20 = .ok (.iconst 1, 1) := by decide +kernel
theorem dX3_init_21 : decode cX3_init 21 = .ok (.iastore, 1) := by decide +kernel
theorem dX3_init_22 : decode cX3_init 22 = .ok (.dup, 1) := by decide +kernel
theorem dX3_init_23 : decode cX3_init 23 = .ok (.iconst 3, 1) := by decide +kernel
theorem dX3_init_24 : decode cX3_init 24 = .ok (.bipush 40, 2) := by decide +kernel
theorem dX3_init_26 : decode cX3_init 26 = .ok (.iastore, 1) := by decide +kernel
theorem dX3_init_27 : decode cX3_init 27 = .ok (.putfield 9, 3) := by decide +kernel
theorem dX3_init_30 : decode cX3_init 30 = .ok (.return_, 1) := by decide +kernel
theorem dX3_change_0 : decode cX3_change 0 = .ok (.iload_n 1, 1) := by decide +kernel
theorem dX3_change_1 : decode cX3_change 1 = .ok (.ifCond .lt 26, 3) := by decide +kernel
theorem dX3_change_4 : decode cX3_change 4 = .ok (.iload_n 1, 1) := by decide +kernel
theorem dX3_change_5 : decode cX3_change 5 = .ok (.iconst 3, 1) := by decide +kernel
theorem dX3_change_6 : decode cX3_change 6 = .ok (.if_icmp .gt 21, 3) := by decide +kernel
theorem dX3_change_9 : decode cX3_change 9 = .ok (.iload_n 2, 1) := by decide +kernel
theorem dX3_change_10 : decode cX3_change 10 = .ok (.getstatic 15, 3) := by decide +kernel
theorem dX3_change_13 : decode cX3_change 13 = .ok (.iload_n 1, 1) := by decide +kernel
theorem dX3_change_14 : decode cX3_change 14 = .ok (.iaload, 1) := by decide +kernel
theorem dX3_change_15 : decode cX3_change 15 = .ok (.if_icmp .lt 12, 3) := by decide +kernel
theorem dX3_change_18 : decode cX3_change 18 = .ok (.iload_n 2, 1) := by decide +kernel
theorem dX3_change_19 : decode cX3_change 19 = .ok (.getstatic 18, 3) := by decide +kernel
theorem dX3_change_22 : decode cX3_change 22 = .ok (.iload_n 1, 1) := by decide +kernel
theorem dX3_change_23 : decode cX3_change 23 = .ok (.iaload, 1) := by decide +kernel
theorem dX3_change_24 : decode cX3_change 24 = .ok (.if_icmp .le 6, 3) := by decide +kernel
theorem dX3_change_27 : decode cX3_change 27 = .ok (.bipush (-3), 2) := by decide +kernel
theorem dX3_change_29 : decode cX3_change 29 = .ok (.ireturn, 1) := by decide +kernel
theorem dX3_change_30 : decode cX3_change 30 = .ok (.aload_n 0, 1) := by decide +kernel
theorem dX3_change_31 : decode cX3_change 31 = .ok (.getfield 9, 3) := by decide +kernel
theorem dX3_change_34 : decode cX3_change 34 = .ok (.iload_n 1, 1) := by decide +kernel
theorem dX3_change_35 : decode cX3_change 35 = .ok (.iaload, 1) := by decide +kernel
theorem dX3_change_36 : decode cX3_change 36 = .ok (.istore_n 3, 1) := by decide +kernel
theorem dX3_change_37 : decode cX3_change 37 = .ok (.aload_n 0, 1) := by decide +kernel
theorem dX3_change_38 : decode cX3_change 38 = .ok (.getfield 9, 3) := by decide +kernel
theorem dX3_change_41 : decode cX3_change 41 = .ok (.iload_n 1, 1) := by decide +kernel
theorem dX3_change_42 : decode cX3_change 42 = .ok (.iload_n 2, 1) := by decide +kernel
theorem dX3_change_43 : decode cX3_change 43 = .ok (.iastore, 1) := by decide +kernel
theorem dX3_change_44 : decode cX3_change 44 = .ok (.iload_n 3, 1) := by decide +kernel
theorem dX3_change_45 : decode cX3_change 45 = .ok (.ireturn, 1) := by decide +kernel
theorem dX3_swell_0 : decode cX3_swell 0 = .ok (.aload_n 0, 1) := by decide +kernel
theorem dX3_swell_1 : decode cX3_swell 1 = .ok (.getfield 9, 3) := by decide +kernel
theorem dX3_swell_4 : decode cX3_swell 4 = .ok (.iconst 3, 1) := by decide +kernel
theorem dX3_swell_5 : decode cX3_swell 5 = .ok (.iaload, 1) := by decide +kernel
theorem dX3_swell_6 : decode cX3_swell 6 = .ok (.ireturn, 1) := by decide +kernel
theorem dX3_widthFor_0 : decode cX3_widthFor 0 = .ok (.iload_n 1, 1) := by decide +kernel
theorem dX3_widthFor_1 : decode cX3_widthFor 1 = .ok (.aload_n 0, 1) := by decide +kernel
theorem dX3_widthFor_2 : decode cX3_widthFor 2 = .ok (.getfield 9, 3) := by decide +kernel
theorem dX3_widthFor_5 : decode cX3_widthFor 5 = .ok (.iconst 1, 1) := by decide +kernel
theorem dX3_widthFor_6 : decode cX3_widthFor 6 = .ok (.iaload, 1) := by decide +kernel
theorem dX3_widthFor_7 : decode cX3_widthFor 7 = .ok (.invokestatic 21, 3) := by decide +kernel
theorem dX3_widthFor_10 : decode cX3_widthFor 10 = .ok (.istore_n 3, 1) := by decide +kernel
theorem dX3_widthFor_11 : decode cX3_widthFor 11 = .ok (.iload_n 2, 1) := by decide +kernel
theorem dX3_widthFor_12 : decode cX3_widthFor 12 = .ok (.ifCond .ne 7, 3) := by decide +kernel
theorem dX3_widthFor_15 : decode cX3_widthFor 15 = .ok (.iload_n 3, 1) := by decide +kernel
theorem dX3_widthFor_16 : decode cX3_widthFor 16 = .ok (.goto 6, 3) := by decide +kernel
theorem dX3_widthFor_19 : decode cX3_widthFor 19 = .ok (.iload_n 1, 1) := by decide +kernel
theorem dX3_widthFor_20 : decode cX3_widthFor 20 = .ok (.iload_n 3, 1) := by decide +kernel
theorem dX3_widthFor_21 : decode cX3_widthFor 21 = .ok (.isub, 1) := by decide +kernel
theorem dX3_widthFor_22 : decode cX3_widthFor 22 = .ok (.istore 4, 2) := by decide +kernel
theorem dX3_widthFor_24 : decode cX3_widthFor 24 = .ok (.aload_n 0, 1) := by decide +kernel
theorem dX3_widthFor_25 : decode cX3_widthFor 25 = .ok (.getfield 9, 3) := by decide +kernel
theorem dX3_widthFor_28 : decode cX3_widthFor 28 = .ok (.iconst 0, 1) := by decide +kernel
theorem dX3_widthFor_29 : decode cX3_widthFor 29 = .ok (.iaload, 1) := by decide +kernel
theorem dX3_widthFor_30 : decode cX3_widthFor 30 = .ok (.iload 4, 2) := by decide +kernel
theorem dX3_widthFor_32 : decode cX3_widthFor 32 = .ok (.imul, 1) := by decide +kernel
theorem dX3_widthFor_33 : decode cX3_widthFor 33 = .ok (.bipush 100, 2) := by decide +kernel
theorem dX3_widthFor_35 : decode cX3_widthFor 35 = .ok (.idiv, 1) := by decide +kernel
theorem dX3_widthFor_36 : decode cX3_widthFor 36 = .ok (.istore 5, 2) := by decide +kernel
theorem dX3_widthFor_38 : decode cX3_widthFor 38 = .ok (.iload 5, 2) := by decide +kernel
theorem dX3_widthFor_40 : decode cX3_widthFor 40 = .ok (.aload_n 0, 1) := by decide +kernel
theorem dX3_widthFor_41 : decode cX3_widthFor 41 = .ok (.getfield 9, 3) := by decide +kernel
theorem dX3_widthFor_44 : decode cX3_widthFor 44 = .ok (.iconst 2, 1) := by decide +kernel
theorem dX3_widthFor_45 : decode cX3_widthFor 45 = .ok (.iaload, 1) := by decide +kernel
theorem dX3_widthFor_46 : decode cX3_widthFor 46 = .ok (.if_icmp .ge 7, 3) := by decide +kernel
theorem dX3_widthFor_49 : decode cX3_widthFor 49 = .ok (.iconst 0, 1) := by decide +kernel
theorem dX3_widthFor_50 : decode cX3_widthFor 50 = .ok (.goto 5, 3) := by decide +kernel
theorem dX3_widthFor_53 : decode cX3_widthFor 53 = .ok (.iload 5, 2) := by decide +kernel
theorem dX3_widthFor_55 : decode cX3_widthFor 55 = .ok (.ireturn, 1) := by decide +kernel
theorem dX3_toneOf_0 : decode cX3_toneOf 0 = .ok (.aload_n 0, 1) := by decide +kernel
theorem dX3_toneOf_1 : decode cX3_toneOf 1 = .ok (.getfield 9, 3) := by decide +kernel
theorem dX3_toneOf_4 : decode cX3_toneOf 4 = .ok (.iconst 0, 1) := by decide +kernel
theorem dX3_toneOf_5 : decode cX3_toneOf 5 = .ok (.iaload, 1) := by decide +kernel
theorem dX3_toneOf_6 : decode cX3_toneOf 6 = .ok (.istore_n 2, 1) := by decide +kernel
theorem dX3_toneOf_7 : decode cX3_toneOf 7 = .ok (.iload_n 2, 1) := by decide +kernel
theorem dX3_toneOf_8 : decode cX3_toneOf 8 = .ok (.ifCond .le 12, 3) := by decide +kernel
theorem dX3_toneOf_11 : decode cX3_toneOf 11 = .ok (.bipush 100, 2) := by decide +kernel
theorem dX3_toneOf_13 : decode cX3_toneOf 13 = .ok (.iload_n 1, 1) := by decide +kernel
theorem dX3_toneOf_14 : decode cX3_toneOf 14 = .ok (.imul, 1) := by decide +kernel
theorem dX3_toneOf_15 : decode cX3_toneOf 15 = .ok (.iload_n 2, 1) := by decide +kernel
theorem dX3_toneOf_16 : decode cX3_toneOf 16 = .ok (.idiv, 1) := by decide +kernel
theorem dX3_toneOf_17 : decode cX3_toneOf 17 = .ok (.goto 4, 3) := by decide +kernel
theorem dX3_toneOf_20 : decode cX3_toneOf 20 = .ok (.iconst 0, 1) := by decide +kernel
theorem dX3_toneOf_21 : decode cX3_toneOf 21 = .ok (.ireturn, 1) := by decide +kernel
set_option maxRecDepth 20000 in
theorem ggX4_init_X2_init : GoodIn wsX4_init wsX2_init := goodIn_r _ [22, 23, 2, 3, 24, 25, 26, 27, 28, 51, 52, 53] (by decide +kernel) (by decide +kernel)
set_option maxRecDepth 20000 in
theorem gX4_init_X2_init_n11 : GoodIn wsX4_init (wsX2_init) := ggX4_init_X2_init
set_option maxRecDepth 20000 in
theorem ggX4_init_X3_init : GoodIn wsX4_init wsX3_init := goodIn_r _ [30, 31, 2, 3, 24, 32, 59] (by decide +kernel) (by decide +kernel)
set_option maxRecDepth 20000 in
theorem gX4_init_X3_init_n18 : GoodIn wsX4_init (wsX3_init) := ggX4_init_X3_init
set_option maxRecDepth 20000 in
theorem ggX4_init_X1_init : GoodIn wsX4_init wsX1_init := goodIn_r _ [35, 36, 2, 3, 24, 37, 38, 39, 40, 41, 42, 43, 44, 60, 61, 62, 63, 64, 65, 66, 67, 68] (by decide +kernel) (by decide +kernel)
set_option maxRecDepth 20000 in
theorem gX4_init_X1_init : GoodIn wsX4_init (wsX1_init) := ggX4_init_X1_init
set_option maxRecDepth 20000 in
theorem ggX4_init_X0_init : GoodIn wsX4_init wsX0_init := goodIn_r _ [46, 47, 2, 3, 24, 48, 49, 27, 50, 69, 70, 71, 72, 73] (by decide +kernel) (by decide +kernel)
set_option maxRecDepth 20000 in
theorem gX4_init_X0_init_n37 : GoodIn wsX4_init (wsX0_init) := ggX4_init_X0_init
theorem dX4_init_0 : decode cX4_init 0 = .ok (.aload_n 0, 1) := by decide +kernel
theorem dX4_init_1 : decode cX4_init 1 = .ok (.invokespecial 3, 3) := by decide +kernel
theorem dX4_init_4 : decode cX4_init 4 = .ok (.aload_n 0, 1) := by decide +kernel
theorem dX4_init_5 : decode cX4_init 5 = .ok (.new 9, 3) := by decide +kernel
theorem dX4_init_8 : decode cX4_init 8 = .ok (.dup, 1) := by decide +kernel
theorem dX4_init_9 : decode cX4_init 9 = .ok (.invokespecial 11, 3) := by decide +kernel
theorem dX4_init_12 : decode cX4_init 12 = .ok (.putfield 12, 3) := by decide +kernel
theorem dX4_init_15 : decode cX4_init 15 = .ok (.aload_n 0, 1) := by decide +kernel
theorem dX4_init_16 : decode cX4_init 16 = .ok (.new 16, 3) := by decide +kernel
theorem dX4_init_19 : decode cX4_init 19 = .ok (.dup, 1) := by decide +kernel
theorem dX4_init_20 : decode cX4_init 20 = .ok (.invokespecial 18, 3) := by decide +kernel
theorem dX4_init_23 : decode cX4_init 23 = .ok (.putfield 19, 3) := by decide +kernel
theorem dX4_init_26 : decode cX4_init 26 = .ok (.aload_n 0, 1) := by decide +kernel
theorem dX4_init_27 : decode cX4_init 27 = .ok (.new 23, 3) := by decide +kernel
theorem dX4_init_30 : decode cX4_init 30 = .ok (.dup, 1) := by decide +kernel
theorem dX4_init_31 : decode cX4_init 31 = .ok (.iconst 0, 1) := by decide +kernel
theorem dX4_init_32 : decode cX4_init 32 = .ok (.invokespecial 25, 3) := by decide +kernel
theorem dX4_init_35 : decode cX4_init 35 = .ok (.putfield 28, 3) := by decide +kernel
theorem dX4_init_38 : decode cX4_init 38 = .ok (.aload_n 0, 1) := by decide +kernel
theorem dX4_init_39 : decode cX4_init 39 = .ok (.new 23, 3) := by decide +kernel
theorem dX4_init_42 : decode cX4_init 42 = .ok (.dup, 1) := by decide +kernel
theorem dX4_init_43 : decode cX4_init 43 = .ok (.iconst 1, 1) := by decide +kernel
theorem dX4_init_44 : decode cX4_init 44 = .ok (.invokespecial 25, 3) := by decide +kernel
theorem dX4_init_47 : decode cX4_init 47 = .ok (.putfield 32, 3) := by decide +kernel
theorem dX4_init_50 : decode cX4_init 50 = .ok (.aload_n 0, 1) := by decide +kernel
theorem dX4_init_51 : decode cX4_init 51 = .ok (.new 35, 3) := by decide +kernel
theorem dX4_init_54 : decode cX4_init 54 = .ok (.dup, 1) := by decide +kernel
theorem dX4_init_55 : decode cX4_init 55 = .ok (.invokespecial 37, 3) := by decide +kernel
theorem dX4_init_58 : decode cX4_init 58 = .ok (.putfield 38, 3) := by decide +kernel
theorem dX4_init_61 : decode cX4_init 61 = .ok (.return_, 1) := by decide +kernel
set_option maxRecDepth 20000 in
theorem ggX4_tone_X4_isCell : GoodIn wsX4_tone wsX4_isCell := goodIn_r _ [6] (by decide +kernel) (by decide +kernel)
set_option maxRecDepth 20000 in
theorem gX4_tone_X4_isCell : GoodIn wsX4_tone (va_wsS RX4 42 yX4_isCell wsX4_isCell) := goodIn_app (goodIn_of _ (by decide +kernel)) ggX4_tone_X4_isCell
set_option maxRecDepth 20000 in
theorem ggX4_tone_X4_isTone : GoodIn wsX4_tone wsX4_isTone := goodIn_r _ [9] (by decide +kernel) (by decide +kernel)
set_option maxRecDepth 20000 in
theorem gX4_tone_X4_isTone : GoodIn wsX4_tone (va_wsS RX4 46 yX4_isTone wsX4_isTone) := goodIn_app (goodIn_of _ (by decide +kernel)) ggX4_tone_X4_isTone
set_option maxRecDepth 20000 in
theorem ggX4_tone_X4_cellOf : GoodIn wsX4_tone wsX4_cellOf := goodIn_r _ [12] (by decide +kernel) (by decide +kernel)
set_option maxRecDepth 20000 in
theorem gX4_tone_X4_cellOf : GoodIn wsX4_tone (va_wsS RX4 50 yX4_cellOf wsX4_cellOf) := goodIn_app (goodIn_of _ (by decide +kernel)) ggX4_tone_X4_cellOf
theorem dX4_tone_0 : decode cX4_tone 0 = .ok (.iload_n 1, 1) := by decide +kernel
theorem dX4_tone_1 : decode cX4_tone 1 = .ok (.iload_n 2, 1) := by decide +kernel
theorem dX4_tone_2 : decode cX4_tone 2 = .ok (.invokestatic 42, 3) := by decide +kernel
theorem dX4_tone_5 : decode cX4_tone 5 = .ok (.ifCond .ne 6, 3) := by decide +kernel
theorem dX4_tone_8 : decode cX4_tone 8 = .ok (.bipush (-2), 2) := by decide +kernel
theorem dX4_tone_10 : decode cX4_tone 10 = .ok (.ireturn, 1) := by decide +kernel
theorem dX4_tone_11 : decode cX4_tone 11 = .ok (.iload_n 3, 1) := by decide +kernel
theorem dX4_tone_12 : decode cX4_tone 12 = .ok (.invokestatic 46, 3) := by decide +kernel
theorem dX4_tone_15 : decode cX4_tone 15 = .ok (.ifCond .ne 6, 3) := by decide +kernel
theorem dX4_tone_18 : decode cX4_tone 18 = .ok (.bipush (-3), 2) := by decide +kernel
theorem dX4_tone_20 : decode cX4_tone 20 = .ok (.ireturn, 1) := by decide +kernel
theorem dX4_tone_21 : decode cX4_tone 21 = .ok (.iload_n 1, 1) := by decide +kernel
theorem dX4_tone_22 : decode cX4_tone 22 = .ok (.iload_n 2, 1) := by decide +kernel
theorem dX4_tone_23 : decode cX4_tone 23 = .ok (.invokestatic 50, 3) := by decide +kernel
theorem dX4_tone_26 : decode cX4_tone 26 = .ok (.istore 4, 2) := by decide +kernel
theorem dX4_tone_28 : decode cX4_tone 28 = .ok (.aload_n 0, 1) := by decide +kernel
theorem dX4_tone_29 : decode cX4_tone 29 = .ok (.getfield 12, 3) := by decide +kernel
theorem dX4_tone_32 : decode cX4_tone 32 = .ok (.getfield 54, 3) := by decide +kernel
theorem dX4_tone_35 : decode cX4_tone 35 = .ok (.iload 4, 2) := by decide +kernel
theorem dX4_tone_37 : decode cX4_tone 37 = .ok (.iaload, 1) := by decide +kernel
theorem dX4_tone_38 : decode cX4_tone 38 = .ok (.istore 5, 2) := by decide +kernel
theorem dX4_tone_40 : decode cX4_tone 40 = .ok (.aload_n 0, 1) := by decide +kernel
theorem dX4_tone_41 : decode cX4_tone 41 = .ok (.getfield 12, 3) := by decide +kernel
theorem dX4_tone_44 : decode cX4_tone 44 = .ok (.getfield 54, 3) := by decide +kernel
theorem dX4_tone_47 : decode cX4_tone 47 = .ok (.iload 4, 2) := by decide +kernel
theorem dX4_tone_49 : decode cX4_tone 49 = .ok (.iload_n 3, 1) := by decide +kernel
theorem dX4_tone_50 : decode cX4_tone 50 = .ok (.iastore, 1) := by decide +kernel
theorem dX4_tone_51 : decode cX4_tone 51 = .ok (.iload 5, 2) := by decide +kernel
theorem dX4_tone_53 : decode cX4_tone 53 = .ok (.ireturn, 1) := by decide +kernel
set_option maxRecDepth 20000 in
theorem ggX4_shade_X4_isCell : GoodIn wsX4_shade wsX4_isCell := goodIn_r _ [6] (by decide +kernel) (by decide +kernel)
set_option maxRecDepth 20000 in
theorem gX4_shade_X4_isCell : GoodIn wsX4_shade (va_wsS RX4 42 yX4_isCell wsX4_isCell) := goodIn_app (goodIn_of _ (by decide +kernel)) ggX4_shade_X4_isCell
set_option maxRecDepth 20000 in
theorem ggX4_shade_X4_isTone : GoodIn wsX4_shade wsX4_isTone := goodIn_r _ [9] (by decide +kernel) (by decide +kernel)
set_option maxRecDepth 20000 in
theorem gX4_shade_X4_isTone : GoodIn wsX4_shade (va_wsS RX4 46 yX4_isTone wsX4_isTone) := goodIn_app (goodIn_of _ (by decide +kernel)) ggX4_shade_X4_isTone
set_option maxRecDepth 20000 in
theorem ggX4_shade_X4_cellOf : GoodIn wsX4_shade wsX4_cellOf := goodIn_r _ [12] (by decide +kernel) (by decide +kernel)
set_option maxRecDepth 20000 in
theorem gX4_shade_X4_cellOf : GoodIn wsX4_shade (va_wsS RX4 50 yX4_cellOf wsX4_cellOf) := goodIn_app (goodIn_of _ (by decide +kernel)) ggX4_shade_X4_cellOf
theorem dX4_shade_0 : decode cX4_shade 0 = .ok (.iload_n 1, 1) := by decide +kernel
theorem dX4_shade_1 : decode cX4_shade 1 = .ok (.iload_n 2, 1) := by decide +kernel
theorem dX4_shade_2 : decode cX4_shade 2 = .ok (.invokestatic 42, 3) := by decide +kernel
theorem dX4_shade_5 : decode cX4_shade 5 = .ok (.ifCond .eq 12, 3) := by decide +kernel
theorem dX4_shade_8 : decode cX4_shade 8 = .ok (.iload_n 3, 1) := by decide +kernel
theorem dX4_shade_9 : decode cX4_shade 9 = .ok (.iload 4, 2) := by decide +kernel
theorem dX4_shade_11 : decode cX4_shade 11 = .ok (.invokestatic 42, 3) := by decide +kernel
theorem dX4_shade_14 : decode cX4_shade 14 = .ok (.ifCond .ne 6, 3) := by decide +kernel
theorem dX4_shade_17 : decode cX4_shade 17 = .ok (.bipush (-2), 2) := by decide +kernel
theorem dX4_shade_19 : decode cX4_shade 19 = .ok (.ireturn, 1) := by decide +kernel
theorem dX4_shade_20 : decode cX4_shade 20 = .ok (.iload 5, 2) := by decide +kernel
theorem dX4_shade_22 : decode cX4_shade 22 = .ok (.invokestatic 46, 3) := by decide +kernel
theorem dX4_shade_25 : decode cX4_shade 25 = .ok (.ifCond .eq 14, 3) := by decide +kernel
theorem dX4_shade_28 : decode cX4_shade 28 = .ok (.iload_n 1, 1) := by decide +kernel
theorem dX4_shade_29 : decode cX4_shade 29 = .ok (.iload_n 3, 1) := by decide +kernel
theorem dX4_shade_30 : decode cX4_shade 30 = .ok (.if_icmp .gt 9, 3) := by decide +kernel
theorem dX4_shade_33 : decode cX4_shade 33 = .ok (.iload_n 2, 1) := by decide +kernel
theorem dX4_shade_34 : decode cX4_shade 34 = .ok (.iload 4, 2) := by decide +kernel
theorem dX4_shade_36 : decode cX4_shade 36 = .ok (.if_icmp .le 6, 3) := by decide +kernel
theorem dX4_shade_39 : decode cX4_shade 39 = .ok (.bipush (-3), 2) := by decide +kernel
theorem dX4_shade_41 : decode cX4_shade 41 = .ok (.ireturn, 1) := by decide +kernel
theorem dX4_shade_42 : decode cX4_shade 42 = .ok (.iconst 0, 1) := by decide +kernel
theorem dX4_shade_43 : decode cX4_shade 43 = .ok (.istore 6, 2) := by decide +kernel
theorem dX4_shade_45 : decode cX4_shade 45 = .ok (.iload_n 2, 1) := by decide +kernel
theorem dX4_shade_46 : decode cX4_shade 46 = .ok (.istore 7, 2) := by decide +kernel
theorem dX4_shade_48 : decode cX4_shade 48 = .ok (.iload 7, 2) := by decide +kernel
theorem dX4_shade_50 : decode cX4_shade 50 = .ok (.iload 4, 2) := by decide +kernel
theorem dX4_shade_52 : decode cX4_shade 52 = .ok (.if_icmp .gt 63, 3) := by decide +kernel
theorem dX4_shade_55 : decode cX4_shade 55 = .ok (.iload_n 1, 1) := by decide +kernel
theorem dX4_shade_56 : decode cX4_shade 56 = .ok (.istore 8, 2) := by decide +kernel
theorem dX4_shade_58 : decode cX4_shade 58 = .ok (.iload 8, 2) := by decide +kernel
theorem dX4_shade_60 : decode cX4_shade 60 = .ok (.iload_n 3, 1) := by decide +kernel
theorem dX4_shade_61 : decode cX4_shade 61 = .ok (.if_icmp .gt 48, 3) := by decide +kernel
theorem dX4_shade_64 : decode cX4_shade 64 = .ok (.iload 8, 2) := by decide +kernel
theorem dX4_shade_66 : decode cX4_shade 66 = .ok (.iload 7, 2) := by decide +kernel
theorem dX4_shade_68 : decode cX4_shade 68 = .ok (.invokestatic 50, 3) := by decide +kernel
theorem dX4_shade_71 : decode cX4_shade 71 = .ok (.istore 9, 2) := by decide +kernel
theorem dX4_shade_73 : decode cX4_shade 73 = .ok (.aload_n 0, 1) := by decide +kernel
theorem dX4_shade_74 : decode cX4_shade 74 = .ok (.getfield 12, 3) := by decide +kernel
theorem dX4_shade_77 : decode cX4_shade 77 = .ok (.getfield 54, 3) := by decide +kernel
theorem dX4_shade_80 : decode cX4_shade 80 = .ok (.iload 9, 2) := by decide +kernel
theorem dX4_shade_82 : decode cX4_shade 82 = .ok (.iaload, 1) := by decide +kernel
theorem dX4_shade_83 : decode cX4_shade 83 = .ok (.iload 5, 2) := by decide +kernel
theorem dX4_shade_85 : decode cX4_shade 85 = .ok (.if_icmp .eq 18, 3) := by decide +kernel
theorem dX4_shade_88 : decode cX4_shade 88 = .ok (.aload_n 0, 1) := by decide +kernel
theorem dX4_shade_89 : decode cX4_shade 89 = .ok (.getfield 12, 3) := by decide +kernel
theorem dX4_shade_92 : decode cX4_shade 92 = .ok (.getfield 54, 3) := by decide +kernel
theorem dX4_shade_95 : decode cX4_shade 95 = .ok (.iload 9, 2) := by decide +kernel
theorem dX4_shade_97 : decode cX4_shade 97 = .ok (.iload 5, 2) := by decide +kernel
theorem dX4_shade_99 : decode cX4_shade 99 = .ok (.iastore, 1) := by decide +kernel
theorem dX4_shade_100 : decode cX4_shade 100 = .ok (.iinc 6 1, 3) := by decide +kernel
theorem dX4_shade_103 : decode cX4_shade 103 = .ok (.iinc 8 1, 3) := by decide +kernel
theorem dX4_shade_106 : decode cX4_shade 106 = .ok (.goto (-48), 3) := by decide +kernel
theorem dX4_shade_109 : decode cX4_shade 109 = .ok (.iinc 7 1, 3) := by decide +kernel
theorem dX4_shade_112 : decode cX4_shade 112 = .ok (.goto (-64), 3) := by decide +kernel
theorem dX4_shade_115 : decode cX4_shade 115 = .ok (.iload 6, 2) := by decide +kernel
theorem dX4_shade_117 : decode cX4_shade 117 = .ok (.ireturn, 1) := by decide +kernel
set_option maxRecDepth 20000 in
theorem ggX4_tell_X4_isCell : GoodIn wsX4_tell wsX4_isCell := goodIn_r _ [7] (by decide +kernel) (by decide +kernel)
set_option maxRecDepth 20000 in
theorem gX4_tell_X4_isCell : GoodIn wsX4_tell (va_wsS RX4 42 yX4_isCell wsX4_isCell) := goodIn_app (goodIn_of _ (by decide +kernel)) ggX4_tell_X4_isCell
set_option maxRecDepth 20000 in
theorem ggX4_tell_X4_cellOf : GoodIn wsX4_tell wsX4_cellOf := goodIn_r _ [10] (by decide +kernel) (by decide +kernel)
set_option maxRecDepth 20000 in
theorem gX4_tell_X4_cellOf : GoodIn wsX4_tell (va_wsS RX4 50 yX4_cellOf wsX4_cellOf) := goodIn_app (goodIn_of _ (by decide +kernel)) ggX4_tell_X4_cellOf
theorem dX4_tell_0 : decode cX4_tell 0 = .ok (.iload_n 1, 1) := by decide +kernel
theorem dX4_tell_1 : decode cX4_tell 1 = .ok (.iload_n 2, 1) := by decide +kernel
theorem dX4_tell_2 : decode cX4_tell 2 = .ok (.invokestatic 42, 3) := by decide +kernel
theorem dX4_tell_5 : decode cX4_tell 5 = .ok (.ifCond .ne 6, 3) := by decide +kernel
theorem dX4_tell_8 : decode cX4_tell 8 = .ok (.bipush (-2), 2) := by decide +kernel
theorem dX4_tell_10 : decode cX4_tell 10 = .ok (.ireturn, 1) := by decide +kernel
theorem dX4_tell_11 : decode cX4_tell 11 = .ok (.iload_n 3, 1) := by decide +kernel
theorem dX4_tell_12 : decode cX4_tell 12 = .ok (.ifCond .lt 9, 3) := by decide +kernel
theorem dX4_tell_15 : decode cX4_tell 15 = .ok (.iload_n 3, 1) := by decide +kernel
theorem dX4_tell_16 : decode cX4_tell 16 = .ok (.bipush 8, 2) := by decide +kernel
theorem dX4_tell_18 : decode cX4_tell 18 = .ok (.if_icmp .lt 6, 3) := by decide +kernel
theorem dX4_tell_21 : decode cX4_tell 21 = .ok (.bipush (-3), 2) := by decide +kernel
theorem dX4_tell_23 : decode cX4_tell 23 = .ok (.ireturn, 1) := by decide +kernel
theorem dX4_tell_24 : decode cX4_tell 24 = .ok (.iload_n 1, 1) := by decide +kernel
theorem dX4_tell_25 : decode cX4_tell 25 = .ok (.iload_n 2, 1) := by decide +kernel
theorem dX4_tell_26 : decode cX4_tell 26 = .ok (.invokestatic 50, 3) := by decide +kernel
theorem dX4_tell_29 : decode cX4_tell 29 = .ok (.istore 4, 2) := by decide +kernel
theorem dX4_tell_31 : decode cX4_tell 31 = .ok (.aload_n 0, 1) := by decide +kernel
theorem dX4_tell_32 : decode cX4_tell 32 = .ok (.getfield 12, 3) := by decide +kernel
theorem dX4_tell_35 : decode cX4_tell 35 = .ok (.getfield 58, 3) := by decide +kernel
theorem dX4_tell_38 : decode cX4_tell 38 = .ok (.iload 4, 2) := by decide +kernel
theorem dX4_tell_40 : decode cX4_tell 40 = .ok (.iaload, 1) := by decide +kernel
theorem dX4_tell_41 : decode cX4_tell 41 = .ok (.istore 5, 2) := by decide +kernel
theorem dX4_tell_43 : decode cX4_tell 43 = .ok (.aload_n 0, 1) := by decide +kernel
theorem dX4_tell_44 : decode cX4_tell 44 = .ok (.getfield 12, 3) := by decide +kernel
theorem dX4_tell_47 : decode cX4_tell 47 = .ok (.getfield 58, 3) := by decide +kernel
theorem dX4_tell_50 : decode cX4_tell 50 = .ok (.iload 4, 2) := by decide +kernel
theorem dX4_tell_52 : decode cX4_tell 52 = .ok (.iload_n 3, 1) := by decide +kernel
