theorem dX4_tell_53 : decode cX4_tell 53 = .ok (.iastore, 1) := by decide +kernel
theorem dX4_tell_54 : decode cX4_tell 54 = .ok (.aload_n 0, 1) := by decide +kernel
theorem dX4_tell_55 : decode cX4_tell 55 = .ok (.getfield 12, 3) := by decide +kernel
theorem dX4_tell_58 : decode cX4_tell 58 = .ok (.getfield 61, 3) := by decide +kernel
theorem dX4_tell_61 : decode cX4_tell 61 = .ok (.iload 4, 2) := by decide +kernel
theorem dX4_tell_63 : decode cX4_tell 63 = .ok (.iconst 1, 1) := by decide +kernel
theorem dX4_tell_64 : decode cX4_tell 64 = .ok (.bastore, 1) := by decide +kernel
theorem dX4_tell_65 : decode cX4_tell 65 = .ok (.iload 5, 2) := by decide +kernel
theorem dX4_tell_67 : decode cX4_tell 67 = .ok (.ireturn, 1) := by decide +kernel
set_option maxRecDepth 20000 in
theorem ggX4_free_X4_isCell : GoodIn wsX4_free wsX4_isCell := goodIn_r _ [6] (by decide +kernel) (by decide +kernel)
set_option maxRecDepth 20000 in
theorem gX4_free_X4_isCell : GoodIn wsX4_free (va_wsS RX4 42 yX4_isCell wsX4_isCell) := goodIn_app (goodIn_of _ (by decide +kernel)) ggX4_free_X4_isCell
set_option maxRecDepth 20000 in
theorem ggX4_free_X4_cellOf : GoodIn wsX4_free wsX4_cellOf := goodIn_r _ [9] (by decide +kernel) (by decide +kernel)
set_option maxRecDepth 20000 in
theorem gX4_free_X4_cellOf : GoodIn wsX4_free (va_wsS RX4 50 yX4_cellOf wsX4_cellOf) := goodIn_app (goodIn_of _ (by decide +kernel)) ggX4_free_X4_cellOf
theorem dX4_free_0 : decode cX4_free 0 = .ok (.iload_n 1, 1) := by decide +kernel
theorem dX4_free_1 : decode cX4_free 1 = .ok (.iload_n 2, 1) := by decide +kernel
theorem dX4_free_2 : decode cX4_free 2 = .ok (.invokestatic 42, 3) := by decide +kernel
theorem dX4_free_5 : decode cX4_free 5 = .ok (.ifCond .ne 6, 3) := by decide +kernel
theorem dX4_free_8 : decode cX4_free 8 = .ok (.bipush (-2), 2) := by decide +kernel
theorem dX4_free_10 : decode cX4_free 10 = .ok (.ireturn, 1) := by decide +kernel
theorem dX4_free_11 : decode cX4_free 11 = .ok (.iload_n 1, 1) := by decide +kernel
theorem dX4_free_12 : decode cX4_free 12 = .ok (.iload_n 2, 1) := by decide +kernel
theorem dX4_free_13 : decode cX4_free 13 = .ok (.invokestatic 50, 3) := by decide +kernel
theorem dX4_free_16 : decode cX4_free 16 = .ok (.istore_n 3, 1) := by decide +kernel
theorem dX4_free_17 : decode cX4_free 17 = .ok (.aload_n 0, 1) := by decide +kernel
theorem dX4_free_18 : decode cX4_free 18 = .ok (.getfield 12, 3) := by decide +kernel
theorem dX4_free_21 : decode cX4_free 21 = .ok (.getfield 61, 3) := by decide +kernel
theorem dX4_free_24 : decode cX4_free 24 = .ok (.iload_n 3, 1) := by decide +kernel
theorem dX4_free_25 : decode cX4_free 25 = .ok (.baload, 1) := by decide +kernel
theorem dX4_free_26 : decode cX4_free 26 = .ok (.ifCond .ne 6, 3) := by decide +kernel
theorem dX4_free_29 : decode cX4_free 29 = .ok (.bipush (-4), 2) := by decide +kernel
theorem dX4_free_31 : decode cX4_free 31 = .ok (.ireturn, 1) := by decide +kernel
theorem dX4_free_32 : decode cX4_free 32 = .ok (.aload_n 0, 1) := by decide +kernel
theorem dX4_free_33 : decode cX4_free 33 = .ok (.getfield 12, 3) := by decide +kernel
theorem dX4_free_36 : decode cX4_free 36 = .ok (.getfield 61, 3) := by decide +kernel
theorem dX4_free_39 : decode cX4_free 39 = .ok (.iload_n 3, 1) := by decide +kernel
theorem dX4_free_40 : decode cX4_free 40 = .ok (.iconst 0, 1) := by decide +kernel
theorem dX4_free_41 : decode cX4_free 41 = .ok (.bastore, 1) := by decide +kernel
theorem dX4_free_42 : decode cX4_free 42 = .ok (.iconst 1, 1) := by decide +kernel
theorem dX4_free_43 : decode cX4_free 43 = .ok (.ireturn, 1) := by decide +kernel
set_option maxRecDepth 20000 in
theorem ggX4_even_X2_smooth : GoodIn wsX4_even wsX2_smooth := goodIn_r _ [6, 7, 8, 9, 5, 10, 11, 12, 13, 14, 15, 16, 17, 18, 19, 20, 21, 22, 23, 24, 25, 26, 27, 28, 29, 30, 31, 32, 33, 39, 40, 41] (by decide +kernel) (by decide +kernel)
set_option maxRecDepth 20000 in
theorem gX4_even_X2_smooth : GoodIn wsX4_even (wsV RX4 65 RX2 yX2_smooth wsX2_smooth) := goodIn_app (goodIn_of _ (by decide +kernel)) ggX4_even_X2_smooth
theorem dX4_even_0 : decode cX4_even 0 = .ok (.aload_n 0, 1) := by decide +kernel
theorem dX4_even_1 : decode cX4_even 1 = .ok (.getfield 12, 3) := by decide +kernel
theorem dX4_even_4 : decode cX4_even 4 = .ok (.invokevirtual 65, 3) := by decide +kernel
theorem dX4_even_7 : decode cX4_even 7 = .ok (.ireturn, 1) := by decide +kernel
set_option maxRecDepth 20000 in
theorem ggX4_at_X4_isCell : GoodIn wsX4_at wsX4_isCell := goodIn_r _ [8] (by decide +kernel) (by decide +kernel)
set_option maxRecDepth 20000 in
theorem gX4_at_X4_isCell : GoodIn wsX4_at (va_wsS RX4 42 yX4_isCell wsX4_isCell) := goodIn_app (goodIn_of _ (by decide +kernel)) ggX4_at_X4_isCell
set_option maxRecDepth 20000 in
theorem ggX4_at_X4_cellOf : GoodIn wsX4_at wsX4_cellOf := goodIn_r _ [11] (by decide +kernel) (by decide +kernel)
set_option maxRecDepth 20000 in
theorem gX4_at_X4_cellOf : GoodIn wsX4_at (va_wsS RX4 50 yX4_cellOf wsX4_cellOf) := goodIn_app (goodIn_of _ (by decide +kernel)) ggX4_at_X4_cellOf
theorem dX4_at_0 : decode cX4_at 0 = .ok (.iload_n 1, 1) := by decide +kernel
theorem dX4_at_1 : decode cX4_at 1 = .ok (.iload_n 2, 1) := by decide +kernel
theorem dX4_at_2 : decode cX4_at 2 = .ok (.invokestatic 42, 3) := by decide +kernel
theorem dX4_at_5 : decode cX4_at 5 = .ok (.ifCond .ne 6, 3) := by decide +kernel
theorem dX4_at_8 : decode cX4_at 8 = .ok (.bipush (-2), 2) := by decide +kernel
theorem dX4_at_10 : decode cX4_at 10 = .ok (.ireturn, 1) := by decide +kernel
theorem dX4_at_11 : decode cX4_at 11 = .ok (.iload_n 1, 1) := by decide +kernel
theorem dX4_at_12 : decode cX4_at 12 = .ok (.iload_n 2, 1) := by decide +kernel
theorem dX4_at_13 : decode cX4_at 13 = .ok (.invokestatic 50, 3) := by decide +kernel
theorem dX4_at_16 : decode cX4_at 16 = .ok (.istore 4, 2) := by decide +kernel
theorem dX4_at_18 : decode cX4_at 18 = .ok (.iload_n 3, 1) := by decide +kernel
theorem dX4_at_19 : decode cX4_at 19 = .ok (.tableswitch 66 0 2 #[25, 36, 47], 25) := by decide +kernel
theorem dX4_at_44 : decode cX4_at 44 = .ok (.aload_n 0, 1) := by decide +kernel
theorem dX4_at_45 : decode cX4_at 45 = .ok (.getfield 12, 3) := by decide +kernel
theorem dX4_at_48 : decode cX4_at 48 = .ok (.getfield 54, 3) := by decide +kernel
theorem dX4_at_51 : decode cX4_at 51 = .ok (.iload 4, 2) := by decide +kernel
theorem dX4_at_53 : decode cX4_at 53 = .ok (.iaload, 1) := by decide +kernel
theorem dX4_at_54 : decode cX4_at 54 = .ok (.ireturn, 1) := by decide +kernel
theorem dX4_at_55 : decode cX4_at 55 = .ok (.aload_n 0, 1) := by decide +kernel
theorem dX4_at_56 : decode cX4_at 56 = .ok (.getfield 12, 3) := by decide +kernel
theorem dX4_at_59 : decode cX4_at 59 = .ok (.getfield 58, 3) := by decide +kernel
theorem dX4_at_62 : decode cX4_at 62 = .ok (.iload 4, 2) := by decide +kernel
theorem dX4_at_64 : decode cX4_at 64 = .ok (.iaload, 1) := by decide +kernel
theorem dX4_at_65 : decode cX4_at 65 = .ok (.ireturn, 1) := by decide +kernel
theorem dX4_at_66 : decode cX4_at 66 = .ok (.aload_n 0, 1) := by decide +kernel
theorem dX4_at_67 : decode cX4_at 67 = .ok (.getfield 12, 3) := by decide +kernel
theorem dX4_at_70 : decode cX4_at 70 = .ok (.getfield 61, 3) := by decide +kernel
theorem dX4_at_73 : decode cX4_at 73 = .ok (.iload 4, 2) := by decide +kernel
theorem dX4_at_75 : decode cX4_at 75 = .ok (.baload, 1) := by decide +kernel
theorem dX4_at_76 : decode cX4_at 76 = .ok (.ifCond .eq 7, 3) := by decide +kernel
theorem dX4_at_79 : decode cX4_at 79 = .ok (.iconst 1, 1) := by decide +kernel
theorem dX4_at_80 : decode cX4_at 80 = .ok (.goto 4, 3) := by decide +kernel
theorem dX4_at_83 : decode cX4_at 83 = .ok (.iconst 0, 1) := by decide +kernel
theorem dX4_at_84 : decode cX4_at 84 = .ok (.ireturn, 1) := by decide +kernel
theorem dX4_at_85 : decode cX4_at 85 = .ok (.bipush (-3), 2) := by decide +kernel
theorem dX4_at_87 : decode cX4_at 87 = .ok (.ireturn, 1) := by decide +kernel
set_option maxRecDepth 20000 in
theorem ggX4_knot_X4_isBlock : GoodIn wsX4_knot wsX4_isBlock := goodIn_r _ [5] (by decide +kernel) (by decide +kernel)
set_option maxRecDepth 20000 in
theorem gX4_knot_X4_isBlock : GoodIn wsX4_knot (va_wsS RX4 69 yX4_isBlock wsX4_isBlock) := goodIn_app (goodIn_of _ (by decide +kernel)) ggX4_knot_X4_isBlock
set_option maxRecDepth 20000 in
theorem ggX4_knot_X2_knotOf : GoodIn wsX4_knot wsX2_knotOf := goodIn_r _ [10, 11, 12, 4, 13, 14, 15, 9, 16, 17, 18, 19, 20, 26, 27, 28] (by decide +kernel) (by decide +kernel)
set_option maxRecDepth 20000 in
theorem gX4_knot_X2_knotOf : GoodIn wsX4_knot (wsV RX4 72 RX2 yX2_knotOf wsX2_knotOf) := goodIn_app (goodIn_of _ (by decide +kernel)) ggX4_knot_X2_knotOf
theorem dX4_knot_0 : decode cX4_knot 0 = .ok (.iload_n 1, 1) := by decide +kernel
theorem dX4_knot_1 : decode cX4_knot 1 = .ok (.iload_n 2, 1) := by decide +kernel
theorem dX4_knot_2 : decode cX4_knot 2 = .ok (.invokestatic 69, 3) := by decide +kernel
theorem dX4_knot_5 : decode cX4_knot 5 = .ok (.ifCond .eq 15, 3) := by decide +kernel
theorem dX4_knot_8 : decode cX4_knot 8 = .ok (.aload_n 0, 1) := by decide +kernel
theorem dX4_knot_9 : decode cX4_knot 9 = .ok (.getfield 12, 3) := by decide +kernel
theorem dX4_knot_12 : decode cX4_knot 12 = .ok (.iload_n 1, 1) := by decide +kernel
theorem dX4_knot_13 : decode cX4_knot 13 = .ok (.iload_n 2, 1) := by decide +kernel
theorem dX4_knot_14 : decode cX4_knot 14 = .ok (.invokevirtual 72, 3) := by decide +kernel
theorem dX4_knot_17 : decode cX4_knot 17 = .ok (.goto 5, 3) := by decide +kernel
theorem dX4_knot_20 : decode cX4_knot 20 = .ok (.bipush (-2), 2) := by decide +kernel
theorem dX4_knot_22 : decode cX4_knot 22 = .ok (.ireturn, 1) := by decide +kernel
set_option maxRecDepth 20000 in
theorem ggX4_set_X3_change : GoodIn wsX4_set wsX3_change := goodIn_r _ [6, 7, 13] (by decide +kernel) (by decide +kernel)
set_option maxRecDepth 20000 in
theorem gX4_set_X3_change : GoodIn wsX4_set (wsV RX4 75 RX3 yX3_change wsX3_change) := goodIn_app (goodIn_of _ (by decide +kernel)) ggX4_set_X3_change
theorem dX4_set_0 : decode cX4_set 0 = .ok (.aload_n 0, 1) := by decide +kernel
theorem dX4_set_1 : decode cX4_set 1 = .ok (.getfield 19, 3) := by decide +kernel
theorem dX4_set_4 : decode cX4_set 4 = .ok (.iload_n 1, 1) := by decide +kernel
theorem dX4_set_5 : decode cX4_set 5 = .ok (.iload_n 2, 1) := by decide +kernel
theorem dX4_set_6 : decode cX4_set 6 = .ok (.invokevirtual 75, 3) := by decide +kernel
theorem dX4_set_9 : decode cX4_set 9 = .ok (.ireturn, 1) := by decide +kernel
set_option maxRecDepth 20000 in
theorem ggX4_wanted_X4_isCell : GoodIn wsX4_wanted wsX4_isCell := goodIn_r _ [7] (by decide +kernel) (by decide +kernel)
set_option maxRecDepth 20000 in
theorem gX4_wanted_X4_isCell : GoodIn wsX4_wanted (va_wsS RX4 42 yX4_isCell wsX4_isCell) := goodIn_app (goodIn_of _ (by decide +kernel)) ggX4_wanted_X4_isCell
set_option maxRecDepth 20000 in
theorem ggX4_wanted_X4_isLayer : GoodIn wsX4_wanted wsX4_isLayer := goodIn_r _ [10] (by decide +kernel) (by decide +kernel)
set_option maxRecDepth 20000 in
theorem gX4_wanted_X4_isLayer : GoodIn wsX4_wanted (va_wsS RX4 78 yX4_isLayer wsX4_isLayer) := goodIn_app (goodIn_of _ (by decide +kernel)) ggX4_wanted_X4_isLayer
set_option maxRecDepth 20000 in
theorem ggX4_wanted_X4_cellOf : GoodIn wsX4_wanted wsX4_cellOf := goodIn_r _ [13] (by decide +kernel) (by decide +kernel)
set_option maxRecDepth 20000 in
theorem gX4_wanted_X4_cellOf : GoodIn wsX4_wanted (va_wsS RX4 50 yX4_cellOf wsX4_cellOf) := goodIn_app (goodIn_of _ (by decide +kernel)) ggX4_wanted_X4_cellOf
set_option maxRecDepth 20000 in
theorem ggX4_wanted_X3_widthFor : GoodIn wsX4_wanted wsX3_widthFor := goodIn_r _ [18, 19, 20, 21, 22, 23, 32] (by decide +kernel) (by decide +kernel)
set_option maxRecDepth 20000 in
theorem gX4_wanted_X3_widthFor : GoodIn wsX4_wanted (wsV RX4 81 RX3 yX3_widthFor wsX3_widthFor) := goodIn_app (goodIn_of _ (by decide +kernel)) ggX4_wanted_X3_widthFor
theorem dX4_wanted_0 : decode cX4_wanted 0 = .ok (.iload_n 1, 1) := by decide +kernel
theorem dX4_wanted_1 : decode cX4_wanted 1 = .ok (.iload_n 2, 1) := by decide +kernel
theorem dX4_wanted_2 : decode cX4_wanted 2 = .ok (.invokestatic 42, 3) := by decide +kernel
theorem dX4_wanted_5 : decode cX4_wanted 5 = .ok (.ifCond .eq 10, 3) := by decide +kernel
theorem dX4_wanted_8 : decode cX4_wanted 8 = .ok (.iload_n 3, 1) := by decide +kernel
theorem dX4_wanted_9 : decode cX4_wanted 9 = .ok (.invokestatic 78, 3) := by decide +kernel
theorem dX4_wanted_12 : decode cX4_wanted 12 = .ok (.ifCond .ne 6, 3) := by decide +kernel
theorem dX4_wanted_15 : decode cX4_wanted 15 = .ok (.bipush (-2), 2) := by decide +kernel
theorem dX4_wanted_17 : decode cX4_wanted 17 = .ok (.ireturn, 1) := by decide +kernel
theorem dX4_wanted_18 : decode cX4_wanted 18 = .ok (.aload_n 0, 1) := by decide +kernel
theorem dX4_wanted_19 : decode cX4_wanted 19 = .ok (.getfield 19, 3) := by decide +kernel
theorem dX4_wanted_22 : decode cX4_wanted 22 = .ok (.aload_n 0, 1) := by decide +kernel
theorem dX4_wanted_23 : decode cX4_wanted 23 = .ok (.getfield 12, 3) := by decide +kernel
theorem dX4_wanted_26 : decode cX4_wanted 26 = .ok (.getfield 54, 3) := by decide +kernel
theorem dX4_wanted_29 : decode cX4_wanted 29 = .ok (.iload_n 1, 1) := by decide +kernel
theorem dX4_wanted_30 : decode cX4_wanted 30 = .ok (.iload_n 2, 1) := by decide +kernel
theorem dX4_wanted_31 : decode cX4_wanted 31 = .ok (.invokestatic 50, 3) := by decide +kernel
theorem dX4_wanted_34 : decode cX4_wanted 34 = .ok (.iaload, 1) := by decide +kernel
theorem dX4_wanted_35 : decode cX4_wanted 35 = .ok (.iload_n 3, 1) := by decide +kernel
theorem dX4_wanted_36 : decode cX4_wanted 36 = .ok (.invokevirtual 81, 3) := by decide +kernel
theorem dX4_wanted_39 : decode cX4_wanted 39 = .ok (.ireturn, 1) := by decide +kernel
set_option maxRecDepth 20000 in
theorem ggX4_width_X4_isCell : GoodIn wsX4_width wsX4_isCell := goodIn_r _ [5] (by decide +kernel) (by decide +kernel)
set_option maxRecDepth 20000 in
theorem gX4_width_X4_isCell : GoodIn wsX4_width (va_wsS RX4 42 yX4_isCell wsX4_isCell) := goodIn_app (goodIn_of _ (by decide +kernel)) ggX4_width_X4_isCell
set_option maxRecDepth 20000 in
theorem ggX4_width_X4_isLayer : GoodIn wsX4_width wsX4_isLayer := goodIn_r _ [8] (by decide +kernel) (by decide +kernel)
set_option maxRecDepth 20000 in
theorem gX4_width_X4_isLayer : GoodIn wsX4_width (va_wsS RX4 78 yX4_isLayer wsX4_isLayer) := goodIn_app (goodIn_of _ (by decide +kernel)) ggX4_width_X4_isLayer
set_option maxRecDepth 20000 in
theorem ggX4_width_X4_drawnLayer : GoodIn wsX4_width wsX4_drawnLayer := goodIn_r _ [12, 13, 14, 15, 16, 17, 18, 19, 20, 21, 22, 23, 24, 25, 26, 27, 28, 29, 30, 31, 32, 33, 34, 35, 36, 37, 38, 39, 40, 41, 42, 43, 44, 45, 46, 47, 48, 49, 50, 3, 4, 5, 51, 52, 53, 54, 55, 56, 57, 58, 59, 60, 61, 62, 63, 64, 65, 66, 67, 68, 69, 70, 71, 72, 73, 74, 75, 76, 77, 78, 79, 80, 81, 82, 93, 94, 95, 96, 97, 84, 85, 86, 87, 88, 89, 90, 91, 92, 98, 99, 100, 101] (by decide +kernel) (by decide +kernel)
set_option maxRecDepth 20000 in
theorem gX4_width_X4_drawnLayer : GoodIn wsX4_width (wsV RX4 84 RX4 yX4_drawnLayer wsX4_drawnLayer) := goodIn_app (goodIn_of _ (by decide +kernel)) ggX4_width_X4_drawnLayer
set_option maxRecDepth 20000 in
theorem ggX4_width_X4_cellOf : GoodIn wsX4_width wsX4_cellOf := goodIn_r _ [52] (by decide +kernel) (by decide +kernel)
set_option maxRecDepth 20000 in
theorem gX4_width_X4_cellOf : GoodIn wsX4_width (va_wsS RX4 50 yX4_cellOf wsX4_cellOf) := goodIn_app (goodIn_of _ (by decide +kernel)) ggX4_width_X4_cellOf
theorem dX4_width_0 : decode cX4_width 0 = .ok (.iload_n 1, 1) := by decide +kernel
theorem dX4_width_1 : decode cX4_width 1 = .ok (.iload_n 2, 1) := by decide +kernel
theorem dX4_width_2 : decode cX4_width 2 = .ok (.invokestatic 42, 3) := by decide +kernel
theorem dX4_width_5 : decode cX4_width 5 = .ok (.ifCond .eq 10, 3) := by decide +kernel
theorem dX4_width_8 : decode cX4_width 8 = .ok (.iload_n 3, 1) := by decide +kernel
theorem dX4_width_9 : decode cX4_width 9 = .ok (.invokestatic 78, 3) := by decide +kernel
theorem dX4_width_12 : decode cX4_width 12 = .ok (.ifCond .ne 6, 3) := by decide +kernel
theorem dX4_width_15 : decode cX4_width 15 = .ok (.bipush (-2), 2) := by decide +kernel
theorem dX4_width_17 : decode cX4_width 17 = .ok (.ireturn, 1) := by decide +kernel
theorem dX4_width_18 : decode cX4_width 18 = .ok (.aload_n 0, 1) := by decide +kernel
theorem dX4_width_19 : decode cX4_width 19 = .ok (.iload_n 3, 1) := by decide +kernel
theorem dX4_width_20 : decode cX4_width 20 = .ok (.invokevirtual 84, 3) := by decide +kernel
theorem dX4_width_23 : decode cX4_width 23 = .ok (.getfield 88, 3) := by decide +kernel
theorem dX4_width_26 : decode cX4_width 26 = .ok (.iload_n 1, 1) := by decide +kernel
theorem dX4_width_27 : decode cX4_width 27 = .ok (.iload_n 2, 1) := by decide +kernel
theorem dX4_width_28 : decode cX4_width 28 = .ok (.invokestatic 50, 3) := by decide +kernel
theorem dX4_width_31 : decode cX4_width 31 = .ok (.iaload, 1) := by decide +kernel
theorem dX4_width_32 : decode cX4_width 32 = .ok (.ireturn, 1) := by decide +kernel
set_option maxRecDepth 20000 in
theorem ggX4_made_X4_isCell : GoodIn wsX4_made wsX4_isCell := goodIn_r _ [4] (by decide +kernel) (by decide +kernel)
set_option maxRecDepth 20000 in
theorem gX4_made_X4_isCell : GoodIn wsX4_made (va_wsS RX4 42 yX4_isCell wsX4_isCell) := goodIn_app (goodIn_of _ (by decide +kernel)) ggX4_made_X4_isCell
set_option maxRecDepth 20000 in
theorem ggX4_made_X4_drawBothLayers : GoodIn wsX4_made wsX4_drawBothLayers := goodIn_r _ [8, 9, 10, 11, 12, 13, 14, 15, 16, 17, 18, 19, 20, 21, 22, 23, 24, 25, 26, 27, 28, 29, 30, 31, 32, 33, 34, 35, 36, 37, 38, 39, 40, 41, 42, 43, 44, 45, 46, 2, 3, 4, 47, 48, 49, 50, 51, 52, 53, 54, 55, 56, 57, 58, 59, 60, 61, 62, 63, 64, 65, 66, 67, 68, 69, 70, 71, 72, 73, 74, 75, 76, 77, 78, 89, 90, 91, 92, 93, 94, 95, 96, 97, 98, 99, 100, 101, 102, 103, 104, 105, 106] (by decide +kernel) (by decide +kernel)
set_option maxRecDepth 20000 in
theorem gX4_made_X4_drawBothLayers : GoodIn wsX4_made (wsV RX4 91 RX4 yX4_drawBothLayers wsX4_drawBothLayers) := goodIn_app (goodIn_of _ (by decide +kernel)) ggX4_made_X4_drawBothLayers
set_option maxRecDepth 20000 in
theorem ggX4_made_X4_cellOf : GoodIn wsX4_made wsX4_cellOf := goodIn_r _ [48] (by decide +kernel) (by decide +kernel)
set_option maxRecDepth 20000 in
theorem gX4_made_X4_cellOf : GoodIn wsX4_made (va_wsS RX4 50 yX4_cellOf wsX4_cellOf) := goodIn_app (goodIn_of _ (by decide +kernel)) ggX4_made_X4_cellOf
set_option maxRecDepth 20000 in
theorem ggX4_made_X4_toneMade : GoodIn wsX4_made wsX4_toneMade := goodIn_r _ [83, 11, 9, 84, 12, 85, 86, 87, 28, 88, 30, 89, 90, 91, 92, 93, 94, 95, 96, 97, 98, 99, 100, 101, 102, 106] (by decide +kernel) (by decide +kernel)
set_option maxRecDepth 20000 in
theorem gX4_made_X4_toneMade : GoodIn wsX4_made (wsV RX4 94 RX4 yX4_toneMade wsX4_toneMade) := goodIn_app (goodIn_of _ (by decide +kernel)) ggX4_made_X4_toneMade
theorem dX4_made_0 : decode cX4_made 0 = .ok (.iload_n 1, 1) := by decide +kernel
theorem dX4_made_1 : decode cX4_made 1 = .ok (.iload_n 2, 1) := by decide +kernel
theorem dX4_made_2 : decode cX4_made 2 = .ok (.invokestatic 42, 3) := by decide +kernel
theorem dX4_made_5 : decode cX4_made 5 = .ok (.ifCond .ne 6, 3) := by decide +kernel
theorem dX4_made_8 : decode cX4_made 8 = .ok (.bipush (-2), 2) := by decide +kernel
theorem dX4_made_10 : decode cX4_made 10 = .ok (.ireturn, 1) := by decide +kernel
theorem dX4_made_11 : decode cX4_made 11 = .ok (.aload_n 0, 1) := by decide +kernel
theorem dX4_made_12 : decode cX4_made 12 = .ok (.invokevirtual 91, 3) := by decide +kernel
theorem dX4_made_15 : decode cX4_made 15 = .ok (.aload_n 0, 1) := by decide +kernel
theorem dX4_made_16 : decode cX4_made 16 = .ok (.iload_n 1, 1) := by decide +kernel
theorem dX4_made_17 : decode cX4_made 17 = .ok (.iload_n 2, 1) := by decide +kernel
theorem dX4_made_18 : decode cX4_made 18 = .ok (.invokestatic 50, 3) := by decide +kernel
theorem dX4_made_21 : decode cX4_made 21 = .ok (.invokevirtual 94, 3) := by decide +kernel
theorem dX4_made_24 : decode cX4_made 24 = .ok (.ireturn, 1) := by decide +kernel
set_option maxRecDepth 20000 in
theorem ggX4_error_X4_drawBothLayers : GoodIn wsX4_error wsX4_drawBothLayers := goodIn_r _ [14, 15, 1, 16, 17, 18, 19, 20, 21, 22, 23, 24, 25, 26, 27, 28, 29, 30, 31, 32, 33, 34, 35, 36, 37, 5, 38, 39, 40, 41, 42, 43, 44, 45, 46, 47, 48, 49, 50, 51, 13, 52, 53, 54, 55, 56, 57, 58, 59, 60, 61, 62, 63, 64, 65, 66, 67, 68, 69, 70, 71, 72, 73, 3, 4, 6, 7, 8, 9, 74, 75, 76, 77, 78, 88, 89, 90, 91, 92, 96, 97, 98, 99, 100, 101, 102, 103, 104, 93, 94, 95, 105] (by decide +kernel) (by decide +kernel)
set_option maxRecDepth 20000 in
theorem gX4_error_X4_drawBothLayers : GoodIn wsX4_error (wsV RX4 91 RX4 yX4_drawBothLayers wsX4_drawBothLayers) := goodIn_app (goodIn_of _ (by decide +kernel)) ggX4_error_X4_drawBothLayers
set_option maxRecDepth 20000 in
theorem ggX4_error_X4_toneMade : GoodIn wsX4_error wsX4_toneMade := goodIn_r _ [82, 16, 15, 83, 17, 84, 85, 86, 33, 87, 35, 88, 89, 90, 91, 92, 96, 97, 98, 99, 100, 101, 102, 103, 104, 105] (by decide +kernel) (by decide +kernel)
set_option maxRecDepth 20000 in
theorem gX4_error_X4_toneMade : GoodIn wsX4_error (wsV RX4 94 RX4 yX4_toneMade wsX4_toneMade) := goodIn_app (goodIn_of _ (by decide +kernel)) ggX4_error_X4_toneMade
theorem dX4_error_0 : decode cX4_error 0 = .ok (.iload_n 1, 1) := by decide +kernel
theorem dX4_error_1 : decode cX4_error 1 = .ok (.ifCond .eq 11, 3) := by decide +kernel
theorem dX4_error_4 : decode cX4_error 4 = .ok (.iload_n 1, 1) := by decide +kernel
theorem dX4_error_5 : decode cX4_error 5 = .ok (.iconst 1, 1) := by decide +kernel
theorem dX4_error_6 : decode cX4_error 6 = .ok (.if_icmp .eq 6, 3) := by decide +kernel
theorem dX4_error_9 : decode cX4_error 9 = .ok (.bipush (-3), 2) := by decide +kernel
theorem dX4_error_11 : decode cX4_error 11 = .ok (.ireturn, 1) := by decide +kernel
theorem dX4_error_12 : decode cX4_error 12 = .ok (.aload_n 0, 1) := by decide +kernel
theorem dX4_error_13 : decode cX4_error 13 = .ok (.invokevirtual 91, 3) := by decide +kernel
theorem dX4_error_16 : decode cX4_error 16 = .ok (.iconst 0, 1) := by decide +kernel
theorem dX4_error_17 : decode cX4_error 17 = .ok (.istore_n 2, 1) := by decide +kernel
theorem dX4_error_18 : decode cX4_error 18 = .ok (.iconst 0, 1) := by decide +kernel
theorem dX4_error_19 : decode cX4_error 19 = .ok (.istore_n 3, 1) := by decide +kernel
theorem dX4_error_20 : decode cX4_error 20 = .ok (.iconst 0, 1) := by decide +kernel
theorem dX4_error_21 : decode cX4_error 21 = .ok (.istore 4, 2) := by decide +kernel
theorem dX4_error_23 : decode cX4_error 23 = .ok (.iload 4, 2) := by decide +kernel
theorem dX4_error_25 : decode cX4_error 25 = .ok (.bipush 64, 2) := by decide +kernel
theorem dX4_error_27 : decode cX4_error 27 = .ok (.if_icmp .ge 43, 3) := by decide +kernel
theorem dX4_error_30 : decode cX4_error 30 = .ok (.aload_n 0, 1) := by decide +kernel
theorem dX4_error_31 : decode cX4_error 31 = .ok (.getfield 12, 3) := by decide +kernel
theorem dX4_error_34 : decode cX4_error 34 = .ok (.getfield 54, 3) := by decide +kernel
theorem dX4_error_37 : decode cX4_error 37 = .ok (.iload 4, 2) := by decide +kernel
theorem dX4_error_39 : decode cX4_error 39 = .ok (.iaload, 1) := by decide +kernel
theorem dX4_error_40 : decode cX4_error 40 = .ok (.aload_n 0, 1) := by decide +kernel
theorem dX4_error_41 : decode cX4_error 41 = .ok (.iload 4, 2) := by decide +kernel
theorem dX4_error_43 : decode cX4_error 43 = .ok (.invokevirtual 94, 3) := by decide +kernel
theorem dX4_error_46 : decode cX4_error 46 = .ok (.isub, 1) := by decide +kernel
theorem dX4_error_47 : decode cX4_error 47 = .ok (.invokestatic 98, 3) := by decide +kernel
theorem dX4_error_50 : decode cX4_error 50 = .ok (.istore 5, 2) := by decide +kernel
theorem dX4_error_52 : decode cX4_error 52 = .ok (.iload_n 2, 1) := by decide +kernel
theorem dX4_error_53 : decode cX4_error 53 = .ok (.iload 5, 2) := by decide +kernel
theorem dX4_error_55 : decode cX4_error 55 = .ok (.invokestatic 103, 3) := by decide +kernel
theorem dX4_error_58 : decode cX4_error 58 = .ok (.istore_n 2, 1) := by decide +kernel
theorem dX4_error_59 : decode cX4_error 59 = .ok (.iload_n 3, 1) := by decide +kernel
theorem dX4_error_60 : decode cX4_error 60 = .ok (.iload 5, 2) := by decide +kernel
theorem dX4_error_62 : decode cX4_error 62 = .ok (.iadd, 1) := by decide +kernel
theorem dX4_error_63 : decode cX4_error 63 = .ok (.istore_n 3, 1) := by decide +kernel
theorem dX4_error_64 : decode cX4_error 64 = .ok (.iinc 4 1, 3) := by decide +kernel
theorem dX4_error_67 : decode cX4_error 67 = .ok (.goto (-44), 3) := by decide +kernel
theorem dX4_error_70 : decode cX4_error 70 = .ok (.iload_n 1, 1) := by decide +kernel
theorem dX4_error_71 : decode cX4_error 71 = .ok (.ifCond .ne 7, 3) := by decide +kernel
theorem dX4_error_74 : decode cX4_error 74 = .ok (.iload_n 2, 1) := by decide +kernel
theorem dX4_error_75 : decode cX4_error 75 = .ok (.goto 4, 3) := by decide +kernel
theorem dX4_error_78 : decode cX4_error 78 = .ok (.iload_n 3, 1) := by decide +kernel
theorem dX4_error_79 : decode cX4_error 79 = .ok (.ireturn, 1) := by decide +kernel
set_option maxRecDepth 20000 in
theorem ggX4_paths_X4_isLayer : GoodIn wsX4_paths wsX4_isLayer := goodIn_r _ [5] (by decide +kernel) (by decide +kernel)
set_option maxRecDepth 20000 in
theorem gX4_paths_X4_isLayer : GoodIn wsX4_paths (va_wsS RX4 78 yX4_isLayer wsX4_isLayer) := goodIn_app (goodIn_of _ (by decide +kernel)) ggX4_paths_X4_isLayer
set_option maxRecDepth 20000 in
theorem ggX4_paths_X4_drawnLayer : GoodIn wsX4_paths wsX4_drawnLayer := goodIn_r _ [9, 10, 11, 12, 13, 14, 15, 16, 17, 18, 19, 20, 21, 22, 23, 24, 25, 26, 27, 28, 29, 30, 31, 32, 33, 34, 35, 36, 37, 38, 39, 40, 41, 42, 43, 44, 45, 46, 47, 48, 4, 49, 50, 51, 52, 53, 54, 55, 56, 57, 58, 59, 60, 61, 62, 63, 64, 65, 66, 67, 68, 69, 70, 71, 72, 73, 74, 75, 76, 77, 78, 79, 80, 81, 91, 92, 93, 94, 95, 82, 83, 84, 85, 86, 87, 88, 89, 90, 96, 97, 98, 99] (by decide +kernel) (by decide +kernel)
set_option maxRecDepth 20000 in
theorem gX4_paths_X4_drawnLayer : GoodIn wsX4_paths (wsV RX4 84 RX4 yX4_drawnLayer wsX4_drawnLayer) := goodIn_app (goodIn_of _ (by decide +kernel)) ggX4_paths_X4_drawnLayer
theorem dX4_paths_0 : decode cX4_paths 0 = .ok (.iload_n 1, 1) := by decide +kernel
theorem dX4_paths_1 : decode cX4_paths 1 = .ok (.invokestatic 78, 3) := by decide +kernel
theorem dX4_paths_4 : decode cX4_paths 4 = .ok (.ifCond .eq 14, 3) := by decide +kernel
theorem dX4_paths_7 : decode cX4_paths 7 = .ok (.aload_n 0, 1) := by decide +kernel
theorem dX4_paths_8 : decode cX4_paths 8 = .ok (.iload_n 1, 1) := by decide +kernel
theorem dX4_paths_9 : decode cX4_paths 9 = .ok (.invokevirtual 84, 3) := by decide +kernel
theorem dX4_paths_12 : decode cX4_paths 12 = .ok (.getfield 106, 3) := by decide +kernel
theorem dX4_paths_15 : decode cX4_paths 15 = .ok (.goto 5, 3) := by decide +kernel
theorem dX4_paths_18 : decode cX4_paths 18 = .ok (.bipush (-2), 2) := by decide +kernel
theorem dX4_paths_20 : decode cX4_paths 20 = .ok (.ireturn, 1) := by decide +kernel
set_option maxRecDepth 20000 in
theorem ggX4_path_X4_isLayer : GoodIn wsX4_path wsX4_isLayer := goodIn_r _ [9] (by decide +kernel) (by decide +kernel)
set_option maxRecDepth 20000 in
theorem gX4_path_X4_isLayer : GoodIn wsX4_path (va_wsS RX4 78 yX4_isLayer wsX4_isLayer) := goodIn_app (goodIn_of _ (by decide +kernel)) ggX4_path_X4_isLayer
set_option maxRecDepth 20000 in
theorem ggX4_path_X4_drawnLayer : GoodIn wsX4_path wsX4_drawnLayer := goodIn_r _ [13, 14, 15, 16, 17, 18, 19, 20, 21, 22, 23, 24, 25, 26, 27, 28, 29, 30, 31, 32, 33, 34, 35, 36, 37, 38, 39, 40, 41, 42, 43, 44, 45, 46, 47, 48, 49, 50, 51, 52, 8, 53, 54, 55, 56, 57, 58, 59, 60, 61, 62, 63, 64, 65, 66, 67, 68, 69, 70, 71, 72, 73, 74, 75, 76, 77, 78, 79, 80, 81, 82, 83, 84, 85, 95, 96, 97, 98, 99, 86, 87, 88, 89, 90, 91, 92, 93, 94, 100, 101, 102, 103] (by decide +kernel) (by decide +kernel)
set_option maxRecDepth 20000 in
theorem gX4_path_X4_drawnLayer : GoodIn wsX4_path (wsV RX4 84 RX4 yX4_drawnLayer wsX4_drawnLayer) := goodIn_app (goodIn_of _ (by decide +kernel)) ggX4_path_X4_drawnLayer
theorem dX4_path_0 : decode cX4_path 0 = .ok (.iload_n 1, 1) := by decide +kernel
theorem dX4_path_1 : decode cX4_path 1 = .ok (.invokestatic 78, 3) := by decide +kernel
theorem dX4_path_4 : decode cX4_path 4 = .ok (.ifCond .ne 6, 3) := by decide +kernel
theorem dX4_path_7 : decode cX4_path 7 = .ok (.bipush (-2), 2) := by decide +kernel
theorem dX4_path_9 : decode cX4_path 9 = .ok (.ireturn, 1) := by decide +kernel
theorem dX4_path_10 : decode cX4_path 10 = .ok (.aload_n 0, 1) := by decide +kernel
theorem dX4_path_11 : decode cX4_path 11 = .ok (.iload_n 1, 1) := by decide +kernel
theorem dX4_path_12 : decode cX4_path 12 = .ok (.invokevirtual 84, 3) := by decide +kernel
theorem dX4_path_15 : decode cX4_path 15 = .ok (.astore 4, 2) := by decide +kernel
theorem dX4_path_17 : decode cX4_path 17 = .ok (.iload_n 2, 1) := by decide +kernel
theorem dX4_path_18 : decode cX4_path 18 = .ok (.ifCond .lt 18, 3) := by decide +kernel
theorem dX4_path_21 : decode cX4_path 21 = .ok (.iload_n 2, 1) := by decide +kernel
theorem dX4_path_22 : decode cX4_path 22 = .ok (.aload 4, 2) := by decide +kernel
theorem dX4_path_24 : decode cX4_path 24 = .ok (.getfield 106, 3) := by decide +kernel
theorem dX4_path_27 : decode cX4_path 27 = .ok (.if_icmp .ge 9, 3) := by decide +kernel
theorem dX4_path_30 : decode cX4_path 30 = .ok (.iload_n 2, 1) := by decide +kernel
theorem dX4_path_31 : decode cX4_path 31 = .ok (.bipush 64, 2) := by decide +kernel
theorem dX4_path_33 : decode cX4_path 33 = .ok (.if_icmp .lt 6, 3) := by decide +kernel
theorem dX4_path_36 : decode cX4_path 36 = .ok (.bipush (-2), 2) := by decide +kernel
theorem dX4_path_38 : decode cX4_path 38 = .ok (.ireturn, 1) := by decide +kernel
theorem dX4_path_39 : decode cX4_path 39 = .ok (.iload_n 3, 1) := by decide +kernel
theorem dX4_path_40 : decode cX4_path 40 = .ok (.tableswitch 64 0 3 #[32, 40, 48, 56], 32) := by decide +kernel
theorem dX4_path_72 : decode cX4_path 72 = .ok (.aload 4, 2) := by decide +kernel
theorem dX4_path_74 : decode cX4_path 74 = .ok (.getfield 110, 3) := by decide +kernel
theorem dX4_path_77 : decode cX4_path 77 = .ok (.iload_n 2, 1) := by decide +kernel
theorem dX4_path_78 : decode cX4_path 78 = .ok (.iaload, 1) := by decide +kernel
theorem dX4_path_79 : decode cX4_path 79 = .ok (.ireturn, 1) := by decide +kernel
theorem dX4_path_80 : decode cX4_path 80 = .ok (.aload 4, 2) := by decide +kernel
theorem dX4_path_82 : decode cX4_path 82 = .ok (.getfield 113, 3) := by decide +kernel
theorem dX4_path_85 : decode cX4_path 85 = .ok (.iload_n 2, 1) := by decide +kernel
theorem dX4_path_86 : decode cX4_path 86 = .ok (.iaload, 1) := by decide +kernel
theorem dX4_path_87 : decode cX4_path 87 = .ok (.ireturn, 1) := by decide +kernel
theorem dX4_path_88 : decode cX4_path 88 = .ok (.aload 4, 2) := by decide +kernel
theorem dX4_path_90 : decode cX4_path 90 = .ok (.getfield 116, 3) := by decide +kernel
theorem dX4_path_93 : decode cX4_path 93 = .ok (.iload_n 2, 1) := by decide +kernel
theorem dX4_path_94 : decode cX4_path 94 = .ok (.iaload, 1) := by decide +kernel
theorem dX4_path_95 : decode cX4_path 95 = .ok (.ireturn, 1) := by decide +kernel
theorem dX4_path_96 : decode cX4_path 96 = .ok (.aload 4, 2) := by decide +kernel
theorem dX4_path_98 : decode cX4_path 98 = .ok (.getfield 119, 3) := by decide +kernel
theorem dX4_path_101 : decode cX4_path 101 = .ok (.iload_n 2, 1) := by decide +kernel
theorem dX4_path_102 : decode cX4_path 102 = .ok (.iaload, 1) := by decide +kernel
theorem dX4_path_103 : decode cX4_path 103 = .ok (.ireturn, 1) := by decide +kernel
theorem dX4_path_104 : decode cX4_path 104 = .ok (.bipush (-3), 2) := by decide +kernel
theorem dX4_path_106 : decode cX4_path 106 = .ok (.ireturn, 1) := by decide +kernel
set_option maxRecDepth 20000 in
theorem ggX4_cut_X4_isLayer : GoodIn wsX4_cut wsX4_isLayer := goodIn_r _ [6] (by decide +kernel) (by decide +kernel)
set_option maxRecDepth 20000 in
theorem gX4_cut_X4_isLayer : GoodIn wsX4_cut (va_wsS RX4 78 yX4_isLayer wsX4_isLayer) := goodIn_app (goodIn_of _ (by decide +kernel)) ggX4_cut_X4_isLayer
set_option maxRecDepth 20000 in
theorem ggX4_cut_X4_drawnLayer : GoodIn wsX4_cut wsX4_drawnLayer := goodIn_r _ [10, 11, 12, 13, 14, 15, 16, 17, 18, 19, 20, 21, 22, 23, 24, 25, 26, 27, 28, 29, 30, 31, 32, 33, 34, 35, 36, 37, 38, 39, 40, 41, 42, 43, 44, 45, 46, 47, 48, 49, 5, 50, 51, 52, 53, 54, 55, 56, 57, 58, 59, 60, 61, 62, 63, 64, 65, 66, 67, 68, 69, 70, 71, 72, 73, 74, 75, 76, 77, 78, 79, 80, 81, 82, 109, 110, 111, 112, 113, 119, 120, 121, 122, 123, 124, 125, 126, 127, 128, 129, 130, 131] (by decide +kernel) (by decide +kernel)
set_option maxRecDepth 20000 in
theorem gX4_cut_X4_drawnLayer : GoodIn wsX4_cut (wsV RX4 84 RX4 yX4_drawnLayer wsX4_drawnLayer) := goodIn_app (goodIn_of _ (by decide +kernel)) ggX4_cut_X4_drawnLayer
set_option maxRecDepth 20000 in
theorem ggX4_cut_X0_plan : GoodIn wsX4_cut wsX0_plan := goodIn_r _ [87, 88, 89, 90, 91, 51, 5, 52, 92, 93, 94, 86, 95, 96, 97, 98, 34, 35, 36, 70, 71, 72, 73, 74, 75, 76, 77, 99, 100, 101, 102, 103, 104, 114, 115, 116, 117, 118, 119, 120, 121, 122, 123, 124, 125, 126, 127] (by decide +kernel) (by decide +kernel)
set_option maxRecDepth 20000 in
theorem gX4_cut_X0_plan : GoodIn wsX4_cut (wsV RX4 122 RX0 yX0_plan wsX0_plan) := goodIn_app (goodIn_of _ (by decide +kernel)) ggX4_cut_X0_plan
set_option maxRecDepth 20000 in
theorem ggX4_cut_X0_has : GoodIn wsX4_cut wsX0_has := goodIn_r _ [108, 89, 114, 115, 116, 117, 118] (by decide +kernel) (by decide +kernel)
set_option maxRecDepth 20000 in
theorem gX4_cut_X0_has : GoodIn wsX4_cut (wsV RX4 126 RX0 yX0_has wsX0_has) := goodIn_app (goodIn_of _ (by decide +kernel)) ggX4_cut_X0_has
theorem dX4_cut_0 : decode cX4_cut 0 = .ok (.iload_n 1, 1) := by decide +kernel
theorem dX4_cut_1 : decode cX4_cut 1 = .ok (.invokestatic 78, 3) := by decide +kernel
theorem dX4_cut_4 : decode cX4_cut 4 = .ok (.ifCond .ne 6, 3) := by decide +kernel
theorem dX4_cut_7 : decode cX4_cut 7 = .ok (.bipush (-2), 2) := by decide +kernel
theorem dX4_cut_9 : decode cX4_cut 9 = .ok (.ireturn, 1) := by decide +kernel
theorem dX4_cut_10 : decode cX4_cut 10 = .ok (.aload_n 0, 1) := by decide +kernel
theorem dX4_cut_11 : decode cX4_cut 11 = .ok (.getfield 38, 3) := by decide +kernel
theorem dX4_cut_14 : decode cX4_cut 14 = .ok (.aload_n 0, 1) := by decide +kernel
theorem dX4_cut_15 : decode cX4_cut 15 = .ok (.iload_n 1, 1) := by decide +kernel
theorem dX4_cut_16 : decode cX4_cut 16 = .ok (.invokevirtual 84, 3) := by decide +kernel
theorem dX4_cut_19 : decode cX4_cut 19 = .ok (.invokevirtual 122, 3) := by decide +kernel
theorem dX4_cut_22 : decode cX4_cut 22 = .ok (.aload_n 0, 1) := by decide +kernel
theorem dX4_cut_23 : decode cX4_cut 23 = .ok (.getfield 38, 3) := by decide +kernel
theorem dX4_cut_26 : decode cX4_cut 26 = .ok (.iload_n 2, 1) := by decide +kernel
theorem dX4_cut_27 : decode cX4_cut 27 = .ok (.invokevirtual 126, 3) := by decide +kernel
theorem dX4_cut_30 : decode cX4_cut 30 = .ok (.ifCond .eq 15, 3) := by decide +kernel
theorem dX4_cut_33 : decode cX4_cut 33 = .ok (.aload_n 0, 1) := by decide +kernel
theorem dX4_cut_34 : decode cX4_cut 34 = .ok (.getfield 38, 3) := by decide +kernel
theorem dX4_cut_37 : decode cX4_cut 37 = .ok (.getfield 129, 3) := by decide +kernel
theorem dX4_cut_40 : decode cX4_cut 40 = .ok (.iload_n 2, 1) := by decide +kernel
theorem dX4_cut_41 : decode cX4_cut 41 = .ok (.iaload, 1) := by decide +kernel
theorem dX4_cut_42 : decode cX4_cut 42 = .ok (.goto 5, 3) := by decide +kernel
theorem dX4_cut_45 : decode cX4_cut 45 = .ok (.bipush (-3), 2) := by decide +kernel
theorem dX4_cut_47 : decode cX4_cut 47 = .ok (.ireturn, 1) := by decide +kernel
set_option maxRecDepth 20000 in
theorem ggX4_begin_X4_isLayer : GoodIn wsX4_begin wsX4_isLayer := goodIn_r _ [6] (by decide +kernel) (by decide +kernel)
set_option maxRecDepth 20000 in
theorem gX4_begin_X4_isLayer : GoodIn wsX4_begin (va_wsS RX4 78 yX4_isLayer wsX4_isLayer) := goodIn_app (goodIn_of _ (by decide +kernel)) ggX4_begin_X4_isLayer
set_option maxRecDepth 20000 in
theorem ggX4_begin_X4_drawnLayer : GoodIn wsX4_begin wsX4_drawnLayer := goodIn_r _ [10, 11, 12, 13, 14, 15, 16, 17, 18, 19, 20, 21, 22, 23, 24, 25, 26, 27, 28, 29, 30, 31, 32, 33, 34, 35, 36, 37, 38, 39, 40, 41, 42, 43, 44, 45, 46, 47, 48, 49, 5, 50, 51, 52, 53, 54, 55, 56, 57, 58, 59, 60, 61, 62, 63, 64, 65, 66, 67, 68, 69, 70, 71, 72, 73, 74, 75, 76, 77, 78, 79, 80, 81, 82, 109, 110, 111, 112, 113, 119, 120, 121, 122, 123, 124, 125, 126, 127, 128, 129, 130, 131] (by decide +kernel) (by decide +kernel)
set_option maxRecDepth 20000 in
theorem gX4_begin_X4_drawnLayer : GoodIn wsX4_begin (wsV RX4 84 RX4 yX4_drawnLayer wsX4_drawnLayer) := goodIn_app (goodIn_of _ (by decide +kernel)) ggX4_begin_X4_drawnLayer
set_option maxRecDepth 20000 in
theorem ggX4_begin_X0_plan : GoodIn wsX4_begin wsX0_plan := goodIn_r _ [87, 88, 89, 90, 91, 51, 5, 52, 92, 93, 94, 86, 95, 96, 97, 98, 34, 35, 36, 70, 71, 72, 73, 74, 75, 76, 77, 99, 100, 101, 102, 103, 104, 114, 115, 116, 117, 118, 119, 120, 121, 122, 123, 124, 125, 126, 127] (by decide +kernel) (by decide +kernel)
set_option maxRecDepth 20000 in
theorem gX4_begin_X0_plan : GoodIn wsX4_begin (wsV RX4 122 RX0 yX0_plan wsX0_plan) := goodIn_app (goodIn_of _ (by decide +kernel)) ggX4_begin_X0_plan
set_option maxRecDepth 20000 in
theorem ggX4_begin_X0_has : GoodIn wsX4_begin wsX0_has := goodIn_r _ [108, 89, 114, 115, 116, 117, 118] (by decide +kernel) (by decide +kernel)
set_option maxRecDepth 20000 in
theorem gX4_begin_X0_has : GoodIn wsX4_begin (wsV RX4 126 RX0 yX0_has wsX0_has) := goodIn_app (goodIn_of _ (by decide +kernel)) ggX4_begin_X0_has
theorem dX4_begin_0 : decode cX4_begin 0 = .ok (.iload_n 1, 1) := by decide +kernel
theorem dX4_begin_1 : decode cX4_begin 1 = .ok (.invokestatic 78, 3) := by decide +kernel
theorem dX4_begin_4 : decode cX4_begin 4 = .ok (.ifCond .ne 6, 3) := by decide +kernel
theorem dX4_begin_7 : decode cX4_begin 7 = .ok (.bipush (-2), 2) := by decide +kernel
theorem dX4_begin_9 : decode cX4_begin 9 = .ok (.ireturn, 1) := by decide +kernel
theorem dX4_begin_10 : decode cX4_begin 10 = .ok (.aload_n 0, 1) := by decide +kernel
theorem dX4_begin_11 : decode cX4_begin 11 = .ok (.getfield 38, 3) := by decide +kernel
theorem dX4_begin_14 : decode cX4_begin 14 = .ok (.aload_n 0, 1) := by decide +kernel
theorem dX4_begin_15 : decode cX4_begin 15 = .ok (.iload_n 1, 1) := by decide +kernel
theorem dX4_begin_16 : decode cX4_begin 16 = .ok (.invokevirtual 84, 3) := by decide +kernel
theorem dX4_begin_19 : decode cX4_begin 19 = .ok (.invokevirtual 122, 3) := by decide +kernel
theorem dX4_begin_22 : decode cX4_begin 22 = .ok (.aload_n 0, 1) := by decide +kernel
theorem dX4_begin_23 : decode cX4_begin 23 = .ok (.getfield 38, 3) := by decide +kernel
theorem dX4_begin_26 : decode cX4_begin 26 = .ok (.iload_n 2, 1) := by decide +kernel
theorem dX4_begin_27 : decode cX4_begin 27 = .ok (.invokevirtual 126, 3) := by decide +kernel
theorem dX4_begin_30 : decode cX4_begin 30 = .ok (.ifCond .eq 15, 3) := by decide +kernel
theorem dX4_begin_33 : decode cX4_begin 33 = .ok (.aload_n 0, 1) := by decide +kernel
theorem dX4_begin_34 : decode cX4_begin 34 = .ok (.getfield 38, 3) := by decide +kernel
theorem dX4_begin_37 : decode cX4_begin 37 = .ok (.getfield 132, 3) := by decide +kernel
theorem dX4_begin_40 : decode cX4_begin 40 = .ok (.iload_n 2, 1) := by decide +kernel
theorem dX4_begin_41 : decode cX4_begin 41 = .ok (.iaload, 1) := by decide +kernel
theorem dX4_begin_42 : decode cX4_begin 42 = .ok (.goto 5, 3) := by decide +kernel
theorem dX4_begin_45 : decode cX4_begin 45 = .ok (.bipush (-3), 2) := by decide +kernel
theorem dX4_begin_47 : decode cX4_begin 47 = .ok (.ireturn, 1) := by decide +kernel
set_option maxRecDepth 20000 in
theorem ggX4_air_X4_isLayer : GoodIn wsX4_air wsX4_isLayer := goodIn_r _ [6] (by decide +kernel) (by decide +kernel)
set_option maxRecDepth 20000 in
theorem gX4_air_X4_isLayer : GoodIn wsX4_air (va_wsS RX4 78 yX4_isLayer wsX4_isLayer) := goodIn_app (goodIn_of _ (by decide +kernel)) ggX4_air_X4_isLayer
set_option maxRecDepth 20000 in
theorem ggX4_air_X4_drawnLayer : GoodIn wsX4_air wsX4_drawnLayer := goodIn_r _ [10, 11, 12, 13, 14, 15, 16, 17, 18, 19, 20, 21, 22, 23, 24, 25, 26, 27, 28, 29, 30, 31, 32, 33, 34, 35, 36, 37, 38, 39, 40, 41, 42, 43, 44, 45, 46, 47, 48, 49, 5, 50, 51, 52, 53, 54, 55, 56, 57, 58, 59, 60, 61, 62, 63, 64, 65, 66, 67, 68, 69, 70, 71, 72, 73, 74, 75, 76, 77, 78, 79, 80, 81, 82, 105, 106, 107, 108, 109, 115, 116, 117, 118, 119, 120, 121, 122, 123, 124, 125, 126, 127] (by decide +kernel) (by decide +kernel)
set_option maxRecDepth 20000 in
theorem gX4_air_X4_drawnLayer : GoodIn wsX4_air (wsV RX4 84 RX4 yX4_drawnLayer wsX4_drawnLayer) := goodIn_app (goodIn_of _ (by decide +kernel)) ggX4_air_X4_drawnLayer
set_option maxRecDepth 20000 in
theorem ggX4_air_X0_plan : GoodIn wsX4_air wsX0_plan := goodIn_r _ [87, 88, 89, 90, 91, 51, 5, 52, 92, 93, 94, 86, 95, 96, 97, 98, 34, 35, 36, 70, 71, 72, 73, 74, 75, 76, 77, 99, 100, 101, 102, 103, 104, 110, 111, 112, 113, 114, 115, 116, 117, 118, 119, 120, 121, 122, 123] (by decide +kernel) (by decide +kernel)
set_option maxRecDepth 20000 in
theorem gX4_air_X0_plan : GoodIn wsX4_air (wsV RX4 122 RX0 yX0_plan wsX0_plan) := goodIn_app (goodIn_of _ (by decide +kernel)) ggX4_air_X0_plan
theorem dX4_air_0 : decode cX4_air 0 = .ok (.iload_n 1, 1) := by decide +kernel
theorem dX4_air_1 : decode cX4_air 1 = .ok (.invokestatic 78, 3) := by decide +kernel
theorem dX4_air_4 : decode cX4_air 4 = .ok (.ifCond .ne 6, 3) := by decide +kernel
theorem dX4_air_7 : decode cX4_air 7 = .ok (.bipush (-2), 2) := by decide +kernel
theorem dX4_air_9 : decode cX4_air 9 = .ok (.ireturn, 1) := by decide +kernel
theorem dX4_air_10 : decode cX4_air 10 = .ok (.aload_n 0, 1) := by decide +kernel
theorem dX4_air_11 : decode cX4_air 11 = .ok (.getfield 38, 3) := by decide +kernel
theorem dX4_air_14 : decode cX4_air 14 = .ok (.aload_n 0, 1) := by decide +kernel
theorem dX4_air_15 : decode cX4_air 15 = .ok (.iload_n 1, 1) := by decide +kernel
theorem dX4_air_16 : decode cX4_air 16 = .ok (.invokevirtual 84, 3) := by decide +kernel
theorem dX4_air_19 : decode cX4_air 19 = .ok (.invokevirtual 122, 3) := by decide +kernel
theorem dX4_air_22 : decode cX4_air 22 = .ok (.aload_n 0, 1) := by decide +kernel
theorem dX4_air_23 : decode cX4_air 23 = .ok (.getfield 38, 3) := by decide +kernel
theorem dX4_air_26 : decode cX4_air 26 = .ok (.getfield 135, 3) := by decide +kernel
theorem dX4_air_29 : decode cX4_air 29 = .ok (.ireturn, 1) := by decide +kernel
set_option maxRecDepth 20000 in
theorem ggX4_count_X2_countToned : GoodIn wsX4_count wsX2_countToned := goodIn_r _ [6, 7, 53, 54, 55] (by decide +kernel) (by decide +kernel)
set_option maxRecDepth 20000 in
theorem gX4_count_X2_countToned : GoodIn wsX4_count (wsV RX4 138 RX2 yX2_countToned wsX2_countToned) := goodIn_app (goodIn_of _ (by decide +kernel)) ggX4_count_X2_countToned
set_option maxRecDepth 20000 in
theorem ggX4_count_X2_countTold : GoodIn wsX4_count wsX2_countTold := goodIn_r _ [11, 12, 53, 54, 55] (by decide +kernel) (by decide +kernel)
set_option maxRecDepth 20000 in
theorem gX4_count_X2_countTold : GoodIn wsX4_count (wsV RX4 141 RX2 yX2_countTold wsX2_countTold) := goodIn_app (goodIn_of _ (by decide +kernel)) ggX4_count_X2_countTold
set_option maxRecDepth 20000 in
theorem ggX4_count_X4_countStrokes : GoodIn wsX4_count wsX4_countStrokes := goodIn_r _ [17, 18, 1, 19, 20, 21, 22, 23, 24, 25, 26, 27, 28, 29, 48, 49, 50, 51, 52, 53, 54, 55, 56] (by decide +kernel) (by decide +kernel)
set_option maxRecDepth 20000 in
theorem gX4_count_X4_countStrokes : GoodIn wsX4_count (wsV RX4 144 RX4 yX4_countStrokes wsX4_countStrokes) := goodIn_app (goodIn_of _ (by decide +kernel)) ggX4_count_X4_countStrokes
set_option maxRecDepth 20000 in
theorem ggX4_count_X2_countKnots : GoodIn wsX4_count wsX2_countKnots := goodIn_r _ [33, 34, 35, 36, 5, 37, 38, 39, 16, 40, 41, 42, 43, 44, 45, 46, 47, 53, 54, 55] (by decide +kernel) (by decide +kernel)
set_option maxRecDepth 20000 in
theorem gX4_count_X2_countKnots : GoodIn wsX4_count (wsV RX4 147 RX2 yX2_countKnots wsX2_countKnots) := goodIn_app (goodIn_of _ (by decide +kernel)) ggX4_count_X2_countKnots
theorem dX4_count_0 : decode cX4_count 0 = .ok (.iload_n 1, 1) := by decide +kernel
theorem dX4_count_1 : decode cX4_count 1 = .ok (.tableswitch 71 0 4 #[35, 43, 51, 57, 63], 35) := by decide +kernel
theorem dX4_count_36 : decode cX4_count 36 = .ok (.aload_n 0, 1) := by decide +kernel
theorem dX4_count_37 : decode cX4_count 37 = .ok (.getfield 12, 3) := by decide +kernel
theorem dX4_count_40 : decode cX4_count 40 = .ok (.invokevirtual 138, 3) := by decide +kernel
theorem dX4_count_43 : decode cX4_count 43 = .ok (.ireturn, 1) := by decide +kernel
theorem dX4_count_44 : decode cX4_count 44 = .ok (.aload_n 0, 1) := by decide +kernel
theorem dX4_count_45 : decode cX4_count 45 = .ok (.getfield 12, 3) := by decide +kernel
theorem dX4_count_48 : decode cX4_count 48 = .ok (.invokevirtual 141, 3) := by decide +kernel
theorem dX4_count_51 : decode cX4_count 51 = .ok (.ireturn, 1) := by decide +kernel
theorem dX4_count_52 : decode cX4_count 52 = .ok (.aload_n 0, 1) := by decide +kernel
theorem dX4_count_53 : decode cX4_count 53 = .ok (.iconst 0, 1) := by decide +kernel
theorem dX4_count_54 : decode cX4_count 54 = .ok (.invokevirtual 144, 3) := by decide +kernel
theorem dX4_count_57 : decode cX4_count 57 = .ok (.ireturn, 1) := by decide +kernel
theorem dX4_count_58 : decode cX4_count 58 = .ok (.aload_n 0, 1) := by decide +kernel
theorem dX4_count_59 : decode cX4_count 59 = .ok (.iconst 1, 1) := by decide +kernel
theorem dX4_count_60 : decode cX4_count 60 = .ok (.invokevirtual 144, 3) := by decide +kernel
theorem dX4_count_63 : decode cX4_count 63 = .ok (.ireturn, 1) := by decide +kernel
theorem dX4_count_64 : decode cX4_count 64 = .ok (.aload_n 0, 1) := by decide +kernel
theorem dX4_count_65 : decode cX4_count 65 = .ok (.getfield 12, 3) := by decide +kernel
theorem dX4_count_68 : decode cX4_count 68 = .ok (.invokevirtual 147, 3) := by decide +kernel
theorem dX4_count_71 : decode cX4_count 71 = .ok (.ireturn, 1) := by decide +kernel
theorem dX4_count_72 : decode cX4_count 72 = .ok (.bipush (-3), 2) := by decide +kernel
theorem dX4_count_74 : decode cX4_count 74 = .ok (.ireturn, 1) := by decide +kernel
theorem dX4_isCell_0 : decode cX4_isCell 0 = .ok (.iload_n 0, 1) := by decide +kernel
theorem dX4_isCell_1 : decode cX4_isCell 1 = .ok (.ifCond .lt 23, 3) := by decide +kernel
theorem dX4_isCell_4 : decode cX4_isCell 4 = .ok (.iload_n 0, 1) := by decide +kernel
theorem dX4_isCell_5 : decode cX4_isCell 5 = .ok (.bipush 8, 2) := by decide +kernel
theorem dX4_isCell_7 : decode cX4_isCell 7 = .ok (.if_icmp .ge 17, 3) := by decide +kernel
theorem dX4_isCell_10 : decode cX4_isCell 10 = .ok (.iload_n 1, 1) := by decide +kernel
theorem dX4_isCell_11 : decode cX4_isCell 11 = .ok (.ifCond .lt 13, 3) := by decide +kernel
theorem dX4_isCell_14 : decode cX4_isCell 14 = .ok (.iload_n 1, 1) := by decide +kernel
theorem dX4_isCell_15 : decode cX4_isCell 15 = .ok (.bipush 8, 2) := by decide +kernel
theorem dX4_isCell_17 : decode cX4_isCell 17 = .ok (.if_icmp .ge 7, 3) := by decide +kernel
theorem dX4_isCell_20 : decode cX4_isCell 20 = .ok (.iconst 1, 1) := by decide +kernel
theorem dX4_isCell_21 : decode cX4_isCell 21 = .ok (.goto 4, 3) := by decide +kernel
theorem dX4_isCell_24 : decode cX4_isCell 24 = .ok (.iconst 0, 1) := by decide +kernel
theorem dX4_isCell_25 : decode cX4_isCell 25 = .ok (.ireturn, 1) := by decide +kernel
theorem dX4_isBlock_0 : decode cX4_isBlock 0 = .ok (.iload_n 0, 1) := by decide +kernel
theorem dX4_isBlock_1 : decode cX4_isBlock 1 = .ok (.ifCond .lt 23, 3) := by decide +kernel
theorem dX4_isBlock_4 : decode cX4_isBlock 4 = .ok (.iload_n 0, 1) := by decide +kernel
theorem dX4_isBlock_5 : decode cX4_isBlock 5 = .ok (.bipush 7, 2) := by decide +kernel
theorem dX4_isBlock_7 : decode cX4_isBlock 7 = .ok (.if_icmp .ge 17, 3) := by decide +kernel
theorem dX4_isBlock_10 : decode cX4_isBlock 10 = .ok (.iload_n 1, 1) := by decide +kernel
theorem dX4_isBlock_11 : decode cX4_isBlock 11 = .ok (.ifCond .lt 13, 3) := by decide +kernel
theorem dX4_isBlock_14 : decode cX4_isBlock 14 = .ok (.iload_n 1, 1) := by decide +kernel
theorem dX4_isBlock_15 : decode cX4_isBlock 15 = .ok (.bipush 7, 2) := by decide +kernel
theorem dX4_isBlock_17 : decode cX4_isBlock 17 = .ok (.if_icmp .ge 7, 3) := by decide +kernel
theorem dX4_isBlock_20 : decode cX4_isBlock 20 = .ok (.iconst 1, 1) := by decide +kernel
theorem dX4_isBlock_21 : decode cX4_isBlock 21 = .ok (.goto 4, 3) := by decide +kernel
theorem dX4_isBlock_24 : decode cX4_isBlock 24 = .ok (.iconst 0, 1) := by decide +kernel
theorem dX4_isBlock_25 : decode cX4_isBlock 25 = .ok (.ireturn, 1) := by decide +kernel
theorem dX4_isLayer_0 : decode cX4_isLayer 0 = .ok (.iload_n 0, 1) := by decide +kernel
theorem dX4_isLayer_1 : decode cX4_isLayer 1 = .ok (.ifCond .eq 8, 3) := by decide +kernel
theorem dX4_isLayer_4 : decode cX4_isLayer 4 = .ok (.iload_n 0, 1) := by decide +kernel
theorem dX4_isLayer_5 : decode cX4_isLayer 5 = .ok (.iconst 1, 1) := by decide +kernel
theorem dX4_isLayer_6 : decode cX4_isLayer 6 = .ok (.if_icmp .ne 7, 3) := by decide +kernel
theorem dX4_isLayer_9 : decode cX4_isLayer 9 = .ok (.iconst 1, 1) := by decide +kernel
theorem dX4_isLayer_10 : decode cX4_isLayer 10 = .ok (.goto 4, 3) := by decide +kernel
theorem dX4_isLayer_13 : decode cX4_isLayer 13 = .ok (.iconst 0, 1) := by decide +kernel
theorem dX4_isLayer_14 : decode cX4_isLayer 14 = .ok (.ireturn, 1) := by decide +kernel
theorem dX4_isTone_0 : decode cX4_isTone 0 = .ok (.iload_n 0, 1) := by decide +kernel
theorem dX4_isTone_1 : decode cX4_isTone 1 = .ok (.ifCond .lt 13, 3) := by decide +kernel
theorem dX4_isTone_4 : decode cX4_isTone 4 = .ok (.iload_n 0, 1) := by decide +kernel
theorem dX4_isTone_5 : decode cX4_isTone 5 = .ok (.bipush 100, 2) := by decide +kernel
theorem dX4_isTone_7 : decode cX4_isTone 7 = .ok (.if_icmp .gt 7, 3) := by decide +kernel
theorem dX4_isTone_10 : decode cX4_isTone 10 = .ok (.iconst 1, 1) := by decide +kernel
theorem dX4_isTone_11 : decode cX4_isTone 11 = .ok (.goto 4, 3) := by decide +kernel
theorem dX4_isTone_14 : decode cX4_isTone 14 = .ok (.iconst 0, 1) := by decide +kernel
theorem dX4_isTone_15 : decode cX4_isTone 15 = .ok (.ireturn, 1) := by decide +kernel
theorem dX4_cellOf_0 : decode cX4_cellOf 0 = .ok (.bipush 8, 2) := by decide +kernel
theorem dX4_cellOf_2 : decode cX4_cellOf 2 = .ok (.iload_n 1, 1) := by decide +kernel
theorem dX4_cellOf_3 : decode cX4_cellOf 3 = .ok (.imul, 1) := by decide +kernel
theorem dX4_cellOf_4 : decode cX4_cellOf 4 = .ok (.iload_n 0, 1) := by decide +kernel
theorem dX4_cellOf_5 : decode cX4_cellOf 5 = .ok (.iadd, 1) := by decide +kernel
theorem dX4_cellOf_6 : decode cX4_cellOf 6 = .ok (.ireturn, 1) := by decide +kernel
theorem dX4_wayBetween_0 : decode cX4_wayBetween 0 = .ok (.iload_n 0, 1) := by decide +kernel
theorem dX4_wayBetween_1 : decode cX4_wayBetween 1 = .ok (.bipush 8, 2) := by decide +kernel
theorem dX4_wayBetween_3 : decode cX4_wayBetween 3 = .ok (.irem, 1) := by decide +kernel
theorem dX4_wayBetween_4 : decode cX4_wayBetween 4 = .ok (.iload_n 1, 1) := by decide +kernel
theorem dX4_wayBetween_5 : decode cX4_wayBetween 5 = .ok (.bipush 8, 2) := by decide +kernel
theorem dX4_wayBetween_7 : decode cX4_wayBetween 7 = .ok (.irem, 1) := by decide +kernel
theorem dX4_wayBetween_8 : decode cX4_wayBetween 8 = .ok (.isub, 1) := by decide +kernel
theorem dX4_wayBetween_9 : decode cX4_wayBetween 9 = .ok (.invokestatic 98, 3) := by decide +kernel
theorem dX4_wayBetween_12 : decode cX4_wayBetween 12 = .ok (.istore_n 2, 1) := by decide +kernel
theorem dX4_wayBetween_13 : decode cX4_wayBetween 13 = .ok (.iload_n 0, 1) := by decide +kernel
theorem dX4_wayBetween_14 : decode cX4_wayBetween 14 = .ok (.bipush 8, 2) := by decide +kernel
theorem dX4_wayBetween_16 : decode cX4_wayBetween 16 = .ok (.idiv, 1) := by decide +kernel
theorem dX4_wayBetween_17 : decode cX4_wayBetween 17 = .ok (.iload_n 1, 1) := by decide +kernel
theorem dX4_wayBetween_18 : decode cX4_wayBetween 18 = .ok (.bipush 8, 2) := by decide +kernel
theorem dX4_wayBetween_20 : decode cX4_wayBetween 20 = .ok (.idiv, 1) := by decide +kernel
theorem dX4_wayBetween_21 : decode cX4_wayBetween 21 = .ok (.isub, 1) := by decide +kernel
theorem dX4_wayBetween_22 : decode cX4_wayBetween 22 = .ok (.invokestatic 98, 3) := by decide +kernel
theorem dX4_wayBetween_25 : decode cX4_wayBetween 25 = .ok (.istore_n 3, 1) := by decide +kernel
theorem dX4_wayBetween_26 : decode cX4_wayBetween 26 = .ok (.iload_n 2, 1) := by decide +kernel
theorem dX4_wayBetween_27 : decode cX4_wayBetween 27 = .ok (.iload_n 3, 1) := by decide +kernel
theorem dX4_wayBetween_28 : decode cX4_wayBetween 28 = .ok (.invokestatic 103, 3) := by decide +kernel
theorem dX4_wayBetween_31 : decode cX4_wayBetween 31 = .ok (.ireturn, 1) := by decide +kernel
set_option maxRecDepth 20000 in
theorem ggX4_drawnLayer_X1_draw : GoodIn wsX4_drawnLayer wsX1_draw := goodIn_r _ [9, 10, 11, 12, 13, 14, 15, 16, 17, 18, 19, 20, 21, 22, 23, 24, 25, 26, 27, 28, 29, 8, 30, 31, 32, 33, 34, 35, 36, 37, 38, 39, 40, 41, 42, 43, 44, 45, 46, 47, 48, 49, 50, 51, 52, 53, 54, 55, 56, 57, 58, 59, 60, 61, 62, 63, 64, 65, 66, 67, 68, 69, 70, 71, 72, 73, 79, 80, 81, 82, 83, 84, 85, 86, 87, 88, 89, 90, 91] (by decide +kernel) (by decide +kernel)
set_option maxRecDepth 20000 in
theorem gX4_drawnLayer_X1_draw : GoodIn wsX4_drawnLayer (wsV RX4 150 RX1 yX1_draw wsX1_draw) := goodIn_app (goodIn_of _ (by decide +kernel)) ggX4_drawnLayer_X1_draw
theorem dX4_drawnLayer_0 : decode cX4_drawnLayer 0 = .ok (.iload_n 1, 1) := by decide +kernel
theorem dX4_drawnLayer_1 : decode cX4_drawnLayer 1 = .ok (.ifCond .ne 10, 3) := by decide +kernel
theorem dX4_drawnLayer_4 : decode cX4_drawnLayer 4 = .ok (.aload_n 0, 1) := by decide +kernel
theorem dX4_drawnLayer_5 : decode cX4_drawnLayer 5 = .ok (.getfield 28, 3) := by decide +kernel
theorem dX4_drawnLayer_8 : decode cX4_drawnLayer 8 = .ok (.goto 7, 3) := by decide +kernel
theorem dX4_drawnLayer_11 : decode cX4_drawnLayer 11 = .ok (.aload_n 0, 1) := by decide +kernel
theorem dX4_drawnLayer_12 : decode cX4_drawnLayer 12 = .ok (.getfield 32, 3) := by decide +kernel
theorem dX4_drawnLayer_15 : decode cX4_drawnLayer 15 = .ok (.astore_n 2, 1) := by decide +kernel
theorem dX4_drawnLayer_16 : decode cX4_drawnLayer 16 = .ok (.aload_n 2, 1) := by decide +kernel
theorem dX4_drawnLayer_17 : decode cX4_drawnLayer 17 = .ok (.aload_n 0, 1) := by decide +kernel
theorem dX4_drawnLayer_18 : decode cX4_drawnLayer 18 = .ok (.getfield 12, 3) := by decide +kernel
theorem dX4_drawnLayer_21 : decode cX4_drawnLayer 21 = .ok (.aload_n 0, 1) := by decide +kernel
theorem dX4_drawnLayer_22 : decode cX4_drawnLayer 22 = .ok (.getfield 19, 3) := by decide +kernel
theorem dX4_drawnLayer_25 : decode cX4_drawnLayer 25 = .ok (.invokevirtual 150, 3) := by decide +kernel
theorem dX4_drawnLayer_28 : decode cX4_drawnLayer 28 = .ok (.aload_n 2, 1) := by decide +kernel
theorem dX4_drawnLayer_29 : decode cX4_drawnLayer 29 = .ok (.areturn, 1) := by decide +kernel
set_option maxRecDepth 20000 in
theorem ggX4_drawBothLayers_X1_draw : GoodIn wsX4_drawBothLayers wsX1_draw := goodIn_r _ [9, 10, 11, 12, 13, 14, 15, 16, 17, 18, 19, 20, 21, 22, 23, 24, 25, 26, 27, 28, 29, 8, 30, 31, 32, 33, 34, 35, 36, 37, 38, 39, 40, 41, 42, 43, 44, 45, 46, 47, 48, 49, 50, 51, 52, 53, 54, 55, 56, 57, 58, 59, 60, 61, 62, 63, 64, 65, 66, 67, 68, 69, 70, 71, 72, 73, 79, 80, 81, 82, 83, 84, 85, 86, 87, 88, 89, 90, 91] (by decide +kernel) (by decide +kernel)
set_option maxRecDepth 20000 in
theorem gX4_drawBothLayers_X1_draw : GoodIn wsX4_drawBothLayers (wsV RX4 150 RX1 yX1_draw wsX1_draw) := goodIn_app (goodIn_of _ (by decide +kernel)) ggX4_drawBothLayers_X1_draw
theorem dX4_drawBothLayers_0 : decode cX4_drawBothLayers 0 = .ok (.aload_n 0, 1) := by decide +kernel
theorem dX4_drawBothLayers_1 : decode cX4_drawBothLayers 1 = .ok (.getfield 28, 3) := by decide +kernel
theorem dX4_drawBothLayers_4 : decode cX4_drawBothLayers 4 = .ok (.aload_n 0, 1) := by decide +kernel
theorem dX4_drawBothLayers_5 : decode cX4_drawBothLayers 5 = .ok (.getfield 12, 3) := by decide +kernel
theorem dX4_drawBothLayers_8 : decode cX4_drawBothLayers 8 = .ok (.aload_n 0, 1) := by decide +kernel
theorem dX4_drawBothLayers_9 : decode cX4_drawBothLayers 9 = .ok (.getfield 19, 3) := by decide +kernel
theorem dX4_drawBothLayers_12 : decode cX4_drawBothLayers 12 = .ok (.invokevirtual 150, 3) := by decide +kernel
theorem dX4_drawBothLayers_15 : decode cX4_drawBothLayers 15 = .ok (.aload_n 0, 1) := by decide +kernel
theorem dX4_drawBothLayers_16 : decode cX4_drawBothLayers 16 = .ok (.getfield 32, 3) := by decide +kernel
theorem dX4_drawBothLayers_19 : decode cX4_drawBothLayers 19 = .ok (.aload_n 0, 1) := by decide +kernel
theorem dX4_drawBothLayers_20 : decode cX4_drawBothLayers 20 = .ok (.getfield 12, 3) := by decide +kernel
theorem dX4_drawBothLayers_23 : decode cX4_drawBothLayers 23 = .ok (.aload_n 0, 1) := by decide +kernel
theorem dX4_drawBothLayers_24 : decode cX4_drawBothLayers 24 = .ok (.getfield 19, 3) := by decide +kernel
theorem dX4_drawBothLayers_27 : decode cX4_drawBothLayers 27 = .ok (.invokevirtual 150, 3) := by decide +kernel
theorem dX4_drawBothLayers_30 : decode cX4_drawBothLayers 30 = .ok (.return_, 1) := by decide +kernel
set_option maxRecDepth 20000 in
theorem ggX4_toneMade_X3_toneOf : GoodIn wsX4_toneMade wsX3_toneOf := goodIn_r _ [9, 10, 25] (by decide +kernel) (by decide +kernel)
set_option maxRecDepth 20000 in
theorem gX4_toneMade_X3_toneOf : GoodIn wsX4_toneMade (wsV RX4 154 RX3 yX3_toneOf wsX3_toneOf) := goodIn_app (goodIn_of _ (by decide +kernel)) ggX4_toneMade_X3_toneOf
theorem dX4_toneMade_0 : decode cX4_toneMade 0 = .ok (.aload_n 0, 1) := by decide +kernel
theorem dX4_toneMade_1 : decode cX4_toneMade 1 = .ok (.getfield 19, 3) := by decide +kernel
theorem dX4_toneMade_4 : decode cX4_toneMade 4 = .ok (.aload_n 0, 1) := by decide +kernel
theorem dX4_toneMade_5 : decode cX4_toneMade 5 = .ok (.getfield 28, 3) := by decide +kernel
theorem dX4_toneMade_8 : decode cX4_toneMade 8 = .ok (.getfield 88, 3) := by decide +kernel
theorem dX4_toneMade_11 : decode cX4_toneMade 11 = .ok (.iload_n 1, 1) := by decide +kernel
theorem dX4_toneMade_12 : decode cX4_toneMade 12 = .ok (.iaload, 1) := by decide +kernel
theorem dX4_toneMade_13 : decode cX4_toneMade 13 = .ok (.aload_n 0, 1) := by decide +kernel
theorem dX4_toneMade_14 : decode cX4_toneMade 14 = .ok (.getfield 32, 3) := by decide +kernel
theorem dX4_toneMade_17 : decode cX4_toneMade 17 = .ok (.getfield 88, 3) := by decide +kernel
theorem dX4_toneMade_20 : decode cX4_toneMade 20 = .ok (.iload_n 1, 1) := by decide +kernel
theorem dX4_toneMade_21 : decode cX4_toneMade 21 = .ok (.iaload, 1) := by decide +kernel
theorem dX4_toneMade_22 : decode cX4_toneMade 22 = .ok (.iadd, 1) := by decide +kernel
theorem dX4_toneMade_23 : decode cX4_toneMade 23 = .ok (.invokevirtual 154, 3) := by decide +kernel
theorem dX4_toneMade_26 : decode cX4_toneMade 26 = .ok (.ireturn, 1) := by decide +kernel
set_option maxRecDepth 20000 in
theorem ggX4_countStrokes_X3_widthFor : GoodIn wsX4_countStrokes wsX3_widthFor := goodIn_r _ [8, 9, 10, 11, 12, 13, 22] (by decide +kernel) (by decide +kernel)
set_option maxRecDepth 20000 in
theorem gX4_countStrokes_X3_widthFor : GoodIn wsX4_countStrokes (wsV RX4 81 RX3 yX3_widthFor wsX3_widthFor) := goodIn_app (goodIn_of _ (by decide +kernel)) ggX4_countStrokes_X3_widthFor
theorem dX4_countStrokes_0 : decode cX4_countStrokes 0 = .ok (.iconst 0, 1) := by decide +kernel
theorem dX4_countStrokes_1 : decode cX4_countStrokes 1 = .ok (.istore_n 2, 1) := by decide +kernel
theorem dX4_countStrokes_2 : decode cX4_countStrokes 2 = .ok (.iconst 0, 1) := by decide +kernel
theorem dX4_countStrokes_3 : decode cX4_countStrokes 3 = .ok (.istore_n 3, 1) := by decide +kernel
theorem dX4_countStrokes_4 : decode cX4_countStrokes 4 = .ok (.iload_n 3, 1) := by decide +kernel
theorem dX4_countStrokes_5 : decode cX4_countStrokes 5 = .ok (.bipush 64, 2) := by decide +kernel
theorem dX4_countStrokes_7 : decode cX4_countStrokes 7 = .ok (.if_icmp .ge 32, 3) := by decide +kernel
theorem dX4_countStrokes_10 : decode cX4_countStrokes 10 = .ok (.aload_n 0, 1) := by decide +kernel
theorem dX4_countStrokes_11 : decode cX4_countStrokes 11 = .ok (.getfield 19, 3) := by decide +kernel
theorem dX4_countStrokes_14 : decode cX4_countStrokes 14 = .ok (.aload_n 0, 1) := by decide +kernel
theorem dX4_countStrokes_15 : decode cX4_countStrokes 15 = .ok (.getfield 12, 3) := by decide +kernel
theorem dX4_countStrokes_18 : decode cX4_countStrokes 18 = .ok (.getfield 54, 3) := by decide +kernel
theorem dX4_countStrokes_21 : decode cX4_countStrokes 21 = .ok (.iload_n 3, 1) := by decide +kernel
theorem dX4_countStrokes_22 : decode cX4_countStrokes 22 = .ok (.iaload, 1) := by decide +kernel
theorem dX4_countStrokes_23 : decode cX4_countStrokes 23 = .ok (.iload_n 1, 1) := by decide +kernel
theorem dX4_countStrokes_24 : decode cX4_countStrokes 24 = .ok (.invokevirtual 81, 3) := by decide +kernel
theorem dX4_countStrokes_27 : decode cX4_countStrokes 27 = .ok (.ifCond .le 6, 3) := by decide +kernel
theorem dX4_countStrokes_30 : decode cX4_countStrokes 30 = .ok (.iinc 2 1, 3) := by decide +kernel
