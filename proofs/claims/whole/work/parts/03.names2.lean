theorem dX5_applyOne_28 : decode cX5_applyOne 28 = .ok (.getfield 22, 3) := by decide +kernel
theorem dX5_applyOne_31 : decode cX5_applyOne 31 = .ok (.iload_n 2, 1) := by decide +kernel
theorem dX5_applyOne_32 : decode cX5_applyOne 32 = .ok (.iaload, 1) := by decide +kernel
theorem dX5_applyOne_33 : decode cX5_applyOne 33 = .ok (.iadd, 1) := by decide +kernel
theorem dX5_applyOne_34 : decode cX5_applyOne 34 = .ok (.ldc 37, 2) := by decide +kernel
theorem dX5_applyOne_36 : decode cX5_applyOne 36 = .ok (.invokestatic 38, 3) := by decide +kernel
theorem dX5_applyOne_39 : decode cX5_applyOne 39 = .ok (.iastore, 1) := by decide +kernel
theorem dX5_applyOne_40 : decode cX5_applyOne 40 = .ok (.goto 24, 3) := by decide +kernel
theorem dX5_applyOne_43 : decode cX5_applyOne 43 = .ok (.aload_n 1, 1) := by decide +kernel
theorem dX5_applyOne_44 : decode cX5_applyOne 44 = .ok (.iload_n 3, 1) := by decide +kernel
theorem dX5_applyOne_45 : decode cX5_applyOne 45 = .ok (.iconst 1, 1) := by decide +kernel
theorem dX5_applyOne_46 : decode cX5_applyOne 46 = .ok (.invokevirtual 44, 3) := by decide +kernel
theorem dX5_applyOne_49 : decode cX5_applyOne 49 = .ok (.ifCond .eq 15, 3) := by decide +kernel
theorem dX5_applyOne_52 : decode cX5_applyOne 52 = .ok (.aload_n 1, 1) := by decide +kernel
theorem dX5_applyOne_53 : decode cX5_applyOne 53 = .ok (.getfield 48, 3) := by decide +kernel
theorem dX5_applyOne_56 : decode cX5_applyOne 56 = .ok (.iload_n 3, 1) := by decide +kernel
theorem dX5_applyOne_57 : decode cX5_applyOne 57 = .ok (.aload_n 0, 1) := by decide +kernel
theorem dX5_applyOne_58 : decode cX5_applyOne 58 = .ok (.getfield 22, 3) := by decide +kernel
theorem dX5_applyOne_61 : decode cX5_applyOne 61 = .ok (.iload_n 2, 1) := by decide +kernel
theorem dX5_applyOne_62 : decode cX5_applyOne 62 = .ok (.iaload, 1) := by decide +kernel
theorem dX5_applyOne_63 : decode cX5_applyOne 63 = .ok (.iastore, 1) := by decide +kernel
theorem dX5_applyOne_64 : decode cX5_applyOne 64 = .ok (.return_, 1) := by decide +kernel
set_option maxRecDepth 20000 in
theorem ggX6_init_X0_init : GoodIn wsX6_init wsX0_init := goodIn_r _ [36, 37, 2, 3, 38, 39, 30, 40, 41, 42, 43, 44, 45, 46, 47, 48, 49, 99, 100, 101, 102, 103, 104, 105, 106] (by decide +kernel) (by decide +kernel)
set_option maxRecDepth 20000 in
theorem gX6_init_X0_init : GoodIn wsX6_init (wsX0_init) := ggX6_init_X0_init
set_option maxRecDepth 20000 in
theorem ggX6_init_X2_init : GoodIn wsX6_init wsX2_init := goodIn_r _ [51, 52, 2, 3, 30, 53, 54, 55, 56, 57, 58, 118, 119, 120, 121, 122, 123] (by decide +kernel) (by decide +kernel)
set_option maxRecDepth 20000 in
theorem gX6_init_X2_init_n21 : GoodIn wsX6_init (wsX2_init) := ggX6_init_X2_init
set_option maxRecDepth 20000 in
theorem ggX6_init_X4_init : GoodIn wsX6_init wsX4_init := goodIn_r _ [60, 61, 2, 3, 62, 30, 63, 64, 124, 125, 126] (by decide +kernel) (by decide +kernel)
set_option maxRecDepth 20000 in
theorem gX6_init_X4_init_n31 : GoodIn wsX6_init (wsX4_init) := ggX6_init_X4_init
set_option maxRecDepth 20000 in
theorem ggX6_init_X1_init : GoodIn wsX6_init wsX1_init := goodIn_r _ [66, 67, 2, 3, 68, 30, 69, 70, 71, 72, 127, 128, 129, 130, 131] (by decide +kernel) (by decide +kernel)
set_option maxRecDepth 20000 in
theorem gX6_init_X1_init_n38 : GoodIn wsX6_init (wsX1_init) := ggX6_init_X1_init
set_option maxRecDepth 20000 in
theorem ggX6_init_X5_init : GoodIn wsX6_init wsX5_init := goodIn_r _ [74, 75, 2, 3, 76, 30, 77, 78, 79, 80, 132, 133, 134, 135, 136] (by decide +kernel) (by decide +kernel)
set_option maxRecDepth 20000 in
theorem gX6_init_X5_init_n45 : GoodIn wsX6_init (wsX5_init) := ggX6_init_X5_init
set_option maxRecDepth 20000 in
theorem ggX6_init_X3_init : GoodIn wsX6_init wsX3_init := goodIn_r _ [82, 83, 2, 3, 84, 30, 85, 86, 87, 88, 137, 138, 139, 140, 141] (by decide +kernel) (by decide +kernel)
set_option maxRecDepth 20000 in
theorem gX6_init_X3_init_n52 : GoodIn wsX6_init (wsX3_init) := ggX6_init_X3_init
set_option maxRecDepth 20000 in
theorem ggX6_init_X2_startFrom : GoodIn wsX6_init wsX2_startFrom := goodIn_r _ [92, 93, 53, 94, 95, 96, 97, 54, 55, 56, 57, 98, 47, 48, 49, 99, 100, 101, 102, 103, 104, 105, 106, 118, 119, 120, 121, 122, 123] (by decide +kernel) (by decide +kernel)
set_option maxRecDepth 20000 in
theorem gX6_init_X2_startFrom : GoodIn wsX6_init (wsV RX6 69 RX2 yX2_startFrom wsX2_startFrom) := goodIn_app (goodIn_of _ (by decide +kernel)) ggX6_init_X2_startFrom
theorem dX6_init_0 : decode cX6_init 0 = .ok (.aload_n 0, 1) := by decide +kernel
theorem dX6_init_1 : decode cX6_init 1 = .ok (.invokespecial 3, 3) := by decide +kernel
theorem dX6_init_4 : decode cX6_init 4 = .ok (.aload_n 0, 1) := by decide +kernel
theorem dX6_init_5 : decode cX6_init 5 = .ok (.new 9, 3) := by decide +kernel
theorem dX6_init_8 : decode cX6_init 8 = .ok (.dup, 1) := by decide +kernel
theorem dX6_init_9 : decode cX6_init 9 = .ok (.invokespecial 11, 3) := by decide +kernel
theorem dX6_init_12 : decode cX6_init 12 = .ok (.putfield 12, 3) := by decide +kernel
theorem dX6_init_15 : decode cX6_init 15 = .ok (.aload_n 0, 1) := by decide +kernel
theorem dX6_init_16 : decode cX6_init 16 = .ok (.new 9, 3) := by decide +kernel
theorem dX6_init_19 : decode cX6_init 19 = .ok (.dup, 1) := by decide +kernel
theorem dX6_init_20 : decode cX6_init 20 = .ok (.invokespecial 11, 3) := by decide +kernel
theorem dX6_init_23 : decode cX6_init 23 = .ok (.putfield 16, 3) := by decide +kernel
theorem dX6_init_26 : decode cX6_init 26 = .ok (.aload_n 0, 1) := by decide +kernel
theorem dX6_init_27 : decode cX6_init 27 = .ok (.new 19, 3) := by decide +kernel
theorem dX6_init_30 : decode cX6_init 30 = .ok (.dup, 1) := by decide +kernel
theorem dX6_init_31 : decode cX6_init 31 = .ok (.invokespecial 21, 3) := by decide +kernel
theorem dX6_init_34 : decode cX6_init 34 = .ok (.putfield 22, 3) := by decide +kernel
theorem dX6_init_37 : decode cX6_init 37 = .ok (.aload_n 0, 1) := by decide +kernel
theorem dX6_init_38 : decode cX6_init 38 = .ok (.new 19, 3) := by decide +kernel
theorem dX6_init_41 : decode cX6_init 41 = .ok (.dup, 1) := by decide +kernel
theorem dX6_init_42 : decode cX6_init 42 = .ok (.invokespecial 21, 3) := by decide +kernel
theorem dX6_init_45 : decode cX6_init 45 = .ok (.putfield 26, 3) := by decide +kernel
theorem dX6_init_48 : decode cX6_init 48 = .ok (.aload_n 0, 1) := by decide +kernel
theorem dX6_init_49 : decode cX6_init 49 = .ok (.new 29, 3) := by decide +kernel
theorem dX6_init_52 : decode cX6_init 52 = .ok (.dup, 1) := by decide +kernel
theorem dX6_init_53 : decode cX6_init 53 = .ok (.invokespecial 31, 3) := by decide +kernel
theorem dX6_init_56 : decode cX6_init 56 = .ok (.putfield 32, 3) := by decide +kernel
theorem dX6_init_59 : decode cX6_init 59 = .ok (.aload_n 0, 1) := by decide +kernel
theorem dX6_init_60 : decode cX6_init 60 = .ok (.new 36, 3) := by decide +kernel
theorem dX6_init_63 : decode cX6_init 63 = .ok (.dup, 1) := by decide +kernel
theorem dX6_init_64 : decode cX6_init 64 = .ok (.invokespecial 38, 3) := by decide +kernel
theorem dX6_init_67 : decode cX6_init 67 = .ok (.putfield 39, 3) := by decide +kernel
theorem dX6_init_70 : decode cX6_init 70 = .ok (.aload_n 0, 1) := by decide +kernel
theorem dX6_init_71 : decode cX6_init 71 = .ok (.new 43, 3) := by decide +kernel
theorem dX6_init_74 : decode cX6_init 74 = .ok (.dup, 1) := by decide +kernel
theorem dX6_init_75 : decode cX6_init 75 = .ok (.invokespecial 45, 3) := by decide +kernel
theorem dX6_init_78 : decode cX6_init 78 = .ok (.putfield 46, 3) := by decide +kernel
theorem dX6_init_81 : decode cX6_init 81 = .ok (.aload_n 0, 1) := by decide +kernel
theorem dX6_init_82 : decode cX6_init 82 = .ok (.new 50, 3) := by decide +kernel
theorem dX6_init_85 : decode cX6_init 85 = .ok (.dup, 1) := by decide +kernel
theorem dX6_init_86 : decode cX6_init 86 = .ok (.invokespecial 52, 3) := by decide +kernel
theorem dX6_init_89 : decode cX6_init 89 = .ok (.putfield 53, 3) := by decide +kernel
theorem dX6_init_92 : decode cX6_init 92 = .ok (.aload_n 0, 1) := by decide +kernel
theorem dX6_init_93 : decode cX6_init 93 = .ok (.bipush 12, 2) := by decide +kernel
theorem dX6_init_95 : decode cX6_init 95 = .ok (.newarray .int, 2) := by decide +kernel
theorem dX6_init_97 : decode cX6_init 97 = .ok (.putfield 57, 3) := by decide +kernel
theorem dX6_init_100 : decode cX6_init 100 = .ok (.aload_n 0, 1) := by decide +kernel
theorem dX6_init_101 : decode cX6_init 101 = .ok (.iconst 0, 1) := by decide +kernel
theorem dX6_init_102 : decode cX6_init 102 = .ok (.putfield 61, 3) := by decide +kernel
theorem dX6_init_105 : decode cX6_init 105 = .ok (.aload_n 0, 1) := by decide +kernel
theorem dX6_init_106 : decode cX6_init 106 = .ok (.iconst 0, 1) := by decide +kernel
theorem dX6_init_107 : decode cX6_init 107 = .ok (.putfield 65, 3) := by decide +kernel
theorem dX6_init_110 : decode cX6_init 110 = .ok (.aload_n 0, 1) := by decide +kernel
theorem dX6_init_111 : decode cX6_init 111 = .ok (.getfield 22, 3) := by decide +kernel
theorem dX6_init_114 : decode cX6_init 114 = .ok (.aload_n 0, 1) := by decide +kernel
theorem dX6_init_115 : decode cX6_init 115 = .ok (.getfield 12, 3) := by decide +kernel
theorem dX6_init_118 : decode cX6_init 118 = .ok (.invokevirtual 69, 3) := by decide +kernel
theorem dX6_init_121 : decode cX6_init 121 = .ok (.return_, 1) := by decide +kernel
set_option maxRecDepth 20000 in
theorem ggX6_fields_X6_isWithin : GoodIn wsX6_fields wsX6_isWithin := goodIn_r _ [7] (by decide +kernel) (by decide +kernel)
set_option maxRecDepth 20000 in
theorem gX6_fields_X6_isWithin : GoodIn wsX6_fields (va_wsS RX6 73 yX6_isWithin wsX6_isWithin) := goodIn_app (goodIn_of _ (by decide +kernel)) ggX6_fields_X6_isWithin
theorem dX6_fields_0 : decode cX6_fields 0 = .ok (.iload_n 1, 1) := by decide +kernel
theorem dX6_fields_1 : decode cX6_fields 1 = .ok (.iconst 2, 1) := by decide +kernel
theorem dX6_fields_2 : decode cX6_fields 2 = .ok (.bipush 12, 2) := by decide +kernel
theorem dX6_fields_4 : decode cX6_fields 4 = .ok (.invokestatic 73, 3) := by decide +kernel
theorem dX6_fields_7 : decode cX6_fields 7 = .ok (.ifCond .eq 10, 3) := by decide +kernel
theorem dX6_fields_10 : decode cX6_fields 10 = .ok (.aload_n 0, 1) := by decide +kernel
theorem dX6_fields_11 : decode cX6_fields 11 = .ok (.getfield 65, 3) := by decide +kernel
theorem dX6_fields_14 : decode cX6_fields 14 = .ok (.ifCond .eq 5, 3) := by decide +kernel
theorem dX6_fields_17 : decode cX6_fields 17 = .ok (.iconst 0, 1) := by decide +kernel
theorem dX6_fields_18 : decode cX6_fields 18 = .ok (.ireturn, 1) := by decide +kernel
theorem dX6_fields_19 : decode cX6_fields 19 = .ok (.aload_n 0, 1) := by decide +kernel
theorem dX6_fields_20 : decode cX6_fields 20 = .ok (.getfield 12, 3) := by decide +kernel
theorem dX6_fields_23 : decode cX6_fields 23 = .ok (.iload_n 1, 1) := by decide +kernel
theorem dX6_fields_24 : decode cX6_fields 24 = .ok (.putfield 77, 3) := by decide +kernel
theorem dX6_fields_27 : decode cX6_fields 27 = .ok (.iconst 1, 1) := by decide +kernel
theorem dX6_fields_28 : decode cX6_fields 28 = .ok (.ireturn, 1) := by decide +kernel
set_option maxRecDepth 20000 in
theorem ggX6_sand_X0_hasField : GoodIn wsX6_sand wsX0_hasField := goodIn_r _ [9, 10, 51, 52, 53, 54, 55, 56, 57, 58] (by decide +kernel) (by decide +kernel)
set_option maxRecDepth 20000 in
theorem gX6_sand_X0_hasField : GoodIn wsX6_sand (wsV RX6 80 RX0 yX0_hasField wsX0_hasField) := goodIn_app (goodIn_of _ (by decide +kernel)) ggX6_sand_X0_hasField
set_option maxRecDepth 20000 in
theorem ggX6_sand_X6_isWithin : GoodIn wsX6_sand wsX6_isWithin := goodIn_r _ [14] (by decide +kernel) (by decide +kernel)
set_option maxRecDepth 20000 in
theorem gX6_sand_X6_isWithin : GoodIn wsX6_sand (va_wsS RX6 73 yX6_isWithin wsX6_isWithin) := goodIn_app (goodIn_of _ (by decide +kernel)) ggX6_sand_X6_isWithin
set_option maxRecDepth 20000 in
theorem ggX6_sand_X6_takeInBegin : GoodIn wsX6_sand wsX6_takeInBegin := goodIn_r _ [18, 19, 20, 2, 21, 22, 23, 24, 25, 26, 27, 28, 29, 30, 31, 32, 33, 34, 35, 36, 37, 38, 39, 40, 41, 42, 43, 44, 45, 46, 47, 48, 49, 50, 51, 52, 53, 54, 55, 56, 57, 58, 59, 60, 61, 62, 63, 64] (by decide +kernel) (by decide +kernel)
set_option maxRecDepth 20000 in
theorem gX6_sand_X6_takeInBegin : GoodIn wsX6_sand (wsV RX6 88 RX6 yX6_takeInBegin wsX6_takeInBegin) := goodIn_app (goodIn_of _ (by decide +kernel)) ggX6_sand_X6_takeInBegin
theorem dX6_sand_0 : decode cX6_sand 0 = .ok (.aload_n 0, 1) := by decide +kernel
theorem dX6_sand_1 : decode cX6_sand 1 = .ok (.getfield 61, 3) := by decide +kernel
theorem dX6_sand_4 : decode cX6_sand 4 = .ok (.ifCond .gt 24, 3) := by decide +kernel
theorem dX6_sand_7 : decode cX6_sand 7 = .ok (.aload_n 0, 1) := by decide +kernel
theorem dX6_sand_8 : decode cX6_sand 8 = .ok (.getfield 12, 3) := by decide +kernel
theorem dX6_sand_11 : decode cX6_sand 11 = .ok (.iload_n 1, 1) := by decide +kernel
theorem dX6_sand_12 : decode cX6_sand 12 = .ok (.invokevirtual 80, 3) := by decide +kernel
theorem dX6_sand_15 : decode cX6_sand 15 = .ok (.ifCond .eq 13, 3) := by decide +kernel
theorem dX6_sand_18 : decode cX6_sand 18 = .ok (.iload_n 2, 1) := by decide +kernel
theorem dX6_sand_19 : decode cX6_sand 19 = .ok (.iconst 0, 1) := by decide +kernel
theorem dX6_sand_20 : decode cX6_sand 20 = .ok (.ldc 84, 2) := by decide +kernel
theorem dX6_sand_22 : decode cX6_sand 22 = .ok (.invokestatic 73, 3) := by decide +kernel
theorem dX6_sand_25 : decode cX6_sand 25 = .ok (.ifCond .ne 5, 3) := by decide +kernel
theorem dX6_sand_28 : decode cX6_sand 28 = .ok (.iconst 0, 1) := by decide +kernel
theorem dX6_sand_29 : decode cX6_sand 29 = .ok (.ireturn, 1) := by decide +kernel
theorem dX6_sand_30 : decode cX6_sand 30 = .ok (.aload_n 0, 1) := by decide +kernel
theorem dX6_sand_31 : decode cX6_sand 31 = .ok (.getfield 12, 3) := by decide +kernel
theorem dX6_sand_34 : decode cX6_sand 34 = .ok (.getfield 85, 3) := by decide +kernel
theorem dX6_sand_37 : decode cX6_sand 37 = .ok (.iload_n 1, 1) := by decide +kernel
theorem dX6_sand_38 : decode cX6_sand 38 = .ok (.iload_n 2, 1) := by decide +kernel
theorem dX6_sand_39 : decode cX6_sand 39 = .ok (.iastore, 1) := by decide +kernel
theorem dX6_sand_40 : decode cX6_sand 40 = .ok (.aload_n 0, 1) := by decide +kernel
theorem dX6_sand_41 : decode cX6_sand 41 = .ok (.invokevirtual 88, 3) := by decide +kernel
theorem dX6_sand_44 : decode cX6_sand 44 = .ok (.iconst 1, 1) := by decide +kernel
theorem dX6_sand_45 : decode cX6_sand 45 = .ok (.ireturn, 1) := by decide +kernel
set_option maxRecDepth 20000 in
theorem ggX6_groyne_X0_liesBetweenFields : GoodIn wsX6_groyne wsX0_liesBetweenFields := goodIn_r _ [7, 8, 56, 57, 58, 59, 60, 61, 62, 63] (by decide +kernel) (by decide +kernel)
set_option maxRecDepth 20000 in
theorem gX6_groyne_X0_liesBetweenFields : GoodIn wsX6_groyne (wsV RX6 91 RX0 yX0_liesBetweenFields wsX0_liesBetweenFields) := goodIn_app (goodIn_of _ (by decide +kernel)) ggX6_groyne_X0_liesBetweenFields
set_option maxRecDepth 20000 in
theorem ggX6_groyne_X6_isWithin : GoodIn wsX6_groyne wsX6_isWithin := goodIn_r _ [12] (by decide +kernel) (by decide +kernel)
set_option maxRecDepth 20000 in
theorem gX6_groyne_X6_isWithin : GoodIn wsX6_groyne (va_wsS RX6 73 yX6_isWithin wsX6_isWithin) := goodIn_app (goodIn_of _ (by decide +kernel)) ggX6_groyne_X6_isWithin
set_option maxRecDepth 20000 in
theorem ggX6_groyne_X0_build : GoodIn wsX6_groyne wsX0_build := goodIn_r _ [16, 17, 18, 19, 56, 57, 58, 59, 60, 61, 62, 63] (by decide +kernel) (by decide +kernel)
set_option maxRecDepth 20000 in
theorem gX6_groyne_X0_build : GoodIn wsX6_groyne (wsV RX6 94 RX0 yX0_build wsX0_build) := goodIn_app (goodIn_of _ (by decide +kernel)) ggX6_groyne_X0_build
set_option maxRecDepth 20000 in
theorem ggX6_groyne_X6_takeInBegin : GoodIn wsX6_groyne wsX6_takeInBegin := goodIn_r _ [23, 24, 25, 2, 26, 27, 28, 29, 30, 31, 32, 33, 34, 35, 36, 37, 38, 39, 40, 41, 42, 43, 44, 45, 46, 47, 48, 49, 50, 51, 52, 53, 54, 55, 56, 57, 58, 59, 60, 61, 62, 63, 64, 65, 66, 67, 68, 69] (by decide +kernel) (by decide +kernel)
set_option maxRecDepth 20000 in
theorem gX6_groyne_X6_takeInBegin : GoodIn wsX6_groyne (wsV RX6 88 RX6 yX6_takeInBegin wsX6_takeInBegin) := goodIn_app (goodIn_of _ (by decide +kernel)) ggX6_groyne_X6_takeInBegin
theorem dX6_groyne_0 : decode cX6_groyne 0 = .ok (.aload_n 0, 1) := by decide +kernel
theorem dX6_groyne_1 : decode cX6_groyne 1 = .ok (.getfield 61, 3) := by decide +kernel
theorem dX6_groyne_4 : decode cX6_groyne 4 = .ok (.ifCond .gt 14, 3) := by decide +kernel
theorem dX6_groyne_7 : decode cX6_groyne 7 = .ok (.aload_n 0, 1) := by decide +kernel
theorem dX6_groyne_8 : decode cX6_groyne 8 = .ok (.getfield 12, 3) := by decide +kernel
theorem dX6_groyne_11 : decode cX6_groyne 11 = .ok (.iload_n 1, 1) := by decide +kernel
theorem dX6_groyne_12 : decode cX6_groyne 12 = .ok (.invokevirtual 91, 3) := by decide +kernel
theorem dX6_groyne_15 : decode cX6_groyne 15 = .ok (.ifCond .ne 5, 3) := by decide +kernel
theorem dX6_groyne_18 : decode cX6_groyne 18 = .ok (.iconst 0, 1) := by decide +kernel
theorem dX6_groyne_19 : decode cX6_groyne 19 = .ok (.ireturn, 1) := by decide +kernel
theorem dX6_groyne_20 : decode cX6_groyne 20 = .ok (.iload_n 2, 1) := by decide +kernel
theorem dX6_groyne_21 : decode cX6_groyne 21 = .ok (.iconst 0, 1) := by decide +kernel
theorem dX6_groyne_22 : decode cX6_groyne 22 = .ok (.sipush 999, 3) := by decide +kernel
theorem dX6_groyne_25 : decode cX6_groyne 25 = .ok (.invokestatic 73, 3) := by decide +kernel
theorem dX6_groyne_28 : decode cX6_groyne 28 = .ok (.ifCond .eq 13, 3) := by decide +kernel
theorem dX6_groyne_31 : decode cX6_groyne 31 = .ok (.iload_n 3, 1) := by decide +kernel
theorem dX6_groyne_32 : decode cX6_groyne 32 = .ok (.iconst 0, 1) := by decide +kernel
theorem dX6_groyne_33 : decode cX6_groyne 33 = .ok (.bipush 100, 2) := by decide +kernel
theorem dX6_groyne_35 : decode cX6_groyne 35 = .ok (.invokestatic 73, 3) := by decide +kernel
theorem dX6_groyne_38 : decode cX6_groyne 38 = .ok (.ifCond .ne 5, 3) := by decide +kernel
theorem dX6_groyne_41 : decode cX6_groyne 41 = .ok (.iconst 0, 1) := by decide +kernel
theorem dX6_groyne_42 : decode cX6_groyne 42 = .ok (.ireturn, 1) := by decide +kernel
theorem dX6_groyne_43 : decode cX6_groyne 43 = .ok (.aload_n 0, 1) := by decide +kernel
theorem dX6_groyne_44 : decode cX6_groyne 44 = .ok (.getfield 12, 3) := by decide +kernel
theorem dX6_groyne_47 : decode cX6_groyne 47 = .ok (.iload_n 1, 1) := by decide +kernel
theorem dX6_groyne_48 : decode cX6_groyne 48 = .ok (.iload_n 2, 1) := by decide +kernel
theorem dX6_groyne_49 : decode cX6_groyne 49 = .ok (.ifCond .ne 7, 3) := by decide +kernel
theorem dX6_groyne_52 : decode cX6_groyne 52 = .ok (.iconst 0, 1) := by decide +kernel
theorem dX6_groyne_53 : decode cX6_groyne 53 = .ok (.goto 4, 3) := by decide +kernel
theorem dX6_groyne_56 : decode cX6_groyne 56 = .ok (.iconst 1, 1) := by decide +kernel
theorem dX6_groyne_57 : decode cX6_groyne 57 = .ok (.iload_n 2, 1) := by decide +kernel
theorem dX6_groyne_58 : decode cX6_groyne 58 = .ok (.iload_n 3, 1) := by decide +kernel
theorem dX6_groyne_59 : decode cX6_groyne 59 = .ok (.invokevirtual 94, 3) := by decide +kernel
theorem dX6_groyne_62 : decode cX6_groyne 62 = .ok (.aload_n 0, 1) := by decide +kernel
theorem dX6_groyne_63 : decode cX6_groyne 63 = .ok (.invokevirtual 88, 3) := by decide +kernel
theorem dX6_groyne_66 : decode cX6_groyne 66 = .ok (.iconst 1, 1) := by decide +kernel
theorem dX6_groyne_67 : decode cX6_groyne 67 = .ok (.ireturn, 1) := by decide +kernel
set_option maxRecDepth 20000 in
theorem ggX6_mouth_X0_liesBetweenFields : GoodIn wsX6_mouth wsX0_liesBetweenFields := goodIn_r _ [7, 8, 56, 57, 58, 59, 60, 61, 62, 63] (by decide +kernel) (by decide +kernel)
set_option maxRecDepth 20000 in
theorem gX6_mouth_X0_liesBetweenFields : GoodIn wsX6_mouth (wsV RX6 91 RX0 yX0_liesBetweenFields wsX0_liesBetweenFields) := goodIn_app (goodIn_of _ (by decide +kernel)) ggX6_mouth_X0_liesBetweenFields
set_option maxRecDepth 20000 in
theorem ggX6_mouth_X6_isWithin : GoodIn wsX6_mouth wsX6_isWithin := goodIn_r _ [12] (by decide +kernel) (by decide +kernel)
set_option maxRecDepth 20000 in
theorem gX6_mouth_X6_isWithin : GoodIn wsX6_mouth (va_wsS RX6 73 yX6_isWithin wsX6_isWithin) := goodIn_app (goodIn_of _ (by decide +kernel)) ggX6_mouth_X6_isWithin
set_option maxRecDepth 20000 in
theorem ggX6_mouth_X0_build : GoodIn wsX6_mouth wsX0_build := goodIn_r _ [16, 17, 18, 19, 56, 57, 58, 59, 60, 61, 62, 63] (by decide +kernel) (by decide +kernel)
set_option maxRecDepth 20000 in
theorem gX6_mouth_X0_build : GoodIn wsX6_mouth (wsV RX6 94 RX0 yX0_build wsX0_build) := goodIn_app (goodIn_of _ (by decide +kernel)) ggX6_mouth_X0_build
set_option maxRecDepth 20000 in
theorem ggX6_mouth_X6_takeInBegin : GoodIn wsX6_mouth wsX6_takeInBegin := goodIn_r _ [23, 24, 25, 2, 26, 27, 28, 29, 30, 31, 32, 33, 34, 35, 36, 37, 38, 39, 40, 41, 42, 43, 44, 45, 46, 47, 48, 49, 50, 51, 52, 53, 54, 55, 56, 57, 58, 59, 60, 61, 62, 63, 64, 65, 66, 67, 68, 69] (by decide +kernel) (by decide +kernel)
set_option maxRecDepth 20000 in
theorem gX6_mouth_X6_takeInBegin : GoodIn wsX6_mouth (wsV RX6 88 RX6 yX6_takeInBegin wsX6_takeInBegin) := goodIn_app (goodIn_of _ (by decide +kernel)) ggX6_mouth_X6_takeInBegin
theorem dX6_mouth_0 : decode cX6_mouth 0 = .ok (.aload_n 0, 1) := by decide +kernel
theorem dX6_mouth_1 : decode cX6_mouth 1 = .ok (.getfield 61, 3) := by decide +kernel
theorem dX6_mouth_4 : decode cX6_mouth 4 = .ok (.ifCond .gt 24, 3) := by decide +kernel
theorem dX6_mouth_7 : decode cX6_mouth 7 = .ok (.aload_n 0, 1) := by decide +kernel
theorem dX6_mouth_8 : decode cX6_mouth 8 = .ok (.getfield 12, 3) := by decide +kernel
theorem dX6_mouth_11 : decode cX6_mouth 11 = .ok (.iload_n 1, 1) := by decide +kernel
theorem dX6_mouth_12 : decode cX6_mouth 12 = .ok (.invokevirtual 91, 3) := by decide +kernel
theorem dX6_mouth_15 : decode cX6_mouth 15 = .ok (.ifCond .eq 13, 3) := by decide +kernel
theorem dX6_mouth_18 : decode cX6_mouth 18 = .ok (.iload_n 2, 1) := by decide +kernel
theorem dX6_mouth_19 : decode cX6_mouth 19 = .ok (.iconst 0, 1) := by decide +kernel
theorem dX6_mouth_20 : decode cX6_mouth 20 = .ok (.bipush 100, 2) := by decide +kernel
theorem dX6_mouth_22 : decode cX6_mouth 22 = .ok (.invokestatic 73, 3) := by decide +kernel
theorem dX6_mouth_25 : decode cX6_mouth 25 = .ok (.ifCond .ne 5, 3) := by decide +kernel
theorem dX6_mouth_28 : decode cX6_mouth 28 = .ok (.iconst 0, 1) := by decide +kernel
theorem dX6_mouth_29 : decode cX6_mouth 29 = .ok (.ireturn, 1) := by decide +kernel
theorem dX6_mouth_30 : decode cX6_mouth 30 = .ok (.aload_n 0, 1) := by decide +kernel
theorem dX6_mouth_31 : decode cX6_mouth 31 = .ok (.getfield 12, 3) := by decide +kernel
theorem dX6_mouth_34 : decode cX6_mouth 34 = .ok (.iload_n 1, 1) := by decide +kernel
theorem dX6_mouth_35 : decode cX6_mouth 35 = .ok (.iconst 2, 1) := by decide +kernel
theorem dX6_mouth_36 : decode cX6_mouth 36 = .ok (.iload_n 2, 1) := by decide +kernel
theorem dX6_mouth_37 : decode cX6_mouth 37 = .ok (.iconst 0, 1) := by decide +kernel
theorem dX6_mouth_38 : decode cX6_mouth 38 = .ok (.invokevirtual 94, 3) := by decide +kernel
theorem dX6_mouth_41 : decode cX6_mouth 41 = .ok (.aload_n 0, 1) := by decide +kernel
theorem dX6_mouth_42 : decode cX6_mouth 42 = .ok (.invokevirtual 88, 3) := by decide +kernel
theorem dX6_mouth_45 : decode cX6_mouth 45 = .ok (.iconst 1, 1) := by decide +kernel
theorem dX6_mouth_46 : decode cX6_mouth 46 = .ok (.ireturn, 1) := by decide +kernel
set_option maxRecDepth 20000 in
theorem ggX6_wall_X0_hasField : GoodIn wsX6_wall wsX0_hasField := goodIn_r _ [8, 9, 50, 51, 52, 53, 54, 55, 56, 57] (by decide +kernel) (by decide +kernel)
set_option maxRecDepth 20000 in
theorem gX6_wall_X0_hasField : GoodIn wsX6_wall (wsV RX6 80 RX0 yX0_hasField wsX0_hasField) := goodIn_app (goodIn_of _ (by decide +kernel)) ggX6_wall_X0_hasField
set_option maxRecDepth 20000 in
theorem ggX6_wall_X6_isWithin : GoodIn wsX6_wall wsX6_isWithin := goodIn_r _ [13] (by decide +kernel) (by decide +kernel)
set_option maxRecDepth 20000 in
theorem gX6_wall_X6_isWithin : GoodIn wsX6_wall (va_wsS RX6 73 yX6_isWithin wsX6_isWithin) := goodIn_app (goodIn_of _ (by decide +kernel)) ggX6_wall_X6_isWithin
set_option maxRecDepth 20000 in
theorem ggX6_wall_X6_takeInBegin : GoodIn wsX6_wall wsX6_takeInBegin := goodIn_r _ [17, 18, 19, 2, 20, 21, 22, 23, 24, 25, 26, 27, 28, 29, 30, 31, 32, 33, 34, 35, 36, 37, 38, 39, 40, 41, 42, 43, 44, 45, 46, 47, 48, 49, 50, 51, 52, 53, 54, 55, 56, 57, 58, 59, 60, 61, 62, 63] (by decide +kernel) (by decide +kernel)
set_option maxRecDepth 20000 in
theorem gX6_wall_X6_takeInBegin : GoodIn wsX6_wall (wsV RX6 88 RX6 yX6_takeInBegin wsX6_takeInBegin) := goodIn_app (goodIn_of _ (by decide +kernel)) ggX6_wall_X6_takeInBegin
theorem dX6_wall_0 : decode cX6_wall 0 = .ok (.aload_n 0, 1) := by decide +kernel
theorem dX6_wall_1 : decode cX6_wall 1 = .ok (.getfield 61, 3) := by decide +kernel
theorem dX6_wall_4 : decode cX6_wall 4 = .ok (.ifCond .gt 25, 3) := by decide +kernel
theorem dX6_wall_7 : decode cX6_wall 7 = .ok (.aload_n 0, 1) := by decide +kernel
theorem dX6_wall_8 : decode cX6_wall 8 = .ok (.getfield 12, 3) := by decide +kernel
theorem dX6_wall_11 : decode cX6_wall 11 = .ok (.iload_n 1, 1) := by decide +kernel
theorem dX6_wall_12 : decode cX6_wall 12 = .ok (.invokevirtual 80, 3) := by decide +kernel
theorem dX6_wall_15 : decode cX6_wall 15 = .ok (.ifCond .eq 14, 3) := by decide +kernel
theorem dX6_wall_18 : decode cX6_wall 18 = .ok (.iload_n 2, 1) := by decide +kernel
theorem dX6_wall_19 : decode cX6_wall 19 = .ok (.iconst 0, 1) := by decide +kernel
theorem dX6_wall_20 : decode cX6_wall 20 = .ok (.sipush 999, 3) := by decide +kernel
theorem dX6_wall_23 : decode cX6_wall 23 = .ok (.invokestatic 73, 3) := by decide +kernel
theorem dX6_wall_26 : decode cX6_wall 26 = .ok (.ifCond .ne 5, 3) := by decide +kernel
theorem dX6_wall_29 : decode cX6_wall 29 = .ok (.iconst 0, 1) := by decide +kernel
theorem dX6_wall_30 : decode cX6_wall 30 = .ok (.ireturn, 1) := by decide +kernel
theorem dX6_wall_31 : decode cX6_wall 31 = .ok (.aload_n 0, 1) := by decide +kernel
theorem dX6_wall_32 : decode cX6_wall 32 = .ok (.getfield 12, 3) := by decide +kernel
theorem dX6_wall_35 : decode cX6_wall 35 = .ok (.getfield 98, 3) := by decide +kernel
theorem dX6_wall_38 : decode cX6_wall 38 = .ok (.iload_n 1, 1) := by decide +kernel
theorem dX6_wall_39 : decode cX6_wall 39 = .ok (.iload_n 2, 1) := by decide +kernel
theorem dX6_wall_40 : decode cX6_wall 40 = .ok (.iastore, 1) := by decide +kernel
theorem dX6_wall_41 : decode cX6_wall 41 = .ok (.aload_n 0, 1) := by decide +kernel
theorem dX6_wall_42 : decode cX6_wall 42 = .ok (.invokevirtual 88, 3) := by decide +kernel
theorem dX6_wall_45 : decode cX6_wall 45 = .ok (.iconst 1, 1) := by decide +kernel
theorem dX6_wall_46 : decode cX6_wall 46 = .ok (.ireturn, 1) := by decide +kernel
set_option maxRecDepth 20000 in
theorem ggX6_feed_X6_isWithin : GoodIn wsX6_feed wsX6_isWithin := goodIn_r _ [7] (by decide +kernel) (by decide +kernel)
set_option maxRecDepth 20000 in
theorem gX6_feed_X6_isWithin : GoodIn wsX6_feed (va_wsS RX6 73 yX6_isWithin wsX6_isWithin) := goodIn_app (goodIn_of _ (by decide +kernel)) ggX6_feed_X6_isWithin
set_option maxRecDepth 20000 in
theorem ggX6_feed_X6_takeInBegin : GoodIn wsX6_feed wsX6_takeInBegin := goodIn_r _ [11, 12, 13, 2, 14, 15, 16, 17, 18, 19, 20, 21, 22, 23, 24, 25, 26, 27, 28, 29, 30, 31, 32, 33, 34, 35, 36, 37, 38, 39, 40, 41, 42, 43, 44, 45, 46, 47, 48, 49, 50, 51, 52, 53, 54, 55, 56, 57] (by decide +kernel) (by decide +kernel)
set_option maxRecDepth 20000 in
theorem gX6_feed_X6_takeInBegin : GoodIn wsX6_feed (wsV RX6 88 RX6 yX6_takeInBegin wsX6_takeInBegin) := goodIn_app (goodIn_of _ (by decide +kernel)) ggX6_feed_X6_takeInBegin
theorem dX6_feed_0 : decode cX6_feed 0 = .ok (.aload_n 0, 1) := by decide +kernel
theorem dX6_feed_1 : decode cX6_feed 1 = .ok (.getfield 61, 3) := by decide +kernel
theorem dX6_feed_4 : decode cX6_feed 4 = .ok (.ifCond .gt 23, 3) := by decide +kernel
theorem dX6_feed_7 : decode cX6_feed 7 = .ok (.iload_n 1, 1) := by decide +kernel
theorem dX6_feed_8 : decode cX6_feed 8 = .ok (.iconst 0, 1) := by decide +kernel
theorem dX6_feed_9 : decode cX6_feed 9 = .ok (.iconst 1, 1) := by decide +kernel
theorem dX6_feed_10 : decode cX6_feed 10 = .ok (.invokestatic 73, 3) := by decide +kernel
theorem dX6_feed_13 : decode cX6_feed 13 = .ok (.ifCond .eq 14, 3) := by decide +kernel
theorem dX6_feed_16 : decode cX6_feed 16 = .ok (.iload_n 2, 1) := by decide +kernel
theorem dX6_feed_17 : decode cX6_feed 17 = .ok (.iconst 0, 1) := by decide +kernel
theorem dX6_feed_18 : decode cX6_feed 18 = .ok (.sipush 200, 3) := by decide +kernel
theorem dX6_feed_21 : decode cX6_feed 21 = .ok (.invokestatic 73, 3) := by decide +kernel
theorem dX6_feed_24 : decode cX6_feed 24 = .ok (.ifCond .ne 5, 3) := by decide +kernel
theorem dX6_feed_27 : decode cX6_feed 27 = .ok (.iconst 0, 1) := by decide +kernel
theorem dX6_feed_28 : decode cX6_feed 28 = .ok (.ireturn, 1) := by decide +kernel
theorem dX6_feed_29 : decode cX6_feed 29 = .ok (.aload_n 0, 1) := by decide +kernel
theorem dX6_feed_30 : decode cX6_feed 30 = .ok (.getfield 12, 3) := by decide +kernel
theorem dX6_feed_33 : decode cX6_feed 33 = .ok (.getfield 101, 3) := by decide +kernel
theorem dX6_feed_36 : decode cX6_feed 36 = .ok (.iload_n 1, 1) := by decide +kernel
theorem dX6_feed_37 : decode cX6_feed 37 = .ok (.iload_n 2, 1) := by decide +kernel
theorem dX6_feed_38 : decode cX6_feed 38 = .ok (.iastore, 1) := by decide +kernel
theorem dX6_feed_39 : decode cX6_feed 39 = .ok (.aload_n 0, 1) := by decide +kernel
theorem dX6_feed_40 : decode cX6_feed 40 = .ok (.invokevirtual 88, 3) := by decide +kernel
theorem dX6_feed_43 : decode cX6_feed 43 = .ok (.iconst 1, 1) := by decide +kernel
theorem dX6_feed_44 : decode cX6_feed 44 = .ok (.ireturn, 1) := by decide +kernel
set_option maxRecDepth 20000 in
theorem ggX6_number_X6_isWithin : GoodIn wsX6_number wsX6_isWithin := goodIn_r _ [7] (by decide +kernel) (by decide +kernel)
set_option maxRecDepth 20000 in
theorem gX6_number_X6_isWithin : GoodIn wsX6_number (va_wsS RX6 73 yX6_isWithin wsX6_isWithin) := goodIn_app (goodIn_of _ (by decide +kernel)) ggX6_number_X6_isWithin
set_option maxRecDepth 20000 in
theorem ggX6_number_X6_takeInBegin : GoodIn wsX6_number wsX6_takeInBegin := goodIn_r _ [11, 12, 13, 2, 14, 15, 16, 17, 18, 19, 20, 21, 22, 23, 24, 25, 26, 27, 28, 29, 30, 31, 32, 33, 34, 35, 36, 37, 38, 39, 40, 41, 42, 43, 44, 45, 46, 47, 48, 49, 50, 51, 52, 53, 54, 55, 56, 57] (by decide +kernel) (by decide +kernel)
set_option maxRecDepth 20000 in
theorem gX6_number_X6_takeInBegin : GoodIn wsX6_number (wsV RX6 88 RX6 yX6_takeInBegin wsX6_takeInBegin) := goodIn_app (goodIn_of _ (by decide +kernel)) ggX6_number_X6_takeInBegin
theorem dX6_number_0 : decode cX6_number 0 = .ok (.aload_n 0, 1) := by decide +kernel
theorem dX6_number_1 : decode cX6_number 1 = .ok (.getfield 61, 3) := by decide +kernel
theorem dX6_number_4 : decode cX6_number 4 = .ok (.ifCond .gt 13, 3) := by decide +kernel
theorem dX6_number_7 : decode cX6_number 7 = .ok (.iload_n 1, 1) := by decide +kernel
theorem dX6_number_8 : decode cX6_number 8 = .ok (.iconst 1, 1) := by decide +kernel
theorem dX6_number_9 : decode cX6_number 9 = .ok (.bipush 9, 2) := by decide +kernel
theorem dX6_number_11 : decode cX6_number 11 = .ok (.invokestatic 73, 3) := by decide +kernel
theorem dX6_number_14 : decode cX6_number 14 = .ok (.ifCond .ne 5, 3) := by decide +kernel
theorem dX6_number_17 : decode cX6_number 17 = .ok (.iconst 0, 1) := by decide +kernel
theorem dX6_number_18 : decode cX6_number 18 = .ok (.ireturn, 1) := by decide +kernel
theorem dX6_number_19 : decode cX6_number 19 = .ok (.aload_n 0, 1) := by decide +kernel
theorem dX6_number_20 : decode cX6_number 20 = .ok (.getfield 12, 3) := by decide +kernel
theorem dX6_number_23 : decode cX6_number 23 = .ok (.iload_n 1, 1) := by decide +kernel
theorem dX6_number_24 : decode cX6_number 24 = .ok (.putfield 104, 3) := by decide +kernel
theorem dX6_number_27 : decode cX6_number 27 = .ok (.aload_n 0, 1) := by decide +kernel
theorem dX6_number_28 : decode cX6_number 28 = .ok (.invokevirtual 88, 3) := by decide +kernel
theorem dX6_number_31 : decode cX6_number 31 = .ok (.iconst 1, 1) := by decide +kernel
theorem dX6_number_32 : decode cX6_number 32 = .ok (.ireturn, 1) := by decide +kernel
set_option maxRecDepth 20000 in
theorem ggX6_wave_X6_isWithin : GoodIn wsX6_wave wsX6_isWithin := goodIn_r _ [7] (by decide +kernel) (by decide +kernel)
set_option maxRecDepth 20000 in
theorem gX6_wave_X6_isWithin : GoodIn wsX6_wave (va_wsS RX6 73 yX6_isWithin wsX6_isWithin) := goodIn_app (goodIn_of _ (by decide +kernel)) ggX6_wave_X6_isWithin
set_option maxRecDepth 20000 in
theorem ggX6_wave_X4_add : GoodIn wsX6_wave wsX4_add := goodIn_r _ [12, 13, 14, 15, 27, 28, 29] (by decide +kernel) (by decide +kernel)
set_option maxRecDepth 20000 in
theorem gX6_wave_X4_add : GoodIn wsX6_wave (wsV RX6 110 RX4 yX4_add wsX4_add) := goodIn_app (goodIn_of _ (by decide +kernel)) ggX6_wave_X4_add
theorem dX6_wave_0 : decode cX6_wave 0 = .ok (.iload_n 1, 1) := by decide +kernel
theorem dX6_wave_1 : decode cX6_wave 1 = .ok (.iconst 0, 1) := by decide +kernel
theorem dX6_wave_2 : decode cX6_wave 2 = .ok (.bipush 9, 2) := by decide +kernel
theorem dX6_wave_4 : decode cX6_wave 4 = .ok (.invokestatic 73, 3) := by decide +kernel
theorem dX6_wave_7 : decode cX6_wave 7 = .ok (.ifCond .eq 24, 3) := by decide +kernel
theorem dX6_wave_10 : decode cX6_wave 10 = .ok (.iload_n 2, 1) := by decide +kernel
theorem dX6_wave_11 : decode cX6_wave 11 = .ok (.iconst 0, 1) := by decide +kernel
theorem dX6_wave_12 : decode cX6_wave 12 = .ok (.iconst 2, 1) := by decide +kernel
theorem dX6_wave_13 : decode cX6_wave 13 = .ok (.invokestatic 73, 3) := by decide +kernel
theorem dX6_wave_16 : decode cX6_wave 16 = .ok (.ifCond .eq 15, 3) := by decide +kernel
theorem dX6_wave_19 : decode cX6_wave 19 = .ok (.aload_n 0, 1) := by decide +kernel
theorem dX6_wave_20 : decode cX6_wave 20 = .ok (.getfield 32, 3) := by decide +kernel
theorem dX6_wave_23 : decode cX6_wave 23 = .ok (.getfield 107, 3) := by decide +kernel
theorem dX6_wave_26 : decode cX6_wave 26 = .ok (.bipush 120, 2) := by decide +kernel
theorem dX6_wave_28 : decode cX6_wave 28 = .ok (.if_icmp .lt 5, 3) := by decide +kernel
theorem dX6_wave_31 : decode cX6_wave 31 = .ok (.iconst (-1), 1) := by decide +kernel
theorem dX6_wave_32 : decode cX6_wave 32 = .ok (.ireturn, 1) := by decide +kernel
theorem dX6_wave_33 : decode cX6_wave 33 = .ok (.aload_n 0, 1) := by decide +kernel
theorem dX6_wave_34 : decode cX6_wave 34 = .ok (.getfield 32, 3) := by decide +kernel
theorem dX6_wave_37 : decode cX6_wave 37 = .ok (.iload_n 1, 1) := by decide +kernel
theorem dX6_wave_38 : decode cX6_wave 38 = .ok (.iload_n 2, 1) := by decide +kernel
theorem dX6_wave_39 : decode cX6_wave 39 = .ok (.invokevirtual 110, 3) := by decide +kernel
theorem dX6_wave_42 : decode cX6_wave 42 = .ok (.aload_n 0, 1) := by decide +kernel
theorem dX6_wave_43 : decode cX6_wave 43 = .ok (.iconst 1, 1) := by decide +kernel
theorem dX6_wave_44 : decode cX6_wave 44 = .ok (.putfield 65, 3) := by decide +kernel
theorem dX6_wave_47 : decode cX6_wave 47 = .ok (.aload_n 0, 1) := by decide +kernel
theorem dX6_wave_48 : decode cX6_wave 48 = .ok (.getfield 32, 3) := by decide +kernel
theorem dX6_wave_51 : decode cX6_wave 51 = .ok (.getfield 107, 3) := by decide +kernel
theorem dX6_wave_54 : decode cX6_wave 54 = .ok (.ireturn, 1) := by decide +kernel
set_option maxRecDepth 20000 in
theorem ggX6_weeks_X6_isWithin : GoodIn wsX6_weeks wsX6_isWithin := goodIn_r _ [11] (by decide +kernel) (by decide +kernel)
set_option maxRecDepth 20000 in
theorem gX6_weeks_X6_isWithin : GoodIn wsX6_weeks (va_wsS RX6 73 yX6_isWithin wsX6_isWithin) := goodIn_app (goodIn_of _ (by decide +kernel)) ggX6_weeks_X6_isWithin
set_option maxRecDepth 20000 in
theorem ggX6_weeks_X2_goThrough : GoodIn wsX6_weeks wsX2_goThrough := goodIn_r _ [16, 17, 18, 19, 20, 21, 22, 23, 24, 25, 26, 15, 27, 28, 29, 30, 31, 32, 33, 34, 35, 36, 37, 38, 39, 40, 41, 42, 43, 44, 45, 46, 47, 48, 49, 50, 51, 52, 53, 54, 55, 56, 57, 58, 59, 60, 61, 62, 63, 64, 65, 66, 67, 68, 69, 70, 71, 72, 73, 74, 75, 76, 77, 78, 79, 80, 81, 96, 97, 98, 99, 100, 101, 102, 103, 104, 105, 106, 107, 108, 109] (by decide +kernel) (by decide +kernel)
set_option maxRecDepth 20000 in
theorem gX6_weeks_X2_goThrough : GoodIn wsX6_weeks (wsV RX6 120 RX2 yX2_goThrough wsX2_goThrough) := goodIn_app (goodIn_of _ (by decide +kernel)) ggX6_weeks_X2_goThrough
theorem dX6_weeks_0 : decode cX6_weeks 0 = .ok (.iload_n 1, 1) := by decide +kernel
theorem dX6_weeks_1 : decode cX6_weeks 1 = .ok (.iconst 0, 1) := by decide +kernel
theorem dX6_weeks_2 : decode cX6_weeks 2 = .ok (.bipush 120, 2) := by decide +kernel
theorem dX6_weeks_4 : decode cX6_weeks 4 = .ok (.invokestatic 73, 3) := by decide +kernel
theorem dX6_weeks_7 : decode cX6_weeks 7 = .ok (.ifCond .eq 19, 3) := by decide +kernel
theorem dX6_weeks_10 : decode cX6_weeks 10 = .ok (.iload_n 1, 1) := by decide +kernel
theorem dX6_weeks_11 : decode cX6_weeks 11 = .ok (.aload_n 0, 1) := by decide +kernel
theorem dX6_weeks_12 : decode cX6_weeks 12 = .ok (.getfield 32, 3) := by decide +kernel
theorem dX6_weeks_15 : decode cX6_weeks 15 = .ok (.getfield 107, 3) := by decide +kernel
theorem dX6_weeks_18 : decode cX6_weeks 18 = .ok (.aload_n 0, 1) := by decide +kernel
theorem dX6_weeks_19 : decode cX6_weeks 19 = .ok (.getfield 61, 3) := by decide +kernel
theorem dX6_weeks_22 : decode cX6_weeks 22 = .ok (.isub, 1) := by decide +kernel
theorem dX6_weeks_23 : decode cX6_weeks 23 = .ok (.if_icmp .le 5, 3) := by decide +kernel
theorem dX6_weeks_26 : decode cX6_weeks 26 = .ok (.iconst (-1), 1) := by decide +kernel
theorem dX6_weeks_27 : decode cX6_weeks 27 = .ok (.ireturn, 1) := by decide +kernel
theorem dX6_weeks_28 : decode cX6_weeks 28 = .ok (.aload_n 0, 1) := by decide +kernel
theorem dX6_weeks_29 : decode cX6_weeks 29 = .ok (.getfield 61, 3) := by decide +kernel
theorem dX6_weeks_32 : decode cX6_weeks 32 = .ok (.iload_n 1, 1) := by decide +kernel
theorem dX6_weeks_33 : decode cX6_weeks 33 = .ok (.iadd, 1) := by decide +kernel
theorem dX6_weeks_34 : decode cX6_weeks 34 = .ok (.istore_n 2, 1) := by decide +kernel
theorem dX6_weeks_35 : decode cX6_weeks 35 = .ok (.aload_n 0, 1) := by decide +kernel
theorem dX6_weeks_36 : decode cX6_weeks 36 = .ok (.getfield 61, 3) := by decide +kernel
theorem dX6_weeks_39 : decode cX6_weeks 39 = .ok (.istore_n 3, 1) := by decide +kernel
theorem dX6_weeks_40 : decode cX6_weeks 40 = .ok (.iload_n 3, 1) := by decide +kernel
theorem dX6_weeks_41 : decode cX6_weeks 41 = .ok (.iload_n 2, 1) := by decide +kernel
theorem dX6_weeks_42 : decode cX6_weeks 42 = .ok (.if_icmp .ge 38, 3) := by decide +kernel
theorem dX6_weeks_45 : decode cX6_weeks 45 = .ok (.aload_n 0, 1) := by decide +kernel
theorem dX6_weeks_46 : decode cX6_weeks 46 = .ok (.getfield 22, 3) := by decide +kernel
theorem dX6_weeks_49 : decode cX6_weeks 49 = .ok (.aload_n 0, 1) := by decide +kernel
theorem dX6_weeks_50 : decode cX6_weeks 50 = .ok (.getfield 12, 3) := by decide +kernel
theorem dX6_weeks_53 : decode cX6_weeks 53 = .ok (.aload_n 0, 1) := by decide +kernel
theorem dX6_weeks_54 : decode cX6_weeks 54 = .ok (.getfield 32, 3) := by decide +kernel
theorem dX6_weeks_57 : decode cX6_weeks 57 = .ok (.getfield 114, 3) := by decide +kernel
theorem dX6_weeks_60 : decode cX6_weeks 60 = .ok (.iload_n 3, 1) := by decide +kernel
theorem dX6_weeks_61 : decode cX6_weeks 61 = .ok (.iaload, 1) := by decide +kernel
theorem dX6_weeks_62 : decode cX6_weeks 62 = .ok (.aload_n 0, 1) := by decide +kernel
theorem dX6_weeks_63 : decode cX6_weeks 63 = .ok (.getfield 32, 3) := by decide +kernel
theorem dX6_weeks_66 : decode cX6_weeks 66 = .ok (.getfield 117, 3) := by decide +kernel
theorem dX6_weeks_69 : decode cX6_weeks 69 = .ok (.iload_n 3, 1) := by decide +kernel
theorem dX6_weeks_70 : decode cX6_weeks 70 = .ok (.iaload, 1) := by decide +kernel
theorem dX6_weeks_71 : decode cX6_weeks 71 = .ok (.invokevirtual 120, 3) := by decide +kernel
theorem dX6_weeks_74 : decode cX6_weeks 74 = .ok (.iinc 3 1, 3) := by decide +kernel
theorem dX6_weeks_77 : decode cX6_weeks 77 = .ok (.goto (-37), 3) := by decide +kernel
theorem dX6_weeks_80 : decode cX6_weeks 80 = .ok (.aload_n 0, 1) := by decide +kernel
theorem dX6_weeks_81 : decode cX6_weeks 81 = .ok (.iload_n 2, 1) := by decide +kernel
theorem dX6_weeks_82 : decode cX6_weeks 82 = .ok (.putfield 61, 3) := by decide +kernel
theorem dX6_weeks_85 : decode cX6_weeks 85 = .ok (.aload_n 0, 1) := by decide +kernel
theorem dX6_weeks_86 : decode cX6_weeks 86 = .ok (.getfield 61, 3) := by decide +kernel
theorem dX6_weeks_89 : decode cX6_weeks 89 = .ok (.ireturn, 1) := by decide +kernel
set_option maxRecDepth 20000 in
theorem ggX6_dredge_X0_hasAt : GoodIn wsX6_dredge wsX0_hasAt := goodIn_r _ [10, 11, 12, 13, 14, 9, 15, 16, 63, 64, 65, 66, 67, 68, 69, 70] (by decide +kernel) (by decide +kernel)
set_option maxRecDepth 20000 in
theorem gX6_dredge_X0_hasAt : GoodIn wsX6_dredge (wsV RX6 124 RX0 yX0_hasAt wsX0_hasAt) := goodIn_app (goodIn_of _ (by decide +kernel)) ggX6_dredge_X0_hasAt
set_option maxRecDepth 20000 in
theorem ggX6_dredge_X0_hasField : GoodIn wsX6_dredge wsX0_hasField := goodIn_r _ [20, 16, 63, 64, 65, 66, 67, 68, 69, 70] (by decide +kernel) (by decide +kernel)
set_option maxRecDepth 20000 in
theorem gX6_dredge_X0_hasField : GoodIn wsX6_dredge (wsV RX6 80 RX0 yX0_hasField wsX0_hasField) := goodIn_app (goodIn_of _ (by decide +kernel)) ggX6_dredge_X0_hasField
set_option maxRecDepth 20000 in
theorem ggX6_dredge_X6_isWithin : GoodIn wsX6_dredge wsX6_isWithin := goodIn_r _ [24] (by decide +kernel) (by decide +kernel)
set_option maxRecDepth 20000 in
theorem gX6_dredge_X6_isWithin : GoodIn wsX6_dredge (va_wsS RX6 73 yX6_isWithin wsX6_isWithin) := goodIn_app (goodIn_of _ (by decide +kernel)) ggX6_dredge_X6_isWithin
set_option maxRecDepth 20000 in
theorem ggX6_dredge_X1_add : GoodIn wsX6_dredge wsX1_add := goodIn_r _ [29, 30, 31, 32, 33, 34, 58, 59, 60, 61, 62] (by decide +kernel) (by decide +kernel)
set_option maxRecDepth 20000 in
theorem gX6_dredge_X1_add : GoodIn wsX6_dredge (wsV RX6 129 RX1 yX1_add wsX1_add) := goodIn_app (goodIn_of _ (by decide +kernel)) ggX6_dredge_X1_add
set_option maxRecDepth 20000 in
theorem ggX6_dredge_X2_bringFromBar : GoodIn wsX6_dredge wsX2_bringFromBar := goodIn_r _ [39, 40, 41, 42, 43, 44, 45, 46, 71, 72, 73, 74, 75, 76] (by decide +kernel) (by decide +kernel)
set_option maxRecDepth 20000 in
theorem gX6_dredge_X2_bringFromBar : GoodIn wsX6_dredge (wsV RX6 131 RX2 yX2_bringFromBar wsX2_bringFromBar) := goodIn_app (goodIn_of _ (by decide +kernel)) ggX6_dredge_X2_bringFromBar
theorem dX6_dredge_0 : decode cX6_dredge 0 = .ok (.aload_n 0, 1) := by decide +kernel
theorem dX6_dredge_1 : decode cX6_dredge 1 = .ok (.getfield 12, 3) := by decide +kernel
theorem dX6_dredge_4 : decode cX6_dredge 4 = .ok (.iload_n 1, 1) := by decide +kernel
theorem dX6_dredge_5 : decode cX6_dredge 5 = .ok (.iconst 2, 1) := by decide +kernel
theorem dX6_dredge_6 : decode cX6_dredge 6 = .ok (.invokevirtual 124, 3) := by decide +kernel
theorem dX6_dredge_9 : decode cX6_dredge 9 = .ok (.ifCond .eq 14, 3) := by decide +kernel
theorem dX6_dredge_12 : decode cX6_dredge 12 = .ok (.aload_n 0, 1) := by decide +kernel
theorem dX6_dredge_13 : decode cX6_dredge 13 = .ok (.getfield 12, 3) := by decide +kernel
theorem dX6_dredge_16 : decode cX6_dredge 16 = .ok (.iload_n 3, 1) := by decide +kernel
theorem dX6_dredge_17 : decode cX6_dredge 17 = .ok (.invokevirtual 80, 3) := by decide +kernel
theorem dX6_dredge_20 : decode cX6_dredge 20 = .ok (.ifCond .ne 5, 3) := by decide +kernel
theorem dX6_dredge_23 : decode cX6_dredge 23 = .ok (.iconst (-1), 1) := by decide +kernel
theorem dX6_dredge_24 : decode cX6_dredge 24 = .ok (.ireturn, 1) := by decide +kernel
theorem dX6_dredge_25 : decode cX6_dredge 25 = .ok (.iload_n 2, 1) := by decide +kernel
theorem dX6_dredge_26 : decode cX6_dredge 26 = .ok (.iconst 1, 1) := by decide +kernel
theorem dX6_dredge_27 : decode cX6_dredge 27 = .ok (.sipush 9999, 3) := by decide +kernel
theorem dX6_dredge_30 : decode cX6_dredge 30 = .ok (.invokestatic 73, 3) := by decide +kernel
theorem dX6_dredge_33 : decode cX6_dredge 33 = .ok (.ifCond .eq 15, 3) := by decide +kernel
theorem dX6_dredge_36 : decode cX6_dredge 36 = .ok (.aload_n 0, 1) := by decide +kernel
theorem dX6_dredge_37 : decode cX6_dredge 37 = .ok (.getfield 39, 3) := by decide +kernel
theorem dX6_dredge_40 : decode cX6_dredge 40 = .ok (.getfield 128, 3) := by decide +kernel
theorem dX6_dredge_43 : decode cX6_dredge 43 = .ok (.bipush 20, 2) := by decide +kernel
theorem dX6_dredge_45 : decode cX6_dredge 45 = .ok (.if_icmp .lt 5, 3) := by decide +kernel
theorem dX6_dredge_48 : decode cX6_dredge 48 = .ok (.iconst (-1), 1) := by decide +kernel
theorem dX6_dredge_49 : decode cX6_dredge 49 = .ok (.ireturn, 1) := by decide +kernel
theorem dX6_dredge_50 : decode cX6_dredge 50 = .ok (.aload_n 0, 1) := by decide +kernel
theorem dX6_dredge_51 : decode cX6_dredge 51 = .ok (.getfield 39, 3) := by decide +kernel
theorem dX6_dredge_54 : decode cX6_dredge 54 = .ok (.iload_n 1, 1) := by decide +kernel
theorem dX6_dredge_55 : decode cX6_dredge 55 = .ok (.iload_n 2, 1) := by decide +kernel
theorem dX6_dredge_56 : decode cX6_dredge 56 = .ok (.iload_n 3, 1) := by decide +kernel
theorem dX6_dredge_57 : decode cX6_dredge 57 = .ok (.aload_n 0, 1) := by decide +kernel
theorem dX6_dredge_58 : decode cX6_dredge 58 = .ok (.getfield 61, 3) := by decide +kernel
theorem dX6_dredge_61 : decode cX6_dredge 61 = .ok (.invokevirtual 129, 3) := by decide +kernel
theorem dX6_dredge_64 : decode cX6_dredge 64 = .ok (.aload_n 0, 1) := by decide +kernel
theorem dX6_dredge_65 : decode cX6_dredge 65 = .ok (.getfield 22, 3) := by decide +kernel
theorem dX6_dredge_68 : decode cX6_dredge 68 = .ok (.iload_n 1, 1) := by decide +kernel
theorem dX6_dredge_69 : decode cX6_dredge 69 = .ok (.iload_n 2, 1) := by decide +kernel
theorem dX6_dredge_70 : decode cX6_dredge 70 = .ok (.iload_n 3, 1) := by decide +kernel
theorem dX6_dredge_71 : decode cX6_dredge 71 = .ok (.invokevirtual 131, 3) := by decide +kernel
theorem dX6_dredge_74 : decode cX6_dredge 74 = .ok (.ireturn, 1) := by decide +kernel
set_option maxRecDepth 20000 in
theorem ggX6_line_X0_hasField : GoodIn wsX6_line wsX0_hasField := goodIn_r _ [9, 10, 28, 29, 30, 31, 32, 33, 34, 35] (by decide +kernel) (by decide +kernel)
set_option maxRecDepth 20000 in
theorem gX6_line_X0_hasField : GoodIn wsX6_line (wsV RX6 80 RX0 yX0_hasField wsX0_hasField) := goodIn_app (goodIn_of _ (by decide +kernel)) ggX6_line_X0_hasField
set_option maxRecDepth 20000 in
theorem ggX6_line_X2_lineOf : GoodIn wsX6_line wsX2_lineOf := goodIn_r _ [15, 16, 36, 37, 38, 39, 40, 41] (by decide +kernel) (by decide +kernel)
set_option maxRecDepth 20000 in
theorem gX6_line_X2_lineOf : GoodIn wsX6_line (wsV RX6 142 RX2 yX2_lineOf wsX2_lineOf) := goodIn_app (goodIn_of _ (by decide +kernel)) ggX6_line_X2_lineOf
theorem dX6_line_0 : decode cX6_line 0 = .ok (.aload_n 0, 1) := by decide +kernel
theorem dX6_line_1 : decode cX6_line 1 = .ok (.getfield 12, 3) := by decide +kernel
theorem dX6_line_4 : decode cX6_line 4 = .ok (.iload_n 1, 1) := by decide +kernel
theorem dX6_line_5 : decode cX6_line 5 = .ok (.invokevirtual 80, 3) := by decide +kernel
theorem dX6_line_8 : decode cX6_line 8 = .ok (.ifCond .ne 13, 3) := by decide +kernel
theorem dX6_line_11 : decode cX6_line 11 = .ok (.new 135, 3) := by decide +kernel
theorem dX6_line_14 : decode cX6_line 14 = .ok (.dup, 1) := by decide +kernel
theorem dX6_line_15 : decode cX6_line 15 = .ok (.ldc 137, 2) := by decide +kernel
theorem dX6_line_17 : decode cX6_line 17 = .ok (.invokespecial 139, 3) := by decide +kernel
theorem dX6_line_20 : decode cX6_line 20 = .ok (.athrow, 1) := by decide +kernel
theorem dX6_line_21 : decode cX6_line 21 = .ok (.aload_n 0, 1) := by decide +kernel
theorem dX6_line_22 : decode cX6_line 22 = .ok (.getfield 22, 3) := by decide +kernel
theorem dX6_line_25 : decode cX6_line 25 = .ok (.iload_n 1, 1) := by decide +kernel
theorem dX6_line_26 : decode cX6_line 26 = .ok (.invokevirtual 142, 3) := by decide +kernel
theorem dX6_line_29 : decode cX6_line 29 = .ok (.ireturn, 1) := by decide +kernel
set_option maxRecDepth 20000 in
theorem ggX6_look_X0_hasField : GoodIn wsX6_look wsX0_hasField := goodIn_r _ [10, 11, 29, 30, 31, 32, 33, 34, 35, 36] (by decide +kernel) (by decide +kernel)
set_option maxRecDepth 20000 in
theorem gX6_look_X0_hasField : GoodIn wsX6_look (wsV RX6 80 RX0 yX0_hasField wsX0_hasField) := goodIn_app (goodIn_of _ (by decide +kernel)) ggX6_look_X0_hasField
theorem dX6_look_0 : decode cX6_look 0 = .ok (.aload_n 0, 1) := by decide +kernel
theorem dX6_look_1 : decode cX6_look 1 = .ok (.getfield 12, 3) := by decide +kernel
theorem dX6_look_4 : decode cX6_look 4 = .ok (.iload_n 1, 1) := by decide +kernel
theorem dX6_look_5 : decode cX6_look 5 = .ok (.invokevirtual 80, 3) := by decide +kernel
theorem dX6_look_8 : decode cX6_look 8 = .ok (.ifCond .ne 5, 3) := by decide +kernel
theorem dX6_look_11 : decode cX6_look 11 = .ok (.iconst (-1), 1) := by decide +kernel
theorem dX6_look_12 : decode cX6_look 12 = .ok (.ireturn, 1) := by decide +kernel
theorem dX6_look_13 : decode cX6_look 13 = .ok (.iload_n 2, 1) := by decide +kernel
theorem dX6_look_14 : decode cX6_look 14 = .ok (.tableswitch 56 0 2 #[26, 36, 46], 26) := by decide +kernel
theorem dX6_look_40 : decode cX6_look 40 = .ok (.aload_n 0, 1) := by decide +kernel
theorem dX6_look_41 : decode cX6_look 41 = .ok (.getfield 22, 3) := by decide +kernel
theorem dX6_look_44 : decode cX6_look 44 = .ok (.getfield 146, 3) := by decide +kernel
theorem dX6_look_47 : decode cX6_look 47 = .ok (.iload_n 1, 1) := by decide +kernel
theorem dX6_look_48 : decode cX6_look 48 = .ok (.iaload, 1) := by decide +kernel
theorem dX6_look_49 : decode cX6_look 49 = .ok (.ireturn, 1) := by decide +kernel
theorem dX6_look_50 : decode cX6_look 50 = .ok (.aload_n 0, 1) := by decide +kernel
theorem dX6_look_51 : decode cX6_look 51 = .ok (.getfield 22, 3) := by decide +kernel
theorem dX6_look_54 : decode cX6_look 54 = .ok (.getfield 147, 3) := by decide +kernel
theorem dX6_look_57 : decode cX6_look 57 = .ok (.iload_n 1, 1) := by decide +kernel
theorem dX6_look_58 : decode cX6_look 58 = .ok (.iaload, 1) := by decide +kernel
theorem dX6_look_59 : decode cX6_look 59 = .ok (.ireturn, 1) := by decide +kernel
theorem dX6_look_60 : decode cX6_look 60 = .ok (.aload_n 0, 1) := by decide +kernel
theorem dX6_look_61 : decode cX6_look 61 = .ok (.getfield 22, 3) := by decide +kernel
theorem dX6_look_64 : decode cX6_look 64 = .ok (.getfield 150, 3) := by decide +kernel
theorem dX6_look_67 : decode cX6_look 67 = .ok (.iload_n 1, 1) := by decide +kernel
theorem dX6_look_68 : decode cX6_look 68 = .ok (.iaload, 1) := by decide +kernel
theorem dX6_look_69 : decode cX6_look 69 = .ok (.ireturn, 1) := by decide +kernel
theorem dX6_look_70 : decode cX6_look 70 = .ok (.iconst (-1), 1) := by decide +kernel
theorem dX6_look_71 : decode cX6_look 71 = .ok (.ireturn, 1) := by decide +kernel
set_option maxRecDepth 20000 in
theorem ggX6_border_X0_hasBorder : GoodIn wsX6_border wsX0_hasBorder := goodIn_r _ [13, 14, 26, 27, 28, 29, 30, 31, 32, 33] (by decide +kernel) (by decide +kernel)
set_option maxRecDepth 20000 in
theorem gX6_border_X0_hasBorder : GoodIn wsX6_border (wsV RX6 153 RX0 yX0_hasBorder wsX0_hasBorder) := goodIn_app (goodIn_of _ (by decide +kernel)) ggX6_border_X0_hasBorder
theorem dX6_border_0 : decode cX6_border 0 = .ok (.aload_n 0, 1) := by decide +kernel
theorem dX6_border_1 : decode cX6_border 1 = .ok (.getfield 12, 3) := by decide +kernel
theorem dX6_border_4 : decode cX6_border 4 = .ok (.iload_n 1, 1) := by decide +kernel
theorem dX6_border_5 : decode cX6_border 5 = .ok (.invokevirtual 153, 3) := by decide +kernel
theorem dX6_border_8 : decode cX6_border 8 = .ok (.ifCond .ne 15, 3) := by decide +kernel
theorem dX6_border_11 : decode cX6_border 11 = .ok (.iload_n 2, 1) := by decide +kernel
theorem dX6_border_12 : decode cX6_border 12 = .ok (.iconst 3, 1) := by decide +kernel
theorem dX6_border_13 : decode cX6_border 13 = .ok (.if_icmp .ne 8, 3) := by decide +kernel
theorem dX6_border_16 : decode cX6_border 16 = .ok (.ldc 156, 2) := by decide +kernel
theorem dX6_border_18 : decode cX6_border 18 = .ok (.goto 4, 3) := by decide +kernel
theorem dX6_border_21 : decode cX6_border 21 = .ok (.iconst (-1), 1) := by decide +kernel
theorem dX6_border_22 : decode cX6_border 22 = .ok (.ireturn, 1) := by decide +kernel
theorem dX6_border_23 : decode cX6_border 23 = .ok (.aload_n 0, 1) := by decide +kernel
theorem dX6_border_24 : decode cX6_border 24 = .ok (.getfield 12, 3) := by decide +kernel
theorem dX6_border_27 : decode cX6_border 27 = .ok (.getfield 157, 3) := by decide +kernel
theorem dX6_border_30 : decode cX6_border 30 = .ok (.iload_n 1, 1) := by decide +kernel
theorem dX6_border_31 : decode cX6_border 31 = .ok (.iaload, 1) := by decide +kernel
theorem dX6_border_32 : decode cX6_border 32 = .ok (.istore_n 3, 1) := by decide +kernel
theorem dX6_border_33 : decode cX6_border 33 = .ok (.iload_n 2, 1) := by decide +kernel
theorem dX6_border_34 : decode cX6_border 34 = .ok (.tableswitch 94 0 3 #[30, 32, 50, 84], 30) := by decide +kernel
theorem dX6_border_64 : decode cX6_border 64 = .ok (.iload_n 3, 1) := by decide +kernel
theorem dX6_border_65 : decode cX6_border 65 = .ok (.ireturn, 1) := by decide +kernel
theorem dX6_border_66 : decode cX6_border 66 = .ok (.iload_n 3, 1) := by decide +kernel
theorem dX6_border_67 : decode cX6_border 67 = .ok (.ifCond .ne 7, 3) := by decide +kernel
theorem dX6_border_70 : decode cX6_border 70 = .ok (.iconst (-1), 1) := by decide +kernel
theorem dX6_border_71 : decode cX6_border 71 = .ok (.goto 12, 3) := by decide +kernel
theorem dX6_border_74 : decode cX6_border 74 = .ok (.aload_n 0, 1) := by decide +kernel
theorem dX6_border_75 : decode cX6_border 75 = .ok (.getfield 12, 3) := by decide +kernel
theorem dX6_border_78 : decode cX6_border 78 = .ok (.getfield 160, 3) := by decide +kernel
theorem dX6_border_81 : decode cX6_border 81 = .ok (.iload_n 1, 1) := by decide +kernel
theorem dX6_border_82 : decode cX6_border 82 = .ok (.iaload, 1) := by decide +kernel
theorem dX6_border_83 : decode cX6_border 83 = .ok (.ireturn, 1) := by decide +kernel
theorem dX6_border_84 : decode cX6_border 84 = .ok (.iload_n 3, 1) := by decide +kernel
theorem dX6_border_85 : decode cX6_border 85 = .ok (.iconst 2, 1) := by decide +kernel
theorem dX6_border_86 : decode cX6_border 86 = .ok (.if_icmp .ne 13, 3) := by decide +kernel
theorem dX6_border_89 : decode cX6_border 89 = .ok (.aload_n 0, 1) := by decide +kernel
theorem dX6_border_90 : decode cX6_border 90 = .ok (.getfield 22, 3) := by decide +kernel
theorem dX6_border_93 : decode cX6_border 93 = .ok (.getfield 163, 3) := by decide +kernel
theorem dX6_border_96 : decode cX6_border 96 = .ok (.iload_n 1, 1) := by decide +kernel
theorem dX6_border_97 : decode cX6_border 97 = .ok (.iaload, 1) := by decide +kernel
theorem dX6_border_98 : decode cX6_border 98 = .ok (.ireturn, 1) := by decide +kernel
theorem dX6_border_99 : decode cX6_border 99 = .ok (.iload_n 3, 1) := by decide +kernel
theorem dX6_border_100 : decode cX6_border 100 = .ok (.iconst 1, 1) := by decide +kernel
theorem dX6_border_101 : decode cX6_border 101 = .ok (.if_icmp .ne 15, 3) := by decide +kernel
theorem dX6_border_104 : decode cX6_border 104 = .ok (.aload_n 0, 1) := by decide +kernel
theorem dX6_border_105 : decode cX6_border 105 = .ok (.getfield 12, 3) := by decide +kernel
theorem dX6_border_108 : decode cX6_border 108 = .ok (.getfield 166, 3) := by decide +kernel
theorem dX6_border_111 : decode cX6_border 111 = .ok (.iload_n 1, 1) := by decide +kernel
theorem dX6_border_112 : decode cX6_border 112 = .ok (.iaload, 1) := by decide +kernel
theorem dX6_border_113 : decode cX6_border 113 = .ok (.goto 4, 3) := by decide +kernel
theorem dX6_border_116 : decode cX6_border 116 = .ok (.iconst (-1), 1) := by decide +kernel
theorem dX6_border_117 : decode cX6_border 117 = .ok (.ireturn, 1) := by decide +kernel
theorem dX6_border_118 : decode cX6_border 118 = .ok (.aload_n 0, 1) := by decide +kernel
theorem dX6_border_119 : decode cX6_border 119 = .ok (.getfield 22, 3) := by decide +kernel
theorem dX6_border_122 : decode cX6_border 122 = .ok (.getfield 169, 3) := by decide +kernel
theorem dX6_border_125 : decode cX6_border 125 = .ok (.iload_n 1, 1) := by decide +kernel
theorem dX6_border_126 : decode cX6_border 126 = .ok (.iaload, 1) := by decide +kernel
theorem dX6_border_127 : decode cX6_border 127 = .ok (.ireturn, 1) := by decide +kernel
theorem dX6_border_128 : decode cX6_border 128 = .ok (.iconst (-1), 1) := by decide +kernel
theorem dX6_border_129 : decode cX6_border 129 = .ok (.ireturn, 1) := by decide +kernel
set_option maxRecDepth 20000 in
theorem ggX6_without_X0_hasField : GoodIn wsX6_without wsX0_hasField := goodIn_r _ [6, 7, 153, 154, 155, 156, 157, 158, 159, 160] (by decide +kernel) (by decide +kernel)
set_option maxRecDepth 20000 in
theorem gX6_without_X0_hasField : GoodIn wsX6_without (wsV RX6 80 RX0 yX0_hasField wsX0_hasField) := goodIn_app (goodIn_of _ (by decide +kernel)) ggX6_without_X0_hasField
set_option maxRecDepth 20000 in
theorem ggX6_without_X0_hasGroynes : GoodIn wsX6_without wsX0_hasGroynes := goodIn_r _ [11, 7, 12, 153, 154, 155, 156, 157, 158, 159, 160] (by decide +kernel) (by decide +kernel)
set_option maxRecDepth 20000 in
theorem gX6_without_X0_hasGroynes : GoodIn wsX6_without (wsV RX6 172 RX0 yX0_hasGroynes wsX0_hasGroynes) := goodIn_app (goodIn_of _ (by decide +kernel)) ggX6_without_X0_hasGroynes
set_option maxRecDepth 20000 in
theorem ggX6_without_X6_lineLeavingAway : GoodIn wsX6_without wsX6_lineLeavingAway := goodIn_r _ [17, 18, 1, 19, 20, 21, 22, 23, 5, 24, 7, 25, 26, 27, 28, 29, 30, 31, 32, 12, 33, 34, 35, 36, 37, 38, 39, 40, 41, 42, 43, 44, 45, 46, 47, 48, 49, 50, 51, 52, 53, 54, 55, 56, 57, 58, 59, 60, 61, 16, 62, 63, 64, 65, 66, 67, 68, 69, 70, 71, 72, 73, 74, 75, 76, 77, 78, 79, 80, 81, 82, 83, 84, 85, 86, 87, 88, 89, 90, 91, 92, 93, 94, 95, 96, 97, 98, 99, 100, 101, 102, 103, 104, 105, 106, 107, 108, 109, 110, 111, 112, 113, 114, 115, 116, 117, 118, 119, 120, 121, 122, 123, 124, 125, 126, 127, 128, 129, 130, 131, 132, 133, 134, 135, 136, 137, 138, 139, 140, 141, 142, 143, 144, 145, 146, 147, 148, 149, 150, 151, 152, 153, 154, 155, 156, 157, 158, 159, 160, 161, 162, 163, 164, 165, 166, 167, 168, 169, 170, 171, 172, 173, 174] (by decide +kernel) (by decide +kernel)
set_option maxRecDepth 20000 in
theorem gX6_without_X6_lineLeavingAway : GoodIn wsX6_without (wsV RX6 175 RX6 yX6_lineLeavingAway wsX6_lineLeavingAway) := goodIn_app (goodIn_of _ (by decide +kernel)) ggX6_without_X6_lineLeavingAway
theorem dX6_without_0 : decode cX6_without 0 = .ok (.aload_n 0, 1) := by decide +kernel
theorem dX6_without_1 : decode cX6_without 1 = .ok (.getfield 12, 3) := by decide +kernel
theorem dX6_without_4 : decode cX6_without 4 = .ok (.iload_n 2, 1) := by decide +kernel
theorem dX6_without_5 : decode cX6_without 5 = .ok (.invokevirtual 80, 3) := by decide +kernel
theorem dX6_without_8 : decode cX6_without 8 = .ok (.ifCond .eq 14, 3) := by decide +kernel
theorem dX6_without_11 : decode cX6_without 11 = .ok (.aload_n 0, 1) := by decide +kernel
theorem dX6_without_12 : decode cX6_without 12 = .ok (.getfield 12, 3) := by decide +kernel
theorem dX6_without_15 : decode cX6_without 15 = .ok (.iload_n 1, 1) := by decide +kernel
theorem dX6_without_16 : decode cX6_without 16 = .ok (.invokevirtual 172, 3) := by decide +kernel
theorem dX6_without_19 : decode cX6_without 19 = .ok (.ifCond .ne 5, 3) := by decide +kernel
theorem dX6_without_22 : decode cX6_without 22 = .ok (.iconst (-1), 1) := by decide +kernel
theorem dX6_without_23 : decode cX6_without 23 = .ok (.ireturn, 1) := by decide +kernel
theorem dX6_without_24 : decode cX6_without 24 = .ok (.aload_n 0, 1) := by decide +kernel
theorem dX6_without_25 : decode cX6_without 25 = .ok (.iload_n 1, 1) := by decide +kernel
theorem dX6_without_26 : decode cX6_without 26 = .ok (.iload_n 2, 1) := by decide +kernel
theorem dX6_without_27 : decode cX6_without 27 = .ok (.invokevirtual 175, 3) := by decide +kernel
theorem dX6_without_30 : decode cX6_without 30 = .ok (.ireturn, 1) := by decide +kernel
set_option maxRecDepth 20000 in
theorem ggX6_share_X0_hasField : GoodIn wsX6_share wsX0_hasField := goodIn_r _ [8, 9, 169, 170, 171, 172, 173, 174, 175, 176] (by decide +kernel) (by decide +kernel)
set_option maxRecDepth 20000 in
theorem gX6_share_X0_hasField : GoodIn wsX6_share (wsV RX6 80 RX0 yX0_hasField wsX0_hasField) := goodIn_app (goodIn_of _ (by decide +kernel)) ggX6_share_X0_hasField
set_option maxRecDepth 20000 in
theorem ggX6_share_X0_hasGroynes : GoodIn wsX6_share wsX0_hasGroynes := goodIn_r _ [13, 9, 14, 169, 170, 171, 172, 173, 174, 175, 176] (by decide +kernel) (by decide +kernel)
set_option maxRecDepth 20000 in
theorem gX6_share_X0_hasGroynes : GoodIn wsX6_share (wsV RX6 172 RX0 yX0_hasGroynes wsX0_hasGroynes) := goodIn_app (goodIn_of _ (by decide +kernel)) ggX6_share_X0_hasGroynes
set_option maxRecDepth 20000 in
theorem ggX6_share_J6_bitCount_0f7a4 : GoodIn wsX6_share wsJ6_bitCount_0f7a4 := goodIn_r _ [18, 19, 20, 21] (by decide +kernel) (by decide +kernel)
set_option maxRecDepth 20000 in
theorem gX6_share_J6_bitCount_0f7a4 : GoodIn wsX6_share (va_wsS RX6 179 yJ6_bitCount_0f7a4 wsJ6_bitCount_0f7a4) := goodIn_app (goodIn_of _ (by decide +kernel)) ggX6_share_J6_bitCount_0f7a4
set_option maxRecDepth 20000 in
theorem ggX6_share_X0_hasBorder : GoodIn wsX6_share wsX0_hasBorder := goodIn_r _ [25, 9, 169, 170, 171, 172, 173, 174, 175, 176] (by decide +kernel) (by decide +kernel)
set_option maxRecDepth 20000 in
theorem gX6_share_X0_hasBorder : GoodIn wsX6_share (wsV RX6 153 RX0 yX0_hasBorder wsX0_hasBorder) := goodIn_app (goodIn_of _ (by decide +kernel)) ggX6_share_X0_hasBorder
set_option maxRecDepth 20000 in
theorem ggX6_share_X6_factorial : GoodIn wsX6_share wsX6_factorial := goodIn_r _ [29] (by decide +kernel) (by decide +kernel)
set_option maxRecDepth 20000 in
theorem gX6_share_X6_factorial : GoodIn wsX6_share (va_wsS RX6 188 yX6_factorial wsX6_factorial) := goodIn_app (goodIn_of _ (by decide +kernel)) ggX6_share_X6_factorial
set_option maxRecDepth 20000 in
theorem ggX6_share_X6_lineLeavingAway : GoodIn wsX6_share wsX6_lineLeavingAway := goodIn_r _ [33, 34, 3, 35, 36, 37, 38, 39, 7, 40, 9, 41, 42, 43, 44, 45, 46, 47, 48, 14, 49, 50, 51, 52, 53, 54, 55, 56, 57, 58, 59, 60, 61, 62, 63, 64, 65, 66, 67, 68, 69, 70, 71, 72, 73, 74, 75, 76, 77, 28, 78, 79, 80, 81, 82, 83, 84, 85, 86, 87, 88, 89, 90, 91, 92, 93, 94, 95, 96, 97, 98, 99, 100, 101, 102, 103, 104, 105, 106, 107, 108, 109, 110, 111, 112, 113, 114, 115, 116, 117, 118, 119, 120, 121, 122, 123, 124, 125, 126, 127, 128, 129, 130, 131, 132, 133, 134, 135, 136, 137, 138, 139, 140, 141, 142, 143, 144, 145, 146, 147, 148, 149, 150, 151, 152, 153, 154, 155, 156, 157, 158, 159, 160, 161, 162, 163, 164, 165, 166, 167, 168, 169, 170, 171, 172, 173, 174, 175, 176, 177, 178, 179, 180, 181, 182, 183, 184, 185, 186, 187, 188, 189, 190] (by decide +kernel) (by decide +kernel)
set_option maxRecDepth 20000 in
theorem gX6_share_X6_lineLeavingAway : GoodIn wsX6_share (wsV RX6 175 RX6 yX6_lineLeavingAway wsX6_lineLeavingAway) := goodIn_app (goodIn_of _ (by decide +kernel)) ggX6_share_X6_lineLeavingAway
theorem dX6_share_0 : decode cX6_share 0 = .ok (.aload_n 0, 1) := by decide +kernel
theorem dX6_share_1 : decode cX6_share 1 = .ok (.getfield 12, 3) := by decide +kernel
theorem dX6_share_4 : decode cX6_share 4 = .ok (.iload_n 3, 1) := by decide +kernel
theorem dX6_share_5 : decode cX6_share 5 = .ok (.invokevirtual 80, 3) := by decide +kernel
theorem dX6_share_8 : decode cX6_share 8 = .ok (.ifCond .eq 22, 3) := by decide +kernel
theorem dX6_share_11 : decode cX6_share 11 = .ok (.aload_n 0, 1) := by decide +kernel
theorem dX6_share_12 : decode cX6_share 12 = .ok (.getfield 12, 3) := by decide +kernel
theorem dX6_share_15 : decode cX6_share 15 = .ok (.iload_n 2, 1) := by decide +kernel
theorem dX6_share_16 : decode cX6_share 16 = .ok (.invokevirtual 172, 3) := by decide +kernel
theorem dX6_share_19 : decode cX6_share 19 = .ok (.ifCond .eq 11, 3) := by decide +kernel
theorem dX6_share_22 : decode cX6_share 22 = .ok (.iload_n 2, 1) := by decide +kernel
theorem dX6_share_23 : decode cX6_share 23 = .ok (.invokestatic 179, 3) := by decide +kernel
theorem dX6_share_26 : decode cX6_share 26 = .ok (.iconst 4, 1) := by decide +kernel
theorem dX6_share_27 : decode cX6_share 27 = .ok (.if_icmp .le 13, 3) := by decide +kernel
theorem dX6_share_30 : decode cX6_share 30 = .ok (.new 135, 3) := by decide +kernel
theorem dX6_share_33 : decode cX6_share 33 = .ok (.dup, 1) := by decide +kernel
theorem dX6_share_34 : decode cX6_share 34 = .ok (.ldc 184, 2) := by decide +kernel
theorem dX6_share_36 : decode cX6_share 36 = .ok (.invokespecial 139, 3) := by decide +kernel
theorem dX6_share_39 : decode cX6_share 39 = .ok (.athrow, 1) := by decide +kernel
theorem dX6_share_40 : decode cX6_share 40 = .ok (.aload_n 0, 1) := by decide +kernel
theorem dX6_share_41 : decode cX6_share 41 = .ok (.getfield 12, 3) := by decide +kernel
theorem dX6_share_44 : decode cX6_share 44 = .ok (.iload_n 1, 1) := by decide +kernel
theorem dX6_share_45 : decode cX6_share 45 = .ok (.invokevirtual 153, 3) := by decide +kernel
theorem dX6_share_48 : decode cX6_share 48 = .ok (.ifCond .eq 11, 3) := by decide +kernel
theorem dX6_share_51 : decode cX6_share 51 = .ok (.iload_n 2, 1) := by decide +kernel
theorem dX6_share_52 : decode cX6_share 52 = .ok (.iconst 1, 1) := by decide +kernel
theorem dX6_share_53 : decode cX6_share 53 = .ok (.iload_n 1, 1) := by decide +kernel
theorem dX6_share_54 : decode cX6_share 54 = .ok (.ishl, 1) := by decide +kernel
theorem dX6_share_55 : decode cX6_share 55 = .ok (.iand, 1) := by decide +kernel
theorem dX6_share_56 : decode cX6_share 56 = .ok (.ifCond .ne 13, 3) := by decide +kernel
theorem dX6_share_59 : decode cX6_share 59 = .ok (.new 135, 3) := by decide +kernel
theorem dX6_share_62 : decode cX6_share 62 = .ok (.dup, 1) := by decide +kernel
theorem dX6_share_63 : decode cX6_share 63 = .ok (.ldc 186, 2) := by decide +kernel
theorem dX6_share_65 : decode cX6_share 65 = .ok (.invokespecial 139, 3) := by decide +kernel
theorem dX6_share_68 : decode cX6_share 68 = .ok (.athrow, 1) := by decide +kernel
theorem dX6_share_69 : decode cX6_share 69 = .ok (.iconst 1, 1) := by decide +kernel
theorem dX6_share_70 : decode cX6_share 70 = .ok (.iload_n 1, 1) := by decide +kernel
theorem dX6_share_71 : decode cX6_share 71 = .ok (.ishl, 1) := by decide +kernel
theorem dX6_share_72 : decode cX6_share 72 = .ok (.istore 4, 2) := by decide +kernel
theorem dX6_share_74 : decode cX6_share 74 = .ok (.iload_n 2, 1) := by decide +kernel
theorem dX6_share_75 : decode cX6_share 75 = .ok (.iload 4, 2) := by decide +kernel
theorem dX6_share_77 : decode cX6_share 77 = .ok (.iconst (-1), 1) := by decide +kernel
theorem dX6_share_78 : decode cX6_share 78 = .ok (.ixor, 1) := by decide +kernel
theorem dX6_share_79 : decode cX6_share 79 = .ok (.iand, 1) := by decide +kernel
theorem dX6_share_80 : decode cX6_share 80 = .ok (.istore 5, 2) := by decide +kernel
theorem dX6_share_82 : decode cX6_share 82 = .ok (.iload 5, 2) := by decide +kernel
theorem dX6_share_84 : decode cX6_share 84 = .ok (.invokestatic 179, 3) := by decide +kernel
theorem dX6_share_87 : decode cX6_share 87 = .ok (.istore 6, 2) := by decide +kernel
theorem dX6_share_89 : decode cX6_share 89 = .ok (.iconst 0, 1) := by decide +kernel
theorem dX6_share_90 : decode cX6_share 90 = .ok (.istore 7, 2) := by decide +kernel
theorem dX6_share_92 : decode cX6_share 92 = .ok (.iconst 0, 1) := by decide +kernel
theorem dX6_share_93 : decode cX6_share 93 = .ok (.istore 8, 2) := by decide +kernel
theorem dX6_share_95 : decode cX6_share 95 = .ok (.iload 8, 2) := by decide +kernel
theorem dX6_share_97 : decode cX6_share 97 = .ok (.iload 5, 2) := by decide +kernel
theorem dX6_share_99 : decode cX6_share 99 = .ok (.if_icmp .gt 68, 3) := by decide +kernel
theorem dX6_share_102 : decode cX6_share 102 = .ok (.iload 8, 2) := by decide +kernel
theorem dX6_share_104 : decode cX6_share 104 = .ok (.iload 5, 2) := by decide +kernel
theorem dX6_share_106 : decode cX6_share 106 = .ok (.iand, 1) := by decide +kernel
theorem dX6_share_107 : decode cX6_share 107 = .ok (.iload 8, 2) := by decide +kernel
theorem dX6_share_109 : decode cX6_share 109 = .ok (.if_icmp .ne 52, 3) := by decide +kernel
theorem dX6_share_112 : decode cX6_share 112 = .ok (.iload 8, 2) := by decide +kernel
theorem dX6_share_114 : decode cX6_share 114 = .ok (.invokestatic 179, 3) := by decide +kernel
theorem dX6_share_117 : decode cX6_share 117 = .ok (.istore 9, 2) := by decide +kernel
theorem dX6_share_119 : decode cX6_share 119 = .ok (.iload 9, 2) := by decide +kernel
theorem dX6_share_121 : decode cX6_share 121 = .ok (.invokestatic 188, 3) := by decide +kernel
theorem dX6_share_124 : decode cX6_share 124 = .ok (.iload 6, 2) := by decide +kernel
theorem dX6_share_126 : decode cX6_share 126 = .ok (.iload 9, 2) := by decide +kernel
theorem dX6_share_128 : decode cX6_share 128 = .ok (.isub, 1) := by decide +kernel
theorem dX6_share_129 : decode cX6_share 129 = .ok (.invokestatic 188, 3) := by decide +kernel
theorem dX6_share_132 : decode cX6_share 132 = .ok (.imul, 1) := by decide +kernel
theorem dX6_share_133 : decode cX6_share 133 = .ok (.istore 10, 2) := by decide +kernel
theorem dX6_share_135 : decode cX6_share 135 = .ok (.iload 7, 2) := by decide +kernel
theorem dX6_share_137 : decode cX6_share 137 = .ok (.iload 10, 2) := by decide +kernel
theorem dX6_share_139 : decode cX6_share 139 = .ok (.aload_n 0, 1) := by decide +kernel
theorem dX6_share_140 : decode cX6_share 140 = .ok (.iload 8, 2) := by decide +kernel
theorem dX6_share_142 : decode cX6_share 142 = .ok (.iload 4, 2) := by decide +kernel
theorem dX6_share_144 : decode cX6_share 144 = .ok (.ior, 1) := by decide +kernel
theorem dX6_share_145 : decode cX6_share 145 = .ok (.iload_n 3, 1) := by decide +kernel
theorem dX6_share_146 : decode cX6_share 146 = .ok (.invokevirtual 175, 3) := by decide +kernel
theorem dX6_share_149 : decode cX6_share 149 = .ok (.aload_n 0, 1) := by decide +kernel
theorem dX6_share_150 : decode cX6_share 150 = .ok (.iload 8, 2) := by decide +kernel
theorem dX6_share_152 : decode cX6_share 152 = .ok (.iload_n 3, 1) := by decide +kernel
theorem dX6_share_153 : decode cX6_share 153 = .ok (.invokevirtual 175, 3) := by decide +kernel
theorem dX6_share_156 : decode cX6_share 156 = .ok (.isub, 1) := by decide +kernel
theorem dX6_share_157 : decode cX6_share 157 = .ok (.imul, 1) := by decide +kernel
theorem dX6_share_158 : decode cX6_share 158 = .ok (.iadd, 1) := by decide +kernel
theorem dX6_share_159 : decode cX6_share 159 = .ok (.istore 7, 2) := by decide +kernel
theorem dX6_share_161 : decode cX6_share 161 = .ok (.iinc 8 1, 3) := by decide +kernel
theorem dX6_share_164 : decode cX6_share 164 = .ok (.goto (-69), 3) := by decide +kernel
theorem dX6_share_167 : decode cX6_share 167 = .ok (.iload 7, 2) := by decide +kernel
theorem dX6_share_169 : decode cX6_share 169 = .ok (.ireturn, 1) := by decide +kernel
set_option maxRecDepth 20000 in
theorem ggX6_work_X6_isWithin : GoodIn wsX6_work wsX6_isWithin := goodIn_r _ [8] (by decide +kernel) (by decide +kernel)
set_option maxRecDepth 20000 in
theorem gX6_work_X6_isWithin : GoodIn wsX6_work (va_wsS RX6 73 yX6_isWithin wsX6_isWithin) := goodIn_app (goodIn_of _ (by decide +kernel)) ggX6_work_X6_isWithin
set_option maxRecDepth 20000 in
theorem ggX6_work_X0_hasField : GoodIn wsX6_work wsX0_hasField := goodIn_r _ [13, 14, 50, 51, 52, 53, 54, 55, 56, 57] (by decide +kernel) (by decide +kernel)
set_option maxRecDepth 20000 in
theorem gX6_work_X0_hasField : GoodIn wsX6_work (wsV RX6 80 RX0 yX0_hasField wsX0_hasField) := goodIn_app (goodIn_of _ (by decide +kernel)) ggX6_work_X0_hasField
set_option maxRecDepth 20000 in
theorem ggX6_work_X0_hasAt : GoodIn wsX6_work wsX0_hasAt := goodIn_r _ [18, 19, 20, 21, 22, 12, 23, 14, 50, 51, 52, 53, 54, 55, 56, 57] (by decide +kernel) (by decide +kernel)
set_option maxRecDepth 20000 in
theorem gX6_work_X0_hasAt : GoodIn wsX6_work (wsV RX6 124 RX0 yX0_hasAt wsX0_hasAt) := goodIn_app (goodIn_of _ (by decide +kernel)) ggX6_work_X0_hasAt
set_option maxRecDepth 20000 in
theorem ggX6_work_X5_add : GoodIn wsX6_work wsX5_add := goodIn_r _ [28, 29, 30, 31, 32, 33, 45, 46, 47, 48, 49] (by decide +kernel) (by decide +kernel)
set_option maxRecDepth 20000 in
theorem gX6_work_X5_add : GoodIn wsX6_work (wsV RX6 192 RX5 yX5_add wsX5_add) := goodIn_app (goodIn_of _ (by decide +kernel)) ggX6_work_X5_add
theorem dX6_work_0 : decode cX6_work 0 = .ok (.iload 4, 2) := by decide +kernel
theorem dX6_work_2 : decode cX6_work 2 = .ok (.iconst 1, 1) := by decide +kernel
theorem dX6_work_3 : decode cX6_work 3 = .ok (.sipush 999, 3) := by decide +kernel
theorem dX6_work_6 : decode cX6_work 6 = .ok (.invokestatic 73, 3) := by decide +kernel
theorem dX6_work_9 : decode cX6_work 9 = .ok (.ifCond .eq 15, 3) := by decide +kernel
theorem dX6_work_12 : decode cX6_work 12 = .ok (.aload_n 0, 1) := by decide +kernel
theorem dX6_work_13 : decode cX6_work 13 = .ok (.getfield 46, 3) := by decide +kernel
theorem dX6_work_16 : decode cX6_work 16 = .ok (.getfield 191, 3) := by decide +kernel
theorem dX6_work_19 : decode cX6_work 19 = .ok (.bipush 6, 2) := by decide +kernel
theorem dX6_work_21 : decode cX6_work 21 = .ok (.if_icmp .lt 5, 3) := by decide +kernel
theorem dX6_work_24 : decode cX6_work 24 = .ok (.iconst (-1), 1) := by decide +kernel
theorem dX6_work_25 : decode cX6_work 25 = .ok (.ireturn, 1) := by decide +kernel
theorem dX6_work_26 : decode cX6_work 26 = .ok (.iload_n 1, 1) := by decide +kernel
theorem dX6_work_27 : decode cX6_work 27 = .ok (.ifCond .ne 29, 3) := by decide +kernel
theorem dX6_work_30 : decode cX6_work 30 = .ok (.aload_n 0, 1) := by decide +kernel
theorem dX6_work_31 : decode cX6_work 31 = .ok (.getfield 12, 3) := by decide +kernel
theorem dX6_work_34 : decode cX6_work 34 = .ok (.iload_n 2, 1) := by decide +kernel
theorem dX6_work_35 : decode cX6_work 35 = .ok (.invokevirtual 80, 3) := by decide +kernel
theorem dX6_work_38 : decode cX6_work 38 = .ok (.ifCond .eq 18, 3) := by decide +kernel
theorem dX6_work_41 : decode cX6_work 41 = .ok (.iload_n 3, 1) := by decide +kernel
theorem dX6_work_42 : decode cX6_work 42 = .ok (.iconst 1, 1) := by decide +kernel
theorem dX6_work_43 : decode cX6_work 43 = .ok (.sipush 9999, 3) := by decide +kernel
theorem dX6_work_46 : decode cX6_work 46 = .ok (.invokestatic 73, 3) := by decide +kernel
theorem dX6_work_49 : decode cX6_work 49 = .ok (.ifCond .eq 7, 3) := by decide +kernel
theorem dX6_work_52 : decode cX6_work 52 = .ok (.iconst 1, 1) := by decide +kernel
theorem dX6_work_53 : decode cX6_work 53 = .ok (.goto 4, 3) := by decide +kernel
theorem dX6_work_56 : decode cX6_work 56 = .ok (.iconst 0, 1) := by decide +kernel
theorem dX6_work_57 : decode cX6_work 57 = .ok (.istore 5, 2) := by decide +kernel
theorem dX6_work_59 : decode cX6_work 59 = .ok (.iload_n 1, 1) := by decide +kernel
theorem dX6_work_60 : decode cX6_work 60 = .ok (.iconst 1, 1) := by decide +kernel
theorem dX6_work_61 : decode cX6_work 61 = .ok (.if_icmp .ne 30, 3) := by decide +kernel
theorem dX6_work_64 : decode cX6_work 64 = .ok (.aload_n 0, 1) := by decide +kernel
theorem dX6_work_65 : decode cX6_work 65 = .ok (.getfield 12, 3) := by decide +kernel
theorem dX6_work_68 : decode cX6_work 68 = .ok (.iload_n 2, 1) := by decide +kernel
theorem dX6_work_69 : decode cX6_work 69 = .ok (.iconst 1, 1) := by decide +kernel
theorem dX6_work_70 : decode cX6_work 70 = .ok (.invokevirtual 124, 3) := by decide +kernel
theorem dX6_work_73 : decode cX6_work 73 = .ok (.ifCond .eq 18, 3) := by decide +kernel
theorem dX6_work_76 : decode cX6_work 76 = .ok (.iload_n 3, 1) := by decide +kernel
theorem dX6_work_77 : decode cX6_work 77 = .ok (.iconst 1, 1) := by decide +kernel
theorem dX6_work_78 : decode cX6_work 78 = .ok (.sipush 999, 3) := by decide +kernel
theorem dX6_work_81 : decode cX6_work 81 = .ok (.invokestatic 73, 3) := by decide +kernel
theorem dX6_work_84 : decode cX6_work 84 = .ok (.ifCond .eq 7, 3) := by decide +kernel
theorem dX6_work_87 : decode cX6_work 87 = .ok (.iconst 1, 1) := by decide +kernel
theorem dX6_work_88 : decode cX6_work 88 = .ok (.goto 4, 3) := by decide +kernel
theorem dX6_work_91 : decode cX6_work 91 = .ok (.iconst 0, 1) := by decide +kernel
theorem dX6_work_92 : decode cX6_work 92 = .ok (.istore 6, 2) := by decide +kernel
theorem dX6_work_94 : decode cX6_work 94 = .ok (.iload 5, 2) := by decide +kernel
theorem dX6_work_96 : decode cX6_work 96 = .ok (.ifCond .ne 10, 3) := by decide +kernel
theorem dX6_work_99 : decode cX6_work 99 = .ok (.iload 6, 2) := by decide +kernel
theorem dX6_work_101 : decode cX6_work 101 = .ok (.ifCond .ne 5, 3) := by decide +kernel
theorem dX6_work_104 : decode cX6_work 104 = .ok (.iconst (-1), 1) := by decide +kernel
theorem dX6_work_105 : decode cX6_work 105 = .ok (.ireturn, 1) := by decide +kernel
theorem dX6_work_106 : decode cX6_work 106 = .ok (.aload_n 0, 1) := by decide +kernel
theorem dX6_work_107 : decode cX6_work 107 = .ok (.getfield 46, 3) := by decide +kernel
theorem dX6_work_110 : decode cX6_work 110 = .ok (.iload_n 1, 1) := by decide +kernel
theorem dX6_work_111 : decode cX6_work 111 = .ok (.iload_n 2, 1) := by decide +kernel
theorem dX6_work_112 : decode cX6_work 112 = .ok (.iload_n 3, 1) := by decide +kernel
theorem dX6_work_113 : decode cX6_work 113 = .ok (.iload 4, 2) := by decide +kernel
theorem dX6_work_115 : decode cX6_work 115 = .ok (.invokevirtual 192, 3) := by decide +kernel
theorem dX6_work_118 : decode cX6_work 118 = .ok (.aload_n 0, 1) := by decide +kernel
theorem dX6_work_119 : decode cX6_work 119 = .ok (.iconst 1, 1) := by decide +kernel
theorem dX6_work_120 : decode cX6_work 120 = .ok (.putfield 65, 3) := by decide +kernel
theorem dX6_work_123 : decode cX6_work 123 = .ok (.aload_n 0, 1) := by decide +kernel
theorem dX6_work_124 : decode cX6_work 124 = .ok (.getfield 46, 3) := by decide +kernel
theorem dX6_work_127 : decode cX6_work 127 = .ok (.getfield 191, 3) := by decide +kernel
theorem dX6_work_130 : decode cX6_work 130 = .ok (.iconst 1, 1) := by decide +kernel
theorem dX6_work_131 : decode cX6_work 131 = .ok (.isub, 1) := by decide +kernel
theorem dX6_work_132 : decode cX6_work 132 = .ok (.ireturn, 1) := by decide +kernel
set_option maxRecDepth 20000 in
theorem ggX6_mark_X0_hasField : GoodIn wsX6_mark wsX0_hasField := goodIn_r _ [8, 9, 25, 26, 27, 28, 29, 30, 31, 32] (by decide +kernel) (by decide +kernel)
set_option maxRecDepth 20000 in
theorem gX6_mark_X0_hasField : GoodIn wsX6_mark (wsV RX6 80 RX0 yX0_hasField wsX0_hasField) := goodIn_app (goodIn_of _ (by decide +kernel)) ggX6_mark_X0_hasField
set_option maxRecDepth 20000 in
theorem ggX6_mark_X6_isWithin : GoodIn wsX6_mark wsX6_isWithin := goodIn_r _ [13] (by decide +kernel) (by decide +kernel)
set_option maxRecDepth 20000 in
theorem gX6_mark_X6_isWithin : GoodIn wsX6_mark (va_wsS RX6 73 yX6_isWithin wsX6_isWithin) := goodIn_app (goodIn_of _ (by decide +kernel)) ggX6_mark_X6_isWithin
theorem dX6_mark_0 : decode cX6_mark 0 = .ok (.aload_n 0, 1) := by decide +kernel
theorem dX6_mark_1 : decode cX6_mark 1 = .ok (.getfield 12, 3) := by decide +kernel
theorem dX6_mark_4 : decode cX6_mark 4 = .ok (.iload_n 1, 1) := by decide +kernel
theorem dX6_mark_5 : decode cX6_mark 5 = .ok (.invokevirtual 80, 3) := by decide +kernel
theorem dX6_mark_8 : decode cX6_mark 8 = .ok (.ifCond .eq 14, 3) := by decide +kernel
theorem dX6_mark_11 : decode cX6_mark 11 = .ok (.iload_n 2, 1) := by decide +kernel
theorem dX6_mark_12 : decode cX6_mark 12 = .ok (.iconst 0, 1) := by decide +kernel
theorem dX6_mark_13 : decode cX6_mark 13 = .ok (.sipush 9999, 3) := by decide +kernel
theorem dX6_mark_16 : decode cX6_mark 16 = .ok (.invokestatic 73, 3) := by decide +kernel
theorem dX6_mark_19 : decode cX6_mark 19 = .ok (.ifCond .ne 5, 3) := by decide +kernel
theorem dX6_mark_22 : decode cX6_mark 22 = .ok (.iconst 0, 1) := by decide +kernel
theorem dX6_mark_23 : decode cX6_mark 23 = .ok (.ireturn, 1) := by decide +kernel
theorem dX6_mark_24 : decode cX6_mark 24 = .ok (.aload_n 0, 1) := by decide +kernel
theorem dX6_mark_25 : decode cX6_mark 25 = .ok (.getfield 57, 3) := by decide +kernel
theorem dX6_mark_28 : decode cX6_mark 28 = .ok (.iload_n 1, 1) := by decide +kernel
theorem dX6_mark_29 : decode cX6_mark 29 = .ok (.iload_n 2, 1) := by decide +kernel
theorem dX6_mark_30 : decode cX6_mark 30 = .ok (.iastore, 1) := by decide +kernel
theorem dX6_mark_31 : decode cX6_mark 31 = .ok (.aload_n 0, 1) := by decide +kernel
theorem dX6_mark_32 : decode cX6_mark 32 = .ok (.iconst 1, 1) := by decide +kernel
theorem dX6_mark_33 : decode cX6_mark 33 = .ok (.putfield 65, 3) := by decide +kernel
theorem dX6_mark_36 : decode cX6_mark 36 = .ok (.iconst 1, 1) := by decide +kernel
theorem dX6_mark_37 : decode cX6_mark 37 = .ok (.ireturn, 1) := by decide +kernel
set_option maxRecDepth 20000 in
theorem ggX6_works_X5_priceOf : GoodIn wsX6_works wsX5_priceOf := goodIn_r _ [7, 8, 9, 171, 172, 173, 174, 175] (by decide +kernel) (by decide +kernel)
set_option maxRecDepth 20000 in
theorem gX6_works_X5_priceOf : GoodIn wsX6_works (wsV RX6 193 RX5 yX5_priceOf wsX5_priceOf) := goodIn_app (goodIn_of _ (by decide +kernel)) ggX6_works_X5_priceOf
set_option maxRecDepth 20000 in
theorem ggX6_works_X6_keepsMarks : GoodIn wsX6_works wsX6_keepsMarks := goodIn_r _ [14, 15, 16, 1, 17, 18, 19, 20, 21, 22, 23, 24, 25, 26, 27, 28, 29, 30, 31, 32, 33, 34, 35, 36, 37, 38, 39, 40, 41, 6, 42, 8, 43, 44, 45, 46, 47, 48, 49, 50, 51, 52, 53, 54, 55, 56, 57, 58, 59, 60, 61, 62, 63, 64, 65, 66, 67, 68, 69, 70, 71, 72, 73, 74, 75, 76, 77, 78, 79, 80, 81, 82, 83, 13, 84, 85, 86, 87, 88, 89, 90, 91, 92, 93, 94, 95, 96, 97, 98, 99, 100, 101, 102, 103, 104, 105, 106, 107, 108, 109, 110, 111, 112, 113, 114, 115, 116, 117, 118, 119, 120, 121, 122, 123, 124, 125, 126, 127, 128, 129, 130, 131, 132, 133, 134, 135, 136, 137, 138, 139, 140, 141, 142, 143, 144, 145, 146, 147, 148, 149, 150, 151, 152, 153, 154, 155, 156, 157, 158, 159, 160, 161, 162, 163, 164, 165, 166, 167, 168, 169, 170, 176, 177, 178, 179, 180, 181, 182, 183, 184, 185, 186, 171, 172, 173, 174, 175, 187, 188, 189, 190, 191, 192, 193, 194, 195, 196, 197] (by decide +kernel) (by decide +kernel)
set_option maxRecDepth 20000 in
theorem gX6_works_X6_keepsMarks : GoodIn wsX6_works (wsV RX6 196 RX6 yX6_keepsMarks wsX6_keepsMarks) := goodIn_app (goodIn_of _ (by decide +kernel)) ggX6_works_X6_keepsMarks
theorem dX6_works_0 : decode cX6_works 0 = .ok (.iconst (-1), 1) := by decide +kernel
theorem dX6_works_1 : decode cX6_works 1 = .ok (.istore_n 1, 1) := by decide +kernel
theorem dX6_works_2 : decode cX6_works 2 = .ok (.iconst 0, 1) := by decide +kernel
theorem dX6_works_3 : decode cX6_works 3 = .ok (.istore_n 2, 1) := by decide +kernel
theorem dX6_works_4 : decode cX6_works 4 = .ok (.iconst 1, 1) := by decide +kernel
theorem dX6_works_5 : decode cX6_works 5 = .ok (.aload_n 0, 1) := by decide +kernel
theorem dX6_works_6 : decode cX6_works 6 = .ok (.getfield 46, 3) := by decide +kernel
theorem dX6_works_9 : decode cX6_works 9 = .ok (.getfield 191, 3) := by decide +kernel
theorem dX6_works_12 : decode cX6_works 12 = .ok (.ishl, 1) := by decide +kernel
theorem dX6_works_13 : decode cX6_works 13 = .ok (.istore_n 3, 1) := by decide +kernel
theorem dX6_works_14 : decode cX6_works 14 = .ok (.iconst 0, 1) := by decide +kernel
theorem dX6_works_15 : decode cX6_works 15 = .ok (.istore 4, 2) := by decide +kernel
theorem dX6_works_17 : decode cX6_works 17 = .ok (.iload 4, 2) := by decide +kernel
theorem dX6_works_19 : decode cX6_works 19 = .ok (.iload_n 3, 1) := by decide +kernel
theorem dX6_works_20 : decode cX6_works 20 = .ok (.if_icmp .ge 46, 3) := by decide +kernel
theorem dX6_works_23 : decode cX6_works 23 = .ok (.aload_n 0, 1) := by decide +kernel
theorem dX6_works_24 : decode cX6_works 24 = .ok (.getfield 46, 3) := by decide +kernel
theorem dX6_works_27 : decode cX6_works 27 = .ok (.iload 4, 2) := by decide +kernel
theorem dX6_works_29 : decode cX6_works 29 = .ok (.invokevirtual 193, 3) := by decide +kernel
theorem dX6_works_32 : decode cX6_works 32 = .ok (.istore 5, 2) := by decide +kernel
theorem dX6_works_34 : decode cX6_works 34 = .ok (.iload_n 1, 1) := by decide +kernel
theorem dX6_works_35 : decode cX6_works 35 = .ok (.iconst (-1), 1) := by decide +kernel
theorem dX6_works_36 : decode cX6_works 36 = .ok (.if_icmp .eq 9, 3) := by decide +kernel
theorem dX6_works_39 : decode cX6_works 39 = .ok (.iload 5, 2) := by decide +kernel
theorem dX6_works_41 : decode cX6_works 41 = .ok (.iload_n 2, 1) := by decide +kernel
theorem dX6_works_42 : decode cX6_works 42 = .ok (.if_icmp .ge 18, 3) := by decide +kernel
theorem dX6_works_45 : decode cX6_works 45 = .ok (.aload_n 0, 1) := by decide +kernel
theorem dX6_works_46 : decode cX6_works 46 = .ok (.iload 4, 2) := by decide +kernel
theorem dX6_works_48 : decode cX6_works 48 = .ok (.invokevirtual 196, 3) := by decide +kernel
theorem dX6_works_51 : decode cX6_works 51 = .ok (.ifCond .eq 9, 3) := by decide +kernel
theorem dX6_works_54 : decode cX6_works 54 = .ok (.iload 4, 2) := by decide +kernel
theorem dX6_works_56 : decode cX6_works 56 = .ok (.istore_n 1, 1) := by decide +kernel
theorem dX6_works_57 : decode cX6_works 57 = .ok (.iload 5, 2) := by decide +kernel
theorem dX6_works_59 : decode cX6_works 59 = .ok (.istore_n 2, 1) := by decide +kernel
theorem dX6_works_60 : decode cX6_works 60 = .ok (.iinc 4 1, 3) := by decide +kernel
theorem dX6_works_63 : decode cX6_works 63 = .ok (.goto (-46), 3) := by decide +kernel
theorem dX6_works_66 : decode cX6_works 66 = .ok (.iload_n 1, 1) := by decide +kernel
theorem dX6_works_67 : decode cX6_works 67 = .ok (.ireturn, 1) := by decide +kernel
set_option maxRecDepth 20000 in
theorem ggX6_survey_X0_hasField : GoodIn wsX6_survey wsX0_hasField := goodIn_r _ [9, 10, 41, 42, 43, 44, 45, 46, 47, 48] (by decide +kernel) (by decide +kernel)
set_option maxRecDepth 20000 in
theorem gX6_survey_X0_hasField : GoodIn wsX6_survey (wsV RX6 80 RX0 yX0_hasField wsX0_hasField) := goodIn_app (goodIn_of _ (by decide +kernel)) ggX6_survey_X0_hasField
set_option maxRecDepth 20000 in
theorem ggX6_survey_X6_isWithin : GoodIn wsX6_survey wsX6_isWithin := goodIn_r _ [14] (by decide +kernel) (by decide +kernel)
set_option maxRecDepth 20000 in
theorem gX6_survey_X6_isWithin : GoodIn wsX6_survey (va_wsS RX6 73 yX6_isWithin wsX6_isWithin) := goodIn_app (goodIn_of _ (by decide +kernel)) ggX6_survey_X6_isWithin
set_option maxRecDepth 20000 in
theorem ggX6_survey_X3_add : GoodIn wsX6_survey wsX3_add := goodIn_r _ [19, 20, 21, 22, 23, 24, 36, 37, 38, 39, 40] (by decide +kernel) (by decide +kernel)
set_option maxRecDepth 20000 in
theorem gX6_survey_X3_add : GoodIn wsX6_survey (wsV RX6 200 RX3 yX3_add wsX3_add) := goodIn_app (goodIn_of _ (by decide +kernel)) ggX6_survey_X3_add
theorem dX6_survey_0 : decode cX6_survey 0 = .ok (.aload_n 0, 1) := by decide +kernel
theorem dX6_survey_1 : decode cX6_survey 1 = .ok (.getfield 12, 3) := by decide +kernel
theorem dX6_survey_4 : decode cX6_survey 4 = .ok (.iload_n 1, 1) := by decide +kernel
theorem dX6_survey_5 : decode cX6_survey 5 = .ok (.invokevirtual 80, 3) := by decide +kernel
theorem dX6_survey_8 : decode cX6_survey 8 = .ok (.ifCond .eq 25, 3) := by decide +kernel
theorem dX6_survey_11 : decode cX6_survey 11 = .ok (.iload_n 2, 1) := by decide +kernel
theorem dX6_survey_12 : decode cX6_survey 12 = .ok (.iconst 1, 1) := by decide +kernel
theorem dX6_survey_13 : decode cX6_survey 13 = .ok (.bipush 120, 2) := by decide +kernel
theorem dX6_survey_15 : decode cX6_survey 15 = .ok (.invokestatic 73, 3) := by decide +kernel
theorem dX6_survey_18 : decode cX6_survey 18 = .ok (.ifCond .eq 15, 3) := by decide +kernel
theorem dX6_survey_21 : decode cX6_survey 21 = .ok (.aload_n 0, 1) := by decide +kernel
theorem dX6_survey_22 : decode cX6_survey 22 = .ok (.getfield 53, 3) := by decide +kernel
theorem dX6_survey_25 : decode cX6_survey 25 = .ok (.getfield 199, 3) := by decide +kernel
theorem dX6_survey_28 : decode cX6_survey 28 = .ok (.bipush 20, 2) := by decide +kernel
theorem dX6_survey_30 : decode cX6_survey 30 = .ok (.if_icmp .lt 5, 3) := by decide +kernel
theorem dX6_survey_33 : decode cX6_survey 33 = .ok (.iconst (-1), 1) := by decide +kernel
theorem dX6_survey_34 : decode cX6_survey 34 = .ok (.ireturn, 1) := by decide +kernel
theorem dX6_survey_35 : decode cX6_survey 35 = .ok (.iload_n 3, 1) := by decide +kernel
theorem dX6_survey_36 : decode cX6_survey 36 = .ok (.iconst 0, 1) := by decide +kernel
theorem dX6_survey_37 : decode cX6_survey 37 = .ok (.sipush 9999, 3) := by decide +kernel
theorem dX6_survey_40 : decode cX6_survey 40 = .ok (.invokestatic 73, 3) := by decide +kernel
theorem dX6_survey_43 : decode cX6_survey 43 = .ok (.ifCond .eq 15, 3) := by decide +kernel
theorem dX6_survey_46 : decode cX6_survey 46 = .ok (.iload 4, 2) := by decide +kernel
theorem dX6_survey_48 : decode cX6_survey 48 = .ok (.iload_n 3, 1) := by decide +kernel
theorem dX6_survey_49 : decode cX6_survey 49 = .ok (.sipush 9999, 3) := by decide +kernel
theorem dX6_survey_52 : decode cX6_survey 52 = .ok (.invokestatic 73, 3) := by decide +kernel
theorem dX6_survey_55 : decode cX6_survey 55 = .ok (.ifCond .ne 5, 3) := by decide +kernel
theorem dX6_survey_58 : decode cX6_survey 58 = .ok (.iconst (-1), 1) := by decide +kernel
theorem dX6_survey_59 : decode cX6_survey 59 = .ok (.ireturn, 1) := by decide +kernel
theorem dX6_survey_60 : decode cX6_survey 60 = .ok (.aload_n 0, 1) := by decide +kernel
theorem dX6_survey_61 : decode cX6_survey 61 = .ok (.getfield 53, 3) := by decide +kernel
theorem dX6_survey_64 : decode cX6_survey 64 = .ok (.iload_n 1, 1) := by decide +kernel
theorem dX6_survey_65 : decode cX6_survey 65 = .ok (.iload_n 2, 1) := by decide +kernel
theorem dX6_survey_66 : decode cX6_survey 66 = .ok (.iload_n 3, 1) := by decide +kernel
theorem dX6_survey_67 : decode cX6_survey 67 = .ok (.iload 4, 2) := by decide +kernel
theorem dX6_survey_69 : decode cX6_survey 69 = .ok (.invokevirtual 200, 3) := by decide +kernel
theorem dX6_survey_72 : decode cX6_survey 72 = .ok (.aload_n 0, 1) := by decide +kernel
theorem dX6_survey_73 : decode cX6_survey 73 = .ok (.iconst 1, 1) := by decide +kernel
theorem dX6_survey_74 : decode cX6_survey 74 = .ok (.putfield 65, 3) := by decide +kernel
theorem dX6_survey_77 : decode cX6_survey 77 = .ok (.aload_n 0, 1) := by decide +kernel
theorem dX6_survey_78 : decode cX6_survey 78 = .ok (.getfield 53, 3) := by decide +kernel
theorem dX6_survey_81 : decode cX6_survey 81 = .ok (.getfield 199, 3) := by decide +kernel
theorem dX6_survey_84 : decode cX6_survey 84 = .ok (.ireturn, 1) := by decide +kernel
set_option maxRecDepth 20000 in
theorem ggX6_fits_X6_agreesWithSurveys : GoodIn wsX6_fits wsX6_agreesWithSurveys := goodIn_r _ [5, 6, 7, 8, 9, 10, 11, 12, 13, 14, 15, 16, 17, 18, 19, 20, 21, 22, 23, 24, 25, 26, 27, 28, 29, 30, 31, 32, 33, 34, 35, 36, 37, 38, 39, 40, 41, 42, 43, 44, 45, 46, 47, 48, 4, 49, 50, 51, 52, 53, 54, 55, 56, 57, 58, 59, 60, 61, 62, 63, 64, 65, 66, 67, 68, 69, 70, 71, 72, 73, 74, 75, 76, 77, 78, 79, 80, 81, 82, 83, 84, 85, 86, 87, 88, 89, 90, 91, 92, 93, 94, 95, 96, 97, 98, 99, 100, 101, 102, 103, 104, 105, 106, 107, 108, 109, 110, 111, 112, 113, 114, 115, 116, 117, 118, 119, 120, 121, 122, 123, 124, 125, 126, 127, 128, 129, 130, 131, 132, 133, 134, 135, 136, 137, 138, 139, 140, 141, 142, 143, 144, 145, 146, 147, 148, 149, 150, 151, 152, 153, 154, 155, 156, 157, 158, 159, 160, 161, 162, 163, 164, 165, 166, 167, 168, 169, 170, 171, 172, 173, 174, 175] (by decide +kernel) (by decide +kernel)
set_option maxRecDepth 20000 in
theorem gX6_fits_X6_agreesWithSurveys : GoodIn wsX6_fits (wsV RX6 201 RX6 yX6_agreesWithSurveys wsX6_agreesWithSurveys) := goodIn_app (goodIn_of _ (by decide +kernel)) ggX6_fits_X6_agreesWithSurveys
theorem dX6_fits_0 : decode cX6_fits 0 = .ok (.iconst 0, 1) := by decide +kernel
theorem dX6_fits_1 : decode cX6_fits 1 = .ok (.istore_n 1, 1) := by decide +kernel
theorem dX6_fits_2 : decode cX6_fits 2 = .ok (.iconst 1, 1) := by decide +kernel
theorem dX6_fits_3 : decode cX6_fits 3 = .ok (.istore_n 2, 1) := by decide +kernel
theorem dX6_fits_4 : decode cX6_fits 4 = .ok (.iload_n 2, 1) := by decide +kernel
theorem dX6_fits_5 : decode cX6_fits 5 = .ok (.bipush 9, 2) := by decide +kernel
theorem dX6_fits_7 : decode cX6_fits 7 = .ok (.if_icmp .gt 25, 3) := by decide +kernel
theorem dX6_fits_10 : decode cX6_fits 10 = .ok (.aload_n 0, 1) := by decide +kernel
theorem dX6_fits_11 : decode cX6_fits 11 = .ok (.iload_n 2, 1) := by decide +kernel
theorem dX6_fits_12 : decode cX6_fits 12 = .ok (.invokevirtual 201, 3) := by decide +kernel
theorem dX6_fits_15 : decode cX6_fits 15 = .ok (.ifCond .eq 11, 3) := by decide +kernel
theorem dX6_fits_18 : decode cX6_fits 18 = .ok (.iload_n 1, 1) := by decide +kernel
theorem dX6_fits_19 : decode cX6_fits 19 = .ok (.iconst 1, 1) := by decide +kernel
theorem dX6_fits_20 : decode cX6_fits 20 = .ok (.iload_n 2, 1) := by decide +kernel
theorem dX6_fits_21 : decode cX6_fits 21 = .ok (.iconst 1, 1) := by decide +kernel
theorem dX6_fits_22 : decode cX6_fits 22 = .ok (.isub, 1) := by decide +kernel
theorem dX6_fits_23 : decode cX6_fits 23 = .ok (.ishl, 1) := by decide +kernel
theorem dX6_fits_24 : decode cX6_fits 24 = .ok (.ior, 1) := by decide +kernel
theorem dX6_fits_25 : decode cX6_fits 25 = .ok (.istore_n 1, 1) := by decide +kernel
theorem dX6_fits_26 : decode cX6_fits 26 = .ok (.iinc 2 1, 3) := by decide +kernel
theorem dX6_fits_29 : decode cX6_fits 29 = .ok (.goto (-25), 3) := by decide +kernel
theorem dX6_fits_32 : decode cX6_fits 32 = .ok (.iload_n 1, 1) := by decide +kernel
theorem dX6_fits_33 : decode cX6_fits 33 = .ok (.ireturn, 1) := by decide +kernel
set_option maxRecDepth 20000 in
theorem ggX6_count_X2_sandInAll : GoodIn wsX6_count wsX2_sandInAll := goodIn_r _ [17, 18, 19, 20, 58, 59, 60, 61, 62, 63] (by decide +kernel) (by decide +kernel)
set_option maxRecDepth 20000 in
theorem gX6_count_X2_sandInAll : GoodIn wsX6_count (wsV RX6 204 RX2 yX2_sandInAll wsX2_sandInAll) := goodIn_app (goodIn_of _ (by decide +kernel)) ggX6_count_X2_sandInAll
theorem dX6_count_0 : decode cX6_count 0 = .ok (.iload_n 1, 1) := by decide +kernel
theorem dX6_count_1 : decode cX6_count 1 = .ok (.tableswitch 103 0 6 #[43, 51, 59, 64, 72, 80, 88], 43) := by decide +kernel
theorem dX6_count_44 : decode cX6_count 44 = .ok (.aload_n 0, 1) := by decide +kernel
theorem dX6_count_45 : decode cX6_count 45 = .ok (.getfield 12, 3) := by decide +kernel
theorem dX6_count_48 : decode cX6_count 48 = .ok (.getfield 77, 3) := by decide +kernel
theorem dX6_count_51 : decode cX6_count 51 = .ok (.ireturn, 1) := by decide +kernel
theorem dX6_count_52 : decode cX6_count 52 = .ok (.aload_n 0, 1) := by decide +kernel
theorem dX6_count_53 : decode cX6_count 53 = .ok (.getfield 32, 3) := by decide +kernel
theorem dX6_count_56 : decode cX6_count 56 = .ok (.getfield 107, 3) := by decide +kernel
theorem dX6_count_59 : decode cX6_count 59 = .ok (.ireturn, 1) := by decide +kernel
theorem dX6_count_60 : decode cX6_count 60 = .ok (.aload_n 0, 1) := by decide +kernel
theorem dX6_count_61 : decode cX6_count 61 = .ok (.getfield 61, 3) := by decide +kernel
theorem dX6_count_64 : decode cX6_count 64 = .ok (.ireturn, 1) := by decide +kernel
theorem dX6_count_65 : decode cX6_count 65 = .ok (.aload_n 0, 1) := by decide +kernel
theorem dX6_count_66 : decode cX6_count 66 = .ok (.getfield 46, 3) := by decide +kernel
theorem dX6_count_69 : decode cX6_count 69 = .ok (.getfield 191, 3) := by decide +kernel
theorem dX6_count_72 : decode cX6_count 72 = .ok (.ireturn, 1) := by decide +kernel
theorem dX6_count_73 : decode cX6_count 73 = .ok (.aload_n 0, 1) := by decide +kernel
theorem dX6_count_74 : decode cX6_count 74 = .ok (.getfield 53, 3) := by decide +kernel
theorem dX6_count_77 : decode cX6_count 77 = .ok (.getfield 199, 3) := by decide +kernel
theorem dX6_count_80 : decode cX6_count 80 = .ok (.ireturn, 1) := by decide +kernel
theorem dX6_count_81 : decode cX6_count 81 = .ok (.aload_n 0, 1) := by decide +kernel
theorem dX6_count_82 : decode cX6_count 82 = .ok (.getfield 39, 3) := by decide +kernel
theorem dX6_count_85 : decode cX6_count 85 = .ok (.getfield 128, 3) := by decide +kernel
theorem dX6_count_88 : decode cX6_count 88 = .ok (.ireturn, 1) := by decide +kernel
theorem dX6_count_89 : decode cX6_count 89 = .ok (.aload_n 0, 1) := by decide +kernel
theorem dX6_count_90 : decode cX6_count 90 = .ok (.getfield 22, 3) := by decide +kernel
theorem dX6_count_93 : decode cX6_count 93 = .ok (.aload_n 0, 1) := by decide +kernel
theorem dX6_count_94 : decode cX6_count 94 = .ok (.getfield 12, 3) := by decide +kernel
theorem dX6_count_97 : decode cX6_count 97 = .ok (.getfield 77, 3) := by decide +kernel
theorem dX6_count_100 : decode cX6_count 100 = .ok (.invokevirtual 204, 3) := by decide +kernel
theorem dX6_count_103 : decode cX6_count 103 = .ok (.ireturn, 1) := by decide +kernel
theorem dX6_count_104 : decode cX6_count 104 = .ok (.iconst (-1), 1) := by decide +kernel
theorem dX6_count_105 : decode cX6_count 105 = .ok (.ireturn, 1) := by decide +kernel
theorem dX6_isWithin_0 : decode cX6_isWithin 0 = .ok (.iload_n 0, 1) := by decide +kernel
theorem dX6_isWithin_1 : decode cX6_isWithin 1 = .ok (.iload_n 1, 1) := by decide +kernel
theorem dX6_isWithin_2 : decode cX6_isWithin 2 = .ok (.if_icmp .lt 12, 3) := by decide +kernel
theorem dX6_isWithin_5 : decode cX6_isWithin 5 = .ok (.iload_n 0, 1) := by decide +kernel
theorem dX6_isWithin_6 : decode cX6_isWithin 6 = .ok (.iload_n 2, 1) := by decide +kernel
theorem dX6_isWithin_7 : decode cX6_isWithin 7 = .ok (.if_icmp .gt 7, 3) := by decide +kernel
theorem dX6_isWithin_10 : decode cX6_isWithin 10 = .ok (.iconst 1, 1) := by decide +kernel
theorem dX6_isWithin_11 : decode cX6_isWithin 11 = .ok (.goto 4, 3) := by decide +kernel
theorem dX6_isWithin_14 : decode cX6_isWithin 14 = .ok (.iconst 0, 1) := by decide +kernel
theorem dX6_isWithin_15 : decode cX6_isWithin 15 = .ok (.ireturn, 1) := by decide +kernel
theorem dX6_factorial_0 : decode cX6_factorial 0 = .ok (.iconst 1, 1) := by decide +kernel
theorem dX6_factorial_1 : decode cX6_factorial 1 = .ok (.istore_n 1, 1) := by decide +kernel
theorem dX6_factorial_2 : decode cX6_factorial 2 = .ok (.iconst 2, 1) := by decide +kernel
theorem dX6_factorial_3 : decode cX6_factorial 3 = .ok (.istore_n 2, 1) := by decide +kernel
theorem dX6_factorial_4 : decode cX6_factorial 4 = .ok (.iload_n 2, 1) := by decide +kernel
theorem dX6_factorial_5 : decode cX6_factorial 5 = .ok (.iload_n 0, 1) := by decide +kernel
theorem dX6_factorial_6 : decode cX6_factorial 6 = .ok (.if_icmp .gt 13, 3) := by decide +kernel
theorem dX6_factorial_9 : decode cX6_factorial 9 = .ok (.iload_n 1, 1) := by decide +kernel
theorem dX6_factorial_10 : decode cX6_factorial 10 = .ok (.iload_n 2, 1) := by decide +kernel
theorem dX6_factorial_11 : decode cX6_factorial 11 = .ok (.imul, 1) := by decide +kernel
theorem dX6_factorial_12 : decode cX6_factorial 12 = .ok (.istore_n 1, 1) := by decide +kernel
theorem dX6_factorial_13 : decode cX6_factorial 13 = .ok (.iinc 2 1, 3) := by decide +kernel
theorem dX6_factorial_16 : decode cX6_factorial 16 = .ok (.goto (-12), 3) := by decide +kernel
theorem dX6_factorial_19 : decode cX6_factorial 19 = .ok (.iload_n 1, 1) := by decide +kernel
theorem dX6_factorial_20 : decode cX6_factorial 20 = .ok (.ireturn, 1) := by decide +kernel
set_option maxRecDepth 20000 in
theorem ggX6_takeInBegin_X2_startFrom : GoodIn wsX6_takeInBegin wsX2_startFrom := goodIn_r _ [8, 9, 10, 11, 12, 13, 14, 15, 16, 17, 18, 19, 20, 21, 22, 34, 35, 36, 37, 38, 39, 40, 41, 42, 43, 44, 45, 46, 47] (by decide +kernel) (by decide +kernel)
set_option maxRecDepth 20000 in
theorem gX6_takeInBegin_X2_startFrom : GoodIn wsX6_takeInBegin (wsV RX6 69 RX2 yX2_startFrom wsX2_startFrom) := goodIn_app (goodIn_of _ (by decide +kernel)) ggX6_takeInBegin_X2_startFrom
theorem dX6_takeInBegin_0 : decode cX6_takeInBegin 0 = .ok (.aload_n 0, 1) := by decide +kernel
theorem dX6_takeInBegin_1 : decode cX6_takeInBegin 1 = .ok (.iconst 1, 1) := by decide +kernel
theorem dX6_takeInBegin_2 : decode cX6_takeInBegin 2 = .ok (.putfield 65, 3) := by decide +kernel
theorem dX6_takeInBegin_5 : decode cX6_takeInBegin 5 = .ok (.aload_n 0, 1) := by decide +kernel
theorem dX6_takeInBegin_6 : decode cX6_takeInBegin 6 = .ok (.getfield 22, 3) := by decide +kernel
theorem dX6_takeInBegin_9 : decode cX6_takeInBegin 9 = .ok (.aload_n 0, 1) := by decide +kernel
theorem dX6_takeInBegin_10 : decode cX6_takeInBegin 10 = .ok (.getfield 12, 3) := by decide +kernel
theorem dX6_takeInBegin_13 : decode cX6_takeInBegin 13 = .ok (.invokevirtual 69, 3) := by decide +kernel
theorem dX6_takeInBegin_16 : decode cX6_takeInBegin 16 = .ok (.return_, 1) := by decide +kernel
set_option maxRecDepth 20000 in
theorem ggX6_lineLeavingAway_X0_copyFrom : GoodIn wsX6_lineLeavingAway wsX0_copyFrom := goodIn_r _ [9, 10, 11, 12, 13, 14, 15, 16, 17, 18, 19, 20, 21, 141, 142, 143, 144, 145, 146, 147, 148] (by decide +kernel) (by decide +kernel)
set_option maxRecDepth 20000 in
theorem gX6_lineLeavingAway_X0_copyFrom : GoodIn wsX6_lineLeavingAway (wsV RX6 207 RX0 yX0_copyFrom wsX0_copyFrom) := goodIn_app (goodIn_of _ (by decide +kernel)) ggX6_lineLeavingAway_X0_copyFrom
set_option maxRecDepth 20000 in
theorem ggX6_lineLeavingAway_X0_leaveAway : GoodIn wsX6_lineLeavingAway wsX0_leaveAway := goodIn_r _ [25, 10, 26, 27, 28, 8, 29, 19, 20, 21, 141, 142, 143, 144, 145, 146, 147, 148] (by decide +kernel) (by decide +kernel)
set_option maxRecDepth 20000 in
theorem gX6_lineLeavingAway_X0_leaveAway : GoodIn wsX6_lineLeavingAway (wsV RX6 210 RX0 yX0_leaveAway wsX0_leaveAway) := goodIn_app (goodIn_of _ (by decide +kernel)) ggX6_lineLeavingAway_X0_leaveAway
set_option maxRecDepth 20000 in
theorem ggX6_lineLeavingAway_X2_startFrom : GoodIn wsX6_lineLeavingAway wsX2_startFrom := goodIn_r _ [34, 35, 36, 37, 14, 15, 16, 38, 39, 40, 41, 42, 43, 44, 45, 141, 142, 143, 144, 145, 146, 147, 148, 149, 150, 151, 152, 153, 154] (by decide +kernel) (by decide +kernel)
set_option maxRecDepth 20000 in
theorem gX6_lineLeavingAway_X2_startFrom : GoodIn wsX6_lineLeavingAway (wsV RX6 69 RX2 yX2_startFrom wsX2_startFrom) := goodIn_app (goodIn_of _ (by decide +kernel)) ggX6_lineLeavingAway_X2_startFrom
set_option maxRecDepth 20000 in
theorem ggX6_lineLeavingAway_X6_goThroughAgain : GoodIn wsX6_lineLeavingAway wsX6_goThroughAgain := goodIn_r _ [50, 3, 1, 51, 52, 53, 54, 55, 56, 57, 33, 58, 41, 59, 60, 42, 43, 44, 45, 61, 62, 63, 64, 65, 66, 67, 68, 69, 70, 71, 72, 73, 74, 75, 76, 77, 40, 78, 79, 80, 81, 82, 83, 84, 85, 86, 87, 88, 36, 89, 90, 91, 92, 39, 93, 94, 95, 96, 97, 98, 99, 100, 101, 102, 103, 104, 105, 106, 107, 108, 109, 110, 38, 111, 112, 113, 114, 115, 116, 117, 118, 119, 120, 121, 122, 123, 124, 125, 126, 127, 128, 130, 131, 132, 133, 134, 135, 136, 137, 138, 139, 140, 155, 156, 157, 149, 150, 151, 152, 153, 154, 141, 142, 143, 144, 145, 146, 147, 148, 158, 159, 160, 161, 162] (by decide +kernel) (by decide +kernel)
set_option maxRecDepth 20000 in
theorem gX6_lineLeavingAway_X6_goThroughAgain : GoodIn wsX6_lineLeavingAway (wsV RX6 214 RX6 yX6_goThroughAgain wsX6_goThroughAgain) := goodIn_app (goodIn_of _ (by decide +kernel)) ggX6_lineLeavingAway_X6_goThroughAgain
set_option maxRecDepth 20000 in
theorem ggX6_lineLeavingAway_X2_lineOf : GoodIn wsX6_lineLeavingAway wsX2_lineOf := goodIn_r _ [88, 36, 149, 150, 151, 152, 153, 154] (by decide +kernel) (by decide +kernel)
set_option maxRecDepth 20000 in
theorem gX6_lineLeavingAway_X2_lineOf : GoodIn wsX6_lineLeavingAway (wsV RX6 142 RX2 yX2_lineOf wsX2_lineOf) := goodIn_app (goodIn_of _ (by decide +kernel)) ggX6_lineLeavingAway_X2_lineOf
theorem dX6_lineLeavingAway_0 : decode cX6_lineLeavingAway 0 = .ok (.aload_n 0, 1) := by decide +kernel
theorem dX6_lineLeavingAway_1 : decode cX6_lineLeavingAway 1 = .ok (.getfield 16, 3) := by decide +kernel
theorem dX6_lineLeavingAway_4 : decode cX6_lineLeavingAway 4 = .ok (.aload_n 0, 1) := by decide +kernel
theorem dX6_lineLeavingAway_5 : decode cX6_lineLeavingAway 5 = .ok (.getfield 12, 3) := by decide +kernel
theorem dX6_lineLeavingAway_8 : decode cX6_lineLeavingAway 8 = .ok (.invokevirtual 207, 3) := by decide +kernel
theorem dX6_lineLeavingAway_11 : decode cX6_lineLeavingAway 11 = .ok (.aload_n 0, 1) := by decide +kernel
theorem dX6_lineLeavingAway_12 : decode cX6_lineLeavingAway 12 = .ok (.getfield 16, 3) := by decide +kernel
theorem dX6_lineLeavingAway_15 : decode cX6_lineLeavingAway 15 = .ok (.iload_n 1, 1) := by decide +kernel
theorem dX6_lineLeavingAway_16 : decode cX6_lineLeavingAway 16 = .ok (.invokevirtual 210, 3) := by decide +kernel
theorem dX6_lineLeavingAway_19 : decode cX6_lineLeavingAway 19 = .ok (.aload_n 0, 1) := by decide +kernel
theorem dX6_lineLeavingAway_20 : decode cX6_lineLeavingAway 20 = .ok (.getfield 26, 3) := by decide +kernel
theorem dX6_lineLeavingAway_23 : decode cX6_lineLeavingAway 23 = .ok (.aload_n 0, 1) := by decide +kernel
theorem dX6_lineLeavingAway_24 : decode cX6_lineLeavingAway 24 = .ok (.getfield 16, 3) := by decide +kernel
theorem dX6_lineLeavingAway_27 : decode cX6_lineLeavingAway 27 = .ok (.invokevirtual 69, 3) := by decide +kernel
theorem dX6_lineLeavingAway_30 : decode cX6_lineLeavingAway 30 = .ok (.iconst 0, 1) := by decide +kernel
theorem dX6_lineLeavingAway_31 : decode cX6_lineLeavingAway 31 = .ok (.istore_n 3, 1) := by decide +kernel
theorem dX6_lineLeavingAway_32 : decode cX6_lineLeavingAway 32 = .ok (.iload_n 3, 1) := by decide +kernel
theorem dX6_lineLeavingAway_33 : decode cX6_lineLeavingAway 33 = .ok (.aload_n 0, 1) := by decide +kernel
theorem dX6_lineLeavingAway_34 : decode cX6_lineLeavingAway 34 = .ok (.getfield 61, 3) := by decide +kernel
theorem dX6_lineLeavingAway_37 : decode cX6_lineLeavingAway 37 = .ok (.if_icmp .ge 14, 3) := by decide +kernel
theorem dX6_lineLeavingAway_40 : decode cX6_lineLeavingAway 40 = .ok (.aload_n 0, 1) := by decide +kernel
theorem dX6_lineLeavingAway_41 : decode cX6_lineLeavingAway 41 = .ok (.iload_n 3, 1) := by decide +kernel
theorem dX6_lineLeavingAway_42 : decode cX6_lineLeavingAway 42 = .ok (.invokevirtual 214, 3) := by decide +kernel
theorem dX6_lineLeavingAway_45 : decode cX6_lineLeavingAway 45 = .ok (.iinc 3 1, 3) := by decide +kernel
theorem dX6_lineLeavingAway_48 : decode cX6_lineLeavingAway 48 = .ok (.goto (-16), 3) := by decide +kernel
theorem dX6_lineLeavingAway_51 : decode cX6_lineLeavingAway 51 = .ok (.aload_n 0, 1) := by decide +kernel
theorem dX6_lineLeavingAway_52 : decode cX6_lineLeavingAway 52 = .ok (.getfield 26, 3) := by decide +kernel
theorem dX6_lineLeavingAway_55 : decode cX6_lineLeavingAway 55 = .ok (.iload_n 2, 1) := by decide +kernel
theorem dX6_lineLeavingAway_56 : decode cX6_lineLeavingAway 56 = .ok (.invokevirtual 142, 3) := by decide +kernel
theorem dX6_lineLeavingAway_59 : decode cX6_lineLeavingAway 59 = .ok (.ireturn, 1) := by decide +kernel
set_option maxRecDepth 20000 in
theorem ggX6_keepsMarks_X0_copyFrom : GoodIn wsX6_keepsMarks wsX0_copyFrom := goodIn_r _ [13, 14, 15, 16, 17, 18, 19, 20, 21, 22, 23, 24, 25, 164, 165, 166, 167, 168, 169, 170, 171] (by decide +kernel) (by decide +kernel)
set_option maxRecDepth 20000 in
theorem gX6_keepsMarks_X0_copyFrom : GoodIn wsX6_keepsMarks (wsV RX6 207 RX0 yX0_copyFrom wsX0_copyFrom) := goodIn_app (goodIn_of _ (by decide +kernel)) ggX6_keepsMarks_X0_copyFrom
set_option maxRecDepth 20000 in
theorem ggX6_keepsMarks_X5_applyTo : GoodIn wsX6_keepsMarks wsX5_applyTo := goodIn_r _ [30, 31, 32, 33, 34, 29, 35, 36, 37, 38, 39, 40, 41, 42, 43, 44, 45, 46, 47, 48, 12, 49, 23, 50, 51, 52, 53, 14, 172, 173, 174, 175, 176, 164, 165, 166, 167, 168, 169, 170, 171] (by decide +kernel) (by decide +kernel)
set_option maxRecDepth 20000 in
theorem gX6_keepsMarks_X5_applyTo : GoodIn wsX6_keepsMarks (wsV RX6 217 RX5 yX5_applyTo wsX5_applyTo) := goodIn_app (goodIn_of _ (by decide +kernel)) ggX6_keepsMarks_X5_applyTo
set_option maxRecDepth 20000 in
theorem ggX6_keepsMarks_X2_startFrom : GoodIn wsX6_keepsMarks wsX2_startFrom := goodIn_r _ [58, 59, 60, 61, 18, 19, 20, 62, 63, 64, 65, 66, 67, 68, 69, 164, 165, 166, 167, 168, 169, 170, 171, 177, 178, 179, 180, 181, 182] (by decide +kernel) (by decide +kernel)
set_option maxRecDepth 20000 in
theorem gX6_keepsMarks_X2_startFrom : GoodIn wsX6_keepsMarks (wsV RX6 69 RX2 yX2_startFrom wsX2_startFrom) := goodIn_app (goodIn_of _ (by decide +kernel)) ggX6_keepsMarks_X2_startFrom
set_option maxRecDepth 20000 in
theorem ggX6_keepsMarks_X6_goThroughAgain : GoodIn wsX6_keepsMarks wsX6_goThroughAgain := goodIn_r _ [74, 4, 1, 5, 75, 76, 77, 78, 79, 80, 57, 81, 65, 82, 83, 66, 67, 68, 69, 84, 85, 86, 87, 88, 89, 90, 91, 92, 93, 94, 95, 43, 96, 97, 98, 99, 64, 100, 101, 102, 103, 104, 42, 44, 105, 106, 107, 108, 60, 109, 110, 111, 112, 63, 113, 114, 115, 116, 117, 118, 119, 120, 121, 122, 123, 124, 125, 126, 127, 128, 129, 130, 62, 131, 132, 133, 134, 135, 136, 137, 138, 139, 140, 141, 142, 143, 144, 145, 146, 147, 148, 150, 151, 152, 153, 154, 155, 156, 157, 158, 159, 160, 161, 162, 163, 177, 178, 179, 180, 181, 182, 164, 165, 166, 167, 168, 169, 170, 171, 183, 184, 185, 186, 187] (by decide +kernel) (by decide +kernel)
set_option maxRecDepth 20000 in
theorem gX6_keepsMarks_X6_goThroughAgain : GoodIn wsX6_keepsMarks (wsV RX6 214 RX6 yX6_goThroughAgain wsX6_goThroughAgain) := goodIn_app (goodIn_of _ (by decide +kernel)) ggX6_keepsMarks_X6_goThroughAgain
set_option maxRecDepth 20000 in
theorem ggX6_keepsMarks_X2_lineOf : GoodIn wsX6_keepsMarks wsX2_lineOf := goodIn_r _ [108, 60, 177, 178, 179, 180, 181, 182] (by decide +kernel) (by decide +kernel)
set_option maxRecDepth 20000 in
theorem gX6_keepsMarks_X2_lineOf : GoodIn wsX6_keepsMarks (wsV RX6 142 RX2 yX2_lineOf wsX2_lineOf) := goodIn_app (goodIn_of _ (by decide +kernel)) ggX6_keepsMarks_X2_lineOf
theorem dX6_keepsMarks_0 : decode cX6_keepsMarks 0 = .ok (.aload_n 0, 1) := by decide +kernel
theorem dX6_keepsMarks_1 : decode cX6_keepsMarks 1 = .ok (.getfield 16, 3) := by decide +kernel
theorem dX6_keepsMarks_4 : decode cX6_keepsMarks 4 = .ok (.aload_n 0, 1) := by decide +kernel
theorem dX6_keepsMarks_5 : decode cX6_keepsMarks 5 = .ok (.getfield 12, 3) := by decide +kernel
theorem dX6_keepsMarks_8 : decode cX6_keepsMarks 8 = .ok (.invokevirtual 207, 3) := by decide +kernel
theorem dX6_keepsMarks_11 : decode cX6_keepsMarks 11 = .ok (.aload_n 0, 1) := by decide +kernel
theorem dX6_keepsMarks_12 : decode cX6_keepsMarks 12 = .ok (.getfield 46, 3) := by decide +kernel
theorem dX6_keepsMarks_15 : decode cX6_keepsMarks 15 = .ok (.aload_n 0, 1) := by decide +kernel
theorem dX6_keepsMarks_16 : decode cX6_keepsMarks 16 = .ok (.getfield 16, 3) := by decide +kernel
theorem dX6_keepsMarks_19 : decode cX6_keepsMarks 19 = .ok (.iload_n 1, 1) := by decide +kernel
theorem dX6_keepsMarks_20 : decode cX6_keepsMarks 20 = .ok (.invokevirtual 217, 3) := by decide +kernel
theorem dX6_keepsMarks_23 : decode cX6_keepsMarks 23 = .ok (.aload_n 0, 1) := by decide +kernel
theorem dX6_keepsMarks_24 : decode cX6_keepsMarks 24 = .ok (.getfield 26, 3) := by decide +kernel
theorem dX6_keepsMarks_27 : decode cX6_keepsMarks 27 = .ok (.aload_n 0, 1) := by decide +kernel
theorem dX6_keepsMarks_28 : decode cX6_keepsMarks 28 = .ok (.getfield 16, 3) := by decide +kernel
theorem dX6_keepsMarks_31 : decode cX6_keepsMarks 31 = .ok (.invokevirtual 69, 3) := by decide +kernel
theorem dX6_keepsMarks_34 : decode cX6_keepsMarks 34 = .ok (.iconst 0, 1) := by decide +kernel
theorem dX6_keepsMarks_35 : decode cX6_keepsMarks 35 = .ok (.istore_n 2, 1) := by decide +kernel
theorem dX6_keepsMarks_36 : decode cX6_keepsMarks 36 = .ok (.iload_n 2, 1) := by decide +kernel
theorem dX6_keepsMarks_37 : decode cX6_keepsMarks 37 = .ok (.aload_n 0, 1) := by decide +kernel
theorem dX6_keepsMarks_38 : decode cX6_keepsMarks 38 = .ok (.getfield 32, 3) := by decide +kernel
theorem dX6_keepsMarks_41 : decode cX6_keepsMarks 41 = .ok (.getfield 107, 3) := by decide +kernel
theorem dX6_keepsMarks_44 : decode cX6_keepsMarks 44 = .ok (.if_icmp .ge 52, 3) := by decide +kernel
theorem dX6_keepsMarks_47 : decode cX6_keepsMarks 47 = .ok (.aload_n 0, 1) := by decide +kernel
theorem dX6_keepsMarks_48 : decode cX6_keepsMarks 48 = .ok (.iload_n 2, 1) := by decide +kernel
theorem dX6_keepsMarks_49 : decode cX6_keepsMarks 49 = .ok (.invokevirtual 214, 3) := by decide +kernel
theorem dX6_keepsMarks_52 : decode cX6_keepsMarks 52 = .ok (.iconst 0, 1) := by decide +kernel
theorem dX6_keepsMarks_53 : decode cX6_keepsMarks 53 = .ok (.istore_n 3, 1) := by decide +kernel
theorem dX6_keepsMarks_54 : decode cX6_keepsMarks 54 = .ok (.iload_n 3, 1) := by decide +kernel
theorem dX6_keepsMarks_55 : decode cX6_keepsMarks 55 = .ok (.aload_n 0, 1) := by decide +kernel
theorem dX6_keepsMarks_56 : decode cX6_keepsMarks 56 = .ok (.getfield 16, 3) := by decide +kernel
theorem dX6_keepsMarks_59 : decode cX6_keepsMarks 59 = .ok (.getfield 77, 3) := by decide +kernel
theorem dX6_keepsMarks_62 : decode cX6_keepsMarks 62 = .ok (.if_icmp .ge 28, 3) := by decide +kernel
theorem dX6_keepsMarks_65 : decode cX6_keepsMarks 65 = .ok (.aload_n 0, 1) := by decide +kernel
theorem dX6_keepsMarks_66 : decode cX6_keepsMarks 66 = .ok (.getfield 26, 3) := by decide +kernel
theorem dX6_keepsMarks_69 : decode cX6_keepsMarks 69 = .ok (.iload_n 3, 1) := by decide +kernel
theorem dX6_keepsMarks_70 : decode cX6_keepsMarks 70 = .ok (.invokevirtual 142, 3) := by decide +kernel
theorem dX6_keepsMarks_73 : decode cX6_keepsMarks 73 = .ok (.aload_n 0, 1) := by decide +kernel
theorem dX6_keepsMarks_74 : decode cX6_keepsMarks 74 = .ok (.getfield 57, 3) := by decide +kernel
theorem dX6_keepsMarks_77 : decode cX6_keepsMarks 77 = .ok (.iload_n 3, 1) := by decide +kernel
theorem dX6_keepsMarks_78 : decode cX6_keepsMarks 78 = .ok (.iaload, 1) := by decide +kernel
theorem dX6_keepsMarks_79 : decode cX6_keepsMarks 79 = .ok (.if_icmp .ge 5, 3) := by decide +kernel
theorem dX6_keepsMarks_82 : decode cX6_keepsMarks 82 = .ok (.iconst 0, 1) := by decide +kernel
theorem dX6_keepsMarks_83 : decode cX6_keepsMarks 83 = .ok (.ireturn, 1) := by decide +kernel
theorem dX6_keepsMarks_84 : decode cX6_keepsMarks 84 = .ok (.iinc 3 1, 3) := by decide +kernel
theorem dX6_keepsMarks_87 : decode cX6_keepsMarks 87 = .ok (.goto (-33), 3) := by decide +kernel
theorem dX6_keepsMarks_90 : decode cX6_keepsMarks 90 = .ok (.iinc 2 1, 3) := by decide +kernel
theorem dX6_keepsMarks_93 : decode cX6_keepsMarks 93 = .ok (.goto (-57), 3) := by decide +kernel
theorem dX6_keepsMarks_96 : decode cX6_keepsMarks 96 = .ok (.iconst 1, 1) := by decide +kernel
theorem dX6_keepsMarks_97 : decode cX6_keepsMarks 97 = .ok (.ireturn, 1) := by decide +kernel
set_option maxRecDepth 20000 in
theorem ggX6_agreesWithSurveys_X0_copyFrom : GoodIn wsX6_agreesWithSurveys wsX0_copyFrom := goodIn_r _ [12, 13, 14, 15, 16, 17, 18, 19, 20, 21, 22, 23, 24, 145, 146, 147, 148, 149, 150, 151, 152] (by decide +kernel) (by decide +kernel)
set_option maxRecDepth 20000 in
theorem gX6_agreesWithSurveys_X0_copyFrom : GoodIn wsX6_agreesWithSurveys (wsV RX6 207 RX0 yX0_copyFrom wsX0_copyFrom) := goodIn_app (goodIn_of _ (by decide +kernel)) ggX6_agreesWithSurveys_X0_copyFrom
set_option maxRecDepth 20000 in
theorem ggX6_agreesWithSurveys_X2_startFrom : GoodIn wsX6_agreesWithSurveys wsX2_startFrom := goodIn_r _ [29, 30, 31, 32, 17, 18, 19, 33, 34, 35, 36, 37, 38, 39, 40, 145, 146, 147, 148, 149, 150, 151, 152, 156, 157, 158, 159, 160, 161] (by decide +kernel) (by decide +kernel)
set_option maxRecDepth 20000 in
theorem gX6_agreesWithSurveys_X2_startFrom : GoodIn wsX6_agreesWithSurveys (wsV RX6 69 RX2 yX2_startFrom wsX2_startFrom) := goodIn_app (goodIn_of _ (by decide +kernel)) ggX6_agreesWithSurveys_X2_startFrom
set_option maxRecDepth 20000 in
theorem ggX6_agreesWithSurveys_X6_goThroughAgain : GoodIn wsX6_agreesWithSurveys wsX6_goThroughAgain := goodIn_r _ [45, 4, 1, 5, 46, 47, 48, 49, 50, 51, 28, 52, 36, 53, 54, 37, 38, 39, 40, 55, 56, 57, 58, 59, 60, 61, 62, 63, 64, 65, 66, 67, 68, 69, 70, 71, 35, 72, 73, 74, 75, 76, 77, 78, 79, 80, 81, 82, 31, 83, 84, 85, 86, 34, 87, 88, 89, 90, 91, 92, 93, 94, 95, 96, 97, 98, 99, 100, 101, 102, 103, 104, 33, 105, 106, 107, 108, 109, 110, 111, 112, 113, 114, 115, 116, 117, 118, 119, 120, 121, 122, 134, 135, 136, 137, 138, 139, 140, 141, 142, 143, 144, 153, 154, 155, 156, 157, 158, 159, 160, 161, 145, 146, 147, 148, 149, 150, 151, 152, 162, 163, 164, 165, 166] (by decide +kernel) (by decide +kernel)
set_option maxRecDepth 20000 in
theorem gX6_agreesWithSurveys_X6_goThroughAgain : GoodIn wsX6_agreesWithSurveys (wsV RX6 214 RX6 yX6_goThroughAgain wsX6_goThroughAgain) := goodIn_app (goodIn_of _ (by decide +kernel)) ggX6_agreesWithSurveys_X6_goThroughAgain
set_option maxRecDepth 20000 in
theorem ggX6_agreesWithSurveys_X3_agreeBehind : GoodIn wsX6_agreesWithSurveys wsX3_agreeBehind := goodIn_r _ [127, 128, 129, 130, 131, 132, 133, 80, 81, 28, 82, 31, 167, 168, 169, 170, 171, 156, 157, 158, 159, 160, 161] (by decide +kernel) (by decide +kernel)
set_option maxRecDepth 20000 in
theorem gX6_agreesWithSurveys_X3_agreeBehind : GoodIn wsX6_agreesWithSurveys (wsV RX6 221 RX3 yX3_agreeBehind wsX3_agreeBehind) := goodIn_app (goodIn_of _ (by decide +kernel)) ggX6_agreesWithSurveys_X3_agreeBehind
theorem dX6_agreesWithSurveys_0 : decode cX6_agreesWithSurveys 0 = .ok (.aload_n 0, 1) := by decide +kernel
theorem dX6_agreesWithSurveys_1 : decode cX6_agreesWithSurveys 1 = .ok (.getfield 16, 3) := by decide +kernel
theorem dX6_agreesWithSurveys_4 : decode cX6_agreesWithSurveys 4 = .ok (.aload_n 0, 1) := by decide +kernel
theorem dX6_agreesWithSurveys_5 : decode cX6_agreesWithSurveys 5 = .ok (.getfield 12, 3) := by decide +kernel
theorem dX6_agreesWithSurveys_8 : decode cX6_agreesWithSurveys 8 = .ok (.invokevirtual 207, 3) := by decide +kernel
theorem dX6_agreesWithSurveys_11 : decode cX6_agreesWithSurveys 11 = .ok (.aload_n 0, 1) := by decide +kernel
theorem dX6_agreesWithSurveys_12 : decode cX6_agreesWithSurveys 12 = .ok (.getfield 16, 3) := by decide +kernel
theorem dX6_agreesWithSurveys_15 : decode cX6_agreesWithSurveys 15 = .ok (.iload_n 1, 1) := by decide +kernel
theorem dX6_agreesWithSurveys_16 : decode cX6_agreesWithSurveys 16 = .ok (.putfield 104, 3) := by decide +kernel
theorem dX6_agreesWithSurveys_19 : decode cX6_agreesWithSurveys 19 = .ok (.aload_n 0, 1) := by decide +kernel
theorem dX6_agreesWithSurveys_20 : decode cX6_agreesWithSurveys 20 = .ok (.getfield 26, 3) := by decide +kernel
theorem dX6_agreesWithSurveys_23 : decode cX6_agreesWithSurveys 23 = .ok (.aload_n 0, 1) := by decide +kernel
theorem dX6_agreesWithSurveys_24 : decode cX6_agreesWithSurveys 24 = .ok (.getfield 16, 3) := by decide +kernel
theorem dX6_agreesWithSurveys_27 : decode cX6_agreesWithSurveys 27 = .ok (.invokevirtual 69, 3) := by decide +kernel
theorem dX6_agreesWithSurveys_30 : decode cX6_agreesWithSurveys 30 = .ok (.iconst 0, 1) := by decide +kernel
theorem dX6_agreesWithSurveys_31 : decode cX6_agreesWithSurveys 31 = .ok (.istore_n 2, 1) := by decide +kernel
theorem dX6_agreesWithSurveys_32 : decode cX6_agreesWithSurveys 32 = .ok (.iload_n 2, 1) := by decide +kernel
theorem dX6_agreesWithSurveys_33 : decode cX6_agreesWithSurveys 33 = .ok (.aload_n 0, 1) := by decide +kernel
theorem dX6_agreesWithSurveys_34 : decode cX6_agreesWithSurveys 34 = .ok (.getfield 32, 3) := by decide +kernel
theorem dX6_agreesWithSurveys_37 : decode cX6_agreesWithSurveys 37 = .ok (.getfield 107, 3) := by decide +kernel
theorem dX6_agreesWithSurveys_40 : decode cX6_agreesWithSurveys 40 = .ok (.if_icmp .ge 33, 3) := by decide +kernel
theorem dX6_agreesWithSurveys_43 : decode cX6_agreesWithSurveys 43 = .ok (.aload_n 0, 1) := by decide +kernel
theorem dX6_agreesWithSurveys_44 : decode cX6_agreesWithSurveys 44 = .ok (.iload_n 2, 1) := by decide +kernel
theorem dX6_agreesWithSurveys_45 : decode cX6_agreesWithSurveys 45 = .ok (.invokevirtual 214, 3) := by decide +kernel
theorem dX6_agreesWithSurveys_48 : decode cX6_agreesWithSurveys 48 = .ok (.aload_n 0, 1) := by decide +kernel
theorem dX6_agreesWithSurveys_49 : decode cX6_agreesWithSurveys 49 = .ok (.getfield 53, 3) := by decide +kernel
theorem dX6_agreesWithSurveys_52 : decode cX6_agreesWithSurveys 52 = .ok (.iload_n 2, 1) := by decide +kernel
theorem dX6_agreesWithSurveys_53 : decode cX6_agreesWithSurveys 53 = .ok (.iconst 1, 1) := by decide +kernel
theorem dX6_agreesWithSurveys_54 : decode cX6_agreesWithSurveys 54 = .ok (.iadd, 1) := by decide +kernel
theorem dX6_agreesWithSurveys_55 : decode cX6_agreesWithSurveys 55 = .ok (.aload_n 0, 1) := by decide +kernel
theorem dX6_agreesWithSurveys_56 : decode cX6_agreesWithSurveys 56 = .ok (.getfield 26, 3) := by decide +kernel
theorem dX6_agreesWithSurveys_59 : decode cX6_agreesWithSurveys 59 = .ok (.invokevirtual 221, 3) := by decide +kernel
theorem dX6_agreesWithSurveys_62 : decode cX6_agreesWithSurveys 62 = .ok (.ifCond .ne 5, 3) := by decide +kernel
theorem dX6_agreesWithSurveys_65 : decode cX6_agreesWithSurveys 65 = .ok (.iconst 0, 1) := by decide +kernel
theorem dX6_agreesWithSurveys_66 : decode cX6_agreesWithSurveys 66 = .ok (.ireturn, 1) := by decide +kernel
theorem dX6_agreesWithSurveys_67 : decode cX6_agreesWithSurveys 67 = .ok (.iinc 2 1, 3) := by decide +kernel
theorem dX6_agreesWithSurveys_70 : decode cX6_agreesWithSurveys 70 = .ok (.goto (-38), 3) := by decide +kernel
theorem dX6_agreesWithSurveys_73 : decode cX6_agreesWithSurveys 73 = .ok (.iconst 1, 1) := by decide +kernel
theorem dX6_agreesWithSurveys_74 : decode cX6_agreesWithSurveys 74 = .ok (.ireturn, 1) := by decide +kernel
set_option maxRecDepth 20000 in
theorem ggX6_goThroughAgain_X2_goThrough : GoodIn wsX6_goThroughAgain wsX2_goThrough := goodIn_r _ [11, 12, 13, 14, 15, 16, 17, 18, 19, 20, 21, 10, 22, 23, 24, 25, 26, 27, 28, 29, 30, 31, 32, 33, 34, 35, 36, 37, 38, 39, 40, 41, 42, 43, 44, 45, 46, 47, 48, 49, 50, 51, 52, 53, 54, 55, 56, 57, 58, 59, 60, 61, 62, 63, 64, 65, 66, 67, 68, 69, 70, 71, 72, 73, 74, 75, 76, 105, 106, 107, 108, 109, 110, 111, 112, 113, 114, 115, 116, 117, 118] (by decide +kernel) (by decide +kernel)
set_option maxRecDepth 20000 in
theorem gX6_goThroughAgain_X2_goThrough : GoodIn wsX6_goThroughAgain (wsV RX6 120 RX2 yX2_goThrough wsX2_goThrough) := goodIn_app (goodIn_of _ (by decide +kernel)) ggX6_goThroughAgain_X2_goThrough
set_option maxRecDepth 20000 in
theorem ggX6_goThroughAgain_X1_redoBehind : GoodIn wsX6_goThroughAgain wsX1_redoBehind := goodIn_r _ [81, 82, 83, 84, 85, 86, 87, 88, 89, 10, 90, 36, 41, 42, 31, 43, 48, 67, 119, 120, 121, 122, 123, 105, 106, 107, 108, 109, 110] (by decide +kernel) (by decide +kernel)
set_option maxRecDepth 20000 in
theorem gX6_goThroughAgain_X1_redoBehind : GoodIn wsX6_goThroughAgain (wsV RX6 225 RX1 yX1_redoBehind wsX1_redoBehind) := goodIn_app (goodIn_of _ (by decide +kernel)) ggX6_goThroughAgain_X1_redoBehind
theorem dX6_goThroughAgain_0 : decode cX6_goThroughAgain 0 = .ok (.aload_n 0, 1) := by decide +kernel
theorem dX6_goThroughAgain_1 : decode cX6_goThroughAgain 1 = .ok (.getfield 26, 3) := by decide +kernel
theorem dX6_goThroughAgain_4 : decode cX6_goThroughAgain 4 = .ok (.aload_n 0, 1) := by decide +kernel
theorem dX6_goThroughAgain_5 : decode cX6_goThroughAgain 5 = .ok (.getfield 16, 3) := by decide +kernel
theorem dX6_goThroughAgain_8 : decode cX6_goThroughAgain 8 = .ok (.aload_n 0, 1) := by decide +kernel
theorem dX6_goThroughAgain_9 : decode cX6_goThroughAgain 9 = .ok (.getfield 32, 3) := by decide +kernel
theorem dX6_goThroughAgain_12 : decode cX6_goThroughAgain 12 = .ok (.getfield 114, 3) := by decide +kernel
theorem dX6_goThroughAgain_15 : decode cX6_goThroughAgain 15 = .ok (.iload_n 1, 1) := by decide +kernel
theorem dX6_goThroughAgain_16 : decode cX6_goThroughAgain 16 = .ok (.iaload, 1) := by decide +kernel
theorem dX6_goThroughAgain_17 : decode cX6_goThroughAgain 17 = .ok (.aload_n 0, 1) := by decide +kernel
theorem dX6_goThroughAgain_18 : decode cX6_goThroughAgain 18 = .ok (.getfield 32, 3) := by decide +kernel
theorem dX6_goThroughAgain_21 : decode cX6_goThroughAgain 21 = .ok (.getfield 117, 3) := by decide +kernel
theorem dX6_goThroughAgain_24 : decode cX6_goThroughAgain 24 = .ok (.iload_n 1, 1) := by decide +kernel
theorem dX6_goThroughAgain_25 : decode cX6_goThroughAgain 25 = .ok (.iaload, 1) := by decide +kernel
theorem dX6_goThroughAgain_26 : decode cX6_goThroughAgain 26 = .ok (.invokevirtual 120, 3) := by decide +kernel
theorem dX6_goThroughAgain_29 : decode cX6_goThroughAgain 29 = .ok (.aload_n 0, 1) := by decide +kernel
theorem dX6_goThroughAgain_30 : decode cX6_goThroughAgain 30 = .ok (.getfield 39, 3) := by decide +kernel
theorem dX6_goThroughAgain_33 : decode cX6_goThroughAgain 33 = .ok (.iload_n 1, 1) := by decide +kernel
theorem dX6_goThroughAgain_34 : decode cX6_goThroughAgain 34 = .ok (.iconst 1, 1) := by decide +kernel
theorem dX6_goThroughAgain_35 : decode cX6_goThroughAgain 35 = .ok (.iadd, 1) := by decide +kernel
theorem dX6_goThroughAgain_36 : decode cX6_goThroughAgain 36 = .ok (.aload_n 0, 1) := by decide +kernel
theorem dX6_goThroughAgain_37 : decode cX6_goThroughAgain 37 = .ok (.getfield 26, 3) := by decide +kernel
theorem dX6_goThroughAgain_40 : decode cX6_goThroughAgain 40 = .ok (.invokevirtual 225, 3) := by decide +kernel
theorem dX6_goThroughAgain_43 : decode cX6_goThroughAgain 43 = .ok (.return_, 1) := by decide +kernel
theorem dX7_thrown_0 : decode cX7_thrown 0 = .ok (.aload_n 0, 1) := by decide +kernel
theorem dX7_thrown_1 : decode cX7_thrown 1 = .ok (.getfield 1, 3) := by decide +kernel
theorem dX7_thrown_4 : decode cX7_thrown 4 = .ok (.ireturn, 1) := by decide +kernel
theorem dX7_init_0 : decode cX7_init 0 = .ok (.aload_n 0, 1) := by decide +kernel
theorem dX7_init_1 : decode cX7_init 1 = .ok (.invokespecial 7, 3) := by decide +kernel
theorem dX7_init_4 : decode cX7_init 4 = .ok (.aload_n 0, 1) := by decide +kernel
theorem dX7_init_5 : decode cX7_init 5 = .ok (.bipush 6, 2) := by decide +kernel
theorem dX7_init_7 : decode cX7_init 7 = .ok (.putfield 13, 3) := by decide +kernel
theorem dX7_init_10 : decode cX7_init 10 = .ok (.aload_n 0, 1) := by decide +kernel
theorem dX7_init_11 : decode cX7_init 11 = .ok (.bipush 12, 2) := by decide +kernel
theorem dX7_init_13 : decode cX7_init 13 = .ok (.newarray .int, 2) := by decide +kernel
theorem dX7_init_15 : decode cX7_init 15 = .ok (.putfield 16, 3) := by decide +kernel
theorem dX7_init_18 : decode cX7_init 18 = .ok (.aload_n 0, 1) := by decide +kernel
theorem dX7_init_19 : decode cX7_init 19 = .ok (.bipush 13, 2) := by decide +kernel
theorem dX7_init_21 : decode cX7_init 21 = .ok (.newarray .int, 2) := by decide +kernel
theorem dX7_init_23 : decode cX7_init 23 = .ok (.putfield 20, 3) := by decide +kernel
theorem dX7_init_26 : decode cX7_init 26 = .ok (.aload_n 0, 1) := by decide +kernel
theorem dX7_init_27 : decode cX7_init 27 = .ok (.bipush 13, 2) := by decide +kernel
theorem dX7_init_29 : decode cX7_init 29 = .ok (.newarray .int, 2) := by decide +kernel
theorem dX7_init_31 : decode cX7_init 31 = .ok (.putfield 23, 3) := by decide +kernel
theorem dX7_init_34 : decode cX7_init 34 = .ok (.aload_n 0, 1) := by decide +kernel
theorem dX7_init_35 : decode cX7_init 35 = .ok (.bipush 13, 2) := by decide +kernel
theorem dX7_init_37 : decode cX7_init 37 = .ok (.newarray .int, 2) := by decide +kernel
theorem dX7_init_39 : decode cX7_init 39 = .ok (.putfield 26, 3) := by decide +kernel
theorem dX7_init_42 : decode cX7_init 42 = .ok (.aload_n 0, 1) := by decide +kernel
theorem dX7_init_43 : decode cX7_init 43 = .ok (.bipush 12, 2) := by decide +kernel
theorem dX7_init_45 : decode cX7_init 45 = .ok (.newarray .int, 2) := by decide +kernel
theorem dX7_init_47 : decode cX7_init 47 = .ok (.putfield 29, 3) := by decide +kernel
theorem dX7_init_50 : decode cX7_init 50 = .ok (.aload_n 0, 1) := by decide +kernel
theorem dX7_init_51 : decode cX7_init 51 = .ok (.iconst 2, 1) := by decide +kernel
theorem dX7_init_52 : decode cX7_init 52 = .ok (.newarray .int, 2) := by decide +kernel
theorem dX7_init_54 : decode cX7_init 54 = .ok (.putfield 32, 3) := by decide +kernel
theorem dX7_init_57 : decode cX7_init 57 = .ok (.aload_n 0, 1) := by decide +kernel
theorem dX7_init_58 : decode cX7_init 58 = .ok (.iconst 4, 1) := by decide +kernel
theorem dX7_init_59 : decode cX7_init 59 = .ok (.putfield 35, 3) := by decide +kernel
theorem dX7_init_62 : decode cX7_init 62 = .ok (.aload_n 0, 1) := by decide +kernel
theorem dX7_init_63 : decode cX7_init 63 = .ok (.bipush 120, 2) := by decide +kernel
theorem dX7_init_65 : decode cX7_init 65 = .ok (.newarray .int, 2) := by decide +kernel
theorem dX7_init_67 : decode cX7_init 67 = .ok (.putfield 38, 3) := by decide +kernel
theorem dX7_init_70 : decode cX7_init 70 = .ok (.aload_n 0, 1) := by decide +kernel
theorem dX7_init_71 : decode cX7_init 71 = .ok (.bipush 120, 2) := by decide +kernel
theorem dX7_init_73 : decode cX7_init 73 = .ok (.newarray .int, 2) := by decide +kernel
theorem dX7_init_75 : decode cX7_init 75 = .ok (.putfield 41, 3) := by decide +kernel
theorem dX7_init_78 : decode cX7_init 78 = .ok (.aload_n 0, 1) := by decide +kernel
theorem dX7_init_79 : decode cX7_init 79 = .ok (.bipush 20, 2) := by decide +kernel
theorem dX7_init_81 : decode cX7_init 81 = .ok (.newarray .int, 2) := by decide +kernel
theorem dX7_init_83 : decode cX7_init 83 = .ok (.putfield 44, 3) := by decide +kernel
theorem dX7_init_86 : decode cX7_init 86 = .ok (.aload_n 0, 1) := by decide +kernel
theorem dX7_init_87 : decode cX7_init 87 = .ok (.bipush 20, 2) := by decide +kernel
theorem dX7_init_89 : decode cX7_init 89 = .ok (.newarray .int, 2) := by decide +kernel
theorem dX7_init_91 : decode cX7_init 91 = .ok (.putfield 47, 3) := by decide +kernel
theorem dX7_init_94 : decode cX7_init 94 = .ok (.aload_n 0, 1) := by decide +kernel
theorem dX7_init_95 : decode cX7_init 95 = .ok (.bipush 20, 2) := by decide +kernel
theorem dX7_init_97 : decode cX7_init 97 = .ok (.newarray .int, 2) := by decide +kernel
theorem dX7_init_99 : decode cX7_init 99 = .ok (.putfield 50, 3) := by decide +kernel
theorem dX7_init_102 : decode cX7_init 102 = .ok (.aload_n 0, 1) := by decide +kernel
theorem dX7_init_103 : decode cX7_init 103 = .ok (.bipush 20, 2) := by decide +kernel
theorem dX7_init_105 : decode cX7_init 105 = .ok (.newarray .int, 2) := by decide +kernel
theorem dX7_init_107 : decode cX7_init 107 = .ok (.putfield 53, 3) := by decide +kernel
theorem dX7_init_110 : decode cX7_init 110 = .ok (.aload_n 0, 1) := by decide +kernel
theorem dX7_init_111 : decode cX7_init 111 = .ok (.bipush 12, 2) := by decide +kernel
theorem dX7_init_113 : decode cX7_init 113 = .ok (.newarray .int, 2) := by decide +kernel
theorem dX7_init_115 : decode cX7_init 115 = .ok (.putfield 56, 3) := by decide +kernel
theorem dX7_init_118 : decode cX7_init 118 = .ok (.aload_n 0, 1) := by decide +kernel
theorem dX7_init_119 : decode cX7_init 119 = .ok (.bipush 12, 2) := by decide +kernel
theorem dX7_init_121 : decode cX7_init 121 = .ok (.newarray .int, 2) := by decide +kernel
theorem dX7_init_123 : decode cX7_init 123 = .ok (.putfield 59, 3) := by decide +kernel
theorem dX7_init_126 : decode cX7_init 126 = .ok (.aload_n 0, 1) := by decide +kernel
theorem dX7_init_127 : decode cX7_init 127 = .ok (.bipush 12, 2) := by decide +kernel
theorem dX7_init_129 : decode cX7_init 129 = .ok (.newarray .int, 2) := by decide +kernel
theorem dX7_init_131 : decode cX7_init 131 = .ok (.putfield 62, 3) := by decide +kernel
theorem dX7_init_134 : decode cX7_init 134 = .ok (.aload_n 0, 1) := by decide +kernel
theorem dX7_init_135 : decode cX7_init 135 = .ok (.bipush 13, 2) := by decide +kernel
theorem dX7_init_137 : decode cX7_init 137 = .ok (.newarray .int, 2) := by decide +kernel
theorem dX7_init_139 : decode cX7_init 139 = .ok (.putfield 65, 3) := by decide +kernel
theorem dX7_init_142 : decode cX7_init 142 = .ok (.aload_n 0, 1) := by decide +kernel
theorem dX7_init_143 : decode cX7_init 143 = .ok (.bipush 13, 2) := by decide +kernel
theorem dX7_init_145 : decode cX7_init 145 = .ok (.newarray .int, 2) := by decide +kernel
theorem dX7_init_147 : decode cX7_init 147 = .ok (.putfield 68, 3) := by decide +kernel
theorem dX7_init_150 : decode cX7_init 150 = .ok (.aload_n 0, 1) := by decide +kernel
theorem dX7_init_151 : decode cX7_init 151 = .ok (.bipush 13, 2) := by decide +kernel
theorem dX7_init_153 : decode cX7_init 153 = .ok (.newarray .int, 2) := by decide +kernel
theorem dX7_init_155 : decode cX7_init 155 = .ok (.putfield 71, 3) := by decide +kernel
theorem dX7_init_158 : decode cX7_init 158 = .ok (.aload_n 0, 1) := by decide +kernel
theorem dX7_init_159 : decode cX7_init 159 = .ok (.bipush 12, 2) := by decide +kernel
theorem dX7_init_161 : decode cX7_init 161 = .ok (.newarray .int, 2) := by decide +kernel
theorem dX7_init_163 : decode cX7_init 163 = .ok (.putfield 74, 3) := by decide +kernel
theorem dX7_init_166 : decode cX7_init 166 = .ok (.aload_n 0, 1) := by decide +kernel
theorem dX7_init_167 : decode cX7_init 167 = .ok (.bipush 6, 2) := by decide +kernel
theorem dX7_init_169 : decode cX7_init 169 = .ok (.newarray .int, 2) := by decide +kernel
theorem dX7_init_171 : decode cX7_init 171 = .ok (.putfield 77, 3) := by decide +kernel
theorem dX7_init_174 : decode cX7_init 174 = .ok (.aload_n 0, 1) := by decide +kernel
theorem dX7_init_175 : decode cX7_init 175 = .ok (.bipush 6, 2) := by decide +kernel
theorem dX7_init_177 : decode cX7_init 177 = .ok (.newarray .int, 2) := by decide +kernel
theorem dX7_init_179 : decode cX7_init 179 = .ok (.putfield 80, 3) := by decide +kernel
theorem dX7_init_182 : decode cX7_init 182 = .ok (.aload_n 0, 1) := by decide +kernel
theorem dX7_init_183 : decode cX7_init 183 = .ok (.bipush 6, 2) := by decide +kernel
theorem dX7_init_185 : decode cX7_init 185 = .ok (.newarray .int, 2) := by decide +kernel
theorem dX7_init_187 : decode cX7_init 187 = .ok (.putfield 83, 3) := by decide +kernel
theorem dX7_init_190 : decode cX7_init 190 = .ok (.aload_n 0, 1) := by decide +kernel
theorem dX7_init_191 : decode cX7_init 191 = .ok (.bipush 6, 2) := by decide +kernel
theorem dX7_init_193 : decode cX7_init 193 = .ok (.newarray .int, 2) := by decide +kernel
theorem dX7_init_195 : decode cX7_init 195 = .ok (.putfield 86, 3) := by decide +kernel
theorem dX7_init_198 : decode cX7_init 198 = .ok (.aload_n 0, 1) := by decide +kernel
theorem dX7_init_199 : decode cX7_init 199 = .ok (.bipush 12, 2) := by decide +kernel
theorem dX7_init_201 : decode cX7_init 201 = .ok (.newarray .int, 2) := by decide +kernel
theorem dX7_init_203 : decode cX7_init 203 = .ok (.putfield 89, 3) := by decide +kernel
theorem dX7_init_206 : decode cX7_init 206 = .ok (.aload_n 0, 1) := by decide +kernel
theorem dX7_init_207 : decode cX7_init 207 = .ok (.bipush 20, 2) := by decide +kernel
theorem dX7_init_209 : decode cX7_init 209 = .ok (.newarray .int, 2) := by decide +kernel
theorem dX7_init_211 : decode cX7_init 211 = .ok (.putfield 92, 3) := by decide +kernel
theorem dX7_init_214 : decode cX7_init 214 = .ok (.aload_n 0, 1) := by decide +kernel
theorem dX7_init_215 : decode cX7_init 215 = .ok (.bipush 20, 2) := by decide +kernel
theorem dX7_init_217 : decode cX7_init 217 = .ok (.newarray .int, 2) := by decide +kernel
theorem dX7_init_219 : decode cX7_init 219 = .ok (.putfield 95, 3) := by decide +kernel
theorem dX7_init_222 : decode cX7_init 222 = .ok (.aload_n 0, 1) := by decide +kernel
theorem dX7_init_223 : decode cX7_init 223 = .ok (.bipush 20, 2) := by decide +kernel
theorem dX7_init_225 : decode cX7_init 225 = .ok (.newarray .int, 2) := by decide +kernel
theorem dX7_init_227 : decode cX7_init 227 = .ok (.putfield 98, 3) := by decide +kernel
theorem dX7_init_230 : decode cX7_init 230 = .ok (.aload_n 0, 1) := by decide +kernel
theorem dX7_init_231 : decode cX7_init 231 = .ok (.bipush 20, 2) := by decide +kernel
theorem dX7_init_233 : decode cX7_init 233 = .ok (.newarray .int, 2) := by decide +kernel
theorem dX7_init_235 : decode cX7_init 235 = .ok (.putfield 101, 3) := by decide +kernel
theorem dX7_init_238 : decode cX7_init 238 = .ok (.iconst 0, 1) := by decide +kernel
theorem dX7_init_239 : decode cX7_init 239 = .ok (.istore_n 1, 1) := by decide +kernel
theorem dX7_init_240 : decode cX7_init 240 = .ok (.iload_n 1, 1) := by decide +kernel
theorem dX7_init_241 : decode cX7_init 241 = .ok (.bipush 12, 2) := by decide +kernel
theorem dX7_init_243 : decode cX7_init 243 = .ok (.if_icmp .ge 18, 3) := by decide +kernel
theorem dX7_init_246 : decode cX7_init 246 = .ok (.aload_n 0, 1) := by decide +kernel
theorem dX7_init_247 : decode cX7_init 247 = .ok (.getfield 16, 3) := by decide +kernel
theorem dX7_init_250 : decode cX7_init 250 = .ok (.iload_n 1, 1) := by decide +kernel
theorem dX7_init_251 : decode cX7_init 251 = .ok (.sipush 1000, 3) := by decide +kernel
theorem dX7_init_254 : decode cX7_init 254 = .ok (.iastore, 1) := by decide +kernel
theorem dX7_init_255 : decode cX7_init 255 = .ok (.iinc 1 1, 3) := by decide +kernel
theorem dX7_init_258 : decode cX7_init 258 = .ok (.goto (-18), 3) := by decide +kernel
theorem dX7_init_261 : decode cX7_init 261 = .ok (.aload_n 0, 1) := by decide +kernel
theorem dX7_init_262 : decode cX7_init 262 = .ok (.getfield 32, 3) := by decide +kernel
theorem dX7_init_265 : decode cX7_init 265 = .ok (.iconst 0, 1) := by decide +kernel
theorem dX7_init_266 : decode cX7_init 266 = .ok (.bipush 100, 2) := by decide +kernel
theorem dX7_init_268 : decode cX7_init 268 = .ok (.iastore, 1) := by decide +kernel
theorem dX7_init_269 : decode cX7_init 269 = .ok (.aload_n 0, 1) := by decide +kernel
theorem dX7_init_270 : decode cX7_init 270 = .ok (.getfield 32, 3) := by decide +kernel
theorem dX7_init_273 : decode cX7_init 273 = .ok (.iconst 1, 1) := by decide +kernel
theorem dX7_init_274 : decode cX7_init 274 = .ok (.bipush 100, 2) := by decide +kernel
theorem dX7_init_276 : decode cX7_init 276 = .ok (.iastore, 1) := by decide +kernel
theorem dX7_init_277 : decode cX7_init 277 = .ok (.return_, 1) := by decide +kernel
theorem dX7_within_0 : decode cX7_within 0 = .ok (.iload_n 0, 1) := by decide +kernel
theorem dX7_within_1 : decode cX7_within 1 = .ok (.iload_n 1, 1) := by decide +kernel
theorem dX7_within_2 : decode cX7_within 2 = .ok (.if_icmp .lt 12, 3) := by decide +kernel
theorem dX7_within_5 : decode cX7_within 5 = .ok (.iload_n 0, 1) := by decide +kernel
theorem dX7_within_6 : decode cX7_within 6 = .ok (.iload_n 2, 1) := by decide +kernel
theorem dX7_within_7 : decode cX7_within 7 = .ok (.if_icmp .gt 7, 3) := by decide +kernel
theorem dX7_within_10 : decode cX7_within 10 = .ok (.iconst 1, 1) := by decide +kernel
theorem dX7_within_11 : decode cX7_within 11 = .ok (.goto 4, 3) := by decide +kernel
theorem dX7_within_14 : decode cX7_within 14 = .ok (.iconst 0, 1) := by decide +kernel
theorem dX7_within_15 : decode cX7_within 15 = .ok (.ireturn, 1) := by decide +kernel
set_option maxRecDepth 20000 in
theorem ggX7_fields_X7_within : GoodIn wsX7_fields wsX7_within := goodIn_r _ [7] (by decide +kernel) (by decide +kernel)
set_option maxRecDepth 20000 in
theorem gX7_fields_X7_within : GoodIn wsX7_fields (va_wsS RX7 104 yX7_within wsX7_within) := goodIn_app (goodIn_of _ (by decide +kernel)) ggX7_fields_X7_within
theorem dX7_fields_0 : decode cX7_fields 0 = .ok (.aload_n 0, 1) := by decide +kernel
theorem dX7_fields_1 : decode cX7_fields 1 = .ok (.iconst 0, 1) := by decide +kernel
theorem dX7_fields_2 : decode cX7_fields 2 = .ok (.putfield 1, 3) := by decide +kernel
theorem dX7_fields_5 : decode cX7_fields 5 = .ok (.iload_n 1, 1) := by decide +kernel
theorem dX7_fields_6 : decode cX7_fields 6 = .ok (.iconst 2, 1) := by decide +kernel
theorem dX7_fields_7 : decode cX7_fields 7 = .ok (.bipush 12, 2) := by decide +kernel
theorem dX7_fields_9 : decode cX7_fields 9 = .ok (.invokestatic 104, 3) := by decide +kernel
theorem dX7_fields_12 : decode cX7_fields 12 = .ok (.ifCond .eq 10, 3) := by decide +kernel
theorem dX7_fields_15 : decode cX7_fields 15 = .ok (.aload_n 0, 1) := by decide +kernel
theorem dX7_fields_16 : decode cX7_fields 16 = .ok (.getfield 108, 3) := by decide +kernel
theorem dX7_fields_19 : decode cX7_fields 19 = .ok (.ifCond .eq 5, 3) := by decide +kernel
theorem dX7_fields_22 : decode cX7_fields 22 = .ok (.iconst 0, 1) := by decide +kernel
theorem dX7_fields_23 : decode cX7_fields 23 = .ok (.ireturn, 1) := by decide +kernel
theorem dX7_fields_24 : decode cX7_fields 24 = .ok (.aload_n 0, 1) := by decide +kernel
theorem dX7_fields_25 : decode cX7_fields 25 = .ok (.iload_n 1, 1) := by decide +kernel
theorem dX7_fields_26 : decode cX7_fields 26 = .ok (.putfield 13, 3) := by decide +kernel
theorem dX7_fields_29 : decode cX7_fields 29 = .ok (.iconst 1, 1) := by decide +kernel
theorem dX7_fields_30 : decode cX7_fields 30 = .ok (.ireturn, 1) := by decide +kernel
set_option maxRecDepth 20000 in
theorem ggX7_isField_X7_within : GoodIn wsX7_isField wsX7_within := goodIn_r _ [5] (by decide +kernel) (by decide +kernel)
set_option maxRecDepth 20000 in
theorem gX7_isField_X7_within : GoodIn wsX7_isField (va_wsS RX7 104 yX7_within wsX7_within) := goodIn_app (goodIn_of _ (by decide +kernel)) ggX7_isField_X7_within
theorem dX7_isField_0 : decode cX7_isField 0 = .ok (.iload_n 1, 1) := by decide +kernel
theorem dX7_isField_1 : decode cX7_isField 1 = .ok (.iconst 0, 1) := by decide +kernel
theorem dX7_isField_2 : decode cX7_isField 2 = .ok (.aload_n 0, 1) := by decide +kernel
theorem dX7_isField_3 : decode cX7_isField 3 = .ok (.getfield 13, 3) := by decide +kernel
theorem dX7_isField_6 : decode cX7_isField 6 = .ok (.iconst 1, 1) := by decide +kernel
theorem dX7_isField_7 : decode cX7_isField 7 = .ok (.isub, 1) := by decide +kernel
theorem dX7_isField_8 : decode cX7_isField 8 = .ok (.invokestatic 104, 3) := by decide +kernel
theorem dX7_isField_11 : decode cX7_isField 11 = .ok (.ireturn, 1) := by decide +kernel
set_option maxRecDepth 20000 in
theorem ggX7_isInner_X7_within : GoodIn wsX7_isInner wsX7_within := goodIn_r _ [5] (by decide +kernel) (by decide +kernel)
set_option maxRecDepth 20000 in
theorem gX7_isInner_X7_within : GoodIn wsX7_isInner (va_wsS RX7 104 yX7_within wsX7_within) := goodIn_app (goodIn_of _ (by decide +kernel)) ggX7_isInner_X7_within
theorem dX7_isInner_0 : decode cX7_isInner 0 = .ok (.iload_n 1, 1) := by decide +kernel
theorem dX7_isInner_1 : decode cX7_isInner 1 = .ok (.iconst 1, 1) := by decide +kernel
theorem dX7_isInner_2 : decode cX7_isInner 2 = .ok (.aload_n 0, 1) := by decide +kernel
theorem dX7_isInner_3 : decode cX7_isInner 3 = .ok (.getfield 13, 3) := by decide +kernel
theorem dX7_isInner_6 : decode cX7_isInner 6 = .ok (.iconst 1, 1) := by decide +kernel
theorem dX7_isInner_7 : decode cX7_isInner 7 = .ok (.isub, 1) := by decide +kernel
theorem dX7_isInner_8 : decode cX7_isInner 8 = .ok (.invokestatic 104, 3) := by decide +kernel
theorem dX7_isInner_11 : decode cX7_isInner 11 = .ok (.ireturn, 1) := by decide +kernel
set_option maxRecDepth 20000 in
theorem ggX7_sand_X7_isField : GoodIn wsX7_sand wsX7_isField := goodIn_r _ [10, 11, 12, 13, 9, 14, 15, 16, 17, 18, 19, 20, 21, 22, 23, 24, 25, 26, 27, 28, 29, 30, 31, 32, 33, 34, 35, 36, 37, 38, 39, 40, 41, 42, 43, 44, 45, 46, 47, 48, 49, 50, 51] (by decide +kernel) (by decide +kernel)
set_option maxRecDepth 20000 in
theorem gX7_sand_X7_isField : GoodIn wsX7_sand (wsV RX7 112 RX7 yX7_isField wsX7_isField) := goodIn_app (goodIn_of _ (by decide +kernel)) ggX7_sand_X7_isField
set_option maxRecDepth 20000 in
theorem ggX7_sand_X7_within : GoodIn wsX7_sand wsX7_within := goodIn_r _ [14] (by decide +kernel) (by decide +kernel)
set_option maxRecDepth 20000 in
theorem gX7_sand_X7_within : GoodIn wsX7_sand (va_wsS RX7 104 yX7_within wsX7_within) := goodIn_app (goodIn_of _ (by decide +kernel)) ggX7_sand_X7_within
theorem dX7_sand_0 : decode cX7_sand 0 = .ok (.aload_n 0, 1) := by decide +kernel
theorem dX7_sand_1 : decode cX7_sand 1 = .ok (.iconst 0, 1) := by decide +kernel
theorem dX7_sand_2 : decode cX7_sand 2 = .ok (.putfield 1, 3) := by decide +kernel
theorem dX7_sand_5 : decode cX7_sand 5 = .ok (.aload_n 0, 1) := by decide +kernel
theorem dX7_sand_6 : decode cX7_sand 6 = .ok (.iload_n 1, 1) := by decide +kernel
theorem dX7_sand_7 : decode cX7_sand 7 = .ok (.invokevirtual 112, 3) := by decide +kernel
theorem dX7_sand_10 : decode cX7_sand 10 = .ok (.ifCond .eq 20, 3) := by decide +kernel
theorem dX7_sand_13 : decode cX7_sand 13 = .ok (.iload_n 2, 1) := by decide +kernel
theorem dX7_sand_14 : decode cX7_sand 14 = .ok (.iconst 0, 1) := by decide +kernel
theorem dX7_sand_15 : decode cX7_sand 15 = .ok (.ldc 116, 2) := by decide +kernel
theorem dX7_sand_17 : decode cX7_sand 17 = .ok (.invokestatic 104, 3) := by decide +kernel
theorem dX7_sand_20 : decode cX7_sand 20 = .ok (.ifCond .eq 10, 3) := by decide +kernel
theorem dX7_sand_23 : decode cX7_sand 23 = .ok (.aload_n 0, 1) := by decide +kernel
theorem dX7_sand_24 : decode cX7_sand 24 = .ok (.getfield 117, 3) := by decide +kernel
theorem dX7_sand_27 : decode cX7_sand 27 = .ok (.ifCond .le 5, 3) := by decide +kernel
theorem dX7_sand_30 : decode cX7_sand 30 = .ok (.iconst 0, 1) := by decide +kernel
theorem dX7_sand_31 : decode cX7_sand 31 = .ok (.ireturn, 1) := by decide +kernel
theorem dX7_sand_32 : decode cX7_sand 32 = .ok (.aload_n 0, 1) := by decide +kernel
theorem dX7_sand_33 : decode cX7_sand 33 = .ok (.getfield 16, 3) := by decide +kernel
theorem dX7_sand_36 : decode cX7_sand 36 = .ok (.iload_n 1, 1) := by decide +kernel
theorem dX7_sand_37 : decode cX7_sand 37 = .ok (.iload_n 2, 1) := by decide +kernel
theorem dX7_sand_38 : decode cX7_sand 38 = .ok (.iastore, 1) := by decide +kernel
theorem dX7_sand_39 : decode cX7_sand 39 = .ok (.aload_n 0, 1) := by decide +kernel
theorem dX7_sand_40 : decode cX7_sand 40 = .ok (.iconst 1, 1) := by decide +kernel
theorem dX7_sand_41 : decode cX7_sand 41 = .ok (.putfield 108, 3) := by decide +kernel
theorem dX7_sand_44 : decode cX7_sand 44 = .ok (.iconst 1, 1) := by decide +kernel
theorem dX7_sand_45 : decode cX7_sand 45 = .ok (.ireturn, 1) := by decide +kernel
set_option maxRecDepth 20000 in
theorem ggX7_groyne_X7_isInner : GoodIn wsX7_groyne wsX7_isInner := goodIn_r _ [11, 12, 13, 14, 10, 15, 16, 17, 18, 19, 20, 21, 22, 23, 24, 25, 26, 27, 28, 29, 30, 31, 32, 33, 34, 35, 36, 37, 38, 39, 40, 41, 42, 43, 44, 45, 46, 47, 48, 49, 50, 51, 52] (by decide +kernel) (by decide +kernel)
set_option maxRecDepth 20000 in
theorem gX7_groyne_X7_isInner : GoodIn wsX7_groyne (wsV RX7 120 RX7 yX7_isInner wsX7_isInner) := goodIn_app (goodIn_of _ (by decide +kernel)) ggX7_groyne_X7_isInner
set_option maxRecDepth 20000 in
theorem ggX7_groyne_X7_within : GoodIn wsX7_groyne wsX7_within := goodIn_r _ [15] (by decide +kernel) (by decide +kernel)
set_option maxRecDepth 20000 in
theorem gX7_groyne_X7_within : GoodIn wsX7_groyne (va_wsS RX7 104 yX7_within wsX7_within) := goodIn_app (goodIn_of _ (by decide +kernel)) ggX7_groyne_X7_within
theorem dX7_groyne_0 : decode cX7_groyne 0 = .ok (.aload_n 0, 1) := by decide +kernel
theorem dX7_groyne_1 : decode cX7_groyne 1 = .ok (.iconst 0, 1) := by decide +kernel
theorem dX7_groyne_2 : decode cX7_groyne 2 = .ok (.putfield 1, 3) := by decide +kernel
theorem dX7_groyne_5 : decode cX7_groyne 5 = .ok (.aload_n 0, 1) := by decide +kernel
theorem dX7_groyne_6 : decode cX7_groyne 6 = .ok (.iload_n 1, 1) := by decide +kernel
theorem dX7_groyne_7 : decode cX7_groyne 7 = .ok (.invokevirtual 120, 3) := by decide +kernel
theorem dX7_groyne_10 : decode cX7_groyne 10 = .ok (.ifCond .eq 31, 3) := by decide +kernel
theorem dX7_groyne_13 : decode cX7_groyne 13 = .ok (.iload_n 2, 1) := by decide +kernel
theorem dX7_groyne_14 : decode cX7_groyne 14 = .ok (.iconst 0, 1) := by decide +kernel
theorem dX7_groyne_15 : decode cX7_groyne 15 = .ok (.sipush 999, 3) := by decide +kernel
theorem dX7_groyne_18 : decode cX7_groyne 18 = .ok (.invokestatic 104, 3) := by decide +kernel
theorem dX7_groyne_21 : decode cX7_groyne 21 = .ok (.ifCond .eq 20, 3) := by decide +kernel
theorem dX7_groyne_24 : decode cX7_groyne 24 = .ok (.iload_n 3, 1) := by decide +kernel
theorem dX7_groyne_25 : decode cX7_groyne 25 = .ok (.iconst 0, 1) := by decide +kernel
theorem dX7_groyne_26 : decode cX7_groyne 26 = .ok (.bipush 100, 2) := by decide +kernel
theorem dX7_groyne_28 : decode cX7_groyne 28 = .ok (.invokestatic 104, 3) := by decide +kernel
theorem dX7_groyne_31 : decode cX7_groyne 31 = .ok (.ifCond .eq 10, 3) := by decide +kernel
theorem dX7_groyne_34 : decode cX7_groyne 34 = .ok (.aload_n 0, 1) := by decide +kernel
theorem dX7_groyne_35 : decode cX7_groyne 35 = .ok (.getfield 117, 3) := by decide +kernel
theorem dX7_groyne_38 : decode cX7_groyne 38 = .ok (.ifCond .le 5, 3) := by decide +kernel
theorem dX7_groyne_41 : decode cX7_groyne 41 = .ok (.iconst 0, 1) := by decide +kernel
theorem dX7_groyne_42 : decode cX7_groyne 42 = .ok (.ireturn, 1) := by decide +kernel
theorem dX7_groyne_43 : decode cX7_groyne 43 = .ok (.aload_n 0, 1) := by decide +kernel
theorem dX7_groyne_44 : decode cX7_groyne 44 = .ok (.getfield 20, 3) := by decide +kernel
theorem dX7_groyne_47 : decode cX7_groyne 47 = .ok (.iload_n 1, 1) := by decide +kernel
theorem dX7_groyne_48 : decode cX7_groyne 48 = .ok (.iload_n 2, 1) := by decide +kernel
theorem dX7_groyne_49 : decode cX7_groyne 49 = .ok (.ifCond .ne 7, 3) := by decide +kernel
theorem dX7_groyne_52 : decode cX7_groyne 52 = .ok (.iconst 0, 1) := by decide +kernel
theorem dX7_groyne_53 : decode cX7_groyne 53 = .ok (.goto 4, 3) := by decide +kernel
theorem dX7_groyne_56 : decode cX7_groyne 56 = .ok (.iconst 1, 1) := by decide +kernel
theorem dX7_groyne_57 : decode cX7_groyne 57 = .ok (.iastore, 1) := by decide +kernel
theorem dX7_groyne_58 : decode cX7_groyne 58 = .ok (.aload_n 0, 1) := by decide +kernel
theorem dX7_groyne_59 : decode cX7_groyne 59 = .ok (.getfield 23, 3) := by decide +kernel
theorem dX7_groyne_62 : decode cX7_groyne 62 = .ok (.iload_n 1, 1) := by decide +kernel
theorem dX7_groyne_63 : decode cX7_groyne 63 = .ok (.iload_n 2, 1) := by decide +kernel
theorem dX7_groyne_64 : decode cX7_groyne 64 = .ok (.iastore, 1) := by decide +kernel
theorem dX7_groyne_65 : decode cX7_groyne 65 = .ok (.aload_n 0, 1) := by decide +kernel
theorem dX7_groyne_66 : decode cX7_groyne 66 = .ok (.getfield 26, 3) := by decide +kernel
theorem dX7_groyne_69 : decode cX7_groyne 69 = .ok (.iload_n 1, 1) := by decide +kernel
theorem dX7_groyne_70 : decode cX7_groyne 70 = .ok (.iload_n 3, 1) := by decide +kernel
theorem dX7_groyne_71 : decode cX7_groyne 71 = .ok (.iastore, 1) := by decide +kernel
theorem dX7_groyne_72 : decode cX7_groyne 72 = .ok (.aload_n 0, 1) := by decide +kernel
theorem dX7_groyne_73 : decode cX7_groyne 73 = .ok (.iconst 1, 1) := by decide +kernel
theorem dX7_groyne_74 : decode cX7_groyne 74 = .ok (.putfield 108, 3) := by decide +kernel
