theorem dX7_groyne_77 : decode cX7_groyne 77 = .ok (.iconst 1, 1) := by decide +kernel
theorem dX7_groyne_78 : decode cX7_groyne 78 = .ok (.ireturn, 1) := by decide +kernel
set_option maxRecDepth 20000 in
theorem ggX7_mouth_X7_isInner : GoodIn wsX7_mouth wsX7_isInner := goodIn_r _ [11, 12, 13, 14, 10, 15, 16, 17, 18, 19, 20, 21, 22, 23, 24, 25, 26, 27, 28, 29, 30, 31, 32, 33, 34, 35, 36, 37, 38, 39, 40, 41, 42, 43, 44, 45, 46, 47, 48, 49, 50, 51, 52] (by decide +kernel) (by decide +kernel)
set_option maxRecDepth 20000 in
theorem gX7_mouth_X7_isInner : GoodIn wsX7_mouth (wsV RX7 120 RX7 yX7_isInner wsX7_isInner) := goodIn_app (goodIn_of _ (by decide +kernel)) ggX7_mouth_X7_isInner
set_option maxRecDepth 20000 in
theorem ggX7_mouth_X7_within : GoodIn wsX7_mouth wsX7_within := goodIn_r _ [15] (by decide +kernel) (by decide +kernel)
set_option maxRecDepth 20000 in
theorem gX7_mouth_X7_within : GoodIn wsX7_mouth (va_wsS RX7 104 yX7_within wsX7_within) := goodIn_app (goodIn_of _ (by decide +kernel)) ggX7_mouth_X7_within
theorem dX7_mouth_0 : decode cX7_mouth 0 = .ok (.aload_n 0, 1) := by decide +kernel
theorem dX7_mouth_1 : decode cX7_mouth 1 = .ok (.iconst 0, 1) := by decide +kernel
theorem dX7_mouth_2 : decode cX7_mouth 2 = .ok (.putfield 1, 3) := by decide +kernel
theorem dX7_mouth_5 : decode cX7_mouth 5 = .ok (.aload_n 0, 1) := by decide +kernel
theorem dX7_mouth_6 : decode cX7_mouth 6 = .ok (.iload_n 1, 1) := by decide +kernel
theorem dX7_mouth_7 : decode cX7_mouth 7 = .ok (.invokevirtual 120, 3) := by decide +kernel
theorem dX7_mouth_10 : decode cX7_mouth 10 = .ok (.ifCond .eq 20, 3) := by decide +kernel
theorem dX7_mouth_13 : decode cX7_mouth 13 = .ok (.iload_n 2, 1) := by decide +kernel
theorem dX7_mouth_14 : decode cX7_mouth 14 = .ok (.iconst 0, 1) := by decide +kernel
theorem dX7_mouth_15 : decode cX7_mouth 15 = .ok (.bipush 100, 2) := by decide +kernel
theorem dX7_mouth_17 : decode cX7_mouth 17 = .ok (.invokestatic 104, 3) := by decide +kernel
theorem dX7_mouth_20 : decode cX7_mouth 20 = .ok (.ifCond .eq 10, 3) := by decide +kernel
theorem dX7_mouth_23 : decode cX7_mouth 23 = .ok (.aload_n 0, 1) := by decide +kernel
theorem dX7_mouth_24 : decode cX7_mouth 24 = .ok (.getfield 117, 3) := by decide +kernel
theorem dX7_mouth_27 : decode cX7_mouth 27 = .ok (.ifCond .le 5, 3) := by decide +kernel
theorem dX7_mouth_30 : decode cX7_mouth 30 = .ok (.iconst 0, 1) := by decide +kernel
theorem dX7_mouth_31 : decode cX7_mouth 31 = .ok (.ireturn, 1) := by decide +kernel
theorem dX7_mouth_32 : decode cX7_mouth 32 = .ok (.aload_n 0, 1) := by decide +kernel
theorem dX7_mouth_33 : decode cX7_mouth 33 = .ok (.getfield 20, 3) := by decide +kernel
theorem dX7_mouth_36 : decode cX7_mouth 36 = .ok (.iload_n 1, 1) := by decide +kernel
theorem dX7_mouth_37 : decode cX7_mouth 37 = .ok (.iconst 2, 1) := by decide +kernel
theorem dX7_mouth_38 : decode cX7_mouth 38 = .ok (.iastore, 1) := by decide +kernel
theorem dX7_mouth_39 : decode cX7_mouth 39 = .ok (.aload_n 0, 1) := by decide +kernel
theorem dX7_mouth_40 : decode cX7_mouth 40 = .ok (.getfield 23, 3) := by decide +kernel
theorem dX7_mouth_43 : decode cX7_mouth 43 = .ok (.iload_n 1, 1) := by decide +kernel
theorem dX7_mouth_44 : decode cX7_mouth 44 = .ok (.iconst 0, 1) := by decide +kernel
theorem dX7_mouth_45 : decode cX7_mouth 45 = .ok (.iastore, 1) := by decide +kernel
theorem dX7_mouth_46 : decode cX7_mouth 46 = .ok (.aload_n 0, 1) := by decide +kernel
theorem dX7_mouth_47 : decode cX7_mouth 47 = .ok (.getfield 26, 3) := by decide +kernel
theorem dX7_mouth_50 : decode cX7_mouth 50 = .ok (.iload_n 1, 1) := by decide +kernel
theorem dX7_mouth_51 : decode cX7_mouth 51 = .ok (.iload_n 2, 1) := by decide +kernel
theorem dX7_mouth_52 : decode cX7_mouth 52 = .ok (.iastore, 1) := by decide +kernel
theorem dX7_mouth_53 : decode cX7_mouth 53 = .ok (.aload_n 0, 1) := by decide +kernel
theorem dX7_mouth_54 : decode cX7_mouth 54 = .ok (.iconst 1, 1) := by decide +kernel
theorem dX7_mouth_55 : decode cX7_mouth 55 = .ok (.putfield 108, 3) := by decide +kernel
theorem dX7_mouth_58 : decode cX7_mouth 58 = .ok (.iconst 1, 1) := by decide +kernel
theorem dX7_mouth_59 : decode cX7_mouth 59 = .ok (.ireturn, 1) := by decide +kernel
set_option maxRecDepth 20000 in
theorem ggX7_wall_X7_isField : GoodIn wsX7_wall wsX7_isField := goodIn_r _ [9, 10, 11, 12, 8, 13, 14, 15, 16, 17, 18, 19, 20, 21, 22, 23, 24, 25, 26, 27, 28, 29, 30, 31, 32, 33, 34, 35, 36, 37, 38, 39, 40, 41, 42, 43, 44, 45, 46, 47, 48, 49, 50] (by decide +kernel) (by decide +kernel)
set_option maxRecDepth 20000 in
theorem gX7_wall_X7_isField : GoodIn wsX7_wall (wsV RX7 112 RX7 yX7_isField wsX7_isField) := goodIn_app (goodIn_of _ (by decide +kernel)) ggX7_wall_X7_isField
set_option maxRecDepth 20000 in
theorem ggX7_wall_X7_within : GoodIn wsX7_wall wsX7_within := goodIn_r _ [13] (by decide +kernel) (by decide +kernel)
set_option maxRecDepth 20000 in
theorem gX7_wall_X7_within : GoodIn wsX7_wall (va_wsS RX7 104 yX7_within wsX7_within) := goodIn_app (goodIn_of _ (by decide +kernel)) ggX7_wall_X7_within
theorem dX7_wall_0 : decode cX7_wall 0 = .ok (.aload_n 0, 1) := by decide +kernel
theorem dX7_wall_1 : decode cX7_wall 1 = .ok (.iconst 0, 1) := by decide +kernel
theorem dX7_wall_2 : decode cX7_wall 2 = .ok (.putfield 1, 3) := by decide +kernel
theorem dX7_wall_5 : decode cX7_wall 5 = .ok (.aload_n 0, 1) := by decide +kernel
theorem dX7_wall_6 : decode cX7_wall 6 = .ok (.iload_n 1, 1) := by decide +kernel
theorem dX7_wall_7 : decode cX7_wall 7 = .ok (.invokevirtual 112, 3) := by decide +kernel
theorem dX7_wall_10 : decode cX7_wall 10 = .ok (.ifCond .eq 21, 3) := by decide +kernel
theorem dX7_wall_13 : decode cX7_wall 13 = .ok (.iload_n 2, 1) := by decide +kernel
theorem dX7_wall_14 : decode cX7_wall 14 = .ok (.iconst 0, 1) := by decide +kernel
theorem dX7_wall_15 : decode cX7_wall 15 = .ok (.sipush 999, 3) := by decide +kernel
theorem dX7_wall_18 : decode cX7_wall 18 = .ok (.invokestatic 104, 3) := by decide +kernel
theorem dX7_wall_21 : decode cX7_wall 21 = .ok (.ifCond .eq 10, 3) := by decide +kernel
theorem dX7_wall_24 : decode cX7_wall 24 = .ok (.aload_n 0, 1) := by decide +kernel
theorem dX7_wall_25 : decode cX7_wall 25 = .ok (.getfield 117, 3) := by decide +kernel
theorem dX7_wall_28 : decode cX7_wall 28 = .ok (.ifCond .le 5, 3) := by decide +kernel
theorem dX7_wall_31 : decode cX7_wall 31 = .ok (.iconst 0, 1) := by decide +kernel
theorem dX7_wall_32 : decode cX7_wall 32 = .ok (.ireturn, 1) := by decide +kernel
theorem dX7_wall_33 : decode cX7_wall 33 = .ok (.aload_n 0, 1) := by decide +kernel
theorem dX7_wall_34 : decode cX7_wall 34 = .ok (.getfield 29, 3) := by decide +kernel
theorem dX7_wall_37 : decode cX7_wall 37 = .ok (.iload_n 1, 1) := by decide +kernel
theorem dX7_wall_38 : decode cX7_wall 38 = .ok (.iload_n 2, 1) := by decide +kernel
theorem dX7_wall_39 : decode cX7_wall 39 = .ok (.iastore, 1) := by decide +kernel
theorem dX7_wall_40 : decode cX7_wall 40 = .ok (.aload_n 0, 1) := by decide +kernel
theorem dX7_wall_41 : decode cX7_wall 41 = .ok (.iconst 1, 1) := by decide +kernel
theorem dX7_wall_42 : decode cX7_wall 42 = .ok (.putfield 108, 3) := by decide +kernel
theorem dX7_wall_45 : decode cX7_wall 45 = .ok (.iconst 1, 1) := by decide +kernel
theorem dX7_wall_46 : decode cX7_wall 46 = .ok (.ireturn, 1) := by decide +kernel
set_option maxRecDepth 20000 in
theorem ggX7_feed_X7_within : GoodIn wsX7_feed wsX7_within := goodIn_r _ [8] (by decide +kernel) (by decide +kernel)
set_option maxRecDepth 20000 in
theorem gX7_feed_X7_within : GoodIn wsX7_feed (va_wsS RX7 104 yX7_within wsX7_within) := goodIn_app (goodIn_of _ (by decide +kernel)) ggX7_feed_X7_within
theorem dX7_feed_0 : decode cX7_feed 0 = .ok (.aload_n 0, 1) := by decide +kernel
theorem dX7_feed_1 : decode cX7_feed 1 = .ok (.iconst 0, 1) := by decide +kernel
theorem dX7_feed_2 : decode cX7_feed 2 = .ok (.putfield 1, 3) := by decide +kernel
theorem dX7_feed_5 : decode cX7_feed 5 = .ok (.iload_n 1, 1) := by decide +kernel
theorem dX7_feed_6 : decode cX7_feed 6 = .ok (.iconst 0, 1) := by decide +kernel
theorem dX7_feed_7 : decode cX7_feed 7 = .ok (.iconst 1, 1) := by decide +kernel
theorem dX7_feed_8 : decode cX7_feed 8 = .ok (.invokestatic 104, 3) := by decide +kernel
theorem dX7_feed_11 : decode cX7_feed 11 = .ok (.ifCond .eq 21, 3) := by decide +kernel
theorem dX7_feed_14 : decode cX7_feed 14 = .ok (.iload_n 2, 1) := by decide +kernel
theorem dX7_feed_15 : decode cX7_feed 15 = .ok (.iconst 0, 1) := by decide +kernel
theorem dX7_feed_16 : decode cX7_feed 16 = .ok (.sipush 200, 3) := by decide +kernel
theorem dX7_feed_19 : decode cX7_feed 19 = .ok (.invokestatic 104, 3) := by decide +kernel
theorem dX7_feed_22 : decode cX7_feed 22 = .ok (.ifCond .eq 10, 3) := by decide +kernel
theorem dX7_feed_25 : decode cX7_feed 25 = .ok (.aload_n 0, 1) := by decide +kernel
theorem dX7_feed_26 : decode cX7_feed 26 = .ok (.getfield 117, 3) := by decide +kernel
theorem dX7_feed_29 : decode cX7_feed 29 = .ok (.ifCond .le 5, 3) := by decide +kernel
theorem dX7_feed_32 : decode cX7_feed 32 = .ok (.iconst 0, 1) := by decide +kernel
theorem dX7_feed_33 : decode cX7_feed 33 = .ok (.ireturn, 1) := by decide +kernel
theorem dX7_feed_34 : decode cX7_feed 34 = .ok (.aload_n 0, 1) := by decide +kernel
theorem dX7_feed_35 : decode cX7_feed 35 = .ok (.getfield 32, 3) := by decide +kernel
theorem dX7_feed_38 : decode cX7_feed 38 = .ok (.iload_n 1, 1) := by decide +kernel
theorem dX7_feed_39 : decode cX7_feed 39 = .ok (.iload_n 2, 1) := by decide +kernel
theorem dX7_feed_40 : decode cX7_feed 40 = .ok (.iastore, 1) := by decide +kernel
theorem dX7_feed_41 : decode cX7_feed 41 = .ok (.aload_n 0, 1) := by decide +kernel
theorem dX7_feed_42 : decode cX7_feed 42 = .ok (.iconst 1, 1) := by decide +kernel
theorem dX7_feed_43 : decode cX7_feed 43 = .ok (.putfield 108, 3) := by decide +kernel
theorem dX7_feed_46 : decode cX7_feed 46 = .ok (.iconst 1, 1) := by decide +kernel
theorem dX7_feed_47 : decode cX7_feed 47 = .ok (.ireturn, 1) := by decide +kernel
set_option maxRecDepth 20000 in
theorem ggX7_number_X7_within : GoodIn wsX7_number wsX7_within := goodIn_r _ [8] (by decide +kernel) (by decide +kernel)
set_option maxRecDepth 20000 in
theorem gX7_number_X7_within : GoodIn wsX7_number (va_wsS RX7 104 yX7_within wsX7_within) := goodIn_app (goodIn_of _ (by decide +kernel)) ggX7_number_X7_within
theorem dX7_number_0 : decode cX7_number 0 = .ok (.aload_n 0, 1) := by decide +kernel
theorem dX7_number_1 : decode cX7_number 1 = .ok (.iconst 0, 1) := by decide +kernel
theorem dX7_number_2 : decode cX7_number 2 = .ok (.putfield 1, 3) := by decide +kernel
theorem dX7_number_5 : decode cX7_number 5 = .ok (.iload_n 1, 1) := by decide +kernel
theorem dX7_number_6 : decode cX7_number 6 = .ok (.iconst 1, 1) := by decide +kernel
theorem dX7_number_7 : decode cX7_number 7 = .ok (.bipush 9, 2) := by decide +kernel
theorem dX7_number_9 : decode cX7_number 9 = .ok (.invokestatic 104, 3) := by decide +kernel
theorem dX7_number_12 : decode cX7_number 12 = .ok (.ifCond .eq 10, 3) := by decide +kernel
theorem dX7_number_15 : decode cX7_number 15 = .ok (.aload_n 0, 1) := by decide +kernel
theorem dX7_number_16 : decode cX7_number 16 = .ok (.getfield 117, 3) := by decide +kernel
theorem dX7_number_19 : decode cX7_number 19 = .ok (.ifCond .le 5, 3) := by decide +kernel
theorem dX7_number_22 : decode cX7_number 22 = .ok (.iconst 0, 1) := by decide +kernel
theorem dX7_number_23 : decode cX7_number 23 = .ok (.ireturn, 1) := by decide +kernel
theorem dX7_number_24 : decode cX7_number 24 = .ok (.aload_n 0, 1) := by decide +kernel
theorem dX7_number_25 : decode cX7_number 25 = .ok (.iload_n 1, 1) := by decide +kernel
theorem dX7_number_26 : decode cX7_number 26 = .ok (.putfield 35, 3) := by decide +kernel
theorem dX7_number_29 : decode cX7_number 29 = .ok (.aload_n 0, 1) := by decide +kernel
theorem dX7_number_30 : decode cX7_number 30 = .ok (.iconst 1, 1) := by decide +kernel
theorem dX7_number_31 : decode cX7_number 31 = .ok (.putfield 108, 3) := by decide +kernel
theorem dX7_number_34 : decode cX7_number 34 = .ok (.iconst 1, 1) := by decide +kernel
theorem dX7_number_35 : decode cX7_number 35 = .ok (.ireturn, 1) := by decide +kernel
set_option maxRecDepth 20000 in
theorem ggX7_wave_X7_within : GoodIn wsX7_wave wsX7_within := goodIn_r _ [9] (by decide +kernel) (by decide +kernel)
set_option maxRecDepth 20000 in
theorem gX7_wave_X7_within : GoodIn wsX7_wave (va_wsS RX7 104 yX7_within wsX7_within) := goodIn_app (goodIn_of _ (by decide +kernel)) ggX7_wave_X7_within
theorem dX7_wave_0 : decode cX7_wave 0 = .ok (.aload_n 0, 1) := by decide +kernel
theorem dX7_wave_1 : decode cX7_wave 1 = .ok (.iconst 0, 1) := by decide +kernel
theorem dX7_wave_2 : decode cX7_wave 2 = .ok (.putfield 1, 3) := by decide +kernel
theorem dX7_wave_5 : decode cX7_wave 5 = .ok (.iload_n 1, 1) := by decide +kernel
theorem dX7_wave_6 : decode cX7_wave 6 = .ok (.iconst 0, 1) := by decide +kernel
theorem dX7_wave_7 : decode cX7_wave 7 = .ok (.bipush 9, 2) := by decide +kernel
theorem dX7_wave_9 : decode cX7_wave 9 = .ok (.invokestatic 104, 3) := by decide +kernel
theorem dX7_wave_12 : decode cX7_wave 12 = .ok (.ifCond .eq 21, 3) := by decide +kernel
theorem dX7_wave_15 : decode cX7_wave 15 = .ok (.iload_n 2, 1) := by decide +kernel
theorem dX7_wave_16 : decode cX7_wave 16 = .ok (.iconst 0, 1) := by decide +kernel
theorem dX7_wave_17 : decode cX7_wave 17 = .ok (.iconst 2, 1) := by decide +kernel
theorem dX7_wave_18 : decode cX7_wave 18 = .ok (.invokestatic 104, 3) := by decide +kernel
theorem dX7_wave_21 : decode cX7_wave 21 = .ok (.ifCond .eq 12, 3) := by decide +kernel
theorem dX7_wave_24 : decode cX7_wave 24 = .ok (.aload_n 0, 1) := by decide +kernel
theorem dX7_wave_25 : decode cX7_wave 25 = .ok (.getfield 123, 3) := by decide +kernel
theorem dX7_wave_28 : decode cX7_wave 28 = .ok (.bipush 120, 2) := by decide +kernel
theorem dX7_wave_30 : decode cX7_wave 30 = .ok (.if_icmp .ne 5, 3) := by decide +kernel
theorem dX7_wave_33 : decode cX7_wave 33 = .ok (.iconst (-1), 1) := by decide +kernel
theorem dX7_wave_34 : decode cX7_wave 34 = .ok (.ireturn, 1) := by decide +kernel
theorem dX7_wave_35 : decode cX7_wave 35 = .ok (.aload_n 0, 1) := by decide +kernel
theorem dX7_wave_36 : decode cX7_wave 36 = .ok (.getfield 38, 3) := by decide +kernel
theorem dX7_wave_39 : decode cX7_wave 39 = .ok (.aload_n 0, 1) := by decide +kernel
theorem dX7_wave_40 : decode cX7_wave 40 = .ok (.getfield 123, 3) := by decide +kernel
theorem dX7_wave_43 : decode cX7_wave 43 = .ok (.iload_n 1, 1) := by decide +kernel
theorem dX7_wave_44 : decode cX7_wave 44 = .ok (.iastore, 1) := by decide +kernel
theorem dX7_wave_45 : decode cX7_wave 45 = .ok (.aload_n 0, 1) := by decide +kernel
theorem dX7_wave_46 : decode cX7_wave 46 = .ok (.getfield 41, 3) := by decide +kernel
theorem dX7_wave_49 : decode cX7_wave 49 = .ok (.aload_n 0, 1) := by decide +kernel
theorem dX7_wave_50 : decode cX7_wave 50 = .ok (.getfield 123, 3) := by decide +kernel
theorem dX7_wave_53 : decode cX7_wave 53 = .ok (.iload_n 2, 1) := by decide +kernel
theorem dX7_wave_54 : decode cX7_wave 54 = .ok (.iastore, 1) := by decide +kernel
theorem dX7_wave_55 : decode cX7_wave 55 = .ok (.aload_n 0, 1) := by decide +kernel
theorem dX7_wave_56 : decode cX7_wave 56 = .ok (.dup, 1) := by decide +kernel
theorem dX7_wave_57 : decode cX7_wave 57 = .ok (.getfield 123, 3) := by decide +kernel
theorem dX7_wave_60 : decode cX7_wave 60 = .ok (.iconst 1, 1) := by decide +kernel
theorem dX7_wave_61 : decode cX7_wave 61 = .ok (.iadd, 1) := by decide +kernel
theorem dX7_wave_62 : decode cX7_wave 62 = .ok (.putfield 123, 3) := by decide +kernel
theorem dX7_wave_65 : decode cX7_wave 65 = .ok (.aload_n 0, 1) := by decide +kernel
theorem dX7_wave_66 : decode cX7_wave 66 = .ok (.iconst 1, 1) := by decide +kernel
theorem dX7_wave_67 : decode cX7_wave 67 = .ok (.putfield 108, 3) := by decide +kernel
theorem dX7_wave_70 : decode cX7_wave 70 = .ok (.aload_n 0, 1) := by decide +kernel
theorem dX7_wave_71 : decode cX7_wave 71 = .ok (.getfield 123, 3) := by decide +kernel
theorem dX7_wave_74 : decode cX7_wave 74 = .ok (.ireturn, 1) := by decide +kernel
theorem dX7_begins_0 : decode cX7_begins 0 = .ok (.iconst 0, 1) := by decide +kernel
theorem dX7_begins_1 : decode cX7_begins 1 = .ok (.istore_n 2, 1) := by decide +kernel
theorem dX7_begins_2 : decode cX7_begins 2 = .ok (.iload_n 2, 1) := by decide +kernel
theorem dX7_begins_3 : decode cX7_begins 3 = .ok (.bipush 12, 2) := by decide +kernel
theorem dX7_begins_5 : decode cX7_begins 5 = .ok (.if_icmp .ge 35, 3) := by decide +kernel
theorem dX7_begins_8 : decode cX7_begins 8 = .ok (.aload_n 0, 1) := by decide +kernel
theorem dX7_begins_9 : decode cX7_begins 9 = .ok (.getfield 56, 3) := by decide +kernel
theorem dX7_begins_12 : decode cX7_begins 12 = .ok (.iload_n 2, 1) := by decide +kernel
theorem dX7_begins_13 : decode cX7_begins 13 = .ok (.aload_n 0, 1) := by decide +kernel
theorem dX7_begins_14 : decode cX7_begins 14 = .ok (.getfield 16, 3) := by decide +kernel
theorem dX7_begins_17 : decode cX7_begins 17 = .ok (.iload_n 2, 1) := by decide +kernel
theorem dX7_begins_18 : decode cX7_begins 18 = .ok (.iaload, 1) := by decide +kernel
theorem dX7_begins_19 : decode cX7_begins 19 = .ok (.iastore, 1) := by decide +kernel
theorem dX7_begins_20 : decode cX7_begins 20 = .ok (.aload_n 0, 1) := by decide +kernel
theorem dX7_begins_21 : decode cX7_begins 21 = .ok (.getfield 59, 3) := by decide +kernel
theorem dX7_begins_24 : decode cX7_begins 24 = .ok (.iload_n 2, 1) := by decide +kernel
theorem dX7_begins_25 : decode cX7_begins 25 = .ok (.iconst 0, 1) := by decide +kernel
theorem dX7_begins_26 : decode cX7_begins 26 = .ok (.iastore, 1) := by decide +kernel
theorem dX7_begins_27 : decode cX7_begins 27 = .ok (.aload_n 0, 1) := by decide +kernel
theorem dX7_begins_28 : decode cX7_begins 28 = .ok (.getfield 62, 3) := by decide +kernel
theorem dX7_begins_31 : decode cX7_begins 31 = .ok (.iload_n 2, 1) := by decide +kernel
theorem dX7_begins_32 : decode cX7_begins 32 = .ok (.iconst 0, 1) := by decide +kernel
theorem dX7_begins_33 : decode cX7_begins 33 = .ok (.iastore, 1) := by decide +kernel
theorem dX7_begins_34 : decode cX7_begins 34 = .ok (.iinc 2 1, 3) := by decide +kernel
theorem dX7_begins_37 : decode cX7_begins 37 = .ok (.goto (-35), 3) := by decide +kernel
theorem dX7_begins_40 : decode cX7_begins 40 = .ok (.iconst 0, 1) := by decide +kernel
theorem dX7_begins_41 : decode cX7_begins 41 = .ok (.istore_n 2, 1) := by decide +kernel
theorem dX7_begins_42 : decode cX7_begins 42 = .ok (.iload_n 2, 1) := by decide +kernel
theorem dX7_begins_43 : decode cX7_begins 43 = .ok (.bipush 13, 2) := by decide +kernel
theorem dX7_begins_45 : decode cX7_begins 45 = .ok (.if_icmp .ge 57, 3) := by decide +kernel
theorem dX7_begins_48 : decode cX7_begins 48 = .ok (.aload_n 0, 1) := by decide +kernel
theorem dX7_begins_49 : decode cX7_begins 49 = .ok (.getfield 65, 3) := by decide +kernel
theorem dX7_begins_52 : decode cX7_begins 52 = .ok (.iload_n 2, 1) := by decide +kernel
theorem dX7_begins_53 : decode cX7_begins 53 = .ok (.iconst 0, 1) := by decide +kernel
theorem dX7_begins_54 : decode cX7_begins 54 = .ok (.iastore, 1) := by decide +kernel
theorem dX7_begins_55 : decode cX7_begins 55 = .ok (.aload_n 0, 1) := by decide +kernel
theorem dX7_begins_56 : decode cX7_begins 56 = .ok (.getfield 68, 3) := by decide +kernel
theorem dX7_begins_59 : decode cX7_begins 59 = .ok (.iload_n 2, 1) := by decide +kernel
theorem dX7_begins_60 : decode cX7_begins 60 = .ok (.iconst 0, 1) := by decide +kernel
theorem dX7_begins_61 : decode cX7_begins 61 = .ok (.iastore, 1) := by decide +kernel
theorem dX7_begins_62 : decode cX7_begins 62 = .ok (.aload_n 0, 1) := by decide +kernel
theorem dX7_begins_63 : decode cX7_begins 63 = .ok (.getfield 71, 3) := by decide +kernel
theorem dX7_begins_66 : decode cX7_begins 66 = .ok (.iload_n 2, 1) := by decide +kernel
theorem dX7_begins_67 : decode cX7_begins 67 = .ok (.aload_n 0, 1) := by decide +kernel
theorem dX7_begins_68 : decode cX7_begins 68 = .ok (.getfield 20, 3) := by decide +kernel
theorem dX7_begins_71 : decode cX7_begins 71 = .ok (.iload_n 2, 1) := by decide +kernel
theorem dX7_begins_72 : decode cX7_begins 72 = .ok (.iaload, 1) := by decide +kernel
theorem dX7_begins_73 : decode cX7_begins 73 = .ok (.iconst 1, 1) := by decide +kernel
theorem dX7_begins_74 : decode cX7_begins 74 = .ok (.if_icmp .ne 20, 3) := by decide +kernel
theorem dX7_begins_77 : decode cX7_begins 77 = .ok (.iload_n 1, 1) := by decide +kernel
theorem dX7_begins_78 : decode cX7_begins 78 = .ok (.iload_n 2, 1) := by decide +kernel
theorem dX7_begins_79 : decode cX7_begins 79 = .ok (.ishr, 1) := by decide +kernel
theorem dX7_begins_80 : decode cX7_begins 80 = .ok (.iconst 1, 1) := by decide +kernel
theorem dX7_begins_81 : decode cX7_begins 81 = .ok (.iand, 1) := by decide +kernel
theorem dX7_begins_82 : decode cX7_begins 82 = .ok (.ifCond .ne 12, 3) := by decide +kernel
theorem dX7_begins_85 : decode cX7_begins 85 = .ok (.aload_n 0, 1) := by decide +kernel
theorem dX7_begins_86 : decode cX7_begins 86 = .ok (.getfield 23, 3) := by decide +kernel
theorem dX7_begins_89 : decode cX7_begins 89 = .ok (.iload_n 2, 1) := by decide +kernel
theorem dX7_begins_90 : decode cX7_begins 90 = .ok (.iaload, 1) := by decide +kernel
theorem dX7_begins_91 : decode cX7_begins 91 = .ok (.goto 4, 3) := by decide +kernel
theorem dX7_begins_94 : decode cX7_begins 94 = .ok (.iconst 0, 1) := by decide +kernel
theorem dX7_begins_95 : decode cX7_begins 95 = .ok (.iastore, 1) := by decide +kernel
theorem dX7_begins_96 : decode cX7_begins 96 = .ok (.iinc 2 1, 3) := by decide +kernel
theorem dX7_begins_99 : decode cX7_begins 99 = .ok (.goto (-57), 3) := by decide +kernel
theorem dX7_begins_102 : decode cX7_begins 102 = .ok (.return_, 1) := by decide +kernel
theorem dX7_brings_0 : decode cX7_brings 0 = .ok (.aload_n 0, 1) := by decide +kernel
theorem dX7_brings_1 : decode cX7_brings 1 = .ok (.getfield 56, 3) := by decide +kernel
theorem dX7_brings_4 : decode cX7_brings 4 = .ok (.iload_n 1, 1) := by decide +kernel
theorem dX7_brings_5 : decode cX7_brings 5 = .ok (.aload_n 0, 1) := by decide +kernel
theorem dX7_brings_6 : decode cX7_brings 6 = .ok (.getfield 56, 3) := by decide +kernel
theorem dX7_brings_9 : decode cX7_brings 9 = .ok (.iload_n 1, 1) := by decide +kernel
theorem dX7_brings_10 : decode cX7_brings 10 = .ok (.iaload, 1) := by decide +kernel
theorem dX7_brings_11 : decode cX7_brings 11 = .ok (.iload_n 2, 1) := by decide +kernel
theorem dX7_brings_12 : decode cX7_brings 12 = .ok (.iadd, 1) := by decide +kernel
theorem dX7_brings_13 : decode cX7_brings 13 = .ok (.ldc 116, 2) := by decide +kernel
theorem dX7_brings_15 : decode cX7_brings 15 = .ok (.if_icmp .le 8, 3) := by decide +kernel
theorem dX7_brings_18 : decode cX7_brings 18 = .ok (.ldc 116, 2) := by decide +kernel
theorem dX7_brings_20 : decode cX7_brings 20 = .ok (.goto 11, 3) := by decide +kernel
theorem dX7_brings_23 : decode cX7_brings 23 = .ok (.aload_n 0, 1) := by decide +kernel
theorem dX7_brings_24 : decode cX7_brings 24 = .ok (.getfield 56, 3) := by decide +kernel
theorem dX7_brings_27 : decode cX7_brings 27 = .ok (.iload_n 1, 1) := by decide +kernel
theorem dX7_brings_28 : decode cX7_brings 28 = .ok (.iaload, 1) := by decide +kernel
theorem dX7_brings_29 : decode cX7_brings 29 = .ok (.iload_n 2, 1) := by decide +kernel
theorem dX7_brings_30 : decode cX7_brings 30 = .ok (.iadd, 1) := by decide +kernel
theorem dX7_brings_31 : decode cX7_brings 31 = .ok (.iastore, 1) := by decide +kernel
theorem dX7_brings_32 : decode cX7_brings 32 = .ok (.return_, 1) := by decide +kernel
theorem dX7_above_0 : decode cX7_above 0 = .ok (.aload_n 0, 1) := by decide +kernel
theorem dX7_above_1 : decode cX7_above 1 = .ok (.getfield 56, 3) := by decide +kernel
theorem dX7_above_4 : decode cX7_above 4 = .ok (.iload_n 1, 1) := by decide +kernel
theorem dX7_above_5 : decode cX7_above 5 = .ok (.iaload, 1) := by decide +kernel
theorem dX7_above_6 : decode cX7_above 6 = .ok (.bipush 10, 2) := by decide +kernel
theorem dX7_above_8 : decode cX7_above 8 = .ok (.aload_n 0, 1) := by decide +kernel
theorem dX7_above_9 : decode cX7_above 9 = .ok (.getfield 29, 3) := by decide +kernel
theorem dX7_above_12 : decode cX7_above 12 = .ok (.iload_n 1, 1) := by decide +kernel
theorem dX7_above_13 : decode cX7_above 13 = .ok (.iaload, 1) := by decide +kernel
theorem dX7_above_14 : decode cX7_above 14 = .ok (.imul, 1) := by decide +kernel
theorem dX7_above_15 : decode cX7_above 15 = .ok (.isub, 1) := by decide +kernel
theorem dX7_above_16 : decode cX7_above 16 = .ok (.istore_n 2, 1) := by decide +kernel
theorem dX7_above_17 : decode cX7_above 17 = .ok (.iload_n 2, 1) := by decide +kernel
theorem dX7_above_18 : decode cX7_above 18 = .ok (.ifCond .ge 7, 3) := by decide +kernel
theorem dX7_above_21 : decode cX7_above 21 = .ok (.iconst 0, 1) := by decide +kernel
theorem dX7_above_22 : decode cX7_above 22 = .ok (.goto 4, 3) := by decide +kernel
theorem dX7_above_25 : decode cX7_above 25 = .ok (.iload_n 2, 1) := by decide +kernel
theorem dX7_above_26 : decode cX7_above 26 = .ok (.ireturn, 1) := by decide +kernel
set_option maxRecDepth 20000 in
theorem ggX7_goesOut_X7_above : GoodIn wsX7_goesOut wsX7_above := goodIn_r _ [7, 1, 8, 9, 10, 11, 12, 13, 14, 15, 16, 17, 18, 19, 20, 21, 22, 23, 24, 25, 26, 27, 28, 29, 30, 31, 32, 33, 34, 35, 36, 37, 38, 39, 40, 41, 42, 43, 44, 45] (by decide +kernel) (by decide +kernel)
set_option maxRecDepth 20000 in
theorem gX7_goesOut_X7_above : GoodIn wsX7_goesOut (wsV RX7 126 RX7 yX7_above wsX7_above) := goodIn_app (goodIn_of _ (by decide +kernel)) ggX7_goesOut_X7_above
theorem dX7_goesOut_0 : decode cX7_goesOut 0 = .ok (.iload_n 2, 1) := by decide +kernel
theorem dX7_goesOut_1 : decode cX7_goesOut 1 = .ok (.aload_n 0, 1) := by decide +kernel
theorem dX7_goesOut_2 : decode cX7_goesOut 2 = .ok (.getfield 56, 3) := by decide +kernel
theorem dX7_goesOut_5 : decode cX7_goesOut 5 = .ok (.iload_n 1, 1) := by decide +kernel
theorem dX7_goesOut_6 : decode cX7_goesOut 6 = .ok (.iaload, 1) := by decide +kernel
theorem dX7_goesOut_7 : decode cX7_goesOut 7 = .ok (.if_icmp .le 12, 3) := by decide +kernel
theorem dX7_goesOut_10 : decode cX7_goesOut 10 = .ok (.aload_n 0, 1) := by decide +kernel
theorem dX7_goesOut_11 : decode cX7_goesOut 11 = .ok (.getfield 56, 3) := by decide +kernel
theorem dX7_goesOut_14 : decode cX7_goesOut 14 = .ok (.iload_n 1, 1) := by decide +kernel
theorem dX7_goesOut_15 : decode cX7_goesOut 15 = .ok (.iaload, 1) := by decide +kernel
theorem dX7_goesOut_16 : decode cX7_goesOut 16 = .ok (.goto 4, 3) := by decide +kernel
theorem dX7_goesOut_19 : decode cX7_goesOut 19 = .ok (.iload_n 2, 1) := by decide +kernel
theorem dX7_goesOut_20 : decode cX7_goesOut 20 = .ok (.istore_n 3, 1) := by decide +kernel
theorem dX7_goesOut_21 : decode cX7_goesOut 21 = .ok (.aload_n 0, 1) := by decide +kernel
theorem dX7_goesOut_22 : decode cX7_goesOut 22 = .ok (.iload_n 1, 1) := by decide +kernel
theorem dX7_goesOut_23 : decode cX7_goesOut 23 = .ok (.invokevirtual 126, 3) := by decide +kernel
theorem dX7_goesOut_26 : decode cX7_goesOut 26 = .ok (.istore 4, 2) := by decide +kernel
theorem dX7_goesOut_28 : decode cX7_goesOut 28 = .ok (.iload_n 3, 1) := by decide +kernel
theorem dX7_goesOut_29 : decode cX7_goesOut 29 = .ok (.iload 4, 2) := by decide +kernel
theorem dX7_goesOut_31 : decode cX7_goesOut 31 = .ok (.if_icmp .le 19, 3) := by decide +kernel
theorem dX7_goesOut_34 : decode cX7_goesOut 34 = .ok (.aload_n 0, 1) := by decide +kernel
theorem dX7_goesOut_35 : decode cX7_goesOut 35 = .ok (.getfield 62, 3) := by decide +kernel
theorem dX7_goesOut_38 : decode cX7_goesOut 38 = .ok (.iload_n 1, 1) := by decide +kernel
theorem dX7_goesOut_39 : decode cX7_goesOut 39 = .ok (.dup2, 1) := by decide +kernel
theorem dX7_goesOut_40 : decode cX7_goesOut 40 = .ok (.iaload, 1) := by decide +kernel
theorem dX7_goesOut_41 : decode cX7_goesOut 41 = .ok (.iload_n 3, 1) := by decide +kernel
theorem dX7_goesOut_42 : decode cX7_goesOut 42 = .ok (.iload 4, 2) := by decide +kernel
theorem dX7_goesOut_44 : decode cX7_goesOut 44 = .ok (.isub, 1) := by decide +kernel
theorem dX7_goesOut_45 : decode cX7_goesOut 45 = .ok (.iadd, 1) := by decide +kernel
theorem dX7_goesOut_46 : decode cX7_goesOut 46 = .ok (.iastore, 1) := by decide +kernel
theorem dX7_goesOut_47 : decode cX7_goesOut 47 = .ok (.iload 4, 2) := by decide +kernel
theorem dX7_goesOut_49 : decode cX7_goesOut 49 = .ok (.ireturn, 1) := by decide +kernel
theorem dX7_goesOut_50 : decode cX7_goesOut 50 = .ok (.iload_n 3, 1) := by decide +kernel
theorem dX7_goesOut_51 : decode cX7_goesOut 51 = .ok (.ireturn, 1) := by decide +kernel
set_option maxRecDepth 20000 in
theorem ggX7_passes_X7_goesOut : GoodIn wsX7_passes wsX7_goesOut := goodIn_r _ [8, 1, 9, 10, 11, 12, 7, 13, 14, 15, 16, 17, 18, 19, 20, 21, 22, 23, 24, 25, 26, 27, 28, 29, 30, 31, 32, 33, 34, 35, 36, 37, 38, 39, 40, 41, 42, 43, 44, 45, 46, 47, 48, 49, 50, 51] (by decide +kernel) (by decide +kernel)
set_option maxRecDepth 20000 in
theorem gX7_passes_X7_goesOut : GoodIn wsX7_passes (wsV RX7 130 RX7 yX7_goesOut wsX7_goesOut) := goodIn_app (goodIn_of _ (by decide +kernel)) ggX7_passes_X7_goesOut
theorem dX7_passes_0 : decode cX7_passes 0 = .ok (.aload_n 0, 1) := by decide +kernel
theorem dX7_passes_1 : decode cX7_passes 1 = .ok (.getfield 56, 3) := by decide +kernel
theorem dX7_passes_4 : decode cX7_passes 4 = .ok (.iload_n 2, 1) := by decide +kernel
theorem dX7_passes_5 : decode cX7_passes 5 = .ok (.iaload, 1) := by decide +kernel
theorem dX7_passes_6 : decode cX7_passes 6 = .ok (.bipush 10, 2) := by decide +kernel
theorem dX7_passes_8 : decode cX7_passes 8 = .ok (.idiv, 1) := by decide +kernel
theorem dX7_passes_9 : decode cX7_passes 9 = .ok (.aload_n 0, 1) := by decide +kernel
theorem dX7_passes_10 : decode cX7_passes 10 = .ok (.getfield 56, 3) := by decide +kernel
theorem dX7_passes_13 : decode cX7_passes 13 = .ok (.iload_n 3, 1) := by decide +kernel
theorem dX7_passes_14 : decode cX7_passes 14 = .ok (.iaload, 1) := by decide +kernel
theorem dX7_passes_15 : decode cX7_passes 15 = .ok (.bipush 10, 2) := by decide +kernel
theorem dX7_passes_17 : decode cX7_passes 17 = .ok (.idiv, 1) := by decide +kernel
theorem dX7_passes_18 : decode cX7_passes 18 = .ok (.isub, 1) := by decide +kernel
theorem dX7_passes_19 : decode cX7_passes 19 = .ok (.istore 6, 2) := by decide +kernel
theorem dX7_passes_21 : decode cX7_passes 21 = .ok (.iload 6, 2) := by decide +kernel
theorem dX7_passes_23 : decode cX7_passes 23 = .ok (.bipush (-9), 2) := by decide +kernel
theorem dX7_passes_25 : decode cX7_passes 25 = .ok (.if_icmp .ge 8, 3) := by decide +kernel
theorem dX7_passes_28 : decode cX7_passes 28 = .ok (.bipush (-9), 2) := by decide +kernel
theorem dX7_passes_30 : decode cX7_passes 30 = .ok (.goto 17, 3) := by decide +kernel
theorem dX7_passes_33 : decode cX7_passes 33 = .ok (.iload 6, 2) := by decide +kernel
theorem dX7_passes_35 : decode cX7_passes 35 = .ok (.bipush 9, 2) := by decide +kernel
theorem dX7_passes_37 : decode cX7_passes 37 = .ok (.if_icmp .le 8, 3) := by decide +kernel
theorem dX7_passes_40 : decode cX7_passes 40 = .ok (.bipush 9, 2) := by decide +kernel
theorem dX7_passes_42 : decode cX7_passes 42 = .ok (.goto 5, 3) := by decide +kernel
theorem dX7_passes_45 : decode cX7_passes 45 = .ok (.iload 6, 2) := by decide +kernel
theorem dX7_passes_47 : decode cX7_passes 47 = .ok (.istore 6, 2) := by decide +kernel
theorem dX7_passes_49 : decode cX7_passes 49 = .ok (.iload 4, 2) := by decide +kernel
theorem dX7_passes_51 : decode cX7_passes 51 = .ok (.iload 5, 2) := by decide +kernel
theorem dX7_passes_53 : decode cX7_passes 53 = .ok (.imul, 1) := by decide +kernel
theorem dX7_passes_54 : decode cX7_passes 54 = .ok (.iload 4, 2) := by decide +kernel
theorem dX7_passes_56 : decode cX7_passes 56 = .ok (.iload 6, 2) := by decide +kernel
theorem dX7_passes_58 : decode cX7_passes 58 = .ok (.imul, 1) := by decide +kernel
theorem dX7_passes_59 : decode cX7_passes 59 = .ok (.iconst 3, 1) := by decide +kernel
theorem dX7_passes_60 : decode cX7_passes 60 = .ok (.idiv, 1) := by decide +kernel
theorem dX7_passes_61 : decode cX7_passes 61 = .ok (.iadd, 1) := by decide +kernel
theorem dX7_passes_62 : decode cX7_passes 62 = .ok (.istore 7, 2) := by decide +kernel
theorem dX7_passes_64 : decode cX7_passes 64 = .ok (.iload 7, 2) := by decide +kernel
theorem dX7_passes_66 : decode cX7_passes 66 = .ok (.ifCond .ge 7, 3) := by decide +kernel
theorem dX7_passes_69 : decode cX7_passes 69 = .ok (.iconst 0, 1) := by decide +kernel
theorem dX7_passes_70 : decode cX7_passes 70 = .ok (.goto 5, 3) := by decide +kernel
theorem dX7_passes_73 : decode cX7_passes 73 = .ok (.iload 7, 2) := by decide +kernel
theorem dX7_passes_75 : decode cX7_passes 75 = .ok (.istore 7, 2) := by decide +kernel
theorem dX7_passes_77 : decode cX7_passes 77 = .ok (.aload_n 0, 1) := by decide +kernel
theorem dX7_passes_78 : decode cX7_passes 78 = .ok (.getfield 56, 3) := by decide +kernel
theorem dX7_passes_81 : decode cX7_passes 81 = .ok (.iload_n 2, 1) := by decide +kernel
theorem dX7_passes_82 : decode cX7_passes 82 = .ok (.iaload, 1) := by decide +kernel
theorem dX7_passes_83 : decode cX7_passes 83 = .ok (.bipush 10, 2) := by decide +kernel
theorem dX7_passes_85 : decode cX7_passes 85 = .ok (.idiv, 1) := by decide +kernel
theorem dX7_passes_86 : decode cX7_passes 86 = .ok (.aload_n 0, 1) := by decide +kernel
theorem dX7_passes_87 : decode cX7_passes 87 = .ok (.getfield 71, 3) := by decide +kernel
theorem dX7_passes_90 : decode cX7_passes 90 = .ok (.iload_n 1, 1) := by decide +kernel
theorem dX7_passes_91 : decode cX7_passes 91 = .ok (.iaload, 1) := by decide +kernel
theorem dX7_passes_92 : decode cX7_passes 92 = .ok (.if_icmp .ge 17, 3) := by decide +kernel
theorem dX7_passes_95 : decode cX7_passes 95 = .ok (.iload 7, 2) := by decide +kernel
theorem dX7_passes_97 : decode cX7_passes 97 = .ok (.aload_n 0, 1) := by decide +kernel
theorem dX7_passes_98 : decode cX7_passes 98 = .ok (.getfield 26, 3) := by decide +kernel
theorem dX7_passes_101 : decode cX7_passes 101 = .ok (.iload_n 1, 1) := by decide +kernel
theorem dX7_passes_102 : decode cX7_passes 102 = .ok (.iaload, 1) := by decide +kernel
theorem dX7_passes_103 : decode cX7_passes 103 = .ok (.imul, 1) := by decide +kernel
theorem dX7_passes_104 : decode cX7_passes 104 = .ok (.bipush 100, 2) := by decide +kernel
theorem dX7_passes_106 : decode cX7_passes 106 = .ok (.idiv, 1) := by decide +kernel
theorem dX7_passes_107 : decode cX7_passes 107 = .ok (.istore 7, 2) := by decide +kernel
theorem dX7_passes_109 : decode cX7_passes 109 = .ok (.aload_n 0, 1) := by decide +kernel
theorem dX7_passes_110 : decode cX7_passes 110 = .ok (.iload_n 2, 1) := by decide +kernel
theorem dX7_passes_111 : decode cX7_passes 111 = .ok (.iload 7, 2) := by decide +kernel
theorem dX7_passes_113 : decode cX7_passes 113 = .ok (.invokevirtual 130, 3) := by decide +kernel
theorem dX7_passes_116 : decode cX7_passes 116 = .ok (.ireturn, 1) := by decide +kernel
set_option maxRecDepth 20000 in
theorem ggX7_passing_X7_passes : GoodIn wsX7_passing wsX7_passes := goodIn_r _ [12, 13, 14, 4, 15, 16, 17, 11, 18, 19, 20, 21, 22, 23, 24, 30, 31, 32, 33, 34, 35, 36, 37, 38, 39, 40, 41, 42, 43, 44, 45, 46, 47, 48, 49, 50, 51, 52, 53, 54, 55, 56, 57, 58, 59, 60, 61, 62, 63, 64, 65, 66] (by decide +kernel) (by decide +kernel)
set_option maxRecDepth 20000 in
theorem gX7_passing_X7_passes : GoodIn wsX7_passing (wsV RX7 134 RX7 yX7_passes wsX7_passes) := goodIn_app (goodIn_of _ (by decide +kernel)) ggX7_passing_X7_passes
set_option maxRecDepth 20000 in
theorem ggX7_passing_X7_goesOut : GoodIn wsX7_passing wsX7_goesOut := goodIn_r _ [18, 13, 19, 20, 21, 22, 11, 23, 24, 30, 31, 32, 33, 34, 35, 36, 37, 38, 39, 40, 41, 42, 43, 44, 45, 46, 47, 48, 49, 50, 51, 52, 53, 54, 55, 56, 57, 58, 59, 60, 61, 62, 63, 64, 65, 66] (by decide +kernel) (by decide +kernel)
set_option maxRecDepth 20000 in
theorem gX7_passing_X7_goesOut : GoodIn wsX7_passing (wsV RX7 130 RX7 yX7_goesOut wsX7_goesOut) := goodIn_app (goodIn_of _ (by decide +kernel)) ggX7_passing_X7_goesOut
set_option maxRecDepth 20000 in
theorem ggX7_passing_X7_brings : GoodIn wsX7_passing wsX7_brings := goodIn_r _ [28, 13, 29, 30, 31, 32, 33, 34, 35, 36, 37, 38, 39, 40, 41, 42, 43, 44, 45, 46, 47, 48, 49, 50, 51, 52, 53, 54, 55, 56, 57, 58, 59, 60, 61, 62, 63, 64, 65, 66] (by decide +kernel) (by decide +kernel)
set_option maxRecDepth 20000 in
theorem gX7_passing_X7_brings : GoodIn wsX7_passing (wsV RX7 138 RX7 yX7_brings wsX7_brings) := goodIn_app (goodIn_of _ (by decide +kernel)) ggX7_passing_X7_brings
theorem dX7_passing_0 : decode cX7_passing 0 = .ok (.iload_n 2, 1) := by decide +kernel
theorem dX7_passing_1 : decode cX7_passing 1 = .ok (.ifCond .ne 7, 3) := by decide +kernel
theorem dX7_passing_4 : decode cX7_passing 4 = .ok (.iconst 1, 1) := by decide +kernel
theorem dX7_passing_5 : decode cX7_passing 5 = .ok (.goto 4, 3) := by decide +kernel
theorem dX7_passing_8 : decode cX7_passing 8 = .ok (.iconst (-1), 1) := by decide +kernel
theorem dX7_passing_9 : decode cX7_passing 9 = .ok (.istore 4, 2) := by decide +kernel
theorem dX7_passing_11 : decode cX7_passing 11 = .ok (.iconst 0, 1) := by decide +kernel
theorem dX7_passing_12 : decode cX7_passing 12 = .ok (.istore 5, 2) := by decide +kernel
theorem dX7_passing_14 : decode cX7_passing 14 = .ok (.iload 5, 2) := by decide +kernel
theorem dX7_passing_16 : decode cX7_passing 16 = .ok (.aload_n 0, 1) := by decide +kernel
theorem dX7_passing_17 : decode cX7_passing 17 = .ok (.getfield 13, 3) := by decide +kernel
theorem dX7_passing_20 : decode cX7_passing 20 = .ok (.if_icmp .ge 17, 3) := by decide +kernel
theorem dX7_passing_23 : decode cX7_passing 23 = .ok (.aload_n 0, 1) := by decide +kernel
theorem dX7_passing_24 : decode cX7_passing 24 = .ok (.getfield 74, 3) := by decide +kernel
theorem dX7_passing_27 : decode cX7_passing 27 = .ok (.iload 5, 2) := by decide +kernel
theorem dX7_passing_29 : decode cX7_passing 29 = .ok (.iconst 0, 1) := by decide +kernel
theorem dX7_passing_30 : decode cX7_passing 30 = .ok (.iastore, 1) := by decide +kernel
theorem dX7_passing_31 : decode cX7_passing 31 = .ok (.iinc 5 1, 3) := by decide +kernel
theorem dX7_passing_34 : decode cX7_passing 34 = .ok (.goto (-20), 3) := by decide +kernel
theorem dX7_passing_37 : decode cX7_passing 37 = .ok (.iconst 1, 1) := by decide +kernel
theorem dX7_passing_38 : decode cX7_passing 38 = .ok (.istore 5, 2) := by decide +kernel
theorem dX7_passing_40 : decode cX7_passing 40 = .ok (.iload 5, 2) := by decide +kernel
theorem dX7_passing_42 : decode cX7_passing 42 = .ok (.aload_n 0, 1) := by decide +kernel
theorem dX7_passing_43 : decode cX7_passing 43 = .ok (.getfield 13, 3) := by decide +kernel
theorem dX7_passing_46 : decode cX7_passing 46 = .ok (.if_icmp .ge 126, 3) := by decide +kernel
theorem dX7_passing_49 : decode cX7_passing 49 = .ok (.iload_n 2, 1) := by decide +kernel
theorem dX7_passing_50 : decode cX7_passing 50 = .ok (.ifCond .ne 10, 3) := by decide +kernel
theorem dX7_passing_53 : decode cX7_passing 53 = .ok (.iload 5, 2) := by decide +kernel
theorem dX7_passing_55 : decode cX7_passing 55 = .ok (.iconst 1, 1) := by decide +kernel
theorem dX7_passing_56 : decode cX7_passing 56 = .ok (.isub, 1) := by decide +kernel
theorem dX7_passing_57 : decode cX7_passing 57 = .ok (.goto 5, 3) := by decide +kernel
theorem dX7_passing_60 : decode cX7_passing 60 = .ok (.iload 5, 2) := by decide +kernel
theorem dX7_passing_62 : decode cX7_passing 62 = .ok (.istore 6, 2) := by decide +kernel
theorem dX7_passing_64 : decode cX7_passing 64 = .ok (.iload 6, 2) := by decide +kernel
theorem dX7_passing_66 : decode cX7_passing 66 = .ok (.iload 4, 2) := by decide +kernel
theorem dX7_passing_68 : decode cX7_passing 68 = .ok (.iadd, 1) := by decide +kernel
theorem dX7_passing_69 : decode cX7_passing 69 = .ok (.istore 7, 2) := by decide +kernel
theorem dX7_passing_71 : decode cX7_passing 71 = .ok (.aload_n 0, 1) := by decide +kernel
theorem dX7_passing_72 : decode cX7_passing 72 = .ok (.iload 5, 2) := by decide +kernel
theorem dX7_passing_74 : decode cX7_passing 74 = .ok (.iload 6, 2) := by decide +kernel
theorem dX7_passing_76 : decode cX7_passing 76 = .ok (.iload 7, 2) := by decide +kernel
theorem dX7_passing_78 : decode cX7_passing 78 = .ok (.iload_n 1, 1) := by decide +kernel
theorem dX7_passing_79 : decode cX7_passing 79 = .ok (.iload_n 3, 1) := by decide +kernel
theorem dX7_passing_80 : decode cX7_passing 80 = .ok (.invokevirtual 134, 3) := by decide +kernel
theorem dX7_passing_83 : decode cX7_passing 83 = .ok (.istore 8, 2) := by decide +kernel
theorem dX7_passing_85 : decode cX7_passing 85 = .ok (.aload_n 0, 1) := by decide +kernel
theorem dX7_passing_86 : decode cX7_passing 86 = .ok (.getfield 20, 3) := by decide +kernel
theorem dX7_passing_89 : decode cX7_passing 89 = .ok (.iload 5, 2) := by decide +kernel
theorem dX7_passing_91 : decode cX7_passing 91 = .ok (.iaload, 1) := by decide +kernel
theorem dX7_passing_92 : decode cX7_passing 92 = .ok (.iconst 2, 1) := by decide +kernel
theorem dX7_passing_93 : decode cX7_passing 93 = .ok (.if_icmp .ne 19, 3) := by decide +kernel
theorem dX7_passing_96 : decode cX7_passing 96 = .ok (.iload 8, 2) := by decide +kernel
theorem dX7_passing_98 : decode cX7_passing 98 = .ok (.aload_n 0, 1) := by decide +kernel
theorem dX7_passing_99 : decode cX7_passing 99 = .ok (.getfield 26, 3) := by decide +kernel
theorem dX7_passing_102 : decode cX7_passing 102 = .ok (.iload 5, 2) := by decide +kernel
theorem dX7_passing_104 : decode cX7_passing 104 = .ok (.iaload, 1) := by decide +kernel
theorem dX7_passing_105 : decode cX7_passing 105 = .ok (.imul, 1) := by decide +kernel
theorem dX7_passing_106 : decode cX7_passing 106 = .ok (.bipush 100, 2) := by decide +kernel
theorem dX7_passing_108 : decode cX7_passing 108 = .ok (.idiv, 1) := by decide +kernel
theorem dX7_passing_109 : decode cX7_passing 109 = .ok (.goto 4, 3) := by decide +kernel
theorem dX7_passing_112 : decode cX7_passing 112 = .ok (.iconst 0, 1) := by decide +kernel
theorem dX7_passing_113 : decode cX7_passing 113 = .ok (.istore 9, 2) := by decide +kernel
theorem dX7_passing_115 : decode cX7_passing 115 = .ok (.aload_n 0, 1) := by decide +kernel
theorem dX7_passing_116 : decode cX7_passing 116 = .ok (.getfield 68, 3) := by decide +kernel
theorem dX7_passing_119 : decode cX7_passing 119 = .ok (.iload 5, 2) := by decide +kernel
theorem dX7_passing_121 : decode cX7_passing 121 = .ok (.iload 4, 2) := by decide +kernel
theorem dX7_passing_123 : decode cX7_passing 123 = .ok (.iload 8, 2) := by decide +kernel
theorem dX7_passing_125 : decode cX7_passing 125 = .ok (.imul, 1) := by decide +kernel
theorem dX7_passing_126 : decode cX7_passing 126 = .ok (.iastore, 1) := by decide +kernel
theorem dX7_passing_127 : decode cX7_passing 127 = .ok (.aload_n 0, 1) := by decide +kernel
theorem dX7_passing_128 : decode cX7_passing 128 = .ok (.getfield 74, 3) := by decide +kernel
theorem dX7_passing_131 : decode cX7_passing 131 = .ok (.iload 6, 2) := by decide +kernel
theorem dX7_passing_133 : decode cX7_passing 133 = .ok (.dup2, 1) := by decide +kernel
theorem dX7_passing_134 : decode cX7_passing 134 = .ok (.iaload, 1) := by decide +kernel
theorem dX7_passing_135 : decode cX7_passing 135 = .ok (.iload 8, 2) := by decide +kernel
theorem dX7_passing_137 : decode cX7_passing 137 = .ok (.isub, 1) := by decide +kernel
theorem dX7_passing_138 : decode cX7_passing 138 = .ok (.iastore, 1) := by decide +kernel
theorem dX7_passing_139 : decode cX7_passing 139 = .ok (.aload_n 0, 1) := by decide +kernel
theorem dX7_passing_140 : decode cX7_passing 140 = .ok (.getfield 74, 3) := by decide +kernel
theorem dX7_passing_143 : decode cX7_passing 143 = .ok (.iload 7, 2) := by decide +kernel
theorem dX7_passing_145 : decode cX7_passing 145 = .ok (.dup2, 1) := by decide +kernel
theorem dX7_passing_146 : decode cX7_passing 146 = .ok (.iaload, 1) := by decide +kernel
theorem dX7_passing_147 : decode cX7_passing 147 = .ok (.iload 8, 2) := by decide +kernel
theorem dX7_passing_149 : decode cX7_passing 149 = .ok (.iload 9, 2) := by decide +kernel
theorem dX7_passing_151 : decode cX7_passing 151 = .ok (.isub, 1) := by decide +kernel
theorem dX7_passing_152 : decode cX7_passing 152 = .ok (.iadd, 1) := by decide +kernel
theorem dX7_passing_153 : decode cX7_passing 153 = .ok (.iastore, 1) := by decide +kernel
theorem dX7_passing_154 : decode cX7_passing 154 = .ok (.aload_n 0, 1) := by decide +kernel
theorem dX7_passing_155 : decode cX7_passing 155 = .ok (.getfield 65, 3) := by decide +kernel
theorem dX7_passing_158 : decode cX7_passing 158 = .ok (.iload 5, 2) := by decide +kernel
theorem dX7_passing_160 : decode cX7_passing 160 = .ok (.dup2, 1) := by decide +kernel
theorem dX7_passing_161 : decode cX7_passing 161 = .ok (.iaload, 1) := by decide +kernel
theorem dX7_passing_162 : decode cX7_passing 162 = .ok (.iload 9, 2) := by decide +kernel
theorem dX7_passing_164 : decode cX7_passing 164 = .ok (.iadd, 1) := by decide +kernel
theorem dX7_passing_165 : decode cX7_passing 165 = .ok (.iastore, 1) := by decide +kernel
theorem dX7_passing_166 : decode cX7_passing 166 = .ok (.iinc 5 1, 3) := by decide +kernel
theorem dX7_passing_169 : decode cX7_passing 169 = .ok (.goto (-129), 3) := by decide +kernel
theorem dX7_passing_172 : decode cX7_passing 172 = .ok (.iload_n 2, 1) := by decide +kernel
theorem dX7_passing_173 : decode cX7_passing 173 = .ok (.ifCond .ne 7, 3) := by decide +kernel
theorem dX7_passing_176 : decode cX7_passing 176 = .ok (.iconst 0, 1) := by decide +kernel
theorem dX7_passing_177 : decode cX7_passing 177 = .ok (.goto 9, 3) := by decide +kernel
theorem dX7_passing_180 : decode cX7_passing 180 = .ok (.aload_n 0, 1) := by decide +kernel
theorem dX7_passing_181 : decode cX7_passing 181 = .ok (.getfield 13, 3) := by decide +kernel
theorem dX7_passing_184 : decode cX7_passing 184 = .ok (.iconst 1, 1) := by decide +kernel
theorem dX7_passing_185 : decode cX7_passing 185 = .ok (.isub, 1) := by decide +kernel
theorem dX7_passing_186 : decode cX7_passing 186 = .ok (.istore 5, 2) := by decide +kernel
theorem dX7_passing_188 : decode cX7_passing 188 = .ok (.aload_n 0, 1) := by decide +kernel
theorem dX7_passing_189 : decode cX7_passing 189 = .ok (.getfield 13, 3) := by decide +kernel
theorem dX7_passing_192 : decode cX7_passing 192 = .ok (.iconst 1, 1) := by decide +kernel
theorem dX7_passing_193 : decode cX7_passing 193 = .ok (.isub, 1) := by decide +kernel
theorem dX7_passing_194 : decode cX7_passing 194 = .ok (.iload 5, 2) := by decide +kernel
theorem dX7_passing_196 : decode cX7_passing 196 = .ok (.isub, 1) := by decide +kernel
theorem dX7_passing_197 : decode cX7_passing 197 = .ok (.istore 6, 2) := by decide +kernel
theorem dX7_passing_199 : decode cX7_passing 199 = .ok (.iload_n 3, 1) := by decide +kernel
theorem dX7_passing_200 : decode cX7_passing 200 = .ok (.iload_n 1, 1) := by decide +kernel
theorem dX7_passing_201 : decode cX7_passing 201 = .ok (.imul, 1) := by decide +kernel
theorem dX7_passing_202 : decode cX7_passing 202 = .ok (.aload_n 0, 1) := by decide +kernel
theorem dX7_passing_203 : decode cX7_passing 203 = .ok (.getfield 32, 3) := by decide +kernel
theorem dX7_passing_206 : decode cX7_passing 206 = .ok (.iload_n 2, 1) := by decide +kernel
theorem dX7_passing_207 : decode cX7_passing 207 = .ok (.iaload, 1) := by decide +kernel
theorem dX7_passing_208 : decode cX7_passing 208 = .ok (.imul, 1) := by decide +kernel
theorem dX7_passing_209 : decode cX7_passing 209 = .ok (.bipush 100, 2) := by decide +kernel
theorem dX7_passing_211 : decode cX7_passing 211 = .ok (.idiv, 1) := by decide +kernel
theorem dX7_passing_212 : decode cX7_passing 212 = .ok (.istore 7, 2) := by decide +kernel
theorem dX7_passing_214 : decode cX7_passing 214 = .ok (.aload_n 0, 1) := by decide +kernel
theorem dX7_passing_215 : decode cX7_passing 215 = .ok (.iload 6, 2) := by decide +kernel
theorem dX7_passing_217 : decode cX7_passing 217 = .ok (.iload_n 3, 1) := by decide +kernel
theorem dX7_passing_218 : decode cX7_passing 218 = .ok (.iload_n 1, 1) := by decide +kernel
theorem dX7_passing_219 : decode cX7_passing 219 = .ok (.imul, 1) := by decide +kernel
theorem dX7_passing_220 : decode cX7_passing 220 = .ok (.invokevirtual 130, 3) := by decide +kernel
theorem dX7_passing_223 : decode cX7_passing 223 = .ok (.istore 8, 2) := by decide +kernel
theorem dX7_passing_225 : decode cX7_passing 225 = .ok (.aload_n 0, 1) := by decide +kernel
theorem dX7_passing_226 : decode cX7_passing 226 = .ok (.getfield 74, 3) := by decide +kernel
theorem dX7_passing_229 : decode cX7_passing 229 = .ok (.iload 5, 2) := by decide +kernel
theorem dX7_passing_231 : decode cX7_passing 231 = .ok (.dup2, 1) := by decide +kernel
theorem dX7_passing_232 : decode cX7_passing 232 = .ok (.iaload, 1) := by decide +kernel
theorem dX7_passing_233 : decode cX7_passing 233 = .ok (.iload 7, 2) := by decide +kernel
theorem dX7_passing_235 : decode cX7_passing 235 = .ok (.iadd, 1) := by decide +kernel
theorem dX7_passing_236 : decode cX7_passing 236 = .ok (.iastore, 1) := by decide +kernel
theorem dX7_passing_237 : decode cX7_passing 237 = .ok (.aload_n 0, 1) := by decide +kernel
theorem dX7_passing_238 : decode cX7_passing 238 = .ok (.getfield 74, 3) := by decide +kernel
theorem dX7_passing_241 : decode cX7_passing 241 = .ok (.iload 6, 2) := by decide +kernel
theorem dX7_passing_243 : decode cX7_passing 243 = .ok (.dup2, 1) := by decide +kernel
theorem dX7_passing_244 : decode cX7_passing 244 = .ok (.iaload, 1) := by decide +kernel
theorem dX7_passing_245 : decode cX7_passing 245 = .ok (.iload 8, 2) := by decide +kernel
theorem dX7_passing_247 : decode cX7_passing 247 = .ok (.isub, 1) := by decide +kernel
theorem dX7_passing_248 : decode cX7_passing 248 = .ok (.iastore, 1) := by decide +kernel
theorem dX7_passing_249 : decode cX7_passing 249 = .ok (.aload_n 0, 1) := by decide +kernel
theorem dX7_passing_250 : decode cX7_passing 250 = .ok (.getfield 68, 3) := by decide +kernel
theorem dX7_passing_253 : decode cX7_passing 253 = .ok (.iload_n 2, 1) := by decide +kernel
theorem dX7_passing_254 : decode cX7_passing 254 = .ok (.ifCond .ne 7, 3) := by decide +kernel
theorem dX7_passing_257 : decode cX7_passing 257 = .ok (.iconst 0, 1) := by decide +kernel
theorem dX7_passing_258 : decode cX7_passing 258 = .ok (.goto 7, 3) := by decide +kernel
theorem dX7_passing_261 : decode cX7_passing 261 = .ok (.aload_n 0, 1) := by decide +kernel
theorem dX7_passing_262 : decode cX7_passing 262 = .ok (.getfield 13, 3) := by decide +kernel
theorem dX7_passing_265 : decode cX7_passing 265 = .ok (.iload 4, 2) := by decide +kernel
theorem dX7_passing_267 : decode cX7_passing 267 = .ok (.iload 7, 2) := by decide +kernel
theorem dX7_passing_269 : decode cX7_passing 269 = .ok (.imul, 1) := by decide +kernel
theorem dX7_passing_270 : decode cX7_passing 270 = .ok (.iastore, 1) := by decide +kernel
theorem dX7_passing_271 : decode cX7_passing 271 = .ok (.aload_n 0, 1) := by decide +kernel
theorem dX7_passing_272 : decode cX7_passing 272 = .ok (.getfield 68, 3) := by decide +kernel
theorem dX7_passing_275 : decode cX7_passing 275 = .ok (.iload_n 2, 1) := by decide +kernel
theorem dX7_passing_276 : decode cX7_passing 276 = .ok (.ifCond .ne 10, 3) := by decide +kernel
theorem dX7_passing_279 : decode cX7_passing 279 = .ok (.aload_n 0, 1) := by decide +kernel
theorem dX7_passing_280 : decode cX7_passing 280 = .ok (.getfield 13, 3) := by decide +kernel
theorem dX7_passing_283 : decode cX7_passing 283 = .ok (.goto 4, 3) := by decide +kernel
theorem dX7_passing_286 : decode cX7_passing 286 = .ok (.iconst 0, 1) := by decide +kernel
theorem dX7_passing_287 : decode cX7_passing 287 = .ok (.iload 4, 2) := by decide +kernel
theorem dX7_passing_289 : decode cX7_passing 289 = .ok (.iload 8, 2) := by decide +kernel
theorem dX7_passing_291 : decode cX7_passing 291 = .ok (.imul, 1) := by decide +kernel
theorem dX7_passing_292 : decode cX7_passing 292 = .ok (.iastore, 1) := by decide +kernel
theorem dX7_passing_293 : decode cX7_passing 293 = .ok (.iconst 0, 1) := by decide +kernel
theorem dX7_passing_294 : decode cX7_passing 294 = .ok (.istore 9, 2) := by decide +kernel
theorem dX7_passing_296 : decode cX7_passing 296 = .ok (.iload 9, 2) := by decide +kernel
theorem dX7_passing_298 : decode cX7_passing 298 = .ok (.aload_n 0, 1) := by decide +kernel
theorem dX7_passing_299 : decode cX7_passing 299 = .ok (.getfield 13, 3) := by decide +kernel
theorem dX7_passing_302 : decode cX7_passing 302 = .ok (.if_icmp .ge 22, 3) := by decide +kernel
theorem dX7_passing_305 : decode cX7_passing 305 = .ok (.aload_n 0, 1) := by decide +kernel
theorem dX7_passing_306 : decode cX7_passing 306 = .ok (.iload 9, 2) := by decide +kernel
theorem dX7_passing_308 : decode cX7_passing 308 = .ok (.aload_n 0, 1) := by decide +kernel
theorem dX7_passing_309 : decode cX7_passing 309 = .ok (.getfield 74, 3) := by decide +kernel
theorem dX7_passing_312 : decode cX7_passing 312 = .ok (.iload 9, 2) := by decide +kernel
theorem dX7_passing_314 : decode cX7_passing 314 = .ok (.iaload, 1) := by decide +kernel
theorem dX7_passing_315 : decode cX7_passing 315 = .ok (.invokevirtual 138, 3) := by decide +kernel
theorem dX7_passing_318 : decode cX7_passing 318 = .ok (.iinc 9 1, 3) := by decide +kernel
theorem dX7_passing_321 : decode cX7_passing 321 = .ok (.goto (-25), 3) := by decide +kernel
theorem dX7_passing_324 : decode cX7_passing 324 = .ok (.return_, 1) := by decide +kernel
set_option maxRecDepth 20000 in
theorem ggX7_week_X7_passing : GoodIn wsX7_week wsX7_passing := goodIn_r _ [11, 4, 12, 13, 14, 2, 15, 16, 17, 18, 19, 10, 20, 5, 21, 22, 23, 24, 25, 26, 27, 28, 29, 30, 31, 32, 33, 34, 35, 36, 37, 38, 39, 40, 41, 42, 43, 44, 45, 46, 47, 48, 49, 50, 51, 52, 53, 54, 55, 56, 57, 58, 59, 60, 61, 62, 63, 64, 65, 66, 67, 68, 69, 70, 71, 72, 73] (by decide +kernel) (by decide +kernel)
set_option maxRecDepth 20000 in
theorem gX7_week_X7_passing : GoodIn wsX7_week (wsV RX7 142 RX7 yX7_passing wsX7_passing) := goodIn_app (goodIn_of _ (by decide +kernel)) ggX7_week_X7_passing
set_option maxRecDepth 20000 in
theorem ggX7_week_X7_above : GoodIn wsX7_week wsX7_above := goodIn_r _ [30, 5, 31, 37, 38, 39, 40, 41, 42, 43, 44, 45, 46, 47, 48, 49, 50, 51, 52, 53, 54, 55, 56, 57, 58, 59, 60, 61, 62, 63, 64, 65, 66, 67, 68, 69, 70, 71, 72, 73] (by decide +kernel) (by decide +kernel)
set_option maxRecDepth 20000 in
theorem gX7_week_X7_above : GoodIn wsX7_week (wsV RX7 126 RX7 yX7_above wsX7_above) := goodIn_app (goodIn_of _ (by decide +kernel)) ggX7_week_X7_above
set_option maxRecDepth 20000 in
theorem ggX7_week_X7_brings : GoodIn wsX7_week wsX7_brings := goodIn_r _ [35, 5, 36, 37, 38, 39, 40, 41, 42, 43, 44, 45, 46, 47, 48, 49, 50, 51, 52, 53, 54, 55, 56, 57, 58, 59, 60, 61, 62, 63, 64, 65, 66, 67, 68, 69, 70, 71, 72, 73] (by decide +kernel) (by decide +kernel)
set_option maxRecDepth 20000 in
theorem gX7_week_X7_brings : GoodIn wsX7_week (wsV RX7 138 RX7 yX7_brings wsX7_brings) := goodIn_app (goodIn_of _ (by decide +kernel)) ggX7_week_X7_brings
theorem dX7_week_0 : decode cX7_week 0 = .ok (.aload_n 0, 1) := by decide +kernel
theorem dX7_week_1 : decode cX7_week 1 = .ok (.getfield 38, 3) := by decide +kernel
theorem dX7_week_4 : decode cX7_week 4 = .ok (.iload_n 1, 1) := by decide +kernel
theorem dX7_week_5 : decode cX7_week 5 = .ok (.iaload, 1) := by decide +kernel
theorem dX7_week_6 : decode cX7_week 6 = .ok (.istore_n 3, 1) := by decide +kernel
theorem dX7_week_7 : decode cX7_week 7 = .ok (.iconst 0, 1) := by decide +kernel
theorem dX7_week_8 : decode cX7_week 8 = .ok (.istore 4, 2) := by decide +kernel
theorem dX7_week_10 : decode cX7_week 10 = .ok (.iload 4, 2) := by decide +kernel
theorem dX7_week_12 : decode cX7_week 12 = .ok (.bipush 13, 2) := by decide +kernel
theorem dX7_week_14 : decode cX7_week 14 = .ok (.if_icmp .ge 17, 3) := by decide +kernel
theorem dX7_week_17 : decode cX7_week 17 = .ok (.aload_n 0, 1) := by decide +kernel
theorem dX7_week_18 : decode cX7_week 18 = .ok (.getfield 68, 3) := by decide +kernel
theorem dX7_week_21 : decode cX7_week 21 = .ok (.iload 4, 2) := by decide +kernel
theorem dX7_week_23 : decode cX7_week 23 = .ok (.iconst 0, 1) := by decide +kernel
theorem dX7_week_24 : decode cX7_week 24 = .ok (.iastore, 1) := by decide +kernel
theorem dX7_week_25 : decode cX7_week 25 = .ok (.iinc 4 1, 3) := by decide +kernel
theorem dX7_week_28 : decode cX7_week 28 = .ok (.goto (-18), 3) := by decide +kernel
theorem dX7_week_31 : decode cX7_week 31 = .ok (.aload_n 0, 1) := by decide +kernel
theorem dX7_week_32 : decode cX7_week 32 = .ok (.getfield 41, 3) := by decide +kernel
theorem dX7_week_35 : decode cX7_week 35 = .ok (.iload_n 1, 1) := by decide +kernel
theorem dX7_week_36 : decode cX7_week 36 = .ok (.iaload, 1) := by decide +kernel
theorem dX7_week_37 : decode cX7_week 37 = .ok (.iconst 2, 1) := by decide +kernel
theorem dX7_week_38 : decode cX7_week 38 = .ok (.if_icmp .ge 15, 3) := by decide +kernel
theorem dX7_week_41 : decode cX7_week 41 = .ok (.aload_n 0, 1) := by decide +kernel
theorem dX7_week_42 : decode cX7_week 42 = .ok (.iload_n 3, 1) := by decide +kernel
theorem dX7_week_43 : decode cX7_week 43 = .ok (.aload_n 0, 1) := by decide +kernel
theorem dX7_week_44 : decode cX7_week 44 = .ok (.getfield 41, 3) := by decide +kernel
theorem dX7_week_47 : decode cX7_week 47 = .ok (.iload_n 1, 1) := by decide +kernel
theorem dX7_week_48 : decode cX7_week 48 = .ok (.iaload, 1) := by decide +kernel
theorem dX7_week_49 : decode cX7_week 49 = .ok (.iload_n 2, 1) := by decide +kernel
theorem dX7_week_50 : decode cX7_week 50 = .ok (.invokevirtual 142, 3) := by decide +kernel
theorem dX7_week_53 : decode cX7_week 53 = .ok (.iconst 0, 1) := by decide +kernel
theorem dX7_week_54 : decode cX7_week 54 = .ok (.istore 4, 2) := by decide +kernel
theorem dX7_week_56 : decode cX7_week 56 = .ok (.iload 4, 2) := by decide +kernel
theorem dX7_week_58 : decode cX7_week 58 = .ok (.aload_n 0, 1) := by decide +kernel
theorem dX7_week_59 : decode cX7_week 59 = .ok (.getfield 13, 3) := by decide +kernel
theorem dX7_week_62 : decode cX7_week 62 = .ok (.if_icmp .ge 106, 3) := by decide +kernel
theorem dX7_week_65 : decode cX7_week 65 = .ok (.iload_n 3, 1) := by decide +kernel
theorem dX7_week_66 : decode cX7_week 66 = .ok (.bipush 7, 2) := by decide +kernel
theorem dX7_week_68 : decode cX7_week 68 = .ok (.if_icmp .lt 56, 3) := by decide +kernel
theorem dX7_week_71 : decode cX7_week 71 = .ok (.iconst 3, 1) := by decide +kernel
theorem dX7_week_72 : decode cX7_week 72 = .ok (.iload_n 3, 1) := by decide +kernel
theorem dX7_week_73 : decode cX7_week 73 = .ok (.imul, 1) := by decide +kernel
theorem dX7_week_74 : decode cX7_week 74 = .ok (.aload_n 0, 1) := by decide +kernel
theorem dX7_week_75 : decode cX7_week 75 = .ok (.iload 4, 2) := by decide +kernel
theorem dX7_week_77 : decode cX7_week 77 = .ok (.invokevirtual 126, 3) := by decide +kernel
theorem dX7_week_80 : decode cX7_week 80 = .ok (.if_icmp .ge 9, 3) := by decide +kernel
theorem dX7_week_83 : decode cX7_week 83 = .ok (.iconst 3, 1) := by decide +kernel
theorem dX7_week_84 : decode cX7_week 84 = .ok (.iload_n 3, 1) := by decide +kernel
theorem dX7_week_85 : decode cX7_week 85 = .ok (.imul, 1) := by decide +kernel
theorem dX7_week_86 : decode cX7_week 86 = .ok (.goto 9, 3) := by decide +kernel
theorem dX7_week_89 : decode cX7_week 89 = .ok (.aload_n 0, 1) := by decide +kernel
theorem dX7_week_90 : decode cX7_week 90 = .ok (.iload 4, 2) := by decide +kernel
theorem dX7_week_92 : decode cX7_week 92 = .ok (.invokevirtual 126, 3) := by decide +kernel
theorem dX7_week_95 : decode cX7_week 95 = .ok (.istore 5, 2) := by decide +kernel
theorem dX7_week_97 : decode cX7_week 97 = .ok (.aload_n 0, 1) := by decide +kernel
theorem dX7_week_98 : decode cX7_week 98 = .ok (.getfield 56, 3) := by decide +kernel
theorem dX7_week_101 : decode cX7_week 101 = .ok (.iload 4, 2) := by decide +kernel
theorem dX7_week_103 : decode cX7_week 103 = .ok (.dup2, 1) := by decide +kernel
theorem dX7_week_104 : decode cX7_week 104 = .ok (.iaload, 1) := by decide +kernel
theorem dX7_week_105 : decode cX7_week 105 = .ok (.iload 5, 2) := by decide +kernel
theorem dX7_week_107 : decode cX7_week 107 = .ok (.isub, 1) := by decide +kernel
theorem dX7_week_108 : decode cX7_week 108 = .ok (.iastore, 1) := by decide +kernel
theorem dX7_week_109 : decode cX7_week 109 = .ok (.aload_n 0, 1) := by decide +kernel
theorem dX7_week_110 : decode cX7_week 110 = .ok (.getfield 59, 3) := by decide +kernel
theorem dX7_week_113 : decode cX7_week 113 = .ok (.iload 4, 2) := by decide +kernel
theorem dX7_week_115 : decode cX7_week 115 = .ok (.dup2, 1) := by decide +kernel
theorem dX7_week_116 : decode cX7_week 116 = .ok (.iaload, 1) := by decide +kernel
theorem dX7_week_117 : decode cX7_week 117 = .ok (.iload 5, 2) := by decide +kernel
theorem dX7_week_119 : decode cX7_week 119 = .ok (.iadd, 1) := by decide +kernel
theorem dX7_week_120 : decode cX7_week 120 = .ok (.iastore, 1) := by decide +kernel
theorem dX7_week_121 : decode cX7_week 121 = .ok (.goto 41, 3) := by decide +kernel
theorem dX7_week_124 : decode cX7_week 124 = .ok (.iload_n 3, 1) := by decide +kernel
theorem dX7_week_125 : decode cX7_week 125 = .ok (.iconst 2, 1) := by decide +kernel
theorem dX7_week_126 : decode cX7_week 126 = .ok (.if_icmp .gt 36, 3) := by decide +kernel
theorem dX7_week_129 : decode cX7_week 129 = .ok (.aload_n 0, 1) := by decide +kernel
theorem dX7_week_130 : decode cX7_week 130 = .ok (.getfield 59, 3) := by decide +kernel
theorem dX7_week_133 : decode cX7_week 133 = .ok (.iload 4, 2) := by decide +kernel
theorem dX7_week_135 : decode cX7_week 135 = .ok (.iaload, 1) := by decide +kernel
theorem dX7_week_136 : decode cX7_week 136 = .ok (.iconst 3, 1) := by decide +kernel
theorem dX7_week_137 : decode cX7_week 137 = .ok (.iadd, 1) := by decide +kernel
theorem dX7_week_138 : decode cX7_week 138 = .ok (.iconst 4, 1) := by decide +kernel
theorem dX7_week_139 : decode cX7_week 139 = .ok (.idiv, 1) := by decide +kernel
theorem dX7_week_140 : decode cX7_week 140 = .ok (.istore 5, 2) := by decide +kernel
theorem dX7_week_142 : decode cX7_week 142 = .ok (.aload_n 0, 1) := by decide +kernel
theorem dX7_week_143 : decode cX7_week 143 = .ok (.getfield 59, 3) := by decide +kernel
theorem dX7_week_146 : decode cX7_week 146 = .ok (.iload 4, 2) := by decide +kernel
theorem dX7_week_148 : decode cX7_week 148 = .ok (.dup2, 1) := by decide +kernel
theorem dX7_week_149 : decode cX7_week 149 = .ok (.iaload, 1) := by decide +kernel
theorem dX7_week_150 : decode cX7_week 150 = .ok (.iload 5, 2) := by decide +kernel
theorem dX7_week_152 : decode cX7_week 152 = .ok (.isub, 1) := by decide +kernel
theorem dX7_week_153 : decode cX7_week 153 = .ok (.iastore, 1) := by decide +kernel
theorem dX7_week_154 : decode cX7_week 154 = .ok (.aload_n 0, 1) := by decide +kernel
theorem dX7_week_155 : decode cX7_week 155 = .ok (.iload 4, 2) := by decide +kernel
theorem dX7_week_157 : decode cX7_week 157 = .ok (.iload 5, 2) := by decide +kernel
theorem dX7_week_159 : decode cX7_week 159 = .ok (.invokevirtual 138, 3) := by decide +kernel
theorem dX7_week_162 : decode cX7_week 162 = .ok (.iinc 4 1, 3) := by decide +kernel
theorem dX7_week_165 : decode cX7_week 165 = .ok (.goto (-109), 3) := by decide +kernel
theorem dX7_week_168 : decode cX7_week 168 = .ok (.return_, 1) := by decide +kernel
set_option maxRecDepth 20000 in
theorem ggX7_dredged_X7_brings : GoodIn wsX7_dredged wsX7_brings := goodIn_r _ [10, 11, 12, 13, 14, 15, 16, 17, 18, 19, 20, 21, 22, 23, 24, 25, 26, 27, 28, 29, 30, 31, 32, 33, 34, 35, 36, 37, 38, 39, 40, 41, 42, 43, 44, 45, 46, 47, 48, 49] (by decide +kernel) (by decide +kernel)
set_option maxRecDepth 20000 in
theorem gX7_dredged_X7_brings : GoodIn wsX7_dredged (wsV RX7 138 RX7 yX7_brings wsX7_brings) := goodIn_app (goodIn_of _ (by decide +kernel)) ggX7_dredged_X7_brings
theorem dX7_dredged_0 : decode cX7_dredged 0 = .ok (.iconst 0, 1) := by decide +kernel
theorem dX7_dredged_1 : decode cX7_dredged 1 = .ok (.istore_n 3, 1) := by decide +kernel
theorem dX7_dredged_2 : decode cX7_dredged 2 = .ok (.iload_n 3, 1) := by decide +kernel
theorem dX7_dredged_3 : decode cX7_dredged 3 = .ok (.iload_n 2, 1) := by decide +kernel
theorem dX7_dredged_4 : decode cX7_dredged 4 = .ok (.if_icmp .ge 85, 3) := by decide +kernel
theorem dX7_dredged_7 : decode cX7_dredged 7 = .ok (.aload_n 0, 1) := by decide +kernel
theorem dX7_dredged_8 : decode cX7_dredged 8 = .ok (.getfield 53, 3) := by decide +kernel
theorem dX7_dredged_11 : decode cX7_dredged 11 = .ok (.iload_n 3, 1) := by decide +kernel
theorem dX7_dredged_12 : decode cX7_dredged 12 = .ok (.iaload, 1) := by decide +kernel
theorem dX7_dredged_13 : decode cX7_dredged 13 = .ok (.iload_n 1, 1) := by decide +kernel
theorem dX7_dredged_14 : decode cX7_dredged 14 = .ok (.if_icmp .ne 69, 3) := by decide +kernel
theorem dX7_dredged_17 : decode cX7_dredged 17 = .ok (.aload_n 0, 1) := by decide +kernel
theorem dX7_dredged_18 : decode cX7_dredged 18 = .ok (.getfield 44, 3) := by decide +kernel
theorem dX7_dredged_21 : decode cX7_dredged 21 = .ok (.iload_n 3, 1) := by decide +kernel
theorem dX7_dredged_22 : decode cX7_dredged 22 = .ok (.iaload, 1) := by decide +kernel
theorem dX7_dredged_23 : decode cX7_dredged 23 = .ok (.istore 4, 2) := by decide +kernel
theorem dX7_dredged_25 : decode cX7_dredged 25 = .ok (.aload_n 0, 1) := by decide +kernel
theorem dX7_dredged_26 : decode cX7_dredged 26 = .ok (.getfield 47, 3) := by decide +kernel
theorem dX7_dredged_29 : decode cX7_dredged 29 = .ok (.iload_n 3, 1) := by decide +kernel
theorem dX7_dredged_30 : decode cX7_dredged 30 = .ok (.iaload, 1) := by decide +kernel
theorem dX7_dredged_31 : decode cX7_dredged 31 = .ok (.aload_n 0, 1) := by decide +kernel
theorem dX7_dredged_32 : decode cX7_dredged 32 = .ok (.getfield 65, 3) := by decide +kernel
theorem dX7_dredged_35 : decode cX7_dredged 35 = .ok (.iload 4, 2) := by decide +kernel
theorem dX7_dredged_37 : decode cX7_dredged 37 = .ok (.iaload, 1) := by decide +kernel
theorem dX7_dredged_38 : decode cX7_dredged 38 = .ok (.if_icmp .ge 12, 3) := by decide +kernel
theorem dX7_dredged_41 : decode cX7_dredged 41 = .ok (.aload_n 0, 1) := by decide +kernel
theorem dX7_dredged_42 : decode cX7_dredged 42 = .ok (.getfield 47, 3) := by decide +kernel
theorem dX7_dredged_45 : decode cX7_dredged 45 = .ok (.iload_n 3, 1) := by decide +kernel
theorem dX7_dredged_46 : decode cX7_dredged 46 = .ok (.iaload, 1) := by decide +kernel
theorem dX7_dredged_47 : decode cX7_dredged 47 = .ok (.goto 10, 3) := by decide +kernel
theorem dX7_dredged_50 : decode cX7_dredged 50 = .ok (.aload_n 0, 1) := by decide +kernel
theorem dX7_dredged_51 : decode cX7_dredged 51 = .ok (.getfield 65, 3) := by decide +kernel
theorem dX7_dredged_54 : decode cX7_dredged 54 = .ok (.iload 4, 2) := by decide +kernel
theorem dX7_dredged_56 : decode cX7_dredged 56 = .ok (.iaload, 1) := by decide +kernel
theorem dX7_dredged_57 : decode cX7_dredged 57 = .ok (.istore 5, 2) := by decide +kernel
theorem dX7_dredged_59 : decode cX7_dredged 59 = .ok (.aload_n 0, 1) := by decide +kernel
theorem dX7_dredged_60 : decode cX7_dredged 60 = .ok (.getfield 65, 3) := by decide +kernel
theorem dX7_dredged_63 : decode cX7_dredged 63 = .ok (.iload 4, 2) := by decide +kernel
theorem dX7_dredged_65 : decode cX7_dredged 65 = .ok (.dup2, 1) := by decide +kernel
theorem dX7_dredged_66 : decode cX7_dredged 66 = .ok (.iaload, 1) := by decide +kernel
theorem dX7_dredged_67 : decode cX7_dredged 67 = .ok (.iload 5, 2) := by decide +kernel
theorem dX7_dredged_69 : decode cX7_dredged 69 = .ok (.isub, 1) := by decide +kernel
theorem dX7_dredged_70 : decode cX7_dredged 70 = .ok (.iastore, 1) := by decide +kernel
theorem dX7_dredged_71 : decode cX7_dredged 71 = .ok (.aload_n 0, 1) := by decide +kernel
theorem dX7_dredged_72 : decode cX7_dredged 72 = .ok (.aload_n 0, 1) := by decide +kernel
theorem dX7_dredged_73 : decode cX7_dredged 73 = .ok (.getfield 50, 3) := by decide +kernel
theorem dX7_dredged_76 : decode cX7_dredged 76 = .ok (.iload_n 3, 1) := by decide +kernel
theorem dX7_dredged_77 : decode cX7_dredged 77 = .ok (.iaload, 1) := by decide +kernel
theorem dX7_dredged_78 : decode cX7_dredged 78 = .ok (.iload 5, 2) := by decide +kernel
theorem dX7_dredged_80 : decode cX7_dredged 80 = .ok (.invokevirtual 138, 3) := by decide +kernel
theorem dX7_dredged_83 : decode cX7_dredged 83 = .ok (.iinc 3 1, 3) := by decide +kernel
theorem dX7_dredged_86 : decode cX7_dredged 86 = .ok (.goto (-84), 3) := by decide +kernel
theorem dX7_dredged_89 : decode cX7_dredged 89 = .ok (.return_, 1) := by decide +kernel
set_option maxRecDepth 20000 in
theorem ggX7_runs_X7_begins : GoodIn wsX7_runs wsX7_begins := goodIn_r _ [7, 8, 9, 10, 11, 12, 13, 14, 15, 16, 57, 58, 59, 60, 61, 62, 63, 64, 65, 66, 67, 68, 69, 70, 71, 72, 73, 74, 75, 76, 77, 78, 79, 80, 81, 82, 83, 84, 85, 86, 87, 88, 89, 90, 91, 92, 93] (by decide +kernel) (by decide +kernel)
set_option maxRecDepth 20000 in
theorem gX7_runs_X7_begins : GoodIn wsX7_runs (wsV RX7 146 RX7 yX7_begins wsX7_begins) := goodIn_app (goodIn_of _ (by decide +kernel)) ggX7_runs_X7_begins
set_option maxRecDepth 20000 in
theorem ggX7_runs_X7_dredged : GoodIn wsX7_runs wsX7_dredged := goodIn_r _ [20, 21, 22, 23, 12, 24, 25, 26, 27, 6, 28, 8, 29, 57, 58, 59, 60, 61, 62, 63, 64, 65, 66, 67, 68, 69, 70, 71, 72, 73, 74, 75, 76, 77, 78, 79, 80, 81, 82, 83, 84, 85, 86, 87, 88, 89, 90, 91, 92, 93] (by decide +kernel) (by decide +kernel)
set_option maxRecDepth 20000 in
theorem gX7_runs_X7_dredged : GoodIn wsX7_runs (wsV RX7 153 RX7 yX7_dredged wsX7_dredged) := goodIn_app (goodIn_of _ (by decide +kernel)) ggX7_runs_X7_dredged
set_option maxRecDepth 20000 in
theorem ggX7_runs_X7_week : GoodIn wsX7_runs wsX7_week := goodIn_r _ [33, 34, 13, 35, 36, 8, 10, 37, 38, 39, 6, 40, 41, 15, 42, 12, 43, 44, 45, 46, 47, 14, 48, 49, 50, 51, 11, 52, 53, 54, 55, 56, 25, 26, 27, 28, 29, 57, 58, 59, 60, 61, 62, 63, 64, 65, 66, 67, 68, 69, 70, 71, 72, 73, 74, 75, 76, 77, 78, 79, 80, 81, 82, 83, 84, 85, 86, 87, 88, 89, 90, 91, 92, 93] (by decide +kernel) (by decide +kernel)
set_option maxRecDepth 20000 in
theorem gX7_runs_X7_week : GoodIn wsX7_runs (wsV RX7 156 RX7 yX7_week wsX7_week) := goodIn_app (goodIn_of _ (by decide +kernel)) ggX7_runs_X7_week
theorem dX7_runs_0 : decode cX7_runs 0 = .ok (.aload_n 0, 1) := by decide +kernel
theorem dX7_runs_1 : decode cX7_runs 1 = .ok (.iload_n 2, 1) := by decide +kernel
theorem dX7_runs_2 : decode cX7_runs 2 = .ok (.invokevirtual 146, 3) := by decide +kernel
theorem dX7_runs_5 : decode cX7_runs 5 = .ok (.aload_n 0, 1) := by decide +kernel
theorem dX7_runs_6 : decode cX7_runs 6 = .ok (.iconst 0, 1) := by decide +kernel
theorem dX7_runs_7 : decode cX7_runs 7 = .ok (.aload_n 0, 1) := by decide +kernel
theorem dX7_runs_8 : decode cX7_runs 8 = .ok (.getfield 150, 3) := by decide +kernel
theorem dX7_runs_11 : decode cX7_runs 11 = .ok (.invokevirtual 153, 3) := by decide +kernel
theorem dX7_runs_14 : decode cX7_runs 14 = .ok (.iconst 0, 1) := by decide +kernel
theorem dX7_runs_15 : decode cX7_runs 15 = .ok (.istore_n 3, 1) := by decide +kernel
theorem dX7_runs_16 : decode cX7_runs 16 = .ok (.iload_n 3, 1) := by decide +kernel
theorem dX7_runs_17 : decode cX7_runs 17 = .ok (.iload_n 1, 1) := by decide +kernel
theorem dX7_runs_18 : decode cX7_runs 18 = .ok (.if_icmp .ge 29, 3) := by decide +kernel
theorem dX7_runs_21 : decode cX7_runs 21 = .ok (.aload_n 0, 1) := by decide +kernel
theorem dX7_runs_22 : decode cX7_runs 22 = .ok (.iload_n 3, 1) := by decide +kernel
theorem dX7_runs_23 : decode cX7_runs 23 = .ok (.aload_n 0, 1) := by decide +kernel
theorem dX7_runs_24 : decode cX7_runs 24 = .ok (.getfield 35, 3) := by decide +kernel
theorem dX7_runs_27 : decode cX7_runs 27 = .ok (.invokevirtual 156, 3) := by decide +kernel
theorem dX7_runs_30 : decode cX7_runs 30 = .ok (.aload_n 0, 1) := by decide +kernel
theorem dX7_runs_31 : decode cX7_runs 31 = .ok (.iload_n 3, 1) := by decide +kernel
theorem dX7_runs_32 : decode cX7_runs 32 = .ok (.iconst 1, 1) := by decide +kernel
theorem dX7_runs_33 : decode cX7_runs 33 = .ok (.iadd, 1) := by decide +kernel
theorem dX7_runs_34 : decode cX7_runs 34 = .ok (.aload_n 0, 1) := by decide +kernel
theorem dX7_runs_35 : decode cX7_runs 35 = .ok (.getfield 150, 3) := by decide +kernel
theorem dX7_runs_38 : decode cX7_runs 38 = .ok (.invokevirtual 153, 3) := by decide +kernel
theorem dX7_runs_41 : decode cX7_runs 41 = .ok (.iinc 3 1, 3) := by decide +kernel
theorem dX7_runs_44 : decode cX7_runs 44 = .ok (.goto (-28), 3) := by decide +kernel
theorem dX7_runs_47 : decode cX7_runs 47 = .ok (.return_, 1) := by decide +kernel
set_option maxRecDepth 20000 in
theorem ggX7_weeks_X7_within : GoodIn wsX7_weeks wsX7_within := goodIn_r _ [7] (by decide +kernel) (by decide +kernel)
set_option maxRecDepth 20000 in
theorem gX7_weeks_X7_within : GoodIn wsX7_weeks (va_wsS RX7 104 yX7_within wsX7_within) := goodIn_app (goodIn_of _ (by decide +kernel)) ggX7_weeks_X7_within
theorem dX7_weeks_0 : decode cX7_weeks 0 = .ok (.aload_n 0, 1) := by decide +kernel
theorem dX7_weeks_1 : decode cX7_weeks 1 = .ok (.iconst 0, 1) := by decide +kernel
theorem dX7_weeks_2 : decode cX7_weeks 2 = .ok (.putfield 1, 3) := by decide +kernel
theorem dX7_weeks_5 : decode cX7_weeks 5 = .ok (.iload_n 1, 1) := by decide +kernel
theorem dX7_weeks_6 : decode cX7_weeks 6 = .ok (.iconst 0, 1) := by decide +kernel
theorem dX7_weeks_7 : decode cX7_weeks 7 = .ok (.bipush 120, 2) := by decide +kernel
theorem dX7_weeks_9 : decode cX7_weeks 9 = .ok (.invokestatic 104, 3) := by decide +kernel
theorem dX7_weeks_12 : decode cX7_weeks 12 = .ok (.ifCond .eq 16, 3) := by decide +kernel
theorem dX7_weeks_15 : decode cX7_weeks 15 = .ok (.aload_n 0, 1) := by decide +kernel
theorem dX7_weeks_16 : decode cX7_weeks 16 = .ok (.getfield 117, 3) := by decide +kernel
theorem dX7_weeks_19 : decode cX7_weeks 19 = .ok (.iload_n 1, 1) := by decide +kernel
theorem dX7_weeks_20 : decode cX7_weeks 20 = .ok (.iadd, 1) := by decide +kernel
theorem dX7_weeks_21 : decode cX7_weeks 21 = .ok (.aload_n 0, 1) := by decide +kernel
theorem dX7_weeks_22 : decode cX7_weeks 22 = .ok (.getfield 123, 3) := by decide +kernel
theorem dX7_weeks_25 : decode cX7_weeks 25 = .ok (.if_icmp .le 5, 3) := by decide +kernel
theorem dX7_weeks_28 : decode cX7_weeks 28 = .ok (.iconst (-1), 1) := by decide +kernel
theorem dX7_weeks_29 : decode cX7_weeks 29 = .ok (.ireturn, 1) := by decide +kernel
theorem dX7_weeks_30 : decode cX7_weeks 30 = .ok (.aload_n 0, 1) := by decide +kernel
theorem dX7_weeks_31 : decode cX7_weeks 31 = .ok (.dup, 1) := by decide +kernel
theorem dX7_weeks_32 : decode cX7_weeks 32 = .ok (.getfield 117, 3) := by decide +kernel
theorem dX7_weeks_35 : decode cX7_weeks 35 = .ok (.iload_n 1, 1) := by decide +kernel
theorem dX7_weeks_36 : decode cX7_weeks 36 = .ok (.iadd, 1) := by decide +kernel
theorem dX7_weeks_37 : decode cX7_weeks 37 = .ok (.putfield 117, 3) := by decide +kernel
theorem dX7_weeks_40 : decode cX7_weeks 40 = .ok (.aload_n 0, 1) := by decide +kernel
theorem dX7_weeks_41 : decode cX7_weeks 41 = .ok (.getfield 117, 3) := by decide +kernel
theorem dX7_weeks_44 : decode cX7_weeks 44 = .ok (.ireturn, 1) := by decide +kernel
set_option maxRecDepth 20000 in
theorem ggX7_dredge_X7_isInner : GoodIn wsX7_dredge wsX7_isInner := goodIn_r _ [15, 16, 17, 18, 14, 19, 75, 76, 77, 78, 79, 80, 81, 82, 83, 84, 85, 86, 87, 88, 89, 90, 91, 92, 93, 94, 95, 96, 97, 98, 99, 100, 101, 102, 103, 104, 105, 106, 107, 108, 109, 110, 111] (by decide +kernel) (by decide +kernel)
set_option maxRecDepth 20000 in
theorem gX7_dredge_X7_isInner : GoodIn wsX7_dredge (wsV RX7 120 RX7 yX7_isInner wsX7_isInner) := goodIn_app (goodIn_of _ (by decide +kernel)) ggX7_dredge_X7_isInner
set_option maxRecDepth 20000 in
theorem ggX7_dredge_X7_isField : GoodIn wsX7_dredge wsX7_isField := goodIn_r _ [23, 16, 17, 18, 14, 19, 75, 76, 77, 78, 79, 80, 81, 82, 83, 84, 85, 86, 87, 88, 89, 90, 91, 92, 93, 94, 95, 96, 97, 98, 99, 100, 101, 102, 103, 104, 105, 106, 107, 108, 109, 110, 111] (by decide +kernel) (by decide +kernel)
set_option maxRecDepth 20000 in
theorem gX7_dredge_X7_isField : GoodIn wsX7_dredge (wsV RX7 112 RX7 yX7_isField wsX7_isField) := goodIn_app (goodIn_of _ (by decide +kernel)) ggX7_dredge_X7_isField
set_option maxRecDepth 20000 in
theorem ggX7_dredge_X7_within : GoodIn wsX7_dredge wsX7_within := goodIn_r _ [19] (by decide +kernel) (by decide +kernel)
set_option maxRecDepth 20000 in
theorem gX7_dredge_X7_within : GoodIn wsX7_dredge (va_wsS RX7 104 yX7_within wsX7_within) := goodIn_app (goodIn_of _ (by decide +kernel)) ggX7_dredge_X7_within
set_option maxRecDepth 20000 in
theorem ggX7_dredge_X7_runs : GoodIn wsX7_dredge wsX7_runs := goodIn_r _ [27, 3, 28, 29, 30, 31, 14, 32, 33, 34, 35, 36, 10, 37, 38, 2, 39, 40, 41, 42, 43, 8, 5, 6, 7, 44, 45, 46, 47, 48, 49, 50, 51, 52, 53, 54, 16, 55, 56, 57, 58, 59, 60, 61, 62, 63, 64, 65, 66, 67, 68, 69, 70, 71, 72, 73, 74, 75, 76, 77, 78, 79, 80, 81, 82, 83, 84, 85, 86, 87, 88, 89, 90, 91, 92, 93, 94, 95, 96, 97, 98, 99, 100, 101, 102, 103, 104, 105, 106, 107, 108, 109, 110, 111] (by decide +kernel) (by decide +kernel)
set_option maxRecDepth 20000 in
theorem gX7_dredge_X7_runs : GoodIn wsX7_dredge (wsV RX7 159 RX7 yX7_runs wsX7_runs) := goodIn_app (goodIn_of _ (by decide +kernel)) ggX7_dredge_X7_runs
theorem dX7_dredge_0 : decode cX7_dredge 0 = .ok (.aload_n 0, 1) := by decide +kernel
theorem dX7_dredge_1 : decode cX7_dredge 1 = .ok (.iconst 0, 1) := by decide +kernel
theorem dX7_dredge_2 : decode cX7_dredge 2 = .ok (.putfield 1, 3) := by decide +kernel
theorem dX7_dredge_5 : decode cX7_dredge 5 = .ok (.aload_n 0, 1) := by decide +kernel
theorem dX7_dredge_6 : decode cX7_dredge 6 = .ok (.iload_n 1, 1) := by decide +kernel
theorem dX7_dredge_7 : decode cX7_dredge 7 = .ok (.invokevirtual 120, 3) := by decide +kernel
theorem dX7_dredge_10 : decode cX7_dredge 10 = .ok (.ifCond .eq 41, 3) := by decide +kernel
theorem dX7_dredge_13 : decode cX7_dredge 13 = .ok (.aload_n 0, 1) := by decide +kernel
theorem dX7_dredge_14 : decode cX7_dredge 14 = .ok (.getfield 20, 3) := by decide +kernel
theorem dX7_dredge_17 : decode cX7_dredge 17 = .ok (.iload_n 1, 1) := by decide +kernel
theorem dX7_dredge_18 : decode cX7_dredge 18 = .ok (.iaload, 1) := by decide +kernel
theorem dX7_dredge_19 : decode cX7_dredge 19 = .ok (.iconst 2, 1) := by decide +kernel
theorem dX7_dredge_20 : decode cX7_dredge 20 = .ok (.if_icmp .ne 31, 3) := by decide +kernel
theorem dX7_dredge_23 : decode cX7_dredge 23 = .ok (.aload_n 0, 1) := by decide +kernel
theorem dX7_dredge_24 : decode cX7_dredge 24 = .ok (.iload_n 3, 1) := by decide +kernel
theorem dX7_dredge_25 : decode cX7_dredge 25 = .ok (.invokevirtual 112, 3) := by decide +kernel
theorem dX7_dredge_28 : decode cX7_dredge 28 = .ok (.ifCond .eq 23, 3) := by decide +kernel
theorem dX7_dredge_31 : decode cX7_dredge 31 = .ok (.iload_n 2, 1) := by decide +kernel
theorem dX7_dredge_32 : decode cX7_dredge 32 = .ok (.iconst 1, 1) := by decide +kernel
theorem dX7_dredge_33 : decode cX7_dredge 33 = .ok (.sipush 9999, 3) := by decide +kernel
theorem dX7_dredge_36 : decode cX7_dredge 36 = .ok (.invokestatic 104, 3) := by decide +kernel
theorem dX7_dredge_39 : decode cX7_dredge 39 = .ok (.ifCond .eq 12, 3) := by decide +kernel
theorem dX7_dredge_42 : decode cX7_dredge 42 = .ok (.aload_n 0, 1) := by decide +kernel
theorem dX7_dredge_43 : decode cX7_dredge 43 = .ok (.getfield 150, 3) := by decide +kernel
theorem dX7_dredge_46 : decode cX7_dredge 46 = .ok (.bipush 20, 2) := by decide +kernel
theorem dX7_dredge_48 : decode cX7_dredge 48 = .ok (.if_icmp .ne 5, 3) := by decide +kernel
theorem dX7_dredge_51 : decode cX7_dredge 51 = .ok (.iconst (-1), 1) := by decide +kernel
theorem dX7_dredge_52 : decode cX7_dredge 52 = .ok (.ireturn, 1) := by decide +kernel
theorem dX7_dredge_53 : decode cX7_dredge 53 = .ok (.aload_n 0, 1) := by decide +kernel
theorem dX7_dredge_54 : decode cX7_dredge 54 = .ok (.aload_n 0, 1) := by decide +kernel
theorem dX7_dredge_55 : decode cX7_dredge 55 = .ok (.getfield 117, 3) := by decide +kernel
theorem dX7_dredge_58 : decode cX7_dredge 58 = .ok (.iconst 0, 1) := by decide +kernel
theorem dX7_dredge_59 : decode cX7_dredge 59 = .ok (.invokevirtual 159, 3) := by decide +kernel
theorem dX7_dredge_62 : decode cX7_dredge 62 = .ok (.aload_n 0, 1) := by decide +kernel
theorem dX7_dredge_63 : decode cX7_dredge 63 = .ok (.getfield 44, 3) := by decide +kernel
theorem dX7_dredge_66 : decode cX7_dredge 66 = .ok (.aload_n 0, 1) := by decide +kernel
theorem dX7_dredge_67 : decode cX7_dredge 67 = .ok (.getfield 150, 3) := by decide +kernel
theorem dX7_dredge_70 : decode cX7_dredge 70 = .ok (.iload_n 1, 1) := by decide +kernel
theorem dX7_dredge_71 : decode cX7_dredge 71 = .ok (.iastore, 1) := by decide +kernel
theorem dX7_dredge_72 : decode cX7_dredge 72 = .ok (.aload_n 0, 1) := by decide +kernel
theorem dX7_dredge_73 : decode cX7_dredge 73 = .ok (.getfield 47, 3) := by decide +kernel
theorem dX7_dredge_76 : decode cX7_dredge 76 = .ok (.aload_n 0, 1) := by decide +kernel
theorem dX7_dredge_77 : decode cX7_dredge 77 = .ok (.getfield 150, 3) := by decide +kernel
theorem dX7_dredge_80 : decode cX7_dredge 80 = .ok (.iload_n 2, 1) := by decide +kernel
theorem dX7_dredge_81 : decode cX7_dredge 81 = .ok (.iastore, 1) := by decide +kernel
theorem dX7_dredge_82 : decode cX7_dredge 82 = .ok (.aload_n 0, 1) := by decide +kernel
theorem dX7_dredge_83 : decode cX7_dredge 83 = .ok (.getfield 50, 3) := by decide +kernel
theorem dX7_dredge_86 : decode cX7_dredge 86 = .ok (.aload_n 0, 1) := by decide +kernel
theorem dX7_dredge_87 : decode cX7_dredge 87 = .ok (.getfield 150, 3) := by decide +kernel
theorem dX7_dredge_90 : decode cX7_dredge 90 = .ok (.iload_n 3, 1) := by decide +kernel
theorem dX7_dredge_91 : decode cX7_dredge 91 = .ok (.iastore, 1) := by decide +kernel
theorem dX7_dredge_92 : decode cX7_dredge 92 = .ok (.aload_n 0, 1) := by decide +kernel
theorem dX7_dredge_93 : decode cX7_dredge 93 = .ok (.getfield 53, 3) := by decide +kernel
theorem dX7_dredge_96 : decode cX7_dredge 96 = .ok (.aload_n 0, 1) := by decide +kernel
theorem dX7_dredge_97 : decode cX7_dredge 97 = .ok (.getfield 150, 3) := by decide +kernel
theorem dX7_dredge_100 : decode cX7_dredge 100 = .ok (.aload_n 0, 1) := by decide +kernel
theorem dX7_dredge_101 : decode cX7_dredge 101 = .ok (.getfield 117, 3) := by decide +kernel
theorem dX7_dredge_104 : decode cX7_dredge 104 = .ok (.iastore, 1) := by decide +kernel
theorem dX7_dredge_105 : decode cX7_dredge 105 = .ok (.aload_n 0, 1) := by decide +kernel
theorem dX7_dredge_106 : decode cX7_dredge 106 = .ok (.dup, 1) := by decide +kernel
theorem dX7_dredge_107 : decode cX7_dredge 107 = .ok (.getfield 150, 3) := by decide +kernel
theorem dX7_dredge_110 : decode cX7_dredge 110 = .ok (.iconst 1, 1) := by decide +kernel
theorem dX7_dredge_111 : decode cX7_dredge 111 = .ok (.iadd, 1) := by decide +kernel
theorem dX7_dredge_112 : decode cX7_dredge 112 = .ok (.putfield 150, 3) := by decide +kernel
theorem dX7_dredge_115 : decode cX7_dredge 115 = .ok (.aload_n 0, 1) := by decide +kernel
theorem dX7_dredge_116 : decode cX7_dredge 116 = .ok (.iconst 1, 1) := by decide +kernel
theorem dX7_dredge_117 : decode cX7_dredge 117 = .ok (.putfield 108, 3) := by decide +kernel
theorem dX7_dredge_120 : decode cX7_dredge 120 = .ok (.iload_n 2, 1) := by decide +kernel
theorem dX7_dredge_121 : decode cX7_dredge 121 = .ok (.aload_n 0, 1) := by decide +kernel
theorem dX7_dredge_122 : decode cX7_dredge 122 = .ok (.getfield 65, 3) := by decide +kernel
theorem dX7_dredge_125 : decode cX7_dredge 125 = .ok (.iload_n 1, 1) := by decide +kernel
theorem dX7_dredge_126 : decode cX7_dredge 126 = .ok (.iaload, 1) := by decide +kernel
theorem dX7_dredge_127 : decode cX7_dredge 127 = .ok (.if_icmp .ge 7, 3) := by decide +kernel
theorem dX7_dredge_130 : decode cX7_dredge 130 = .ok (.iload_n 2, 1) := by decide +kernel
theorem dX7_dredge_131 : decode cX7_dredge 131 = .ok (.goto 9, 3) := by decide +kernel
theorem dX7_dredge_134 : decode cX7_dredge 134 = .ok (.aload_n 0, 1) := by decide +kernel
theorem dX7_dredge_135 : decode cX7_dredge 135 = .ok (.getfield 65, 3) := by decide +kernel
theorem dX7_dredge_138 : decode cX7_dredge 138 = .ok (.iload_n 1, 1) := by decide +kernel
theorem dX7_dredge_139 : decode cX7_dredge 139 = .ok (.iaload, 1) := by decide +kernel
theorem dX7_dredge_140 : decode cX7_dredge 140 = .ok (.ireturn, 1) := by decide +kernel
set_option maxRecDepth 20000 in
theorem ggX7_line_X7_isField : GoodIn wsX7_line wsX7_isField := goodIn_r _ [8, 9, 10, 11, 7, 12, 70, 71, 72, 73, 74, 75, 76, 77, 78, 79, 80, 81, 82, 83, 84, 85, 86, 87, 88, 89, 90, 91, 92, 93, 94, 95, 96, 97, 98, 99, 100, 101, 102, 103, 104, 105, 106] (by decide +kernel) (by decide +kernel)
set_option maxRecDepth 20000 in
theorem gX7_line_X7_isField : GoodIn wsX7_line (wsV RX7 112 RX7 yX7_isField wsX7_isField) := goodIn_app (goodIn_of _ (by decide +kernel)) ggX7_line_X7_isField
set_option maxRecDepth 20000 in
theorem ggX7_line_X7_runs : GoodIn wsX7_line wsX7_runs := goodIn_r _ [16, 17, 18, 19, 20, 21, 7, 22, 3, 23, 24, 25, 26, 27, 28, 29, 30, 31, 32, 33, 34, 35, 36, 37, 38, 39, 40, 41, 42, 43, 44, 45, 46, 47, 48, 49, 9, 50, 51, 52, 53, 54, 55, 56, 57, 58, 59, 60, 61, 62, 63, 64, 65, 66, 67, 68, 69, 70, 71, 72, 73, 74, 75, 76, 77, 78, 79, 80, 81, 82, 83, 84, 85, 86, 87, 88, 89, 90, 91, 92, 93, 94, 95, 96, 97, 98, 99, 100, 101, 102, 103, 104, 105, 106] (by decide +kernel) (by decide +kernel)
set_option maxRecDepth 20000 in
theorem gX7_line_X7_runs : GoodIn wsX7_line (wsV RX7 159 RX7 yX7_runs wsX7_runs) := goodIn_app (goodIn_of _ (by decide +kernel)) ggX7_line_X7_runs
theorem dX7_line_0 : decode cX7_line 0 = .ok (.aload_n 0, 1) := by decide +kernel
theorem dX7_line_1 : decode cX7_line 1 = .ok (.aload_n 0, 1) := by decide +kernel
theorem dX7_line_2 : decode cX7_line 2 = .ok (.iload_n 1, 1) := by decide +kernel
theorem dX7_line_3 : decode cX7_line 3 = .ok (.invokevirtual 112, 3) := by decide +kernel
theorem dX7_line_6 : decode cX7_line 6 = .ok (.ifCond .eq 7, 3) := by decide +kernel
theorem dX7_line_9 : decode cX7_line 9 = .ok (.iconst 0, 1) := by decide +kernel
theorem dX7_line_10 : decode cX7_line 10 = .ok (.goto 4, 3) := by decide +kernel
theorem dX7_line_13 : decode cX7_line 13 = .ok (.iconst 1, 1) := by decide +kernel
theorem dX7_line_14 : decode cX7_line 14 = .ok (.putfield 1, 3) := by decide +kernel
theorem dX7_line_17 : decode cX7_line 17 = .ok (.aload_n 0, 1) := by decide +kernel
theorem dX7_line_18 : decode cX7_line 18 = .ok (.getfield 1, 3) := by decide +kernel
theorem dX7_line_21 : decode cX7_line 21 = .ok (.ifCond .le 5, 3) := by decide +kernel
theorem dX7_line_24 : decode cX7_line 24 = .ok (.iconst 0, 1) := by decide +kernel
theorem dX7_line_25 : decode cX7_line 25 = .ok (.ireturn, 1) := by decide +kernel
theorem dX7_line_26 : decode cX7_line 26 = .ok (.aload_n 0, 1) := by decide +kernel
theorem dX7_line_27 : decode cX7_line 27 = .ok (.aload_n 0, 1) := by decide +kernel
theorem dX7_line_28 : decode cX7_line 28 = .ok (.getfield 117, 3) := by decide +kernel
theorem dX7_line_31 : decode cX7_line 31 = .ok (.iconst 0, 1) := by decide +kernel
theorem dX7_line_32 : decode cX7_line 32 = .ok (.invokevirtual 159, 3) := by decide +kernel
theorem dX7_line_35 : decode cX7_line 35 = .ok (.aload_n 0, 1) := by decide +kernel
theorem dX7_line_36 : decode cX7_line 36 = .ok (.getfield 56, 3) := by decide +kernel
theorem dX7_line_39 : decode cX7_line 39 = .ok (.iload_n 1, 1) := by decide +kernel
theorem dX7_line_40 : decode cX7_line 40 = .ok (.iaload, 1) := by decide +kernel
theorem dX7_line_41 : decode cX7_line 41 = .ok (.bipush 10, 2) := by decide +kernel
theorem dX7_line_43 : decode cX7_line 43 = .ok (.idiv, 1) := by decide +kernel
theorem dX7_line_44 : decode cX7_line 44 = .ok (.ireturn, 1) := by decide +kernel
set_option maxRecDepth 20000 in
theorem ggX7_look_X7_isField : GoodIn wsX7_look wsX7_isField := goodIn_r _ [10, 11, 12, 13, 9, 14, 70, 71, 72, 73, 74, 75, 76, 77, 78, 79, 80, 81, 82, 83, 84, 85, 86, 87, 88, 89, 90, 91, 92, 93, 94, 95, 96, 97, 98, 99, 100, 101, 102, 103, 104, 105, 106] (by decide +kernel) (by decide +kernel)
set_option maxRecDepth 20000 in
theorem gX7_look_X7_isField : GoodIn wsX7_look (wsV RX7 112 RX7 yX7_isField wsX7_isField) := goodIn_app (goodIn_of _ (by decide +kernel)) ggX7_look_X7_isField
set_option maxRecDepth 20000 in
theorem ggX7_look_X7_runs : GoodIn wsX7_look wsX7_runs := goodIn_r _ [18, 19, 20, 21, 22, 23, 9, 24, 3, 25, 4, 5, 26, 27, 28, 29, 30, 31, 32, 33, 34, 35, 36, 37, 38, 39, 40, 41, 42, 43, 44, 45, 46, 47, 48, 49, 11, 50, 51, 52, 53, 54, 55, 56, 57, 58, 59, 60, 61, 62, 63, 64, 65, 66, 67, 68, 69, 70, 71, 72, 73, 74, 75, 76, 77, 78, 79, 80, 81, 82, 83, 84, 85, 86, 87, 88, 89, 90, 91, 92, 93, 94, 95, 96, 97, 98, 99, 100, 101, 102, 103, 104, 105, 106] (by decide +kernel) (by decide +kernel)
set_option maxRecDepth 20000 in
theorem gX7_look_X7_runs : GoodIn wsX7_look (wsV RX7 159 RX7 yX7_runs wsX7_runs) := goodIn_app (goodIn_of _ (by decide +kernel)) ggX7_look_X7_runs
theorem dX7_look_0 : decode cX7_look 0 = .ok (.aload_n 0, 1) := by decide +kernel
theorem dX7_look_1 : decode cX7_look 1 = .ok (.iconst 0, 1) := by decide +kernel
theorem dX7_look_2 : decode cX7_look 2 = .ok (.putfield 1, 3) := by decide +kernel
theorem dX7_look_5 : decode cX7_look 5 = .ok (.aload_n 0, 1) := by decide +kernel
theorem dX7_look_6 : decode cX7_look 6 = .ok (.iload_n 1, 1) := by decide +kernel
theorem dX7_look_7 : decode cX7_look 7 = .ok (.invokevirtual 112, 3) := by decide +kernel
theorem dX7_look_10 : decode cX7_look 10 = .ok (.ifCond .ne 5, 3) := by decide +kernel
theorem dX7_look_13 : decode cX7_look 13 = .ok (.iconst (-1), 1) := by decide +kernel
theorem dX7_look_14 : decode cX7_look 14 = .ok (.ireturn, 1) := by decide +kernel
theorem dX7_look_15 : decode cX7_look 15 = .ok (.aload_n 0, 1) := by decide +kernel
theorem dX7_look_16 : decode cX7_look 16 = .ok (.aload_n 0, 1) := by decide +kernel
theorem dX7_look_17 : decode cX7_look 17 = .ok (.getfield 117, 3) := by decide +kernel
theorem dX7_look_20 : decode cX7_look 20 = .ok (.iconst 0, 1) := by decide +kernel
theorem dX7_look_21 : decode cX7_look 21 = .ok (.invokevirtual 159, 3) := by decide +kernel
theorem dX7_look_24 : decode cX7_look 24 = .ok (.iload_n 2, 1) := by decide +kernel
theorem dX7_look_25 : decode cX7_look 25 = .ok (.ifCond .ne 12, 3) := by decide +kernel
theorem dX7_look_28 : decode cX7_look 28 = .ok (.aload_n 0, 1) := by decide +kernel
theorem dX7_look_29 : decode cX7_look 29 = .ok (.getfield 56, 3) := by decide +kernel
theorem dX7_look_32 : decode cX7_look 32 = .ok (.iload_n 1, 1) := by decide +kernel
theorem dX7_look_33 : decode cX7_look 33 = .ok (.iaload, 1) := by decide +kernel
theorem dX7_look_34 : decode cX7_look 34 = .ok (.goto 32, 3) := by decide +kernel
theorem dX7_look_37 : decode cX7_look 37 = .ok (.iload_n 2, 1) := by decide +kernel
theorem dX7_look_38 : decode cX7_look 38 = .ok (.iconst 1, 1) := by decide +kernel
theorem dX7_look_39 : decode cX7_look 39 = .ok (.if_icmp .ne 12, 3) := by decide +kernel
theorem dX7_look_42 : decode cX7_look 42 = .ok (.aload_n 0, 1) := by decide +kernel
theorem dX7_look_43 : decode cX7_look 43 = .ok (.getfield 59, 3) := by decide +kernel
theorem dX7_look_46 : decode cX7_look 46 = .ok (.iload_n 1, 1) := by decide +kernel
theorem dX7_look_47 : decode cX7_look 47 = .ok (.iaload, 1) := by decide +kernel
theorem dX7_look_48 : decode cX7_look 48 = .ok (.goto 18, 3) := by decide +kernel
theorem dX7_look_51 : decode cX7_look 51 = .ok (.iload_n 2, 1) := by decide +kernel
theorem dX7_look_52 : decode cX7_look 52 = .ok (.iconst 2, 1) := by decide +kernel
theorem dX7_look_53 : decode cX7_look 53 = .ok (.if_icmp .ne 12, 3) := by decide +kernel
theorem dX7_look_56 : decode cX7_look 56 = .ok (.aload_n 0, 1) := by decide +kernel
theorem dX7_look_57 : decode cX7_look 57 = .ok (.getfield 62, 3) := by decide +kernel
theorem dX7_look_60 : decode cX7_look 60 = .ok (.iload_n 1, 1) := by decide +kernel
theorem dX7_look_61 : decode cX7_look 61 = .ok (.iaload, 1) := by decide +kernel
theorem dX7_look_62 : decode cX7_look 62 = .ok (.goto 4, 3) := by decide +kernel
theorem dX7_look_65 : decode cX7_look 65 = .ok (.iconst (-1), 1) := by decide +kernel
theorem dX7_look_66 : decode cX7_look 66 = .ok (.ireturn, 1) := by decide +kernel
set_option maxRecDepth 20000 in
theorem ggX7_border_X7_within : GoodIn wsX7_border wsX7_within := goodIn_r _ [13] (by decide +kernel) (by decide +kernel)
set_option maxRecDepth 20000 in
theorem gX7_border_X7_within : GoodIn wsX7_border (va_wsS RX7 104 yX7_within wsX7_within) := goodIn_app (goodIn_of _ (by decide +kernel)) ggX7_border_X7_within
set_option maxRecDepth 20000 in
theorem ggX7_border_X7_runs : GoodIn wsX7_border wsX7_runs := goodIn_r _ [17, 18, 19, 20, 21, 22, 12, 23, 24, 25, 26, 27, 9, 6, 28, 5, 7, 29, 30, 31, 32, 33, 34, 35, 36, 37, 38, 39, 40, 41, 42, 43, 44, 45, 46, 47, 2, 48, 49, 50, 51, 52, 8, 53, 54, 55, 56, 57, 58, 59, 60, 61, 62, 63, 64, 65, 66, 67, 68, 69, 70, 71, 72, 73, 74, 75, 76, 77, 78, 79, 80, 81, 82, 83, 84, 85, 86, 87, 88, 89, 90, 91, 92, 93, 94, 95, 96, 97, 98, 99, 100, 101, 102, 103] (by decide +kernel) (by decide +kernel)
set_option maxRecDepth 20000 in
theorem gX7_border_X7_runs : GoodIn wsX7_border (wsV RX7 159 RX7 yX7_runs wsX7_runs) := goodIn_app (goodIn_of _ (by decide +kernel)) ggX7_border_X7_runs
theorem dX7_border_0 : decode cX7_border 0 = .ok (.aload_n 0, 1) := by decide +kernel
theorem dX7_border_1 : decode cX7_border 1 = .ok (.iconst 0, 1) := by decide +kernel
theorem dX7_border_2 : decode cX7_border 2 = .ok (.putfield 1, 3) := by decide +kernel
theorem dX7_border_5 : decode cX7_border 5 = .ok (.iload_n 1, 1) := by decide +kernel
theorem dX7_border_6 : decode cX7_border 6 = .ok (.iconst 0, 1) := by decide +kernel
theorem dX7_border_7 : decode cX7_border 7 = .ok (.aload_n 0, 1) := by decide +kernel
theorem dX7_border_8 : decode cX7_border 8 = .ok (.getfield 13, 3) := by decide +kernel
theorem dX7_border_11 : decode cX7_border 11 = .ok (.invokestatic 104, 3) := by decide +kernel
theorem dX7_border_14 : decode cX7_border 14 = .ok (.ifCond .ne 15, 3) := by decide +kernel
theorem dX7_border_17 : decode cX7_border 17 = .ok (.iload_n 2, 1) := by decide +kernel
theorem dX7_border_18 : decode cX7_border 18 = .ok (.iconst 3, 1) := by decide +kernel
theorem dX7_border_19 : decode cX7_border 19 = .ok (.if_icmp .ne 8, 3) := by decide +kernel
theorem dX7_border_22 : decode cX7_border 22 = .ok (.ldc 162, 2) := by decide +kernel
theorem dX7_border_24 : decode cX7_border 24 = .ok (.goto 4, 3) := by decide +kernel
theorem dX7_border_27 : decode cX7_border 27 = .ok (.iconst (-1), 1) := by decide +kernel
theorem dX7_border_28 : decode cX7_border 28 = .ok (.ireturn, 1) := by decide +kernel
theorem dX7_border_29 : decode cX7_border 29 = .ok (.aload_n 0, 1) := by decide +kernel
theorem dX7_border_30 : decode cX7_border 30 = .ok (.aload_n 0, 1) := by decide +kernel
theorem dX7_border_31 : decode cX7_border 31 = .ok (.getfield 117, 3) := by decide +kernel
theorem dX7_border_34 : decode cX7_border 34 = .ok (.iconst 0, 1) := by decide +kernel
theorem dX7_border_35 : decode cX7_border 35 = .ok (.invokevirtual 159, 3) := by decide +kernel
theorem dX7_border_38 : decode cX7_border 38 = .ok (.iload_n 2, 1) := by decide +kernel
theorem dX7_border_39 : decode cX7_border 39 = .ok (.ifCond .ne 10, 3) := by decide +kernel
theorem dX7_border_42 : decode cX7_border 42 = .ok (.aload_n 0, 1) := by decide +kernel
theorem dX7_border_43 : decode cX7_border 43 = .ok (.getfield 20, 3) := by decide +kernel
theorem dX7_border_46 : decode cX7_border 46 = .ok (.iload_n 1, 1) := by decide +kernel
theorem dX7_border_47 : decode cX7_border 47 = .ok (.iaload, 1) := by decide +kernel
theorem dX7_border_48 : decode cX7_border 48 = .ok (.ireturn, 1) := by decide +kernel
theorem dX7_border_49 : decode cX7_border 49 = .ok (.iload_n 2, 1) := by decide +kernel
theorem dX7_border_50 : decode cX7_border 50 = .ok (.iconst 3, 1) := by decide +kernel
theorem dX7_border_51 : decode cX7_border 51 = .ok (.if_icmp .ne 10, 3) := by decide +kernel
theorem dX7_border_54 : decode cX7_border 54 = .ok (.aload_n 0, 1) := by decide +kernel
theorem dX7_border_55 : decode cX7_border 55 = .ok (.getfield 68, 3) := by decide +kernel
theorem dX7_border_58 : decode cX7_border 58 = .ok (.iload_n 1, 1) := by decide +kernel
theorem dX7_border_59 : decode cX7_border 59 = .ok (.iaload, 1) := by decide +kernel
theorem dX7_border_60 : decode cX7_border 60 = .ok (.ireturn, 1) := by decide +kernel
theorem dX7_border_61 : decode cX7_border 61 = .ok (.iload_n 2, 1) := by decide +kernel
theorem dX7_border_62 : decode cX7_border 62 = .ok (.iconst 1, 1) := by decide +kernel
theorem dX7_border_63 : decode cX7_border 63 = .ok (.if_icmp .lt 17, 3) := by decide +kernel
theorem dX7_border_66 : decode cX7_border 66 = .ok (.iload_n 2, 1) := by decide +kernel
theorem dX7_border_67 : decode cX7_border 67 = .ok (.iconst 2, 1) := by decide +kernel
theorem dX7_border_68 : decode cX7_border 68 = .ok (.if_icmp .gt 12, 3) := by decide +kernel
theorem dX7_border_71 : decode cX7_border 71 = .ok (.aload_n 0, 1) := by decide +kernel
theorem dX7_border_72 : decode cX7_border 72 = .ok (.getfield 20, 3) := by decide +kernel
theorem dX7_border_75 : decode cX7_border 75 = .ok (.iload_n 1, 1) := by decide +kernel
theorem dX7_border_76 : decode cX7_border 76 = .ok (.iaload, 1) := by decide +kernel
theorem dX7_border_77 : decode cX7_border 77 = .ok (.ifCond .ne 5, 3) := by decide +kernel
theorem dX7_border_80 : decode cX7_border 80 = .ok (.iconst (-1), 1) := by decide +kernel
theorem dX7_border_81 : decode cX7_border 81 = .ok (.ireturn, 1) := by decide +kernel
theorem dX7_border_82 : decode cX7_border 82 = .ok (.iload_n 2, 1) := by decide +kernel
theorem dX7_border_83 : decode cX7_border 83 = .ok (.iconst 1, 1) := by decide +kernel
theorem dX7_border_84 : decode cX7_border 84 = .ok (.if_icmp .ne 31, 3) := by decide +kernel
theorem dX7_border_87 : decode cX7_border 87 = .ok (.aload_n 0, 1) := by decide +kernel
theorem dX7_border_88 : decode cX7_border 88 = .ok (.getfield 20, 3) := by decide +kernel
theorem dX7_border_91 : decode cX7_border 91 = .ok (.iload_n 1, 1) := by decide +kernel
theorem dX7_border_92 : decode cX7_border 92 = .ok (.iaload, 1) := by decide +kernel
theorem dX7_border_93 : decode cX7_border 93 = .ok (.iconst 1, 1) := by decide +kernel
theorem dX7_border_94 : decode cX7_border 94 = .ok (.if_icmp .ne 12, 3) := by decide +kernel
theorem dX7_border_97 : decode cX7_border 97 = .ok (.aload_n 0, 1) := by decide +kernel
theorem dX7_border_98 : decode cX7_border 98 = .ok (.getfield 23, 3) := by decide +kernel
theorem dX7_border_101 : decode cX7_border 101 = .ok (.iload_n 1, 1) := by decide +kernel
theorem dX7_border_102 : decode cX7_border 102 = .ok (.iaload, 1) := by decide +kernel
theorem dX7_border_103 : decode cX7_border 103 = .ok (.goto 37, 3) := by decide +kernel
theorem dX7_border_106 : decode cX7_border 106 = .ok (.aload_n 0, 1) := by decide +kernel
theorem dX7_border_107 : decode cX7_border 107 = .ok (.getfield 26, 3) := by decide +kernel
theorem dX7_border_110 : decode cX7_border 110 = .ok (.iload_n 1, 1) := by decide +kernel
theorem dX7_border_111 : decode cX7_border 111 = .ok (.iaload, 1) := by decide +kernel
theorem dX7_border_112 : decode cX7_border 112 = .ok (.goto 28, 3) := by decide +kernel
theorem dX7_border_115 : decode cX7_border 115 = .ok (.aload_n 0, 1) := by decide +kernel
theorem dX7_border_116 : decode cX7_border 116 = .ok (.getfield 20, 3) := by decide +kernel
theorem dX7_border_119 : decode cX7_border 119 = .ok (.iload_n 1, 1) := by decide +kernel
theorem dX7_border_120 : decode cX7_border 120 = .ok (.iaload, 1) := by decide +kernel
theorem dX7_border_121 : decode cX7_border 121 = .ok (.iconst 1, 1) := by decide +kernel
theorem dX7_border_122 : decode cX7_border 122 = .ok (.if_icmp .ne 12, 3) := by decide +kernel
theorem dX7_border_125 : decode cX7_border 125 = .ok (.aload_n 0, 1) := by decide +kernel
theorem dX7_border_126 : decode cX7_border 126 = .ok (.getfield 26, 3) := by decide +kernel
theorem dX7_border_129 : decode cX7_border 129 = .ok (.iload_n 1, 1) := by decide +kernel
theorem dX7_border_130 : decode cX7_border 130 = .ok (.iaload, 1) := by decide +kernel
theorem dX7_border_131 : decode cX7_border 131 = .ok (.goto 9, 3) := by decide +kernel
theorem dX7_border_134 : decode cX7_border 134 = .ok (.aload_n 0, 1) := by decide +kernel
theorem dX7_border_135 : decode cX7_border 135 = .ok (.getfield 65, 3) := by decide +kernel
theorem dX7_border_138 : decode cX7_border 138 = .ok (.iload_n 1, 1) := by decide +kernel
theorem dX7_border_139 : decode cX7_border 139 = .ok (.iaload, 1) := by decide +kernel
theorem dX7_border_140 : decode cX7_border 140 = .ok (.ireturn, 1) := by decide +kernel
set_option maxRecDepth 20000 in
theorem ggX7_areGroynes_X7_isInner : GoodIn wsX7_areGroynes wsX7_isInner := goodIn_r _ [6, 7, 8, 9, 5, 10, 11, 12, 13, 14, 15, 16, 17, 18, 19, 20, 21, 22, 23, 24, 25, 26, 27, 28, 29, 30, 31, 32, 33, 34, 35, 36, 37, 38, 39, 40, 41, 42, 43, 44, 45, 46, 47] (by decide +kernel) (by decide +kernel)
set_option maxRecDepth 20000 in
theorem gX7_areGroynes_X7_isInner : GoodIn wsX7_areGroynes (wsV RX7 120 RX7 yX7_isInner wsX7_isInner) := goodIn_app (goodIn_of _ (by decide +kernel)) ggX7_areGroynes_X7_isInner
theorem dX7_areGroynes_0 : decode cX7_areGroynes 0 = .ok (.iconst 1, 1) := by decide +kernel
theorem dX7_areGroynes_1 : decode cX7_areGroynes 1 = .ok (.istore_n 2, 1) := by decide +kernel
theorem dX7_areGroynes_2 : decode cX7_areGroynes 2 = .ok (.iconst 0, 1) := by decide +kernel
theorem dX7_areGroynes_3 : decode cX7_areGroynes 3 = .ok (.istore_n 3, 1) := by decide +kernel
theorem dX7_areGroynes_4 : decode cX7_areGroynes 4 = .ok (.iload_n 3, 1) := by decide +kernel
theorem dX7_areGroynes_5 : decode cX7_areGroynes 5 = .ok (.bipush 32, 2) := by decide +kernel
theorem dX7_areGroynes_7 : decode cX7_areGroynes 7 = .ok (.if_icmp .ge 51, 3) := by decide +kernel
theorem dX7_areGroynes_10 : decode cX7_areGroynes 10 = .ok (.iload_n 2, 1) := by decide +kernel
theorem dX7_areGroynes_11 : decode cX7_areGroynes 11 = .ok (.ifCond .eq 39, 3) := by decide +kernel
theorem dX7_areGroynes_14 : decode cX7_areGroynes 14 = .ok (.iload_n 1, 1) := by decide +kernel
theorem dX7_areGroynes_15 : decode cX7_areGroynes 15 = .ok (.iload_n 3, 1) := by decide +kernel
theorem dX7_areGroynes_16 : decode cX7_areGroynes 16 = .ok (.ishr, 1) := by decide +kernel
theorem dX7_areGroynes_17 : decode cX7_areGroynes 17 = .ok (.iconst 1, 1) := by decide +kernel
theorem dX7_areGroynes_18 : decode cX7_areGroynes 18 = .ok (.iand, 1) := by decide +kernel
theorem dX7_areGroynes_19 : decode cX7_areGroynes 19 = .ok (.ifCond .eq 27, 3) := by decide +kernel
theorem dX7_areGroynes_22 : decode cX7_areGroynes 22 = .ok (.iload_n 3, 1) := by decide +kernel
theorem dX7_areGroynes_23 : decode cX7_areGroynes 23 = .ok (.bipush 13, 2) := by decide +kernel
theorem dX7_areGroynes_25 : decode cX7_areGroynes 25 = .ok (.if_icmp .ge 25, 3) := by decide +kernel
theorem dX7_areGroynes_28 : decode cX7_areGroynes 28 = .ok (.aload_n 0, 1) := by decide +kernel
theorem dX7_areGroynes_29 : decode cX7_areGroynes 29 = .ok (.iload_n 3, 1) := by decide +kernel
theorem dX7_areGroynes_30 : decode cX7_areGroynes 30 = .ok (.invokevirtual 120, 3) := by decide +kernel
theorem dX7_areGroynes_33 : decode cX7_areGroynes 33 = .ok (.ifCond .eq 17, 3) := by decide +kernel
theorem dX7_areGroynes_36 : decode cX7_areGroynes 36 = .ok (.aload_n 0, 1) := by decide +kernel
theorem dX7_areGroynes_37 : decode cX7_areGroynes 37 = .ok (.getfield 20, 3) := by decide +kernel
theorem dX7_areGroynes_40 : decode cX7_areGroynes 40 = .ok (.iload_n 3, 1) := by decide +kernel
theorem dX7_areGroynes_41 : decode cX7_areGroynes 41 = .ok (.iaload, 1) := by decide +kernel
theorem dX7_areGroynes_42 : decode cX7_areGroynes 42 = .ok (.iconst 1, 1) := by decide +kernel
theorem dX7_areGroynes_43 : decode cX7_areGroynes 43 = .ok (.if_icmp .ne 7, 3) := by decide +kernel
theorem dX7_areGroynes_46 : decode cX7_areGroynes 46 = .ok (.iconst 1, 1) := by decide +kernel
theorem dX7_areGroynes_47 : decode cX7_areGroynes 47 = .ok (.goto 4, 3) := by decide +kernel
theorem dX7_areGroynes_50 : decode cX7_areGroynes 50 = .ok (.iconst 0, 1) := by decide +kernel
theorem dX7_areGroynes_51 : decode cX7_areGroynes 51 = .ok (.istore_n 2, 1) := by decide +kernel
theorem dX7_areGroynes_52 : decode cX7_areGroynes 52 = .ok (.iinc 3 1, 3) := by decide +kernel
theorem dX7_areGroynes_55 : decode cX7_areGroynes 55 = .ok (.goto (-51), 3) := by decide +kernel
theorem dX7_areGroynes_58 : decode cX7_areGroynes 58 = .ok (.iload_n 2, 1) := by decide +kernel
theorem dX7_areGroynes_59 : decode cX7_areGroynes 59 = .ok (.ireturn, 1) := by decide +kernel
set_option maxRecDepth 20000 in
theorem ggX7_lineWithout_X7_runs : GoodIn wsX7_lineWithout wsX7_runs := goodIn_r _ [7, 8, 9, 10, 11, 12, 6, 13, 2, 14, 15, 16, 17, 18, 19, 20, 21, 22, 23, 24, 25, 26, 27, 28, 29, 30, 31, 32, 33, 34, 35, 36, 37, 38, 39, 40, 41, 42, 43, 44, 45, 46, 47, 48, 49, 50, 51, 52, 53, 54, 55, 56, 57, 58, 59, 60, 61, 62, 63, 64, 65, 66, 67, 68, 69, 70, 71, 72, 73, 74, 75, 76, 77, 78, 79, 80, 81, 82, 83, 84, 85, 86, 87, 88, 89, 90, 91, 92, 93, 94, 95, 96, 97, 98] (by decide +kernel) (by decide +kernel)
set_option maxRecDepth 20000 in
theorem gX7_lineWithout_X7_runs : GoodIn wsX7_lineWithout (wsV RX7 159 RX7 yX7_runs wsX7_runs) := goodIn_app (goodIn_of _ (by decide +kernel)) ggX7_lineWithout_X7_runs
theorem dX7_lineWithout_0 : decode cX7_lineWithout 0 = .ok (.aload_n 0, 1) := by decide +kernel
theorem dX7_lineWithout_1 : decode cX7_lineWithout 1 = .ok (.aload_n 0, 1) := by decide +kernel
theorem dX7_lineWithout_2 : decode cX7_lineWithout 2 = .ok (.getfield 117, 3) := by decide +kernel
theorem dX7_lineWithout_5 : decode cX7_lineWithout 5 = .ok (.iload_n 1, 1) := by decide +kernel
theorem dX7_lineWithout_6 : decode cX7_lineWithout 6 = .ok (.invokevirtual 159, 3) := by decide +kernel
theorem dX7_lineWithout_9 : decode cX7_lineWithout 9 = .ok (.aload_n 0, 1) := by decide +kernel
theorem dX7_lineWithout_10 : decode cX7_lineWithout 10 = .ok (.getfield 56, 3) := by decide +kernel
theorem dX7_lineWithout_13 : decode cX7_lineWithout 13 = .ok (.iload_n 2, 1) := by decide +kernel
theorem dX7_lineWithout_14 : decode cX7_lineWithout 14 = .ok (.iaload, 1) := by decide +kernel
theorem dX7_lineWithout_15 : decode cX7_lineWithout 15 = .ok (.bipush 10, 2) := by decide +kernel
theorem dX7_lineWithout_17 : decode cX7_lineWithout 17 = .ok (.idiv, 1) := by decide +kernel
theorem dX7_lineWithout_18 : decode cX7_lineWithout 18 = .ok (.ireturn, 1) := by decide +kernel
set_option maxRecDepth 20000 in
theorem ggX7_without_X7_isField : GoodIn wsX7_without wsX7_isField := goodIn_r _ [6, 7, 8, 9, 5, 10, 82, 83, 84, 85, 86, 87, 88, 89, 90, 91, 92, 93, 94, 95, 96, 97, 98, 99, 100, 101, 102, 103, 104, 105, 106, 107, 108, 109, 110, 111, 112, 113, 114, 115, 116, 117, 118] (by decide +kernel) (by decide +kernel)
set_option maxRecDepth 20000 in
theorem gX7_without_X7_isField : GoodIn wsX7_without (wsV RX7 112 RX7 yX7_isField wsX7_isField) := goodIn_app (goodIn_of _ (by decide +kernel)) ggX7_without_X7_isField
set_option maxRecDepth 20000 in
theorem ggX7_without_X7_areGroynes : GoodIn wsX7_without wsX7_areGroynes := goodIn_r _ [14, 15, 16, 17, 18, 5, 19, 7, 8, 9, 10, 82, 83, 84, 85, 86, 87, 88, 89, 90, 91, 92, 93, 94, 95, 96, 97, 98, 99, 100, 101, 102, 103, 104, 105, 106, 107, 108, 109, 110, 111, 112, 113, 114, 115, 116, 117, 118] (by decide +kernel) (by decide +kernel)
set_option maxRecDepth 20000 in
theorem gX7_without_X7_areGroynes : GoodIn wsX7_without (wsV RX7 163 RX7 yX7_areGroynes wsX7_areGroynes) := goodIn_app (goodIn_of _ (by decide +kernel)) ggX7_without_X7_areGroynes
set_option maxRecDepth 20000 in
theorem ggX7_without_X7_lineWithout : GoodIn wsX7_without wsX7_lineWithout := goodIn_r _ [23, 24, 25, 26, 27, 28, 5, 29, 30, 31, 32, 33, 34, 35, 36, 37, 38, 39, 40, 41, 15, 42, 43, 44, 45, 46, 47, 48, 49, 50, 51, 52, 53, 54, 55, 56, 57, 58, 59, 60, 61, 7, 62, 63, 64, 65, 66, 67, 68, 69, 70, 71, 72, 73, 74, 75, 76, 77, 78, 79, 80, 81, 82, 83, 84, 85, 86, 87, 88, 89, 90, 91, 92, 93, 94, 95, 96, 97, 98, 99, 100, 101, 102, 103, 104, 105, 106, 107, 108, 109, 110, 111, 112, 113, 114, 115, 116, 117, 118] (by decide +kernel) (by decide +kernel)
set_option maxRecDepth 20000 in
theorem gX7_without_X7_lineWithout : GoodIn wsX7_without (wsV RX7 166 RX7 yX7_lineWithout wsX7_lineWithout) := goodIn_app (goodIn_of _ (by decide +kernel)) ggX7_without_X7_lineWithout
theorem dX7_without_0 : decode cX7_without 0 = .ok (.aload_n 0, 1) := by decide +kernel
theorem dX7_without_1 : decode cX7_without 1 = .ok (.iconst 0, 1) := by decide +kernel
theorem dX7_without_2 : decode cX7_without 2 = .ok (.putfield 1, 3) := by decide +kernel
theorem dX7_without_5 : decode cX7_without 5 = .ok (.aload_n 0, 1) := by decide +kernel
theorem dX7_without_6 : decode cX7_without 6 = .ok (.iload_n 2, 1) := by decide +kernel
theorem dX7_without_7 : decode cX7_without 7 = .ok (.invokevirtual 112, 3) := by decide +kernel
theorem dX7_without_10 : decode cX7_without 10 = .ok (.ifCond .eq 11, 3) := by decide +kernel
theorem dX7_without_13 : decode cX7_without 13 = .ok (.aload_n 0, 1) := by decide +kernel
theorem dX7_without_14 : decode cX7_without 14 = .ok (.iload_n 1, 1) := by decide +kernel
theorem dX7_without_15 : decode cX7_without 15 = .ok (.invokevirtual 163, 3) := by decide +kernel
theorem dX7_without_18 : decode cX7_without 18 = .ok (.ifCond .ne 7, 3) := by decide +kernel
theorem dX7_without_21 : decode cX7_without 21 = .ok (.iconst (-1), 1) := by decide +kernel
theorem dX7_without_22 : decode cX7_without 22 = .ok (.goto 9, 3) := by decide +kernel
theorem dX7_without_25 : decode cX7_without 25 = .ok (.aload_n 0, 1) := by decide +kernel
theorem dX7_without_26 : decode cX7_without 26 = .ok (.iload_n 1, 1) := by decide +kernel
theorem dX7_without_27 : decode cX7_without 27 = .ok (.iload_n 2, 1) := by decide +kernel
theorem dX7_without_28 : decode cX7_without 28 = .ok (.invokevirtual 166, 3) := by decide +kernel
theorem dX7_without_31 : decode cX7_without 31 = .ok (.ireturn, 1) := by decide +kernel
theorem dX7_bits_0 : decode cX7_bits 0 = .ok (.iconst 0, 1) := by decide +kernel
theorem dX7_bits_1 : decode cX7_bits 1 = .ok (.istore_n 1, 1) := by decide +kernel
theorem dX7_bits_2 : decode cX7_bits 2 = .ok (.iconst 0, 1) := by decide +kernel
theorem dX7_bits_3 : decode cX7_bits 3 = .ok (.istore_n 2, 1) := by decide +kernel
theorem dX7_bits_4 : decode cX7_bits 4 = .ok (.iload_n 2, 1) := by decide +kernel
theorem dX7_bits_5 : decode cX7_bits 5 = .ok (.bipush 13, 2) := by decide +kernel
theorem dX7_bits_7 : decode cX7_bits 7 = .ok (.if_icmp .ge 17, 3) := by decide +kernel
theorem dX7_bits_10 : decode cX7_bits 10 = .ok (.iload_n 1, 1) := by decide +kernel
theorem dX7_bits_11 : decode cX7_bits 11 = .ok (.iload_n 0, 1) := by decide +kernel
theorem dX7_bits_12 : decode cX7_bits 12 = .ok (.iload_n 2, 1) := by decide +kernel
theorem dX7_bits_13 : decode cX7_bits 13 = .ok (.ishr, 1) := by decide +kernel
theorem dX7_bits_14 : decode cX7_bits 14 = .ok (.iconst 1, 1) := by decide +kernel
theorem dX7_bits_15 : decode cX7_bits 15 = .ok (.iand, 1) := by decide +kernel
theorem dX7_bits_16 : decode cX7_bits 16 = .ok (.iadd, 1) := by decide +kernel
theorem dX7_bits_17 : decode cX7_bits 17 = .ok (.istore_n 1, 1) := by decide +kernel
theorem dX7_bits_18 : decode cX7_bits 18 = .ok (.iinc 2 1, 3) := by decide +kernel
theorem dX7_bits_21 : decode cX7_bits 21 = .ok (.goto (-17), 3) := by decide +kernel
theorem dX7_bits_24 : decode cX7_bits 24 = .ok (.iload_n 1, 1) := by decide +kernel
theorem dX7_bits_25 : decode cX7_bits 25 = .ok (.ireturn, 1) := by decide +kernel
theorem dX7_orders_0 : decode cX7_orders 0 = .ok (.iconst 1, 1) := by decide +kernel
theorem dX7_orders_1 : decode cX7_orders 1 = .ok (.istore_n 1, 1) := by decide +kernel
theorem dX7_orders_2 : decode cX7_orders 2 = .ok (.iconst 2, 1) := by decide +kernel
theorem dX7_orders_3 : decode cX7_orders 3 = .ok (.istore_n 2, 1) := by decide +kernel
theorem dX7_orders_4 : decode cX7_orders 4 = .ok (.iload_n 2, 1) := by decide +kernel
theorem dX7_orders_5 : decode cX7_orders 5 = .ok (.iload_n 0, 1) := by decide +kernel
theorem dX7_orders_6 : decode cX7_orders 6 = .ok (.if_icmp .gt 13, 3) := by decide +kernel
theorem dX7_orders_9 : decode cX7_orders 9 = .ok (.iload_n 1, 1) := by decide +kernel
theorem dX7_orders_10 : decode cX7_orders 10 = .ok (.iload_n 2, 1) := by decide +kernel
theorem dX7_orders_11 : decode cX7_orders 11 = .ok (.imul, 1) := by decide +kernel
theorem dX7_orders_12 : decode cX7_orders 12 = .ok (.istore_n 1, 1) := by decide +kernel
theorem dX7_orders_13 : decode cX7_orders 13 = .ok (.iinc 2 1, 3) := by decide +kernel
theorem dX7_orders_16 : decode cX7_orders 16 = .ok (.goto (-12), 3) := by decide +kernel
theorem dX7_orders_19 : decode cX7_orders 19 = .ok (.iload_n 1, 1) := by decide +kernel
theorem dX7_orders_20 : decode cX7_orders 20 = .ok (.ireturn, 1) := by decide +kernel
set_option maxRecDepth 20000 in
theorem ggX7_share_X7_isField : GoodIn wsX7_share wsX7_isField := goodIn_r _ [6, 7, 8, 9, 5, 10, 88, 89, 90, 91, 92, 93, 94, 95, 96, 97, 98, 99, 100, 101, 102, 103, 104, 105, 106, 107, 108, 109, 110, 111, 112, 113, 114, 115, 116, 117, 118, 119, 120, 121, 122, 123, 124] (by decide +kernel) (by decide +kernel)
set_option maxRecDepth 20000 in
theorem gX7_share_X7_isField : GoodIn wsX7_share (wsV RX7 112 RX7 yX7_isField wsX7_isField) := goodIn_app (goodIn_of _ (by decide +kernel)) ggX7_share_X7_isField
set_option maxRecDepth 20000 in
theorem ggX7_share_X7_areGroynes : GoodIn wsX7_share wsX7_areGroynes := goodIn_r _ [14, 15, 16, 17, 18, 5, 19, 7, 8, 9, 10, 88, 89, 90, 91, 92, 93, 94, 95, 96, 97, 98, 99, 100, 101, 102, 103, 104, 105, 106, 107, 108, 109, 110, 111, 112, 113, 114, 115, 116, 117, 118, 119, 120, 121, 122, 123, 124] (by decide +kernel) (by decide +kernel)
set_option maxRecDepth 20000 in
theorem gX7_share_X7_areGroynes : GoodIn wsX7_share (wsV RX7 163 RX7 yX7_areGroynes wsX7_areGroynes) := goodIn_app (goodIn_of _ (by decide +kernel)) ggX7_share_X7_areGroynes
set_option maxRecDepth 20000 in
theorem ggX7_share_X7_bits : GoodIn wsX7_share wsX7_bits := goodIn_r _ [22] (by decide +kernel) (by decide +kernel)
set_option maxRecDepth 20000 in
theorem gX7_share_X7_bits : GoodIn wsX7_share (va_wsS RX7 169 yX7_bits wsX7_bits) := goodIn_app (goodIn_of _ (by decide +kernel)) ggX7_share_X7_bits
set_option maxRecDepth 20000 in
theorem ggX7_share_X7_isInner : GoodIn wsX7_share wsX7_isInner := goodIn_r _ [19, 7, 8, 9, 5, 10, 88, 89, 90, 91, 92, 93, 94, 95, 96, 97, 98, 99, 100, 101, 102, 103, 104, 105, 106, 107, 108, 109, 110, 111, 112, 113, 114, 115, 116, 117, 118, 119, 120, 121, 122, 123, 124] (by decide +kernel) (by decide +kernel)
set_option maxRecDepth 20000 in
theorem gX7_share_X7_isInner : GoodIn wsX7_share (wsV RX7 120 RX7 yX7_isInner wsX7_isInner) := goodIn_app (goodIn_of _ (by decide +kernel)) ggX7_share_X7_isInner
set_option maxRecDepth 20000 in
theorem ggX7_share_X7_orders : GoodIn wsX7_share wsX7_orders := goodIn_r _ [25] (by decide +kernel) (by decide +kernel)
set_option maxRecDepth 20000 in
theorem gX7_share_X7_orders : GoodIn wsX7_share (va_wsS RX7 172 yX7_orders wsX7_orders) := goodIn_app (goodIn_of _ (by decide +kernel)) ggX7_share_X7_orders
set_option maxRecDepth 20000 in
theorem ggX7_share_X7_lineWithout : GoodIn wsX7_share wsX7_lineWithout := goodIn_r _ [29, 30, 31, 32, 33, 34, 5, 35, 36, 37, 38, 39, 40, 41, 42, 43, 44, 45, 46, 47, 15, 48, 49, 50, 51, 52, 53, 54, 55, 56, 57, 58, 59, 60, 61, 62, 63, 64, 65, 66, 67, 7, 68, 69, 70, 71, 72, 73, 74, 75, 76, 77, 78, 79, 80, 81, 82, 83, 84, 85, 86, 87, 88, 89, 90, 91, 92, 93, 94, 95, 96, 97, 98, 99, 100, 101, 102, 103, 104, 105, 106, 107, 108, 109, 110, 111, 112, 113, 114, 115, 116, 117, 118, 119, 120, 121, 122, 123, 124] (by decide +kernel) (by decide +kernel)
set_option maxRecDepth 20000 in
theorem gX7_share_X7_lineWithout : GoodIn wsX7_share (wsV RX7 166 RX7 yX7_lineWithout wsX7_lineWithout) := goodIn_app (goodIn_of _ (by decide +kernel)) ggX7_share_X7_lineWithout
theorem dX7_share_0 : decode cX7_share 0 = .ok (.aload_n 0, 1) := by decide +kernel
theorem dX7_share_1 : decode cX7_share 1 = .ok (.iload_n 3, 1) := by decide +kernel
theorem dX7_share_2 : decode cX7_share 2 = .ok (.invokevirtual 112, 3) := by decide +kernel
theorem dX7_share_5 : decode cX7_share 5 = .ok (.ifCond .eq 40, 3) := by decide +kernel
theorem dX7_share_8 : decode cX7_share 8 = .ok (.aload_n 0, 1) := by decide +kernel
theorem dX7_share_9 : decode cX7_share 9 = .ok (.iload_n 2, 1) := by decide +kernel
theorem dX7_share_10 : decode cX7_share 10 = .ok (.invokevirtual 163, 3) := by decide +kernel
theorem dX7_share_13 : decode cX7_share 13 = .ok (.ifCond .eq 32, 3) := by decide +kernel
theorem dX7_share_16 : decode cX7_share 16 = .ok (.iload_n 2, 1) := by decide +kernel
theorem dX7_share_17 : decode cX7_share 17 = .ok (.invokestatic 169, 3) := by decide +kernel
theorem dX7_share_20 : decode cX7_share 20 = .ok (.iconst 4, 1) := by decide +kernel
theorem dX7_share_21 : decode cX7_share 21 = .ok (.if_icmp .gt 24, 3) := by decide +kernel
theorem dX7_share_24 : decode cX7_share 24 = .ok (.aload_n 0, 1) := by decide +kernel
theorem dX7_share_25 : decode cX7_share 25 = .ok (.iload_n 1, 1) := by decide +kernel
theorem dX7_share_26 : decode cX7_share 26 = .ok (.invokevirtual 120, 3) := by decide +kernel
theorem dX7_share_29 : decode cX7_share 29 = .ok (.ifCond .eq 16, 3) := by decide +kernel
theorem dX7_share_32 : decode cX7_share 32 = .ok (.iload_n 2, 1) := by decide +kernel
theorem dX7_share_33 : decode cX7_share 33 = .ok (.iload_n 1, 1) := by decide +kernel
theorem dX7_share_34 : decode cX7_share 34 = .ok (.ishr, 1) := by decide +kernel
theorem dX7_share_35 : decode cX7_share 35 = .ok (.iconst 1, 1) := by decide +kernel
theorem dX7_share_36 : decode cX7_share 36 = .ok (.iand, 1) := by decide +kernel
theorem dX7_share_37 : decode cX7_share 37 = .ok (.iconst 1, 1) := by decide +kernel
theorem dX7_share_38 : decode cX7_share 38 = .ok (.if_icmp .ne 7, 3) := by decide +kernel
theorem dX7_share_41 : decode cX7_share 41 = .ok (.iconst 1, 1) := by decide +kernel
theorem dX7_share_42 : decode cX7_share 42 = .ok (.goto 4, 3) := by decide +kernel
theorem dX7_share_45 : decode cX7_share 45 = .ok (.iconst 0, 1) := by decide +kernel
theorem dX7_share_46 : decode cX7_share 46 = .ok (.istore 4, 2) := by decide +kernel
theorem dX7_share_48 : decode cX7_share 48 = .ok (.aload_n 0, 1) := by decide +kernel
theorem dX7_share_49 : decode cX7_share 49 = .ok (.iload 4, 2) := by decide +kernel
theorem dX7_share_51 : decode cX7_share 51 = .ok (.ifCond .eq 7, 3) := by decide +kernel
theorem dX7_share_54 : decode cX7_share 54 = .ok (.iconst 0, 1) := by decide +kernel
theorem dX7_share_55 : decode cX7_share 55 = .ok (.goto 4, 3) := by decide +kernel
theorem dX7_share_58 : decode cX7_share 58 = .ok (.iconst 1, 1) := by decide +kernel
theorem dX7_share_59 : decode cX7_share 59 = .ok (.putfield 1, 3) := by decide +kernel
theorem dX7_share_62 : decode cX7_share 62 = .ok (.aload_n 0, 1) := by decide +kernel
theorem dX7_share_63 : decode cX7_share 63 = .ok (.getfield 1, 3) := by decide +kernel
theorem dX7_share_66 : decode cX7_share 66 = .ok (.ifCond .le 5, 3) := by decide +kernel
theorem dX7_share_69 : decode cX7_share 69 = .ok (.iconst 0, 1) := by decide +kernel
theorem dX7_share_70 : decode cX7_share 70 = .ok (.ireturn, 1) := by decide +kernel
theorem dX7_share_71 : decode cX7_share 71 = .ok (.iconst 0, 1) := by decide +kernel
theorem dX7_share_72 : decode cX7_share 72 = .ok (.istore 5, 2) := by decide +kernel
theorem dX7_share_74 : decode cX7_share 74 = .ok (.iload_n 2, 1) := by decide +kernel
theorem dX7_share_75 : decode cX7_share 75 = .ok (.invokestatic 169, 3) := by decide +kernel
theorem dX7_share_78 : decode cX7_share 78 = .ok (.istore 6, 2) := by decide +kernel
theorem dX7_share_80 : decode cX7_share 80 = .ok (.iconst 0, 1) := by decide +kernel
theorem dX7_share_81 : decode cX7_share 81 = .ok (.istore 7, 2) := by decide +kernel
theorem dX7_share_83 : decode cX7_share 83 = .ok (.iload 7, 2) := by decide +kernel
theorem dX7_share_85 : decode cX7_share 85 = .ok (.sipush 8192, 3) := by decide +kernel
theorem dX7_share_88 : decode cX7_share 88 = .ok (.if_icmp .ge 75, 3) := by decide +kernel
theorem dX7_share_91 : decode cX7_share 91 = .ok (.iload 7, 2) := by decide +kernel
theorem dX7_share_93 : decode cX7_share 93 = .ok (.iload_n 2, 1) := by decide +kernel
theorem dX7_share_94 : decode cX7_share 94 = .ok (.iconst (-1), 1) := by decide +kernel
theorem dX7_share_95 : decode cX7_share 95 = .ok (.ixor, 1) := by decide +kernel
theorem dX7_share_96 : decode cX7_share 96 = .ok (.iand, 1) := by decide +kernel
theorem dX7_share_97 : decode cX7_share 97 = .ok (.ifCond .ne 60, 3) := by decide +kernel
theorem dX7_share_100 : decode cX7_share 100 = .ok (.iload 7, 2) := by decide +kernel
theorem dX7_share_102 : decode cX7_share 102 = .ok (.iload_n 1, 1) := by decide +kernel
theorem dX7_share_103 : decode cX7_share 103 = .ok (.ishr, 1) := by decide +kernel
theorem dX7_share_104 : decode cX7_share 104 = .ok (.iconst 1, 1) := by decide +kernel
theorem dX7_share_105 : decode cX7_share 105 = .ok (.iand, 1) := by decide +kernel
theorem dX7_share_106 : decode cX7_share 106 = .ok (.ifCond .ne 51, 3) := by decide +kernel
theorem dX7_share_109 : decode cX7_share 109 = .ok (.iload 7, 2) := by decide +kernel
theorem dX7_share_111 : decode cX7_share 111 = .ok (.invokestatic 169, 3) := by decide +kernel
theorem dX7_share_114 : decode cX7_share 114 = .ok (.istore 8, 2) := by decide +kernel
theorem dX7_share_116 : decode cX7_share 116 = .ok (.iload 5, 2) := by decide +kernel
theorem dX7_share_118 : decode cX7_share 118 = .ok (.iload 8, 2) := by decide +kernel
theorem dX7_share_120 : decode cX7_share 120 = .ok (.invokestatic 172, 3) := by decide +kernel
theorem dX7_share_123 : decode cX7_share 123 = .ok (.iload 6, 2) := by decide +kernel
theorem dX7_share_125 : decode cX7_share 125 = .ok (.iconst 1, 1) := by decide +kernel
theorem dX7_share_126 : decode cX7_share 126 = .ok (.isub, 1) := by decide +kernel
theorem dX7_share_127 : decode cX7_share 127 = .ok (.iload 8, 2) := by decide +kernel
theorem dX7_share_129 : decode cX7_share 129 = .ok (.isub, 1) := by decide +kernel
theorem dX7_share_130 : decode cX7_share 130 = .ok (.invokestatic 172, 3) := by decide +kernel
theorem dX7_share_133 : decode cX7_share 133 = .ok (.imul, 1) := by decide +kernel
theorem dX7_share_134 : decode cX7_share 134 = .ok (.aload_n 0, 1) := by decide +kernel
theorem dX7_share_135 : decode cX7_share 135 = .ok (.iload 7, 2) := by decide +kernel
theorem dX7_share_137 : decode cX7_share 137 = .ok (.iconst 1, 1) := by decide +kernel
theorem dX7_share_138 : decode cX7_share 138 = .ok (.iload_n 1, 1) := by decide +kernel
theorem dX7_share_139 : decode cX7_share 139 = .ok (.ishl, 1) := by decide +kernel
theorem dX7_share_140 : decode cX7_share 140 = .ok (.ior, 1) := by decide +kernel
theorem dX7_share_141 : decode cX7_share 141 = .ok (.iload_n 3, 1) := by decide +kernel
theorem dX7_share_142 : decode cX7_share 142 = .ok (.invokevirtual 166, 3) := by decide +kernel
theorem dX7_share_145 : decode cX7_share 145 = .ok (.aload_n 0, 1) := by decide +kernel
theorem dX7_share_146 : decode cX7_share 146 = .ok (.iload 7, 2) := by decide +kernel
theorem dX7_share_148 : decode cX7_share 148 = .ok (.iload_n 3, 1) := by decide +kernel
theorem dX7_share_149 : decode cX7_share 149 = .ok (.invokevirtual 166, 3) := by decide +kernel
theorem dX7_share_152 : decode cX7_share 152 = .ok (.isub, 1) := by decide +kernel
theorem dX7_share_153 : decode cX7_share 153 = .ok (.imul, 1) := by decide +kernel
theorem dX7_share_154 : decode cX7_share 154 = .ok (.iadd, 1) := by decide +kernel
theorem dX7_share_155 : decode cX7_share 155 = .ok (.istore 5, 2) := by decide +kernel
theorem dX7_share_157 : decode cX7_share 157 = .ok (.iinc 7 1, 3) := by decide +kernel
theorem dX7_share_160 : decode cX7_share 160 = .ok (.goto (-77), 3) := by decide +kernel
theorem dX7_share_163 : decode cX7_share 163 = .ok (.iload 5, 2) := by decide +kernel
theorem dX7_share_165 : decode cX7_share 165 = .ok (.ireturn, 1) := by decide +kernel
set_option maxRecDepth 20000 in
theorem ggX7_work_X7_isField : GoodIn wsX7_work wsX7_isField := goodIn_r _ [13, 14, 15, 16, 12, 17, 22, 23, 24, 25, 26, 27, 28, 29, 30, 31, 32, 33, 34, 35, 36, 37, 38, 39, 40, 41, 42, 43, 44, 45, 46, 47, 48, 49, 50, 51, 52, 53, 54, 55, 56, 57, 58] (by decide +kernel) (by decide +kernel)
set_option maxRecDepth 20000 in
theorem gX7_work_X7_isField : GoodIn wsX7_work (wsV RX7 112 RX7 yX7_isField wsX7_isField) := goodIn_app (goodIn_of _ (by decide +kernel)) ggX7_work_X7_isField
set_option maxRecDepth 20000 in
theorem ggX7_work_X7_within : GoodIn wsX7_work wsX7_within := goodIn_r _ [17] (by decide +kernel) (by decide +kernel)
set_option maxRecDepth 20000 in
theorem gX7_work_X7_within : GoodIn wsX7_work (va_wsS RX7 104 yX7_within wsX7_within) := goodIn_app (goodIn_of _ (by decide +kernel)) ggX7_work_X7_within
set_option maxRecDepth 20000 in
theorem ggX7_work_X7_isInner : GoodIn wsX7_work wsX7_isInner := goodIn_r _ [21, 14, 15, 16, 12, 17, 22, 23, 24, 25, 26, 27, 28, 29, 30, 31, 32, 33, 34, 35, 36, 37, 38, 39, 40, 41, 42, 43, 44, 45, 46, 47, 48, 49, 50, 51, 52, 53, 54, 55, 56, 57, 58] (by decide +kernel) (by decide +kernel)
set_option maxRecDepth 20000 in
theorem gX7_work_X7_isInner : GoodIn wsX7_work (wsV RX7 120 RX7 yX7_isInner wsX7_isInner) := goodIn_app (goodIn_of _ (by decide +kernel)) ggX7_work_X7_isInner
theorem dX7_work_0 : decode cX7_work 0 = .ok (.aload_n 0, 1) := by decide +kernel
theorem dX7_work_1 : decode cX7_work 1 = .ok (.iconst 0, 1) := by decide +kernel
theorem dX7_work_2 : decode cX7_work 2 = .ok (.putfield 1, 3) := by decide +kernel
theorem dX7_work_5 : decode cX7_work 5 = .ok (.iload_n 1, 1) := by decide +kernel
theorem dX7_work_6 : decode cX7_work 6 = .ok (.ifCond .ne 22, 3) := by decide +kernel
theorem dX7_work_9 : decode cX7_work 9 = .ok (.aload_n 0, 1) := by decide +kernel
theorem dX7_work_10 : decode cX7_work 10 = .ok (.iload_n 2, 1) := by decide +kernel
theorem dX7_work_11 : decode cX7_work 11 = .ok (.invokevirtual 112, 3) := by decide +kernel
theorem dX7_work_14 : decode cX7_work 14 = .ok (.ifCond .eq 14, 3) := by decide +kernel
theorem dX7_work_17 : decode cX7_work 17 = .ok (.iload_n 3, 1) := by decide +kernel
theorem dX7_work_18 : decode cX7_work 18 = .ok (.iconst 1, 1) := by decide +kernel
theorem dX7_work_19 : decode cX7_work 19 = .ok (.sipush 9999, 3) := by decide +kernel
theorem dX7_work_22 : decode cX7_work 22 = .ok (.invokestatic 104, 3) := by decide +kernel
theorem dX7_work_25 : decode cX7_work 25 = .ok (.ifCond .ne 37, 3) := by decide +kernel
theorem dX7_work_28 : decode cX7_work 28 = .ok (.iload_n 1, 1) := by decide +kernel
theorem dX7_work_29 : decode cX7_work 29 = .ok (.iconst 1, 1) := by decide +kernel
theorem dX7_work_30 : decode cX7_work 30 = .ok (.if_icmp .ne 36, 3) := by decide +kernel
theorem dX7_work_33 : decode cX7_work 33 = .ok (.aload_n 0, 1) := by decide +kernel
theorem dX7_work_34 : decode cX7_work 34 = .ok (.iload_n 2, 1) := by decide +kernel
theorem dX7_work_35 : decode cX7_work 35 = .ok (.invokevirtual 120, 3) := by decide +kernel
theorem dX7_work_38 : decode cX7_work 38 = .ok (.ifCond .eq 28, 3) := by decide +kernel
theorem dX7_work_41 : decode cX7_work 41 = .ok (.aload_n 0, 1) := by decide +kernel
theorem dX7_work_42 : decode cX7_work 42 = .ok (.getfield 20, 3) := by decide +kernel
theorem dX7_work_45 : decode cX7_work 45 = .ok (.iload_n 2, 1) := by decide +kernel
theorem dX7_work_46 : decode cX7_work 46 = .ok (.iaload, 1) := by decide +kernel
theorem dX7_work_47 : decode cX7_work 47 = .ok (.iconst 1, 1) := by decide +kernel
theorem dX7_work_48 : decode cX7_work 48 = .ok (.if_icmp .ne 18, 3) := by decide +kernel
theorem dX7_work_51 : decode cX7_work 51 = .ok (.iload_n 3, 1) := by decide +kernel
theorem dX7_work_52 : decode cX7_work 52 = .ok (.iconst 1, 1) := by decide +kernel
theorem dX7_work_53 : decode cX7_work 53 = .ok (.sipush 999, 3) := by decide +kernel
theorem dX7_work_56 : decode cX7_work 56 = .ok (.invokestatic 104, 3) := by decide +kernel
theorem dX7_work_59 : decode cX7_work 59 = .ok (.ifCond .eq 7, 3) := by decide +kernel
theorem dX7_work_62 : decode cX7_work 62 = .ok (.iconst 1, 1) := by decide +kernel
theorem dX7_work_63 : decode cX7_work 63 = .ok (.goto 4, 3) := by decide +kernel
theorem dX7_work_66 : decode cX7_work 66 = .ok (.iconst 0, 1) := by decide +kernel
theorem dX7_work_67 : decode cX7_work 67 = .ok (.istore 5, 2) := by decide +kernel
theorem dX7_work_69 : decode cX7_work 69 = .ok (.iload 5, 2) := by decide +kernel
theorem dX7_work_71 : decode cX7_work 71 = .ok (.ifCond .eq 24, 3) := by decide +kernel
theorem dX7_work_74 : decode cX7_work 74 = .ok (.iload 4, 2) := by decide +kernel
theorem dX7_work_76 : decode cX7_work 76 = .ok (.iconst 1, 1) := by decide +kernel
theorem dX7_work_77 : decode cX7_work 77 = .ok (.sipush 999, 3) := by decide +kernel
theorem dX7_work_80 : decode cX7_work 80 = .ok (.invokestatic 104, 3) := by decide +kernel
theorem dX7_work_83 : decode cX7_work 83 = .ok (.ifCond .eq 12, 3) := by decide +kernel
theorem dX7_work_86 : decode cX7_work 86 = .ok (.aload_n 0, 1) := by decide +kernel
theorem dX7_work_87 : decode cX7_work 87 = .ok (.getfield 175, 3) := by decide +kernel
theorem dX7_work_90 : decode cX7_work 90 = .ok (.bipush 6, 2) := by decide +kernel
theorem dX7_work_92 : decode cX7_work 92 = .ok (.if_icmp .ne 5, 3) := by decide +kernel
theorem dX7_work_95 : decode cX7_work 95 = .ok (.iconst (-1), 1) := by decide +kernel
theorem dX7_work_96 : decode cX7_work 96 = .ok (.ireturn, 1) := by decide +kernel
theorem dX7_work_97 : decode cX7_work 97 = .ok (.aload_n 0, 1) := by decide +kernel
theorem dX7_work_98 : decode cX7_work 98 = .ok (.getfield 77, 3) := by decide +kernel
theorem dX7_work_101 : decode cX7_work 101 = .ok (.aload_n 0, 1) := by decide +kernel
theorem dX7_work_102 : decode cX7_work 102 = .ok (.getfield 175, 3) := by decide +kernel
theorem dX7_work_105 : decode cX7_work 105 = .ok (.iload_n 1, 1) := by decide +kernel
theorem dX7_work_106 : decode cX7_work 106 = .ok (.iastore, 1) := by decide +kernel
theorem dX7_work_107 : decode cX7_work 107 = .ok (.aload_n 0, 1) := by decide +kernel
theorem dX7_work_108 : decode cX7_work 108 = .ok (.getfield 80, 3) := by decide +kernel
theorem dX7_work_111 : decode cX7_work 111 = .ok (.aload_n 0, 1) := by decide +kernel
theorem dX7_work_112 : decode cX7_work 112 = .ok (.getfield 175, 3) := by decide +kernel
theorem dX7_work_115 : decode cX7_work 115 = .ok (.iload_n 2, 1) := by decide +kernel
theorem dX7_work_116 : decode cX7_work 116 = .ok (.iastore, 1) := by decide +kernel
theorem dX7_work_117 : decode cX7_work 117 = .ok (.aload_n 0, 1) := by decide +kernel
theorem dX7_work_118 : decode cX7_work 118 = .ok (.getfield 83, 3) := by decide +kernel
theorem dX7_work_121 : decode cX7_work 121 = .ok (.aload_n 0, 1) := by decide +kernel
theorem dX7_work_122 : decode cX7_work 122 = .ok (.getfield 175, 3) := by decide +kernel
theorem dX7_work_125 : decode cX7_work 125 = .ok (.iload_n 3, 1) := by decide +kernel
theorem dX7_work_126 : decode cX7_work 126 = .ok (.iastore, 1) := by decide +kernel
theorem dX7_work_127 : decode cX7_work 127 = .ok (.aload_n 0, 1) := by decide +kernel
theorem dX7_work_128 : decode cX7_work 128 = .ok (.getfield 86, 3) := by decide +kernel
theorem dX7_work_131 : decode cX7_work 131 = .ok (.aload_n 0, 1) := by decide +kernel
theorem dX7_work_132 : decode cX7_work 132 = .ok (.getfield 175, 3) := by decide +kernel
theorem dX7_work_135 : decode cX7_work 135 = .ok (.iload 4, 2) := by decide +kernel
theorem dX7_work_137 : decode cX7_work 137 = .ok (.iastore, 1) := by decide +kernel
theorem dX7_work_138 : decode cX7_work 138 = .ok (.aload_n 0, 1) := by decide +kernel
theorem dX7_work_139 : decode cX7_work 139 = .ok (.dup, 1) := by decide +kernel
theorem dX7_work_140 : decode cX7_work 140 = .ok (.getfield 175, 3) := by decide +kernel
theorem dX7_work_143 : decode cX7_work 143 = .ok (.iconst 1, 1) := by decide +kernel
theorem dX7_work_144 : decode cX7_work 144 = .ok (.iadd, 1) := by decide +kernel
theorem dX7_work_145 : decode cX7_work 145 = .ok (.putfield 175, 3) := by decide +kernel
theorem dX7_work_148 : decode cX7_work 148 = .ok (.aload_n 0, 1) := by decide +kernel
theorem dX7_work_149 : decode cX7_work 149 = .ok (.iconst 1, 1) := by decide +kernel
theorem dX7_work_150 : decode cX7_work 150 = .ok (.putfield 108, 3) := by decide +kernel
theorem dX7_work_153 : decode cX7_work 153 = .ok (.aload_n 0, 1) := by decide +kernel
theorem dX7_work_154 : decode cX7_work 154 = .ok (.getfield 175, 3) := by decide +kernel
theorem dX7_work_157 : decode cX7_work 157 = .ok (.iconst 1, 1) := by decide +kernel
theorem dX7_work_158 : decode cX7_work 158 = .ok (.isub, 1) := by decide +kernel
theorem dX7_work_159 : decode cX7_work 159 = .ok (.ireturn, 1) := by decide +kernel
set_option maxRecDepth 20000 in
theorem ggX7_mark_X7_isField : GoodIn wsX7_mark wsX7_isField := goodIn_r _ [8, 9, 10, 11, 7, 12, 13, 14, 15, 16, 17, 18, 19, 20, 21, 22, 23, 24, 25, 26, 27, 28, 29, 30, 31, 32, 33, 34, 35, 36, 37, 38, 39, 40, 41, 42, 43, 44, 45, 46, 47, 48, 49] (by decide +kernel) (by decide +kernel)
set_option maxRecDepth 20000 in
theorem gX7_mark_X7_isField : GoodIn wsX7_mark (wsV RX7 112 RX7 yX7_isField wsX7_isField) := goodIn_app (goodIn_of _ (by decide +kernel)) ggX7_mark_X7_isField
set_option maxRecDepth 20000 in
theorem ggX7_mark_X7_within : GoodIn wsX7_mark wsX7_within := goodIn_r _ [12] (by decide +kernel) (by decide +kernel)
set_option maxRecDepth 20000 in
theorem gX7_mark_X7_within : GoodIn wsX7_mark (va_wsS RX7 104 yX7_within wsX7_within) := goodIn_app (goodIn_of _ (by decide +kernel)) ggX7_mark_X7_within
theorem dX7_mark_0 : decode cX7_mark 0 = .ok (.aload_n 0, 1) := by decide +kernel
theorem dX7_mark_1 : decode cX7_mark 1 = .ok (.iconst 0, 1) := by decide +kernel
theorem dX7_mark_2 : decode cX7_mark 2 = .ok (.putfield 1, 3) := by decide +kernel
theorem dX7_mark_5 : decode cX7_mark 5 = .ok (.aload_n 0, 1) := by decide +kernel
theorem dX7_mark_6 : decode cX7_mark 6 = .ok (.iload_n 1, 1) := by decide +kernel
theorem dX7_mark_7 : decode cX7_mark 7 = .ok (.invokevirtual 112, 3) := by decide +kernel
theorem dX7_mark_10 : decode cX7_mark 10 = .ok (.ifCond .eq 14, 3) := by decide +kernel
theorem dX7_mark_13 : decode cX7_mark 13 = .ok (.iload_n 2, 1) := by decide +kernel
theorem dX7_mark_14 : decode cX7_mark 14 = .ok (.iconst 0, 1) := by decide +kernel
theorem dX7_mark_15 : decode cX7_mark 15 = .ok (.sipush 9999, 3) := by decide +kernel
theorem dX7_mark_18 : decode cX7_mark 18 = .ok (.invokestatic 104, 3) := by decide +kernel
theorem dX7_mark_21 : decode cX7_mark 21 = .ok (.ifCond .ne 5, 3) := by decide +kernel
theorem dX7_mark_24 : decode cX7_mark 24 = .ok (.iconst 0, 1) := by decide +kernel
theorem dX7_mark_25 : decode cX7_mark 25 = .ok (.ireturn, 1) := by decide +kernel
theorem dX7_mark_26 : decode cX7_mark 26 = .ok (.aload_n 0, 1) := by decide +kernel
theorem dX7_mark_27 : decode cX7_mark 27 = .ok (.getfield 89, 3) := by decide +kernel
theorem dX7_mark_30 : decode cX7_mark 30 = .ok (.iload_n 1, 1) := by decide +kernel
theorem dX7_mark_31 : decode cX7_mark 31 = .ok (.iload_n 2, 1) := by decide +kernel
theorem dX7_mark_32 : decode cX7_mark 32 = .ok (.iastore, 1) := by decide +kernel
theorem dX7_mark_33 : decode cX7_mark 33 = .ok (.aload_n 0, 1) := by decide +kernel
theorem dX7_mark_34 : decode cX7_mark 34 = .ok (.iconst 1, 1) := by decide +kernel
theorem dX7_mark_35 : decode cX7_mark 35 = .ok (.putfield 108, 3) := by decide +kernel
theorem dX7_mark_38 : decode cX7_mark 38 = .ok (.iconst 1, 1) := by decide +kernel
theorem dX7_mark_39 : decode cX7_mark 39 = .ok (.ireturn, 1) := by decide +kernel
set_option maxRecDepth 20000 in
theorem ggX7_keeps_X7_begins : GoodIn wsX7_keeps wsX7_begins := goodIn_r _ [16, 10, 17, 18, 19, 20, 21, 5, 22, 23, 63, 64, 65, 66, 67, 68, 69, 70, 71, 72, 73, 74, 75, 76, 77, 78, 79, 80, 81, 82, 83, 84, 85, 86, 87, 88, 89, 90, 91, 92, 93, 94, 95, 96, 97, 98, 99] (by decide +kernel) (by decide +kernel)
set_option maxRecDepth 20000 in
theorem gX7_keeps_X7_begins : GoodIn wsX7_keeps (wsV RX7 146 RX7 yX7_begins wsX7_begins) := goodIn_app (goodIn_of _ (by decide +kernel)) ggX7_keeps_X7_begins
set_option maxRecDepth 20000 in
theorem ggX7_keeps_X7_brings : GoodIn wsX7_keeps wsX7_brings := goodIn_r _ [27, 10, 28, 63, 64, 65, 66, 67, 68, 69, 70, 71, 72, 73, 74, 75, 76, 77, 78, 79, 80, 81, 82, 83, 84, 85, 86, 87, 88, 89, 90, 91, 92, 93, 94, 95, 96, 97, 98, 99] (by decide +kernel) (by decide +kernel)
set_option maxRecDepth 20000 in
theorem gX7_keeps_X7_brings : GoodIn wsX7_keeps (wsV RX7 138 RX7 yX7_brings wsX7_brings) := goodIn_app (goodIn_of _ (by decide +kernel)) ggX7_keeps_X7_brings
set_option maxRecDepth 20000 in
theorem ggX7_keeps_X7_dredged : GoodIn wsX7_keeps wsX7_dredged := goodIn_r _ [32, 33, 34, 35, 20, 36, 24, 25, 26, 15, 27, 10, 28, 63, 64, 65, 66, 67, 68, 69, 70, 71, 72, 73, 74, 75, 76, 77, 78, 79, 80, 81, 82, 83, 84, 85, 86, 87, 88, 89, 90, 91, 92, 93, 94, 95, 96, 97, 98, 99] (by decide +kernel) (by decide +kernel)
set_option maxRecDepth 20000 in
theorem gX7_keeps_X7_dredged : GoodIn wsX7_keeps (wsV RX7 153 RX7 yX7_dredged wsX7_dredged) := goodIn_app (goodIn_of _ (by decide +kernel)) ggX7_keeps_X7_dredged
set_option maxRecDepth 20000 in
theorem ggX7_keeps_X7_week : GoodIn wsX7_keeps wsX7_week := goodIn_r _ [40, 41, 21, 42, 9, 10, 18, 43, 44, 45, 15, 46, 47, 22, 48, 20, 49, 50, 51, 52, 53, 5, 54, 55, 56, 57, 19, 58, 59, 60, 61, 62, 24, 25, 26, 27, 28, 63, 64, 65, 66, 67, 68, 69, 70, 71, 72, 73, 74, 75, 76, 77, 78, 79, 80, 81, 82, 83, 84, 85, 86, 87, 88, 89, 90, 91, 92, 93, 94, 95, 96, 97, 98, 99] (by decide +kernel) (by decide +kernel)
set_option maxRecDepth 20000 in
theorem gX7_keeps_X7_week : GoodIn wsX7_keeps (wsV RX7 156 RX7 yX7_week wsX7_week) := goodIn_app (goodIn_of _ (by decide +kernel)) ggX7_keeps_X7_week
theorem dX7_keeps_0 : decode cX7_keeps 0 = .ok (.aload_n 0, 1) := by decide +kernel
theorem dX7_keeps_1 : decode cX7_keeps 1 = .ok (.iconst 0, 1) := by decide +kernel
theorem dX7_keeps_2 : decode cX7_keeps 2 = .ok (.invokevirtual 146, 3) := by decide +kernel
theorem dX7_keeps_5 : decode cX7_keeps 5 = .ok (.iconst 0, 1) := by decide +kernel
theorem dX7_keeps_6 : decode cX7_keeps 6 = .ok (.istore_n 2, 1) := by decide +kernel
theorem dX7_keeps_7 : decode cX7_keeps 7 = .ok (.iload_n 2, 1) := by decide +kernel
theorem dX7_keeps_8 : decode cX7_keeps 8 = .ok (.aload_n 0, 1) := by decide +kernel
theorem dX7_keeps_9 : decode cX7_keeps 9 = .ok (.getfield 175, 3) := by decide +kernel
theorem dX7_keeps_12 : decode cX7_keeps 12 = .ok (.if_icmp .ge 77, 3) := by decide +kernel
theorem dX7_keeps_15 : decode cX7_keeps 15 = .ok (.iload_n 1, 1) := by decide +kernel
theorem dX7_keeps_16 : decode cX7_keeps 16 = .ok (.iload_n 2, 1) := by decide +kernel
theorem dX7_keeps_17 : decode cX7_keeps 17 = .ok (.ishr, 1) := by decide +kernel
theorem dX7_keeps_18 : decode cX7_keeps 18 = .ok (.iconst 1, 1) := by decide +kernel
theorem dX7_keeps_19 : decode cX7_keeps 19 = .ok (.iand, 1) := by decide +kernel
theorem dX7_keeps_20 : decode cX7_keeps 20 = .ok (.iconst 1, 1) := by decide +kernel
theorem dX7_keeps_21 : decode cX7_keeps 21 = .ok (.if_icmp .ne 62, 3) := by decide +kernel
theorem dX7_keeps_24 : decode cX7_keeps 24 = .ok (.aload_n 0, 1) := by decide +kernel
theorem dX7_keeps_25 : decode cX7_keeps 25 = .ok (.getfield 77, 3) := by decide +kernel
theorem dX7_keeps_28 : decode cX7_keeps 28 = .ok (.iload_n 2, 1) := by decide +kernel
theorem dX7_keeps_29 : decode cX7_keeps 29 = .ok (.iaload, 1) := by decide +kernel
theorem dX7_keeps_30 : decode cX7_keeps 30 = .ok (.ifCond .ne 22, 3) := by decide +kernel
theorem dX7_keeps_33 : decode cX7_keeps 33 = .ok (.aload_n 0, 1) := by decide +kernel
theorem dX7_keeps_34 : decode cX7_keeps 34 = .ok (.aload_n 0, 1) := by decide +kernel
theorem dX7_keeps_35 : decode cX7_keeps 35 = .ok (.getfield 80, 3) := by decide +kernel
theorem dX7_keeps_38 : decode cX7_keeps 38 = .ok (.iload_n 2, 1) := by decide +kernel
theorem dX7_keeps_39 : decode cX7_keeps 39 = .ok (.iaload, 1) := by decide +kernel
theorem dX7_keeps_40 : decode cX7_keeps 40 = .ok (.aload_n 0, 1) := by decide +kernel
theorem dX7_keeps_41 : decode cX7_keeps 41 = .ok (.getfield 83, 3) := by decide +kernel
theorem dX7_keeps_44 : decode cX7_keeps 44 = .ok (.iload_n 2, 1) := by decide +kernel
theorem dX7_keeps_45 : decode cX7_keeps 45 = .ok (.iaload, 1) := by decide +kernel
theorem dX7_keeps_46 : decode cX7_keeps 46 = .ok (.invokevirtual 138, 3) := by decide +kernel
theorem dX7_keeps_49 : decode cX7_keeps 49 = .ok (.goto 34, 3) := by decide +kernel
theorem dX7_keeps_52 : decode cX7_keeps 52 = .ok (.aload_n 0, 1) := by decide +kernel
theorem dX7_keeps_53 : decode cX7_keeps 53 = .ok (.getfield 71, 3) := by decide +kernel
theorem dX7_keeps_56 : decode cX7_keeps 56 = .ok (.aload_n 0, 1) := by decide +kernel
theorem dX7_keeps_57 : decode cX7_keeps 57 = .ok (.getfield 80, 3) := by decide +kernel
theorem dX7_keeps_60 : decode cX7_keeps 60 = .ok (.iload_n 2, 1) := by decide +kernel
theorem dX7_keeps_61 : decode cX7_keeps 61 = .ok (.iaload, 1) := by decide +kernel
theorem dX7_keeps_62 : decode cX7_keeps 62 = .ok (.iaload, 1) := by decide +kernel
theorem dX7_keeps_63 : decode cX7_keeps 63 = .ok (.ifCond .le 20, 3) := by decide +kernel
theorem dX7_keeps_66 : decode cX7_keeps 66 = .ok (.aload_n 0, 1) := by decide +kernel
theorem dX7_keeps_67 : decode cX7_keeps 67 = .ok (.getfield 71, 3) := by decide +kernel
theorem dX7_keeps_70 : decode cX7_keeps 70 = .ok (.aload_n 0, 1) := by decide +kernel
theorem dX7_keeps_71 : decode cX7_keeps 71 = .ok (.getfield 80, 3) := by decide +kernel
theorem dX7_keeps_74 : decode cX7_keeps 74 = .ok (.iload_n 2, 1) := by decide +kernel
theorem dX7_keeps_75 : decode cX7_keeps 75 = .ok (.iaload, 1) := by decide +kernel
theorem dX7_keeps_76 : decode cX7_keeps 76 = .ok (.aload_n 0, 1) := by decide +kernel
theorem dX7_keeps_77 : decode cX7_keeps 77 = .ok (.getfield 83, 3) := by decide +kernel
theorem dX7_keeps_80 : decode cX7_keeps 80 = .ok (.iload_n 2, 1) := by decide +kernel
theorem dX7_keeps_81 : decode cX7_keeps 81 = .ok (.iaload, 1) := by decide +kernel
theorem dX7_keeps_82 : decode cX7_keeps 82 = .ok (.iastore, 1) := by decide +kernel
theorem dX7_keeps_83 : decode cX7_keeps 83 = .ok (.iinc 2 1, 3) := by decide +kernel
theorem dX7_keeps_86 : decode cX7_keeps 86 = .ok (.goto (-79), 3) := by decide +kernel
theorem dX7_keeps_89 : decode cX7_keeps 89 = .ok (.aload_n 0, 1) := by decide +kernel
theorem dX7_keeps_90 : decode cX7_keeps 90 = .ok (.iconst 0, 1) := by decide +kernel
theorem dX7_keeps_91 : decode cX7_keeps 91 = .ok (.aload_n 0, 1) := by decide +kernel
theorem dX7_keeps_92 : decode cX7_keeps 92 = .ok (.getfield 150, 3) := by decide +kernel
theorem dX7_keeps_95 : decode cX7_keeps 95 = .ok (.invokevirtual 153, 3) := by decide +kernel
theorem dX7_keeps_98 : decode cX7_keeps 98 = .ok (.iconst 1, 1) := by decide +kernel
theorem dX7_keeps_99 : decode cX7_keeps 99 = .ok (.istore_n 2, 1) := by decide +kernel
theorem dX7_keeps_100 : decode cX7_keeps 100 = .ok (.iconst 0, 1) := by decide +kernel
theorem dX7_keeps_101 : decode cX7_keeps 101 = .ok (.istore_n 3, 1) := by decide +kernel
theorem dX7_keeps_102 : decode cX7_keeps 102 = .ok (.iload_n 3, 1) := by decide +kernel
theorem dX7_keeps_103 : decode cX7_keeps 103 = .ok (.aload_n 0, 1) := by decide +kernel
theorem dX7_keeps_104 : decode cX7_keeps 104 = .ok (.getfield 123, 3) := by decide +kernel
theorem dX7_keeps_107 : decode cX7_keeps 107 = .ok (.if_icmp .ge 81, 3) := by decide +kernel
theorem dX7_keeps_110 : decode cX7_keeps 110 = .ok (.iload_n 2, 1) := by decide +kernel
theorem dX7_keeps_111 : decode cX7_keeps 111 = .ok (.ifCond .eq 77, 3) := by decide +kernel
theorem dX7_keeps_114 : decode cX7_keeps 114 = .ok (.aload_n 0, 1) := by decide +kernel
theorem dX7_keeps_115 : decode cX7_keeps 115 = .ok (.iload_n 3, 1) := by decide +kernel
theorem dX7_keeps_116 : decode cX7_keeps 116 = .ok (.aload_n 0, 1) := by decide +kernel
theorem dX7_keeps_117 : decode cX7_keeps 117 = .ok (.getfield 35, 3) := by decide +kernel
theorem dX7_keeps_120 : decode cX7_keeps 120 = .ok (.invokevirtual 156, 3) := by decide +kernel
theorem dX7_keeps_123 : decode cX7_keeps 123 = .ok (.aload_n 0, 1) := by decide +kernel
theorem dX7_keeps_124 : decode cX7_keeps 124 = .ok (.iload_n 3, 1) := by decide +kernel
theorem dX7_keeps_125 : decode cX7_keeps 125 = .ok (.iconst 1, 1) := by decide +kernel
theorem dX7_keeps_126 : decode cX7_keeps 126 = .ok (.iadd, 1) := by decide +kernel
theorem dX7_keeps_127 : decode cX7_keeps 127 = .ok (.aload_n 0, 1) := by decide +kernel
theorem dX7_keeps_128 : decode cX7_keeps 128 = .ok (.getfield 150, 3) := by decide +kernel
theorem dX7_keeps_131 : decode cX7_keeps 131 = .ok (.invokevirtual 153, 3) := by decide +kernel
theorem dX7_keeps_134 : decode cX7_keeps 134 = .ok (.iconst 0, 1) := by decide +kernel
theorem dX7_keeps_135 : decode cX7_keeps 135 = .ok (.istore 4, 2) := by decide +kernel
theorem dX7_keeps_137 : decode cX7_keeps 137 = .ok (.iload 4, 2) := by decide +kernel
theorem dX7_keeps_139 : decode cX7_keeps 139 = .ok (.aload_n 0, 1) := by decide +kernel
theorem dX7_keeps_140 : decode cX7_keeps 140 = .ok (.getfield 13, 3) := by decide +kernel
theorem dX7_keeps_143 : decode cX7_keeps 143 = .ok (.if_icmp .ge 39, 3) := by decide +kernel
theorem dX7_keeps_146 : decode cX7_keeps 146 = .ok (.iload_n 2, 1) := by decide +kernel
theorem dX7_keeps_147 : decode cX7_keeps 147 = .ok (.ifCond .eq 27, 3) := by decide +kernel
theorem dX7_keeps_150 : decode cX7_keeps 150 = .ok (.aload_n 0, 1) := by decide +kernel
theorem dX7_keeps_151 : decode cX7_keeps 151 = .ok (.getfield 56, 3) := by decide +kernel
theorem dX7_keeps_154 : decode cX7_keeps 154 = .ok (.iload 4, 2) := by decide +kernel
theorem dX7_keeps_156 : decode cX7_keeps 156 = .ok (.iaload, 1) := by decide +kernel
theorem dX7_keeps_157 : decode cX7_keeps 157 = .ok (.bipush 10, 2) := by decide +kernel
theorem dX7_keeps_159 : decode cX7_keeps 159 = .ok (.idiv, 1) := by decide +kernel
theorem dX7_keeps_160 : decode cX7_keeps 160 = .ok (.aload_n 0, 1) := by decide +kernel
theorem dX7_keeps_161 : decode cX7_keeps 161 = .ok (.getfield 89, 3) := by decide +kernel
theorem dX7_keeps_164 : decode cX7_keeps 164 = .ok (.iload 4, 2) := by decide +kernel
theorem dX7_keeps_166 : decode cX7_keeps 166 = .ok (.iaload, 1) := by decide +kernel
theorem dX7_keeps_167 : decode cX7_keeps 167 = .ok (.if_icmp .lt 7, 3) := by decide +kernel
theorem dX7_keeps_170 : decode cX7_keeps 170 = .ok (.iconst 1, 1) := by decide +kernel
theorem dX7_keeps_171 : decode cX7_keeps 171 = .ok (.goto 4, 3) := by decide +kernel
theorem dX7_keeps_174 : decode cX7_keeps 174 = .ok (.iconst 0, 1) := by decide +kernel
theorem dX7_keeps_175 : decode cX7_keeps 175 = .ok (.istore_n 2, 1) := by decide +kernel
theorem dX7_keeps_176 : decode cX7_keeps 176 = .ok (.iinc 4 1, 3) := by decide +kernel
theorem dX7_keeps_179 : decode cX7_keeps 179 = .ok (.goto (-42), 3) := by decide +kernel
theorem dX7_keeps_182 : decode cX7_keeps 182 = .ok (.iinc 3 1, 3) := by decide +kernel
theorem dX7_keeps_185 : decode cX7_keeps 185 = .ok (.goto (-83), 3) := by decide +kernel
theorem dX7_keeps_188 : decode cX7_keeps 188 = .ok (.iload_n 2, 1) := by decide +kernel
theorem dX7_keeps_189 : decode cX7_keeps 189 = .ok (.ireturn, 1) := by decide +kernel
set_option maxRecDepth 20000 in
theorem ggX7_works_X7_keeps : GoodIn wsX7_works wsX7_keeps := goodIn_r _ [8, 2, 9, 10, 11, 12, 13, 14, 15, 16, 17, 18, 19, 20, 21, 7, 22, 23, 24, 25, 26, 27, 28, 29, 30, 31, 32, 33, 34, 35, 36, 37, 38, 39, 40, 41, 42, 43, 44, 45, 46, 47, 48, 49, 50, 51, 52, 53, 54, 55, 56, 57, 58, 59, 60, 61, 62, 63, 64, 65, 66, 67, 68, 69, 70, 71, 72, 73, 74, 75, 76, 77, 78, 79, 80, 81, 82, 83, 84, 85, 86, 87, 88, 89, 90, 91, 92, 93, 94, 95, 96, 97, 98, 99, 100, 101, 102, 103, 104, 105] (by decide +kernel) (by decide +kernel)
set_option maxRecDepth 20000 in
theorem gX7_works_X7_keeps : GoodIn wsX7_works (wsV RX7 178 RX7 yX7_keeps wsX7_keeps) := goodIn_app (goodIn_of _ (by decide +kernel)) ggX7_works_X7_keeps
theorem dX7_works_0 : decode cX7_works 0 = .ok (.aload_n 0, 1) := by decide +kernel
theorem dX7_works_1 : decode cX7_works 1 = .ok (.iconst 0, 1) := by decide +kernel
theorem dX7_works_2 : decode cX7_works 2 = .ok (.putfield 1, 3) := by decide +kernel
theorem dX7_works_5 : decode cX7_works 5 = .ok (.iconst (-1), 1) := by decide +kernel
theorem dX7_works_6 : decode cX7_works 6 = .ok (.istore_n 1, 1) := by decide +kernel
theorem dX7_works_7 : decode cX7_works 7 = .ok (.iconst 0, 1) := by decide +kernel
theorem dX7_works_8 : decode cX7_works 8 = .ok (.istore_n 2, 1) := by decide +kernel
theorem dX7_works_9 : decode cX7_works 9 = .ok (.iconst 0, 1) := by decide +kernel
theorem dX7_works_10 : decode cX7_works 10 = .ok (.istore_n 3, 1) := by decide +kernel
theorem dX7_works_11 : decode cX7_works 11 = .ok (.iload_n 3, 1) := by decide +kernel
theorem dX7_works_12 : decode cX7_works 12 = .ok (.iconst 1, 1) := by decide +kernel
theorem dX7_works_13 : decode cX7_works 13 = .ok (.aload_n 0, 1) := by decide +kernel
theorem dX7_works_14 : decode cX7_works 14 = .ok (.getfield 175, 3) := by decide +kernel
theorem dX7_works_17 : decode cX7_works 17 = .ok (.ishl, 1) := by decide +kernel
theorem dX7_works_18 : decode cX7_works 18 = .ok (.if_icmp .ge 79, 3) := by decide +kernel
theorem dX7_works_21 : decode cX7_works 21 = .ok (.iconst 0, 1) := by decide +kernel
theorem dX7_works_22 : decode cX7_works 22 = .ok (.istore 4, 2) := by decide +kernel
theorem dX7_works_24 : decode cX7_works 24 = .ok (.iconst 0, 1) := by decide +kernel
theorem dX7_works_25 : decode cX7_works 25 = .ok (.istore 5, 2) := by decide +kernel
theorem dX7_works_27 : decode cX7_works 27 = .ok (.iload 5, 2) := by decide +kernel
theorem dX7_works_29 : decode cX7_works 29 = .ok (.aload_n 0, 1) := by decide +kernel
theorem dX7_works_30 : decode cX7_works 30 = .ok (.getfield 175, 3) := by decide +kernel
theorem dX7_works_33 : decode cX7_works 33 = .ok (.if_icmp .ge 35, 3) := by decide +kernel
theorem dX7_works_36 : decode cX7_works 36 = .ok (.iload 4, 2) := by decide +kernel
theorem dX7_works_38 : decode cX7_works 38 = .ok (.iload_n 3, 1) := by decide +kernel
theorem dX7_works_39 : decode cX7_works 39 = .ok (.iload 5, 2) := by decide +kernel
theorem dX7_works_41 : decode cX7_works 41 = .ok (.ishr, 1) := by decide +kernel
theorem dX7_works_42 : decode cX7_works 42 = .ok (.iconst 1, 1) := by decide +kernel
theorem dX7_works_43 : decode cX7_works 43 = .ok (.iand, 1) := by decide +kernel
theorem dX7_works_44 : decode cX7_works 44 = .ok (.iconst 1, 1) := by decide +kernel
theorem dX7_works_45 : decode cX7_works 45 = .ok (.if_icmp .ne 13, 3) := by decide +kernel
theorem dX7_works_48 : decode cX7_works 48 = .ok (.aload_n 0, 1) := by decide +kernel
