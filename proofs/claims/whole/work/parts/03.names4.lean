theorem dX7_works_49 : decode cX7_works 49 = .ok (.getfield 86, 3) := by decide +kernel
theorem dX7_works_52 : decode cX7_works 52 = .ok (.iload 5, 2) := by decide +kernel
theorem dX7_works_54 : decode cX7_works 54 = .ok (.iaload, 1) := by decide +kernel
theorem dX7_works_55 : decode cX7_works 55 = .ok (.goto 4, 3) := by decide +kernel
theorem dX7_works_58 : decode cX7_works 58 = .ok (.iconst 0, 1) := by decide +kernel
theorem dX7_works_59 : decode cX7_works 59 = .ok (.iadd, 1) := by decide +kernel
theorem dX7_works_60 : decode cX7_works 60 = .ok (.istore 4, 2) := by decide +kernel
theorem dX7_works_62 : decode cX7_works 62 = .ok (.iinc 5 1, 3) := by decide +kernel
theorem dX7_works_65 : decode cX7_works 65 = .ok (.goto (-38), 3) := by decide +kernel
theorem dX7_works_68 : decode cX7_works 68 = .ok (.iload_n 1, 1) := by decide +kernel
theorem dX7_works_69 : decode cX7_works 69 = .ok (.ifCond .lt 9, 3) := by decide +kernel
theorem dX7_works_72 : decode cX7_works 72 = .ok (.iload 4, 2) := by decide +kernel
theorem dX7_works_74 : decode cX7_works 74 = .ok (.iload_n 2, 1) := by decide +kernel
theorem dX7_works_75 : decode cX7_works 75 = .ok (.if_icmp .ge 16, 3) := by decide +kernel
theorem dX7_works_78 : decode cX7_works 78 = .ok (.aload_n 0, 1) := by decide +kernel
theorem dX7_works_79 : decode cX7_works 79 = .ok (.iload_n 3, 1) := by decide +kernel
theorem dX7_works_80 : decode cX7_works 80 = .ok (.invokevirtual 178, 3) := by decide +kernel
theorem dX7_works_83 : decode cX7_works 83 = .ok (.ifCond .eq 8, 3) := by decide +kernel
theorem dX7_works_86 : decode cX7_works 86 = .ok (.iload_n 3, 1) := by decide +kernel
theorem dX7_works_87 : decode cX7_works 87 = .ok (.istore_n 1, 1) := by decide +kernel
theorem dX7_works_88 : decode cX7_works 88 = .ok (.iload 4, 2) := by decide +kernel
theorem dX7_works_90 : decode cX7_works 90 = .ok (.istore_n 2, 1) := by decide +kernel
theorem dX7_works_91 : decode cX7_works 91 = .ok (.iinc 3 1, 3) := by decide +kernel
theorem dX7_works_94 : decode cX7_works 94 = .ok (.goto (-83), 3) := by decide +kernel
theorem dX7_works_97 : decode cX7_works 97 = .ok (.iload_n 1, 1) := by decide +kernel
theorem dX7_works_98 : decode cX7_works 98 = .ok (.ireturn, 1) := by decide +kernel
set_option maxRecDepth 20000 in
theorem ggX7_survey_X7_isField : GoodIn wsX7_survey wsX7_isField := goodIn_r _ [12, 13, 14, 15, 11, 16, 17, 18, 19, 20, 21, 22, 23, 24, 25, 26, 27, 28, 29, 30, 31, 32, 33, 34, 35, 36, 37, 38, 39, 40, 41, 42, 43, 44, 45, 46, 47, 48, 49, 50, 51, 52, 53] (by decide +kernel) (by decide +kernel)
set_option maxRecDepth 20000 in
theorem gX7_survey_X7_isField : GoodIn wsX7_survey (wsV RX7 112 RX7 yX7_isField wsX7_isField) := goodIn_app (goodIn_of _ (by decide +kernel)) ggX7_survey_X7_isField
set_option maxRecDepth 20000 in
theorem ggX7_survey_X7_within : GoodIn wsX7_survey wsX7_within := goodIn_r _ [16] (by decide +kernel) (by decide +kernel)
set_option maxRecDepth 20000 in
theorem gX7_survey_X7_within : GoodIn wsX7_survey (va_wsS RX7 104 yX7_within wsX7_within) := goodIn_app (goodIn_of _ (by decide +kernel)) ggX7_survey_X7_within
theorem dX7_survey_0 : decode cX7_survey 0 = .ok (.aload_n 0, 1) := by decide +kernel
theorem dX7_survey_1 : decode cX7_survey 1 = .ok (.iconst 0, 1) := by decide +kernel
theorem dX7_survey_2 : decode cX7_survey 2 = .ok (.putfield 1, 3) := by decide +kernel
theorem dX7_survey_5 : decode cX7_survey 5 = .ok (.aload_n 0, 1) := by decide +kernel
theorem dX7_survey_6 : decode cX7_survey 6 = .ok (.iload_n 1, 1) := by decide +kernel
theorem dX7_survey_7 : decode cX7_survey 7 = .ok (.invokevirtual 112, 3) := by decide +kernel
theorem dX7_survey_10 : decode cX7_survey 10 = .ok (.ifCond .eq 40, 3) := by decide +kernel
theorem dX7_survey_13 : decode cX7_survey 13 = .ok (.iload_n 2, 1) := by decide +kernel
theorem dX7_survey_14 : decode cX7_survey 14 = .ok (.iconst 1, 1) := by decide +kernel
theorem dX7_survey_15 : decode cX7_survey 15 = .ok (.bipush 120, 2) := by decide +kernel
theorem dX7_survey_17 : decode cX7_survey 17 = .ok (.invokestatic 104, 3) := by decide +kernel
theorem dX7_survey_20 : decode cX7_survey 20 = .ok (.ifCond .eq 30, 3) := by decide +kernel
theorem dX7_survey_23 : decode cX7_survey 23 = .ok (.iload_n 3, 1) := by decide +kernel
theorem dX7_survey_24 : decode cX7_survey 24 = .ok (.ifCond .lt 26, 3) := by decide +kernel
theorem dX7_survey_27 : decode cX7_survey 27 = .ok (.iload 4, 2) := by decide +kernel
theorem dX7_survey_29 : decode cX7_survey 29 = .ok (.sipush 9999, 3) := by decide +kernel
theorem dX7_survey_32 : decode cX7_survey 32 = .ok (.if_icmp .gt 18, 3) := by decide +kernel
theorem dX7_survey_35 : decode cX7_survey 35 = .ok (.iload_n 3, 1) := by decide +kernel
theorem dX7_survey_36 : decode cX7_survey 36 = .ok (.iload 4, 2) := by decide +kernel
theorem dX7_survey_38 : decode cX7_survey 38 = .ok (.if_icmp .gt 12, 3) := by decide +kernel
theorem dX7_survey_41 : decode cX7_survey 41 = .ok (.aload_n 0, 1) := by decide +kernel
theorem dX7_survey_42 : decode cX7_survey 42 = .ok (.getfield 181, 3) := by decide +kernel
theorem dX7_survey_45 : decode cX7_survey 45 = .ok (.bipush 20, 2) := by decide +kernel
theorem dX7_survey_47 : decode cX7_survey 47 = .ok (.if_icmp .ne 5, 3) := by decide +kernel
theorem dX7_survey_50 : decode cX7_survey 50 = .ok (.iconst (-1), 1) := by decide +kernel
theorem dX7_survey_51 : decode cX7_survey 51 = .ok (.ireturn, 1) := by decide +kernel
theorem dX7_survey_52 : decode cX7_survey 52 = .ok (.aload_n 0, 1) := by decide +kernel
theorem dX7_survey_53 : decode cX7_survey 53 = .ok (.getfield 92, 3) := by decide +kernel
theorem dX7_survey_56 : decode cX7_survey 56 = .ok (.aload_n 0, 1) := by decide +kernel
theorem dX7_survey_57 : decode cX7_survey 57 = .ok (.getfield 181, 3) := by decide +kernel
theorem dX7_survey_60 : decode cX7_survey 60 = .ok (.iload_n 1, 1) := by decide +kernel
theorem dX7_survey_61 : decode cX7_survey 61 = .ok (.iastore, 1) := by decide +kernel
theorem dX7_survey_62 : decode cX7_survey 62 = .ok (.aload_n 0, 1) := by decide +kernel
theorem dX7_survey_63 : decode cX7_survey 63 = .ok (.getfield 95, 3) := by decide +kernel
theorem dX7_survey_66 : decode cX7_survey 66 = .ok (.aload_n 0, 1) := by decide +kernel
theorem dX7_survey_67 : decode cX7_survey 67 = .ok (.getfield 181, 3) := by decide +kernel
theorem dX7_survey_70 : decode cX7_survey 70 = .ok (.iload_n 2, 1) := by decide +kernel
theorem dX7_survey_71 : decode cX7_survey 71 = .ok (.iastore, 1) := by decide +kernel
theorem dX7_survey_72 : decode cX7_survey 72 = .ok (.aload_n 0, 1) := by decide +kernel
theorem dX7_survey_73 : decode cX7_survey 73 = .ok (.getfield 98, 3) := by decide +kernel
theorem dX7_survey_76 : decode cX7_survey 76 = .ok (.aload_n 0, 1) := by decide +kernel
theorem dX7_survey_77 : decode cX7_survey 77 = .ok (.getfield 181, 3) := by decide +kernel
theorem dX7_survey_80 : decode cX7_survey 80 = .ok (.iload_n 3, 1) := by decide +kernel
theorem dX7_survey_81 : decode cX7_survey 81 = .ok (.iastore, 1) := by decide +kernel
theorem dX7_survey_82 : decode cX7_survey 82 = .ok (.aload_n 0, 1) := by decide +kernel
theorem dX7_survey_83 : decode cX7_survey 83 = .ok (.getfield 101, 3) := by decide +kernel
theorem dX7_survey_86 : decode cX7_survey 86 = .ok (.aload_n 0, 1) := by decide +kernel
theorem dX7_survey_87 : decode cX7_survey 87 = .ok (.getfield 181, 3) := by decide +kernel
theorem dX7_survey_90 : decode cX7_survey 90 = .ok (.iload 4, 2) := by decide +kernel
theorem dX7_survey_92 : decode cX7_survey 92 = .ok (.iastore, 1) := by decide +kernel
theorem dX7_survey_93 : decode cX7_survey 93 = .ok (.aload_n 0, 1) := by decide +kernel
theorem dX7_survey_94 : decode cX7_survey 94 = .ok (.dup, 1) := by decide +kernel
theorem dX7_survey_95 : decode cX7_survey 95 = .ok (.getfield 181, 3) := by decide +kernel
theorem dX7_survey_98 : decode cX7_survey 98 = .ok (.iconst 1, 1) := by decide +kernel
theorem dX7_survey_99 : decode cX7_survey 99 = .ok (.iadd, 1) := by decide +kernel
theorem dX7_survey_100 : decode cX7_survey 100 = .ok (.putfield 181, 3) := by decide +kernel
theorem dX7_survey_103 : decode cX7_survey 103 = .ok (.aload_n 0, 1) := by decide +kernel
theorem dX7_survey_104 : decode cX7_survey 104 = .ok (.iconst 1, 1) := by decide +kernel
theorem dX7_survey_105 : decode cX7_survey 105 = .ok (.putfield 108, 3) := by decide +kernel
theorem dX7_survey_108 : decode cX7_survey 108 = .ok (.aload_n 0, 1) := by decide +kernel
theorem dX7_survey_109 : decode cX7_survey 109 = .ok (.getfield 181, 3) := by decide +kernel
theorem dX7_survey_112 : decode cX7_survey 112 = .ok (.ireturn, 1) := by decide +kernel
set_option maxRecDepth 20000 in
theorem ggX7_areSo_X7_within : GoodIn wsX7_areSo wsX7_within := goodIn_r _ [10] (by decide +kernel) (by decide +kernel)
set_option maxRecDepth 20000 in
theorem gX7_areSo_X7_within : GoodIn wsX7_areSo (va_wsS RX7 104 yX7_within wsX7_within) := goodIn_app (goodIn_of _ (by decide +kernel)) ggX7_areSo_X7_within
theorem dX7_areSo_0 : decode cX7_areSo 0 = .ok (.iconst 1, 1) := by decide +kernel
theorem dX7_areSo_1 : decode cX7_areSo 1 = .ok (.istore_n 2, 1) := by decide +kernel
theorem dX7_areSo_2 : decode cX7_areSo 2 = .ok (.iconst 0, 1) := by decide +kernel
theorem dX7_areSo_3 : decode cX7_areSo 3 = .ok (.istore_n 3, 1) := by decide +kernel
theorem dX7_areSo_4 : decode cX7_areSo 4 = .ok (.iload_n 3, 1) := by decide +kernel
theorem dX7_areSo_5 : decode cX7_areSo 5 = .ok (.aload_n 0, 1) := by decide +kernel
theorem dX7_areSo_6 : decode cX7_areSo 6 = .ok (.getfield 181, 3) := by decide +kernel
theorem dX7_areSo_9 : decode cX7_areSo 9 = .ok (.if_icmp .ge 61, 3) := by decide +kernel
theorem dX7_areSo_12 : decode cX7_areSo 12 = .ok (.iload_n 2, 1) := by decide +kernel
theorem dX7_areSo_13 : decode cX7_areSo 13 = .ok (.ifCond .eq 49, 3) := by decide +kernel
theorem dX7_areSo_16 : decode cX7_areSo 16 = .ok (.aload_n 0, 1) := by decide +kernel
theorem dX7_areSo_17 : decode cX7_areSo 17 = .ok (.getfield 95, 3) := by decide +kernel
theorem dX7_areSo_20 : decode cX7_areSo 20 = .ok (.iload_n 3, 1) := by decide +kernel
theorem dX7_areSo_21 : decode cX7_areSo 21 = .ok (.iaload, 1) := by decide +kernel
theorem dX7_areSo_22 : decode cX7_areSo 22 = .ok (.iload_n 1, 1) := by decide +kernel
theorem dX7_areSo_23 : decode cX7_areSo 23 = .ok (.if_icmp .ne 35, 3) := by decide +kernel
theorem dX7_areSo_26 : decode cX7_areSo 26 = .ok (.aload_n 0, 1) := by decide +kernel
theorem dX7_areSo_27 : decode cX7_areSo 27 = .ok (.getfield 56, 3) := by decide +kernel
theorem dX7_areSo_30 : decode cX7_areSo 30 = .ok (.aload_n 0, 1) := by decide +kernel
theorem dX7_areSo_31 : decode cX7_areSo 31 = .ok (.getfield 92, 3) := by decide +kernel
theorem dX7_areSo_34 : decode cX7_areSo 34 = .ok (.iload_n 3, 1) := by decide +kernel
theorem dX7_areSo_35 : decode cX7_areSo 35 = .ok (.iaload, 1) := by decide +kernel
theorem dX7_areSo_36 : decode cX7_areSo 36 = .ok (.iaload, 1) := by decide +kernel
theorem dX7_areSo_37 : decode cX7_areSo 37 = .ok (.bipush 10, 2) := by decide +kernel
theorem dX7_areSo_39 : decode cX7_areSo 39 = .ok (.idiv, 1) := by decide +kernel
theorem dX7_areSo_40 : decode cX7_areSo 40 = .ok (.aload_n 0, 1) := by decide +kernel
theorem dX7_areSo_41 : decode cX7_areSo 41 = .ok (.getfield 98, 3) := by decide +kernel
theorem dX7_areSo_44 : decode cX7_areSo 44 = .ok (.iload_n 3, 1) := by decide +kernel
theorem dX7_areSo_45 : decode cX7_areSo 45 = .ok (.iaload, 1) := by decide +kernel
theorem dX7_areSo_46 : decode cX7_areSo 46 = .ok (.aload_n 0, 1) := by decide +kernel
theorem dX7_areSo_47 : decode cX7_areSo 47 = .ok (.getfield 101, 3) := by decide +kernel
theorem dX7_areSo_50 : decode cX7_areSo 50 = .ok (.iload_n 3, 1) := by decide +kernel
theorem dX7_areSo_51 : decode cX7_areSo 51 = .ok (.iaload, 1) := by decide +kernel
theorem dX7_areSo_52 : decode cX7_areSo 52 = .ok (.invokestatic 104, 3) := by decide +kernel
theorem dX7_areSo_55 : decode cX7_areSo 55 = .ok (.ifCond .eq 7, 3) := by decide +kernel
theorem dX7_areSo_58 : decode cX7_areSo 58 = .ok (.iconst 1, 1) := by decide +kernel
theorem dX7_areSo_59 : decode cX7_areSo 59 = .ok (.goto 4, 3) := by decide +kernel
theorem dX7_areSo_62 : decode cX7_areSo 62 = .ok (.iconst 0, 1) := by decide +kernel
theorem dX7_areSo_63 : decode cX7_areSo 63 = .ok (.istore_n 2, 1) := by decide +kernel
theorem dX7_areSo_64 : decode cX7_areSo 64 = .ok (.iinc 3 1, 3) := by decide +kernel
theorem dX7_areSo_67 : decode cX7_areSo 67 = .ok (.goto (-63), 3) := by decide +kernel
theorem dX7_areSo_70 : decode cX7_areSo 70 = .ok (.iload_n 2, 1) := by decide +kernel
theorem dX7_areSo_71 : decode cX7_areSo 71 = .ok (.ireturn, 1) := by decide +kernel
set_option maxRecDepth 20000 in
theorem ggX7_fits_X7_begins : GoodIn wsX7_fits wsX7_begins := goodIn_r _ [8, 9, 10, 11, 12, 13, 14, 15, 16, 17, 70, 71, 72, 73, 74, 75, 76, 77, 78, 79, 80, 81, 82, 83, 84, 85, 86, 87, 88, 89, 90, 91, 92, 93, 94, 95, 96, 97, 98, 99, 100, 101, 102, 103, 104, 105, 106] (by decide +kernel) (by decide +kernel)
set_option maxRecDepth 20000 in
theorem gX7_fits_X7_begins : GoodIn wsX7_fits (wsV RX7 146 RX7 yX7_begins wsX7_begins) := goodIn_app (goodIn_of _ (by decide +kernel)) ggX7_fits_X7_begins
set_option maxRecDepth 20000 in
theorem ggX7_fits_X7_dredged : GoodIn wsX7_fits wsX7_dredged := goodIn_r _ [21, 22, 23, 24, 13, 25, 26, 27, 28, 7, 29, 9, 30, 70, 71, 72, 73, 74, 75, 76, 77, 78, 79, 80, 81, 82, 83, 84, 85, 86, 87, 88, 89, 90, 91, 92, 93, 94, 95, 96, 97, 98, 99, 100, 101, 102, 103, 104, 105, 106] (by decide +kernel) (by decide +kernel)
set_option maxRecDepth 20000 in
theorem gX7_fits_X7_dredged : GoodIn wsX7_fits (wsV RX7 153 RX7 yX7_dredged wsX7_dredged) := goodIn_app (goodIn_of _ (by decide +kernel)) ggX7_fits_X7_dredged
set_option maxRecDepth 20000 in
theorem ggX7_fits_X7_week : GoodIn wsX7_fits wsX7_week := goodIn_r _ [34, 35, 14, 36, 37, 9, 11, 38, 39, 40, 7, 41, 42, 16, 43, 13, 44, 45, 46, 47, 48, 15, 49, 50, 51, 52, 12, 53, 54, 55, 56, 57, 26, 27, 28, 29, 30, 70, 71, 72, 73, 74, 75, 76, 77, 78, 79, 80, 81, 82, 83, 84, 85, 86, 87, 88, 89, 90, 91, 92, 93, 94, 95, 96, 97, 98, 99, 100, 101, 102, 103, 104, 105, 106] (by decide +kernel) (by decide +kernel)
set_option maxRecDepth 20000 in
theorem gX7_fits_X7_week : GoodIn wsX7_fits (wsV RX7 156 RX7 yX7_week wsX7_week) := goodIn_app (goodIn_of _ (by decide +kernel)) ggX7_fits_X7_week
set_option maxRecDepth 20000 in
theorem ggX7_fits_X7_areSo : GoodIn wsX7_fits wsX7_areSo := goodIn_r _ [61, 62, 63, 9, 64, 65, 66, 67, 68, 7, 69, 70, 71, 72, 73, 74, 75, 76, 77, 78, 79, 80, 81, 82, 83, 84, 85, 86, 87, 88, 89, 90, 91, 92, 93, 94, 95, 96, 97, 98, 99, 100, 101, 102, 103, 104, 105, 106] (by decide +kernel) (by decide +kernel)
set_option maxRecDepth 20000 in
theorem gX7_fits_X7_areSo : GoodIn wsX7_fits (wsV RX7 184 RX7 yX7_areSo wsX7_areSo) := goodIn_app (goodIn_of _ (by decide +kernel)) ggX7_fits_X7_areSo
theorem dX7_fits_0 : decode cX7_fits 0 = .ok (.aload_n 0, 1) := by decide +kernel
theorem dX7_fits_1 : decode cX7_fits 1 = .ok (.iconst 0, 1) := by decide +kernel
theorem dX7_fits_2 : decode cX7_fits 2 = .ok (.putfield 1, 3) := by decide +kernel
theorem dX7_fits_5 : decode cX7_fits 5 = .ok (.iconst 0, 1) := by decide +kernel
theorem dX7_fits_6 : decode cX7_fits 6 = .ok (.istore_n 1, 1) := by decide +kernel
theorem dX7_fits_7 : decode cX7_fits 7 = .ok (.iconst 1, 1) := by decide +kernel
theorem dX7_fits_8 : decode cX7_fits 8 = .ok (.istore_n 2, 1) := by decide +kernel
theorem dX7_fits_9 : decode cX7_fits 9 = .ok (.iload_n 2, 1) := by decide +kernel
theorem dX7_fits_10 : decode cX7_fits 10 = .ok (.bipush 9, 2) := by decide +kernel
theorem dX7_fits_12 : decode cX7_fits 12 = .ok (.if_icmp .gt 99, 3) := by decide +kernel
theorem dX7_fits_15 : decode cX7_fits 15 = .ok (.aload_n 0, 1) := by decide +kernel
theorem dX7_fits_16 : decode cX7_fits 16 = .ok (.iconst 0, 1) := by decide +kernel
theorem dX7_fits_17 : decode cX7_fits 17 = .ok (.invokevirtual 146, 3) := by decide +kernel
theorem dX7_fits_20 : decode cX7_fits 20 = .ok (.aload_n 0, 1) := by decide +kernel
theorem dX7_fits_21 : decode cX7_fits 21 = .ok (.iconst 0, 1) := by decide +kernel
theorem dX7_fits_22 : decode cX7_fits 22 = .ok (.aload_n 0, 1) := by decide +kernel
theorem dX7_fits_23 : decode cX7_fits 23 = .ok (.getfield 150, 3) := by decide +kernel
theorem dX7_fits_26 : decode cX7_fits 26 = .ok (.invokevirtual 153, 3) := by decide +kernel
theorem dX7_fits_29 : decode cX7_fits 29 = .ok (.iconst 1, 1) := by decide +kernel
theorem dX7_fits_30 : decode cX7_fits 30 = .ok (.istore_n 3, 1) := by decide +kernel
theorem dX7_fits_31 : decode cX7_fits 31 = .ok (.iconst 0, 1) := by decide +kernel
theorem dX7_fits_32 : decode cX7_fits 32 = .ok (.istore 4, 2) := by decide +kernel
theorem dX7_fits_34 : decode cX7_fits 34 = .ok (.iload 4, 2) := by decide +kernel
theorem dX7_fits_36 : decode cX7_fits 36 = .ok (.aload_n 0, 1) := by decide +kernel
theorem dX7_fits_37 : decode cX7_fits 37 = .ok (.getfield 123, 3) := by decide +kernel
theorem dX7_fits_40 : decode cX7_fits 40 = .ok (.if_icmp .ge 49, 3) := by decide +kernel
theorem dX7_fits_43 : decode cX7_fits 43 = .ok (.aload_n 0, 1) := by decide +kernel
theorem dX7_fits_44 : decode cX7_fits 44 = .ok (.iload 4, 2) := by decide +kernel
theorem dX7_fits_46 : decode cX7_fits 46 = .ok (.iload_n 2, 1) := by decide +kernel
theorem dX7_fits_47 : decode cX7_fits 47 = .ok (.invokevirtual 156, 3) := by decide +kernel
theorem dX7_fits_50 : decode cX7_fits 50 = .ok (.aload_n 0, 1) := by decide +kernel
theorem dX7_fits_51 : decode cX7_fits 51 = .ok (.iload 4, 2) := by decide +kernel
theorem dX7_fits_53 : decode cX7_fits 53 = .ok (.iconst 1, 1) := by decide +kernel
theorem dX7_fits_54 : decode cX7_fits 54 = .ok (.iadd, 1) := by decide +kernel
theorem dX7_fits_55 : decode cX7_fits 55 = .ok (.aload_n 0, 1) := by decide +kernel
theorem dX7_fits_56 : decode cX7_fits 56 = .ok (.getfield 150, 3) := by decide +kernel
theorem dX7_fits_59 : decode cX7_fits 59 = .ok (.invokevirtual 153, 3) := by decide +kernel
theorem dX7_fits_62 : decode cX7_fits 62 = .ok (.iload_n 3, 1) := by decide +kernel
theorem dX7_fits_63 : decode cX7_fits 63 = .ok (.ifCond .eq 18, 3) := by decide +kernel
theorem dX7_fits_66 : decode cX7_fits 66 = .ok (.aload_n 0, 1) := by decide +kernel
theorem dX7_fits_67 : decode cX7_fits 67 = .ok (.iload 4, 2) := by decide +kernel
theorem dX7_fits_69 : decode cX7_fits 69 = .ok (.iconst 1, 1) := by decide +kernel
theorem dX7_fits_70 : decode cX7_fits 70 = .ok (.iadd, 1) := by decide +kernel
theorem dX7_fits_71 : decode cX7_fits 71 = .ok (.invokevirtual 184, 3) := by decide +kernel
theorem dX7_fits_74 : decode cX7_fits 74 = .ok (.ifCond .eq 7, 3) := by decide +kernel
theorem dX7_fits_77 : decode cX7_fits 77 = .ok (.iconst 1, 1) := by decide +kernel
theorem dX7_fits_78 : decode cX7_fits 78 = .ok (.goto 4, 3) := by decide +kernel
theorem dX7_fits_81 : decode cX7_fits 81 = .ok (.iconst 0, 1) := by decide +kernel
theorem dX7_fits_82 : decode cX7_fits 82 = .ok (.istore_n 3, 1) := by decide +kernel
theorem dX7_fits_83 : decode cX7_fits 83 = .ok (.iinc 4 1, 3) := by decide +kernel
theorem dX7_fits_86 : decode cX7_fits 86 = .ok (.goto (-52), 3) := by decide +kernel
theorem dX7_fits_89 : decode cX7_fits 89 = .ok (.iload_n 1, 1) := by decide +kernel
theorem dX7_fits_90 : decode cX7_fits 90 = .ok (.iload_n 3, 1) := by decide +kernel
theorem dX7_fits_91 : decode cX7_fits 91 = .ok (.ifCond .eq 11, 3) := by decide +kernel
theorem dX7_fits_94 : decode cX7_fits 94 = .ok (.iconst 1, 1) := by decide +kernel
theorem dX7_fits_95 : decode cX7_fits 95 = .ok (.iload_n 2, 1) := by decide +kernel
theorem dX7_fits_96 : decode cX7_fits 96 = .ok (.iconst 1, 1) := by decide +kernel
theorem dX7_fits_97 : decode cX7_fits 97 = .ok (.isub, 1) := by decide +kernel
theorem dX7_fits_98 : decode cX7_fits 98 = .ok (.ishl, 1) := by decide +kernel
theorem dX7_fits_99 : decode cX7_fits 99 = .ok (.goto 4, 3) := by decide +kernel
theorem dX7_fits_102 : decode cX7_fits 102 = .ok (.iconst 0, 1) := by decide +kernel
theorem dX7_fits_103 : decode cX7_fits 103 = .ok (.ior, 1) := by decide +kernel
theorem dX7_fits_104 : decode cX7_fits 104 = .ok (.istore_n 1, 1) := by decide +kernel
theorem dX7_fits_105 : decode cX7_fits 105 = .ok (.iinc 2 1, 3) := by decide +kernel
theorem dX7_fits_108 : decode cX7_fits 108 = .ok (.goto (-99), 3) := by decide +kernel
theorem dX7_fits_111 : decode cX7_fits 111 = .ok (.iload_n 1, 1) := by decide +kernel
theorem dX7_fits_112 : decode cX7_fits 112 = .ok (.ireturn, 1) := by decide +kernel
set_option maxRecDepth 20000 in
theorem ggX7_count_X7_allSand : GoodIn wsX7_count wsX7_allSand := goodIn_r _ [12, 4, 2, 13, 14, 15, 16, 17, 18, 11, 19, 7, 20, 21, 22, 23, 24, 25, 26, 27, 28, 29, 30, 31, 32, 33, 34, 35, 36, 37, 38, 39, 40, 41, 42, 43, 44, 45, 46, 47, 48, 49, 50, 51, 52, 53, 54, 55, 56, 57, 58, 59, 60, 61, 62, 63, 64, 65, 66, 67, 68, 69, 70, 71, 72, 73, 74, 75, 76, 77, 78, 79, 80, 81, 82, 83, 84, 85, 86, 87, 88, 89, 90, 91, 92, 93, 94, 95, 96, 97, 98, 99, 100, 101, 102, 103, 104, 105, 106] (by decide +kernel) (by decide +kernel)
set_option maxRecDepth 20000 in
theorem gX7_count_X7_allSand : GoodIn wsX7_count (wsV RX7 187 RX7 yX7_allSand wsX7_allSand) := goodIn_app (goodIn_of _ (by decide +kernel)) ggX7_count_X7_allSand
theorem dX7_count_0 : decode cX7_count 0 = .ok (.aload_n 0, 1) := by decide +kernel
theorem dX7_count_1 : decode cX7_count 1 = .ok (.iconst 0, 1) := by decide +kernel
theorem dX7_count_2 : decode cX7_count 2 = .ok (.putfield 1, 3) := by decide +kernel
theorem dX7_count_5 : decode cX7_count 5 = .ok (.iload_n 1, 1) := by decide +kernel
theorem dX7_count_6 : decode cX7_count 6 = .ok (.tableswitch 77 0 6 #[42, 47, 52, 57, 62, 67, 72], 42) := by decide +kernel
theorem dX7_count_48 : decode cX7_count 48 = .ok (.aload_n 0, 1) := by decide +kernel
theorem dX7_count_49 : decode cX7_count 49 = .ok (.getfield 13, 3) := by decide +kernel
theorem dX7_count_52 : decode cX7_count 52 = .ok (.ireturn, 1) := by decide +kernel
theorem dX7_count_53 : decode cX7_count 53 = .ok (.aload_n 0, 1) := by decide +kernel
theorem dX7_count_54 : decode cX7_count 54 = .ok (.getfield 123, 3) := by decide +kernel
theorem dX7_count_57 : decode cX7_count 57 = .ok (.ireturn, 1) := by decide +kernel
theorem dX7_count_58 : decode cX7_count 58 = .ok (.aload_n 0, 1) := by decide +kernel
theorem dX7_count_59 : decode cX7_count 59 = .ok (.getfield 117, 3) := by decide +kernel
theorem dX7_count_62 : decode cX7_count 62 = .ok (.ireturn, 1) := by decide +kernel
theorem dX7_count_63 : decode cX7_count 63 = .ok (.aload_n 0, 1) := by decide +kernel
theorem dX7_count_64 : decode cX7_count 64 = .ok (.getfield 175, 3) := by decide +kernel
theorem dX7_count_67 : decode cX7_count 67 = .ok (.ireturn, 1) := by decide +kernel
theorem dX7_count_68 : decode cX7_count 68 = .ok (.aload_n 0, 1) := by decide +kernel
theorem dX7_count_69 : decode cX7_count 69 = .ok (.getfield 181, 3) := by decide +kernel
theorem dX7_count_72 : decode cX7_count 72 = .ok (.ireturn, 1) := by decide +kernel
theorem dX7_count_73 : decode cX7_count 73 = .ok (.aload_n 0, 1) := by decide +kernel
theorem dX7_count_74 : decode cX7_count 74 = .ok (.getfield 150, 3) := by decide +kernel
theorem dX7_count_77 : decode cX7_count 77 = .ok (.ireturn, 1) := by decide +kernel
theorem dX7_count_78 : decode cX7_count 78 = .ok (.aload_n 0, 1) := by decide +kernel
theorem dX7_count_79 : decode cX7_count 79 = .ok (.invokevirtual 187, 3) := by decide +kernel
theorem dX7_count_82 : decode cX7_count 82 = .ok (.ireturn, 1) := by decide +kernel
theorem dX7_count_83 : decode cX7_count 83 = .ok (.iconst (-1), 1) := by decide +kernel
theorem dX7_count_84 : decode cX7_count 84 = .ok (.ireturn, 1) := by decide +kernel
set_option maxRecDepth 20000 in
theorem ggX7_allSand_X7_runs : GoodIn wsX7_allSand wsX7_runs := goodIn_r _ [10, 11, 12, 13, 14, 15, 9, 16, 3, 17, 4, 18, 5, 19, 20, 21, 22, 23, 24, 25, 26, 27, 28, 29, 30, 31, 32, 33, 34, 35, 36, 37, 38, 39, 40, 41, 2, 42, 43, 44, 45, 46, 47, 48, 49, 50, 51, 52, 53, 54, 55, 56, 57, 58, 59, 60, 61, 62, 63, 64, 65, 66, 67, 68, 69, 70, 71, 72, 73, 74, 75, 76, 77, 78, 79, 80, 81, 82, 83, 84, 85, 86, 87, 88, 89, 90, 91, 92, 93, 94, 95, 96, 97, 98] (by decide +kernel) (by decide +kernel)
set_option maxRecDepth 20000 in
theorem gX7_allSand_X7_runs : GoodIn wsX7_allSand (wsV RX7 159 RX7 yX7_runs wsX7_runs) := goodIn_app (goodIn_of _ (by decide +kernel)) ggX7_allSand_X7_runs
theorem dX7_allSand_0 : decode cX7_allSand 0 = .ok (.aload_n 0, 1) := by decide +kernel
theorem dX7_allSand_1 : decode cX7_allSand 1 = .ok (.aload_n 0, 1) := by decide +kernel
theorem dX7_allSand_2 : decode cX7_allSand 2 = .ok (.getfield 117, 3) := by decide +kernel
theorem dX7_allSand_5 : decode cX7_allSand 5 = .ok (.iconst 0, 1) := by decide +kernel
theorem dX7_allSand_6 : decode cX7_allSand 6 = .ok (.invokevirtual 159, 3) := by decide +kernel
theorem dX7_allSand_9 : decode cX7_allSand 9 = .ok (.iconst 0, 1) := by decide +kernel
theorem dX7_allSand_10 : decode cX7_allSand 10 = .ok (.istore_n 1, 1) := by decide +kernel
theorem dX7_allSand_11 : decode cX7_allSand 11 = .ok (.iconst 0, 1) := by decide +kernel
theorem dX7_allSand_12 : decode cX7_allSand 12 = .ok (.istore_n 2, 1) := by decide +kernel
theorem dX7_allSand_13 : decode cX7_allSand 13 = .ok (.iload_n 2, 1) := by decide +kernel
theorem dX7_allSand_14 : decode cX7_allSand 14 = .ok (.aload_n 0, 1) := by decide +kernel
theorem dX7_allSand_15 : decode cX7_allSand 15 = .ok (.getfield 13, 3) := by decide +kernel
theorem dX7_allSand_18 : decode cX7_allSand 18 = .ok (.if_icmp .ge 25, 3) := by decide +kernel
theorem dX7_allSand_21 : decode cX7_allSand 21 = .ok (.iload_n 1, 1) := by decide +kernel
theorem dX7_allSand_22 : decode cX7_allSand 22 = .ok (.aload_n 0, 1) := by decide +kernel
theorem dX7_allSand_23 : decode cX7_allSand 23 = .ok (.getfield 56, 3) := by decide +kernel
theorem dX7_allSand_26 : decode cX7_allSand 26 = .ok (.iload_n 2, 1) := by decide +kernel
theorem dX7_allSand_27 : decode cX7_allSand 27 = .ok (.iaload, 1) := by decide +kernel
theorem dX7_allSand_28 : decode cX7_allSand 28 = .ok (.aload_n 0, 1) := by decide +kernel
theorem dX7_allSand_29 : decode cX7_allSand 29 = .ok (.getfield 59, 3) := by decide +kernel
theorem dX7_allSand_32 : decode cX7_allSand 32 = .ok (.iload_n 2, 1) := by decide +kernel
theorem dX7_allSand_33 : decode cX7_allSand 33 = .ok (.iaload, 1) := by decide +kernel
theorem dX7_allSand_34 : decode cX7_allSand 34 = .ok (.iadd, 1) := by decide +kernel
theorem dX7_allSand_35 : decode cX7_allSand 35 = .ok (.iadd, 1) := by decide +kernel
theorem dX7_allSand_36 : decode cX7_allSand 36 = .ok (.istore_n 1, 1) := by decide +kernel
theorem dX7_allSand_37 : decode cX7_allSand 37 = .ok (.iinc 2 1, 3) := by decide +kernel
theorem dX7_allSand_40 : decode cX7_allSand 40 = .ok (.goto (-27), 3) := by decide +kernel
theorem dX7_allSand_43 : decode cX7_allSand 43 = .ok (.iconst 0, 1) := by decide +kernel
theorem dX7_allSand_44 : decode cX7_allSand 44 = .ok (.istore_n 2, 1) := by decide +kernel
theorem dX7_allSand_45 : decode cX7_allSand 45 = .ok (.iload_n 2, 1) := by decide +kernel
theorem dX7_allSand_46 : decode cX7_allSand 46 = .ok (.bipush 13, 2) := by decide +kernel
theorem dX7_allSand_48 : decode cX7_allSand 48 = .ok (.if_icmp .ge 18, 3) := by decide +kernel
theorem dX7_allSand_51 : decode cX7_allSand 51 = .ok (.iload_n 1, 1) := by decide +kernel
theorem dX7_allSand_52 : decode cX7_allSand 52 = .ok (.aload_n 0, 1) := by decide +kernel
theorem dX7_allSand_53 : decode cX7_allSand 53 = .ok (.getfield 65, 3) := by decide +kernel
theorem dX7_allSand_56 : decode cX7_allSand 56 = .ok (.iload_n 2, 1) := by decide +kernel
theorem dX7_allSand_57 : decode cX7_allSand 57 = .ok (.iaload, 1) := by decide +kernel
theorem dX7_allSand_58 : decode cX7_allSand 58 = .ok (.iadd, 1) := by decide +kernel
theorem dX7_allSand_59 : decode cX7_allSand 59 = .ok (.istore_n 1, 1) := by decide +kernel
theorem dX7_allSand_60 : decode cX7_allSand 60 = .ok (.iinc 2 1, 3) := by decide +kernel
theorem dX7_allSand_63 : decode cX7_allSand 63 = .ok (.goto (-18), 3) := by decide +kernel
theorem dX7_allSand_66 : decode cX7_allSand 66 = .ok (.iload_n 1, 1) := by decide +kernel
theorem dX7_allSand_67 : decode cX7_allSand 67 = .ok (.ireturn, 1) := by decide +kernel
theorem dJ6_bitCount_0f7a4_0 : decode cJ6_bitCount_0f7a4 0 = .ok (.iload_n 0, 1) := by decide +kernel
theorem dJ6_bitCount_0f7a4_1 : decode cJ6_bitCount_0f7a4 1 = .ok (.iload_n 0, 1) := by decide +kernel
theorem dJ6_bitCount_0f7a4_2 : decode cJ6_bitCount_0f7a4 2 = .ok (.iconst 1, 1) := by decide +kernel
theorem dJ6_bitCount_0f7a4_3 : decode cJ6_bitCount_0f7a4 3 = .ok (.iushr, 1) := by decide +kernel
theorem dJ6_bitCount_0f7a4_4 : decode cJ6_bitCount_0f7a4 4 = .ok (.ldc_w 265, 3) := by decide +kernel
theorem dJ6_bitCount_0f7a4_7 : decode cJ6_bitCount_0f7a4 7 = .ok (.iand, 1) := by decide +kernel
theorem dJ6_bitCount_0f7a4_8 : decode cJ6_bitCount_0f7a4 8 = .ok (.isub, 1) := by decide +kernel
theorem dJ6_bitCount_0f7a4_9 : decode cJ6_bitCount_0f7a4 9 = .ok (.istore_n 0, 1) := by decide +kernel
theorem dJ6_bitCount_0f7a4_10 : decode cJ6_bitCount_0f7a4 10 = .ok (.iload_n 0, 1) := by decide +kernel
theorem dJ6_bitCount_0f7a4_11 : decode cJ6_bitCount_0f7a4 11 = .ok (.ldc_w 266, 3) := by decide +kernel
theorem dJ6_bitCount_0f7a4_14 : decode cJ6_bitCount_0f7a4 14 = .ok (.iand, 1) := by decide +kernel
theorem dJ6_bitCount_0f7a4_15 : decode cJ6_bitCount_0f7a4 15 = .ok (.iload_n 0, 1) := by decide +kernel
theorem dJ6_bitCount_0f7a4_16 : decode cJ6_bitCount_0f7a4 16 = .ok (.iconst 2, 1) := by decide +kernel
theorem dJ6_bitCount_0f7a4_17 : decode cJ6_bitCount_0f7a4 17 = .ok (.iushr, 1) := by decide +kernel
theorem dJ6_bitCount_0f7a4_18 : decode cJ6_bitCount_0f7a4 18 = .ok (.ldc_w 266, 3) := by decide +kernel
theorem dJ6_bitCount_0f7a4_21 : decode cJ6_bitCount_0f7a4 21 = .ok (.iand, 1) := by decide +kernel
theorem dJ6_bitCount_0f7a4_22 : decode cJ6_bitCount_0f7a4 22 = .ok (.iadd, 1) := by decide +kernel
theorem dJ6_bitCount_0f7a4_23 : decode cJ6_bitCount_0f7a4 23 = .ok (.istore_n 0, 1) := by decide +kernel
theorem dJ6_bitCount_0f7a4_24 : decode cJ6_bitCount_0f7a4 24 = .ok (.iload_n 0, 1) := by decide +kernel
theorem dJ6_bitCount_0f7a4_25 : decode cJ6_bitCount_0f7a4 25 = .ok (.iload_n 0, 1) := by decide +kernel
theorem dJ6_bitCount_0f7a4_26 : decode cJ6_bitCount_0f7a4 26 = .ok (.iconst 4, 1) := by decide +kernel
theorem dJ6_bitCount_0f7a4_27 : decode cJ6_bitCount_0f7a4 27 = .ok (.iushr, 1) := by decide +kernel
theorem dJ6_bitCount_0f7a4_28 : decode cJ6_bitCount_0f7a4 28 = .ok (.iadd, 1) := by decide +kernel
theorem dJ6_bitCount_0f7a4_29 : decode cJ6_bitCount_0f7a4 29 = .ok (.ldc_w 267, 3) := by decide +kernel
theorem dJ6_bitCount_0f7a4_32 : decode cJ6_bitCount_0f7a4 32 = .ok (.iand, 1) := by decide +kernel
theorem dJ6_bitCount_0f7a4_33 : decode cJ6_bitCount_0f7a4 33 = .ok (.istore_n 0, 1) := by decide +kernel
theorem dJ6_bitCount_0f7a4_34 : decode cJ6_bitCount_0f7a4 34 = .ok (.iload_n 0, 1) := by decide +kernel
theorem dJ6_bitCount_0f7a4_35 : decode cJ6_bitCount_0f7a4 35 = .ok (.iload_n 0, 1) := by decide +kernel
theorem dJ6_bitCount_0f7a4_36 : decode cJ6_bitCount_0f7a4 36 = .ok (.bipush 8, 2) := by decide +kernel
theorem dJ6_bitCount_0f7a4_38 : decode cJ6_bitCount_0f7a4 38 = .ok (.iushr, 1) := by decide +kernel
theorem dJ6_bitCount_0f7a4_39 : decode cJ6_bitCount_0f7a4 39 = .ok (.iadd, 1) := by decide +kernel
theorem dJ6_bitCount_0f7a4_40 : decode cJ6_bitCount_0f7a4 40 = .ok (.istore_n 0, 1) := by decide +kernel
theorem dJ6_bitCount_0f7a4_41 : decode cJ6_bitCount_0f7a4 41 = .ok (.iload_n 0, 1) := by decide +kernel
theorem dJ6_bitCount_0f7a4_42 : decode cJ6_bitCount_0f7a4 42 = .ok (.iload_n 0, 1) := by decide +kernel
theorem dJ6_bitCount_0f7a4_43 : decode cJ6_bitCount_0f7a4 43 = .ok (.bipush 16, 2) := by decide +kernel
theorem dJ6_bitCount_0f7a4_45 : decode cJ6_bitCount_0f7a4 45 = .ok (.iushr, 1) := by decide +kernel
theorem dJ6_bitCount_0f7a4_46 : decode cJ6_bitCount_0f7a4 46 = .ok (.iadd, 1) := by decide +kernel
theorem dJ6_bitCount_0f7a4_47 : decode cJ6_bitCount_0f7a4 47 = .ok (.istore_n 0, 1) := by decide +kernel
theorem dJ6_bitCount_0f7a4_48 : decode cJ6_bitCount_0f7a4 48 = .ok (.iload_n 0, 1) := by decide +kernel
theorem dJ6_bitCount_0f7a4_49 : decode cJ6_bitCount_0f7a4 49 = .ok (.bipush 63, 2) := by decide +kernel
theorem dJ6_bitCount_0f7a4_51 : decode cJ6_bitCount_0f7a4 51 = .ok (.iand, 1) := by decide +kernel
theorem dJ6_bitCount_0f7a4_52 : decode cJ6_bitCount_0f7a4 52 = .ok (.ireturn, 1) := by decide +kernel
theorem dJ9_max_7cf53_0 : decode cJ9_max_7cf53 0 = .ok (.iload_n 0, 1) := by decide +kernel
theorem dJ9_max_7cf53_1 : decode cJ9_max_7cf53 1 = .ok (.iload_n 1, 1) := by decide +kernel
theorem dJ9_max_7cf53_2 : decode cJ9_max_7cf53 2 = .ok (.if_icmp .lt 7, 3) := by decide +kernel
theorem dJ9_max_7cf53_5 : decode cJ9_max_7cf53 5 = .ok (.iload_n 0, 1) := by decide +kernel
theorem dJ9_max_7cf53_6 : decode cJ9_max_7cf53 6 = .ok (.goto 4, 3) := by decide +kernel
theorem dJ9_max_7cf53_9 : decode cJ9_max_7cf53 9 = .ok (.iload_n 1, 1) := by decide +kernel
theorem dJ9_max_7cf53_10 : decode cJ9_max_7cf53 10 = .ok (.ireturn, 1) := by decide +kernel
theorem dJ9_min_7cf53_0 : decode cJ9_min_7cf53 0 = .ok (.iload_n 0, 1) := by decide +kernel
theorem dJ9_min_7cf53_1 : decode cJ9_min_7cf53 1 = .ok (.iload_n 1, 1) := by decide +kernel
theorem dJ9_min_7cf53_2 : decode cJ9_min_7cf53 2 = .ok (.if_icmp .gt 7, 3) := by decide +kernel
theorem dJ9_min_7cf53_5 : decode cJ9_min_7cf53 5 = .ok (.iload_n 0, 1) := by decide +kernel
theorem dJ9_min_7cf53_6 : decode cJ9_min_7cf53 6 = .ok (.goto 4, 3) := by decide +kernel
theorem dJ9_min_7cf53_9 : decode cJ9_min_7cf53 9 = .ok (.iload_n 1, 1) := by decide +kernel
theorem dJ9_min_7cf53_10 : decode cJ9_min_7cf53 10 = .ok (.ireturn, 1) := by decide +kernel
theorem dJ7_fill_53178_0 : decode cJ7_fill_53178 0 = .ok (.iconst 0, 1) := by decide +kernel
theorem dJ7_fill_53178_1 : decode cJ7_fill_53178 1 = .ok (.istore_n 2, 1) := by decide +kernel
theorem dJ7_fill_53178_2 : decode cJ7_fill_53178 2 = .ok (.aload_n 0, 1) := by decide +kernel
theorem dJ7_fill_53178_3 : decode cJ7_fill_53178 3 = .ok (.arraylength, 1) := by decide +kernel
theorem dJ7_fill_53178_4 : decode cJ7_fill_53178 4 = .ok (.istore_n 3, 1) := by decide +kernel
theorem dJ7_fill_53178_5 : decode cJ7_fill_53178 5 = .ok (.iload_n 2, 1) := by decide +kernel
theorem dJ7_fill_53178_6 : decode cJ7_fill_53178 6 = .ok (.iload_n 3, 1) := by decide +kernel
theorem dJ7_fill_53178_7 : decode cJ7_fill_53178 7 = .ok (.if_icmp .ge 13, 3) := by decide +kernel
theorem dJ7_fill_53178_10 : decode cJ7_fill_53178 10 = .ok (.aload_n 0, 1) := by decide +kernel
theorem dJ7_fill_53178_11 : decode cJ7_fill_53178 11 = .ok (.iload_n 2, 1) := by decide +kernel
theorem dJ7_fill_53178_12 : decode cJ7_fill_53178 12 = .ok (.iload_n 1, 1) := by decide +kernel
theorem dJ7_fill_53178_13 : decode cJ7_fill_53178 13 = .ok (.iastore, 1) := by decide +kernel
theorem dJ7_fill_53178_14 : decode cJ7_fill_53178 14 = .ok (.iinc 2 1, 3) := by decide +kernel
theorem dJ7_fill_53178_17 : decode cJ7_fill_53178 17 = .ok (.goto (-12), 3) := by decide +kernel
theorem dJ7_fill_53178_20 : decode cJ7_fill_53178 20 = .ok (.return_, 1) := by decide +kernel
abbrev vwCl : List vw_C := [(RX0, TX0, 8), (RX1, TX1, 5), (RX2, TX2, 6), (RX3, TX3, 5), (RX4, TX4, 3), (RX5, TX5, 5), (RX6, TX6, 11), (RX7, TX7, 37)]
