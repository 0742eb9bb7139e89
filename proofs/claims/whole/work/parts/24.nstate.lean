set_option maxRecDepth 20000 in
theorem ggX7_init_X5_init : GoodIn wsX7_init wsX5_init := goodIn_r _ [22, 23, 2, 3, 24, 25, 50, 51] (by decide +kernel) (by decide +kernel)
set_option maxRecDepth 20000 in
theorem gX7_init_X5_init : GoodIn wsX7_init (wsX5_init) := ggX7_init_X5_init
set_option maxRecDepth 20000 in
theorem ggX7_init_X2_init : GoodIn wsX7_init wsX2_init := goodIn_r _ [27, 28, 2, 3, 29, 5, 6, 30, 31, 32, 33, 34, 21, 22, 23, 24, 25, 50, 51, 61, 62, 63, 64] (by decide +kernel) (by decide +kernel)
set_option maxRecDepth 20000 in
theorem gX7_init_X2_init_n28 : GoodIn wsX7_init (wsX2_init) := ggX7_init_X2_init
set_option maxRecDepth 20000 in
theorem ggX7_init_X6_init : GoodIn wsX7_init wsX6_init := goodIn_r _ [36, 37, 2, 3, 38, 5, 6, 39, 40, 21, 22, 23, 24, 25, 50, 51, 65, 66, 67] (by decide +kernel) (by decide +kernel)
set_option maxRecDepth 20000 in
theorem gX7_init_X6_init_n45 : GoodIn wsX7_init (wsX6_init) := ggX7_init_X6_init
set_option maxRecDepth 20000 in
theorem ggX7_init_X5_fill : GoodIn wsX7_init wsX5_fill := goodIn_r _ [44, 45, 46, 47, 48, 6, 49, 25, 50, 51] (by decide +kernel) (by decide +kernel)
set_option maxRecDepth 20000 in
theorem gX7_init_X5_fill : GoodIn wsX7_init (wsV RX7 46 RX5 yX5_fill wsX5_fill) := goodIn_app (goodIn_of _ (by decide +kernel)) ggX7_init_X5_fill
theorem dX7_init_0 : decode cX7_init 0 = .ok (.aload_n 0, 1) := by decide +kernel
theorem dX7_init_1 : decode cX7_init 1 = .ok (.invokespecial 3, 3) := by decide +kernel
theorem dX7_init_4 : decode cX7_init 4 = .ok (.aload_n 0, 1) := by decide +kernel
theorem dX7_init_5 : decode cX7_init 5 = .ok (.new 9, 3) := by decide +kernel
theorem dX7_init_8 : decode cX7_init 8 = .ok (.dup, 1) := by decide +kernel
theorem dX7_init_9 : decode cX7_init 9 = .ok (.bipush 100, 2) := by decide +kernel
theorem dX7_init_11 : decode cX7_init 11 = .ok (.invokespecial 11, 3) := by decide +kernel
theorem dX7_init_14 : decode cX7_init 14 = .ok (.putfield 14, 3) := by decide +kernel
theorem dX7_init_17 : decode cX7_init 17 = .ok (.aload_n 0, 1) := by decide +kernel
theorem dX7_init_18 : decode cX7_init 18 = .ok (.bipush 8, 2) := by decide +kernel
theorem dX7_init_20 : decode cX7_init 20 = .ok (.anewarray 20, 3) := by decide +kernel
theorem dX7_init_23 : decode cX7_init 23 = .ok (.putfield 22, 3) := by decide +kernel
theorem dX7_init_26 : decode cX7_init 26 = .ok (.aload_n 0, 1) := by decide +kernel
theorem dX7_init_27 : decode cX7_init 27 = .ok (.new 26, 3) := by decide +kernel
theorem dX7_init_30 : decode cX7_init 30 = .ok (.dup, 1) := by decide +kernel
theorem dX7_init_31 : decode cX7_init 31 = .ok (.invokespecial 28, 3) := by decide +kernel
theorem dX7_init_34 : decode cX7_init 34 = .ok (.putfield 29, 3) := by decide +kernel
theorem dX7_init_37 : decode cX7_init 37 = .ok (.aload_n 0, 1) := by decide +kernel
theorem dX7_init_38 : decode cX7_init 38 = .ok (.new 9, 3) := by decide +kernel
theorem dX7_init_41 : decode cX7_init 41 = .ok (.dup, 1) := by decide +kernel
theorem dX7_init_42 : decode cX7_init 42 = .ok (.iconst 5, 1) := by decide +kernel
theorem dX7_init_43 : decode cX7_init 43 = .ok (.invokespecial 11, 3) := by decide +kernel
theorem dX7_init_46 : decode cX7_init 46 = .ok (.putfield 33, 3) := by decide +kernel
theorem dX7_init_49 : decode cX7_init 49 = .ok (.aload_n 0, 1) := by decide +kernel
theorem dX7_init_50 : decode cX7_init 50 = .ok (.new 9, 3) := by decide +kernel
theorem dX7_init_53 : decode cX7_init 53 = .ok (.dup, 1) := by decide +kernel
theorem dX7_init_54 : decode cX7_init 54 = .ok (.bipush 6, 2) := by decide +kernel
theorem dX7_init_56 : decode cX7_init 56 = .ok (.invokespecial 11, 3) := by decide +kernel
theorem dX7_init_59 : decode cX7_init 59 = .ok (.putfield 36, 3) := by decide +kernel
theorem dX7_init_62 : decode cX7_init 62 = .ok (.aload_n 0, 1) := by decide +kernel
theorem dX7_init_63 : decode cX7_init 63 = .ok (.new 9, 3) := by decide +kernel
theorem dX7_init_66 : decode cX7_init 66 = .ok (.dup, 1) := by decide +kernel
theorem dX7_init_67 : decode cX7_init 67 = .ok (.bipush 6, 2) := by decide +kernel
theorem dX7_init_69 : decode cX7_init 69 = .ok (.invokespecial 11, 3) := by decide +kernel
theorem dX7_init_72 : decode cX7_init 72 = .ok (.putfield 39, 3) := by decide +kernel
theorem dX7_init_75 : decode cX7_init 75 = .ok (.aload_n 0, 1) := by decide +kernel
theorem dX7_init_76 : decode cX7_init 76 = .ok (.new 9, 3) := by decide +kernel
theorem dX7_init_79 : decode cX7_init 79 = .ok (.dup, 1) := by decide +kernel
theorem dX7_init_80 : decode cX7_init 80 = .ok (.bipush 6, 2) := by decide +kernel
theorem dX7_init_82 : decode cX7_init 82 = .ok (.invokespecial 11, 3) := by decide +kernel
theorem dX7_init_85 : decode cX7_init 85 = .ok (.putfield 42, 3) := by decide +kernel
theorem dX7_init_88 : decode cX7_init 88 = .ok (.iconst 0, 1) := by decide +kernel
theorem dX7_init_89 : decode cX7_init 89 = .ok (.istore_n 1, 1) := by decide +kernel
theorem dX7_init_90 : decode cX7_init 90 = .ok (.iload_n 1, 1) := by decide +kernel
theorem dX7_init_91 : decode cX7_init 91 = .ok (.aload_n 0, 1) := by decide +kernel
theorem dX7_init_92 : decode cX7_init 92 = .ok (.getfield 22, 3) := by decide +kernel
theorem dX7_init_95 : decode cX7_init 95 = .ok (.arraylength, 1) := by decide +kernel
theorem dX7_init_96 : decode cX7_init 96 = .ok (.if_icmp .ge 22, 3) := by decide +kernel
theorem dX7_init_99 : decode cX7_init 99 = .ok (.aload_n 0, 1) := by decide +kernel
theorem dX7_init_100 : decode cX7_init 100 = .ok (.getfield 22, 3) := by decide +kernel
theorem dX7_init_103 : decode cX7_init 103 = .ok (.iload_n 1, 1) := by decide +kernel
theorem dX7_init_104 : decode cX7_init 104 = .ok (.new 20, 3) := by decide +kernel
theorem dX7_init_107 : decode cX7_init 107 = .ok (.dup, 1) := by decide +kernel
theorem dX7_init_108 : decode cX7_init 108 = .ok (.invokespecial 45, 3) := by decide +kernel
theorem dX7_init_111 : decode cX7_init 111 = .ok (.aastore, 1) := by decide +kernel
theorem dX7_init_112 : decode cX7_init 112 = .ok (.iinc 1 1, 3) := by decide +kernel
theorem dX7_init_115 : decode cX7_init 115 = .ok (.goto (-25), 3) := by decide +kernel
theorem dX7_init_118 : decode cX7_init 118 = .ok (.aload_n 0, 1) := by decide +kernel
theorem dX7_init_119 : decode cX7_init 119 = .ok (.getfield 33, 3) := by decide +kernel
theorem dX7_init_122 : decode cX7_init 122 = .ok (.iconst 5, 1) := by decide +kernel
theorem dX7_init_123 : decode cX7_init 123 = .ok (.iconst 0, 1) := by decide +kernel
theorem dX7_init_124 : decode cX7_init 124 = .ok (.invokevirtual 46, 3) := by decide +kernel
theorem dX7_init_127 : decode cX7_init 127 = .ok (.aload_n 0, 1) := by decide +kernel
theorem dX7_init_128 : decode cX7_init 128 = .ok (.getfield 36, 3) := by decide +kernel
theorem dX7_init_131 : decode cX7_init 131 = .ok (.bipush 6, 2) := by decide +kernel
theorem dX7_init_133 : decode cX7_init 133 = .ok (.iconst 0, 1) := by decide +kernel
theorem dX7_init_134 : decode cX7_init 134 = .ok (.invokevirtual 46, 3) := by decide +kernel
theorem dX7_init_137 : decode cX7_init 137 = .ok (.aload_n 0, 1) := by decide +kernel
theorem dX7_init_138 : decode cX7_init 138 = .ok (.getfield 39, 3) := by decide +kernel
theorem dX7_init_141 : decode cX7_init 141 = .ok (.bipush 6, 2) := by decide +kernel
theorem dX7_init_143 : decode cX7_init 143 = .ok (.iconst 0, 1) := by decide +kernel
theorem dX7_init_144 : decode cX7_init 144 = .ok (.invokevirtual 46, 3) := by decide +kernel
theorem dX7_init_147 : decode cX7_init 147 = .ok (.aload_n 0, 1) := by decide +kernel
theorem dX7_init_148 : decode cX7_init 148 = .ok (.getfield 42, 3) := by decide +kernel
theorem dX7_init_151 : decode cX7_init 151 = .ok (.bipush 6, 2) := by decide +kernel
theorem dX7_init_153 : decode cX7_init 153 = .ok (.iconst 0, 1) := by decide +kernel
theorem dX7_init_154 : decode cX7_init 154 = .ok (.invokevirtual 46, 3) := by decide +kernel
theorem dX7_init_157 : decode cX7_init 157 = .ok (.return_, 1) := by decide +kernel
set_option maxRecDepth 20000 in
theorem ggX7_copyFrom_X5_copyFrom : GoodIn wsX7_copyFrom wsX5_copyFrom := goodIn_r _ [13, 14, 15, 53, 54] (by decide +kernel) (by decide +kernel)
set_option maxRecDepth 20000 in
theorem gX7_copyFrom_X5_copyFrom : GoodIn wsX7_copyFrom (wsV RX7 50 RX5 yX5_copyFrom wsX5_copyFrom) := goodIn_app (goodIn_of _ (by decide +kernel)) ggX7_copyFrom_X5_copyFrom
set_option maxRecDepth 20000 in
theorem ggX7_copyFrom_X2_copyFrom : GoodIn wsX7_copyFrom wsX2_copyFrom := goodIn_r _ [20, 21, 22, 23, 24, 25, 10, 11, 12, 13, 14, 15, 55, 56, 57, 58, 53, 54] (by decide +kernel) (by decide +kernel)
set_option maxRecDepth 20000 in
theorem gX7_copyFrom_X2_copyFrom : GoodIn wsX7_copyFrom (wsV RX7 54 RX2 yX2_copyFrom wsX2_copyFrom) := goodIn_app (goodIn_of _ (by decide +kernel)) ggX7_copyFrom_X2_copyFrom
set_option maxRecDepth 20000 in
theorem ggX7_copyFrom_X7_sheetNumbered : GoodIn wsX7_copyFrom wsX7_sheetNumbered := goodIn_r _ [30, 8, 31, 44, 45, 46, 47, 48, 49, 50, 51, 52] (by decide +kernel) (by decide +kernel)
set_option maxRecDepth 20000 in
theorem gX7_copyFrom_X7_sheetNumbered : GoodIn wsX7_copyFrom (wsV RX7 64 RX7 yX7_sheetNumbered wsX7_sheetNumbered) := goodIn_app (goodIn_of _ (by decide +kernel)) ggX7_copyFrom_X7_sheetNumbered
set_option maxRecDepth 20000 in
theorem ggX7_copyFrom_X7_copySheet : GoodIn wsX7_copyFrom wsX7_copySheet := goodIn_r _ [34, 35, 36, 37, 38, 39, 40, 41, 42, 43, 10, 11, 12, 13, 14, 15, 59, 60, 61, 53, 54] (by decide +kernel) (by decide +kernel)
set_option maxRecDepth 20000 in
theorem gX7_copyFrom_X7_copySheet : GoodIn wsX7_copyFrom (va_wsS RX7 68 yX7_copySheet wsX7_copySheet) := goodIn_app (goodIn_of _ (by decide +kernel)) ggX7_copyFrom_X7_copySheet
theorem dX7_copyFrom_0 : decode cX7_copyFrom 0 = .ok (.aload_n 0, 1) := by decide +kernel
theorem dX7_copyFrom_1 : decode cX7_copyFrom 1 = .ok (.getfield 14, 3) := by decide +kernel
theorem dX7_copyFrom_4 : decode cX7_copyFrom 4 = .ok (.aload_n 1, 1) := by decide +kernel
theorem dX7_copyFrom_5 : decode cX7_copyFrom 5 = .ok (.getfield 14, 3) := by decide +kernel
theorem dX7_copyFrom_8 : decode cX7_copyFrom 8 = .ok (.invokevirtual 50, 3) := by decide +kernel
theorem dX7_copyFrom_11 : decode cX7_copyFrom 11 = .ok (.aload_n 0, 1) := by decide +kernel
theorem dX7_copyFrom_12 : decode cX7_copyFrom 12 = .ok (.getfield 29, 3) := by decide +kernel
theorem dX7_copyFrom_15 : decode cX7_copyFrom 15 = .ok (.aload_n 1, 1) := by decide +kernel
theorem dX7_copyFrom_16 : decode cX7_copyFrom 16 = .ok (.getfield 29, 3) := by decide +kernel
theorem dX7_copyFrom_19 : decode cX7_copyFrom 19 = .ok (.invokevirtual 54, 3) := by decide +kernel
theorem dX7_copyFrom_22 : decode cX7_copyFrom 22 = .ok (.aload_n 0, 1) := by decide +kernel
theorem dX7_copyFrom_23 : decode cX7_copyFrom 23 = .ok (.getfield 33, 3) := by decide +kernel
theorem dX7_copyFrom_26 : decode cX7_copyFrom 26 = .ok (.aload_n 1, 1) := by decide +kernel
theorem dX7_copyFrom_27 : decode cX7_copyFrom 27 = .ok (.getfield 33, 3) := by decide +kernel
theorem dX7_copyFrom_30 : decode cX7_copyFrom 30 = .ok (.invokevirtual 50, 3) := by decide +kernel
theorem dX7_copyFrom_33 : decode cX7_copyFrom 33 = .ok (.aload_n 0, 1) := by decide +kernel
theorem dX7_copyFrom_34 : decode cX7_copyFrom 34 = .ok (.getfield 36, 3) := by decide +kernel
theorem dX7_copyFrom_37 : decode cX7_copyFrom 37 = .ok (.aload_n 1, 1) := by decide +kernel
theorem dX7_copyFrom_38 : decode cX7_copyFrom 38 = .ok (.getfield 36, 3) := by decide +kernel
theorem dX7_copyFrom_41 : decode cX7_copyFrom 41 = .ok (.invokevirtual 50, 3) := by decide +kernel
theorem dX7_copyFrom_44 : decode cX7_copyFrom 44 = .ok (.aload_n 0, 1) := by decide +kernel
theorem dX7_copyFrom_45 : decode cX7_copyFrom 45 = .ok (.getfield 39, 3) := by decide +kernel
theorem dX7_copyFrom_48 : decode cX7_copyFrom 48 = .ok (.aload_n 1, 1) := by decide +kernel
theorem dX7_copyFrom_49 : decode cX7_copyFrom 49 = .ok (.getfield 39, 3) := by decide +kernel
theorem dX7_copyFrom_52 : decode cX7_copyFrom 52 = .ok (.invokevirtual 50, 3) := by decide +kernel
theorem dX7_copyFrom_55 : decode cX7_copyFrom 55 = .ok (.aload_n 0, 1) := by decide +kernel
theorem dX7_copyFrom_56 : decode cX7_copyFrom 56 = .ok (.getfield 42, 3) := by decide +kernel
theorem dX7_copyFrom_59 : decode cX7_copyFrom 59 = .ok (.aload_n 1, 1) := by decide +kernel
theorem dX7_copyFrom_60 : decode cX7_copyFrom 60 = .ok (.getfield 42, 3) := by decide +kernel
theorem dX7_copyFrom_63 : decode cX7_copyFrom 63 = .ok (.invokevirtual 50, 3) := by decide +kernel
theorem dX7_copyFrom_66 : decode cX7_copyFrom 66 = .ok (.aload_n 0, 1) := by decide +kernel
theorem dX7_copyFrom_67 : decode cX7_copyFrom 67 = .ok (.aload_n 1, 1) := by decide +kernel
theorem dX7_copyFrom_68 : decode cX7_copyFrom 68 = .ok (.getfield 57, 3) := by decide +kernel
theorem dX7_copyFrom_71 : decode cX7_copyFrom 71 = .ok (.putfield 57, 3) := by decide +kernel
theorem dX7_copyFrom_74 : decode cX7_copyFrom 74 = .ok (.aload_n 0, 1) := by decide +kernel
theorem dX7_copyFrom_75 : decode cX7_copyFrom 75 = .ok (.aload_n 1, 1) := by decide +kernel
theorem dX7_copyFrom_76 : decode cX7_copyFrom 76 = .ok (.getfield 61, 3) := by decide +kernel
theorem dX7_copyFrom_79 : decode cX7_copyFrom 79 = .ok (.putfield 61, 3) := by decide +kernel
theorem dX7_copyFrom_82 : decode cX7_copyFrom 82 = .ok (.iconst 0, 1) := by decide +kernel
theorem dX7_copyFrom_83 : decode cX7_copyFrom 83 = .ok (.istore_n 2, 1) := by decide +kernel
theorem dX7_copyFrom_84 : decode cX7_copyFrom 84 = .ok (.iload_n 2, 1) := by decide +kernel
theorem dX7_copyFrom_85 : decode cX7_copyFrom 85 = .ok (.aload_n 0, 1) := by decide +kernel
theorem dX7_copyFrom_86 : decode cX7_copyFrom 86 = .ok (.getfield 61, 3) := by decide +kernel
theorem dX7_copyFrom_89 : decode cX7_copyFrom 89 = .ok (.if_icmp .ge 22, 3) := by decide +kernel
theorem dX7_copyFrom_92 : decode cX7_copyFrom 92 = .ok (.aload_n 0, 1) := by decide +kernel
theorem dX7_copyFrom_93 : decode cX7_copyFrom 93 = .ok (.iload_n 2, 1) := by decide +kernel
theorem dX7_copyFrom_94 : decode cX7_copyFrom 94 = .ok (.invokevirtual 64, 3) := by decide +kernel
theorem dX7_copyFrom_97 : decode cX7_copyFrom 97 = .ok (.aload_n 1, 1) := by decide +kernel
theorem dX7_copyFrom_98 : decode cX7_copyFrom 98 = .ok (.iload_n 2, 1) := by decide +kernel
theorem dX7_copyFrom_99 : decode cX7_copyFrom 99 = .ok (.invokevirtual 64, 3) := by decide +kernel
theorem dX7_copyFrom_102 : decode cX7_copyFrom 102 = .ok (.invokestatic 68, 3) := by decide +kernel
theorem dX7_copyFrom_105 : decode cX7_copyFrom 105 = .ok (.iinc 2 1, 3) := by decide +kernel
theorem dX7_copyFrom_108 : decode cX7_copyFrom 108 = .ok (.goto (-24), 3) := by decide +kernel
theorem dX7_copyFrom_111 : decode cX7_copyFrom 111 = .ok (.return_, 1) := by decide +kernel
set_option maxRecDepth 20000 in
theorem ggX7_copySheet_X6_copyFrom : GoodIn wsX7_copySheet wsX6_copyFrom := goodIn_r _ [5, 6, 7, 8, 9, 10, 11, 12, 13, 14, 15, 16, 17, 18, 19, 20] (by decide +kernel) (by decide +kernel)
set_option maxRecDepth 20000 in
theorem gX7_copySheet_X6_copyFrom : GoodIn wsX7_copySheet (wsV RX7 72 RX6 yX6_copyFrom wsX6_copyFrom) := goodIn_app (goodIn_of _ (by decide +kernel)) ggX7_copySheet_X6_copyFrom
theorem dX7_copySheet_0 : decode cX7_copySheet 0 = .ok (.aload_n 0, 1) := by decide +kernel
theorem dX7_copySheet_1 : decode cX7_copySheet 1 = .ok (.ifnull 12, 3) := by decide +kernel
theorem dX7_copySheet_4 : decode cX7_copySheet 4 = .ok (.aload_n 1, 1) := by decide +kernel
theorem dX7_copySheet_5 : decode cX7_copySheet 5 = .ok (.ifnull 8, 3) := by decide +kernel
theorem dX7_copySheet_8 : decode cX7_copySheet 8 = .ok (.aload_n 0, 1) := by decide +kernel
theorem dX7_copySheet_9 : decode cX7_copySheet 9 = .ok (.aload_n 1, 1) := by decide +kernel
theorem dX7_copySheet_10 : decode cX7_copySheet 10 = .ok (.invokevirtual 72, 3) := by decide +kernel
theorem dX7_copySheet_13 : decode cX7_copySheet 13 = .ok (.return_, 1) := by decide +kernel
theorem dX7_sheetNumbered_0 : decode cX7_sheetNumbered 0 = .ok (.iload_n 1, 1) := by decide +kernel
theorem dX7_sheetNumbered_1 : decode cX7_sheetNumbered 1 = .ok (.ifCond .lt 20, 3) := by decide +kernel
theorem dX7_sheetNumbered_4 : decode cX7_sheetNumbered 4 = .ok (.iload_n 1, 1) := by decide +kernel
theorem dX7_sheetNumbered_5 : decode cX7_sheetNumbered 5 = .ok (.aload_n 0, 1) := by decide +kernel
theorem dX7_sheetNumbered_6 : decode cX7_sheetNumbered 6 = .ok (.getfield 61, 3) := by decide +kernel
theorem dX7_sheetNumbered_9 : decode cX7_sheetNumbered 9 = .ok (.if_icmp .ge 12, 3) := by decide +kernel
theorem dX7_sheetNumbered_12 : decode cX7_sheetNumbered 12 = .ok (.iload_n 1, 1) := by decide +kernel
theorem dX7_sheetNumbered_13 : decode cX7_sheetNumbered 13 = .ok (.aload_n 0, 1) := by decide +kernel
theorem dX7_sheetNumbered_14 : decode cX7_sheetNumbered 14 = .ok (.getfield 22, 3) := by decide +kernel
theorem dX7_sheetNumbered_17 : decode cX7_sheetNumbered 17 = .ok (.arraylength, 1) := by decide +kernel
theorem dX7_sheetNumbered_18 : decode cX7_sheetNumbered 18 = .ok (.if_icmp .lt 5, 3) := by decide +kernel
theorem dX7_sheetNumbered_21 : decode cX7_sheetNumbered 21 = .ok (.aconst_null, 1) := by decide +kernel
theorem dX7_sheetNumbered_22 : decode cX7_sheetNumbered 22 = .ok (.areturn, 1) := by decide +kernel
theorem dX7_sheetNumbered_23 : decode cX7_sheetNumbered 23 = .ok (.aload_n 0, 1) := by decide +kernel
theorem dX7_sheetNumbered_24 : decode cX7_sheetNumbered 24 = .ok (.getfield 22, 3) := by decide +kernel
theorem dX7_sheetNumbered_27 : decode cX7_sheetNumbered 27 = .ok (.iload_n 1, 1) := by decide +kernel
theorem dX7_sheetNumbered_28 : decode cX7_sheetNumbered 28 = .ok (.aaload, 1) := by decide +kernel
theorem dX7_sheetNumbered_29 : decode cX7_sheetNumbered 29 = .ok (.areturn, 1) := by decide +kernel
set_option maxRecDepth 20000 in
theorem ggX7_addSheet_X7_sheetNumbered : GoodIn wsX7_addSheet wsX7_sheetNumbered := goodIn_r _ [7, 1, 8, 40, 41, 42, 43, 44, 45, 46, 47, 48] (by decide +kernel) (by decide +kernel)
set_option maxRecDepth 20000 in
theorem gX7_addSheet_X7_sheetNumbered : GoodIn wsX7_addSheet (wsV RX7 64 RX7 yX7_sheetNumbered wsX7_sheetNumbered) := goodIn_app (goodIn_of _ (by decide +kernel)) ggX7_addSheet_X7_sheetNumbered
set_option maxRecDepth 20000 in
theorem ggX7_addSheet_X6_startFor : GoodIn wsX7_addSheet wsX6_startFor := goodIn_r _ [13, 14, 15, 16, 17, 18, 19, 20, 21, 22, 49, 50, 51, 52, 53] (by decide +kernel) (by decide +kernel)
set_option maxRecDepth 20000 in
theorem gX7_addSheet_X6_startFor : GoodIn wsX7_addSheet (wsV RX7 75 RX6 yX6_startFor wsX6_startFor) := goodIn_app (goodIn_of _ (by decide +kernel)) ggX7_addSheet_X6_startFor
set_option maxRecDepth 20000 in
theorem ggX7_addSheet_X5_add : GoodIn wsX7_addSheet wsX5_add := goodIn_r _ [26, 27, 28, 29, 20, 30, 31, 32, 33, 34, 35, 22, 36, 37, 38, 39, 52, 53] (by decide +kernel) (by decide +kernel)
set_option maxRecDepth 20000 in
theorem gX7_addSheet_X5_add : GoodIn wsX7_addSheet (wsV RX7 78 RX5 yX5_add wsX5_add) := goodIn_app (goodIn_of _ (by decide +kernel)) ggX7_addSheet_X5_add
theorem dX7_addSheet_0 : decode cX7_addSheet 0 = .ok (.aload_n 0, 1) := by decide +kernel
theorem dX7_addSheet_1 : decode cX7_addSheet 1 = .ok (.dup, 1) := by decide +kernel
theorem dX7_addSheet_2 : decode cX7_addSheet 2 = .ok (.getfield 61, 3) := by decide +kernel
theorem dX7_addSheet_5 : decode cX7_addSheet 5 = .ok (.iconst 1, 1) := by decide +kernel
theorem dX7_addSheet_6 : decode cX7_addSheet 6 = .ok (.iadd, 1) := by decide +kernel
theorem dX7_addSheet_7 : decode cX7_addSheet 7 = .ok (.putfield 61, 3) := by decide +kernel
theorem dX7_addSheet_10 : decode cX7_addSheet 10 = .ok (.aload_n 0, 1) := by decide +kernel
theorem dX7_addSheet_11 : decode cX7_addSheet 11 = .ok (.aload_n 0, 1) := by decide +kernel
theorem dX7_addSheet_12 : decode cX7_addSheet 12 = .ok (.getfield 61, 3) := by decide +kernel
theorem dX7_addSheet_15 : decode cX7_addSheet 15 = .ok (.iconst 1, 1) := by decide +kernel
theorem dX7_addSheet_16 : decode cX7_addSheet 16 = .ok (.isub, 1) := by decide +kernel
theorem dX7_addSheet_17 : decode cX7_addSheet 17 = .ok (.invokevirtual 64, 3) := by decide +kernel
theorem dX7_addSheet_20 : decode cX7_addSheet 20 = .ok (.astore_n 2, 1) := by decide +kernel
theorem dX7_addSheet_21 : decode cX7_addSheet 21 = .ok (.aload_n 2, 1) := by decide +kernel
theorem dX7_addSheet_22 : decode cX7_addSheet 22 = .ok (.ifnull 8, 3) := by decide +kernel
theorem dX7_addSheet_25 : decode cX7_addSheet 25 = .ok (.aload_n 2, 1) := by decide +kernel
theorem dX7_addSheet_26 : decode cX7_addSheet 26 = .ok (.iload_n 1, 1) := by decide +kernel
theorem dX7_addSheet_27 : decode cX7_addSheet 27 = .ok (.invokevirtual 75, 3) := by decide +kernel
theorem dX7_addSheet_30 : decode cX7_addSheet 30 = .ok (.aload_n 0, 1) := by decide +kernel
theorem dX7_addSheet_31 : decode cX7_addSheet 31 = .ok (.getfield 36, 3) := by decide +kernel
theorem dX7_addSheet_34 : decode cX7_addSheet 34 = .ok (.iload_n 1, 1) := by decide +kernel
theorem dX7_addSheet_35 : decode cX7_addSheet 35 = .ok (.iconst 1, 1) := by decide +kernel
theorem dX7_addSheet_36 : decode cX7_addSheet 36 = .ok (.invokevirtual 78, 3) := by decide +kernel
theorem dX7_addSheet_39 : decode cX7_addSheet 39 = .ok (.aload_n 0, 1) := by decide +kernel
theorem dX7_addSheet_40 : decode cX7_addSheet 40 = .ok (.getfield 61, 3) := by decide +kernel
theorem dX7_addSheet_43 : decode cX7_addSheet 43 = .ok (.iconst 1, 1) := by decide +kernel
theorem dX7_addSheet_44 : decode cX7_addSheet 44 = .ok (.isub, 1) := by decide +kernel
theorem dX7_addSheet_45 : decode cX7_addSheet 45 = .ok (.ireturn, 1) := by decide +kernel
set_option maxRecDepth 20000 in
theorem ggX7_hasSheetOut_X7_sheetNumbered : GoodIn wsX7_hasSheetOut wsX7_sheetNumbered := goodIn_r _ [6, 1, 7, 8, 9, 10, 11, 12, 13, 14, 15, 16] (by decide +kernel) (by decide +kernel)
set_option maxRecDepth 20000 in
theorem gX7_hasSheetOut_X7_sheetNumbered : GoodIn wsX7_hasSheetOut (wsV RX7 64 RX7 yX7_sheetNumbered wsX7_sheetNumbered) := goodIn_app (goodIn_of _ (by decide +kernel)) ggX7_hasSheetOut_X7_sheetNumbered
theorem dX7_hasSheetOut_0 : decode cX7_hasSheetOut 0 = .ok (.iconst 0, 1) := by decide +kernel
theorem dX7_hasSheetOut_1 : decode cX7_hasSheetOut 1 = .ok (.istore_n 2, 1) := by decide +kernel
theorem dX7_hasSheetOut_2 : decode cX7_hasSheetOut 2 = .ok (.iload_n 2, 1) := by decide +kernel
theorem dX7_hasSheetOut_3 : decode cX7_hasSheetOut 3 = .ok (.aload_n 0, 1) := by decide +kernel
theorem dX7_hasSheetOut_4 : decode cX7_hasSheetOut 4 = .ok (.getfield 61, 3) := by decide +kernel
theorem dX7_hasSheetOut_7 : decode cX7_hasSheetOut 7 = .ok (.if_icmp .ge 36, 3) := by decide +kernel
theorem dX7_hasSheetOut_10 : decode cX7_hasSheetOut 10 = .ok (.aload_n 0, 1) := by decide +kernel
theorem dX7_hasSheetOut_11 : decode cX7_hasSheetOut 11 = .ok (.iload_n 2, 1) := by decide +kernel
theorem dX7_hasSheetOut_12 : decode cX7_hasSheetOut 12 = .ok (.invokevirtual 64, 3) := by decide +kernel
theorem dX7_hasSheetOut_15 : decode cX7_hasSheetOut 15 = .ok (.astore_n 3, 1) := by decide +kernel
theorem dX7_hasSheetOut_16 : decode cX7_hasSheetOut 16 = .ok (.aload_n 3, 1) := by decide +kernel
theorem dX7_hasSheetOut_17 : decode cX7_hasSheetOut 17 = .ok (.ifnull 20, 3) := by decide +kernel
theorem dX7_hasSheetOut_20 : decode cX7_hasSheetOut 20 = .ok (.aload_n 3, 1) := by decide +kernel
theorem dX7_hasSheetOut_21 : decode cX7_hasSheetOut 21 = .ok (.getfield 81, 3) := by decide +kernel
theorem dX7_hasSheetOut_24 : decode cX7_hasSheetOut 24 = .ok (.iload_n 1, 1) := by decide +kernel
theorem dX7_hasSheetOut_25 : decode cX7_hasSheetOut 25 = .ok (.if_icmp .ne 12, 3) := by decide +kernel
theorem dX7_hasSheetOut_28 : decode cX7_hasSheetOut 28 = .ok (.aload_n 3, 1) := by decide +kernel
theorem dX7_hasSheetOut_29 : decode cX7_hasSheetOut 29 = .ok (.getfield 84, 3) := by decide +kernel
theorem dX7_hasSheetOut_32 : decode cX7_hasSheetOut 32 = .ok (.ifCond .ne 5, 3) := by decide +kernel
theorem dX7_hasSheetOut_35 : decode cX7_hasSheetOut 35 = .ok (.iconst 1, 1) := by decide +kernel
theorem dX7_hasSheetOut_36 : decode cX7_hasSheetOut 36 = .ok (.ireturn, 1) := by decide +kernel
theorem dX7_hasSheetOut_37 : decode cX7_hasSheetOut 37 = .ok (.iinc 2 1, 3) := by decide +kernel
theorem dX7_hasSheetOut_40 : decode cX7_hasSheetOut 40 = .ok (.goto (-38), 3) := by decide +kernel
theorem dX7_hasSheetOut_43 : decode cX7_hasSheetOut 43 = .ok (.iconst 0, 1) := by decide +kernel
theorem dX7_hasSheetOut_44 : decode cX7_hasSheetOut 44 = .ok (.ireturn, 1) := by decide +kernel
set_option maxRecDepth 20000 in
theorem ggX7_howManySheetsAre_X7_sheetNumbered : GoodIn wsX7_howManySheetsAre wsX7_sheetNumbered := goodIn_r _ [6, 1, 7, 8, 9, 10, 11, 12, 13, 14, 15, 16] (by decide +kernel) (by decide +kernel)
set_option maxRecDepth 20000 in
theorem gX7_howManySheetsAre_X7_sheetNumbered : GoodIn wsX7_howManySheetsAre (wsV RX7 64 RX7 yX7_sheetNumbered wsX7_sheetNumbered) := goodIn_app (goodIn_of _ (by decide +kernel)) ggX7_howManySheetsAre_X7_sheetNumbered
theorem dX7_howManySheetsAre_0 : decode cX7_howManySheetsAre 0 = .ok (.iconst 0, 1) := by decide +kernel
theorem dX7_howManySheetsAre_1 : decode cX7_howManySheetsAre 1 = .ok (.istore_n 2, 1) := by decide +kernel
theorem dX7_howManySheetsAre_2 : decode cX7_howManySheetsAre 2 = .ok (.iconst 0, 1) := by decide +kernel
theorem dX7_howManySheetsAre_3 : decode cX7_howManySheetsAre 3 = .ok (.istore_n 3, 1) := by decide +kernel
theorem dX7_howManySheetsAre_4 : decode cX7_howManySheetsAre 4 = .ok (.iload_n 3, 1) := by decide +kernel
theorem dX7_howManySheetsAre_5 : decode cX7_howManySheetsAre 5 = .ok (.aload_n 0, 1) := by decide +kernel
theorem dX7_howManySheetsAre_6 : decode cX7_howManySheetsAre 6 = .ok (.getfield 61, 3) := by decide +kernel
theorem dX7_howManySheetsAre_9 : decode cX7_howManySheetsAre 9 = .ok (.if_icmp .ge 33, 3) := by decide +kernel
theorem dX7_howManySheetsAre_12 : decode cX7_howManySheetsAre 12 = .ok (.aload_n 0, 1) := by decide +kernel
theorem dX7_howManySheetsAre_13 : decode cX7_howManySheetsAre 13 = .ok (.iload_n 3, 1) := by decide +kernel
theorem dX7_howManySheetsAre_14 : decode cX7_howManySheetsAre 14 = .ok (.invokevirtual 64, 3) := by decide +kernel
theorem dX7_howManySheetsAre_17 : decode cX7_howManySheetsAre 17 = .ok (.astore 4, 2) := by decide +kernel
theorem dX7_howManySheetsAre_19 : decode cX7_howManySheetsAre 19 = .ok (.aload 4, 2) := by decide +kernel
theorem dX7_howManySheetsAre_21 : decode cX7_howManySheetsAre 21 = .ok (.ifnull 15, 3) := by decide +kernel
theorem dX7_howManySheetsAre_24 : decode cX7_howManySheetsAre 24 = .ok (.aload 4, 2) := by decide +kernel
theorem dX7_howManySheetsAre_26 : decode cX7_howManySheetsAre 26 = .ok (.getfield 84, 3) := by decide +kernel
theorem dX7_howManySheetsAre_29 : decode cX7_howManySheetsAre 29 = .ok (.iload_n 1, 1) := by decide +kernel
theorem dX7_howManySheetsAre_30 : decode cX7_howManySheetsAre 30 = .ok (.if_icmp .ne 6, 3) := by decide +kernel
theorem dX7_howManySheetsAre_33 : decode cX7_howManySheetsAre 33 = .ok (.iinc 2 1, 3) := by decide +kernel
theorem dX7_howManySheetsAre_36 : decode cX7_howManySheetsAre 36 = .ok (.iinc 3 1, 3) := by decide +kernel
theorem dX7_howManySheetsAre_39 : decode cX7_howManySheetsAre 39 = .ok (.goto (-35), 3) := by decide +kernel
theorem dX7_howManySheetsAre_42 : decode cX7_howManySheetsAre 42 = .ok (.iload_n 2, 1) := by decide +kernel
theorem dX7_howManySheetsAre_43 : decode cX7_howManySheetsAre 43 = .ok (.ireturn, 1) := by decide +kernel
set_option maxRecDepth 20000 in
theorem ggX7_marksOnSheetsThatAre_X7_sheetNumbered : GoodIn wsX7_marksOnSheetsThatAre wsX7_sheetNumbered := goodIn_r _ [6, 1, 7, 14, 15, 16, 17, 18, 19, 20, 21, 22] (by decide +kernel) (by decide +kernel)
set_option maxRecDepth 20000 in
theorem gX7_marksOnSheetsThatAre_X7_sheetNumbered : GoodIn wsX7_marksOnSheetsThatAre (wsV RX7 64 RX7 yX7_sheetNumbered wsX7_sheetNumbered) := goodIn_app (goodIn_of _ (by decide +kernel)) ggX7_marksOnSheetsThatAre_X7_sheetNumbered
set_option maxRecDepth 20000 in
theorem ggX7_marksOnSheetsThatAre_X5_used : GoodIn wsX7_marksOnSheetsThatAre wsX5_used := goodIn_r _ [12, 13, 26, 27] (by decide +kernel) (by decide +kernel)
set_option maxRecDepth 20000 in
theorem gX7_marksOnSheetsThatAre_X5_used : GoodIn wsX7_marksOnSheetsThatAre (wsV RX7 90 RX5 yX5_used wsX5_used) := goodIn_app (goodIn_of _ (by decide +kernel)) ggX7_marksOnSheetsThatAre_X5_used
theorem dX7_marksOnSheetsThatAre_0 : decode cX7_marksOnSheetsThatAre 0 = .ok (.iconst 0, 1) := by decide +kernel
theorem dX7_marksOnSheetsThatAre_1 : decode cX7_marksOnSheetsThatAre 1 = .ok (.istore_n 2, 1) := by decide +kernel
theorem dX7_marksOnSheetsThatAre_2 : decode cX7_marksOnSheetsThatAre 2 = .ok (.iconst 0, 1) := by decide +kernel
theorem dX7_marksOnSheetsThatAre_3 : decode cX7_marksOnSheetsThatAre 3 = .ok (.istore_n 3, 1) := by decide +kernel
theorem dX7_marksOnSheetsThatAre_4 : decode cX7_marksOnSheetsThatAre 4 = .ok (.iload_n 3, 1) := by decide +kernel
theorem dX7_marksOnSheetsThatAre_5 : decode cX7_marksOnSheetsThatAre 5 = .ok (.aload_n 0, 1) := by decide +kernel
theorem dX7_marksOnSheetsThatAre_6 : decode cX7_marksOnSheetsThatAre 6 = .ok (.getfield 61, 3) := by decide +kernel
theorem dX7_marksOnSheetsThatAre_9 : decode cX7_marksOnSheetsThatAre 9 = .ok (.if_icmp .ge 41, 3) := by decide +kernel
theorem dX7_marksOnSheetsThatAre_12 : decode cX7_marksOnSheetsThatAre 12 = .ok (.aload_n 0, 1) := by decide +kernel
theorem dX7_marksOnSheetsThatAre_13 : decode cX7_marksOnSheetsThatAre 13 = .ok (.iload_n 3, 1) := by decide +kernel
theorem dX7_marksOnSheetsThatAre_14 : decode cX7_marksOnSheetsThatAre 14 = .ok (.invokevirtual 64, 3) := by decide +kernel
theorem dX7_marksOnSheetsThatAre_17 : decode cX7_marksOnSheetsThatAre 17 = .ok (.astore 4, 2) := by decide +kernel
theorem dX7_marksOnSheetsThatAre_19 : decode cX7_marksOnSheetsThatAre 19 = .ok (.aload 4, 2) := by decide +kernel
theorem dX7_marksOnSheetsThatAre_21 : decode cX7_marksOnSheetsThatAre 21 = .ok (.ifnull 23, 3) := by decide +kernel
theorem dX7_marksOnSheetsThatAre_24 : decode cX7_marksOnSheetsThatAre 24 = .ok (.aload 4, 2) := by decide +kernel
theorem dX7_marksOnSheetsThatAre_26 : decode cX7_marksOnSheetsThatAre 26 = .ok (.getfield 84, 3) := by decide +kernel
theorem dX7_marksOnSheetsThatAre_29 : decode cX7_marksOnSheetsThatAre 29 = .ok (.iload_n 1, 1) := by decide +kernel
theorem dX7_marksOnSheetsThatAre_30 : decode cX7_marksOnSheetsThatAre 30 = .ok (.if_icmp .ne 14, 3) := by decide +kernel
theorem dX7_marksOnSheetsThatAre_33 : decode cX7_marksOnSheetsThatAre 33 = .ok (.iload_n 2, 1) := by decide +kernel
theorem dX7_marksOnSheetsThatAre_34 : decode cX7_marksOnSheetsThatAre 34 = .ok (.aload 4, 2) := by decide +kernel
theorem dX7_marksOnSheetsThatAre_36 : decode cX7_marksOnSheetsThatAre 36 = .ok (.getfield 87, 3) := by decide +kernel
theorem dX7_marksOnSheetsThatAre_39 : decode cX7_marksOnSheetsThatAre 39 = .ok (.invokevirtual 90, 3) := by decide +kernel
theorem dX7_marksOnSheetsThatAre_42 : decode cX7_marksOnSheetsThatAre 42 = .ok (.iadd, 1) := by decide +kernel
theorem dX7_marksOnSheetsThatAre_43 : decode cX7_marksOnSheetsThatAre 43 = .ok (.istore_n 2, 1) := by decide +kernel
theorem dX7_marksOnSheetsThatAre_44 : decode cX7_marksOnSheetsThatAre 44 = .ok (.iinc 3 1, 3) := by decide +kernel
theorem dX7_marksOnSheetsThatAre_47 : decode cX7_marksOnSheetsThatAre 47 = .ok (.goto (-43), 3) := by decide +kernel
theorem dX7_marksOnSheetsThatAre_50 : decode cX7_marksOnSheetsThatAre 50 = .ok (.iload_n 2, 1) := by decide +kernel
theorem dX7_marksOnSheetsThatAre_51 : decode cX7_marksOnSheetsThatAre 51 = .ok (.ireturn, 1) := by decide +kernel
set_option maxRecDepth 20000 in
theorem ggX7_account_X7_marksOnSheetsThatAre : GoodIn wsX7_account wsX7_marksOnSheetsThatAre := goodIn_r _ [7, 8, 9, 10, 11, 6, 12, 13, 14, 15, 16, 17, 18, 19, 37, 38, 39, 40, 41, 42, 43, 44, 45, 46, 47, 48, 49, 50] (by decide +kernel) (by decide +kernel)
set_option maxRecDepth 20000 in
theorem gX7_account_X7_marksOnSheetsThatAre : GoodIn wsX7_account (wsV RX7 94 RX7 yX7_marksOnSheetsThatAre wsX7_marksOnSheetsThatAre) := goodIn_app (goodIn_of _ (by decide +kernel)) ggX7_account_X7_marksOnSheetsThatAre
set_option maxRecDepth 20000 in
theorem ggX7_account_X2_howManyAreOpen : GoodIn wsX7_account wsX2_howManyAreOpen := goodIn_r _ [24, 25, 26, 15, 16, 17, 18, 19, 27, 28, 29, 30, 31, 32, 33, 34, 35, 51, 52, 53, 54, 49, 50] (by decide +kernel) (by decide +kernel)
set_option maxRecDepth 20000 in
theorem gX7_account_X2_howManyAreOpen : GoodIn wsX7_account (wsV RX7 98 RX2 yX2_howManyAreOpen wsX2_howManyAreOpen) := goodIn_app (goodIn_of _ (by decide +kernel)) ggX7_account_X2_howManyAreOpen
set_option maxRecDepth 20000 in
theorem ggX7_account_X5_get : GoodIn wsX7_account wsX5_get := goodIn_r _ [30, 31, 32, 33, 34, 17, 35, 19, 49, 50] (by decide +kernel) (by decide +kernel)
set_option maxRecDepth 20000 in
theorem gX7_account_X5_get : GoodIn wsX7_account (wsV RX7 101 RX5 yX5_get wsX5_get) := goodIn_app (goodIn_of _ (by decide +kernel)) ggX7_account_X5_get
theorem dX7_account_0 : decode cX7_account 0 = .ok (.iload_n 1, 1) := by decide +kernel
theorem dX7_account_1 : decode cX7_account 1 = .ok (.iconst 5, 1) := by decide +kernel
theorem dX7_account_2 : decode cX7_account 2 = .ok (.if_icmp .ne 21, 3) := by decide +kernel
theorem dX7_account_5 : decode cX7_account 5 = .ok (.aload_n 0, 1) := by decide +kernel
theorem dX7_account_6 : decode cX7_account 6 = .ok (.iconst 0, 1) := by decide +kernel
theorem dX7_account_7 : decode cX7_account 7 = .ok (.invokevirtual 94, 3) := by decide +kernel
theorem dX7_account_10 : decode cX7_account 10 = .ok (.aload_n 0, 1) := by decide +kernel
theorem dX7_account_11 : decode cX7_account 11 = .ok (.iconst 1, 1) := by decide +kernel
theorem dX7_account_12 : decode cX7_account 12 = .ok (.invokevirtual 94, 3) := by decide +kernel
theorem dX7_account_15 : decode cX7_account 15 = .ok (.iadd, 1) := by decide +kernel
theorem dX7_account_16 : decode cX7_account 16 = .ok (.aload_n 0, 1) := by decide +kernel
theorem dX7_account_17 : decode cX7_account 17 = .ok (.iconst 2, 1) := by decide +kernel
theorem dX7_account_18 : decode cX7_account 18 = .ok (.invokevirtual 94, 3) := by decide +kernel
theorem dX7_account_21 : decode cX7_account 21 = .ok (.iadd, 1) := by decide +kernel
theorem dX7_account_22 : decode cX7_account 22 = .ok (.ireturn, 1) := by decide +kernel
theorem dX7_account_23 : decode cX7_account 23 = .ok (.iload_n 1, 1) := by decide +kernel
theorem dX7_account_24 : decode cX7_account 24 = .ok (.bipush 6, 2) := by decide +kernel
theorem dX7_account_26 : decode cX7_account 26 = .ok (.if_icmp .ne 13, 3) := by decide +kernel
theorem dX7_account_29 : decode cX7_account 29 = .ok (.aload_n 0, 1) := by decide +kernel
theorem dX7_account_30 : decode cX7_account 30 = .ok (.getfield 29, 3) := by decide +kernel
theorem dX7_account_33 : decode cX7_account 33 = .ok (.invokevirtual 98, 3) := by decide +kernel
theorem dX7_account_36 : decode cX7_account 36 = .ok (.goto 11, 3) := by decide +kernel
theorem dX7_account_39 : decode cX7_account 39 = .ok (.aload_n 0, 1) := by decide +kernel
theorem dX7_account_40 : decode cX7_account 40 = .ok (.getfield 33, 3) := by decide +kernel
theorem dX7_account_43 : decode cX7_account 43 = .ok (.iload_n 1, 1) := by decide +kernel
theorem dX7_account_44 : decode cX7_account 44 = .ok (.invokevirtual 101, 3) := by decide +kernel
theorem dX7_account_47 : decode cX7_account 47 = .ok (.ireturn, 1) := by decide +kernel
set_option maxRecDepth 20000 in
theorem ggX7_writeOn_X5_used : GoodIn wsX7_writeOn wsX5_used := goodIn_r _ [7, 8, 43, 44] (by decide +kernel) (by decide +kernel)
set_option maxRecDepth 20000 in
theorem gX7_writeOn_X5_used : GoodIn wsX7_writeOn (wsV RX7 90 RX5 yX5_used wsX5_used) := goodIn_app (goodIn_of _ (by decide +kernel)) ggX7_writeOn_X5_used
set_option maxRecDepth 20000 in
theorem ggX7_writeOn_X5_get : GoodIn wsX7_writeOn wsX5_get := goodIn_r _ [12, 13, 14, 15, 16, 6, 17, 8, 43, 44] (by decide +kernel) (by decide +kernel)
set_option maxRecDepth 20000 in
theorem gX7_writeOn_X5_get : GoodIn wsX7_writeOn (wsV RX7 101 RX5 yX5_get wsX5_get) := goodIn_app (goodIn_of _ (by decide +kernel)) ggX7_writeOn_X5_get
set_option maxRecDepth 20000 in
theorem ggX7_writeOn_X5_append : GoodIn wsX7_writeOn wsX5_append := goodIn_r _ [21, 8, 13, 43, 44] (by decide +kernel) (by decide +kernel)
set_option maxRecDepth 20000 in
theorem gX7_writeOn_X5_append : GoodIn wsX7_writeOn (wsV RX7 104 RX5 yX5_append wsX5_append) := goodIn_app (goodIn_of _ (by decide +kernel)) ggX7_writeOn_X5_append
set_option maxRecDepth 20000 in
theorem ggX7_writeOn_X5_add : GoodIn wsX7_writeOn wsX5_add := goodIn_r _ [25, 26, 10, 11, 6, 12, 13, 14, 15, 16, 17, 8, 27, 28, 29, 30, 43, 44] (by decide +kernel) (by decide +kernel)
set_option maxRecDepth 20000 in
theorem gX7_writeOn_X5_add : GoodIn wsX7_writeOn (wsV RX7 78 RX5 yX5_add wsX5_add) := goodIn_app (goodIn_of _ (by decide +kernel)) ggX7_writeOn_X5_add
theorem dX7_writeOn_0 : decode cX7_writeOn 0 = .ok (.iconst 0, 1) := by decide +kernel
theorem dX7_writeOn_1 : decode cX7_writeOn 1 = .ok (.istore_n 3, 1) := by decide +kernel
theorem dX7_writeOn_2 : decode cX7_writeOn 2 = .ok (.iload_n 3, 1) := by decide +kernel
theorem dX7_writeOn_3 : decode cX7_writeOn 3 = .ok (.aload_n 2, 1) := by decide +kernel
theorem dX7_writeOn_4 : decode cX7_writeOn 4 = .ok (.invokevirtual 90, 3) := by decide +kernel
theorem dX7_writeOn_7 : decode cX7_writeOn 7 = .ok (.if_icmp .ge 21, 3) := by decide +kernel
theorem dX7_writeOn_10 : decode cX7_writeOn 10 = .ok (.aload_n 1, 1) := by decide +kernel
theorem dX7_writeOn_11 : decode cX7_writeOn 11 = .ok (.getfield 87, 3) := by decide +kernel
theorem dX7_writeOn_14 : decode cX7_writeOn 14 = .ok (.aload_n 2, 1) := by decide +kernel
theorem dX7_writeOn_15 : decode cX7_writeOn 15 = .ok (.iload_n 3, 1) := by decide +kernel
theorem dX7_writeOn_16 : decode cX7_writeOn 16 = .ok (.invokevirtual 101, 3) := by decide +kernel
theorem dX7_writeOn_19 : decode cX7_writeOn 19 = .ok (.invokevirtual 104, 3) := by decide +kernel
theorem dX7_writeOn_22 : decode cX7_writeOn 22 = .ok (.iinc 3 1, 3) := by decide +kernel
theorem dX7_writeOn_25 : decode cX7_writeOn 25 = .ok (.goto (-23), 3) := by decide +kernel
theorem dX7_writeOn_28 : decode cX7_writeOn 28 = .ok (.aload_n 0, 1) := by decide +kernel
theorem dX7_writeOn_29 : decode cX7_writeOn 29 = .ok (.getfield 33, 3) := by decide +kernel
theorem dX7_writeOn_32 : decode cX7_writeOn 32 = .ok (.iconst 0, 1) := by decide +kernel
theorem dX7_writeOn_33 : decode cX7_writeOn 33 = .ok (.aload_n 2, 1) := by decide +kernel
theorem dX7_writeOn_34 : decode cX7_writeOn 34 = .ok (.invokevirtual 90, 3) := by decide +kernel
theorem dX7_writeOn_37 : decode cX7_writeOn 37 = .ok (.invokevirtual 78, 3) := by decide +kernel
theorem dX7_writeOn_40 : decode cX7_writeOn 40 = .ok (.aload_n 0, 1) := by decide +kernel
theorem dX7_writeOn_41 : decode cX7_writeOn 41 = .ok (.getfield 39, 3) := by decide +kernel
theorem dX7_writeOn_44 : decode cX7_writeOn 44 = .ok (.aload_n 1, 1) := by decide +kernel
theorem dX7_writeOn_45 : decode cX7_writeOn 45 = .ok (.getfield 81, 3) := by decide +kernel
theorem dX7_writeOn_48 : decode cX7_writeOn 48 = .ok (.aload_n 2, 1) := by decide +kernel
theorem dX7_writeOn_49 : decode cX7_writeOn 49 = .ok (.invokevirtual 90, 3) := by decide +kernel
theorem dX7_writeOn_52 : decode cX7_writeOn 52 = .ok (.invokevirtual 78, 3) := by decide +kernel
theorem dX7_writeOn_55 : decode cX7_writeOn 55 = .ok (.return_, 1) := by decide +kernel
set_option maxRecDepth 20000 in
theorem ggX7_mergeMarksOf_X5_used : GoodIn wsX7_mergeMarksOf wsX5_used := goodIn_r _ [8, 9, 64, 65] (by decide +kernel) (by decide +kernel)
set_option maxRecDepth 20000 in
theorem gX7_mergeMarksOf_X5_used : GoodIn wsX7_mergeMarksOf (wsV RX7 90 RX5 yX5_used wsX5_used) := goodIn_app (goodIn_of _ (by decide +kernel)) ggX7_mergeMarksOf_X5_used
set_option maxRecDepth 20000 in
theorem ggX7_mergeMarksOf_X5_get : GoodIn wsX7_mergeMarksOf wsX5_get := goodIn_r _ [13, 14, 15, 16, 17, 7, 18, 9, 64, 65] (by decide +kernel) (by decide +kernel)
set_option maxRecDepth 20000 in
theorem gX7_mergeMarksOf_X5_get : GoodIn wsX7_mergeMarksOf (wsV RX7 101 RX5 yX5_get wsX5_get) := goodIn_app (goodIn_of _ (by decide +kernel)) ggX7_mergeMarksOf_X5_get
set_option maxRecDepth 20000 in
theorem ggX7_mergeMarksOf_X2_take : GoodIn wsX7_mergeMarksOf wsX2_take := goodIn_r _ [23, 24, 25, 26, 27, 28, 29, 30, 31, 32, 33, 34, 7, 35, 9, 36, 11, 12, 13, 14, 15, 16, 17, 18, 37, 38, 39, 40, 41, 42, 43, 44, 45, 46, 47, 48, 49, 50, 66, 67, 68, 69, 64, 65] (by decide +kernel) (by decide +kernel)
set_option maxRecDepth 20000 in
theorem gX7_mergeMarksOf_X2_take : GoodIn wsX7_mergeMarksOf (wsV RX7 107 RX2 yX2_take wsX2_take) := goodIn_app (goodIn_of _ (by decide +kernel)) ggX7_mergeMarksOf_X2_take
set_option maxRecDepth 20000 in
theorem ggX7_mergeMarksOf_X5_add : GoodIn wsX7_mergeMarksOf wsX5_add := goodIn_r _ [40, 36, 11, 12, 7, 13, 14, 15, 16, 17, 18, 9, 41, 42, 43, 44, 64, 65] (by decide +kernel) (by decide +kernel)
set_option maxRecDepth 20000 in
theorem gX7_mergeMarksOf_X5_add : GoodIn wsX7_mergeMarksOf (wsV RX7 78 RX5 yX5_add wsX5_add) := goodIn_app (goodIn_of _ (by decide +kernel)) ggX7_mergeMarksOf_X5_add
theorem dX7_mergeMarksOf_0 : decode cX7_mergeMarksOf 0 = .ok (.iconst 0, 1) := by decide +kernel
theorem dX7_mergeMarksOf_1 : decode cX7_mergeMarksOf 1 = .ok (.istore_n 2, 1) := by decide +kernel
theorem dX7_mergeMarksOf_2 : decode cX7_mergeMarksOf 2 = .ok (.iconst 0, 1) := by decide +kernel
theorem dX7_mergeMarksOf_3 : decode cX7_mergeMarksOf 3 = .ok (.istore_n 3, 1) := by decide +kernel
theorem dX7_mergeMarksOf_4 : decode cX7_mergeMarksOf 4 = .ok (.iload_n 3, 1) := by decide +kernel
theorem dX7_mergeMarksOf_5 : decode cX7_mergeMarksOf 5 = .ok (.aload_n 1, 1) := by decide +kernel
theorem dX7_mergeMarksOf_6 : decode cX7_mergeMarksOf 6 = .ok (.getfield 87, 3) := by decide +kernel
theorem dX7_mergeMarksOf_9 : decode cX7_mergeMarksOf 9 = .ok (.invokevirtual 90, 3) := by decide +kernel
theorem dX7_mergeMarksOf_12 : decode cX7_mergeMarksOf 12 = .ok (.if_icmp .ge 34, 3) := by decide +kernel
theorem dX7_mergeMarksOf_15 : decode cX7_mergeMarksOf 15 = .ok (.aload_n 0, 1) := by decide +kernel
theorem dX7_mergeMarksOf_16 : decode cX7_mergeMarksOf 16 = .ok (.getfield 29, 3) := by decide +kernel
theorem dX7_mergeMarksOf_19 : decode cX7_mergeMarksOf 19 = .ok (.aload_n 1, 1) := by decide +kernel
theorem dX7_mergeMarksOf_20 : decode cX7_mergeMarksOf 20 = .ok (.getfield 87, 3) := by decide +kernel
theorem dX7_mergeMarksOf_23 : decode cX7_mergeMarksOf 23 = .ok (.iload_n 3, 1) := by decide +kernel
theorem dX7_mergeMarksOf_24 : decode cX7_mergeMarksOf 24 = .ok (.invokevirtual 101, 3) := by decide +kernel
theorem dX7_mergeMarksOf_27 : decode cX7_mergeMarksOf 27 = .ok (.aload_n 1, 1) := by decide +kernel
theorem dX7_mergeMarksOf_28 : decode cX7_mergeMarksOf 28 = .ok (.getfield 81, 3) := by decide +kernel
theorem dX7_mergeMarksOf_31 : decode cX7_mergeMarksOf 31 = .ok (.invokevirtual 107, 3) := by decide +kernel
theorem dX7_mergeMarksOf_34 : decode cX7_mergeMarksOf 34 = .ok (.ifCond .eq 6, 3) := by decide +kernel
theorem dX7_mergeMarksOf_37 : decode cX7_mergeMarksOf 37 = .ok (.iinc 2 1, 3) := by decide +kernel
theorem dX7_mergeMarksOf_40 : decode cX7_mergeMarksOf 40 = .ok (.iinc 3 1, 3) := by decide +kernel
theorem dX7_mergeMarksOf_43 : decode cX7_mergeMarksOf 43 = .ok (.goto (-39), 3) := by decide +kernel
theorem dX7_mergeMarksOf_46 : decode cX7_mergeMarksOf 46 = .ok (.aload_n 1, 1) := by decide +kernel
theorem dX7_mergeMarksOf_47 : decode cX7_mergeMarksOf 47 = .ok (.iconst 3, 1) := by decide +kernel
theorem dX7_mergeMarksOf_48 : decode cX7_mergeMarksOf 48 = .ok (.putfield 84, 3) := by decide +kernel
theorem dX7_mergeMarksOf_51 : decode cX7_mergeMarksOf 51 = .ok (.aload_n 0, 1) := by decide +kernel
theorem dX7_mergeMarksOf_52 : decode cX7_mergeMarksOf 52 = .ok (.getfield 33, 3) := by decide +kernel
theorem dX7_mergeMarksOf_55 : decode cX7_mergeMarksOf 55 = .ok (.iconst 1, 1) := by decide +kernel
theorem dX7_mergeMarksOf_56 : decode cX7_mergeMarksOf 56 = .ok (.iload_n 2, 1) := by decide +kernel
theorem dX7_mergeMarksOf_57 : decode cX7_mergeMarksOf 57 = .ok (.invokevirtual 78, 3) := by decide +kernel
theorem dX7_mergeMarksOf_60 : decode cX7_mergeMarksOf 60 = .ok (.aload_n 0, 1) := by decide +kernel
theorem dX7_mergeMarksOf_61 : decode cX7_mergeMarksOf 61 = .ok (.getfield 42, 3) := by decide +kernel
theorem dX7_mergeMarksOf_64 : decode cX7_mergeMarksOf 64 = .ok (.aload_n 1, 1) := by decide +kernel
theorem dX7_mergeMarksOf_65 : decode cX7_mergeMarksOf 65 = .ok (.getfield 81, 3) := by decide +kernel
theorem dX7_mergeMarksOf_68 : decode cX7_mergeMarksOf 68 = .ok (.aload_n 1, 1) := by decide +kernel
theorem dX7_mergeMarksOf_69 : decode cX7_mergeMarksOf 69 = .ok (.getfield 87, 3) := by decide +kernel
theorem dX7_mergeMarksOf_72 : decode cX7_mergeMarksOf 72 = .ok (.invokevirtual 90, 3) := by decide +kernel
theorem dX7_mergeMarksOf_75 : decode cX7_mergeMarksOf 75 = .ok (.invokevirtual 78, 3) := by decide +kernel
theorem dX7_mergeMarksOf_78 : decode cX7_mergeMarksOf 78 = .ok (.iload_n 2, 1) := by decide +kernel
theorem dX7_mergeMarksOf_79 : decode cX7_mergeMarksOf 79 = .ok (.ireturn, 1) := by decide +kernel
set_option maxRecDepth 20000 in
theorem ggX7_keepAnswer_X5_set : GoodIn wsX7_keepAnswer wsX5_set := goodIn_r _ [7, 8, 9, 10, 11, 6, 12, 13, 36, 37] (by decide +kernel) (by decide +kernel)
set_option maxRecDepth 20000 in
theorem gX7_keepAnswer_X5_set : GoodIn wsX7_keepAnswer (wsV RX7 114 RX5 yX5_set wsX5_set) := goodIn_app (goodIn_of _ (by decide +kernel)) ggX7_keepAnswer_X5_set
set_option maxRecDepth 20000 in
theorem ggX7_keepAnswer_X5_add : GoodIn wsX7_keepAnswer wsX5_add := goodIn_r _ [17, 18, 19, 20, 6, 21, 8, 9, 10, 11, 12, 13, 22, 4, 5, 7, 36, 37] (by decide +kernel) (by decide +kernel)
set_option maxRecDepth 20000 in
theorem gX7_keepAnswer_X5_add : GoodIn wsX7_keepAnswer (wsV RX7 78 RX5 yX5_add wsX5_add) := goodIn_app (goodIn_of _ (by decide +kernel)) ggX7_keepAnswer_X5_add
theorem dX7_keepAnswer_0 : decode cX7_keepAnswer 0 = .ok (.aload_n 0, 1) := by decide +kernel
theorem dX7_keepAnswer_1 : decode cX7_keepAnswer 1 = .ok (.getfield 29, 3) := by decide +kernel
theorem dX7_keepAnswer_4 : decode cX7_keepAnswer 4 = .ok (.getfield 111, 3) := by decide +kernel
theorem dX7_keepAnswer_7 : decode cX7_keepAnswer 7 = .ok (.iload_n 1, 1) := by decide +kernel
theorem dX7_keepAnswer_8 : decode cX7_keepAnswer 8 = .ok (.iload_n 2, 1) := by decide +kernel
theorem dX7_keepAnswer_9 : decode cX7_keepAnswer 9 = .ok (.invokevirtual 114, 3) := by decide +kernel
theorem dX7_keepAnswer_12 : decode cX7_keepAnswer 12 = .ok (.aload_n 0, 1) := by decide +kernel
theorem dX7_keepAnswer_13 : decode cX7_keepAnswer 13 = .ok (.getfield 33, 3) := by decide +kernel
theorem dX7_keepAnswer_16 : decode cX7_keepAnswer 16 = .ok (.iload_n 2, 1) := by decide +kernel
theorem dX7_keepAnswer_17 : decode cX7_keepAnswer 17 = .ok (.iconst 1, 1) := by decide +kernel
theorem dX7_keepAnswer_18 : decode cX7_keepAnswer 18 = .ok (.if_icmp .ne 7, 3) := by decide +kernel
theorem dX7_keepAnswer_21 : decode cX7_keepAnswer 21 = .ok (.iconst 2, 1) := by decide +kernel
theorem dX7_keepAnswer_22 : decode cX7_keepAnswer 22 = .ok (.goto 4, 3) := by decide +kernel
theorem dX7_keepAnswer_25 : decode cX7_keepAnswer 25 = .ok (.iconst 3, 1) := by decide +kernel
theorem dX7_keepAnswer_26 : decode cX7_keepAnswer 26 = .ok (.iconst 1, 1) := by decide +kernel
theorem dX7_keepAnswer_27 : decode cX7_keepAnswer 27 = .ok (.invokevirtual 78, 3) := by decide +kernel
theorem dX7_keepAnswer_30 : decode cX7_keepAnswer 30 = .ok (.return_, 1) := by decide +kernel
set_option maxRecDepth 20000 in
theorem ggX7_canBeFinished_X7_howManySheetsAre : GoodIn wsX7_canBeFinished wsX7_howManySheetsAre := goodIn_r _ [7, 8, 9, 10, 11, 6, 12, 13, 35, 36, 37, 38, 39, 40, 41, 42, 43, 44, 45, 46] (by decide +kernel) (by decide +kernel)
set_option maxRecDepth 20000 in
theorem gX7_canBeFinished_X7_howManySheetsAre : GoodIn wsX7_canBeFinished (wsV RX7 117 RX7 yX7_howManySheetsAre wsX7_howManySheetsAre) := goodIn_app (goodIn_of _ (by decide +kernel)) ggX7_canBeFinished_X7_howManySheetsAre
set_option maxRecDepth 20000 in
theorem ggX7_canBeFinished_X2_howManyAreOpen : GoodIn wsX7_canBeFinished wsX2_howManyAreOpen := goodIn_r _ [18, 19, 20, 21, 22, 23, 24, 25, 26, 27, 28, 29, 30, 31, 32, 33, 34, 47, 48, 49, 50, 51, 52] (by decide +kernel) (by decide +kernel)
set_option maxRecDepth 20000 in
theorem gX7_canBeFinished_X2_howManyAreOpen : GoodIn wsX7_canBeFinished (wsV RX7 98 RX2 yX2_howManyAreOpen wsX2_howManyAreOpen) := goodIn_app (goodIn_of _ (by decide +kernel)) ggX7_canBeFinished_X2_howManyAreOpen
theorem dX7_canBeFinished_0 : decode cX7_canBeFinished 0 = .ok (.aload_n 0, 1) := by decide +kernel
theorem dX7_canBeFinished_1 : decode cX7_canBeFinished 1 = .ok (.getfield 57, 3) := by decide +kernel
theorem dX7_canBeFinished_4 : decode cX7_canBeFinished 4 = .ok (.ifCond .eq 33, 3) := by decide +kernel
theorem dX7_canBeFinished_7 : decode cX7_canBeFinished 7 = .ok (.aload_n 0, 1) := by decide +kernel
theorem dX7_canBeFinished_8 : decode cX7_canBeFinished 8 = .ok (.iconst 0, 1) := by decide +kernel
theorem dX7_canBeFinished_9 : decode cX7_canBeFinished 9 = .ok (.invokevirtual 117, 3) := by decide +kernel
theorem dX7_canBeFinished_12 : decode cX7_canBeFinished 12 = .ok (.ifCond .ne 25, 3) := by decide +kernel
theorem dX7_canBeFinished_15 : decode cX7_canBeFinished 15 = .ok (.aload_n 0, 1) := by decide +kernel
theorem dX7_canBeFinished_16 : decode cX7_canBeFinished 16 = .ok (.iconst 1, 1) := by decide +kernel
theorem dX7_canBeFinished_17 : decode cX7_canBeFinished 17 = .ok (.invokevirtual 117, 3) := by decide +kernel
theorem dX7_canBeFinished_20 : decode cX7_canBeFinished 20 = .ok (.ifCond .ne 17, 3) := by decide +kernel
theorem dX7_canBeFinished_23 : decode cX7_canBeFinished 23 = .ok (.aload_n 0, 1) := by decide +kernel
theorem dX7_canBeFinished_24 : decode cX7_canBeFinished 24 = .ok (.getfield 29, 3) := by decide +kernel
theorem dX7_canBeFinished_27 : decode cX7_canBeFinished 27 = .ok (.invokevirtual 98, 3) := by decide +kernel
theorem dX7_canBeFinished_30 : decode cX7_canBeFinished 30 = .ok (.ifCond .ne 7, 3) := by decide +kernel
theorem dX7_canBeFinished_33 : decode cX7_canBeFinished 33 = .ok (.iconst 1, 1) := by decide +kernel
theorem dX7_canBeFinished_34 : decode cX7_canBeFinished 34 = .ok (.goto 4, 3) := by decide +kernel
theorem dX7_canBeFinished_37 : decode cX7_canBeFinished 37 = .ok (.iconst 0, 1) := by decide +kernel
theorem dX7_canBeFinished_38 : decode cX7_canBeFinished 38 = .ok (.ireturn, 1) := by decide +kernel
set_option maxRecDepth 20000 in
theorem ggX7_endRound_X7_marksOnSheetsThatAre : GoodIn wsX7_endRound wsX7_marksOnSheetsThatAre := goodIn_r _ [10, 4, 11, 12, 13, 9, 14, 15, 16, 17, 18, 19, 20, 21, 56, 57, 58, 59, 60, 61, 62, 63, 64, 65, 66, 67, 68, 69] (by decide +kernel) (by decide +kernel)
set_option maxRecDepth 20000 in
theorem gX7_endRound_X7_marksOnSheetsThatAre : GoodIn wsX7_endRound (wsV RX7 94 RX7 yX7_marksOnSheetsThatAre wsX7_marksOnSheetsThatAre) := goodIn_app (goodIn_of _ (by decide +kernel)) ggX7_endRound_X7_marksOnSheetsThatAre
set_option maxRecDepth 20000 in
theorem ggX7_endRound_X5_add : GoodIn wsX7_endRound wsX5_add := goodIn_r _ [25, 26, 27, 28, 19, 29, 30, 31, 32, 33, 34, 21, 35, 36, 37, 38, 68, 69] (by decide +kernel) (by decide +kernel)
set_option maxRecDepth 20000 in
theorem gX7_endRound_X5_add : GoodIn wsX7_endRound (wsV RX7 78 RX5 yX5_add wsX5_add) := goodIn_app (goodIn_of _ (by decide +kernel)) ggX7_endRound_X5_add
set_option maxRecDepth 20000 in
theorem ggX7_endRound_X5_copyFrom : GoodIn wsX7_endRound wsX5_copyFrom := goodIn_r _ [42, 21, 30, 68, 69] (by decide +kernel) (by decide +kernel)
set_option maxRecDepth 20000 in
theorem gX7_endRound_X5_copyFrom : GoodIn wsX7_endRound (wsV RX7 50 RX5 yX5_copyFrom wsX5_copyFrom) := goodIn_app (goodIn_of _ (by decide +kernel)) ggX7_endRound_X5_copyFrom
set_option maxRecDepth 20000 in
theorem ggX7_endRound_X2_empty : GoodIn wsX7_endRound wsX2_empty := goodIn_r _ [47, 48, 49, 50, 51, 52, 53, 54, 19, 55, 21, 70, 71, 72, 73, 68, 69] (by decide +kernel) (by decide +kernel)
set_option maxRecDepth 20000 in
theorem gX7_endRound_X2_empty : GoodIn wsX7_endRound (wsV RX7 120 RX2 yX2_empty wsX2_empty) := goodIn_app (goodIn_of _ (by decide +kernel)) ggX7_endRound_X2_empty
theorem dX7_endRound_0 : decode cX7_endRound 0 = .ok (.aload_n 0, 1) := by decide +kernel
theorem dX7_endRound_1 : decode cX7_endRound 1 = .ok (.getfield 33, 3) := by decide +kernel
theorem dX7_endRound_4 : decode cX7_endRound 4 = .ok (.iconst 4, 1) := by decide +kernel
theorem dX7_endRound_5 : decode cX7_endRound 5 = .ok (.aload_n 0, 1) := by decide +kernel
theorem dX7_endRound_6 : decode cX7_endRound 6 = .ok (.iconst 2, 1) := by decide +kernel
theorem dX7_endRound_7 : decode cX7_endRound 7 = .ok (.invokevirtual 94, 3) := by decide +kernel
theorem dX7_endRound_10 : decode cX7_endRound 10 = .ok (.invokevirtual 78, 3) := by decide +kernel
theorem dX7_endRound_13 : decode cX7_endRound 13 = .ok (.aload_n 0, 1) := by decide +kernel
theorem dX7_endRound_14 : decode cX7_endRound 14 = .ok (.getfield 14, 3) := by decide +kernel
theorem dX7_endRound_17 : decode cX7_endRound 17 = .ok (.aload_n 1, 1) := by decide +kernel
theorem dX7_endRound_18 : decode cX7_endRound 18 = .ok (.invokevirtual 50, 3) := by decide +kernel
theorem dX7_endRound_21 : decode cX7_endRound 21 = .ok (.aload_n 0, 1) := by decide +kernel
theorem dX7_endRound_22 : decode cX7_endRound 22 = .ok (.getfield 29, 3) := by decide +kernel
theorem dX7_endRound_25 : decode cX7_endRound 25 = .ok (.invokevirtual 120, 3) := by decide +kernel
theorem dX7_endRound_28 : decode cX7_endRound 28 = .ok (.aload_n 0, 1) := by decide +kernel
theorem dX7_endRound_29 : decode cX7_endRound 29 = .ok (.iconst 0, 1) := by decide +kernel
theorem dX7_endRound_30 : decode cX7_endRound 30 = .ok (.putfield 61, 3) := by decide +kernel
theorem dX7_endRound_33 : decode cX7_endRound 33 = .ok (.aload_n 0, 1) := by decide +kernel
theorem dX7_endRound_34 : decode cX7_endRound 34 = .ok (.dup, 1) := by decide +kernel
theorem dX7_endRound_35 : decode cX7_endRound 35 = .ok (.getfield 57, 3) := by decide +kernel
theorem dX7_endRound_38 : decode cX7_endRound 38 = .ok (.iconst 1, 1) := by decide +kernel
theorem dX7_endRound_39 : decode cX7_endRound 39 = .ok (.iadd, 1) := by decide +kernel
theorem dX7_endRound_40 : decode cX7_endRound 40 = .ok (.putfield 57, 3) := by decide +kernel
theorem dX7_endRound_43 : decode cX7_endRound 43 = .ok (.return_, 1) := by decide +kernel
