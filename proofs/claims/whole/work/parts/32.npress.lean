set_option maxRecDepth 20000 in
theorem ggX4_init_X5_init : GoodIn wsX4_init wsX5_init := goodIn_r _ [13, 14, 2, 3, 15, 16, 17, 18] (by decide +kernel) (by decide +kernel)
set_option maxRecDepth 20000 in
theorem gX4_init_X5_init : GoodIn wsX4_init (wsX5_init) := ggX4_init_X5_init
theorem dX4_init_0 : decode cX4_init 0 = .ok (.aload_n 0, 1) := by decide +kernel
theorem dX4_init_1 : decode cX4_init 1 = .ok (.invokespecial 3, 3) := by decide +kernel
theorem dX4_init_4 : decode cX4_init 4 = .ok (.aload_n 0, 1) := by decide +kernel
theorem dX4_init_5 : decode cX4_init 5 = .ok (.new 9, 3) := by decide +kernel
theorem dX4_init_8 : decode cX4_init 8 = .ok (.dup, 1) := by decide +kernel
theorem dX4_init_9 : decode cX4_init 9 = .ok (.bipush 101, 2) := by decide +kernel
theorem dX4_init_11 : decode cX4_init 11 = .ok (.invokespecial 11, 3) := by decide +kernel
theorem dX4_init_14 : decode cX4_init 14 = .ok (.putfield 14, 3) := by decide +kernel
theorem dX4_init_17 : decode cX4_init 17 = .ok (.aload_n 0, 1) := by decide +kernel
theorem dX4_init_18 : decode cX4_init 18 = .ok (.new 9, 3) := by decide +kernel
theorem dX4_init_21 : decode cX4_init 21 = .ok (.dup, 1) := by decide +kernel
theorem dX4_init_22 : decode cX4_init 22 = .ok (.bipush 100, 2) := by decide +kernel
theorem dX4_init_24 : decode cX4_init 24 = .ok (.invokespecial 11, 3) := by decide +kernel
theorem dX4_init_27 : decode cX4_init 27 = .ok (.putfield 20, 3) := by decide +kernel
theorem dX4_init_30 : decode cX4_init 30 = .ok (.aload_n 0, 1) := by decide +kernel
theorem dX4_init_31 : decode cX4_init 31 = .ok (.new 9, 3) := by decide +kernel
theorem dX4_init_34 : decode cX4_init 34 = .ok (.dup, 1) := by decide +kernel
theorem dX4_init_35 : decode cX4_init 35 = .ok (.bipush 64, 2) := by decide +kernel
theorem dX4_init_37 : decode cX4_init 37 = .ok (.invokespecial 11, 3) := by decide +kernel
theorem dX4_init_40 : decode cX4_init 40 = .ok (.putfield 23, 3) := by decide +kernel
theorem dX4_init_43 : decode cX4_init 43 = .ok (.aload_n 0, 1) := by decide +kernel
theorem dX4_init_44 : decode cX4_init 44 = .ok (.new 9, 3) := by decide +kernel
theorem dX4_init_47 : decode cX4_init 47 = .ok (.dup, 1) := by decide +kernel
theorem dX4_init_48 : decode cX4_init 48 = .ok (.sipush 164, 3) := by decide +kernel
theorem dX4_init_51 : decode cX4_init 51 = .ok (.invokespecial 11, 3) := by decide +kernel
theorem dX4_init_54 : decode cX4_init 54 = .ok (.putfield 26, 3) := by decide +kernel
theorem dX4_init_57 : decode cX4_init 57 = .ok (.return_, 1) := by decide +kernel
set_option maxRecDepth 20000 in
theorem ggX4_printAtOnce_X5_used : GoodIn wsX4_printAtOnce wsX5_used := goodIn_r _ [8, 9, 76, 77] (by decide +kernel) (by decide +kernel)
set_option maxRecDepth 20000 in
theorem gX4_printAtOnce_X5_used : GoodIn wsX4_printAtOnce (wsV RX4 29 RX5 yX5_used wsX5_used) := goodIn_app (goodIn_of _ (by decide +kernel)) ggX4_printAtOnce_X5_used
set_option maxRecDepth 20000 in
theorem ggX4_printAtOnce_X5_fill : GoodIn wsX4_printAtOnce wsX5_fill := goodIn_r _ [13, 9, 14, 15, 16, 7, 17, 18, 76, 77] (by decide +kernel) (by decide +kernel)
set_option maxRecDepth 20000 in
theorem gX4_printAtOnce_X5_fill : GoodIn wsX4_printAtOnce (wsV RX4 33 RX5 yX5_fill wsX5_fill) := goodIn_app (goodIn_of _ (by decide +kernel)) ggX4_printAtOnce_X5_fill
set_option maxRecDepth 20000 in
theorem ggX4_printAtOnce_X5_copyFrom : GoodIn wsX4_printAtOnce wsX5_copyFrom := goodIn_r _ [22, 9, 18, 76, 77] (by decide +kernel) (by decide +kernel)
set_option maxRecDepth 20000 in
theorem gX4_printAtOnce_X5_copyFrom : GoodIn wsX4_printAtOnce (wsV RX4 37 RX5 yX5_copyFrom wsX5_copyFrom) := goodIn_app (goodIn_of _ (by decide +kernel)) ggX4_printAtOnce_X5_copyFrom
set_option maxRecDepth 20000 in
theorem ggX4_printAtOnce_X5_get : GoodIn wsX4_printAtOnce wsX5_get := goodIn_r _ [26, 18, 27, 28, 29, 7, 30, 9, 76, 77] (by decide +kernel) (by decide +kernel)
set_option maxRecDepth 20000 in
theorem gX4_printAtOnce_X5_get : GoodIn wsX4_printAtOnce (wsV RX4 49 RX5 yX5_get wsX5_get) := goodIn_app (goodIn_of _ (by decide +kernel)) ggX4_printAtOnce_X5_get
set_option maxRecDepth 20000 in
theorem ggX4_printAtOnce_X4_arrange : GoodIn wsX4_printAtOnce wsX4_arrange := goodIn_r _ [35, 2, 1, 36, 37, 38, 39, 40, 41, 42, 43, 44, 45, 46, 47, 48, 7, 49, 18, 27, 28, 29, 30, 9, 50, 51, 52, 23, 24, 25, 26, 53, 54, 34, 55, 56, 57, 58, 68, 69, 70, 71, 76, 77] (by decide +kernel) (by decide +kernel)
set_option maxRecDepth 20000 in
theorem gX4_printAtOnce_X4_arrange : GoodIn wsX4_printAtOnce (wsV RX4 53 RX4 yX4_arrange wsX4_arrange) := goodIn_app (goodIn_of _ (by decide +kernel)) ggX4_printAtOnce_X4_arrange
set_option maxRecDepth 20000 in
theorem ggX4_printAtOnce_X5_cutTo : GoodIn wsX4_printAtOnce wsX5_cutTo := goodIn_r _ [62, 9, 76, 77] (by decide +kernel) (by decide +kernel)
set_option maxRecDepth 20000 in
theorem gX4_printAtOnce_X5_cutTo : GoodIn wsX4_printAtOnce (wsV RX4 57 RX5 yX5_cutTo wsX5_cutTo) := goodIn_app (goodIn_of _ (by decide +kernel)) ggX4_printAtOnce_X5_cutTo
set_option maxRecDepth 20000 in
theorem ggX4_printAtOnce_X4_printIfAny : GoodIn wsX4_printAtOnce wsX4_printIfAny := goodIn_r _ [66, 3, 67, 15, 16, 7, 17, 9, 18, 68, 69, 70, 71, 76, 77] (by decide +kernel) (by decide +kernel)
set_option maxRecDepth 20000 in
theorem gX4_printAtOnce_X4_printIfAny : GoodIn wsX4_printAtOnce (wsV RX4 60 RX4 yX4_printIfAny wsX4_printIfAny) := goodIn_app (goodIn_of _ (by decide +kernel)) ggX4_printAtOnce_X4_printIfAny
theorem dX4_printAtOnce_0 : decode cX4_printAtOnce 0 = .ok (.aload_n 0, 1) := by decide +kernel
theorem dX4_printAtOnce_1 : decode cX4_printAtOnce 1 = .ok (.getfield 14, 3) := by decide +kernel
theorem dX4_printAtOnce_4 : decode cX4_printAtOnce 4 = .ok (.aload_n 1, 1) := by decide +kernel
theorem dX4_printAtOnce_5 : decode cX4_printAtOnce 5 = .ok (.invokevirtual 29, 3) := by decide +kernel
theorem dX4_printAtOnce_8 : decode cX4_printAtOnce 8 = .ok (.iconst 1, 1) := by decide +kernel
theorem dX4_printAtOnce_9 : decode cX4_printAtOnce 9 = .ok (.iadd, 1) := by decide +kernel
theorem dX4_printAtOnce_10 : decode cX4_printAtOnce 10 = .ok (.iconst 0, 1) := by decide +kernel
theorem dX4_printAtOnce_11 : decode cX4_printAtOnce 11 = .ok (.invokevirtual 33, 3) := by decide +kernel
theorem dX4_printAtOnce_14 : decode cX4_printAtOnce 14 = .ok (.aload_n 0, 1) := by decide +kernel
theorem dX4_printAtOnce_15 : decode cX4_printAtOnce 15 = .ok (.getfield 20, 3) := by decide +kernel
theorem dX4_printAtOnce_18 : decode cX4_printAtOnce 18 = .ok (.aload_n 1, 1) := by decide +kernel
theorem dX4_printAtOnce_19 : decode cX4_printAtOnce 19 = .ok (.invokevirtual 37, 3) := by decide +kernel
theorem dX4_printAtOnce_22 : decode cX4_printAtOnce 22 = .ok (.iconst 0, 1) := by decide +kernel
theorem dX4_printAtOnce_23 : decode cX4_printAtOnce 23 = .ok (.istore_n 3, 1) := by decide +kernel
theorem dX4_printAtOnce_24 : decode cX4_printAtOnce 24 = .ok (.iload_n 3, 1) := by decide +kernel
theorem dX4_printAtOnce_25 : decode cX4_printAtOnce 25 = .ok (.aload_n 2, 1) := by decide +kernel
theorem dX4_printAtOnce_26 : decode cX4_printAtOnce 26 = .ok (.getfield 41, 3) := by decide +kernel
theorem dX4_printAtOnce_29 : decode cX4_printAtOnce 29 = .ok (.invokevirtual 29, 3) := by decide +kernel
theorem dX4_printAtOnce_32 : decode cX4_printAtOnce 32 = .ok (.if_icmp .ge 34, 3) := by decide +kernel
theorem dX4_printAtOnce_35 : decode cX4_printAtOnce 35 = .ok (.aload_n 2, 1) := by decide +kernel
theorem dX4_printAtOnce_36 : decode cX4_printAtOnce 36 = .ok (.getfield 46, 3) := by decide +kernel
theorem dX4_printAtOnce_39 : decode cX4_printAtOnce 39 = .ok (.iload_n 3, 1) := by decide +kernel
theorem dX4_printAtOnce_40 : decode cX4_printAtOnce 40 = .ok (.invokevirtual 49, 3) := by decide +kernel
theorem dX4_printAtOnce_43 : decode cX4_printAtOnce 43 = .ok (.iconst 1, 1) := by decide +kernel
theorem dX4_printAtOnce_44 : decode cX4_printAtOnce 44 = .ok (.if_icmp .ne 16, 3) := by decide +kernel
theorem dX4_printAtOnce_47 : decode cX4_printAtOnce 47 = .ok (.aload_n 0, 1) := by decide +kernel
theorem dX4_printAtOnce_48 : decode cX4_printAtOnce 48 = .ok (.aload_n 2, 1) := by decide +kernel
theorem dX4_printAtOnce_49 : decode cX4_printAtOnce 49 = .ok (.getfield 41, 3) := by decide +kernel
theorem dX4_printAtOnce_52 : decode cX4_printAtOnce 52 = .ok (.iload_n 3, 1) := by decide +kernel
theorem dX4_printAtOnce_53 : decode cX4_printAtOnce 53 = .ok (.invokevirtual 49, 3) := by decide +kernel
theorem dX4_printAtOnce_56 : decode cX4_printAtOnce 56 = .ok (.aload_n 1, 1) := by decide +kernel
theorem dX4_printAtOnce_57 : decode cX4_printAtOnce 57 = .ok (.invokevirtual 53, 3) := by decide +kernel
theorem dX4_printAtOnce_60 : decode cX4_printAtOnce 60 = .ok (.iinc 3 1, 3) := by decide +kernel
theorem dX4_printAtOnce_63 : decode cX4_printAtOnce 63 = .ok (.goto (-39), 3) := by decide +kernel
theorem dX4_printAtOnce_66 : decode cX4_printAtOnce 66 = .ok (.aload_n 0, 1) := by decide +kernel
theorem dX4_printAtOnce_67 : decode cX4_printAtOnce 67 = .ok (.getfield 26, 3) := by decide +kernel
theorem dX4_printAtOnce_70 : decode cX4_printAtOnce 70 = .ok (.iconst 0, 1) := by decide +kernel
theorem dX4_printAtOnce_71 : decode cX4_printAtOnce 71 = .ok (.invokevirtual 57, 3) := by decide +kernel
theorem dX4_printAtOnce_74 : decode cX4_printAtOnce 74 = .ok (.iconst 0, 1) := by decide +kernel
theorem dX4_printAtOnce_75 : decode cX4_printAtOnce 75 = .ok (.istore_n 3, 1) := by decide +kernel
theorem dX4_printAtOnce_76 : decode cX4_printAtOnce 76 = .ok (.iload_n 3, 1) := by decide +kernel
theorem dX4_printAtOnce_77 : decode cX4_printAtOnce 77 = .ok (.aload_n 0, 1) := by decide +kernel
theorem dX4_printAtOnce_78 : decode cX4_printAtOnce 78 = .ok (.getfield 14, 3) := by decide +kernel
theorem dX4_printAtOnce_81 : decode cX4_printAtOnce 81 = .ok (.invokevirtual 29, 3) := by decide +kernel
theorem dX4_printAtOnce_84 : decode cX4_printAtOnce 84 = .ok (.if_icmp .ge 33, 3) := by decide +kernel
theorem dX4_printAtOnce_87 : decode cX4_printAtOnce 87 = .ok (.aload_n 0, 1) := by decide +kernel
theorem dX4_printAtOnce_88 : decode cX4_printAtOnce 88 = .ok (.aload_n 0, 1) := by decide +kernel
theorem dX4_printAtOnce_89 : decode cX4_printAtOnce 89 = .ok (.getfield 14, 3) := by decide +kernel
theorem dX4_printAtOnce_92 : decode cX4_printAtOnce 92 = .ok (.iload_n 3, 1) := by decide +kernel
theorem dX4_printAtOnce_93 : decode cX4_printAtOnce 93 = .ok (.invokevirtual 49, 3) := by decide +kernel
theorem dX4_printAtOnce_96 : decode cX4_printAtOnce 96 = .ok (.invokevirtual 60, 3) := by decide +kernel
theorem dX4_printAtOnce_99 : decode cX4_printAtOnce 99 = .ok (.aload_n 0, 1) := by decide +kernel
theorem dX4_printAtOnce_100 : decode cX4_printAtOnce 100 = .ok (.aload_n 0, 1) := by decide +kernel
theorem dX4_printAtOnce_101 : decode cX4_printAtOnce 101 = .ok (.getfield 20, 3) := by decide +kernel
theorem dX4_printAtOnce_104 : decode cX4_printAtOnce 104 = .ok (.iload_n 3, 1) := by decide +kernel
theorem dX4_printAtOnce_105 : decode cX4_printAtOnce 105 = .ok (.invokevirtual 49, 3) := by decide +kernel
theorem dX4_printAtOnce_108 : decode cX4_printAtOnce 108 = .ok (.invokevirtual 60, 3) := by decide +kernel
theorem dX4_printAtOnce_111 : decode cX4_printAtOnce 111 = .ok (.iinc 3 1, 3) := by decide +kernel
theorem dX4_printAtOnce_114 : decode cX4_printAtOnce 114 = .ok (.goto (-38), 3) := by decide +kernel
theorem dX4_printAtOnce_117 : decode cX4_printAtOnce 117 = .ok (.aload_n 0, 1) := by decide +kernel
theorem dX4_printAtOnce_118 : decode cX4_printAtOnce 118 = .ok (.getfield 26, 3) := by decide +kernel
theorem dX4_printAtOnce_121 : decode cX4_printAtOnce 121 = .ok (.bipush 100, 2) := by decide +kernel
theorem dX4_printAtOnce_123 : decode cX4_printAtOnce 123 = .ok (.invokevirtual 57, 3) := by decide +kernel
theorem dX4_printAtOnce_126 : decode cX4_printAtOnce 126 = .ok (.aload_n 0, 1) := by decide +kernel
theorem dX4_printAtOnce_127 : decode cX4_printAtOnce 127 = .ok (.getfield 26, 3) := by decide +kernel
theorem dX4_printAtOnce_130 : decode cX4_printAtOnce 130 = .ok (.areturn, 1) := by decide +kernel
set_option maxRecDepth 20000 in
theorem ggX4_arrange_X1_firstOf : GoodIn wsX4_arrange wsX1_firstOf := goodIn_r _ [6] (by decide +kernel) (by decide +kernel)
set_option maxRecDepth 20000 in
theorem gX4_arrange_X1_firstOf : GoodIn wsX4_arrange (va_wsS RX4 63 yX1_firstOf wsX1_firstOf) := goodIn_app (goodIn_of _ (by decide +kernel)) ggX4_arrange_X1_firstOf
set_option maxRecDepth 20000 in
theorem ggX4_arrange_X1_kindOf : GoodIn wsX4_arrange wsX1_kindOf := goodIn_r _ [9] (by decide +kernel) (by decide +kernel)
set_option maxRecDepth 20000 in
theorem gX4_arrange_X1_kindOf : GoodIn wsX4_arrange (va_wsS RX4 68 yX1_kindOf wsX1_kindOf) := goodIn_app (goodIn_of _ (by decide +kernel)) ggX4_arrange_X1_kindOf
set_option maxRecDepth 20000 in
theorem ggX4_arrange_X1_secondOf : GoodIn wsX4_arrange wsX1_secondOf := goodIn_r _ [12] (by decide +kernel) (by decide +kernel)
set_option maxRecDepth 20000 in
theorem gX4_arrange_X1_secondOf : GoodIn wsX4_arrange (va_wsS RX4 71 yX1_secondOf wsX1_secondOf) := goodIn_app (goodIn_of _ (by decide +kernel)) ggX4_arrange_X1_secondOf
set_option maxRecDepth 20000 in
theorem ggX4_arrange_X5_set : GoodIn wsX4_arrange wsX5_set := goodIn_r _ [17, 18, 19, 20, 21, 16, 22, 23, 42, 43] (by decide +kernel) (by decide +kernel)
set_option maxRecDepth 20000 in
theorem gX4_arrange_X5_set : GoodIn wsX4_arrange (wsV RX4 74 RX5 yX5_set wsX5_set) := goodIn_app (goodIn_of _ (by decide +kernel)) ggX4_arrange_X5_set
set_option maxRecDepth 20000 in
theorem ggX4_arrange_X1_characterOf : GoodIn wsX4_arrange wsX1_characterOf := goodIn_r _ [26] (by decide +kernel) (by decide +kernel)
set_option maxRecDepth 20000 in
theorem gX4_arrange_X1_characterOf : GoodIn wsX4_arrange (va_wsS RX4 77 yX1_characterOf wsX1_characterOf) := goodIn_app (goodIn_of _ (by decide +kernel)) ggX4_arrange_X1_characterOf
set_option maxRecDepth 20000 in
theorem ggX4_arrange_X5_get : GoodIn wsX4_arrange wsX5_get := goodIn_r _ [30, 18, 19, 20, 21, 16, 22, 23, 42, 43] (by decide +kernel) (by decide +kernel)
set_option maxRecDepth 20000 in
theorem gX4_arrange_X5_get : GoodIn wsX4_arrange (wsV RX4 49 RX5 yX5_get wsX5_get) := goodIn_app (goodIn_of _ (by decide +kernel)) ggX4_arrange_X5_get
set_option maxRecDepth 20000 in
theorem ggX4_arrange_X4_otherCase : GoodIn wsX4_arrange wsX4_otherCase := goodIn_r _ [34, 35, 36, 37] (by decide +kernel) (by decide +kernel)
set_option maxRecDepth 20000 in
theorem gX4_arrange_X4_otherCase : GoodIn wsX4_arrange (va_wsS RX4 80 yX4_otherCase wsX4_otherCase) := goodIn_app (goodIn_of _ (by decide +kernel)) ggX4_arrange_X4_otherCase
theorem dX4_arrange_0 : decode cX4_arrange 0 = .ok (.iload_n 1, 1) := by decide +kernel
theorem dX4_arrange_1 : decode cX4_arrange 1 = .ok (.invokestatic 63, 3) := by decide +kernel
theorem dX4_arrange_4 : decode cX4_arrange 4 = .ok (.istore_n 3, 1) := by decide +kernel
theorem dX4_arrange_5 : decode cX4_arrange 5 = .ok (.iload_n 1, 1) := by decide +kernel
theorem dX4_arrange_6 : decode cX4_arrange 6 = .ok (.invokestatic 68, 3) := by decide +kernel
theorem dX4_arrange_9 : decode cX4_arrange 9 = .ok (.tableswitch 148 0 4 #[35, 66, 81, 96, 129], 35) := by decide +kernel
theorem dX4_arrange_44 : decode cX4_arrange 44 = .ok (.iload_n 3, 1) := by decide +kernel
theorem dX4_arrange_45 : decode cX4_arrange 45 = .ok (.istore 4, 2) := by decide +kernel
theorem dX4_arrange_47 : decode cX4_arrange 47 = .ok (.iload 4, 2) := by decide +kernel
theorem dX4_arrange_49 : decode cX4_arrange 49 = .ok (.iload_n 1, 1) := by decide +kernel
theorem dX4_arrange_50 : decode cX4_arrange 50 = .ok (.invokestatic 71, 3) := by decide +kernel
theorem dX4_arrange_53 : decode cX4_arrange 53 = .ok (.if_icmp .ge 19, 3) := by decide +kernel
theorem dX4_arrange_56 : decode cX4_arrange 56 = .ok (.aload_n 0, 1) := by decide +kernel
theorem dX4_arrange_57 : decode cX4_arrange 57 = .ok (.getfield 20, 3) := by decide +kernel
theorem dX4_arrange_60 : decode cX4_arrange 60 = .ok (.iload 4, 2) := by decide +kernel
theorem dX4_arrange_62 : decode cX4_arrange 62 = .ok (.iconst 0, 1) := by decide +kernel
theorem dX4_arrange_63 : decode cX4_arrange 63 = .ok (.invokevirtual 74, 3) := by decide +kernel
theorem dX4_arrange_66 : decode cX4_arrange 66 = .ok (.iinc 4 1, 3) := by decide +kernel
theorem dX4_arrange_69 : decode cX4_arrange 69 = .ok (.goto (-22), 3) := by decide +kernel
theorem dX4_arrange_72 : decode cX4_arrange 72 = .ok (.goto 85, 3) := by decide +kernel
theorem dX4_arrange_75 : decode cX4_arrange 75 = .ok (.aload_n 0, 1) := by decide +kernel
theorem dX4_arrange_76 : decode cX4_arrange 76 = .ok (.getfield 14, 3) := by decide +kernel
theorem dX4_arrange_79 : decode cX4_arrange 79 = .ok (.iload_n 3, 1) := by decide +kernel
theorem dX4_arrange_80 : decode cX4_arrange 80 = .ok (.iload_n 1, 1) := by decide +kernel
theorem dX4_arrange_81 : decode cX4_arrange 81 = .ok (.invokestatic 77, 3) := by decide +kernel
theorem dX4_arrange_84 : decode cX4_arrange 84 = .ok (.invokevirtual 74, 3) := by decide +kernel
theorem dX4_arrange_87 : decode cX4_arrange 87 = .ok (.goto 70, 3) := by decide +kernel
theorem dX4_arrange_90 : decode cX4_arrange 90 = .ok (.aload_n 0, 1) := by decide +kernel
theorem dX4_arrange_91 : decode cX4_arrange 91 = .ok (.getfield 20, 3) := by decide +kernel
theorem dX4_arrange_94 : decode cX4_arrange 94 = .ok (.iload_n 3, 1) := by decide +kernel
theorem dX4_arrange_95 : decode cX4_arrange 95 = .ok (.iload_n 1, 1) := by decide +kernel
theorem dX4_arrange_96 : decode cX4_arrange 96 = .ok (.invokestatic 77, 3) := by decide +kernel
theorem dX4_arrange_99 : decode cX4_arrange 99 = .ok (.invokevirtual 74, 3) := by decide +kernel
theorem dX4_arrange_102 : decode cX4_arrange 102 = .ok (.goto 55, 3) := by decide +kernel
theorem dX4_arrange_105 : decode cX4_arrange 105 = .ok (.aload_n 0, 1) := by decide +kernel
theorem dX4_arrange_106 : decode cX4_arrange 106 = .ok (.getfield 20, 3) := by decide +kernel
theorem dX4_arrange_109 : decode cX4_arrange 109 = .ok (.iload_n 3, 1) := by decide +kernel
theorem dX4_arrange_110 : decode cX4_arrange 110 = .ok (.aload_n 2, 1) := by decide +kernel
theorem dX4_arrange_111 : decode cX4_arrange 111 = .ok (.iload_n 3, 1) := by decide +kernel
theorem dX4_arrange_112 : decode cX4_arrange 112 = .ok (.iconst 1, 1) := by decide +kernel
theorem dX4_arrange_113 : decode cX4_arrange 113 = .ok (.iadd, 1) := by decide +kernel
theorem dX4_arrange_114 : decode cX4_arrange 114 = .ok (.invokevirtual 49, 3) := by decide +kernel
theorem dX4_arrange_117 : decode cX4_arrange 117 = .ok (.invokevirtual 74, 3) := by decide +kernel
theorem dX4_arrange_120 : decode cX4_arrange 120 = .ok (.aload_n 0, 1) := by decide +kernel
theorem dX4_arrange_121 : decode cX4_arrange 121 = .ok (.getfield 20, 3) := by decide +kernel
theorem dX4_arrange_124 : decode cX4_arrange 124 = .ok (.iload_n 3, 1) := by decide +kernel
theorem dX4_arrange_125 : decode cX4_arrange 125 = .ok (.iconst 1, 1) := by decide +kernel
theorem dX4_arrange_126 : decode cX4_arrange 126 = .ok (.iadd, 1) := by decide +kernel
theorem dX4_arrange_127 : decode cX4_arrange 127 = .ok (.aload_n 2, 1) := by decide +kernel
theorem dX4_arrange_128 : decode cX4_arrange 128 = .ok (.iload_n 3, 1) := by decide +kernel
theorem dX4_arrange_129 : decode cX4_arrange 129 = .ok (.invokevirtual 49, 3) := by decide +kernel
theorem dX4_arrange_132 : decode cX4_arrange 132 = .ok (.invokevirtual 74, 3) := by decide +kernel
theorem dX4_arrange_135 : decode cX4_arrange 135 = .ok (.goto 22, 3) := by decide +kernel
theorem dX4_arrange_138 : decode cX4_arrange 138 = .ok (.aload_n 0, 1) := by decide +kernel
theorem dX4_arrange_139 : decode cX4_arrange 139 = .ok (.getfield 20, 3) := by decide +kernel
theorem dX4_arrange_142 : decode cX4_arrange 142 = .ok (.iload_n 3, 1) := by decide +kernel
theorem dX4_arrange_143 : decode cX4_arrange 143 = .ok (.aload_n 2, 1) := by decide +kernel
theorem dX4_arrange_144 : decode cX4_arrange 144 = .ok (.iload_n 3, 1) := by decide +kernel
theorem dX4_arrange_145 : decode cX4_arrange 145 = .ok (.invokevirtual 49, 3) := by decide +kernel
theorem dX4_arrange_148 : decode cX4_arrange 148 = .ok (.invokestatic 80, 3) := by decide +kernel
theorem dX4_arrange_151 : decode cX4_arrange 151 = .ok (.invokevirtual 74, 3) := by decide +kernel
theorem dX4_arrange_154 : decode cX4_arrange 154 = .ok (.goto 3, 3) := by decide +kernel
theorem dX4_arrange_157 : decode cX4_arrange 157 = .ok (.return_, 1) := by decide +kernel
set_option maxRecDepth 20000 in
theorem ggX4_printIfAny_X5_append : GoodIn wsX4_printIfAny wsX5_append := goodIn_r _ [6, 7, 8, 13, 14] (by decide +kernel) (by decide +kernel)
set_option maxRecDepth 20000 in
theorem gX4_printIfAny_X5_append : GoodIn wsX4_printIfAny (wsV RX4 83 RX5 yX5_append wsX5_append) := goodIn_app (goodIn_of _ (by decide +kernel)) ggX4_printIfAny_X5_append
theorem dX4_printIfAny_0 : decode cX4_printIfAny 0 = .ok (.iload_n 1, 1) := by decide +kernel
theorem dX4_printIfAny_1 : decode cX4_printIfAny 1 = .ok (.ifCond .eq 11, 3) := by decide +kernel
theorem dX4_printIfAny_4 : decode cX4_printIfAny 4 = .ok (.aload_n 0, 1) := by decide +kernel
theorem dX4_printIfAny_5 : decode cX4_printIfAny 5 = .ok (.getfield 26, 3) := by decide +kernel
theorem dX4_printIfAny_8 : decode cX4_printIfAny 8 = .ok (.iload_n 1, 1) := by decide +kernel
theorem dX4_printIfAny_9 : decode cX4_printIfAny 9 = .ok (.invokevirtual 83, 3) := by decide +kernel
theorem dX4_printIfAny_12 : decode cX4_printIfAny 12 = .ok (.return_, 1) := by decide +kernel
set_option maxRecDepth 20000 in
theorem ggX4_printInTurn_X5_cutTo : GoodIn wsX4_printInTurn wsX5_cutTo := goodIn_r _ [7, 8, 83, 84] (by decide +kernel) (by decide +kernel)
set_option maxRecDepth 20000 in
theorem gX4_printInTurn_X5_cutTo : GoodIn wsX4_printInTurn (wsV RX4 57 RX5 yX5_cutTo wsX5_cutTo) := goodIn_app (goodIn_of _ (by decide +kernel)) ggX4_printInTurn_X5_cutTo
set_option maxRecDepth 20000 in
theorem ggX4_printInTurn_X5_used : GoodIn wsX4_printInTurn wsX5_used := goodIn_r _ [12, 8, 83, 84] (by decide +kernel) (by decide +kernel)
set_option maxRecDepth 20000 in
theorem gX4_printInTurn_X5_used : GoodIn wsX4_printInTurn (wsV RX4 29 RX5 yX5_used wsX5_used) := goodIn_app (goodIn_of _ (by decide +kernel)) ggX4_printInTurn_X5_used
set_option maxRecDepth 20000 in
theorem ggX4_printInTurn_X5_get : GoodIn wsX4_printInTurn wsX5_get := goodIn_r _ [16, 17, 18, 19, 20, 6, 21, 8, 83, 84] (by decide +kernel) (by decide +kernel)
set_option maxRecDepth 20000 in
theorem gX4_printInTurn_X5_get : GoodIn wsX4_printInTurn (wsV RX4 49 RX5 yX5_get wsX5_get) := goodIn_app (goodIn_of _ (by decide +kernel)) ggX4_printInTurn_X5_get
set_option maxRecDepth 20000 in
theorem ggX4_printInTurn_X4_turnOf : GoodIn wsX4_printInTurn wsX4_turnOf := goodIn_r _ [26, 1, 9, 10, 11, 6, 12, 8, 13, 14, 15, 16, 17, 18, 19, 20, 21, 27, 28, 25, 29, 30, 31, 32, 33, 34, 35, 36, 75, 76, 77, 78, 83, 84] (by decide +kernel) (by decide +kernel)
set_option maxRecDepth 20000 in
theorem gX4_printInTurn_X4_turnOf : GoodIn wsX4_printInTurn (wsV RX4 86 RX4 yX4_turnOf wsX4_turnOf) := goodIn_app (goodIn_of _ (by decide +kernel)) ggX4_printInTurn_X4_turnOf
set_option maxRecDepth 20000 in
theorem ggX4_printInTurn_X5_insert : GoodIn wsX4_printInTurn wsX5_insert := goodIn_r _ [40, 8, 17, 41, 42, 43, 6, 44, 45, 14, 15, 16, 18, 19, 20, 21, 46, 47, 48, 49, 83, 84] (by decide +kernel) (by decide +kernel)
set_option maxRecDepth 20000 in
theorem gX4_printInTurn_X5_insert : GoodIn wsX4_printInTurn (wsV RX4 89 RX5 yX5_insert wsX5_insert) := goodIn_app (goodIn_of _ (by decide +kernel)) ggX4_printInTurn_X5_insert
set_option maxRecDepth 20000 in
theorem ggX4_printInTurn_X5_copyFrom : GoodIn wsX4_printInTurn wsX5_copyFrom := goodIn_r _ [53, 8, 17, 83, 84] (by decide +kernel) (by decide +kernel)
set_option maxRecDepth 20000 in
theorem gX4_printInTurn_X5_copyFrom : GoodIn wsX4_printInTurn (wsV RX4 37 RX5 yX5_copyFrom wsX5_copyFrom) := goodIn_app (goodIn_of _ (by decide +kernel)) ggX4_printInTurn_X5_copyFrom
set_option maxRecDepth 20000 in
theorem ggX4_printInTurn_X4_carryOut : GoodIn wsX4_printInTurn wsX4_carryOut := goodIn_r _ [57, 2, 30, 31, 32, 33, 34, 35, 36, 58, 59, 60, 61, 62, 63, 6, 64, 8, 18, 19, 20, 21, 17, 45, 14, 15, 16, 46, 47, 48, 49, 65, 66, 67, 37, 38, 39, 40, 41, 42, 43, 44, 68, 13, 69, 70, 25, 71, 72, 73, 74, 75, 76, 77, 78, 83, 84] (by decide +kernel) (by decide +kernel)
set_option maxRecDepth 20000 in
theorem gX4_printInTurn_X4_carryOut : GoodIn wsX4_printInTurn (wsV RX4 92 RX4 yX4_carryOut wsX4_carryOut) := goodIn_app (goodIn_of _ (by decide +kernel)) ggX4_printInTurn_X4_carryOut
theorem dX4_printInTurn_0 : decode cX4_printInTurn 0 = .ok (.aload_n 0, 1) := by decide +kernel
theorem dX4_printInTurn_1 : decode cX4_printInTurn 1 = .ok (.getfield 23, 3) := by decide +kernel
theorem dX4_printInTurn_4 : decode cX4_printInTurn 4 = .ok (.iconst 0, 1) := by decide +kernel
theorem dX4_printInTurn_5 : decode cX4_printInTurn 5 = .ok (.invokevirtual 57, 3) := by decide +kernel
theorem dX4_printInTurn_8 : decode cX4_printInTurn 8 = .ok (.iconst 0, 1) := by decide +kernel
theorem dX4_printInTurn_9 : decode cX4_printInTurn 9 = .ok (.istore_n 3, 1) := by decide +kernel
theorem dX4_printInTurn_10 : decode cX4_printInTurn 10 = .ok (.iload_n 3, 1) := by decide +kernel
theorem dX4_printInTurn_11 : decode cX4_printInTurn 11 = .ok (.aload_n 2, 1) := by decide +kernel
theorem dX4_printInTurn_12 : decode cX4_printInTurn 12 = .ok (.getfield 41, 3) := by decide +kernel
theorem dX4_printInTurn_15 : decode cX4_printInTurn 15 = .ok (.invokevirtual 29, 3) := by decide +kernel
theorem dX4_printInTurn_18 : decode cX4_printInTurn 18 = .ok (.if_icmp .ge 48, 3) := by decide +kernel
theorem dX4_printInTurn_21 : decode cX4_printInTurn 21 = .ok (.aload_n 2, 1) := by decide +kernel
theorem dX4_printInTurn_22 : decode cX4_printInTurn 22 = .ok (.getfield 46, 3) := by decide +kernel
theorem dX4_printInTurn_25 : decode cX4_printInTurn 25 = .ok (.iload_n 3, 1) := by decide +kernel
theorem dX4_printInTurn_26 : decode cX4_printInTurn 26 = .ok (.invokevirtual 49, 3) := by decide +kernel
theorem dX4_printInTurn_29 : decode cX4_printInTurn 29 = .ok (.iconst 1, 1) := by decide +kernel
theorem dX4_printInTurn_30 : decode cX4_printInTurn 30 = .ok (.if_icmp .ne 30, 3) := by decide +kernel
theorem dX4_printInTurn_33 : decode cX4_printInTurn 33 = .ok (.aload_n 0, 1) := by decide +kernel
theorem dX4_printInTurn_34 : decode cX4_printInTurn 34 = .ok (.getfield 23, 3) := by decide +kernel
theorem dX4_printInTurn_37 : decode cX4_printInTurn 37 = .ok (.aload_n 0, 1) := by decide +kernel
theorem dX4_printInTurn_38 : decode cX4_printInTurn 38 = .ok (.aload_n 2, 1) := by decide +kernel
theorem dX4_printInTurn_39 : decode cX4_printInTurn 39 = .ok (.getfield 41, 3) := by decide +kernel
theorem dX4_printInTurn_42 : decode cX4_printInTurn 42 = .ok (.iload_n 3, 1) := by decide +kernel
theorem dX4_printInTurn_43 : decode cX4_printInTurn 43 = .ok (.invokevirtual 49, 3) := by decide +kernel
theorem dX4_printInTurn_46 : decode cX4_printInTurn 46 = .ok (.invokevirtual 86, 3) := by decide +kernel
theorem dX4_printInTurn_49 : decode cX4_printInTurn 49 = .ok (.aload_n 2, 1) := by decide +kernel
theorem dX4_printInTurn_50 : decode cX4_printInTurn 50 = .ok (.getfield 41, 3) := by decide +kernel
theorem dX4_printInTurn_53 : decode cX4_printInTurn 53 = .ok (.iload_n 3, 1) := by decide +kernel
theorem dX4_printInTurn_54 : decode cX4_printInTurn 54 = .ok (.invokevirtual 49, 3) := by decide +kernel
theorem dX4_printInTurn_57 : decode cX4_printInTurn 57 = .ok (.invokevirtual 89, 3) := by decide +kernel
theorem dX4_printInTurn_60 : decode cX4_printInTurn 60 = .ok (.iinc 3 1, 3) := by decide +kernel
theorem dX4_printInTurn_63 : decode cX4_printInTurn 63 = .ok (.goto (-53), 3) := by decide +kernel
theorem dX4_printInTurn_66 : decode cX4_printInTurn 66 = .ok (.aload_n 0, 1) := by decide +kernel
theorem dX4_printInTurn_67 : decode cX4_printInTurn 67 = .ok (.getfield 26, 3) := by decide +kernel
theorem dX4_printInTurn_70 : decode cX4_printInTurn 70 = .ok (.aload_n 1, 1) := by decide +kernel
theorem dX4_printInTurn_71 : decode cX4_printInTurn 71 = .ok (.invokevirtual 37, 3) := by decide +kernel
theorem dX4_printInTurn_74 : decode cX4_printInTurn 74 = .ok (.iconst 0, 1) := by decide +kernel
theorem dX4_printInTurn_75 : decode cX4_printInTurn 75 = .ok (.istore_n 3, 1) := by decide +kernel
theorem dX4_printInTurn_76 : decode cX4_printInTurn 76 = .ok (.iload_n 3, 1) := by decide +kernel
theorem dX4_printInTurn_77 : decode cX4_printInTurn 77 = .ok (.aload_n 0, 1) := by decide +kernel
theorem dX4_printInTurn_78 : decode cX4_printInTurn 78 = .ok (.getfield 23, 3) := by decide +kernel
theorem dX4_printInTurn_81 : decode cX4_printInTurn 81 = .ok (.invokevirtual 29, 3) := by decide +kernel
theorem dX4_printInTurn_84 : decode cX4_printInTurn 84 = .ok (.if_icmp .ge 21, 3) := by decide +kernel
theorem dX4_printInTurn_87 : decode cX4_printInTurn 87 = .ok (.aload_n 0, 1) := by decide +kernel
theorem dX4_printInTurn_88 : decode cX4_printInTurn 88 = .ok (.aload_n 0, 1) := by decide +kernel
theorem dX4_printInTurn_89 : decode cX4_printInTurn 89 = .ok (.getfield 23, 3) := by decide +kernel
theorem dX4_printInTurn_92 : decode cX4_printInTurn 92 = .ok (.iload_n 3, 1) := by decide +kernel
theorem dX4_printInTurn_93 : decode cX4_printInTurn 93 = .ok (.invokevirtual 49, 3) := by decide +kernel
theorem dX4_printInTurn_96 : decode cX4_printInTurn 96 = .ok (.invokevirtual 92, 3) := by decide +kernel
theorem dX4_printInTurn_99 : decode cX4_printInTurn 99 = .ok (.iinc 3 1, 3) := by decide +kernel
theorem dX4_printInTurn_102 : decode cX4_printInTurn 102 = .ok (.goto (-26), 3) := by decide +kernel
theorem dX4_printInTurn_105 : decode cX4_printInTurn 105 = .ok (.aload_n 0, 1) := by decide +kernel
theorem dX4_printInTurn_106 : decode cX4_printInTurn 106 = .ok (.getfield 26, 3) := by decide +kernel
theorem dX4_printInTurn_109 : decode cX4_printInTurn 109 = .ok (.bipush 100, 2) := by decide +kernel
theorem dX4_printInTurn_111 : decode cX4_printInTurn 111 = .ok (.invokevirtual 57, 3) := by decide +kernel
theorem dX4_printInTurn_114 : decode cX4_printInTurn 114 = .ok (.aload_n 0, 1) := by decide +kernel
theorem dX4_printInTurn_115 : decode cX4_printInTurn 115 = .ok (.getfield 26, 3) := by decide +kernel
theorem dX4_printInTurn_118 : decode cX4_printInTurn 118 = .ok (.areturn, 1) := by decide +kernel
set_option maxRecDepth 20000 in
theorem ggX4_turnOf_X5_used : GoodIn wsX4_turnOf wsX5_used := goodIn_r _ [6, 7, 32, 33] (by decide +kernel) (by decide +kernel)
set_option maxRecDepth 20000 in
theorem gX4_turnOf_X5_used : GoodIn wsX4_turnOf (wsV RX4 29 RX5 yX5_used wsX5_used) := goodIn_app (goodIn_of _ (by decide +kernel)) ggX4_turnOf_X5_used
set_option maxRecDepth 20000 in
theorem ggX4_turnOf_X5_get : GoodIn wsX4_turnOf wsX5_get := goodIn_r _ [11, 12, 13, 14, 15, 5, 16, 7, 32, 33] (by decide +kernel) (by decide +kernel)
set_option maxRecDepth 20000 in
theorem gX4_turnOf_X5_get : GoodIn wsX4_turnOf (wsV RX4 49 RX5 yX5_get wsX5_get) := goodIn_app (goodIn_of _ (by decide +kernel)) ggX4_turnOf_X5_get
set_option maxRecDepth 20000 in
theorem ggX4_turnOf_X4_goesBefore : GoodIn wsX4_turnOf wsX4_goesBefore := goodIn_r _ [20, 21, 22, 23, 24, 25, 26, 27] (by decide +kernel) (by decide +kernel)
set_option maxRecDepth 20000 in
theorem gX4_turnOf_X4_goesBefore : GoodIn wsX4_turnOf (va_wsS RX4 95 yX4_goesBefore wsX4_goesBefore) := goodIn_app (goodIn_of _ (by decide +kernel)) ggX4_turnOf_X4_goesBefore
theorem dX4_turnOf_0 : decode cX4_turnOf 0 = .ok (.iconst 0, 1) := by decide +kernel
theorem dX4_turnOf_1 : decode cX4_turnOf 1 = .ok (.istore_n 2, 1) := by decide +kernel
theorem dX4_turnOf_2 : decode cX4_turnOf 2 = .ok (.iload_n 2, 1) := by decide +kernel
theorem dX4_turnOf_3 : decode cX4_turnOf 3 = .ok (.aload_n 0, 1) := by decide +kernel
theorem dX4_turnOf_4 : decode cX4_turnOf 4 = .ok (.getfield 23, 3) := by decide +kernel
theorem dX4_turnOf_7 : decode cX4_turnOf 7 = .ok (.invokevirtual 29, 3) := by decide +kernel
theorem dX4_turnOf_10 : decode cX4_turnOf 10 = .ok (.if_icmp .ge 26, 3) := by decide +kernel
theorem dX4_turnOf_13 : decode cX4_turnOf 13 = .ok (.iload_n 1, 1) := by decide +kernel
theorem dX4_turnOf_14 : decode cX4_turnOf 14 = .ok (.aload_n 0, 1) := by decide +kernel
theorem dX4_turnOf_15 : decode cX4_turnOf 15 = .ok (.getfield 23, 3) := by decide +kernel
theorem dX4_turnOf_18 : decode cX4_turnOf 18 = .ok (.iload_n 2, 1) := by decide +kernel
theorem dX4_turnOf_19 : decode cX4_turnOf 19 = .ok (.invokevirtual 49, 3) := by decide +kernel
theorem dX4_turnOf_22 : decode cX4_turnOf 22 = .ok (.invokestatic 95, 3) := by decide +kernel
theorem dX4_turnOf_25 : decode cX4_turnOf 25 = .ok (.ifCond .eq 5, 3) := by decide +kernel
theorem dX4_turnOf_28 : decode cX4_turnOf 28 = .ok (.iload_n 2, 1) := by decide +kernel
theorem dX4_turnOf_29 : decode cX4_turnOf 29 = .ok (.ireturn, 1) := by decide +kernel
theorem dX4_turnOf_30 : decode cX4_turnOf 30 = .ok (.iinc 2 1, 3) := by decide +kernel
theorem dX4_turnOf_33 : decode cX4_turnOf 33 = .ok (.goto (-31), 3) := by decide +kernel
theorem dX4_turnOf_36 : decode cX4_turnOf 36 = .ok (.aload_n 0, 1) := by decide +kernel
theorem dX4_turnOf_37 : decode cX4_turnOf 37 = .ok (.getfield 23, 3) := by decide +kernel
theorem dX4_turnOf_40 : decode cX4_turnOf 40 = .ok (.invokevirtual 29, 3) := by decide +kernel
theorem dX4_turnOf_43 : decode cX4_turnOf 43 = .ok (.ireturn, 1) := by decide +kernel
set_option maxRecDepth 20000 in
theorem ggX4_goesBefore_X1_firstOf : GoodIn wsX4_goesBefore wsX1_firstOf := goodIn_r _ [4] (by decide +kernel) (by decide +kernel)
set_option maxRecDepth 20000 in
theorem gX4_goesBefore_X1_firstOf : GoodIn wsX4_goesBefore (va_wsS RX4 63 yX1_firstOf wsX1_firstOf) := goodIn_app (goodIn_of _ (by decide +kernel)) ggX4_goesBefore_X1_firstOf
set_option maxRecDepth 20000 in
theorem ggX4_goesBefore_X1_kindOf : GoodIn wsX4_goesBefore wsX1_kindOf := goodIn_r _ [7] (by decide +kernel) (by decide +kernel)
set_option maxRecDepth 20000 in
theorem gX4_goesBefore_X1_kindOf : GoodIn wsX4_goesBefore (va_wsS RX4 68 yX1_kindOf wsX1_kindOf) := goodIn_app (goodIn_of _ (by decide +kernel)) ggX4_goesBefore_X1_kindOf
theorem dX4_goesBefore_0 : decode cX4_goesBefore 0 = .ok (.iload_n 0, 1) := by decide +kernel
theorem dX4_goesBefore_1 : decode cX4_goesBefore 1 = .ok (.invokestatic 63, 3) := by decide +kernel
theorem dX4_goesBefore_4 : decode cX4_goesBefore 4 = .ok (.iload_n 1, 1) := by decide +kernel
theorem dX4_goesBefore_5 : decode cX4_goesBefore 5 = .ok (.invokestatic 63, 3) := by decide +kernel
theorem dX4_goesBefore_8 : decode cX4_goesBefore 8 = .ok (.if_icmp .eq 20, 3) := by decide +kernel
theorem dX4_goesBefore_11 : decode cX4_goesBefore 11 = .ok (.iload_n 0, 1) := by decide +kernel
theorem dX4_goesBefore_12 : decode cX4_goesBefore 12 = .ok (.invokestatic 63, 3) := by decide +kernel
theorem dX4_goesBefore_15 : decode cX4_goesBefore 15 = .ok (.iload_n 1, 1) := by decide +kernel
theorem dX4_goesBefore_16 : decode cX4_goesBefore 16 = .ok (.invokestatic 63, 3) := by decide +kernel
theorem dX4_goesBefore_19 : decode cX4_goesBefore 19 = .ok (.if_icmp .le 7, 3) := by decide +kernel
theorem dX4_goesBefore_22 : decode cX4_goesBefore 22 = .ok (.iconst 1, 1) := by decide +kernel
theorem dX4_goesBefore_23 : decode cX4_goesBefore 23 = .ok (.goto 4, 3) := by decide +kernel
theorem dX4_goesBefore_26 : decode cX4_goesBefore 26 = .ok (.iconst 0, 1) := by decide +kernel
theorem dX4_goesBefore_27 : decode cX4_goesBefore 27 = .ok (.ireturn, 1) := by decide +kernel
theorem dX4_goesBefore_28 : decode cX4_goesBefore 28 = .ok (.iload_n 0, 1) := by decide +kernel
theorem dX4_goesBefore_29 : decode cX4_goesBefore 29 = .ok (.invokestatic 68, 3) := by decide +kernel
theorem dX4_goesBefore_32 : decode cX4_goesBefore 32 = .ok (.iconst 1, 1) := by decide +kernel
theorem dX4_goesBefore_33 : decode cX4_goesBefore 33 = .ok (.if_icmp .eq 15, 3) := by decide +kernel
theorem dX4_goesBefore_36 : decode cX4_goesBefore 36 = .ok (.iload_n 1, 1) := by decide +kernel
theorem dX4_goesBefore_37 : decode cX4_goesBefore 37 = .ok (.invokestatic 68, 3) := by decide +kernel
theorem dX4_goesBefore_40 : decode cX4_goesBefore 40 = .ok (.iconst 1, 1) := by decide +kernel
theorem dX4_goesBefore_41 : decode cX4_goesBefore 41 = .ok (.if_icmp .ne 7, 3) := by decide +kernel
theorem dX4_goesBefore_44 : decode cX4_goesBefore 44 = .ok (.iconst 1, 1) := by decide +kernel
theorem dX4_goesBefore_45 : decode cX4_goesBefore 45 = .ok (.goto 4, 3) := by decide +kernel
theorem dX4_goesBefore_48 : decode cX4_goesBefore 48 = .ok (.iconst 0, 1) := by decide +kernel
theorem dX4_goesBefore_49 : decode cX4_goesBefore 49 = .ok (.ireturn, 1) := by decide +kernel
set_option maxRecDepth 20000 in
theorem ggX4_carryOut_X1_firstOf : GoodIn wsX4_carryOut wsX1_firstOf := goodIn_r _ [5] (by decide +kernel) (by decide +kernel)
set_option maxRecDepth 20000 in
theorem gX4_carryOut_X1_firstOf : GoodIn wsX4_carryOut (va_wsS RX4 63 yX1_firstOf wsX1_firstOf) := goodIn_app (goodIn_of _ (by decide +kernel)) ggX4_carryOut_X1_firstOf
set_option maxRecDepth 20000 in
theorem ggX4_carryOut_X1_kindOf : GoodIn wsX4_carryOut wsX1_kindOf := goodIn_r _ [8] (by decide +kernel) (by decide +kernel)
set_option maxRecDepth 20000 in
theorem gX4_carryOut_X1_kindOf : GoodIn wsX4_carryOut (va_wsS RX4 68 yX1_kindOf wsX1_kindOf) := goodIn_app (goodIn_of _ (by decide +kernel)) ggX4_carryOut_X1_kindOf
set_option maxRecDepth 20000 in
theorem ggX4_carryOut_X1_secondOf : GoodIn wsX4_carryOut wsX1_secondOf := goodIn_r _ [11] (by decide +kernel) (by decide +kernel)
set_option maxRecDepth 20000 in
theorem gX4_carryOut_X1_secondOf : GoodIn wsX4_carryOut (va_wsS RX4 71 yX1_secondOf wsX1_secondOf) := goodIn_app (goodIn_of _ (by decide +kernel)) ggX4_carryOut_X1_secondOf
set_option maxRecDepth 20000 in
theorem ggX4_carryOut_X5_remove : GoodIn wsX4_carryOut wsX5_remove := goodIn_r _ [16, 17, 18, 19, 20, 15, 21, 22, 23, 24, 25, 26, 27, 28, 29, 30, 55, 56] (by decide +kernel) (by decide +kernel)
set_option maxRecDepth 20000 in
theorem gX4_carryOut_X5_remove : GoodIn wsX4_carryOut (wsV RX4 99 RX5 yX5_remove wsX5_remove) := goodIn_app (goodIn_of _ (by decide +kernel)) ggX4_carryOut_X5_remove
set_option maxRecDepth 20000 in
theorem ggX4_carryOut_X1_characterOf : GoodIn wsX4_carryOut wsX1_characterOf := goodIn_r _ [33] (by decide +kernel) (by decide +kernel)
set_option maxRecDepth 20000 in
theorem gX4_carryOut_X1_characterOf : GoodIn wsX4_carryOut (va_wsS RX4 77 yX1_characterOf wsX1_characterOf) := goodIn_app (goodIn_of _ (by decide +kernel)) ggX4_carryOut_X1_characterOf
set_option maxRecDepth 20000 in
theorem ggX4_carryOut_X5_insert : GoodIn wsX4_carryOut wsX5_insert := goodIn_r _ [37, 17, 22, 38, 39, 40, 15, 41, 23, 24, 25, 26, 18, 19, 20, 21, 27, 28, 29, 30, 55, 56] (by decide +kernel) (by decide +kernel)
set_option maxRecDepth 20000 in
theorem gX4_carryOut_X5_insert : GoodIn wsX4_carryOut (wsV RX4 89 RX5 yX5_insert wsX5_insert) := goodIn_app (goodIn_of _ (by decide +kernel)) ggX4_carryOut_X5_insert
set_option maxRecDepth 20000 in
theorem ggX4_carryOut_X5_set : GoodIn wsX4_carryOut wsX5_set := goodIn_r _ [30, 22, 18, 19, 20, 15, 21, 17, 55, 56] (by decide +kernel) (by decide +kernel)
set_option maxRecDepth 20000 in
theorem gX4_carryOut_X5_set : GoodIn wsX4_carryOut (wsV RX4 74 RX5 yX5_set wsX5_set) := goodIn_app (goodIn_of _ (by decide +kernel)) ggX4_carryOut_X5_set
set_option maxRecDepth 20000 in
theorem ggX4_carryOut_X5_get : GoodIn wsX4_carryOut wsX5_get := goodIn_r _ [26, 22, 18, 19, 20, 15, 21, 17, 55, 56] (by decide +kernel) (by decide +kernel)
set_option maxRecDepth 20000 in
theorem gX4_carryOut_X5_get : GoodIn wsX4_carryOut (wsV RX4 49 RX5 yX5_get wsX5_get) := goodIn_app (goodIn_of _ (by decide +kernel)) ggX4_carryOut_X5_get
set_option maxRecDepth 20000 in
theorem ggX4_carryOut_X4_otherCase : GoodIn wsX4_carryOut wsX4_otherCase := goodIn_r _ [47, 48, 49, 50] (by decide +kernel) (by decide +kernel)
set_option maxRecDepth 20000 in
theorem gX4_carryOut_X4_otherCase : GoodIn wsX4_carryOut (va_wsS RX4 80 yX4_otherCase wsX4_otherCase) := goodIn_app (goodIn_of _ (by decide +kernel)) ggX4_carryOut_X4_otherCase
theorem dX4_carryOut_0 : decode cX4_carryOut 0 = .ok (.iload_n 1, 1) := by decide +kernel
theorem dX4_carryOut_1 : decode cX4_carryOut 1 = .ok (.invokestatic 63, 3) := by decide +kernel
theorem dX4_carryOut_4 : decode cX4_carryOut 4 = .ok (.istore_n 2, 1) := by decide +kernel
theorem dX4_carryOut_5 : decode cX4_carryOut 5 = .ok (.iload_n 1, 1) := by decide +kernel
theorem dX4_carryOut_6 : decode cX4_carryOut 6 = .ok (.invokestatic 68, 3) := by decide +kernel
theorem dX4_carryOut_9 : decode cX4_carryOut 9 = .ok (.tableswitch 155 0 4 #[35, 62, 77, 92, 133], 35) := by decide +kernel
theorem dX4_carryOut_44 : decode cX4_carryOut 44 = .ok (.iload_n 2, 1) := by decide +kernel
theorem dX4_carryOut_45 : decode cX4_carryOut 45 = .ok (.istore_n 3, 1) := by decide +kernel
theorem dX4_carryOut_46 : decode cX4_carryOut 46 = .ok (.iload_n 3, 1) := by decide +kernel
theorem dX4_carryOut_47 : decode cX4_carryOut 47 = .ok (.iload_n 1, 1) := by decide +kernel
theorem dX4_carryOut_48 : decode cX4_carryOut 48 = .ok (.invokestatic 71, 3) := by decide +kernel
theorem dX4_carryOut_51 : decode cX4_carryOut 51 = .ok (.if_icmp .ge 17, 3) := by decide +kernel
theorem dX4_carryOut_54 : decode cX4_carryOut 54 = .ok (.aload_n 0, 1) := by decide +kernel
theorem dX4_carryOut_55 : decode cX4_carryOut 55 = .ok (.getfield 26, 3) := by decide +kernel
theorem dX4_carryOut_58 : decode cX4_carryOut 58 = .ok (.iload_n 2, 1) := by decide +kernel
theorem dX4_carryOut_59 : decode cX4_carryOut 59 = .ok (.invokevirtual 99, 3) := by decide +kernel
theorem dX4_carryOut_62 : decode cX4_carryOut 62 = .ok (.iinc 3 1, 3) := by decide +kernel
theorem dX4_carryOut_65 : decode cX4_carryOut 65 = .ok (.goto (-19), 3) := by decide +kernel
theorem dX4_carryOut_68 : decode cX4_carryOut 68 = .ok (.goto 96, 3) := by decide +kernel
theorem dX4_carryOut_71 : decode cX4_carryOut 71 = .ok (.aload_n 0, 1) := by decide +kernel
theorem dX4_carryOut_72 : decode cX4_carryOut 72 = .ok (.getfield 26, 3) := by decide +kernel
theorem dX4_carryOut_75 : decode cX4_carryOut 75 = .ok (.iload_n 2, 1) := by decide +kernel
theorem dX4_carryOut_76 : decode cX4_carryOut 76 = .ok (.iload_n 1, 1) := by decide +kernel
theorem dX4_carryOut_77 : decode cX4_carryOut 77 = .ok (.invokestatic 77, 3) := by decide +kernel
theorem dX4_carryOut_80 : decode cX4_carryOut 80 = .ok (.invokevirtual 89, 3) := by decide +kernel
theorem dX4_carryOut_83 : decode cX4_carryOut 83 = .ok (.goto 81, 3) := by decide +kernel
theorem dX4_carryOut_86 : decode cX4_carryOut 86 = .ok (.aload_n 0, 1) := by decide +kernel
theorem dX4_carryOut_87 : decode cX4_carryOut 87 = .ok (.getfield 26, 3) := by decide +kernel
theorem dX4_carryOut_90 : decode cX4_carryOut 90 = .ok (.iload_n 2, 1) := by decide +kernel
theorem dX4_carryOut_91 : decode cX4_carryOut 91 = .ok (.iload_n 1, 1) := by decide +kernel
theorem dX4_carryOut_92 : decode cX4_carryOut 92 = .ok (.invokestatic 77, 3) := by decide +kernel
theorem dX4_carryOut_95 : decode cX4_carryOut 95 = .ok (.invokevirtual 74, 3) := by decide +kernel
theorem dX4_carryOut_98 : decode cX4_carryOut 98 = .ok (.goto 66, 3) := by decide +kernel
theorem dX4_carryOut_101 : decode cX4_carryOut 101 = .ok (.aload_n 0, 1) := by decide +kernel
theorem dX4_carryOut_102 : decode cX4_carryOut 102 = .ok (.getfield 26, 3) := by decide +kernel
theorem dX4_carryOut_105 : decode cX4_carryOut 105 = .ok (.iload_n 2, 1) := by decide +kernel
theorem dX4_carryOut_106 : decode cX4_carryOut 106 = .ok (.invokevirtual 49, 3) := by decide +kernel
theorem dX4_carryOut_109 : decode cX4_carryOut 109 = .ok (.istore_n 3, 1) := by decide +kernel
theorem dX4_carryOut_110 : decode cX4_carryOut 110 = .ok (.aload_n 0, 1) := by decide +kernel
theorem dX4_carryOut_111 : decode cX4_carryOut 111 = .ok (.getfield 26, 3) := by decide +kernel
theorem dX4_carryOut_114 : decode cX4_carryOut 114 = .ok (.iload_n 2, 1) := by decide +kernel
theorem dX4_carryOut_115 : decode cX4_carryOut 115 = .ok (.aload_n 0, 1) := by decide +kernel
theorem dX4_carryOut_116 : decode cX4_carryOut 116 = .ok (.getfield 26, 3) := by decide +kernel
theorem dX4_carryOut_119 : decode cX4_carryOut 119 = .ok (.iload_n 2, 1) := by decide +kernel
theorem dX4_carryOut_120 : decode cX4_carryOut 120 = .ok (.iconst 1, 1) := by decide +kernel
theorem dX4_carryOut_121 : decode cX4_carryOut 121 = .ok (.iadd, 1) := by decide +kernel
theorem dX4_carryOut_122 : decode cX4_carryOut 122 = .ok (.invokevirtual 49, 3) := by decide +kernel
theorem dX4_carryOut_125 : decode cX4_carryOut 125 = .ok (.invokevirtual 74, 3) := by decide +kernel
theorem dX4_carryOut_128 : decode cX4_carryOut 128 = .ok (.aload_n 0, 1) := by decide +kernel
theorem dX4_carryOut_129 : decode cX4_carryOut 129 = .ok (.getfield 26, 3) := by decide +kernel
theorem dX4_carryOut_132 : decode cX4_carryOut 132 = .ok (.iload_n 2, 1) := by decide +kernel
theorem dX4_carryOut_133 : decode cX4_carryOut 133 = .ok (.iconst 1, 1) := by decide +kernel
theorem dX4_carryOut_134 : decode cX4_carryOut 134 = .ok (.iadd, 1) := by decide +kernel
theorem dX4_carryOut_135 : decode cX4_carryOut 135 = .ok (.iload_n 3, 1) := by decide +kernel
theorem dX4_carryOut_136 : decode cX4_carryOut 136 = .ok (.invokevirtual 74, 3) := by decide +kernel
theorem dX4_carryOut_139 : decode cX4_carryOut 139 = .ok (.goto 25, 3) := by decide +kernel
theorem dX4_carryOut_142 : decode cX4_carryOut 142 = .ok (.aload_n 0, 1) := by decide +kernel
theorem dX4_carryOut_143 : decode cX4_carryOut 143 = .ok (.getfield 26, 3) := by decide +kernel
theorem dX4_carryOut_146 : decode cX4_carryOut 146 = .ok (.iload_n 2, 1) := by decide +kernel
theorem dX4_carryOut_147 : decode cX4_carryOut 147 = .ok (.aload_n 0, 1) := by decide +kernel
theorem dX4_carryOut_148 : decode cX4_carryOut 148 = .ok (.getfield 26, 3) := by decide +kernel
theorem dX4_carryOut_151 : decode cX4_carryOut 151 = .ok (.iload_n 2, 1) := by decide +kernel
theorem dX4_carryOut_152 : decode cX4_carryOut 152 = .ok (.invokevirtual 49, 3) := by decide +kernel
theorem dX4_carryOut_155 : decode cX4_carryOut 155 = .ok (.invokestatic 80, 3) := by decide +kernel
theorem dX4_carryOut_158 : decode cX4_carryOut 158 = .ok (.invokevirtual 74, 3) := by decide +kernel
theorem dX4_carryOut_161 : decode cX4_carryOut 161 = .ok (.goto 3, 3) := by decide +kernel
theorem dX4_carryOut_164 : decode cX4_carryOut 164 = .ok (.return_, 1) := by decide +kernel
set_option maxRecDepth 20000 in
theorem ggX4_otherCase_X8_isOutside : GoodIn wsX4_otherCase wsX8_isOutside := goodIn_r _ [3] (by decide +kernel) (by decide +kernel)
set_option maxRecDepth 20000 in
theorem gX4_otherCase_X8_isOutside_n102 : GoodIn wsX4_otherCase (wsX8_isOutside) := ggX4_otherCase_X8_isOutside
theorem dX4_otherCase_0 : decode cX4_otherCase 0 = .ok (.iload_n 0, 1) := by decide +kernel
theorem dX4_otherCase_1 : decode cX4_otherCase 1 = .ok (.bipush 97, 2) := by decide +kernel
theorem dX4_otherCase_3 : decode cX4_otherCase 3 = .ok (.bipush 122, 2) := by decide +kernel
theorem dX4_otherCase_5 : decode cX4_otherCase 5 = .ok (.invokestatic 102, 3) := by decide +kernel
theorem dX4_otherCase_8 : decode cX4_otherCase 8 = .ok (.ifCond .ne 11, 3) := by decide +kernel
theorem dX4_otherCase_11 : decode cX4_otherCase 11 = .ok (.iload_n 0, 1) := by decide +kernel
theorem dX4_otherCase_12 : decode cX4_otherCase 12 = .ok (.bipush 97, 2) := by decide +kernel
theorem dX4_otherCase_14 : decode cX4_otherCase 14 = .ok (.isub, 1) := by decide +kernel
theorem dX4_otherCase_15 : decode cX4_otherCase 15 = .ok (.bipush 65, 2) := by decide +kernel
theorem dX4_otherCase_17 : decode cX4_otherCase 17 = .ok (.iadd, 1) := by decide +kernel
theorem dX4_otherCase_18 : decode cX4_otherCase 18 = .ok (.ireturn, 1) := by decide +kernel
theorem dX4_otherCase_19 : decode cX4_otherCase 19 = .ok (.iload_n 0, 1) := by decide +kernel
theorem dX4_otherCase_20 : decode cX4_otherCase 20 = .ok (.bipush 65, 2) := by decide +kernel
theorem dX4_otherCase_22 : decode cX4_otherCase 22 = .ok (.bipush 90, 2) := by decide +kernel
theorem dX4_otherCase_24 : decode cX4_otherCase 24 = .ok (.invokestatic 102, 3) := by decide +kernel
theorem dX4_otherCase_27 : decode cX4_otherCase 27 = .ok (.ifCond .eq 7, 3) := by decide +kernel
theorem dX4_otherCase_30 : decode cX4_otherCase 30 = .ok (.iload_n 0, 1) := by decide +kernel
theorem dX4_otherCase_31 : decode cX4_otherCase 31 = .ok (.goto 10, 3) := by decide +kernel
theorem dX4_otherCase_34 : decode cX4_otherCase 34 = .ok (.iload_n 0, 1) := by decide +kernel
theorem dX4_otherCase_35 : decode cX4_otherCase 35 = .ok (.bipush 65, 2) := by decide +kernel
theorem dX4_otherCase_37 : decode cX4_otherCase 37 = .ok (.isub, 1) := by decide +kernel
theorem dX4_otherCase_38 : decode cX4_otherCase 38 = .ok (.bipush 97, 2) := by decide +kernel
theorem dX4_otherCase_40 : decode cX4_otherCase 40 = .ok (.iadd, 1) := by decide +kernel
theorem dX4_otherCase_41 : decode cX4_otherCase 41 = .ok (.ireturn, 1) := by decide +kernel
