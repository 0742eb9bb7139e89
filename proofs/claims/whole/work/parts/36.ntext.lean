set_option maxRecDepth 20000 in
theorem ggX3_init_X5_init : GoodIn wsX3_init wsX5_init := goodIn_r _ [11, 12, 2, 3, 13, 14, 15, 16] (by decide +kernel) (by decide +kernel)
set_option maxRecDepth 20000 in
theorem gX3_init_X5_init : GoodIn wsX3_init (wsX5_init) := ggX3_init_X5_init
theorem dX3_init_0 : decode cX3_init 0 = .ok (.aload_n 0, 1) := by decide +kernel
theorem dX3_init_1 : decode cX3_init 1 = .ok (.invokespecial 3, 3) := by decide +kernel
theorem dX3_init_4 : decode cX3_init 4 = .ok (.aload_n 0, 1) := by decide +kernel
theorem dX3_init_5 : decode cX3_init 5 = .ok (.new 9, 3) := by decide +kernel
theorem dX3_init_8 : decode cX3_init 8 = .ok (.dup, 1) := by decide +kernel
theorem dX3_init_9 : decode cX3_init 9 = .ok (.bipush 80, 2) := by decide +kernel
theorem dX3_init_11 : decode cX3_init 11 = .ok (.invokespecial 11, 3) := by decide +kernel
theorem dX3_init_14 : decode cX3_init 14 = .ok (.putfield 14, 3) := by decide +kernel
theorem dX3_init_17 : decode cX3_init 17 = .ok (.aload_n 0, 1) := by decide +kernel
theorem dX3_init_18 : decode cX3_init 18 = .ok (.new 9, 3) := by decide +kernel
theorem dX3_init_21 : decode cX3_init 21 = .ok (.dup, 1) := by decide +kernel
theorem dX3_init_22 : decode cX3_init 22 = .ok (.bipush 8, 2) := by decide +kernel
theorem dX3_init_24 : decode cX3_init 24 = .ok (.invokespecial 11, 3) := by decide +kernel
theorem dX3_init_27 : decode cX3_init 27 = .ok (.putfield 20, 3) := by decide +kernel
theorem dX3_init_30 : decode cX3_init 30 = .ok (.return_, 1) := by decide +kernel
set_option maxRecDepth 20000 in
theorem ggX3_readFor_X5_cutTo : GoodIn wsX3_readFor wsX5_cutTo := goodIn_r _ [10, 11, 130, 131] (by decide +kernel) (by decide +kernel)
set_option maxRecDepth 20000 in
theorem gX3_readFor_X5_cutTo : GoodIn wsX3_readFor (wsV RX3 23 RX5 yX5_cutTo wsX5_cutTo) := goodIn_app (goodIn_of _ (by decide +kernel)) ggX3_readFor_X5_cutTo
set_option maxRecDepth 20000 in
theorem ggX3_readFor_X5_used : GoodIn wsX3_readFor wsX5_used := goodIn_r _ [15, 11, 130, 131] (by decide +kernel) (by decide +kernel)
set_option maxRecDepth 20000 in
theorem gX3_readFor_X5_used : GoodIn wsX3_readFor (wsV RX3 33 RX5 yX5_used wsX5_used) := goodIn_app (goodIn_of _ (by decide +kernel)) ggX3_readFor_X5_used
set_option maxRecDepth 20000 in
theorem ggX3_readFor_X3_readMark : GoodIn wsX3_readFor wsX3_readMark := goodIn_r _ [20, 3, 21, 22, 23, 19, 24, 2, 4, 12, 13, 14, 9, 15, 11, 25, 26, 27, 28, 29, 30, 31, 32, 33, 34, 35, 36, 37, 38, 39, 40, 41, 42, 43, 44, 45, 46, 47, 48, 49, 50, 51, 52, 53, 54, 55, 56, 57, 58, 59, 60, 61, 62, 63, 64, 65, 66, 67, 68, 69, 70, 71, 72, 73, 74, 75, 76, 77, 78, 79, 80, 81, 82, 83, 84, 85, 86, 87, 88, 89, 90, 91, 92, 93, 94, 95, 96, 97, 98, 99, 100, 101, 102, 103, 104, 105, 106, 107, 108, 109, 110, 111, 112, 113, 114, 115, 1, 116, 117, 118, 119, 120, 121, 122, 123, 124, 125, 126, 127, 128, 129, 130, 131] (by decide +kernel) (by decide +kernel)
set_option maxRecDepth 20000 in
theorem gX3_readFor_X3_readMark : GoodIn wsX3_readFor (wsV RX3 40 RX3 yX3_readMark wsX3_readMark) := goodIn_app (goodIn_of _ (by decide +kernel)) ggX3_readFor_X3_readMark
theorem dX3_readFor_0 : decode cX3_readFor 0 = .ok (.aload_n 0, 1) := by decide +kernel
theorem dX3_readFor_1 : decode cX3_readFor 1 = .ok (.getfield 20, 3) := by decide +kernel
theorem dX3_readFor_4 : decode cX3_readFor 4 = .ok (.iconst 0, 1) := by decide +kernel
theorem dX3_readFor_5 : decode cX3_readFor 5 = .ok (.invokevirtual 23, 3) := by decide +kernel
theorem dX3_readFor_8 : decode cX3_readFor 8 = .ok (.aload_n 0, 1) := by decide +kernel
theorem dX3_readFor_9 : decode cX3_readFor 9 = .ok (.iconst 0, 1) := by decide +kernel
theorem dX3_readFor_10 : decode cX3_readFor 10 = .ok (.putfield 26, 3) := by decide +kernel
theorem dX3_readFor_13 : decode cX3_readFor 13 = .ok (.aload_n 0, 1) := by decide +kernel
theorem dX3_readFor_14 : decode cX3_readFor 14 = .ok (.iconst 0, 1) := by decide +kernel
theorem dX3_readFor_15 : decode cX3_readFor 15 = .ok (.putfield 30, 3) := by decide +kernel
theorem dX3_readFor_18 : decode cX3_readFor 18 = .ok (.iconst 0, 1) := by decide +kernel
theorem dX3_readFor_19 : decode cX3_readFor 19 = .ok (.istore_n 3, 1) := by decide +kernel
theorem dX3_readFor_20 : decode cX3_readFor 20 = .ok (.iload_n 3, 1) := by decide +kernel
theorem dX3_readFor_21 : decode cX3_readFor 21 = .ok (.bipush 80, 2) := by decide +kernel
theorem dX3_readFor_23 : decode cX3_readFor 23 = .ok (.if_icmp .ge 44, 3) := by decide +kernel
theorem dX3_readFor_26 : decode cX3_readFor 26 = .ok (.aload_n 0, 1) := by decide +kernel
theorem dX3_readFor_27 : decode cX3_readFor 27 = .ok (.getfield 26, 3) := by decide +kernel
theorem dX3_readFor_30 : decode cX3_readFor 30 = .ok (.aload_n 0, 1) := by decide +kernel
theorem dX3_readFor_31 : decode cX3_readFor 31 = .ok (.getfield 14, 3) := by decide +kernel
theorem dX3_readFor_34 : decode cX3_readFor 34 = .ok (.invokevirtual 33, 3) := by decide +kernel
theorem dX3_readFor_37 : decode cX3_readFor 37 = .ok (.if_icmp .ge 30, 3) := by decide +kernel
theorem dX3_readFor_40 : decode cX3_readFor 40 = .ok (.aload_n 0, 1) := by decide +kernel
theorem dX3_readFor_41 : decode cX3_readFor 41 = .ok (.getfield 30, 3) := by decide +kernel
theorem dX3_readFor_44 : decode cX3_readFor 44 = .ok (.ifCond .ne 23, 3) := by decide +kernel
theorem dX3_readFor_47 : decode cX3_readFor 47 = .ok (.aload_n 0, 1) := by decide +kernel
theorem dX3_readFor_48 : decode cX3_readFor 48 = .ok (.aload_n 0, 1) := by decide +kernel
theorem dX3_readFor_49 : decode cX3_readFor 49 = .ok (.getfield 26, 3) := by decide +kernel
theorem dX3_readFor_52 : decode cX3_readFor 52 = .ok (.putfield 37, 3) := by decide +kernel
theorem dX3_readFor_55 : decode cX3_readFor 55 = .ok (.aload_n 0, 1) := by decide +kernel
theorem dX3_readFor_56 : decode cX3_readFor 56 = .ok (.aload_n 1, 1) := by decide +kernel
theorem dX3_readFor_57 : decode cX3_readFor 57 = .ok (.iload_n 2, 1) := by decide +kernel
theorem dX3_readFor_58 : decode cX3_readFor 58 = .ok (.invokevirtual 40, 3) := by decide +kernel
theorem dX3_readFor_61 : decode cX3_readFor 61 = .ok (.iinc 3 1, 3) := by decide +kernel
theorem dX3_readFor_64 : decode cX3_readFor 64 = .ok (.goto (-44), 3) := by decide +kernel
theorem dX3_readFor_67 : decode cX3_readFor 67 = .ok (.return_, 1) := by decide +kernel
set_option maxRecDepth 20000 in
theorem ggX3_readMark_X3_readWord : GoodIn wsX3_readMark wsX3_readWord := goodIn_r _ [6, 7, 8, 9, 10, 11, 12, 13, 14, 15, 16, 17, 18, 19, 20, 21, 22, 23, 24, 25, 5, 26, 27, 28, 29, 30, 31, 32, 33, 34, 35, 36, 37, 38, 39, 40, 41, 42, 43, 44, 45, 46, 47, 48, 49, 50, 51, 52, 53, 54, 55, 56, 57, 58, 59, 60, 61, 62, 63, 64, 65, 66, 67, 68, 69, 70, 71, 72, 73, 74, 75, 76, 77, 78, 79, 116, 117, 118, 119, 120, 121, 122] (by decide +kernel) (by decide +kernel)
set_option maxRecDepth 20000 in
theorem gX3_readMark_X3_readWord : GoodIn wsX3_readMark (wsV RX3 44 RX3 yX3_readWord wsX3_readWord) := goodIn_app (goodIn_of _ (by decide +kernel)) ggX3_readMark_X3_readWord
set_option maxRecDepth 20000 in
theorem ggX3_readMark_X3_readPosition : GoodIn wsX3_readMark wsX3_readPosition := goodIn_r _ [83, 8, 7, 84, 85, 86, 5, 87, 15, 16, 17, 12, 18, 19, 20, 21, 22, 23, 14, 116, 117, 118, 119, 120, 121, 122] (by decide +kernel) (by decide +kernel)
set_option maxRecDepth 20000 in
theorem gX3_readMark_X3_readPosition : GoodIn wsX3_readMark (wsV RX3 47 RX3 yX3_readPosition wsX3_readPosition) := goodIn_app (goodIn_of _ (by decide +kernel)) ggX3_readMark_X3_readPosition
set_option maxRecDepth 20000 in
theorem ggX3_readMark_X1_takesCharacter : GoodIn wsX3_readMark wsX1_takesCharacter := goodIn_r _ [91] (by decide +kernel) (by decide +kernel)
set_option maxRecDepth 20000 in
theorem gX3_readMark_X1_takesCharacter : GoodIn wsX3_readMark (va_wsS RX3 50 yX1_takesCharacter wsX1_takesCharacter) := goodIn_app (goodIn_of _ (by decide +kernel)) ggX3_readMark_X1_takesCharacter
set_option maxRecDepth 20000 in
theorem ggX3_readMark_X3_readCharacter : GoodIn wsX3_readMark wsX3_readCharacter := goodIn_r _ [95, 7, 8, 84, 85, 86, 5, 87, 15, 16, 17, 12, 18, 19, 20, 21, 22, 23, 14, 9, 10, 11, 13, 116, 117, 118, 119, 120, 121, 122] (by decide +kernel) (by decide +kernel)
set_option maxRecDepth 20000 in
theorem gX3_readMark_X3_readCharacter : GoodIn wsX3_readMark (wsV RX3 56 RX3 yX3_readCharacter wsX3_readCharacter) := goodIn_app (goodIn_of _ (by decide +kernel)) ggX3_readMark_X3_readCharacter
set_option maxRecDepth 20000 in
theorem ggX3_readMark_X3_passes : GoodIn wsX3_readMark wsX3_passes := goodIn_r _ [87, 8, 7, 15, 16, 17, 12, 18, 19, 20, 21, 22, 23, 14, 116, 117, 118, 119, 120, 121, 122] (by decide +kernel) (by decide +kernel)
set_option maxRecDepth 20000 in
theorem gX3_readMark_X3_passes : GoodIn wsX3_readMark (wsV RX3 59 RX3 yX3_passes wsX3_passes) := goodIn_app (goodIn_of _ (by decide +kernel)) ggX3_readMark_X3_passes
set_option maxRecDepth 20000 in
theorem ggX3_readMark_X1_isPossible : GoodIn wsX3_readMark wsX1_isPossible := goodIn_r _ [98] (by decide +kernel) (by decide +kernel)
set_option maxRecDepth 20000 in
theorem gX3_readMark_X1_isPossible : GoodIn wsX3_readMark (va_wsS RX3 62 yX1_isPossible wsX1_isPossible) := goodIn_app (goodIn_of _ (by decide +kernel)) ggX3_readMark_X1_isPossible
set_option maxRecDepth 20000 in
theorem ggX3_readMark_X1_codeOf : GoodIn wsX3_readMark wsX1_codeOf := goodIn_r _ [101] (by decide +kernel) (by decide +kernel)
set_option maxRecDepth 20000 in
theorem gX3_readMark_X1_codeOf : GoodIn wsX3_readMark (va_wsS RX3 66 yX1_codeOf wsX1_codeOf) := goodIn_app (goodIn_of _ (by decide +kernel)) ggX3_readMark_X1_codeOf
set_option maxRecDepth 20000 in
theorem ggX3_readMark_X3_keep : GoodIn wsX3_readMark wsX3_keep := goodIn_r _ [105, 106, 1, 107, 108, 109, 12, 110, 14, 111, 16, 17, 18, 19, 20, 21, 22, 23, 9, 10, 11, 13, 112, 113, 114, 115, 116, 117, 118, 119, 120, 121, 122] (by decide +kernel) (by decide +kernel)
set_option maxRecDepth 20000 in
theorem gX3_readMark_X3_keep : GoodIn wsX3_readMark (wsV RX3 70 RX3 yX3_keep wsX3_keep) := goodIn_app (goodIn_of _ (by decide +kernel)) ggX3_readMark_X3_keep
theorem dX3_readMark_0 : decode cX3_readMark 0 = .ok (.aload_n 0, 1) := by decide +kernel
theorem dX3_readMark_1 : decode cX3_readMark 1 = .ok (.invokevirtual 44, 3) := by decide +kernel
theorem dX3_readMark_4 : decode cX3_readMark 4 = .ok (.istore_n 3, 1) := by decide +kernel
theorem dX3_readMark_5 : decode cX3_readMark 5 = .ok (.iload_n 3, 1) := by decide +kernel
theorem dX3_readMark_6 : decode cX3_readMark 6 = .ok (.ifCond .ge 9, 3) := by decide +kernel
theorem dX3_readMark_9 : decode cX3_readMark 9 = .ok (.aload_n 0, 1) := by decide +kernel
theorem dX3_readMark_10 : decode cX3_readMark 10 = .ok (.iconst 1, 1) := by decide +kernel
theorem dX3_readMark_11 : decode cX3_readMark 11 = .ok (.putfield 30, 3) := by decide +kernel
theorem dX3_readMark_14 : decode cX3_readMark 14 = .ok (.return_, 1) := by decide +kernel
theorem dX3_readMark_15 : decode cX3_readMark 15 = .ok (.aload_n 0, 1) := by decide +kernel
theorem dX3_readMark_16 : decode cX3_readMark 16 = .ok (.invokevirtual 47, 3) := by decide +kernel
theorem dX3_readMark_19 : decode cX3_readMark 19 = .ok (.istore 4, 2) := by decide +kernel
theorem dX3_readMark_21 : decode cX3_readMark 21 = .ok (.iload_n 3, 1) := by decide +kernel
theorem dX3_readMark_22 : decode cX3_readMark 22 = .ok (.ifCond .ne 10, 3) := by decide +kernel
theorem dX3_readMark_25 : decode cX3_readMark 25 = .ok (.aload_n 0, 1) := by decide +kernel
theorem dX3_readMark_26 : decode cX3_readMark 26 = .ok (.invokevirtual 47, 3) := by decide +kernel
theorem dX3_readMark_29 : decode cX3_readMark 29 = .ok (.goto 4, 3) := by decide +kernel
theorem dX3_readMark_32 : decode cX3_readMark 32 = .ok (.iconst 0, 1) := by decide +kernel
theorem dX3_readMark_33 : decode cX3_readMark 33 = .ok (.istore 5, 2) := by decide +kernel
theorem dX3_readMark_35 : decode cX3_readMark 35 = .ok (.iload_n 3, 1) := by decide +kernel
theorem dX3_readMark_36 : decode cX3_readMark 36 = .ok (.invokestatic 50, 3) := by decide +kernel
theorem dX3_readMark_39 : decode cX3_readMark 39 = .ok (.ifCond .eq 10, 3) := by decide +kernel
theorem dX3_readMark_42 : decode cX3_readMark 42 = .ok (.aload_n 0, 1) := by decide +kernel
theorem dX3_readMark_43 : decode cX3_readMark 43 = .ok (.invokevirtual 56, 3) := by decide +kernel
theorem dX3_readMark_46 : decode cX3_readMark 46 = .ok (.goto 4, 3) := by decide +kernel
theorem dX3_readMark_49 : decode cX3_readMark 49 = .ok (.iconst 0, 1) := by decide +kernel
theorem dX3_readMark_50 : decode cX3_readMark 50 = .ok (.istore 6, 2) := by decide +kernel
theorem dX3_readMark_52 : decode cX3_readMark 52 = .ok (.iload 4, 2) := by decide +kernel
theorem dX3_readMark_54 : decode cX3_readMark 54 = .ok (.ifCond .lt 22, 3) := by decide +kernel
theorem dX3_readMark_57 : decode cX3_readMark 57 = .ok (.iload 5, 2) := by decide +kernel
theorem dX3_readMark_59 : decode cX3_readMark 59 = .ok (.ifCond .lt 17, 3) := by decide +kernel
theorem dX3_readMark_62 : decode cX3_readMark 62 = .ok (.iload 6, 2) := by decide +kernel
theorem dX3_readMark_64 : decode cX3_readMark 64 = .ok (.ifCond .lt 12, 3) := by decide +kernel
theorem dX3_readMark_67 : decode cX3_readMark 67 = .ok (.aload_n 0, 1) := by decide +kernel
theorem dX3_readMark_68 : decode cX3_readMark 68 = .ok (.bipush 59, 2) := by decide +kernel
theorem dX3_readMark_70 : decode cX3_readMark 70 = .ok (.invokevirtual 59, 3) := by decide +kernel
theorem dX3_readMark_73 : decode cX3_readMark 73 = .ok (.ifCond .ne 9, 3) := by decide +kernel
theorem dX3_readMark_76 : decode cX3_readMark 76 = .ok (.aload_n 0, 1) := by decide +kernel
theorem dX3_readMark_77 : decode cX3_readMark 77 = .ok (.iconst 2, 1) := by decide +kernel
theorem dX3_readMark_78 : decode cX3_readMark 78 = .ok (.putfield 30, 3) := by decide +kernel
theorem dX3_readMark_81 : decode cX3_readMark 81 = .ok (.return_, 1) := by decide +kernel
theorem dX3_readMark_82 : decode cX3_readMark 82 = .ok (.iload_n 3, 1) := by decide +kernel
theorem dX3_readMark_83 : decode cX3_readMark 83 = .ok (.iload 4, 2) := by decide +kernel
theorem dX3_readMark_85 : decode cX3_readMark 85 = .ok (.iload 5, 2) := by decide +kernel
theorem dX3_readMark_87 : decode cX3_readMark 87 = .ok (.iload_n 2, 1) := by decide +kernel
theorem dX3_readMark_88 : decode cX3_readMark 88 = .ok (.invokestatic 62, 3) := by decide +kernel
theorem dX3_readMark_91 : decode cX3_readMark 91 = .ok (.ifCond .ne 9, 3) := by decide +kernel
theorem dX3_readMark_94 : decode cX3_readMark 94 = .ok (.aload_n 0, 1) := by decide +kernel
theorem dX3_readMark_95 : decode cX3_readMark 95 = .ok (.iconst 3, 1) := by decide +kernel
theorem dX3_readMark_96 : decode cX3_readMark 96 = .ok (.putfield 30, 3) := by decide +kernel
theorem dX3_readMark_99 : decode cX3_readMark 99 = .ok (.return_, 1) := by decide +kernel
theorem dX3_readMark_100 : decode cX3_readMark 100 = .ok (.aload_n 0, 1) := by decide +kernel
theorem dX3_readMark_101 : decode cX3_readMark 101 = .ok (.iload_n 3, 1) := by decide +kernel
theorem dX3_readMark_102 : decode cX3_readMark 102 = .ok (.iload 4, 2) := by decide +kernel
theorem dX3_readMark_104 : decode cX3_readMark 104 = .ok (.iload 5, 2) := by decide +kernel
theorem dX3_readMark_106 : decode cX3_readMark 106 = .ok (.iload 6, 2) := by decide +kernel
theorem dX3_readMark_108 : decode cX3_readMark 108 = .ok (.invokestatic 66, 3) := by decide +kernel
theorem dX3_readMark_111 : decode cX3_readMark 111 = .ok (.aload_n 1, 1) := by decide +kernel
theorem dX3_readMark_112 : decode cX3_readMark 112 = .ok (.invokevirtual 70, 3) := by decide +kernel
theorem dX3_readMark_115 : decode cX3_readMark 115 = .ok (.return_, 1) := by decide +kernel
set_option maxRecDepth 20000 in
theorem ggX3_keep_X5_placeOf : GoodIn wsX3_keep wsX5_placeOf := goodIn_r _ [7, 8, 9, 10, 11, 6, 12, 13, 14, 15, 16, 17, 31, 32] (by decide +kernel) (by decide +kernel)
set_option maxRecDepth 20000 in
theorem gX3_keep_X5_placeOf : GoodIn wsX3_keep (wsV RX3 74 RX5 yX5_placeOf wsX5_placeOf) := goodIn_app (goodIn_of _ (by decide +kernel)) ggX3_keep_X5_placeOf
set_option maxRecDepth 20000 in
theorem ggX3_keep_X5_used : GoodIn wsX3_keep wsX5_used := goodIn_r _ [21, 8, 31, 32] (by decide +kernel) (by decide +kernel)
set_option maxRecDepth 20000 in
theorem gX3_keep_X5_used : GoodIn wsX3_keep (wsV RX3 33 RX5 yX5_used wsX5_used) := goodIn_app (goodIn_of _ (by decide +kernel)) ggX3_keep_X5_used
set_option maxRecDepth 20000 in
theorem ggX3_keep_X5_append : GoodIn wsX3_keep wsX5_append := goodIn_r _ [25, 8, 13, 31, 32] (by decide +kernel) (by decide +kernel)
set_option maxRecDepth 20000 in
theorem gX3_keep_X5_append : GoodIn wsX3_keep (wsV RX3 78 RX5 yX5_append wsX5_append) := goodIn_app (goodIn_of _ (by decide +kernel)) ggX3_keep_X5_append
theorem dX3_keep_0 : decode cX3_keep 0 = .ok (.aload_n 2, 1) := by decide +kernel
theorem dX3_keep_1 : decode cX3_keep 1 = .ok (.iload_n 1, 1) := by decide +kernel
theorem dX3_keep_2 : decode cX3_keep 2 = .ok (.invokevirtual 74, 3) := by decide +kernel
theorem dX3_keep_5 : decode cX3_keep 5 = .ok (.ifCond .ge 14, 3) := by decide +kernel
theorem dX3_keep_8 : decode cX3_keep 8 = .ok (.aload_n 0, 1) := by decide +kernel
theorem dX3_keep_9 : decode cX3_keep 9 = .ok (.getfield 20, 3) := by decide +kernel
theorem dX3_keep_12 : decode cX3_keep 12 = .ok (.iload_n 1, 1) := by decide +kernel
theorem dX3_keep_13 : decode cX3_keep 13 = .ok (.invokevirtual 74, 3) := by decide +kernel
theorem dX3_keep_16 : decode cX3_keep 16 = .ok (.ifCond .lt 11, 3) := by decide +kernel
theorem dX3_keep_19 : decode cX3_keep 19 = .ok (.aload_n 0, 1) := by decide +kernel
theorem dX3_keep_20 : decode cX3_keep 20 = .ok (.iconst 4, 1) := by decide +kernel
theorem dX3_keep_21 : decode cX3_keep 21 = .ok (.putfield 30, 3) := by decide +kernel
theorem dX3_keep_24 : decode cX3_keep 24 = .ok (.goto 36, 3) := by decide +kernel
theorem dX3_keep_27 : decode cX3_keep 27 = .ok (.aload_n 2, 1) := by decide +kernel
theorem dX3_keep_28 : decode cX3_keep 28 = .ok (.invokevirtual 33, 3) := by decide +kernel
theorem dX3_keep_31 : decode cX3_keep 31 = .ok (.aload_n 0, 1) := by decide +kernel
theorem dX3_keep_32 : decode cX3_keep 32 = .ok (.getfield 20, 3) := by decide +kernel
theorem dX3_keep_35 : decode cX3_keep 35 = .ok (.invokevirtual 33, 3) := by decide +kernel
theorem dX3_keep_38 : decode cX3_keep 38 = .ok (.iadd, 1) := by decide +kernel
theorem dX3_keep_39 : decode cX3_keep 39 = .ok (.bipush 8, 2) := by decide +kernel
theorem dX3_keep_41 : decode cX3_keep 41 = .ok (.if_icmp .lt 11, 3) := by decide +kernel
theorem dX3_keep_44 : decode cX3_keep 44 = .ok (.aload_n 0, 1) := by decide +kernel
theorem dX3_keep_45 : decode cX3_keep 45 = .ok (.iconst 5, 1) := by decide +kernel
theorem dX3_keep_46 : decode cX3_keep 46 = .ok (.putfield 30, 3) := by decide +kernel
theorem dX3_keep_49 : decode cX3_keep 49 = .ok (.goto 11, 3) := by decide +kernel
theorem dX3_keep_52 : decode cX3_keep 52 = .ok (.aload_n 0, 1) := by decide +kernel
theorem dX3_keep_53 : decode cX3_keep 53 = .ok (.getfield 20, 3) := by decide +kernel
theorem dX3_keep_56 : decode cX3_keep 56 = .ok (.iload_n 1, 1) := by decide +kernel
theorem dX3_keep_57 : decode cX3_keep 57 = .ok (.invokevirtual 78, 3) := by decide +kernel
theorem dX3_keep_60 : decode cX3_keep 60 = .ok (.return_, 1) := by decide +kernel
set_option maxRecDepth 20000 in
theorem ggX3_readWord_X5_used : GoodIn wsX3_readWord wsX5_used := goodIn_r _ [7, 8, 80, 81] (by decide +kernel) (by decide +kernel)
set_option maxRecDepth 20000 in
theorem gX3_readWord_X5_used : GoodIn wsX3_readWord (wsV RX3 33 RX5 yX5_used wsX5_used) := goodIn_app (goodIn_of _ (by decide +kernel)) ggX3_readWord_X5_used
set_option maxRecDepth 20000 in
theorem ggX3_readWord_X5_get : GoodIn wsX3_readWord wsX5_get := goodIn_r _ [12, 13, 14, 15, 16, 6, 17, 8, 80, 81] (by decide +kernel) (by decide +kernel)
set_option maxRecDepth 20000 in
theorem gX3_readWord_X5_get : GoodIn wsX3_readWord (wsV RX3 81 RX5 yX5_get wsX5_get) := goodIn_app (goodIn_of _ (by decide +kernel)) ggX3_readWord_X5_get
set_option maxRecDepth 20000 in
theorem ggX3_readWord_X3_wordOf : GoodIn wsX3_readWord wsX3_wordOf := goodIn_r _ [21] (by decide +kernel) (by decide +kernel)
set_option maxRecDepth 20000 in
theorem gX3_readWord_X3_wordOf : GoodIn wsX3_readWord (va_wsS RX3 84 yX3_wordOf wsX3_wordOf) := goodIn_app (goodIn_of _ (by decide +kernel)) ggX3_readWord_X3_wordOf
set_option maxRecDepth 20000 in
theorem ggX3_readWord_X3_spells : GoodIn wsX3_readWord wsX3_spells := goodIn_r _ [25, 1, 2, 26, 27, 28, 29, 30, 31, 32, 33, 34, 35, 36, 37, 9, 10, 11, 6, 12, 13, 14, 15, 16, 17, 8, 38, 39, 40, 41, 42, 43, 44, 45, 46, 47, 48, 49, 50, 51, 52, 53, 54, 55, 56, 57, 58, 59, 60, 61, 62, 63, 64, 65, 66, 67, 68, 69, 70, 71, 72, 73, 74, 75, 76, 77, 78, 79, 80, 81] (by decide +kernel) (by decide +kernel)
set_option maxRecDepth 20000 in
theorem gX3_readWord_X3_spells : GoodIn wsX3_readWord (wsV RX3 88 RX3 yX3_spells wsX3_spells) := goodIn_app (goodIn_of _ (by decide +kernel)) ggX3_readWord_X3_spells
theorem dX3_readWord_0 : decode cX3_readWord 0 = .ok (.aload_n 0, 1) := by decide +kernel
theorem dX3_readWord_1 : decode cX3_readWord 1 = .ok (.getfield 26, 3) := by decide +kernel
theorem dX3_readWord_4 : decode cX3_readWord 4 = .ok (.istore_n 1, 1) := by decide +kernel
theorem dX3_readWord_5 : decode cX3_readWord 5 = .ok (.aload_n 0, 1) := by decide +kernel
theorem dX3_readWord_6 : decode cX3_readWord 6 = .ok (.getfield 26, 3) := by decide +kernel
theorem dX3_readWord_9 : decode cX3_readWord 9 = .ok (.istore_n 2, 1) := by decide +kernel
theorem dX3_readWord_10 : decode cX3_readWord 10 = .ok (.iload_n 2, 1) := by decide +kernel
theorem dX3_readWord_11 : decode cX3_readWord 11 = .ok (.aload_n 0, 1) := by decide +kernel
theorem dX3_readWord_12 : decode cX3_readWord 12 = .ok (.getfield 14, 3) := by decide +kernel
theorem dX3_readWord_15 : decode cX3_readWord 15 = .ok (.invokevirtual 33, 3) := by decide +kernel
theorem dX3_readWord_18 : decode cX3_readWord 18 = .ok (.if_icmp .ge 39, 3) := by decide +kernel
theorem dX3_readWord_21 : decode cX3_readWord 21 = .ok (.aload_n 0, 1) := by decide +kernel
theorem dX3_readWord_22 : decode cX3_readWord 22 = .ok (.getfield 14, 3) := by decide +kernel
theorem dX3_readWord_25 : decode cX3_readWord 25 = .ok (.iload_n 2, 1) := by decide +kernel
theorem dX3_readWord_26 : decode cX3_readWord 26 = .ok (.invokevirtual 81, 3) := by decide +kernel
theorem dX3_readWord_29 : decode cX3_readWord 29 = .ok (.bipush 97, 2) := by decide +kernel
theorem dX3_readWord_31 : decode cX3_readWord 31 = .ok (.if_icmp .lt 26, 3) := by decide +kernel
theorem dX3_readWord_34 : decode cX3_readWord 34 = .ok (.aload_n 0, 1) := by decide +kernel
theorem dX3_readWord_35 : decode cX3_readWord 35 = .ok (.getfield 14, 3) := by decide +kernel
theorem dX3_readWord_38 : decode cX3_readWord 38 = .ok (.iload_n 2, 1) := by decide +kernel
theorem dX3_readWord_39 : decode cX3_readWord 39 = .ok (.invokevirtual 81, 3) := by decide +kernel
theorem dX3_readWord_42 : decode cX3_readWord 42 = .ok (.bipush 122, 2) := by decide +kernel
theorem dX3_readWord_44 : decode cX3_readWord 44 = .ok (.if_icmp .gt 13, 3) := by decide +kernel
theorem dX3_readWord_47 : decode cX3_readWord 47 = .ok (.iload_n 2, 1) := by decide +kernel
theorem dX3_readWord_48 : decode cX3_readWord 48 = .ok (.iconst 1, 1) := by decide +kernel
theorem dX3_readWord_49 : decode cX3_readWord 49 = .ok (.iadd, 1) := by decide +kernel
theorem dX3_readWord_50 : decode cX3_readWord 50 = .ok (.istore_n 1, 1) := by decide +kernel
theorem dX3_readWord_51 : decode cX3_readWord 51 = .ok (.iinc 2 1, 3) := by decide +kernel
theorem dX3_readWord_54 : decode cX3_readWord 54 = .ok (.goto (-44), 3) := by decide +kernel
theorem dX3_readWord_57 : decode cX3_readWord 57 = .ok (.iconst (-1), 1) := by decide +kernel
theorem dX3_readWord_58 : decode cX3_readWord 58 = .ok (.istore_n 2, 1) := by decide +kernel
theorem dX3_readWord_59 : decode cX3_readWord 59 = .ok (.iconst 0, 1) := by decide +kernel
theorem dX3_readWord_60 : decode cX3_readWord 60 = .ok (.istore_n 3, 1) := by decide +kernel
theorem dX3_readWord_61 : decode cX3_readWord 61 = .ok (.iload_n 3, 1) := by decide +kernel
theorem dX3_readWord_62 : decode cX3_readWord 62 = .ok (.iconst 5, 1) := by decide +kernel
theorem dX3_readWord_63 : decode cX3_readWord 63 = .ok (.if_icmp .gt 23, 3) := by decide +kernel
theorem dX3_readWord_66 : decode cX3_readWord 66 = .ok (.aload_n 0, 1) := by decide +kernel
theorem dX3_readWord_67 : decode cX3_readWord 67 = .ok (.iload_n 1, 1) := by decide +kernel
theorem dX3_readWord_68 : decode cX3_readWord 68 = .ok (.iload_n 3, 1) := by decide +kernel
theorem dX3_readWord_69 : decode cX3_readWord 69 = .ok (.invokestatic 84, 3) := by decide +kernel
theorem dX3_readWord_72 : decode cX3_readWord 72 = .ok (.invokevirtual 88, 3) := by decide +kernel
theorem dX3_readWord_75 : decode cX3_readWord 75 = .ok (.ifCond .eq 5, 3) := by decide +kernel
theorem dX3_readWord_78 : decode cX3_readWord 78 = .ok (.iload_n 3, 1) := by decide +kernel
theorem dX3_readWord_79 : decode cX3_readWord 79 = .ok (.istore_n 2, 1) := by decide +kernel
theorem dX3_readWord_80 : decode cX3_readWord 80 = .ok (.iinc 3 1, 3) := by decide +kernel
theorem dX3_readWord_83 : decode cX3_readWord 83 = .ok (.goto (-22), 3) := by decide +kernel
theorem dX3_readWord_86 : decode cX3_readWord 86 = .ok (.aload_n 0, 1) := by decide +kernel
theorem dX3_readWord_87 : decode cX3_readWord 87 = .ok (.iload_n 1, 1) := by decide +kernel
theorem dX3_readWord_88 : decode cX3_readWord 88 = .ok (.putfield 26, 3) := by decide +kernel
theorem dX3_readWord_91 : decode cX3_readWord 91 = .ok (.iload_n 2, 1) := by decide +kernel
theorem dX3_readWord_92 : decode cX3_readWord 92 = .ok (.ireturn, 1) := by decide +kernel
theorem dX3_wordOf_0 : decode cX3_wordOf 0 = .ok (.iload_n 0, 1) := by decide +kernel
theorem dX3_wordOf_1 : decode cX3_wordOf 1 = .ok (.tableswitch 50 0 4 #[35, 38, 41, 44, 47], 35) := by decide +kernel
theorem dX3_wordOf_36 : decode cX3_wordOf 36 = .ok (.ldc 92, 2) := by decide +kernel
theorem dX3_wordOf_38 : decode cX3_wordOf 38 = .ok (.areturn, 1) := by decide +kernel
theorem dX3_wordOf_39 : decode cX3_wordOf 39 = .ok (.ldc 94, 2) := by decide +kernel
theorem dX3_wordOf_41 : decode cX3_wordOf 41 = .ok (.areturn, 1) := by decide +kernel
theorem dX3_wordOf_42 : decode cX3_wordOf 42 = .ok (.ldc 96, 2) := by decide +kernel
theorem dX3_wordOf_44 : decode cX3_wordOf 44 = .ok (.areturn, 1) := by decide +kernel
theorem dX3_wordOf_45 : decode cX3_wordOf 45 = .ok (.ldc 98, 2) := by decide +kernel
theorem dX3_wordOf_47 : decode cX3_wordOf 47 = .ok (.areturn, 1) := by decide +kernel
theorem dX3_wordOf_48 : decode cX3_wordOf 48 = .ok (.ldc 100, 2) := by decide +kernel
theorem dX3_wordOf_50 : decode cX3_wordOf 50 = .ok (.areturn, 1) := by decide +kernel
theorem dX3_wordOf_51 : decode cX3_wordOf 51 = .ok (.ldc 102, 2) := by decide +kernel
theorem dX3_wordOf_53 : decode cX3_wordOf 53 = .ok (.areturn, 1) := by decide +kernel
set_option maxRecDepth 20000 in
theorem ggX3_spells_J0_length_8abf5 : GoodIn wsX3_spells wsJ0_length_8abf5 := goodIn_r _ [7, 8, 9, 10, 11, 6, 12, 13, 14] (by decide +kernel) (by decide +kernel)
set_option maxRecDepth 20000 in
theorem gX3_spells_J0_length_8abf5 : GoodIn wsX3_spells (wsV RX3 104 RJ0 yJ0_length_8abf5 wsJ0_length_8abf5) := goodIn_app (goodIn_of _ (by decide +kernel)) ggX3_spells_J0_length_8abf5
set_option maxRecDepth 20000 in
theorem ggX3_spells_X5_get : GoodIn wsX3_spells wsX5_get := goodIn_r _ [19, 20, 21, 22, 23, 18, 24, 25, 68, 69] (by decide +kernel) (by decide +kernel)
set_option maxRecDepth 20000 in
theorem gX3_spells_X5_get : GoodIn wsX3_spells (wsV RX3 81 RX5 yX5_get wsX5_get) := goodIn_app (goodIn_of _ (by decide +kernel)) ggX3_spells_X5_get
set_option maxRecDepth 20000 in
theorem ggX3_spells_J0_charAt_5068e : GoodIn wsX3_spells wsJ0_charAt_5068e := goodIn_r _ [29, 8, 30, 31, 32, 6, 33, 13, 14, 34, 35, 36, 37, 38, 39, 40, 41, 42, 43, 44, 45, 46, 47, 48, 49, 50, 51, 52, 53, 54, 55, 56, 57, 58, 59, 60, 61, 62] (by decide +kernel) (by decide +kernel)
set_option maxRecDepth 20000 in
theorem gX3_spells_J0_charAt_5068e : GoodIn wsX3_spells (wsV RX3 109 RJ0 yJ0_charAt_5068e wsJ0_charAt_5068e) := goodIn_app (goodIn_of _ (by decide +kernel)) ggX3_spells_J0_charAt_5068e
theorem dX3_spells_0 : decode cX3_spells 0 = .ok (.iload_n 1, 1) := by decide +kernel
theorem dX3_spells_1 : decode cX3_spells 1 = .ok (.aload_n 0, 1) := by decide +kernel
theorem dX3_spells_2 : decode cX3_spells 2 = .ok (.getfield 26, 3) := by decide +kernel
theorem dX3_spells_5 : decode cX3_spells 5 = .ok (.isub, 1) := by decide +kernel
theorem dX3_spells_6 : decode cX3_spells 6 = .ok (.aload_n 2, 1) := by decide +kernel
theorem dX3_spells_7 : decode cX3_spells 7 = .ok (.invokevirtual 104, 3) := by decide +kernel
theorem dX3_spells_10 : decode cX3_spells 10 = .ok (.if_icmp .eq 5, 3) := by decide +kernel
theorem dX3_spells_13 : decode cX3_spells 13 = .ok (.iconst 0, 1) := by decide +kernel
theorem dX3_spells_14 : decode cX3_spells 14 = .ok (.ireturn, 1) := by decide +kernel
theorem dX3_spells_15 : decode cX3_spells 15 = .ok (.iconst 0, 1) := by decide +kernel
theorem dX3_spells_16 : decode cX3_spells 16 = .ok (.istore_n 3, 1) := by decide +kernel
theorem dX3_spells_17 : decode cX3_spells 17 = .ok (.iload_n 3, 1) := by decide +kernel
theorem dX3_spells_18 : decode cX3_spells 18 = .ok (.aload_n 2, 1) := by decide +kernel
theorem dX3_spells_19 : decode cX3_spells 19 = .ok (.invokevirtual 104, 3) := by decide +kernel
theorem dX3_spells_22 : decode cX3_spells 22 = .ok (.if_icmp .ge 32, 3) := by decide +kernel
theorem dX3_spells_25 : decode cX3_spells 25 = .ok (.aload_n 0, 1) := by decide +kernel
theorem dX3_spells_26 : decode cX3_spells 26 = .ok (.getfield 14, 3) := by decide +kernel
theorem dX3_spells_29 : decode cX3_spells 29 = .ok (.aload_n 0, 1) := by decide +kernel
theorem dX3_spells_30 : decode cX3_spells 30 = .ok (.getfield 26, 3) := by decide +kernel
theorem dX3_spells_33 : decode cX3_spells 33 = .ok (.iload_n 3, 1) := by decide +kernel
theorem dX3_spells_34 : decode cX3_spells 34 = .ok (.iadd, 1) := by decide +kernel
theorem dX3_spells_35 : decode cX3_spells 35 = .ok (.invokevirtual 81, 3) := by decide +kernel
theorem dX3_spells_38 : decode cX3_spells 38 = .ok (.aload_n 2, 1) := by decide +kernel
theorem dX3_spells_39 : decode cX3_spells 39 = .ok (.iload_n 3, 1) := by decide +kernel
theorem dX3_spells_40 : decode cX3_spells 40 = .ok (.invokevirtual 109, 3) := by decide +kernel
theorem dX3_spells_43 : decode cX3_spells 43 = .ok (.if_icmp .eq 5, 3) := by decide +kernel
theorem dX3_spells_46 : decode cX3_spells 46 = .ok (.iconst 0, 1) := by decide +kernel
theorem dX3_spells_47 : decode cX3_spells 47 = .ok (.ireturn, 1) := by decide +kernel
theorem dX3_spells_48 : decode cX3_spells 48 = .ok (.iinc 3 1, 3) := by decide +kernel
theorem dX3_spells_51 : decode cX3_spells 51 = .ok (.goto (-34), 3) := by decide +kernel
theorem dX3_spells_54 : decode cX3_spells 54 = .ok (.iconst 1, 1) := by decide +kernel
theorem dX3_spells_55 : decode cX3_spells 55 = .ok (.ireturn, 1) := by decide +kernel
set_option maxRecDepth 20000 in
theorem ggX3_readPosition_X3_passes : GoodIn wsX3_readPosition wsX3_passes := goodIn_r _ [7, 1, 2, 8, 9, 10, 11, 12, 13, 14, 15, 16, 17, 18, 19, 20, 21, 22, 23, 24, 25] (by decide +kernel) (by decide +kernel)
set_option maxRecDepth 20000 in
theorem gX3_readPosition_X3_passes : GoodIn wsX3_readPosition (wsV RX3 59 RX3 yX3_passes wsX3_passes) := goodIn_app (goodIn_of _ (by decide +kernel)) ggX3_readPosition_X3_passes
set_option maxRecDepth 20000 in
theorem ggX3_readPosition_X5_get : GoodIn wsX3_readPosition wsX5_get := goodIn_r _ [12, 13, 14, 15, 16, 11, 17, 18, 24, 25] (by decide +kernel) (by decide +kernel)
set_option maxRecDepth 20000 in
theorem gX3_readPosition_X5_get : GoodIn wsX3_readPosition (wsV RX3 81 RX5 yX5_get wsX5_get) := goodIn_app (goodIn_of _ (by decide +kernel)) ggX3_readPosition_X5_get
theorem dX3_readPosition_0 : decode cX3_readPosition 0 = .ok (.aload_n 0, 1) := by decide +kernel
theorem dX3_readPosition_1 : decode cX3_readPosition 1 = .ok (.bipush 32, 2) := by decide +kernel
theorem dX3_readPosition_3 : decode cX3_readPosition 3 = .ok (.invokevirtual 59, 3) := by decide +kernel
theorem dX3_readPosition_6 : decode cX3_readPosition 6 = .ok (.ifCond .ne 5, 3) := by decide +kernel
theorem dX3_readPosition_9 : decode cX3_readPosition 9 = .ok (.iconst (-1), 1) := by decide +kernel
theorem dX3_readPosition_10 : decode cX3_readPosition 10 = .ok (.ireturn, 1) := by decide +kernel
theorem dX3_readPosition_11 : decode cX3_readPosition 11 = .ok (.iconst 0, 1) := by decide +kernel
theorem dX3_readPosition_12 : decode cX3_readPosition 12 = .ok (.istore_n 1, 1) := by decide +kernel
theorem dX3_readPosition_13 : decode cX3_readPosition 13 = .ok (.iconst 0, 1) := by decide +kernel
theorem dX3_readPosition_14 : decode cX3_readPosition 14 = .ok (.istore_n 2, 1) := by decide +kernel
theorem dX3_readPosition_15 : decode cX3_readPosition 15 = .ok (.iload_n 1, 1) := by decide +kernel
theorem dX3_readPosition_16 : decode cX3_readPosition 16 = .ok (.iconst 3, 1) := by decide +kernel
theorem dX3_readPosition_17 : decode cX3_readPosition 17 = .ok (.if_icmp .ge 71, 3) := by decide +kernel
theorem dX3_readPosition_20 : decode cX3_readPosition 20 = .ok (.aload_n 0, 1) := by decide +kernel
theorem dX3_readPosition_21 : decode cX3_readPosition 21 = .ok (.getfield 14, 3) := by decide +kernel
theorem dX3_readPosition_24 : decode cX3_readPosition 24 = .ok (.aload_n 0, 1) := by decide +kernel
theorem dX3_readPosition_25 : decode cX3_readPosition 25 = .ok (.getfield 26, 3) := by decide +kernel
theorem dX3_readPosition_28 : decode cX3_readPosition 28 = .ok (.invokevirtual 81, 3) := by decide +kernel
theorem dX3_readPosition_31 : decode cX3_readPosition 31 = .ok (.bipush 48, 2) := by decide +kernel
theorem dX3_readPosition_33 : decode cX3_readPosition 33 = .ok (.if_icmp .lt 55, 3) := by decide +kernel
theorem dX3_readPosition_36 : decode cX3_readPosition 36 = .ok (.aload_n 0, 1) := by decide +kernel
theorem dX3_readPosition_37 : decode cX3_readPosition 37 = .ok (.getfield 14, 3) := by decide +kernel
theorem dX3_readPosition_40 : decode cX3_readPosition 40 = .ok (.aload_n 0, 1) := by decide +kernel
theorem dX3_readPosition_41 : decode cX3_readPosition 41 = .ok (.getfield 26, 3) := by decide +kernel
theorem dX3_readPosition_44 : decode cX3_readPosition 44 = .ok (.invokevirtual 81, 3) := by decide +kernel
theorem dX3_readPosition_47 : decode cX3_readPosition 47 = .ok (.bipush 57, 2) := by decide +kernel
theorem dX3_readPosition_49 : decode cX3_readPosition 49 = .ok (.if_icmp .gt 39, 3) := by decide +kernel
theorem dX3_readPosition_52 : decode cX3_readPosition 52 = .ok (.iload_n 2, 1) := by decide +kernel
theorem dX3_readPosition_53 : decode cX3_readPosition 53 = .ok (.bipush 10, 2) := by decide +kernel
theorem dX3_readPosition_55 : decode cX3_readPosition 55 = .ok (.imul, 1) := by decide +kernel
theorem dX3_readPosition_56 : decode cX3_readPosition 56 = .ok (.aload_n 0, 1) := by decide +kernel
theorem dX3_readPosition_57 : decode cX3_readPosition 57 = .ok (.getfield 14, 3) := by decide +kernel
theorem dX3_readPosition_60 : decode cX3_readPosition 60 = .ok (.aload_n 0, 1) := by decide +kernel
theorem dX3_readPosition_61 : decode cX3_readPosition 61 = .ok (.getfield 26, 3) := by decide +kernel
theorem dX3_readPosition_64 : decode cX3_readPosition 64 = .ok (.invokevirtual 81, 3) := by decide +kernel
theorem dX3_readPosition_67 : decode cX3_readPosition 67 = .ok (.iadd, 1) := by decide +kernel
theorem dX3_readPosition_68 : decode cX3_readPosition 68 = .ok (.bipush 48, 2) := by decide +kernel
theorem dX3_readPosition_70 : decode cX3_readPosition 70 = .ok (.isub, 1) := by decide +kernel
theorem dX3_readPosition_71 : decode cX3_readPosition 71 = .ok (.istore_n 2, 1) := by decide +kernel
theorem dX3_readPosition_72 : decode cX3_readPosition 72 = .ok (.aload_n 0, 1) := by decide +kernel
theorem dX3_readPosition_73 : decode cX3_readPosition 73 = .ok (.dup, 1) := by decide +kernel
theorem dX3_readPosition_74 : decode cX3_readPosition 74 = .ok (.getfield 26, 3) := by decide +kernel
theorem dX3_readPosition_77 : decode cX3_readPosition 77 = .ok (.iconst 1, 1) := by decide +kernel
theorem dX3_readPosition_78 : decode cX3_readPosition 78 = .ok (.iadd, 1) := by decide +kernel
theorem dX3_readPosition_79 : decode cX3_readPosition 79 = .ok (.putfield 26, 3) := by decide +kernel
theorem dX3_readPosition_82 : decode cX3_readPosition 82 = .ok (.iinc 1 1, 3) := by decide +kernel
theorem dX3_readPosition_85 : decode cX3_readPosition 85 = .ok (.goto (-70), 3) := by decide +kernel
theorem dX3_readPosition_88 : decode cX3_readPosition 88 = .ok (.iload_n 1, 1) := by decide +kernel
theorem dX3_readPosition_89 : decode cX3_readPosition 89 = .ok (.ifCond .ne 7, 3) := by decide +kernel
theorem dX3_readPosition_92 : decode cX3_readPosition 92 = .ok (.iconst (-1), 1) := by decide +kernel
theorem dX3_readPosition_93 : decode cX3_readPosition 93 = .ok (.goto 4, 3) := by decide +kernel
theorem dX3_readPosition_96 : decode cX3_readPosition 96 = .ok (.iload_n 2, 1) := by decide +kernel
theorem dX3_readPosition_97 : decode cX3_readPosition 97 = .ok (.ireturn, 1) := by decide +kernel
set_option maxRecDepth 20000 in
theorem ggX3_readCharacter_X3_passes : GoodIn wsX3_readCharacter wsX3_passes := goodIn_r _ [7, 2, 1, 8, 9, 10, 11, 12, 13, 14, 15, 16, 17, 18, 23, 24, 25, 26, 27, 28, 29] (by decide +kernel) (by decide +kernel)
set_option maxRecDepth 20000 in
theorem gX3_readCharacter_X3_passes : GoodIn wsX3_readCharacter (wsV RX3 59 RX3 yX3_passes wsX3_passes) := goodIn_app (goodIn_of _ (by decide +kernel)) ggX3_readCharacter_X3_passes
set_option maxRecDepth 20000 in
theorem ggX3_readCharacter_X5_used : GoodIn wsX3_readCharacter wsX5_used := goodIn_r _ [22, 18, 28, 29] (by decide +kernel) (by decide +kernel)
set_option maxRecDepth 20000 in
theorem gX3_readCharacter_X5_used : GoodIn wsX3_readCharacter (wsV RX3 33 RX5 yX5_used wsX5_used) := goodIn_app (goodIn_of _ (by decide +kernel)) ggX3_readCharacter_X5_used
set_option maxRecDepth 20000 in
theorem ggX3_readCharacter_X5_get : GoodIn wsX3_readCharacter wsX5_get := goodIn_r _ [12, 13, 14, 15, 16, 11, 17, 18, 28, 29] (by decide +kernel) (by decide +kernel)
set_option maxRecDepth 20000 in
theorem gX3_readCharacter_X5_get : GoodIn wsX3_readCharacter (wsV RX3 81 RX5 yX5_get wsX5_get) := goodIn_app (goodIn_of _ (by decide +kernel)) ggX3_readCharacter_X5_get
theorem dX3_readCharacter_0 : decode cX3_readCharacter 0 = .ok (.aload_n 0, 1) := by decide +kernel
theorem dX3_readCharacter_1 : decode cX3_readCharacter 1 = .ok (.bipush 32, 2) := by decide +kernel
theorem dX3_readCharacter_3 : decode cX3_readCharacter 3 = .ok (.invokevirtual 59, 3) := by decide +kernel
theorem dX3_readCharacter_6 : decode cX3_readCharacter 6 = .ok (.ifCond .eq 17, 3) := by decide +kernel
theorem dX3_readCharacter_9 : decode cX3_readCharacter 9 = .ok (.aload_n 0, 1) := by decide +kernel
theorem dX3_readCharacter_10 : decode cX3_readCharacter 10 = .ok (.getfield 26, 3) := by decide +kernel
theorem dX3_readCharacter_13 : decode cX3_readCharacter 13 = .ok (.aload_n 0, 1) := by decide +kernel
theorem dX3_readCharacter_14 : decode cX3_readCharacter 14 = .ok (.getfield 14, 3) := by decide +kernel
theorem dX3_readCharacter_17 : decode cX3_readCharacter 17 = .ok (.invokevirtual 33, 3) := by decide +kernel
theorem dX3_readCharacter_20 : decode cX3_readCharacter 20 = .ok (.if_icmp .lt 5, 3) := by decide +kernel
theorem dX3_readCharacter_23 : decode cX3_readCharacter 23 = .ok (.iconst (-1), 1) := by decide +kernel
theorem dX3_readCharacter_24 : decode cX3_readCharacter 24 = .ok (.ireturn, 1) := by decide +kernel
theorem dX3_readCharacter_25 : decode cX3_readCharacter 25 = .ok (.aload_n 0, 1) := by decide +kernel
theorem dX3_readCharacter_26 : decode cX3_readCharacter 26 = .ok (.dup, 1) := by decide +kernel
theorem dX3_readCharacter_27 : decode cX3_readCharacter 27 = .ok (.getfield 26, 3) := by decide +kernel
theorem dX3_readCharacter_30 : decode cX3_readCharacter 30 = .ok (.iconst 1, 1) := by decide +kernel
theorem dX3_readCharacter_31 : decode cX3_readCharacter 31 = .ok (.iadd, 1) := by decide +kernel
theorem dX3_readCharacter_32 : decode cX3_readCharacter 32 = .ok (.putfield 26, 3) := by decide +kernel
theorem dX3_readCharacter_35 : decode cX3_readCharacter 35 = .ok (.aload_n 0, 1) := by decide +kernel
theorem dX3_readCharacter_36 : decode cX3_readCharacter 36 = .ok (.getfield 14, 3) := by decide +kernel
theorem dX3_readCharacter_39 : decode cX3_readCharacter 39 = .ok (.aload_n 0, 1) := by decide +kernel
theorem dX3_readCharacter_40 : decode cX3_readCharacter 40 = .ok (.getfield 26, 3) := by decide +kernel
theorem dX3_readCharacter_43 : decode cX3_readCharacter 43 = .ok (.iconst 1, 1) := by decide +kernel
theorem dX3_readCharacter_44 : decode cX3_readCharacter 44 = .ok (.isub, 1) := by decide +kernel
theorem dX3_readCharacter_45 : decode cX3_readCharacter 45 = .ok (.invokevirtual 81, 3) := by decide +kernel
theorem dX3_readCharacter_48 : decode cX3_readCharacter 48 = .ok (.ireturn, 1) := by decide +kernel
set_option maxRecDepth 20000 in
theorem ggX3_passes_X5_get : GoodIn wsX3_passes wsX5_get := goodIn_r _ [7, 8, 9, 10, 11, 6, 12, 13, 19, 20] (by decide +kernel) (by decide +kernel)
set_option maxRecDepth 20000 in
theorem gX3_passes_X5_get : GoodIn wsX3_passes (wsV RX3 81 RX5 yX5_get wsX5_get) := goodIn_app (goodIn_of _ (by decide +kernel)) ggX3_passes_X5_get
theorem dX3_passes_0 : decode cX3_passes 0 = .ok (.aload_n 0, 1) := by decide +kernel
theorem dX3_passes_1 : decode cX3_passes 1 = .ok (.getfield 14, 3) := by decide +kernel
theorem dX3_passes_4 : decode cX3_passes 4 = .ok (.aload_n 0, 1) := by decide +kernel
theorem dX3_passes_5 : decode cX3_passes 5 = .ok (.getfield 26, 3) := by decide +kernel
theorem dX3_passes_8 : decode cX3_passes 8 = .ok (.invokevirtual 81, 3) := by decide +kernel
theorem dX3_passes_11 : decode cX3_passes 11 = .ok (.iload_n 1, 1) := by decide +kernel
theorem dX3_passes_12 : decode cX3_passes 12 = .ok (.if_icmp .eq 5, 3) := by decide +kernel
theorem dX3_passes_15 : decode cX3_passes 15 = .ok (.iconst 0, 1) := by decide +kernel
theorem dX3_passes_16 : decode cX3_passes 16 = .ok (.ireturn, 1) := by decide +kernel
theorem dX3_passes_17 : decode cX3_passes 17 = .ok (.aload_n 0, 1) := by decide +kernel
theorem dX3_passes_18 : decode cX3_passes 18 = .ok (.dup, 1) := by decide +kernel
theorem dX3_passes_19 : decode cX3_passes 19 = .ok (.getfield 26, 3) := by decide +kernel
theorem dX3_passes_22 : decode cX3_passes 22 = .ok (.iconst 1, 1) := by decide +kernel
theorem dX3_passes_23 : decode cX3_passes 23 = .ok (.iadd, 1) := by decide +kernel
theorem dX3_passes_24 : decode cX3_passes 24 = .ok (.putfield 26, 3) := by decide +kernel
theorem dX3_passes_27 : decode cX3_passes 27 = .ok (.iconst 1, 1) := by decide +kernel
theorem dX3_passes_28 : decode cX3_passes 28 = .ok (.ireturn, 1) := by decide +kernel
