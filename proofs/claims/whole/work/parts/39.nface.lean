set_option maxRecDepth 20000 in
theorem ggX8_init_X7_init : GoodIn wsX8_init wsX7_init := goodIn_r _ [22, 23, 2, 3, 24, 25, 26, 27, 28, 29, 30, 31, 32, 33, 34, 35, 36, 37, 38, 39, 40, 41, 42, 43, 44, 45, 46, 47, 48, 49, 50, 51, 52, 53, 54, 55, 56, 57, 58, 59, 60, 61, 62, 63, 64, 65, 66, 67, 68, 69, 117, 118, 93, 94, 95, 96, 97, 98, 99, 100, 101, 119, 120, 121, 122, 123, 124, 125] (by decide +kernel) (by decide +kernel)
set_option maxRecDepth 20000 in
theorem gX8_init_X7_init : GoodIn wsX8_init (wsX7_init) := ggX8_init_X7_init
set_option maxRecDepth 20000 in
theorem ggX8_init_X0_init : GoodIn wsX8_init wsX0_init := goodIn_r _ [72, 73, 2, 3, 74, 75, 5, 6, 76, 21, 22, 23, 24, 25, 26, 27, 28, 29, 30, 31, 32, 33, 34, 35, 36, 37, 38, 39, 40, 41, 42, 43, 44, 45, 46, 47, 48, 49, 50, 51, 52, 53, 54, 55, 56, 57, 58, 59, 60, 61, 62, 63, 64, 65, 66, 67, 68, 69, 106, 107, 93, 94, 95, 96, 97, 98, 99, 100, 101, 117, 118, 119, 120, 121, 122, 123, 124, 125] (by decide +kernel) (by decide +kernel)
set_option maxRecDepth 20000 in
theorem gX8_init_X0_init : GoodIn wsX8_init (wsX0_init) := ggX8_init_X0_init
set_option maxRecDepth 20000 in
theorem ggX8_init_X3_init : GoodIn wsX8_init wsX3_init := goodIn_r _ [78, 79, 2, 3, 80, 25, 26, 81, 82, 83, 41, 42, 43, 44, 45, 117, 118, 108, 109, 110, 111, 112] (by decide +kernel) (by decide +kernel)
set_option maxRecDepth 20000 in
theorem gX8_init_X3_init_n25 : GoodIn wsX8_init (wsX3_init) := ggX8_init_X3_init
set_option maxRecDepth 20000 in
theorem ggX8_init_X4_init : GoodIn wsX8_init wsX4_init := goodIn_r _ [85, 86, 2, 3, 87, 25, 26, 88, 89, 90, 91, 92, 41, 42, 43, 44, 45, 117, 118, 113, 114, 115, 116] (by decide +kernel) (by decide +kernel)
set_option maxRecDepth 20000 in
theorem gX8_init_X4_init_n32 : GoodIn wsX8_init (wsX4_init) := ggX8_init_X4_init
theorem dX8_init_0 : decode cX8_init 0 = .ok (.aload_n 0, 1) := by decide +kernel
theorem dX8_init_1 : decode cX8_init 1 = .ok (.invokespecial 3, 3) := by decide +kernel
theorem dX8_init_4 : decode cX8_init 4 = .ok (.aload_n 0, 1) := by decide +kernel
theorem dX8_init_5 : decode cX8_init 5 = .ok (.new 9, 3) := by decide +kernel
theorem dX8_init_8 : decode cX8_init 8 = .ok (.dup, 1) := by decide +kernel
theorem dX8_init_9 : decode cX8_init 9 = .ok (.invokespecial 11, 3) := by decide +kernel
theorem dX8_init_12 : decode cX8_init 12 = .ok (.putfield 12, 3) := by decide +kernel
theorem dX8_init_15 : decode cX8_init 15 = .ok (.aload_n 0, 1) := by decide +kernel
theorem dX8_init_16 : decode cX8_init 16 = .ok (.new 16, 3) := by decide +kernel
theorem dX8_init_19 : decode cX8_init 19 = .ok (.dup, 1) := by decide +kernel
theorem dX8_init_20 : decode cX8_init 20 = .ok (.invokespecial 18, 3) := by decide +kernel
theorem dX8_init_23 : decode cX8_init 23 = .ok (.putfield 19, 3) := by decide +kernel
theorem dX8_init_26 : decode cX8_init 26 = .ok (.aload_n 0, 1) := by decide +kernel
theorem dX8_init_27 : decode cX8_init 27 = .ok (.new 23, 3) := by decide +kernel
theorem dX8_init_30 : decode cX8_init 30 = .ok (.dup, 1) := by decide +kernel
theorem dX8_init_31 : decode cX8_init 31 = .ok (.invokespecial 25, 3) := by decide +kernel
theorem dX8_init_34 : decode cX8_init 34 = .ok (.putfield 26, 3) := by decide +kernel
theorem dX8_init_37 : decode cX8_init 37 = .ok (.aload_n 0, 1) := by decide +kernel
theorem dX8_init_38 : decode cX8_init 38 = .ok (.new 30, 3) := by decide +kernel
theorem dX8_init_41 : decode cX8_init 41 = .ok (.dup, 1) := by decide +kernel
theorem dX8_init_42 : decode cX8_init 42 = .ok (.invokespecial 32, 3) := by decide +kernel
theorem dX8_init_45 : decode cX8_init 45 = .ok (.putfield 33, 3) := by decide +kernel
theorem dX8_init_48 : decode cX8_init 48 = .ok (.return_, 1) := by decide +kernel
set_option maxRecDepth 20000 in
theorem ggX8_put_X8_isNoCharacter : GoodIn wsX8_put wsX8_isNoCharacter := goodIn_r _ [6, 7, 8, 5, 9] (by decide +kernel) (by decide +kernel)
set_option maxRecDepth 20000 in
theorem gX8_put_X8_isNoCharacter : GoodIn wsX8_put (va_wsS RX8 37 yX8_isNoCharacter wsX8_isNoCharacter) := goodIn_app (goodIn_of _ (by decide +kernel)) ggX8_put_X8_isNoCharacter
set_option maxRecDepth 20000 in
theorem ggX8_put_X5_used : GoodIn wsX8_put wsX5_used := goodIn_r _ [14, 15, 89, 90] (by decide +kernel) (by decide +kernel)
set_option maxRecDepth 20000 in
theorem gX8_put_X5_used : GoodIn wsX8_put (wsV RX8 49 RX5 yX5_used wsX5_used) := goodIn_app (goodIn_of _ (by decide +kernel)) ggX8_put_X5_used
set_option maxRecDepth 20000 in
theorem ggX8_put_X0_record : GoodIn wsX8_put wsX0_record := goodIn_r _ [20, 21, 22, 23, 24, 25, 19, 26, 27, 28, 29, 30, 31, 32, 33, 34, 35, 36, 37, 38, 39, 40, 41, 42, 13, 43, 15, 44, 45, 46, 47, 48, 49, 50, 51, 52, 53, 54, 55, 56, 57, 58, 59, 60, 61, 62, 63, 64, 65, 66, 67, 68, 69, 70, 71, 91, 92, 80, 81, 82, 83, 84, 85, 86, 87, 88, 89, 90, 93, 94, 95, 96, 97, 98, 99] (by decide +kernel) (by decide +kernel)
set_option maxRecDepth 20000 in
theorem gX8_put_X0_record : GoodIn wsX8_put (wsV RX8 55 RX0 yX0_record wsX0_record) := goodIn_app (goodIn_of _ (by decide +kernel)) ggX8_put_X0_record
set_option maxRecDepth 20000 in
theorem ggX8_put_X5_append : GoodIn wsX8_put wsX5_append := goodIn_r _ [75, 15, 44, 89, 90] (by decide +kernel) (by decide +kernel)
set_option maxRecDepth 20000 in
theorem gX8_put_X5_append : GoodIn wsX8_put (wsV RX8 59 RX5 yX5_append wsX5_append) := goodIn_app (goodIn_of _ (by decide +kernel)) ggX8_put_X5_append
theorem dX8_put_0 : decode cX8_put 0 = .ok (.iload_n 1, 1) := by decide +kernel
theorem dX8_put_1 : decode cX8_put 1 = .ok (.invokestatic 37, 3) := by decide +kernel
theorem dX8_put_4 : decode cX8_put 4 = .ok (.ifCond .eq 5, 3) := by decide +kernel
theorem dX8_put_7 : decode cX8_put 7 = .ok (.iconst (-1), 1) := by decide +kernel
theorem dX8_put_8 : decode cX8_put 8 = .ok (.ireturn, 1) := by decide +kernel
theorem dX8_put_9 : decode cX8_put 9 = .ok (.aload_n 0, 1) := by decide +kernel
theorem dX8_put_10 : decode cX8_put 10 = .ok (.getfield 12, 3) := by decide +kernel
theorem dX8_put_13 : decode cX8_put 13 = .ok (.getfield 41, 3) := by decide +kernel
theorem dX8_put_16 : decode cX8_put 16 = .ok (.ifCond .eq 6, 3) := by decide +kernel
theorem dX8_put_19 : decode cX8_put 19 = .ok (.bipush (-2), 2) := by decide +kernel
theorem dX8_put_21 : decode cX8_put 21 = .ok (.ireturn, 1) := by decide +kernel
theorem dX8_put_22 : decode cX8_put 22 = .ok (.aload_n 0, 1) := by decide +kernel
theorem dX8_put_23 : decode cX8_put 23 = .ok (.getfield 12, 3) := by decide +kernel
theorem dX8_put_26 : decode cX8_put 26 = .ok (.getfield 45, 3) := by decide +kernel
theorem dX8_put_29 : decode cX8_put 29 = .ok (.invokevirtual 49, 3) := by decide +kernel
theorem dX8_put_32 : decode cX8_put 32 = .ok (.bipush 100, 2) := by decide +kernel
theorem dX8_put_34 : decode cX8_put 34 = .ok (.if_icmp .lt 6, 3) := by decide +kernel
theorem dX8_put_37 : decode cX8_put 37 = .ok (.bipush (-3), 2) := by decide +kernel
theorem dX8_put_39 : decode cX8_put 39 = .ok (.ireturn, 1) := by decide +kernel
theorem dX8_put_40 : decode cX8_put 40 = .ok (.aload_n 0, 1) := by decide +kernel
theorem dX8_put_41 : decode cX8_put 41 = .ok (.getfield 19, 3) := by decide +kernel
theorem dX8_put_44 : decode cX8_put 44 = .ok (.aload_n 0, 1) := by decide +kernel
theorem dX8_put_45 : decode cX8_put 45 = .ok (.getfield 12, 3) := by decide +kernel
theorem dX8_put_48 : decode cX8_put 48 = .ok (.invokevirtual 55, 3) := by decide +kernel
theorem dX8_put_51 : decode cX8_put 51 = .ok (.aload_n 0, 1) := by decide +kernel
theorem dX8_put_52 : decode cX8_put 52 = .ok (.getfield 12, 3) := by decide +kernel
theorem dX8_put_55 : decode cX8_put 55 = .ok (.getfield 45, 3) := by decide +kernel
theorem dX8_put_58 : decode cX8_put 58 = .ok (.iload_n 1, 1) := by decide +kernel
theorem dX8_put_59 : decode cX8_put 59 = .ok (.invokevirtual 59, 3) := by decide +kernel
theorem dX8_put_62 : decode cX8_put 62 = .ok (.aload_n 0, 1) := by decide +kernel
theorem dX8_put_63 : decode cX8_put 63 = .ok (.getfield 12, 3) := by decide +kernel
theorem dX8_put_66 : decode cX8_put 66 = .ok (.getfield 45, 3) := by decide +kernel
theorem dX8_put_69 : decode cX8_put 69 = .ok (.invokevirtual 49, 3) := by decide +kernel
theorem dX8_put_72 : decode cX8_put 72 = .ok (.ireturn, 1) := by decide +kernel
set_option maxRecDepth 20000 in
theorem ggX8_begin_X5_used : GoodIn wsX8_begin wsX5_used := goodIn_r _ [7, 8, 78, 79] (by decide +kernel) (by decide +kernel)
set_option maxRecDepth 20000 in
theorem gX8_begin_X5_used : GoodIn wsX8_begin (wsV RX8 49 RX5 yX5_used wsX5_used) := goodIn_app (goodIn_of _ (by decide +kernel)) ggX8_begin_X5_used
set_option maxRecDepth 20000 in
theorem ggX8_begin_X0_record : GoodIn wsX8_begin wsX0_record := goodIn_r _ [13, 14, 15, 16, 17, 18, 12, 19, 20, 21, 22, 23, 24, 25, 26, 27, 28, 29, 30, 31, 32, 33, 34, 35, 6, 36, 8, 37, 38, 39, 40, 41, 42, 43, 44, 45, 46, 47, 48, 49, 50, 51, 52, 53, 54, 55, 56, 57, 58, 59, 60, 61, 62, 63, 64, 80, 81, 69, 70, 71, 72, 73, 74, 75, 76, 77, 78, 79, 82, 83, 84, 85, 86, 87, 88] (by decide +kernel) (by decide +kernel)
set_option maxRecDepth 20000 in
theorem gX8_begin_X0_record : GoodIn wsX8_begin (wsV RX8 55 RX0 yX0_record wsX0_record) := goodIn_app (goodIn_of _ (by decide +kernel)) ggX8_begin_X0_record
theorem dX8_begin_0 : decode cX8_begin 0 = .ok (.aload_n 0, 1) := by decide +kernel
theorem dX8_begin_1 : decode cX8_begin 1 = .ok (.getfield 12, 3) := by decide +kernel
theorem dX8_begin_4 : decode cX8_begin 4 = .ok (.getfield 41, 3) := by decide +kernel
theorem dX8_begin_7 : decode cX8_begin 7 = .ok (.ifCond .ne 16, 3) := by decide +kernel
theorem dX8_begin_10 : decode cX8_begin 10 = .ok (.aload_n 0, 1) := by decide +kernel
theorem dX8_begin_11 : decode cX8_begin 11 = .ok (.getfield 12, 3) := by decide +kernel
theorem dX8_begin_14 : decode cX8_begin 14 = .ok (.getfield 45, 3) := by decide +kernel
theorem dX8_begin_17 : decode cX8_begin 17 = .ok (.invokevirtual 49, 3) := by decide +kernel
theorem dX8_begin_20 : decode cX8_begin 20 = .ok (.ifCond .ne 6, 3) := by decide +kernel
theorem dX8_begin_23 : decode cX8_begin 23 = .ok (.bipush (-2), 2) := by decide +kernel
theorem dX8_begin_25 : decode cX8_begin 25 = .ok (.ireturn, 1) := by decide +kernel
theorem dX8_begin_26 : decode cX8_begin 26 = .ok (.aload_n 0, 1) := by decide +kernel
theorem dX8_begin_27 : decode cX8_begin 27 = .ok (.getfield 19, 3) := by decide +kernel
theorem dX8_begin_30 : decode cX8_begin 30 = .ok (.aload_n 0, 1) := by decide +kernel
theorem dX8_begin_31 : decode cX8_begin 31 = .ok (.getfield 12, 3) := by decide +kernel
theorem dX8_begin_34 : decode cX8_begin 34 = .ok (.invokevirtual 55, 3) := by decide +kernel
theorem dX8_begin_37 : decode cX8_begin 37 = .ok (.aload_n 0, 1) := by decide +kernel
theorem dX8_begin_38 : decode cX8_begin 38 = .ok (.getfield 12, 3) := by decide +kernel
theorem dX8_begin_41 : decode cX8_begin 41 = .ok (.iconst 1, 1) := by decide +kernel
theorem dX8_begin_42 : decode cX8_begin 42 = .ok (.putfield 41, 3) := by decide +kernel
theorem dX8_begin_45 : decode cX8_begin 45 = .ok (.aload_n 0, 1) := by decide +kernel
theorem dX8_begin_46 : decode cX8_begin 46 = .ok (.getfield 12, 3) := by decide +kernel
theorem dX8_begin_49 : decode cX8_begin 49 = .ok (.getfield 45, 3) := by decide +kernel
theorem dX8_begin_52 : decode cX8_begin 52 = .ok (.invokevirtual 49, 3) := by decide +kernel
theorem dX8_begin_55 : decode cX8_begin 55 = .ok (.ireturn, 1) := by decide +kernel
set_option maxRecDepth 20000 in
theorem ggX8_send_X8_isNoReader : GoodIn wsX8_send wsX8_isNoReader := goodIn_r _ [6, 7, 8, 5, 9] (by decide +kernel) (by decide +kernel)
set_option maxRecDepth 20000 in
theorem gX8_send_X8_isNoReader : GoodIn wsX8_send (va_wsS RX8 63 yX8_isNoReader wsX8_isNoReader) := goodIn_app (goodIn_of _ (by decide +kernel)) ggX8_send_X8_isNoReader
set_option maxRecDepth 20000 in
theorem ggX8_send_X7_hasSheetOut : GoodIn wsX8_send wsX7_hasSheetOut := goodIn_r _ [14, 15, 16, 17, 18, 13, 19, 20, 104, 105, 106, 107, 108, 109, 110, 111, 112, 113, 114, 115] (by decide +kernel) (by decide +kernel)
set_option maxRecDepth 20000 in
theorem gX8_send_X7_hasSheetOut : GoodIn wsX8_send (wsV RX8 66 RX7 yX7_hasSheetOut wsX7_hasSheetOut) := goodIn_app (goodIn_of _ (by decide +kernel)) ggX8_send_X7_hasSheetOut
set_option maxRecDepth 20000 in
theorem ggX8_send_X0_record : GoodIn wsX8_send wsX0_record := goodIn_r _ [25, 26, 27, 28, 29, 30, 24, 31, 32, 33, 34, 13, 35, 36, 37, 38, 39, 40, 41, 42, 15, 43, 44, 45, 46, 47, 48, 49, 50, 51, 52, 53, 54, 55, 56, 57, 58, 59, 16, 17, 18, 19, 20, 60, 61, 62, 63, 64, 65, 66, 67, 68, 69, 70, 71, 116, 117, 104, 105, 106, 107, 108, 109, 110, 111, 112, 118, 119, 120, 121, 122, 123, 113, 114, 115] (by decide +kernel) (by decide +kernel)
set_option maxRecDepth 20000 in
theorem gX8_send_X0_record : GoodIn wsX8_send (wsV RX8 55 RX0 yX0_record wsX0_record) := goodIn_app (goodIn_of _ (by decide +kernel)) ggX8_send_X0_record
set_option maxRecDepth 20000 in
theorem ggX8_send_X7_addSheet : GoodIn wsX8_send wsX7_addSheet := goodIn_r _ [75, 15, 39, 16, 17, 18, 13, 19, 20, 76, 77, 78, 66, 79, 68, 69, 70, 80, 81, 82, 46, 83, 48, 84, 85, 86, 87, 88, 89, 90, 91, 49, 92, 93, 94, 95, 96, 97, 98, 99, 104, 105, 106, 107, 108, 109, 110, 111, 112, 113, 114, 115, 118, 119] (by decide +kernel) (by decide +kernel)
set_option maxRecDepth 20000 in
theorem gX8_send_X7_addSheet : GoodIn wsX8_send (wsV RX8 72 RX7 yX7_addSheet wsX7_addSheet) := goodIn_app (goodIn_of _ (by decide +kernel)) ggX8_send_X7_addSheet
theorem dX8_send_0 : decode cX8_send 0 = .ok (.iload_n 1, 1) := by decide +kernel
theorem dX8_send_1 : decode cX8_send 1 = .ok (.invokestatic 63, 3) := by decide +kernel
theorem dX8_send_4 : decode cX8_send 4 = .ok (.ifCond .eq 5, 3) := by decide +kernel
theorem dX8_send_7 : decode cX8_send 7 = .ok (.iconst (-1), 1) := by decide +kernel
theorem dX8_send_8 : decode cX8_send 8 = .ok (.ireturn, 1) := by decide +kernel
theorem dX8_send_9 : decode cX8_send 9 = .ok (.aload_n 0, 1) := by decide +kernel
theorem dX8_send_10 : decode cX8_send 10 = .ok (.getfield 12, 3) := by decide +kernel
theorem dX8_send_13 : decode cX8_send 13 = .ok (.getfield 41, 3) := by decide +kernel
theorem dX8_send_16 : decode cX8_send 16 = .ok (.ifCond .eq 14, 3) := by decide +kernel
theorem dX8_send_19 : decode cX8_send 19 = .ok (.aload_n 0, 1) := by decide +kernel
theorem dX8_send_20 : decode cX8_send 20 = .ok (.getfield 12, 3) := by decide +kernel
theorem dX8_send_23 : decode cX8_send 23 = .ok (.iload_n 1, 1) := by decide +kernel
theorem dX8_send_24 : decode cX8_send 24 = .ok (.invokevirtual 66, 3) := by decide +kernel
theorem dX8_send_27 : decode cX8_send 27 = .ok (.ifCond .eq 6, 3) := by decide +kernel
theorem dX8_send_30 : decode cX8_send 30 = .ok (.bipush (-2), 2) := by decide +kernel
theorem dX8_send_32 : decode cX8_send 32 = .ok (.ireturn, 1) := by decide +kernel
theorem dX8_send_33 : decode cX8_send 33 = .ok (.aload_n 0, 1) := by decide +kernel
theorem dX8_send_34 : decode cX8_send 34 = .ok (.getfield 12, 3) := by decide +kernel
theorem dX8_send_37 : decode cX8_send 37 = .ok (.getfield 69, 3) := by decide +kernel
theorem dX8_send_40 : decode cX8_send 40 = .ok (.bipush 8, 2) := by decide +kernel
theorem dX8_send_42 : decode cX8_send 42 = .ok (.if_icmp .lt 6, 3) := by decide +kernel
theorem dX8_send_45 : decode cX8_send 45 = .ok (.bipush (-3), 2) := by decide +kernel
theorem dX8_send_47 : decode cX8_send 47 = .ok (.ireturn, 1) := by decide +kernel
theorem dX8_send_48 : decode cX8_send 48 = .ok (.aload_n 0, 1) := by decide +kernel
theorem dX8_send_49 : decode cX8_send 49 = .ok (.getfield 19, 3) := by decide +kernel
theorem dX8_send_52 : decode cX8_send 52 = .ok (.aload_n 0, 1) := by decide +kernel
theorem dX8_send_53 : decode cX8_send 53 = .ok (.getfield 12, 3) := by decide +kernel
theorem dX8_send_56 : decode cX8_send 56 = .ok (.invokevirtual 55, 3) := by decide +kernel
theorem dX8_send_59 : decode cX8_send 59 = .ok (.aload_n 0, 1) := by decide +kernel
theorem dX8_send_60 : decode cX8_send 60 = .ok (.getfield 12, 3) := by decide +kernel
theorem dX8_send_63 : decode cX8_send 63 = .ok (.iload_n 1, 1) := by decide +kernel
theorem dX8_send_64 : decode cX8_send 64 = .ok (.invokevirtual 72, 3) := by decide +kernel
theorem dX8_send_67 : decode cX8_send 67 = .ok (.ireturn, 1) := by decide +kernel
set_option maxRecDepth 20000 in
theorem ggX8_bring_X7_sheetNumbered : GoodIn wsX8_bring wsX7_sheetNumbered := goodIn_r _ [6, 7, 8, 78, 79, 80, 81, 82, 83, 84, 85, 86] (by decide +kernel) (by decide +kernel)
set_option maxRecDepth 20000 in
theorem gX8_bring_X7_sheetNumbered : GoodIn wsX8_bring (wsV RX8 76 RX7 yX7_sheetNumbered wsX7_sheetNumbered) := goodIn_app (goodIn_of _ (by decide +kernel)) ggX8_bring_X7_sheetNumbered
set_option maxRecDepth 20000 in
theorem ggX8_bring_X8_putSheet : GoodIn wsX8_bring wsX8_putSheet := goodIn_r _ [13, 14, 1, 15, 16, 17, 18, 19, 20, 21, 22, 23, 24, 25, 26, 27, 28, 5, 29, 30, 31, 32, 33, 34, 35, 36, 7, 37, 38, 39, 40, 41, 42, 43, 44, 45, 46, 47, 48, 49, 50, 51, 52, 53, 54, 3, 4, 6, 8, 55, 56, 57, 58, 59, 60, 61, 62, 63, 64, 65, 66, 67, 68, 69, 70, 71, 72, 73, 74, 75, 76, 77, 87, 88, 78, 79, 80, 81, 82, 83, 84, 85, 86, 89, 90, 91, 92, 93, 94] (by decide +kernel) (by decide +kernel)
set_option maxRecDepth 20000 in
theorem gX8_bring_X8_putSheet : GoodIn wsX8_bring (wsV RX8 85 RX8 yX8_putSheet wsX8_putSheet) := goodIn_app (goodIn_of _ (by decide +kernel)) ggX8_bring_X8_putSheet
theorem dX8_bring_0 : decode cX8_bring 0 = .ok (.aload_n 0, 1) := by decide +kernel
theorem dX8_bring_1 : decode cX8_bring 1 = .ok (.getfield 12, 3) := by decide +kernel
theorem dX8_bring_4 : decode cX8_bring 4 = .ok (.iload_n 1, 1) := by decide +kernel
theorem dX8_bring_5 : decode cX8_bring 5 = .ok (.invokevirtual 76, 3) := by decide +kernel
theorem dX8_bring_8 : decode cX8_bring 8 = .ok (.astore_n 2, 1) := by decide +kernel
theorem dX8_bring_9 : decode cX8_bring 9 = .ok (.aload_n 2, 1) := by decide +kernel
theorem dX8_bring_10 : decode cX8_bring 10 = .ok (.ifnonnull 5, 3) := by decide +kernel
theorem dX8_bring_13 : decode cX8_bring 13 = .ok (.iconst (-1), 1) := by decide +kernel
theorem dX8_bring_14 : decode cX8_bring 14 = .ok (.ireturn, 1) := by decide +kernel
theorem dX8_bring_15 : decode cX8_bring 15 = .ok (.aload_n 2, 1) := by decide +kernel
theorem dX8_bring_16 : decode cX8_bring 16 = .ok (.getfield 80, 3) := by decide +kernel
theorem dX8_bring_19 : decode cX8_bring 19 = .ok (.ifCond .eq 6, 3) := by decide +kernel
theorem dX8_bring_22 : decode cX8_bring 22 = .ok (.bipush (-2), 2) := by decide +kernel
theorem dX8_bring_24 : decode cX8_bring 24 = .ok (.ireturn, 1) := by decide +kernel
theorem dX8_bring_25 : decode cX8_bring 25 = .ok (.aload_n 0, 1) := by decide +kernel
theorem dX8_bring_26 : decode cX8_bring 26 = .ok (.aload_n 2, 1) := by decide +kernel
theorem dX8_bring_27 : decode cX8_bring 27 = .ok (.iconst 1, 1) := by decide +kernel
theorem dX8_bring_28 : decode cX8_bring 28 = .ok (.invokevirtual 85, 3) := by decide +kernel
theorem dX8_bring_31 : decode cX8_bring 31 = .ok (.ireturn, 1) := by decide +kernel
set_option maxRecDepth 20000 in
theorem ggX8_lose_X7_sheetNumbered : GoodIn wsX8_lose wsX7_sheetNumbered := goodIn_r _ [6, 7, 8, 78, 79, 80, 81, 82, 83, 84, 85, 86] (by decide +kernel) (by decide +kernel)
set_option maxRecDepth 20000 in
theorem gX8_lose_X7_sheetNumbered : GoodIn wsX8_lose (wsV RX8 76 RX7 yX7_sheetNumbered wsX7_sheetNumbered) := goodIn_app (goodIn_of _ (by decide +kernel)) ggX8_lose_X7_sheetNumbered
set_option maxRecDepth 20000 in
theorem ggX8_lose_X8_putSheet : GoodIn wsX8_lose wsX8_putSheet := goodIn_r _ [13, 14, 1, 15, 16, 17, 18, 19, 20, 21, 22, 23, 24, 25, 26, 27, 28, 5, 29, 30, 31, 32, 33, 34, 35, 36, 7, 37, 38, 39, 40, 41, 42, 43, 44, 45, 46, 47, 48, 49, 50, 51, 52, 53, 54, 3, 4, 6, 8, 55, 56, 57, 58, 59, 60, 61, 62, 63, 64, 65, 66, 67, 68, 69, 70, 71, 72, 73, 74, 75, 76, 77, 87, 88, 78, 79, 80, 81, 82, 83, 84, 85, 86, 89, 90, 91, 92, 93, 94] (by decide +kernel) (by decide +kernel)
set_option maxRecDepth 20000 in
theorem gX8_lose_X8_putSheet : GoodIn wsX8_lose (wsV RX8 85 RX8 yX8_putSheet wsX8_putSheet) := goodIn_app (goodIn_of _ (by decide +kernel)) ggX8_lose_X8_putSheet
theorem dX8_lose_0 : decode cX8_lose 0 = .ok (.aload_n 0, 1) := by decide +kernel
theorem dX8_lose_1 : decode cX8_lose 1 = .ok (.getfield 12, 3) := by decide +kernel
theorem dX8_lose_4 : decode cX8_lose 4 = .ok (.iload_n 1, 1) := by decide +kernel
theorem dX8_lose_5 : decode cX8_lose 5 = .ok (.invokevirtual 76, 3) := by decide +kernel
theorem dX8_lose_8 : decode cX8_lose 8 = .ok (.astore_n 2, 1) := by decide +kernel
theorem dX8_lose_9 : decode cX8_lose 9 = .ok (.aload_n 2, 1) := by decide +kernel
theorem dX8_lose_10 : decode cX8_lose 10 = .ok (.ifnonnull 5, 3) := by decide +kernel
theorem dX8_lose_13 : decode cX8_lose 13 = .ok (.iconst (-1), 1) := by decide +kernel
theorem dX8_lose_14 : decode cX8_lose 14 = .ok (.ireturn, 1) := by decide +kernel
theorem dX8_lose_15 : decode cX8_lose 15 = .ok (.aload_n 2, 1) := by decide +kernel
theorem dX8_lose_16 : decode cX8_lose 16 = .ok (.getfield 80, 3) := by decide +kernel
theorem dX8_lose_19 : decode cX8_lose 19 = .ok (.ifCond .eq 14, 3) := by decide +kernel
theorem dX8_lose_22 : decode cX8_lose 22 = .ok (.aload_n 2, 1) := by decide +kernel
theorem dX8_lose_23 : decode cX8_lose 23 = .ok (.getfield 80, 3) := by decide +kernel
theorem dX8_lose_26 : decode cX8_lose 26 = .ok (.iconst 1, 1) := by decide +kernel
theorem dX8_lose_27 : decode cX8_lose 27 = .ok (.if_icmp .eq 6, 3) := by decide +kernel
theorem dX8_lose_30 : decode cX8_lose 30 = .ok (.bipush (-2), 2) := by decide +kernel
theorem dX8_lose_32 : decode cX8_lose 32 = .ok (.ireturn, 1) := by decide +kernel
theorem dX8_lose_33 : decode cX8_lose 33 = .ok (.aload_n 0, 1) := by decide +kernel
theorem dX8_lose_34 : decode cX8_lose 34 = .ok (.aload_n 2, 1) := by decide +kernel
theorem dX8_lose_35 : decode cX8_lose 35 = .ok (.iconst 2, 1) := by decide +kernel
theorem dX8_lose_36 : decode cX8_lose 36 = .ok (.invokevirtual 85, 3) := by decide +kernel
theorem dX8_lose_39 : decode cX8_lose 39 = .ok (.ireturn, 1) := by decide +kernel
set_option maxRecDepth 20000 in
theorem ggX8_find_X7_sheetNumbered : GoodIn wsX8_find wsX7_sheetNumbered := goodIn_r _ [6, 7, 8, 78, 79, 80, 81, 82, 83, 84, 85, 86] (by decide +kernel) (by decide +kernel)
set_option maxRecDepth 20000 in
theorem gX8_find_X7_sheetNumbered : GoodIn wsX8_find (wsV RX8 76 RX7 yX7_sheetNumbered wsX7_sheetNumbered) := goodIn_app (goodIn_of _ (by decide +kernel)) ggX8_find_X7_sheetNumbered
set_option maxRecDepth 20000 in
theorem ggX8_find_X8_putSheet : GoodIn wsX8_find wsX8_putSheet := goodIn_r _ [13, 14, 1, 15, 16, 17, 18, 19, 20, 21, 22, 23, 24, 25, 26, 27, 28, 5, 29, 30, 31, 32, 33, 34, 35, 36, 7, 37, 38, 39, 40, 41, 42, 43, 44, 45, 46, 47, 48, 49, 50, 51, 52, 53, 54, 3, 4, 6, 8, 55, 56, 57, 58, 59, 60, 61, 62, 63, 64, 65, 66, 67, 68, 69, 70, 71, 72, 73, 74, 75, 76, 77, 87, 88, 78, 79, 80, 81, 82, 83, 84, 85, 86, 89, 90, 91, 92, 93, 94] (by decide +kernel) (by decide +kernel)
set_option maxRecDepth 20000 in
theorem gX8_find_X8_putSheet : GoodIn wsX8_find (wsV RX8 85 RX8 yX8_putSheet wsX8_putSheet) := goodIn_app (goodIn_of _ (by decide +kernel)) ggX8_find_X8_putSheet
theorem dX8_find_0 : decode cX8_find 0 = .ok (.aload_n 0, 1) := by decide +kernel
theorem dX8_find_1 : decode cX8_find 1 = .ok (.getfield 12, 3) := by decide +kernel
theorem dX8_find_4 : decode cX8_find 4 = .ok (.iload_n 1, 1) := by decide +kernel
theorem dX8_find_5 : decode cX8_find 5 = .ok (.invokevirtual 76, 3) := by decide +kernel
theorem dX8_find_8 : decode cX8_find 8 = .ok (.astore_n 2, 1) := by decide +kernel
theorem dX8_find_9 : decode cX8_find 9 = .ok (.aload_n 2, 1) := by decide +kernel
theorem dX8_find_10 : decode cX8_find 10 = .ok (.ifnonnull 5, 3) := by decide +kernel
theorem dX8_find_13 : decode cX8_find 13 = .ok (.iconst (-1), 1) := by decide +kernel
theorem dX8_find_14 : decode cX8_find 14 = .ok (.ireturn, 1) := by decide +kernel
theorem dX8_find_15 : decode cX8_find 15 = .ok (.aload_n 2, 1) := by decide +kernel
theorem dX8_find_16 : decode cX8_find 16 = .ok (.getfield 80, 3) := by decide +kernel
theorem dX8_find_19 : decode cX8_find 19 = .ok (.iconst 2, 1) := by decide +kernel
theorem dX8_find_20 : decode cX8_find 20 = .ok (.if_icmp .eq 6, 3) := by decide +kernel
theorem dX8_find_23 : decode cX8_find 23 = .ok (.bipush (-2), 2) := by decide +kernel
theorem dX8_find_25 : decode cX8_find 25 = .ok (.ireturn, 1) := by decide +kernel
theorem dX8_find_26 : decode cX8_find 26 = .ok (.aload_n 0, 1) := by decide +kernel
theorem dX8_find_27 : decode cX8_find 27 = .ok (.aload_n 2, 1) := by decide +kernel
theorem dX8_find_28 : decode cX8_find 28 = .ok (.iconst 1, 1) := by decide +kernel
theorem dX8_find_29 : decode cX8_find 29 = .ok (.invokevirtual 85, 3) := by decide +kernel
theorem dX8_find_32 : decode cX8_find 32 = .ok (.ireturn, 1) := by decide +kernel
set_option maxRecDepth 20000 in
theorem ggX8_merge_X7_sheetNumbered : GoodIn wsX8_merge wsX7_sheetNumbered := goodIn_r _ [7, 8, 9, 113, 114, 115, 116, 117, 118, 119, 120, 121] (by decide +kernel) (by decide +kernel)
set_option maxRecDepth 20000 in
theorem gX8_merge_X7_sheetNumbered : GoodIn wsX8_merge (wsV RX8 76 RX7 yX7_sheetNumbered wsX7_sheetNumbered) := goodIn_app (goodIn_of _ (by decide +kernel)) ggX8_merge_X7_sheetNumbered
set_option maxRecDepth 20000 in
theorem ggX8_merge_X0_record : GoodIn wsX8_merge wsX0_record := goodIn_r _ [14, 15, 16, 17, 18, 19, 13, 20, 21, 22, 23, 6, 24, 25, 26, 27, 28, 29, 30, 31, 8, 32, 33, 34, 35, 36, 37, 38, 39, 40, 41, 42, 43, 44, 45, 46, 47, 48, 49, 4, 5, 7, 9, 50, 51, 52, 53, 54, 55, 56, 57, 58, 59, 60, 61, 122, 123, 113, 114, 115, 116, 117, 118, 119, 120, 121, 124, 125, 126, 127, 128, 129, 110, 111, 112] (by decide +kernel) (by decide +kernel)
set_option maxRecDepth 20000 in
theorem gX8_merge_X0_record : GoodIn wsX8_merge (wsV RX8 55 RX0 yX0_record wsX0_record) := goodIn_app (goodIn_of _ (by decide +kernel)) ggX8_merge_X0_record
set_option maxRecDepth 20000 in
theorem ggX8_merge_X7_mergeMarksOf : GoodIn wsX8_merge wsX7_mergeMarksOf := goodIn_r _ [65, 26, 27, 30, 66, 67, 68, 35, 69, 37, 70, 71, 72, 73, 38, 74, 75, 76, 77, 78, 79, 80, 42, 81, 44, 46, 47, 82, 83, 84, 85, 45, 86, 87, 88, 89, 90, 91, 92, 93, 94, 95, 96, 97, 98, 99, 100, 101, 102, 103, 104, 105, 110, 111, 112, 113, 114, 115, 116, 117, 118, 119, 120, 121, 124, 125, 126, 127, 128, 129] (by decide +kernel) (by decide +kernel)
set_option maxRecDepth 20000 in
theorem gX8_merge_X7_mergeMarksOf : GoodIn wsX8_merge (wsV RX8 89 RX7 yX7_mergeMarksOf wsX7_mergeMarksOf) := goodIn_app (goodIn_of _ (by decide +kernel)) ggX8_merge_X7_mergeMarksOf
theorem dX8_merge_0 : decode cX8_merge 0 = .ok (.aload_n 0, 1) := by decide +kernel
theorem dX8_merge_1 : decode cX8_merge 1 = .ok (.getfield 12, 3) := by decide +kernel
theorem dX8_merge_4 : decode cX8_merge 4 = .ok (.iload_n 1, 1) := by decide +kernel
theorem dX8_merge_5 : decode cX8_merge 5 = .ok (.invokevirtual 76, 3) := by decide +kernel
theorem dX8_merge_8 : decode cX8_merge 8 = .ok (.astore_n 2, 1) := by decide +kernel
theorem dX8_merge_9 : decode cX8_merge 9 = .ok (.aload_n 2, 1) := by decide +kernel
theorem dX8_merge_10 : decode cX8_merge 10 = .ok (.ifnonnull 5, 3) := by decide +kernel
theorem dX8_merge_13 : decode cX8_merge 13 = .ok (.iconst (-1), 1) := by decide +kernel
theorem dX8_merge_14 : decode cX8_merge 14 = .ok (.ireturn, 1) := by decide +kernel
theorem dX8_merge_15 : decode cX8_merge 15 = .ok (.aload_n 2, 1) := by decide +kernel
theorem dX8_merge_16 : decode cX8_merge 16 = .ok (.getfield 80, 3) := by decide +kernel
theorem dX8_merge_19 : decode cX8_merge 19 = .ok (.iconst 1, 1) := by decide +kernel
theorem dX8_merge_20 : decode cX8_merge 20 = .ok (.if_icmp .eq 6, 3) := by decide +kernel
theorem dX8_merge_23 : decode cX8_merge 23 = .ok (.bipush (-2), 2) := by decide +kernel
theorem dX8_merge_25 : decode cX8_merge 25 = .ok (.ireturn, 1) := by decide +kernel
theorem dX8_merge_26 : decode cX8_merge 26 = .ok (.aload_n 0, 1) := by decide +kernel
theorem dX8_merge_27 : decode cX8_merge 27 = .ok (.getfield 19, 3) := by decide +kernel
theorem dX8_merge_30 : decode cX8_merge 30 = .ok (.aload_n 0, 1) := by decide +kernel
theorem dX8_merge_31 : decode cX8_merge 31 = .ok (.getfield 12, 3) := by decide +kernel
theorem dX8_merge_34 : decode cX8_merge 34 = .ok (.invokevirtual 55, 3) := by decide +kernel
theorem dX8_merge_37 : decode cX8_merge 37 = .ok (.aload_n 0, 1) := by decide +kernel
theorem dX8_merge_38 : decode cX8_merge 38 = .ok (.getfield 12, 3) := by decide +kernel
theorem dX8_merge_41 : decode cX8_merge 41 = .ok (.aload_n 2, 1) := by decide +kernel
theorem dX8_merge_42 : decode cX8_merge 42 = .ok (.invokevirtual 89, 3) := by decide +kernel
theorem dX8_merge_45 : decode cX8_merge 45 = .ok (.ireturn, 1) := by decide +kernel
set_option maxRecDepth 20000 in
theorem ggX8_sheet_X7_sheetNumbered : GoodIn wsX8_sheet wsX7_sheetNumbered := goodIn_r _ [6, 7, 8, 68, 69, 70, 71, 72, 73, 74, 75, 76] (by decide +kernel) (by decide +kernel)
set_option maxRecDepth 20000 in
theorem gX8_sheet_X7_sheetNumbered : GoodIn wsX8_sheet (wsV RX8 76 RX7 yX7_sheetNumbered wsX7_sheetNumbered) := goodIn_app (goodIn_of _ (by decide +kernel)) ggX8_sheet_X7_sheetNumbered
set_option maxRecDepth 20000 in
theorem ggX8_sheet_X5_used : GoodIn wsX8_sheet wsX5_used := goodIn_r _ [13, 14, 77, 78] (by decide +kernel) (by decide +kernel)
set_option maxRecDepth 20000 in
theorem gX8_sheet_X5_used : GoodIn wsX8_sheet (wsV RX8 49 RX5 yX5_used wsX5_used) := goodIn_app (goodIn_of _ (by decide +kernel)) ggX8_sheet_X5_used
set_option maxRecDepth 20000 in
theorem ggX8_sheet_X2_howManyAreListed : GoodIn wsX8_sheet wsX2_howManyAreListed := goodIn_r _ [19, 20, 21, 10, 11, 12, 13, 14, 22, 23, 24, 25, 26, 27, 28, 29, 30, 31, 32, 33, 34, 35, 79, 80, 81, 82, 77, 78] (by decide +kernel) (by decide +kernel)
set_option maxRecDepth 20000 in
theorem gX8_sheet_X2_howManyAreListed : GoodIn wsX8_sheet (wsV RX8 103 RX2 yX2_howManyAreListed wsX2_howManyAreListed) := goodIn_app (goodIn_of _ (by decide +kernel)) ggX8_sheet_X2_howManyAreListed
set_option maxRecDepth 20000 in
theorem ggX8_sheet_X2_howManyMeetAnAccepted : GoodIn wsX8_sheet wsX2_howManyMeetAnAccepted := goodIn_r _ [39, 21, 10, 11, 12, 13, 14, 22, 23, 24, 25, 26, 27, 28, 29, 30, 40, 41, 42, 18, 43, 20, 44, 45, 46, 47, 48, 49, 50, 51, 52, 53, 54, 55, 56, 57, 58, 59, 60, 77, 78, 79, 80, 81, 82] (by decide +kernel) (by decide +kernel)
set_option maxRecDepth 20000 in
theorem gX8_sheet_X2_howManyMeetAnAccepted : GoodIn wsX8_sheet (wsV RX8 109 RX2 yX2_howManyMeetAnAccepted wsX2_howManyMeetAnAccepted) := goodIn_app (goodIn_of _ (by decide +kernel)) ggX8_sheet_X2_howManyMeetAnAccepted
theorem dX8_sheet_0 : decode cX8_sheet 0 = .ok (.aload_n 0, 1) := by decide +kernel
theorem dX8_sheet_1 : decode cX8_sheet 1 = .ok (.getfield 12, 3) := by decide +kernel
theorem dX8_sheet_4 : decode cX8_sheet 4 = .ok (.iload_n 1, 1) := by decide +kernel
theorem dX8_sheet_5 : decode cX8_sheet 5 = .ok (.invokevirtual 76, 3) := by decide +kernel
theorem dX8_sheet_8 : decode cX8_sheet 8 = .ok (.astore_n 3, 1) := by decide +kernel
theorem dX8_sheet_9 : decode cX8_sheet 9 = .ok (.aload_n 3, 1) := by decide +kernel
theorem dX8_sheet_10 : decode cX8_sheet 10 = .ok (.ifnonnull 5, 3) := by decide +kernel
theorem dX8_sheet_13 : decode cX8_sheet 13 = .ok (.iconst (-1), 1) := by decide +kernel
theorem dX8_sheet_14 : decode cX8_sheet 14 = .ok (.ireturn, 1) := by decide +kernel
theorem dX8_sheet_15 : decode cX8_sheet 15 = .ok (.iload_n 2, 1) := by decide +kernel
theorem dX8_sheet_16 : decode cX8_sheet 16 = .ok (.tableswitch 84 0 4 #[36, 41, 46, 54, 69], 36) := by decide +kernel
theorem dX8_sheet_52 : decode cX8_sheet 52 = .ok (.aload_n 3, 1) := by decide +kernel
theorem dX8_sheet_53 : decode cX8_sheet 53 = .ok (.getfield 93, 3) := by decide +kernel
theorem dX8_sheet_56 : decode cX8_sheet 56 = .ok (.ireturn, 1) := by decide +kernel
theorem dX8_sheet_57 : decode cX8_sheet 57 = .ok (.aload_n 3, 1) := by decide +kernel
theorem dX8_sheet_58 : decode cX8_sheet 58 = .ok (.getfield 80, 3) := by decide +kernel
theorem dX8_sheet_61 : decode cX8_sheet 61 = .ok (.ireturn, 1) := by decide +kernel
theorem dX8_sheet_62 : decode cX8_sheet 62 = .ok (.aload_n 3, 1) := by decide +kernel
theorem dX8_sheet_63 : decode cX8_sheet 63 = .ok (.getfield 96, 3) := by decide +kernel
theorem dX8_sheet_66 : decode cX8_sheet 66 = .ok (.invokevirtual 49, 3) := by decide +kernel
theorem dX8_sheet_69 : decode cX8_sheet 69 = .ok (.ireturn, 1) := by decide +kernel
theorem dX8_sheet_70 : decode cX8_sheet 70 = .ok (.aload_n 0, 1) := by decide +kernel
theorem dX8_sheet_71 : decode cX8_sheet 71 = .ok (.getfield 12, 3) := by decide +kernel
theorem dX8_sheet_74 : decode cX8_sheet 74 = .ok (.getfield 99, 3) := by decide +kernel
theorem dX8_sheet_77 : decode cX8_sheet 77 = .ok (.aload_n 3, 1) := by decide +kernel
theorem dX8_sheet_78 : decode cX8_sheet 78 = .ok (.getfield 96, 3) := by decide +kernel
theorem dX8_sheet_81 : decode cX8_sheet 81 = .ok (.invokevirtual 103, 3) := by decide +kernel
theorem dX8_sheet_84 : decode cX8_sheet 84 = .ok (.ireturn, 1) := by decide +kernel
theorem dX8_sheet_85 : decode cX8_sheet 85 = .ok (.aload_n 0, 1) := by decide +kernel
theorem dX8_sheet_86 : decode cX8_sheet 86 = .ok (.getfield 12, 3) := by decide +kernel
theorem dX8_sheet_89 : decode cX8_sheet 89 = .ok (.getfield 99, 3) := by decide +kernel
theorem dX8_sheet_92 : decode cX8_sheet 92 = .ok (.aload_n 3, 1) := by decide +kernel
theorem dX8_sheet_93 : decode cX8_sheet 93 = .ok (.getfield 96, 3) := by decide +kernel
theorem dX8_sheet_96 : decode cX8_sheet 96 = .ok (.invokevirtual 109, 3) := by decide +kernel
theorem dX8_sheet_99 : decode cX8_sheet 99 = .ok (.ireturn, 1) := by decide +kernel
theorem dX8_sheet_100 : decode cX8_sheet 100 = .ok (.iconst (-1), 1) := by decide +kernel
theorem dX8_sheet_101 : decode cX8_sheet 101 = .ok (.ireturn, 1) := by decide +kernel
set_option maxRecDepth 20000 in
theorem ggX8_written_X7_sheetNumbered : GoodIn wsX8_written wsX7_sheetNumbered := goodIn_r _ [6, 7, 8, 59, 60, 61, 62, 63, 64, 65, 66, 67] (by decide +kernel) (by decide +kernel)
set_option maxRecDepth 20000 in
theorem gX8_written_X7_sheetNumbered : GoodIn wsX8_written (wsV RX8 76 RX7 yX7_sheetNumbered wsX7_sheetNumbered) := goodIn_app (goodIn_of _ (by decide +kernel)) ggX8_written_X7_sheetNumbered
set_option maxRecDepth 20000 in
theorem ggX8_written_X8_isOutside : GoodIn wsX8_written wsX8_isOutside := goodIn_r _ [12] (by decide +kernel) (by decide +kernel)
set_option maxRecDepth 20000 in
theorem gX8_written_X8_isOutside : GoodIn wsX8_written (va_wsS RX8 112 yX8_isOutside wsX8_isOutside) := goodIn_app (goodIn_of _ (by decide +kernel)) ggX8_written_X8_isOutside
set_option maxRecDepth 20000 in
theorem ggX8_written_X5_used : GoodIn wsX8_written wsX5_used := goodIn_r _ [17, 18, 72, 73] (by decide +kernel) (by decide +kernel)
set_option maxRecDepth 20000 in
theorem gX8_written_X5_used : GoodIn wsX8_written (wsV RX8 49 RX5 yX5_used wsX5_used) := goodIn_app (goodIn_of _ (by decide +kernel)) ggX8_written_X5_used
set_option maxRecDepth 20000 in
theorem ggX8_written_X5_get : GoodIn wsX8_written wsX5_get := goodIn_r _ [22, 23, 24, 25, 26, 16, 27, 18, 72, 73] (by decide +kernel) (by decide +kernel)
set_option maxRecDepth 20000 in
theorem gX8_written_X5_get : GoodIn wsX8_written (wsV RX8 116 RX5 yX5_get wsX5_get) := goodIn_app (goodIn_of _ (by decide +kernel)) ggX8_written_X5_get
set_option maxRecDepth 20000 in
theorem ggX8_written_X1_partOf : GoodIn wsX8_written wsX1_partOf := goodIn_r _ [31, 32, 33, 30, 34, 35, 36, 37, 38, 39, 40, 41, 42, 43, 44, 45, 46] (by decide +kernel) (by decide +kernel)
set_option maxRecDepth 20000 in
theorem gX8_written_X1_partOf : GoodIn wsX8_written (va_wsS RX8 119 yX1_partOf wsX1_partOf) := goodIn_app (goodIn_of _ (by decide +kernel)) ggX8_written_X1_partOf
set_option maxRecDepth 20000 in
theorem ggX8_written_X5_placeOf : GoodIn wsX8_written wsX5_placeOf := goodIn_r _ [50, 18, 51, 20, 21, 16, 22, 23, 24, 25, 26, 27, 72, 73] (by decide +kernel) (by decide +kernel)
set_option maxRecDepth 20000 in
theorem gX8_written_X5_placeOf : GoodIn wsX8_written (wsV RX8 128 RX5 yX5_placeOf wsX5_placeOf) := goodIn_app (goodIn_of _ (by decide +kernel)) ggX8_written_X5_placeOf
theorem dX8_written_0 : decode cX8_written 0 = .ok (.aload_n 0, 1) := by decide +kernel
theorem dX8_written_1 : decode cX8_written 1 = .ok (.getfield 12, 3) := by decide +kernel
theorem dX8_written_4 : decode cX8_written 4 = .ok (.iload_n 1, 1) := by decide +kernel
theorem dX8_written_5 : decode cX8_written 5 = .ok (.invokevirtual 76, 3) := by decide +kernel
theorem dX8_written_8 : decode cX8_written 8 = .ok (.astore 4, 2) := by decide +kernel
theorem dX8_written_10 : decode cX8_written 10 = .ok (.aload 4, 2) := by decide +kernel
theorem dX8_written_12 : decode cX8_written 12 = .ok (.ifnull 16, 3) := by decide +kernel
theorem dX8_written_15 : decode cX8_written 15 = .ok (.iload_n 2, 1) := by decide +kernel
theorem dX8_written_16 : decode cX8_written 16 = .ok (.ifCond .lt 12, 3) := by decide +kernel
theorem dX8_written_19 : decode cX8_written 19 = .ok (.iload_n 3, 1) := by decide +kernel
theorem dX8_written_20 : decode cX8_written 20 = .ok (.iconst 0, 1) := by decide +kernel
theorem dX8_written_21 : decode cX8_written 21 = .ok (.iconst 4, 1) := by decide +kernel
theorem dX8_written_22 : decode cX8_written 22 = .ok (.invokestatic 112, 3) := by decide +kernel
theorem dX8_written_25 : decode cX8_written 25 = .ok (.ifCond .eq 5, 3) := by decide +kernel
theorem dX8_written_28 : decode cX8_written 28 = .ok (.iconst (-1), 1) := by decide +kernel
theorem dX8_written_29 : decode cX8_written 29 = .ok (.ireturn, 1) := by decide +kernel
theorem dX8_written_30 : decode cX8_written 30 = .ok (.iload_n 2, 1) := by decide +kernel
theorem dX8_written_31 : decode cX8_written 31 = .ok (.aload 4, 2) := by decide +kernel
theorem dX8_written_33 : decode cX8_written 33 = .ok (.getfield 96, 3) := by decide +kernel
theorem dX8_written_36 : decode cX8_written 36 = .ok (.invokevirtual 49, 3) := by decide +kernel
theorem dX8_written_39 : decode cX8_written 39 = .ok (.if_icmp .lt 6, 3) := by decide +kernel
theorem dX8_written_42 : decode cX8_written 42 = .ok (.bipush (-4), 2) := by decide +kernel
theorem dX8_written_44 : decode cX8_written 44 = .ok (.ireturn, 1) := by decide +kernel
theorem dX8_written_45 : decode cX8_written 45 = .ok (.aload 4, 2) := by decide +kernel
theorem dX8_written_47 : decode cX8_written 47 = .ok (.getfield 96, 3) := by decide +kernel
theorem dX8_written_50 : decode cX8_written 50 = .ok (.iload_n 2, 1) := by decide +kernel
theorem dX8_written_51 : decode cX8_written 51 = .ok (.invokevirtual 116, 3) := by decide +kernel
theorem dX8_written_54 : decode cX8_written 54 = .ok (.istore 5, 2) := by decide +kernel
theorem dX8_written_56 : decode cX8_written 56 = .ok (.iload_n 3, 1) := by decide +kernel
theorem dX8_written_57 : decode cX8_written 57 = .ok (.iconst 4, 1) := by decide +kernel
theorem dX8_written_58 : decode cX8_written 58 = .ok (.if_icmp .ge 10, 3) := by decide +kernel
theorem dX8_written_61 : decode cX8_written 61 = .ok (.iload 5, 2) := by decide +kernel
theorem dX8_written_63 : decode cX8_written 63 = .ok (.iload_n 3, 1) := by decide +kernel
theorem dX8_written_64 : decode cX8_written 64 = .ok (.invokestatic 119, 3) := by decide +kernel
theorem dX8_written_67 : decode cX8_written 67 = .ok (.ireturn, 1) := by decide +kernel
theorem dX8_written_68 : decode cX8_written 68 = .ok (.aload_n 0, 1) := by decide +kernel
theorem dX8_written_69 : decode cX8_written 69 = .ok (.getfield 12, 3) := by decide +kernel
theorem dX8_written_72 : decode cX8_written 72 = .ok (.getfield 99, 3) := by decide +kernel
theorem dX8_written_75 : decode cX8_written 75 = .ok (.getfield 125, 3) := by decide +kernel
theorem dX8_written_78 : decode cX8_written 78 = .ok (.iload 5, 2) := by decide +kernel
theorem dX8_written_80 : decode cX8_written 80 = .ok (.invokevirtual 128, 3) := by decide +kernel
theorem dX8_written_83 : decode cX8_written 83 = .ok (.istore 6, 2) := by decide +kernel
theorem dX8_written_85 : decode cX8_written 85 = .ok (.iload 6, 2) := by decide +kernel
theorem dX8_written_87 : decode cX8_written 87 = .ok (.ifCond .ge 8, 3) := by decide +kernel
theorem dX8_written_90 : decode cX8_written 90 = .ok (.bipush (-4), 2) := by decide +kernel
theorem dX8_written_92 : decode cX8_written 92 = .ok (.goto 5, 3) := by decide +kernel
theorem dX8_written_95 : decode cX8_written 95 = .ok (.iload 6, 2) := by decide +kernel
theorem dX8_written_97 : decode cX8_written 97 = .ok (.ireturn, 1) := by decide +kernel
set_option maxRecDepth 20000 in
theorem ggX8_undo_X0_restore : GoodIn wsX8_undo wsX0_restore := goodIn_r _ [7, 8, 9, 10, 11, 12, 13, 14, 15, 16, 17, 18, 19, 20, 21, 22, 23, 24, 25, 26, 27, 28, 29, 30, 31, 32, 33, 34, 35, 36, 37, 38, 39, 40, 41, 42, 43, 44, 45, 46, 47, 48, 49, 50, 51, 52, 53, 54, 55, 56, 61, 62, 63, 64, 65, 66, 67, 68, 69, 70, 71, 72, 73, 74, 75, 76, 77, 78, 79, 80] (by decide +kernel) (by decide +kernel)
set_option maxRecDepth 20000 in
theorem gX8_undo_X0_restore : GoodIn wsX8_undo (wsV RX8 133 RX0 yX0_restore wsX0_restore) := goodIn_app (goodIn_of _ (by decide +kernel)) ggX8_undo_X0_restore
theorem dX8_undo_0 : decode cX8_undo 0 = .ok (.aload_n 0, 1) := by decide +kernel
theorem dX8_undo_1 : decode cX8_undo 1 = .ok (.getfield 19, 3) := by decide +kernel
theorem dX8_undo_4 : decode cX8_undo 4 = .ok (.getfield 131, 3) := by decide +kernel
theorem dX8_undo_7 : decode cX8_undo 7 = .ok (.ifCond .ne 6, 3) := by decide +kernel
theorem dX8_undo_10 : decode cX8_undo 10 = .ok (.bipush (-2), 2) := by decide +kernel
theorem dX8_undo_12 : decode cX8_undo 12 = .ok (.ireturn, 1) := by decide +kernel
theorem dX8_undo_13 : decode cX8_undo 13 = .ok (.aload_n 0, 1) := by decide +kernel
theorem dX8_undo_14 : decode cX8_undo 14 = .ok (.getfield 19, 3) := by decide +kernel
theorem dX8_undo_17 : decode cX8_undo 17 = .ok (.aload_n 0, 1) := by decide +kernel
theorem dX8_undo_18 : decode cX8_undo 18 = .ok (.getfield 12, 3) := by decide +kernel
theorem dX8_undo_21 : decode cX8_undo 21 = .ok (.invokevirtual 133, 3) := by decide +kernel
theorem dX8_undo_24 : decode cX8_undo 24 = .ok (.aload_n 0, 1) := by decide +kernel
theorem dX8_undo_25 : decode cX8_undo 25 = .ok (.getfield 19, 3) := by decide +kernel
theorem dX8_undo_28 : decode cX8_undo 28 = .ok (.getfield 131, 3) := by decide +kernel
theorem dX8_undo_31 : decode cX8_undo 31 = .ok (.ireturn, 1) := by decide +kernel
set_option maxRecDepth 20000 in
theorem ggX8_count_X8_isOutside : GoodIn wsX8_count wsX8_isOutside := goodIn_r _ [7] (by decide +kernel) (by decide +kernel)
set_option maxRecDepth 20000 in
theorem gX8_count_X8_isOutside : GoodIn wsX8_count (va_wsS RX8 112 yX8_isOutside wsX8_isOutside) := goodIn_app (goodIn_of _ (by decide +kernel)) ggX8_count_X8_isOutside
set_option maxRecDepth 20000 in
theorem ggX8_count_X7_account : GoodIn wsX8_count wsX7_account := goodIn_r _ [12, 13, 14, 15, 16, 17, 11, 18, 19, 20, 21, 22, 23, 24, 25, 26, 27, 28, 29, 30, 31, 32, 33, 34, 35, 36, 37, 38, 39, 40, 41, 42, 43, 44, 45, 46, 47, 83, 84, 85, 86, 87, 88, 89, 90, 91, 103, 104, 105, 106, 107, 92, 93, 94, 95] (by decide +kernel) (by decide +kernel)
set_option maxRecDepth 20000 in
theorem gX8_count_X7_account : GoodIn wsX8_count (wsV RX8 136 RX7 yX7_account wsX7_account) := goodIn_app (goodIn_of _ (by decide +kernel)) ggX8_count_X7_account
set_option maxRecDepth 20000 in
theorem ggX8_count_X5_used : GoodIn wsX8_count wsX5_used := goodIn_r _ [29, 30, 106, 107] (by decide +kernel) (by decide +kernel)
set_option maxRecDepth 20000 in
theorem gX8_count_X5_used : GoodIn wsX8_count (wsV RX8 49 RX5 yX5_used wsX5_used) := goodIn_app (goodIn_of _ (by decide +kernel)) ggX8_count_X5_used
set_option maxRecDepth 20000 in
theorem ggX8_count_X7_howManySheetsAre : GoodIn wsX8_count wsX7_howManySheetsAre := goodIn_r _ [52, 19, 20, 21, 22, 11, 23, 24, 83, 84, 85, 86, 87, 88, 89, 90, 91, 103, 104, 105] (by decide +kernel) (by decide +kernel)
set_option maxRecDepth 20000 in
theorem gX8_count_X7_howManySheetsAre : GoodIn wsX8_count (wsV RX8 139 RX7 yX7_howManySheetsAre wsX7_howManySheetsAre) := goodIn_app (goodIn_of _ (by decide +kernel)) ggX8_count_X7_howManySheetsAre
set_option maxRecDepth 20000 in
theorem ggX8_count_X2_howManyAreOpen : GoodIn wsX8_count wsX2_howManyAreOpen := goodIn_r _ [35, 36, 37, 26, 27, 28, 29, 30, 38, 39, 40, 41, 42, 43, 44, 45, 46, 92, 93, 94, 95, 106, 107] (by decide +kernel) (by decide +kernel)
set_option maxRecDepth 20000 in
theorem gX8_count_X2_howManyAreOpen : GoodIn wsX8_count (wsV RX8 142 RX2 yX2_howManyAreOpen wsX2_howManyAreOpen) := goodIn_app (goodIn_of _ (by decide +kernel)) ggX8_count_X2_howManyAreOpen
set_option maxRecDepth 20000 in
theorem ggX8_count_X2_opposedPairs : GoodIn wsX8_count wsX2_opposedPairs := goodIn_r _ [57, 58, 37, 26, 27, 28, 29, 30, 38, 39, 40, 41, 42, 43, 44, 45, 46, 59, 60, 61, 34, 62, 63, 64, 65, 66, 67, 68, 69, 70, 71, 72, 73, 74, 75, 76, 77, 78, 92, 93, 94, 95, 106, 107] (by decide +kernel) (by decide +kernel)
set_option maxRecDepth 20000 in
theorem gX8_count_X2_opposedPairs : GoodIn wsX8_count (wsV RX8 148 RX2 yX2_opposedPairs wsX2_opposedPairs) := goodIn_app (goodIn_of _ (by decide +kernel)) ggX8_count_X2_opposedPairs
theorem dX8_count_0 : decode cX8_count 0 = .ok (.iload_n 1, 1) := by decide +kernel
theorem dX8_count_1 : decode cX8_count 1 = .ok (.bipush 10, 2) := by decide +kernel
theorem dX8_count_3 : decode cX8_count 3 = .ok (.bipush 16, 2) := by decide +kernel
theorem dX8_count_5 : decode cX8_count 5 = .ok (.invokestatic 112, 3) := by decide +kernel
theorem dX8_count_8 : decode cX8_count 8 = .ok (.ifCond .ne 15, 3) := by decide +kernel
theorem dX8_count_11 : decode cX8_count 11 = .ok (.aload_n 0, 1) := by decide +kernel
theorem dX8_count_12 : decode cX8_count 12 = .ok (.getfield 12, 3) := by decide +kernel
theorem dX8_count_15 : decode cX8_count 15 = .ok (.iload_n 1, 1) := by decide +kernel
theorem dX8_count_16 : decode cX8_count 16 = .ok (.bipush 10, 2) := by decide +kernel
theorem dX8_count_18 : decode cX8_count 18 = .ok (.isub, 1) := by decide +kernel
theorem dX8_count_19 : decode cX8_count 19 = .ok (.invokevirtual 136, 3) := by decide +kernel
theorem dX8_count_22 : decode cX8_count 22 = .ok (.ireturn, 1) := by decide +kernel
theorem dX8_count_23 : decode cX8_count 23 = .ok (.iload_n 1, 1) := by decide +kernel
theorem dX8_count_24 : decode cX8_count 24 = .ok (.tableswitch 143 0 8 #[52, 63, 71, 79, 88, 102, 113, 121, 132], 52) := by decide +kernel
theorem dX8_count_76 : decode cX8_count 76 = .ok (.aload_n 0, 1) := by decide +kernel
theorem dX8_count_77 : decode cX8_count 77 = .ok (.getfield 12, 3) := by decide +kernel
theorem dX8_count_80 : decode cX8_count 80 = .ok (.getfield 45, 3) := by decide +kernel
theorem dX8_count_83 : decode cX8_count 83 = .ok (.invokevirtual 49, 3) := by decide +kernel
theorem dX8_count_86 : decode cX8_count 86 = .ok (.ireturn, 1) := by decide +kernel
theorem dX8_count_87 : decode cX8_count 87 = .ok (.aload_n 0, 1) := by decide +kernel
theorem dX8_count_88 : decode cX8_count 88 = .ok (.getfield 12, 3) := by decide +kernel
theorem dX8_count_91 : decode cX8_count 91 = .ok (.getfield 41, 3) := by decide +kernel
theorem dX8_count_94 : decode cX8_count 94 = .ok (.ireturn, 1) := by decide +kernel
theorem dX8_count_95 : decode cX8_count 95 = .ok (.aload_n 0, 1) := by decide +kernel
theorem dX8_count_96 : decode cX8_count 96 = .ok (.getfield 12, 3) := by decide +kernel
theorem dX8_count_99 : decode cX8_count 99 = .ok (.getfield 69, 3) := by decide +kernel
theorem dX8_count_102 : decode cX8_count 102 = .ok (.ireturn, 1) := by decide +kernel
theorem dX8_count_103 : decode cX8_count 103 = .ok (.aload_n 0, 1) := by decide +kernel
theorem dX8_count_104 : decode cX8_count 104 = .ok (.getfield 12, 3) := by decide +kernel
theorem dX8_count_107 : decode cX8_count 107 = .ok (.iconst 0, 1) := by decide +kernel
theorem dX8_count_108 : decode cX8_count 108 = .ok (.invokevirtual 139, 3) := by decide +kernel
theorem dX8_count_111 : decode cX8_count 111 = .ok (.ireturn, 1) := by decide +kernel
theorem dX8_count_112 : decode cX8_count 112 = .ok (.aload_n 0, 1) := by decide +kernel
theorem dX8_count_113 : decode cX8_count 113 = .ok (.getfield 12, 3) := by decide +kernel
theorem dX8_count_116 : decode cX8_count 116 = .ok (.getfield 99, 3) := by decide +kernel
theorem dX8_count_119 : decode cX8_count 119 = .ok (.getfield 125, 3) := by decide +kernel
theorem dX8_count_122 : decode cX8_count 122 = .ok (.invokevirtual 49, 3) := by decide +kernel
theorem dX8_count_125 : decode cX8_count 125 = .ok (.ireturn, 1) := by decide +kernel
theorem dX8_count_126 : decode cX8_count 126 = .ok (.aload_n 0, 1) := by decide +kernel
theorem dX8_count_127 : decode cX8_count 127 = .ok (.getfield 12, 3) := by decide +kernel
theorem dX8_count_130 : decode cX8_count 130 = .ok (.getfield 99, 3) := by decide +kernel
theorem dX8_count_133 : decode cX8_count 133 = .ok (.invokevirtual 142, 3) := by decide +kernel
theorem dX8_count_136 : decode cX8_count 136 = .ok (.ireturn, 1) := by decide +kernel
theorem dX8_count_137 : decode cX8_count 137 = .ok (.aload_n 0, 1) := by decide +kernel
theorem dX8_count_138 : decode cX8_count 138 = .ok (.getfield 19, 3) := by decide +kernel
theorem dX8_count_141 : decode cX8_count 141 = .ok (.getfield 131, 3) := by decide +kernel
theorem dX8_count_144 : decode cX8_count 144 = .ok (.ireturn, 1) := by decide +kernel
theorem dX8_count_145 : decode cX8_count 145 = .ok (.aload_n 0, 1) := by decide +kernel
theorem dX8_count_146 : decode cX8_count 146 = .ok (.getfield 26, 3) := by decide +kernel
theorem dX8_count_149 : decode cX8_count 149 = .ok (.getfield 145, 3) := by decide +kernel
theorem dX8_count_152 : decode cX8_count 152 = .ok (.invokevirtual 49, 3) := by decide +kernel
theorem dX8_count_155 : decode cX8_count 155 = .ok (.ireturn, 1) := by decide +kernel
theorem dX8_count_156 : decode cX8_count 156 = .ok (.aload_n 0, 1) := by decide +kernel
theorem dX8_count_157 : decode cX8_count 157 = .ok (.getfield 12, 3) := by decide +kernel
theorem dX8_count_160 : decode cX8_count 160 = .ok (.getfield 99, 3) := by decide +kernel
theorem dX8_count_163 : decode cX8_count 163 = .ok (.invokevirtual 148, 3) := by decide +kernel
theorem dX8_count_166 : decode cX8_count 166 = .ok (.ireturn, 1) := by decide +kernel
theorem dX8_count_167 : decode cX8_count 167 = .ok (.iconst (-1), 1) := by decide +kernel
theorem dX8_count_168 : decode cX8_count 168 = .ok (.ireturn, 1) := by decide +kernel
set_option maxRecDepth 20000 in
theorem ggX8_at_X8_characterIn : GoodIn wsX8_at wsX8_characterIn := goodIn_r _ [5, 6, 7, 8, 9, 10, 11, 12, 13, 14, 15, 16, 17, 18, 19, 20, 34, 35] (by decide +kernel) (by decide +kernel)
set_option maxRecDepth 20000 in
theorem gX8_at_X8_characterIn : GoodIn wsX8_at (va_wsS RX8 151 yX8_characterIn wsX8_characterIn) := goodIn_app (goodIn_of _ (by decide +kernel)) ggX8_at_X8_characterIn
theorem dX8_at_0 : decode cX8_at 0 = .ok (.aload_n 0, 1) := by decide +kernel
theorem dX8_at_1 : decode cX8_at 1 = .ok (.getfield 12, 3) := by decide +kernel
theorem dX8_at_4 : decode cX8_at 4 = .ok (.getfield 45, 3) := by decide +kernel
theorem dX8_at_7 : decode cX8_at 7 = .ok (.iload_n 1, 1) := by decide +kernel
theorem dX8_at_8 : decode cX8_at 8 = .ok (.invokestatic 151, 3) := by decide +kernel
theorem dX8_at_11 : decode cX8_at 11 = .ok (.ireturn, 1) := by decide +kernel
set_option maxRecDepth 20000 in
theorem ggX8_mark_X2_hasNot : GoodIn wsX8_mark wsX2_hasNot := goodIn_r _ [6, 7, 8, 9, 10, 11, 12, 13, 14, 15, 16, 79, 80, 81, 82, 83, 84] (by decide +kernel) (by decide +kernel)
set_option maxRecDepth 20000 in
theorem gX8_mark_X2_hasNot : GoodIn wsX8_mark (wsV RX8 155 RX2 yX2_hasNot wsX2_hasNot) := goodIn_app (goodIn_of _ (by decide +kernel)) ggX8_mark_X2_hasNot
set_option maxRecDepth 20000 in
theorem ggX8_mark_X8_isOutside : GoodIn wsX8_mark wsX8_isOutside := goodIn_r _ [16] (by decide +kernel) (by decide +kernel)
set_option maxRecDepth 20000 in
theorem gX8_mark_X8_isOutside : GoodIn wsX8_mark (va_wsS RX8 112 yX8_isOutside wsX8_isOutside) := goodIn_app (goodIn_of _ (by decide +kernel)) ggX8_mark_X8_isOutside
set_option maxRecDepth 20000 in
theorem ggX8_mark_X5_get : GoodIn wsX8_mark wsX5_get := goodIn_r _ [21, 22, 23, 24, 25, 11, 26, 13, 83, 84] (by decide +kernel) (by decide +kernel)
set_option maxRecDepth 20000 in
theorem gX8_mark_X5_get : GoodIn wsX8_mark (wsV RX8 116 RX5 yX5_get wsX5_get) := goodIn_app (goodIn_of _ (by decide +kernel)) ggX8_mark_X5_get
set_option maxRecDepth 20000 in
theorem ggX8_mark_X2_howManyOppose : GoodIn wsX8_mark wsX2_howManyOppose := goodIn_r _ [30, 7, 8, 9, 10, 11, 12, 13, 31, 19, 20, 21, 22, 23, 24, 25, 26, 32, 33, 34, 35, 36, 37, 38, 39, 40, 41, 42, 43, 44, 45, 46, 47, 79, 80, 81, 82, 83, 84] (by decide +kernel) (by decide +kernel)
set_option maxRecDepth 20000 in
theorem gX8_mark_X2_howManyOppose : GoodIn wsX8_mark (wsV RX8 167 RX2 yX2_howManyOppose wsX2_howManyOppose) := goodIn_app (goodIn_of _ (by decide +kernel)) ggX8_mark_X2_howManyOppose
set_option maxRecDepth 20000 in
theorem ggX8_mark_X2_canBeAccepted : GoodIn wsX8_mark wsX2_canBeAccepted := goodIn_r _ [51, 52, 7, 31, 19, 20, 11, 21, 22, 23, 24, 25, 26, 13, 53, 54, 55, 5, 56, 8, 9, 10, 12, 32, 33, 34, 35, 36, 37, 38, 39, 40, 41, 42, 43, 44, 45, 46, 47, 79, 80, 81, 82, 83, 84] (by decide +kernel) (by decide +kernel)
set_option maxRecDepth 20000 in
theorem gX8_mark_X2_canBeAccepted : GoodIn wsX8_mark (wsV RX8 170 RX2 yX2_canBeAccepted wsX2_canBeAccepted) := goodIn_app (goodIn_of _ (by decide +kernel)) ggX8_mark_X2_canBeAccepted
set_option maxRecDepth 20000 in
theorem ggX8_mark_X1_partOf : GoodIn wsX8_mark wsX1_partOf := goodIn_r _ [59, 36, 37, 34, 38, 39, 40, 41, 45, 46, 47, 60, 61, 62, 63, 64, 65] (by decide +kernel) (by decide +kernel)
set_option maxRecDepth 20000 in
theorem gX8_mark_X1_partOf : GoodIn wsX8_mark (va_wsS RX8 119 yX1_partOf wsX1_partOf) := goodIn_app (goodIn_of _ (by decide +kernel)) ggX8_mark_X1_partOf
theorem dX8_mark_0 : decode cX8_mark 0 = .ok (.aload_n 0, 1) := by decide +kernel
theorem dX8_mark_1 : decode cX8_mark 1 = .ok (.getfield 12, 3) := by decide +kernel
theorem dX8_mark_4 : decode cX8_mark 4 = .ok (.getfield 99, 3) := by decide +kernel
theorem dX8_mark_7 : decode cX8_mark 7 = .ok (.astore_n 3, 1) := by decide +kernel
theorem dX8_mark_8 : decode cX8_mark 8 = .ok (.aload_n 3, 1) := by decide +kernel
theorem dX8_mark_9 : decode cX8_mark 9 = .ok (.iload_n 1, 1) := by decide +kernel
theorem dX8_mark_10 : decode cX8_mark 10 = .ok (.invokevirtual 155, 3) := by decide +kernel
theorem dX8_mark_13 : decode cX8_mark 13 = .ok (.ifCond .ne 13, 3) := by decide +kernel
theorem dX8_mark_16 : decode cX8_mark 16 = .ok (.iload_n 2, 1) := by decide +kernel
theorem dX8_mark_17 : decode cX8_mark 17 = .ok (.iconst 0, 1) := by decide +kernel
theorem dX8_mark_18 : decode cX8_mark 18 = .ok (.bipush 8, 2) := by decide +kernel
theorem dX8_mark_20 : decode cX8_mark 20 = .ok (.invokestatic 112, 3) := by decide +kernel
theorem dX8_mark_23 : decode cX8_mark 23 = .ok (.ifCond .eq 5, 3) := by decide +kernel
theorem dX8_mark_26 : decode cX8_mark 26 = .ok (.iconst (-1), 1) := by decide +kernel
theorem dX8_mark_27 : decode cX8_mark 27 = .ok (.ireturn, 1) := by decide +kernel
theorem dX8_mark_28 : decode cX8_mark 28 = .ok (.iload_n 2, 1) := by decide +kernel
theorem dX8_mark_29 : decode cX8_mark 29 = .ok (.tableswitch 89 4 8 #[35, 44, 53, 62, 75], 35) := by decide +kernel
theorem dX8_mark_64 : decode cX8_mark 64 = .ok (.aload_n 3, 1) := by decide +kernel
theorem dX8_mark_65 : decode cX8_mark 65 = .ok (.getfield 158, 3) := by decide +kernel
theorem dX8_mark_68 : decode cX8_mark 68 = .ok (.iload_n 1, 1) := by decide +kernel
theorem dX8_mark_69 : decode cX8_mark 69 = .ok (.invokevirtual 116, 3) := by decide +kernel
theorem dX8_mark_72 : decode cX8_mark 72 = .ok (.ireturn, 1) := by decide +kernel
theorem dX8_mark_73 : decode cX8_mark 73 = .ok (.aload_n 3, 1) := by decide +kernel
theorem dX8_mark_74 : decode cX8_mark 74 = .ok (.getfield 161, 3) := by decide +kernel
theorem dX8_mark_77 : decode cX8_mark 77 = .ok (.iload_n 1, 1) := by decide +kernel
theorem dX8_mark_78 : decode cX8_mark 78 = .ok (.invokevirtual 116, 3) := by decide +kernel
theorem dX8_mark_81 : decode cX8_mark 81 = .ok (.ireturn, 1) := by decide +kernel
theorem dX8_mark_82 : decode cX8_mark 82 = .ok (.aload_n 3, 1) := by decide +kernel
theorem dX8_mark_83 : decode cX8_mark 83 = .ok (.getfield 164, 3) := by decide +kernel
theorem dX8_mark_86 : decode cX8_mark 86 = .ok (.iload_n 1, 1) := by decide +kernel
theorem dX8_mark_87 : decode cX8_mark 87 = .ok (.invokevirtual 116, 3) := by decide +kernel
theorem dX8_mark_90 : decode cX8_mark 90 = .ok (.ireturn, 1) := by decide +kernel
theorem dX8_mark_91 : decode cX8_mark 91 = .ok (.aload_n 3, 1) := by decide +kernel
theorem dX8_mark_92 : decode cX8_mark 92 = .ok (.aload_n 3, 1) := by decide +kernel
theorem dX8_mark_93 : decode cX8_mark 93 = .ok (.getfield 125, 3) := by decide +kernel
theorem dX8_mark_96 : decode cX8_mark 96 = .ok (.iload_n 1, 1) := by decide +kernel
theorem dX8_mark_97 : decode cX8_mark 97 = .ok (.invokevirtual 116, 3) := by decide +kernel
theorem dX8_mark_100 : decode cX8_mark 100 = .ok (.invokevirtual 167, 3) := by decide +kernel
theorem dX8_mark_103 : decode cX8_mark 103 = .ok (.ireturn, 1) := by decide +kernel
theorem dX8_mark_104 : decode cX8_mark 104 = .ok (.aload_n 3, 1) := by decide +kernel
theorem dX8_mark_105 : decode cX8_mark 105 = .ok (.iload_n 1, 1) := by decide +kernel
theorem dX8_mark_106 : decode cX8_mark 106 = .ok (.invokevirtual 170, 3) := by decide +kernel
theorem dX8_mark_109 : decode cX8_mark 109 = .ok (.ifCond .eq 7, 3) := by decide +kernel
theorem dX8_mark_112 : decode cX8_mark 112 = .ok (.iconst 1, 1) := by decide +kernel
theorem dX8_mark_113 : decode cX8_mark 113 = .ok (.goto 4, 3) := by decide +kernel
theorem dX8_mark_116 : decode cX8_mark 116 = .ok (.iconst 0, 1) := by decide +kernel
theorem dX8_mark_117 : decode cX8_mark 117 = .ok (.ireturn, 1) := by decide +kernel
theorem dX8_mark_118 : decode cX8_mark 118 = .ok (.aload_n 3, 1) := by decide +kernel
theorem dX8_mark_119 : decode cX8_mark 119 = .ok (.getfield 125, 3) := by decide +kernel
theorem dX8_mark_122 : decode cX8_mark 122 = .ok (.iload_n 1, 1) := by decide +kernel
theorem dX8_mark_123 : decode cX8_mark 123 = .ok (.invokevirtual 116, 3) := by decide +kernel
theorem dX8_mark_126 : decode cX8_mark 126 = .ok (.iload_n 2, 1) := by decide +kernel
theorem dX8_mark_127 : decode cX8_mark 127 = .ok (.invokestatic 119, 3) := by decide +kernel
theorem dX8_mark_130 : decode cX8_mark 130 = .ok (.ireturn, 1) := by decide +kernel
set_option maxRecDepth 20000 in
theorem ggX8_answer_X2_hasNot : GoodIn wsX8_answer wsX2_hasNot := goodIn_r _ [7, 8, 9, 10, 11, 12, 13, 14, 15, 16, 17, 137, 138, 139, 140, 141, 142] (by decide +kernel) (by decide +kernel)
set_option maxRecDepth 20000 in
theorem gX8_answer_X2_hasNot : GoodIn wsX8_answer (wsV RX8 155 RX2 yX2_hasNot wsX2_hasNot) := goodIn_app (goodIn_of _ (by decide +kernel)) ggX8_answer_X2_hasNot
set_option maxRecDepth 20000 in
theorem ggX8_answer_X8_isOutside : GoodIn wsX8_answer wsX8_isOutside := goodIn_r _ [17] (by decide +kernel) (by decide +kernel)
set_option maxRecDepth 20000 in
theorem gX8_answer_X8_isOutside : GoodIn wsX8_answer (va_wsS RX8 112 yX8_isOutside wsX8_isOutside) := goodIn_app (goodIn_of _ (by decide +kernel)) ggX8_answer_X8_isOutside
set_option maxRecDepth 20000 in
theorem ggX8_answer_X5_get : GoodIn wsX8_answer wsX5_get := goodIn_r _ [22, 23, 24, 25, 26, 12, 27, 14, 141, 142] (by decide +kernel) (by decide +kernel)
set_option maxRecDepth 20000 in
theorem gX8_answer_X5_get : GoodIn wsX8_answer (wsV RX8 116 RX5 yX5_get wsX5_get) := goodIn_app (goodIn_of _ (by decide +kernel)) ggX8_answer_X5_get
set_option maxRecDepth 20000 in
theorem ggX8_answer_X2_canBeAccepted : GoodIn wsX8_answer wsX2_canBeAccepted := goodIn_r _ [31, 32, 8, 33, 20, 21, 12, 22, 23, 24, 25, 26, 27, 14, 34, 35, 36, 6, 37, 9, 10, 11, 13, 38, 39, 40, 41, 42, 43, 44, 45, 46, 47, 48, 49, 50, 51, 52, 53, 137, 138, 139, 140, 141, 142] (by decide +kernel) (by decide +kernel)
set_option maxRecDepth 20000 in
theorem gX8_answer_X2_canBeAccepted : GoodIn wsX8_answer (wsV RX8 170 RX2 yX2_canBeAccepted wsX2_canBeAccepted) := goodIn_app (goodIn_of _ (by decide +kernel)) ggX8_answer_X2_canBeAccepted
set_option maxRecDepth 20000 in
theorem ggX8_answer_X0_record : GoodIn wsX8_answer wsX0_record := goodIn_r _ [58, 59, 60, 61, 62, 63, 57, 64, 65, 66, 67, 68, 69, 70, 71, 72, 73, 74, 75, 76, 77, 78, 79, 80, 12, 81, 14, 23, 82, 83, 84, 6, 85, 8, 32, 86, 87, 88, 89, 90, 91, 92, 93, 94, 95, 96, 97, 98, 99, 100, 101, 102, 103, 104, 105, 143, 144, 128, 129, 130, 131, 132, 133, 134, 135, 136, 141, 142, 137, 138, 139, 140, 145, 146, 147] (by decide +kernel) (by decide +kernel)
set_option maxRecDepth 20000 in
theorem gX8_answer_X0_record : GoodIn wsX8_answer (wsV RX8 55 RX0 yX0_record wsX0_record) := goodIn_app (goodIn_of _ (by decide +kernel)) ggX8_answer_X0_record
set_option maxRecDepth 20000 in
theorem ggX8_answer_X7_keepAnswer : GoodIn wsX8_answer wsX7_keepAnswer := goodIn_r _ [109, 71, 72, 110, 111, 112, 12, 113, 23, 24, 25, 26, 27, 14, 114, 115, 116, 117, 118, 20, 21, 22, 119, 128, 129, 130, 131, 132, 133, 134, 135, 136, 137, 138, 139, 140, 141, 142] (by decide +kernel) (by decide +kernel)
set_option maxRecDepth 20000 in
theorem gX8_answer_X7_keepAnswer : GoodIn wsX8_answer (wsV RX8 173 RX7 yX7_keepAnswer wsX7_keepAnswer) := goodIn_app (goodIn_of _ (by decide +kernel)) ggX8_answer_X7_keepAnswer
set_option maxRecDepth 20000 in
theorem ggX8_answer_X2_howManyAreOpen : GoodIn wsX8_answer wsX2_howManyAreOpen := goodIn_r _ [123, 32, 9, 10, 11, 12, 13, 14, 33, 20, 21, 22, 23, 24, 25, 26, 27, 137, 138, 139, 140, 141, 142] (by decide +kernel) (by decide +kernel)
set_option maxRecDepth 20000 in
theorem gX8_answer_X2_howManyAreOpen : GoodIn wsX8_answer (wsV RX8 142 RX2 yX2_howManyAreOpen wsX2_howManyAreOpen) := goodIn_app (goodIn_of _ (by decide +kernel)) ggX8_answer_X2_howManyAreOpen
theorem dX8_answer_0 : decode cX8_answer 0 = .ok (.aload_n 0, 1) := by decide +kernel
theorem dX8_answer_1 : decode cX8_answer 1 = .ok (.getfield 12, 3) := by decide +kernel
theorem dX8_answer_4 : decode cX8_answer 4 = .ok (.getfield 99, 3) := by decide +kernel
theorem dX8_answer_7 : decode cX8_answer 7 = .ok (.iload_n 1, 1) := by decide +kernel
theorem dX8_answer_8 : decode cX8_answer 8 = .ok (.invokevirtual 155, 3) := by decide +kernel
theorem dX8_answer_11 : decode cX8_answer 11 = .ok (.ifCond .ne 12, 3) := by decide +kernel
theorem dX8_answer_14 : decode cX8_answer 14 = .ok (.iload_n 2, 1) := by decide +kernel
theorem dX8_answer_15 : decode cX8_answer 15 = .ok (.iconst 0, 1) := by decide +kernel
theorem dX8_answer_16 : decode cX8_answer 16 = .ok (.iconst 1, 1) := by decide +kernel
theorem dX8_answer_17 : decode cX8_answer 17 = .ok (.invokestatic 112, 3) := by decide +kernel
theorem dX8_answer_20 : decode cX8_answer 20 = .ok (.ifCond .eq 5, 3) := by decide +kernel
theorem dX8_answer_23 : decode cX8_answer 23 = .ok (.iconst (-1), 1) := by decide +kernel
theorem dX8_answer_24 : decode cX8_answer 24 = .ok (.ireturn, 1) := by decide +kernel
theorem dX8_answer_25 : decode cX8_answer 25 = .ok (.aload_n 0, 1) := by decide +kernel
theorem dX8_answer_26 : decode cX8_answer 26 = .ok (.getfield 12, 3) := by decide +kernel
theorem dX8_answer_29 : decode cX8_answer 29 = .ok (.getfield 99, 3) := by decide +kernel
theorem dX8_answer_32 : decode cX8_answer 32 = .ok (.getfield 158, 3) := by decide +kernel
theorem dX8_answer_35 : decode cX8_answer 35 = .ok (.iload_n 1, 1) := by decide +kernel
theorem dX8_answer_36 : decode cX8_answer 36 = .ok (.invokevirtual 116, 3) := by decide +kernel
theorem dX8_answer_39 : decode cX8_answer 39 = .ok (.ifCond .eq 6, 3) := by decide +kernel
theorem dX8_answer_42 : decode cX8_answer 42 = .ok (.bipush (-2), 2) := by decide +kernel
theorem dX8_answer_44 : decode cX8_answer 44 = .ok (.ireturn, 1) := by decide +kernel
theorem dX8_answer_45 : decode cX8_answer 45 = .ok (.iload_n 2, 1) := by decide +kernel
theorem dX8_answer_46 : decode cX8_answer 46 = .ok (.ifCond .ne 20, 3) := by decide +kernel
theorem dX8_answer_49 : decode cX8_answer 49 = .ok (.aload_n 0, 1) := by decide +kernel
theorem dX8_answer_50 : decode cX8_answer 50 = .ok (.getfield 12, 3) := by decide +kernel
theorem dX8_answer_53 : decode cX8_answer 53 = .ok (.getfield 99, 3) := by decide +kernel
theorem dX8_answer_56 : decode cX8_answer 56 = .ok (.iload_n 1, 1) := by decide +kernel
theorem dX8_answer_57 : decode cX8_answer 57 = .ok (.invokevirtual 170, 3) := by decide +kernel
theorem dX8_answer_60 : decode cX8_answer 60 = .ok (.ifCond .ne 6, 3) := by decide +kernel
theorem dX8_answer_63 : decode cX8_answer 63 = .ok (.bipush (-2), 2) := by decide +kernel
theorem dX8_answer_65 : decode cX8_answer 65 = .ok (.ireturn, 1) := by decide +kernel
theorem dX8_answer_66 : decode cX8_answer 66 = .ok (.aload_n 0, 1) := by decide +kernel
theorem dX8_answer_67 : decode cX8_answer 67 = .ok (.getfield 19, 3) := by decide +kernel
theorem dX8_answer_70 : decode cX8_answer 70 = .ok (.aload_n 0, 1) := by decide +kernel
theorem dX8_answer_71 : decode cX8_answer 71 = .ok (.getfield 12, 3) := by decide +kernel
theorem dX8_answer_74 : decode cX8_answer 74 = .ok (.invokevirtual 55, 3) := by decide +kernel
theorem dX8_answer_77 : decode cX8_answer 77 = .ok (.aload_n 0, 1) := by decide +kernel
theorem dX8_answer_78 : decode cX8_answer 78 = .ok (.getfield 12, 3) := by decide +kernel
theorem dX8_answer_81 : decode cX8_answer 81 = .ok (.iload_n 1, 1) := by decide +kernel
theorem dX8_answer_82 : decode cX8_answer 82 = .ok (.iload_n 2, 1) := by decide +kernel
theorem dX8_answer_83 : decode cX8_answer 83 = .ok (.ifCond .ne 7, 3) := by decide +kernel
theorem dX8_answer_86 : decode cX8_answer 86 = .ok (.iconst 1, 1) := by decide +kernel
theorem dX8_answer_87 : decode cX8_answer 87 = .ok (.goto 4, 3) := by decide +kernel
theorem dX8_answer_90 : decode cX8_answer 90 = .ok (.iconst 2, 1) := by decide +kernel
theorem dX8_answer_91 : decode cX8_answer 91 = .ok (.invokevirtual 173, 3) := by decide +kernel
theorem dX8_answer_94 : decode cX8_answer 94 = .ok (.aload_n 0, 1) := by decide +kernel
theorem dX8_answer_95 : decode cX8_answer 95 = .ok (.getfield 12, 3) := by decide +kernel
theorem dX8_answer_98 : decode cX8_answer 98 = .ok (.getfield 99, 3) := by decide +kernel
theorem dX8_answer_101 : decode cX8_answer 101 = .ok (.invokevirtual 142, 3) := by decide +kernel
theorem dX8_answer_104 : decode cX8_answer 104 = .ok (.ireturn, 1) := by decide +kernel
set_option maxRecDepth 20000 in
theorem ggX8_against_X2_hasNot : GoodIn wsX8_against wsX2_hasNot := goodIn_r _ [6, 7, 8, 9, 10, 11, 12, 13, 14, 15, 16, 55, 56, 57, 58, 59, 60] (by decide +kernel) (by decide +kernel)
set_option maxRecDepth 20000 in
theorem gX8_against_X2_hasNot : GoodIn wsX8_against (wsV RX8 155 RX2 yX2_hasNot wsX2_hasNot) := goodIn_app (goodIn_of _ (by decide +kernel)) ggX8_against_X2_hasNot
set_option maxRecDepth 20000 in
theorem ggX8_against_X5_get : GoodIn wsX8_against wsX5_get := goodIn_r _ [20, 21, 22, 23, 24, 11, 25, 13, 59, 60] (by decide +kernel) (by decide +kernel)
set_option maxRecDepth 20000 in
theorem gX8_against_X5_get : GoodIn wsX8_against (wsV RX8 116 RX5 yX5_get wsX5_get) := goodIn_app (goodIn_of _ (by decide +kernel)) ggX8_against_X5_get
set_option maxRecDepth 20000 in
theorem ggX8_against_X1_areOpposed : GoodIn wsX8_against wsX1_areOpposed := goodIn_r _ [29, 30, 31, 28, 32, 33, 34, 35, 36, 37, 38, 39, 40, 41] (by decide +kernel) (by decide +kernel)
set_option maxRecDepth 20000 in
theorem gX8_against_X1_areOpposed : GoodIn wsX8_against (va_wsS RX8 177 yX1_areOpposed wsX1_areOpposed) := goodIn_app (goodIn_of _ (by decide +kernel)) ggX8_against_X1_areOpposed
theorem dX8_against_0 : decode cX8_against 0 = .ok (.aload_n 0, 1) := by decide +kernel
theorem dX8_against_1 : decode cX8_against 1 = .ok (.getfield 12, 3) := by decide +kernel
theorem dX8_against_4 : decode cX8_against 4 = .ok (.getfield 99, 3) := by decide +kernel
theorem dX8_against_7 : decode cX8_against 7 = .ok (.iload_n 1, 1) := by decide +kernel
theorem dX8_against_8 : decode cX8_against 8 = .ok (.invokevirtual 155, 3) := by decide +kernel
theorem dX8_against_11 : decode cX8_against 11 = .ok (.ifCond .ne 17, 3) := by decide +kernel
theorem dX8_against_14 : decode cX8_against 14 = .ok (.aload_n 0, 1) := by decide +kernel
theorem dX8_against_15 : decode cX8_against 15 = .ok (.getfield 12, 3) := by decide +kernel
theorem dX8_against_18 : decode cX8_against 18 = .ok (.getfield 99, 3) := by decide +kernel
theorem dX8_against_21 : decode cX8_against 21 = .ok (.iload_n 2, 1) := by decide +kernel
theorem dX8_against_22 : decode cX8_against 22 = .ok (.invokevirtual 155, 3) := by decide +kernel
theorem dX8_against_25 : decode cX8_against 25 = .ok (.ifCond .eq 5, 3) := by decide +kernel
theorem dX8_against_28 : decode cX8_against 28 = .ok (.iconst (-1), 1) := by decide +kernel
theorem dX8_against_29 : decode cX8_against 29 = .ok (.ireturn, 1) := by decide +kernel
theorem dX8_against_30 : decode cX8_against 30 = .ok (.aload_n 0, 1) := by decide +kernel
theorem dX8_against_31 : decode cX8_against 31 = .ok (.getfield 12, 3) := by decide +kernel
theorem dX8_against_34 : decode cX8_against 34 = .ok (.getfield 99, 3) := by decide +kernel
theorem dX8_against_37 : decode cX8_against 37 = .ok (.getfield 125, 3) := by decide +kernel
theorem dX8_against_40 : decode cX8_against 40 = .ok (.iload_n 1, 1) := by decide +kernel
theorem dX8_against_41 : decode cX8_against 41 = .ok (.invokevirtual 116, 3) := by decide +kernel
theorem dX8_against_44 : decode cX8_against 44 = .ok (.aload_n 0, 1) := by decide +kernel
theorem dX8_against_45 : decode cX8_against 45 = .ok (.getfield 12, 3) := by decide +kernel
theorem dX8_against_48 : decode cX8_against 48 = .ok (.getfield 99, 3) := by decide +kernel
theorem dX8_against_51 : decode cX8_against 51 = .ok (.getfield 125, 3) := by decide +kernel
theorem dX8_against_54 : decode cX8_against 54 = .ok (.iload_n 2, 1) := by decide +kernel
theorem dX8_against_55 : decode cX8_against 55 = .ok (.invokevirtual 116, 3) := by decide +kernel
theorem dX8_against_58 : decode cX8_against 58 = .ok (.invokestatic 177, 3) := by decide +kernel
theorem dX8_against_61 : decode cX8_against 61 = .ok (.ifCond .eq 7, 3) := by decide +kernel
theorem dX8_against_64 : decode cX8_against 64 = .ok (.iconst 1, 1) := by decide +kernel
theorem dX8_against_65 : decode cX8_against 65 = .ok (.goto 4, 3) := by decide +kernel
theorem dX8_against_68 : decode cX8_against 68 = .ok (.iconst 0, 1) := by decide +kernel
theorem dX8_against_69 : decode cX8_against 69 = .ok (.ireturn, 1) := by decide +kernel
set_option maxRecDepth 20000 in
theorem ggX8_next_X2_mostWanted : GoodIn wsX8_next wsX2_mostWanted := goodIn_r _ [6, 7, 8, 9, 10, 11, 12, 13, 14, 15, 16, 17, 18, 19, 20, 21, 22, 23, 24, 25, 26, 5, 27, 28, 29, 30, 31, 32, 46, 47, 48, 49, 50, 51] (by decide +kernel) (by decide +kernel)
set_option maxRecDepth 20000 in
theorem gX8_next_X2_mostWanted : GoodIn wsX8_next (wsV RX8 181 RX2 yX2_mostWanted wsX2_mostWanted) := goodIn_app (goodIn_of _ (by decide +kernel)) ggX8_next_X2_mostWanted
theorem dX8_next_0 : decode cX8_next 0 = .ok (.aload_n 0, 1) := by decide +kernel
theorem dX8_next_1 : decode cX8_next 1 = .ok (.getfield 12, 3) := by decide +kernel
theorem dX8_next_4 : decode cX8_next 4 = .ok (.getfield 99, 3) := by decide +kernel
theorem dX8_next_7 : decode cX8_next 7 = .ok (.invokevirtual 181, 3) := by decide +kernel
theorem dX8_next_10 : decode cX8_next 10 = .ok (.istore_n 1, 1) := by decide +kernel
theorem dX8_next_11 : decode cX8_next 11 = .ok (.iload_n 1, 1) := by decide +kernel
theorem dX8_next_12 : decode cX8_next 12 = .ok (.ifCond .ge 8, 3) := by decide +kernel
theorem dX8_next_15 : decode cX8_next 15 = .ok (.bipush (-4), 2) := by decide +kernel
theorem dX8_next_17 : decode cX8_next 17 = .ok (.goto 4, 3) := by decide +kernel
theorem dX8_next_20 : decode cX8_next 20 = .ok (.iload_n 1, 1) := by decide +kernel
theorem dX8_next_21 : decode cX8_next 21 = .ok (.ireturn, 1) := by decide +kernel
set_option maxRecDepth 20000 in
theorem ggX8_finish_X7_canBeFinished : GoodIn wsX8_finish wsX7_canBeFinished := goodIn_r _ [8, 9, 10, 11, 12, 13, 7, 14, 15, 16, 17, 18, 19, 20, 21, 22, 23, 24, 25, 26, 27, 28, 29, 30, 31, 32, 33, 34, 35, 36, 37, 38, 39, 40, 41, 166, 167, 168, 169, 170, 171, 172, 173, 174, 175, 176, 177, 178, 179, 180, 181, 182, 183] (by decide +kernel) (by decide +kernel)
set_option maxRecDepth 20000 in
theorem gX8_finish_X7_canBeFinished : GoodIn wsX8_finish (wsV RX8 184 RX7 yX7_canBeFinished wsX7_canBeFinished) := goodIn_app (goodIn_of _ (by decide +kernel)) ggX8_finish_X7_canBeFinished
set_option maxRecDepth 20000 in
theorem ggX8_finish_X0_record : GoodIn wsX8_finish wsX0_record := goodIn_r _ [46, 47, 48, 49, 50, 51, 45, 52, 53, 54, 55, 7, 56, 57, 10, 58, 59, 60, 61, 9, 15, 62, 63, 64, 30, 65, 32, 37, 66, 67, 68, 24, 69, 70, 26, 71, 72, 73, 16, 17, 18, 19, 20, 74, 75, 76, 77, 78, 79, 80, 81, 82, 83, 84, 85, 184, 185, 166, 167, 168, 169, 170, 171, 172, 173, 174, 182, 183, 178, 179, 180, 181, 175, 176, 177] (by decide +kernel) (by decide +kernel)
set_option maxRecDepth 20000 in
theorem gX8_finish_X0_record : GoodIn wsX8_finish (wsV RX8 55 RX0 yX0_record wsX0_record) := goodIn_app (goodIn_of _ (by decide +kernel)) ggX8_finish_X0_record
set_option maxRecDepth 20000 in
theorem ggX8_finish_X4_printAtOnce : GoodIn wsX8_finish wsX4_printAtOnce := goodIn_r _ [90, 91, 92, 93, 94, 28, 29, 30, 31, 32, 95, 96, 97, 98, 99, 100, 101, 102, 37, 103, 63, 64, 65, 104, 34, 35, 36, 38, 39, 40, 41, 105, 106, 107, 89, 108, 109, 110, 111, 112, 113, 114, 115, 116, 117, 118, 119, 120, 121, 122, 123, 124, 125, 126, 127, 128, 129, 130, 131, 132, 133, 134, 135, 136, 137, 138, 139, 140, 186, 187, 188, 189, 178, 179, 180, 181, 182, 183] (by decide +kernel) (by decide +kernel)
set_option maxRecDepth 20000 in
theorem gX8_finish_X4_printAtOnce : GoodIn wsX8_finish (wsV RX8 188 RX4 yX4_printAtOnce wsX4_printAtOnce) := goodIn_app (goodIn_of _ (by decide +kernel)) ggX8_finish_X4_printAtOnce
set_option maxRecDepth 20000 in
theorem ggX8_finish_X7_endRound : GoodIn wsX8_finish wsX7_endRound := goodIn_r _ [144, 58, 57, 10, 15, 9, 145, 146, 147, 7, 148, 16, 17, 18, 19, 20, 149, 28, 29, 30, 31, 32, 150, 151, 152, 153, 154, 34, 35, 36, 37, 38, 39, 40, 41, 155, 120, 121, 122, 62, 63, 64, 65, 156, 157, 158, 24, 159, 70, 26, 71, 72, 160, 133, 134, 135, 166, 167, 168, 169, 170, 171, 172, 173, 174, 175, 176, 177, 182, 183, 178, 179, 180, 181] (by decide +kernel) (by decide +kernel)
set_option maxRecDepth 20000 in
theorem gX8_finish_X7_endRound : GoodIn wsX8_finish (wsV RX8 192 RX7 yX7_endRound wsX7_endRound) := goodIn_app (goodIn_of _ (by decide +kernel)) ggX8_finish_X7_endRound
set_option maxRecDepth 20000 in
theorem ggX8_finish_X5_used : GoodIn wsX8_finish wsX5_used := goodIn_r _ [31, 32, 182, 183] (by decide +kernel) (by decide +kernel)
set_option maxRecDepth 20000 in
theorem gX8_finish_X5_used : GoodIn wsX8_finish (wsV RX8 49 RX5 yX5_used wsX5_used) := goodIn_app (goodIn_of _ (by decide +kernel)) ggX8_finish_X5_used
theorem dX8_finish_0 : decode cX8_finish 0 = .ok (.aload_n 0, 1) := by decide +kernel
theorem dX8_finish_1 : decode cX8_finish 1 = .ok (.getfield 12, 3) := by decide +kernel
theorem dX8_finish_4 : decode cX8_finish 4 = .ok (.invokevirtual 184, 3) := by decide +kernel
theorem dX8_finish_7 : decode cX8_finish 7 = .ok (.ifCond .ne 6, 3) := by decide +kernel
theorem dX8_finish_10 : decode cX8_finish 10 = .ok (.bipush (-2), 2) := by decide +kernel
theorem dX8_finish_12 : decode cX8_finish 12 = .ok (.ireturn, 1) := by decide +kernel
theorem dX8_finish_13 : decode cX8_finish 13 = .ok (.aload_n 0, 1) := by decide +kernel
theorem dX8_finish_14 : decode cX8_finish 14 = .ok (.getfield 19, 3) := by decide +kernel
theorem dX8_finish_17 : decode cX8_finish 17 = .ok (.aload_n 0, 1) := by decide +kernel
theorem dX8_finish_18 : decode cX8_finish 18 = .ok (.getfield 12, 3) := by decide +kernel
theorem dX8_finish_21 : decode cX8_finish 21 = .ok (.invokevirtual 55, 3) := by decide +kernel
theorem dX8_finish_24 : decode cX8_finish 24 = .ok (.aload_n 0, 1) := by decide +kernel
theorem dX8_finish_25 : decode cX8_finish 25 = .ok (.getfield 12, 3) := by decide +kernel
theorem dX8_finish_28 : decode cX8_finish 28 = .ok (.aload_n 0, 1) := by decide +kernel
theorem dX8_finish_29 : decode cX8_finish 29 = .ok (.getfield 33, 3) := by decide +kernel
theorem dX8_finish_32 : decode cX8_finish 32 = .ok (.aload_n 0, 1) := by decide +kernel
theorem dX8_finish_33 : decode cX8_finish 33 = .ok (.getfield 12, 3) := by decide +kernel
theorem dX8_finish_36 : decode cX8_finish 36 = .ok (.getfield 45, 3) := by decide +kernel
theorem dX8_finish_39 : decode cX8_finish 39 = .ok (.aload_n 0, 1) := by decide +kernel
theorem dX8_finish_40 : decode cX8_finish 40 = .ok (.getfield 12, 3) := by decide +kernel
theorem dX8_finish_43 : decode cX8_finish 43 = .ok (.getfield 99, 3) := by decide +kernel
theorem dX8_finish_46 : decode cX8_finish 46 = .ok (.invokevirtual 188, 3) := by decide +kernel
theorem dX8_finish_49 : decode cX8_finish 49 = .ok (.invokevirtual 192, 3) := by decide +kernel
theorem dX8_finish_52 : decode cX8_finish 52 = .ok (.aload_n 0, 1) := by decide +kernel
theorem dX8_finish_53 : decode cX8_finish 53 = .ok (.getfield 12, 3) := by decide +kernel
theorem dX8_finish_56 : decode cX8_finish 56 = .ok (.getfield 45, 3) := by decide +kernel
theorem dX8_finish_59 : decode cX8_finish 59 = .ok (.invokevirtual 49, 3) := by decide +kernel
theorem dX8_finish_62 : decode cX8_finish 62 = .ok (.ireturn, 1) := by decide +kernel
set_option maxRecDepth 20000 in
theorem ggX8_would_X4_printAtOnce : GoodIn wsX8_would wsX4_printAtOnce := goodIn_r _ [7, 8, 9, 10, 11, 12, 13, 14, 15, 16, 17, 18, 19, 20, 21, 22, 23, 24, 25, 26, 27, 28, 29, 30, 31, 32, 33, 34, 35, 36, 37, 38, 39, 40, 6, 41, 42, 43, 44, 45, 46, 47, 48, 49, 50, 51, 52, 53, 54, 55, 56, 57, 58, 59, 60, 61, 62, 63, 64, 65, 66, 67, 68, 69, 70, 71, 72, 73, 92, 93, 94, 95, 96, 97, 98, 99, 100, 101] (by decide +kernel) (by decide +kernel)
set_option maxRecDepth 20000 in
theorem gX8_would_X4_printAtOnce : GoodIn wsX8_would (wsV RX8 188 RX4 yX4_printAtOnce wsX4_printAtOnce) := goodIn_app (goodIn_of _ (by decide +kernel)) ggX8_would_X4_printAtOnce
set_option maxRecDepth 20000 in
theorem ggX8_would_X8_characterIn : GoodIn wsX8_would wsX8_characterIn := goodIn_r _ [76, 77, 12, 13, 14, 15, 16, 78, 31, 32, 33, 25, 34, 35, 36, 37, 100, 101] (by decide +kernel) (by decide +kernel)
set_option maxRecDepth 20000 in
theorem gX8_would_X8_characterIn : GoodIn wsX8_would (va_wsS RX8 151 yX8_characterIn wsX8_characterIn) := goodIn_app (goodIn_of _ (by decide +kernel)) ggX8_would_X8_characterIn
theorem dX8_would_0 : decode cX8_would 0 = .ok (.aload_n 0, 1) := by decide +kernel
theorem dX8_would_1 : decode cX8_would 1 = .ok (.getfield 33, 3) := by decide +kernel
theorem dX8_would_4 : decode cX8_would 4 = .ok (.aload_n 0, 1) := by decide +kernel
theorem dX8_would_5 : decode cX8_would 5 = .ok (.getfield 12, 3) := by decide +kernel
theorem dX8_would_8 : decode cX8_would 8 = .ok (.getfield 45, 3) := by decide +kernel
theorem dX8_would_11 : decode cX8_would 11 = .ok (.aload_n 0, 1) := by decide +kernel
theorem dX8_would_12 : decode cX8_would 12 = .ok (.getfield 12, 3) := by decide +kernel
theorem dX8_would_15 : decode cX8_would 15 = .ok (.getfield 99, 3) := by decide +kernel
theorem dX8_would_18 : decode cX8_would 18 = .ok (.invokevirtual 188, 3) := by decide +kernel
theorem dX8_would_21 : decode cX8_would 21 = .ok (.iload_n 1, 1) := by decide +kernel
theorem dX8_would_22 : decode cX8_would 22 = .ok (.invokestatic 151, 3) := by decide +kernel
theorem dX8_would_25 : decode cX8_would 25 = .ok (.ireturn, 1) := by decide +kernel
set_option maxRecDepth 20000 in
theorem ggX8_again_X4_printInTurn : GoodIn wsX8_again wsX4_printInTurn := goodIn_r _ [7, 8, 9, 10, 11, 12, 13, 14, 15, 16, 17, 18, 19, 20, 21, 22, 23, 24, 25, 26, 27, 28, 29, 30, 31, 6, 32, 33, 34, 35, 36, 37, 38, 39, 40, 41, 42, 43, 44, 45, 46, 47, 48, 49, 50, 51, 52, 53, 54, 55, 56, 57, 58, 59, 60, 61, 62, 63, 64, 65, 66, 67, 68, 69, 70, 71, 72, 73, 74, 75, 76, 77, 78, 79, 80, 99, 100, 101, 102, 103, 104, 105, 106, 107, 108] (by decide +kernel) (by decide +kernel)
set_option maxRecDepth 20000 in
theorem gX8_again_X4_printInTurn : GoodIn wsX8_again (wsV RX8 196 RX4 yX4_printInTurn wsX4_printInTurn) := goodIn_app (goodIn_of _ (by decide +kernel)) ggX8_again_X4_printInTurn
set_option maxRecDepth 20000 in
theorem ggX8_again_X8_characterIn : GoodIn wsX8_again wsX8_characterIn := goodIn_r _ [83, 84, 17, 18, 13, 19, 15, 85, 21, 22, 23, 24, 25, 26, 27, 28, 107, 108] (by decide +kernel) (by decide +kernel)
set_option maxRecDepth 20000 in
theorem gX8_again_X8_characterIn : GoodIn wsX8_again (va_wsS RX8 151 yX8_characterIn wsX8_characterIn) := goodIn_app (goodIn_of _ (by decide +kernel)) ggX8_again_X8_characterIn
theorem dX8_again_0 : decode cX8_again 0 = .ok (.aload_n 0, 1) := by decide +kernel
theorem dX8_again_1 : decode cX8_again 1 = .ok (.getfield 33, 3) := by decide +kernel
theorem dX8_again_4 : decode cX8_again 4 = .ok (.aload_n 0, 1) := by decide +kernel
theorem dX8_again_5 : decode cX8_again 5 = .ok (.getfield 12, 3) := by decide +kernel
theorem dX8_again_8 : decode cX8_again 8 = .ok (.getfield 45, 3) := by decide +kernel
theorem dX8_again_11 : decode cX8_again 11 = .ok (.aload_n 0, 1) := by decide +kernel
theorem dX8_again_12 : decode cX8_again 12 = .ok (.getfield 12, 3) := by decide +kernel
theorem dX8_again_15 : decode cX8_again 15 = .ok (.getfield 99, 3) := by decide +kernel
theorem dX8_again_18 : decode cX8_again 18 = .ok (.invokevirtual 196, 3) := by decide +kernel
theorem dX8_again_21 : decode cX8_again 21 = .ok (.iload_n 1, 1) := by decide +kernel
theorem dX8_again_22 : decode cX8_again 22 = .ok (.invokestatic 151, 3) := by decide +kernel
theorem dX8_again_25 : decode cX8_again 25 = .ok (.ireturn, 1) := by decide +kernel
set_option maxRecDepth 20000 in
theorem ggX8_reader_X8_isNoReader : GoodIn wsX8_reader wsX8_isNoReader := goodIn_r _ [5, 6, 7, 4, 8] (by decide +kernel) (by decide +kernel)
set_option maxRecDepth 20000 in
theorem gX8_reader_X8_isNoReader : GoodIn wsX8_reader (va_wsS RX8 63 yX8_isNoReader wsX8_isNoReader) := goodIn_app (goodIn_of _ (by decide +kernel)) ggX8_reader_X8_isNoReader
set_option maxRecDepth 20000 in
theorem ggX8_reader_X5_get : GoodIn wsX8_reader wsX5_get := goodIn_r _ [13, 14, 15, 16, 17, 12, 18, 19, 44, 45] (by decide +kernel) (by decide +kernel)
set_option maxRecDepth 20000 in
theorem gX8_reader_X5_get : GoodIn wsX8_reader (wsV RX8 116 RX5 yX5_get wsX5_get) := goodIn_app (goodIn_of _ (by decide +kernel)) ggX8_reader_X5_get
set_option maxRecDepth 20000 in
theorem ggX8_reader_X7_hasSheetOut : GoodIn wsX8_reader wsX7_hasSheetOut := goodIn_r _ [24, 25, 26, 27, 28, 23, 29, 30, 35, 36, 37, 38, 39, 40, 41, 42, 43, 46, 47, 48] (by decide +kernel) (by decide +kernel)
set_option maxRecDepth 20000 in
theorem gX8_reader_X7_hasSheetOut : GoodIn wsX8_reader (wsV RX8 66 RX7 yX7_hasSheetOut wsX7_hasSheetOut) := goodIn_app (goodIn_of _ (by decide +kernel)) ggX8_reader_X7_hasSheetOut
theorem dX8_reader_0 : decode cX8_reader 0 = .ok (.iload_n 1, 1) := by decide +kernel
theorem dX8_reader_1 : decode cX8_reader 1 = .ok (.invokestatic 63, 3) := by decide +kernel
theorem dX8_reader_4 : decode cX8_reader 4 = .ok (.ifCond .eq 5, 3) := by decide +kernel
theorem dX8_reader_7 : decode cX8_reader 7 = .ok (.iconst (-1), 1) := by decide +kernel
theorem dX8_reader_8 : decode cX8_reader 8 = .ok (.ireturn, 1) := by decide +kernel
theorem dX8_reader_9 : decode cX8_reader 9 = .ok (.iload_n 2, 1) := by decide +kernel
theorem dX8_reader_10 : decode cX8_reader 10 = .ok (.tableswitch 83 0 3 #[30, 42, 54, 66], 30) := by decide +kernel
theorem dX8_reader_40 : decode cX8_reader 40 = .ok (.aload_n 0, 1) := by decide +kernel
theorem dX8_reader_41 : decode cX8_reader 41 = .ok (.getfield 12, 3) := by decide +kernel
theorem dX8_reader_44 : decode cX8_reader 44 = .ok (.getfield 199, 3) := by decide +kernel
theorem dX8_reader_47 : decode cX8_reader 47 = .ok (.iload_n 1, 1) := by decide +kernel
theorem dX8_reader_48 : decode cX8_reader 48 = .ok (.invokevirtual 116, 3) := by decide +kernel
theorem dX8_reader_51 : decode cX8_reader 51 = .ok (.ireturn, 1) := by decide +kernel
theorem dX8_reader_52 : decode cX8_reader 52 = .ok (.aload_n 0, 1) := by decide +kernel
theorem dX8_reader_53 : decode cX8_reader 53 = .ok (.getfield 12, 3) := by decide +kernel
theorem dX8_reader_56 : decode cX8_reader 56 = .ok (.getfield 202, 3) := by decide +kernel
theorem dX8_reader_59 : decode cX8_reader 59 = .ok (.iload_n 1, 1) := by decide +kernel
theorem dX8_reader_60 : decode cX8_reader 60 = .ok (.invokevirtual 116, 3) := by decide +kernel
theorem dX8_reader_63 : decode cX8_reader 63 = .ok (.ireturn, 1) := by decide +kernel
theorem dX8_reader_64 : decode cX8_reader 64 = .ok (.aload_n 0, 1) := by decide +kernel
theorem dX8_reader_65 : decode cX8_reader 65 = .ok (.getfield 12, 3) := by decide +kernel
theorem dX8_reader_68 : decode cX8_reader 68 = .ok (.getfield 205, 3) := by decide +kernel
theorem dX8_reader_71 : decode cX8_reader 71 = .ok (.iload_n 1, 1) := by decide +kernel
theorem dX8_reader_72 : decode cX8_reader 72 = .ok (.invokevirtual 116, 3) := by decide +kernel
theorem dX8_reader_75 : decode cX8_reader 75 = .ok (.ireturn, 1) := by decide +kernel
theorem dX8_reader_76 : decode cX8_reader 76 = .ok (.aload_n 0, 1) := by decide +kernel
theorem dX8_reader_77 : decode cX8_reader 77 = .ok (.getfield 12, 3) := by decide +kernel
theorem dX8_reader_80 : decode cX8_reader 80 = .ok (.iload_n 1, 1) := by decide +kernel
theorem dX8_reader_81 : decode cX8_reader 81 = .ok (.invokevirtual 66, 3) := by decide +kernel
theorem dX8_reader_84 : decode cX8_reader 84 = .ok (.ifCond .eq 7, 3) := by decide +kernel
theorem dX8_reader_87 : decode cX8_reader 87 = .ok (.iconst 1, 1) := by decide +kernel
theorem dX8_reader_88 : decode cX8_reader 88 = .ok (.goto 4, 3) := by decide +kernel
theorem dX8_reader_91 : decode cX8_reader 91 = .ok (.iconst 0, 1) := by decide +kernel
theorem dX8_reader_92 : decode cX8_reader 92 = .ok (.ireturn, 1) := by decide +kernel
theorem dX8_reader_93 : decode cX8_reader 93 = .ok (.iconst (-1), 1) := by decide +kernel
theorem dX8_reader_94 : decode cX8_reader 94 = .ok (.ireturn, 1) := by decide +kernel
set_option maxRecDepth 20000 in
theorem ggX8_type_X8_isNoCharacter : GoodIn wsX8_type wsX8_isNoCharacter := goodIn_r _ [5, 6, 7, 4, 8] (by decide +kernel) (by decide +kernel)
set_option maxRecDepth 20000 in
theorem gX8_type_X8_isNoCharacter : GoodIn wsX8_type (va_wsS RX8 37 yX8_isNoCharacter wsX8_isNoCharacter) := goodIn_app (goodIn_of _ (by decide +kernel)) ggX8_type_X8_isNoCharacter
set_option maxRecDepth 20000 in
theorem ggX8_type_X5_used : GoodIn wsX8_type wsX5_used := goodIn_r _ [13, 14, 29, 30] (by decide +kernel) (by decide +kernel)
set_option maxRecDepth 20000 in
theorem gX8_type_X5_used : GoodIn wsX8_type (wsV RX8 49 RX5 yX5_used wsX5_used) := goodIn_app (goodIn_of _ (by decide +kernel)) ggX8_type_X5_used
set_option maxRecDepth 20000 in
theorem ggX8_type_X5_append : GoodIn wsX8_type wsX5_append := goodIn_r _ [18, 14, 19, 29, 30] (by decide +kernel) (by decide +kernel)
set_option maxRecDepth 20000 in
theorem gX8_type_X5_append : GoodIn wsX8_type (wsV RX8 59 RX5 yX5_append wsX5_append) := goodIn_app (goodIn_of _ (by decide +kernel)) ggX8_type_X5_append
theorem dX8_type_0 : decode cX8_type 0 = .ok (.iload_n 1, 1) := by decide +kernel
theorem dX8_type_1 : decode cX8_type 1 = .ok (.invokestatic 37, 3) := by decide +kernel
theorem dX8_type_4 : decode cX8_type 4 = .ok (.ifCond .eq 5, 3) := by decide +kernel
theorem dX8_type_7 : decode cX8_type 7 = .ok (.iconst (-1), 1) := by decide +kernel
theorem dX8_type_8 : decode cX8_type 8 = .ok (.ireturn, 1) := by decide +kernel
theorem dX8_type_9 : decode cX8_type 9 = .ok (.aload_n 0, 1) := by decide +kernel
theorem dX8_type_10 : decode cX8_type 10 = .ok (.getfield 26, 3) := by decide +kernel
theorem dX8_type_13 : decode cX8_type 13 = .ok (.getfield 145, 3) := by decide +kernel
theorem dX8_type_16 : decode cX8_type 16 = .ok (.invokevirtual 49, 3) := by decide +kernel
theorem dX8_type_19 : decode cX8_type 19 = .ok (.bipush 80, 2) := by decide +kernel
theorem dX8_type_21 : decode cX8_type 21 = .ok (.if_icmp .lt 6, 3) := by decide +kernel
theorem dX8_type_24 : decode cX8_type 24 = .ok (.bipush (-3), 2) := by decide +kernel
theorem dX8_type_26 : decode cX8_type 26 = .ok (.ireturn, 1) := by decide +kernel
theorem dX8_type_27 : decode cX8_type 27 = .ok (.aload_n 0, 1) := by decide +kernel
theorem dX8_type_28 : decode cX8_type 28 = .ok (.getfield 26, 3) := by decide +kernel
theorem dX8_type_31 : decode cX8_type 31 = .ok (.getfield 145, 3) := by decide +kernel
theorem dX8_type_34 : decode cX8_type 34 = .ok (.iload_n 1, 1) := by decide +kernel
theorem dX8_type_35 : decode cX8_type 35 = .ok (.invokevirtual 59, 3) := by decide +kernel
theorem dX8_type_38 : decode cX8_type 38 = .ok (.aload_n 0, 1) := by decide +kernel
theorem dX8_type_39 : decode cX8_type 39 = .ok (.getfield 26, 3) := by decide +kernel
theorem dX8_type_42 : decode cX8_type 42 = .ok (.getfield 145, 3) := by decide +kernel
theorem dX8_type_45 : decode cX8_type 45 = .ok (.invokevirtual 49, 3) := by decide +kernel
theorem dX8_type_48 : decode cX8_type 48 = .ok (.ireturn, 1) := by decide +kernel
set_option maxRecDepth 20000 in
theorem ggX8_clearText_X5_used : GoodIn wsX8_clearText wsX5_used := goodIn_r _ [6, 7, 21, 22] (by decide +kernel) (by decide +kernel)
set_option maxRecDepth 20000 in
theorem gX8_clearText_X5_used : GoodIn wsX8_clearText (wsV RX8 49 RX5 yX5_used wsX5_used) := goodIn_app (goodIn_of _ (by decide +kernel)) ggX8_clearText_X5_used
set_option maxRecDepth 20000 in
theorem ggX8_clearText_X5_cutTo : GoodIn wsX8_clearText wsX5_cutTo := goodIn_r _ [11, 7, 21, 22] (by decide +kernel) (by decide +kernel)
set_option maxRecDepth 20000 in
theorem gX8_clearText_X5_cutTo : GoodIn wsX8_clearText (wsV RX8 208 RX5 yX5_cutTo wsX5_cutTo) := goodIn_app (goodIn_of _ (by decide +kernel)) ggX8_clearText_X5_cutTo
theorem dX8_clearText_0 : decode cX8_clearText 0 = .ok (.aload_n 0, 1) := by decide +kernel
theorem dX8_clearText_1 : decode cX8_clearText 1 = .ok (.getfield 26, 3) := by decide +kernel
theorem dX8_clearText_4 : decode cX8_clearText 4 = .ok (.getfield 145, 3) := by decide +kernel
theorem dX8_clearText_7 : decode cX8_clearText 7 = .ok (.invokevirtual 49, 3) := by decide +kernel
theorem dX8_clearText_10 : decode cX8_clearText 10 = .ok (.istore_n 1, 1) := by decide +kernel
theorem dX8_clearText_11 : decode cX8_clearText 11 = .ok (.aload_n 0, 1) := by decide +kernel
theorem dX8_clearText_12 : decode cX8_clearText 12 = .ok (.getfield 26, 3) := by decide +kernel
theorem dX8_clearText_15 : decode cX8_clearText 15 = .ok (.getfield 145, 3) := by decide +kernel
theorem dX8_clearText_18 : decode cX8_clearText 18 = .ok (.iconst 0, 1) := by decide +kernel
theorem dX8_clearText_19 : decode cX8_clearText 19 = .ok (.invokevirtual 208, 3) := by decide +kernel
theorem dX8_clearText_22 : decode cX8_clearText 22 = .ok (.iload_n 1, 1) := by decide +kernel
theorem dX8_clearText_23 : decode cX8_clearText 23 = .ok (.ireturn, 1) := by decide +kernel
set_option maxRecDepth 20000 in
theorem ggX8_fault_X7_sheetNumbered : GoodIn wsX8_fault wsX7_sheetNumbered := goodIn_r _ [7, 8, 9, 150, 151, 152, 153, 154, 155, 156, 157, 158] (by decide +kernel) (by decide +kernel)
set_option maxRecDepth 20000 in
theorem gX8_fault_X7_sheetNumbered : GoodIn wsX8_fault (wsV RX8 76 RX7 yX7_sheetNumbered wsX7_sheetNumbered) := goodIn_app (goodIn_of _ (by decide +kernel)) ggX8_fault_X7_sheetNumbered
set_option maxRecDepth 20000 in
theorem ggX8_fault_X8_isOutside : GoodIn wsX8_fault wsX8_isOutside := goodIn_r _ [13] (by decide +kernel) (by decide +kernel)
set_option maxRecDepth 20000 in
theorem gX8_fault_X8_isOutside : GoodIn wsX8_fault (va_wsS RX8 112 yX8_isOutside wsX8_isOutside) := goodIn_app (goodIn_of _ (by decide +kernel)) ggX8_fault_X8_isOutside
set_option maxRecDepth 20000 in
theorem ggX8_fault_X5_used : GoodIn wsX8_fault wsX5_used := goodIn_r _ [18, 19, 164, 165] (by decide +kernel) (by decide +kernel)
set_option maxRecDepth 20000 in
theorem gX8_fault_X5_used : GoodIn wsX8_fault (wsV RX8 49 RX5 yX5_used wsX5_used) := goodIn_app (goodIn_of _ (by decide +kernel)) ggX8_fault_X5_used
set_option maxRecDepth 20000 in
theorem ggX8_fault_X3_readFor : GoodIn wsX8_fault wsX3_readFor := goodIn_r _ [24, 25, 26, 27, 28, 29, 30, 31, 32, 17, 33, 19, 34, 15, 16, 18, 35, 36, 37, 23, 38, 39, 40, 41, 42, 43, 44, 45, 46, 47, 48, 49, 50, 51, 52, 53, 54, 55, 56, 57, 58, 59, 60, 61, 62, 63, 64, 65, 66, 67, 68, 69, 70, 71, 72, 73, 74, 75, 76, 77, 78, 79, 80, 81, 82, 83, 84, 85, 86, 87, 88, 89, 90, 91, 92, 93, 94, 95, 96, 97, 98, 99, 100, 101, 102, 103, 104, 105, 106, 107, 108, 109, 110, 111, 112, 113, 114, 115, 116, 117, 118, 119, 120, 121, 122, 123, 124, 125, 126, 127, 128, 129, 130, 131, 132, 133, 134, 135, 136, 137, 138, 139, 140, 141, 142, 159, 160, 161, 162, 163, 164, 165] (by decide +kernel) (by decide +kernel)
set_option maxRecDepth 20000 in
theorem gX8_fault_X3_readFor : GoodIn wsX8_fault (wsV RX8 211 RX3 yX3_readFor wsX3_readFor) := goodIn_app (goodIn_of _ (by decide +kernel)) ggX8_fault_X3_readFor
theorem dX8_fault_0 : decode cX8_fault 0 = .ok (.aload_n 0, 1) := by decide +kernel
theorem dX8_fault_1 : decode cX8_fault 1 = .ok (.getfield 12, 3) := by decide +kernel
theorem dX8_fault_4 : decode cX8_fault 4 = .ok (.iload_n 1, 1) := by decide +kernel
theorem dX8_fault_5 : decode cX8_fault 5 = .ok (.invokevirtual 76, 3) := by decide +kernel
theorem dX8_fault_8 : decode cX8_fault 8 = .ok (.astore_n 3, 1) := by decide +kernel
theorem dX8_fault_9 : decode cX8_fault 9 = .ok (.aload_n 3, 1) := by decide +kernel
theorem dX8_fault_10 : decode cX8_fault 10 = .ok (.ifnull 12, 3) := by decide +kernel
theorem dX8_fault_13 : decode cX8_fault 13 = .ok (.iload_n 2, 1) := by decide +kernel
theorem dX8_fault_14 : decode cX8_fault 14 = .ok (.iconst 0, 1) := by decide +kernel
theorem dX8_fault_15 : decode cX8_fault 15 = .ok (.iconst 1, 1) := by decide +kernel
theorem dX8_fault_16 : decode cX8_fault 16 = .ok (.invokestatic 112, 3) := by decide +kernel
theorem dX8_fault_19 : decode cX8_fault 19 = .ok (.ifCond .eq 5, 3) := by decide +kernel
theorem dX8_fault_22 : decode cX8_fault 22 = .ok (.iconst (-1), 1) := by decide +kernel
theorem dX8_fault_23 : decode cX8_fault 23 = .ok (.ireturn, 1) := by decide +kernel
theorem dX8_fault_24 : decode cX8_fault 24 = .ok (.aload_n 0, 1) := by decide +kernel
theorem dX8_fault_25 : decode cX8_fault 25 = .ok (.getfield 26, 3) := by decide +kernel
theorem dX8_fault_28 : decode cX8_fault 28 = .ok (.aload_n 3, 1) := by decide +kernel
theorem dX8_fault_29 : decode cX8_fault 29 = .ok (.getfield 96, 3) := by decide +kernel
theorem dX8_fault_32 : decode cX8_fault 32 = .ok (.aload_n 0, 1) := by decide +kernel
theorem dX8_fault_33 : decode cX8_fault 33 = .ok (.getfield 12, 3) := by decide +kernel
theorem dX8_fault_36 : decode cX8_fault 36 = .ok (.getfield 45, 3) := by decide +kernel
theorem dX8_fault_39 : decode cX8_fault 39 = .ok (.invokevirtual 49, 3) := by decide +kernel
theorem dX8_fault_42 : decode cX8_fault 42 = .ok (.invokevirtual 211, 3) := by decide +kernel
theorem dX8_fault_45 : decode cX8_fault 45 = .ok (.aload_n 0, 1) := by decide +kernel
theorem dX8_fault_46 : decode cX8_fault 46 = .ok (.getfield 26, 3) := by decide +kernel
theorem dX8_fault_49 : decode cX8_fault 49 = .ok (.getfield 215, 3) := by decide +kernel
theorem dX8_fault_52 : decode cX8_fault 52 = .ok (.ifCond .ne 6, 3) := by decide +kernel
theorem dX8_fault_55 : decode cX8_fault 55 = .ok (.bipush (-4), 2) := by decide +kernel
theorem dX8_fault_57 : decode cX8_fault 57 = .ok (.ireturn, 1) := by decide +kernel
theorem dX8_fault_58 : decode cX8_fault 58 = .ok (.iload_n 2, 1) := by decide +kernel
theorem dX8_fault_59 : decode cX8_fault 59 = .ok (.ifCond .ne 13, 3) := by decide +kernel
theorem dX8_fault_62 : decode cX8_fault 62 = .ok (.aload_n 0, 1) := by decide +kernel
theorem dX8_fault_63 : decode cX8_fault 63 = .ok (.getfield 26, 3) := by decide +kernel
theorem dX8_fault_66 : decode cX8_fault 66 = .ok (.getfield 218, 3) := by decide +kernel
theorem dX8_fault_69 : decode cX8_fault 69 = .ok (.goto 10, 3) := by decide +kernel
theorem dX8_fault_72 : decode cX8_fault 72 = .ok (.aload_n 0, 1) := by decide +kernel
theorem dX8_fault_73 : decode cX8_fault 73 = .ok (.getfield 26, 3) := by decide +kernel
theorem dX8_fault_76 : decode cX8_fault 76 = .ok (.getfield 215, 3) := by decide +kernel
theorem dX8_fault_79 : decode cX8_fault 79 = .ok (.ireturn, 1) := by decide +kernel
set_option maxRecDepth 20000 in
theorem ggX8_write_X7_sheetNumbered : GoodIn wsX8_write wsX7_sheetNumbered := goodIn_r _ [8, 9, 10, 211, 212, 213, 214, 215, 216, 217, 218, 219] (by decide +kernel) (by decide +kernel)
set_option maxRecDepth 20000 in
theorem gX8_write_X7_sheetNumbered : GoodIn wsX8_write (wsV RX8 76 RX7 yX7_sheetNumbered wsX7_sheetNumbered) := goodIn_app (goodIn_of _ (by decide +kernel)) ggX8_write_X7_sheetNumbered
set_option maxRecDepth 20000 in
theorem ggX8_write_X5_used : GoodIn wsX8_write wsX5_used := goodIn_r _ [15, 16, 225, 226] (by decide +kernel) (by decide +kernel)
set_option maxRecDepth 20000 in
theorem gX8_write_X5_used : GoodIn wsX8_write (wsV RX8 49 RX5 yX5_used wsX5_used) := goodIn_app (goodIn_of _ (by decide +kernel)) ggX8_write_X5_used
set_option maxRecDepth 20000 in
theorem ggX8_write_X3_readFor : GoodIn wsX8_write wsX3_readFor := goodIn_r _ [21, 22, 23, 24, 25, 26, 27, 28, 29, 14, 30, 16, 31, 12, 13, 15, 32, 33, 34, 20, 35, 36, 37, 38, 39, 40, 41, 42, 43, 44, 45, 46, 47, 48, 49, 50, 51, 52, 53, 54, 55, 56, 57, 58, 59, 60, 61, 62, 63, 64, 65, 66, 67, 68, 69, 70, 71, 72, 73, 74, 75, 76, 77, 78, 79, 80, 81, 82, 83, 84, 85, 86, 87, 88, 89, 90, 91, 92, 93, 94, 95, 96, 97, 98, 99, 100, 101, 102, 103, 104, 105, 106, 107, 108, 109, 110, 111, 112, 113, 114, 115, 116, 117, 118, 119, 120, 121, 122, 123, 124, 125, 126, 127, 128, 129, 130, 131, 132, 133, 134, 135, 136, 137, 138, 139, 220, 221, 222, 223, 224, 225, 226] (by decide +kernel) (by decide +kernel)
set_option maxRecDepth 20000 in
theorem gX8_write_X3_readFor : GoodIn wsX8_write (wsV RX8 211 RX3 yX3_readFor wsX3_readFor) := goodIn_app (goodIn_of _ (by decide +kernel)) ggX8_write_X3_readFor
set_option maxRecDepth 20000 in
theorem ggX8_write_X0_record : GoodIn wsX8_write wsX0_record := goodIn_r _ [144, 145, 146, 147, 148, 149, 143, 150, 151, 152, 153, 7, 154, 155, 156, 157, 158, 159, 160, 161, 9, 162, 163, 164, 14, 165, 16, 44, 166, 167, 168, 169, 170, 171, 172, 173, 174, 175, 176, 5, 6, 8, 10, 177, 178, 179, 180, 181, 182, 183, 184, 185, 186, 187, 188, 227, 228, 211, 212, 213, 214, 215, 216, 217, 218, 219, 225, 226, 229, 230, 231, 232, 208, 209, 210] (by decide +kernel) (by decide +kernel)
set_option maxRecDepth 20000 in
theorem gX8_write_X0_record : GoodIn wsX8_write (wsV RX8 55 RX0 yX0_record wsX0_record) := goodIn_app (goodIn_of _ (by decide +kernel)) ggX8_write_X0_record
set_option maxRecDepth 20000 in
theorem ggX8_write_X7_writeOn : GoodIn wsX8_write wsX7_writeOn := goodIn_r _ [192, 157, 159, 193, 12, 13, 14, 15, 16, 194, 41, 42, 43, 44, 45, 46, 47, 48, 195, 137, 138, 139, 196, 197, 198, 199, 135, 200, 201, 202, 203, 208, 209, 210, 211, 212, 213, 214, 215, 216, 217, 218, 219, 225, 226] (by decide +kernel) (by decide +kernel)
set_option maxRecDepth 20000 in
theorem gX8_write_X7_writeOn : GoodIn wsX8_write (wsV RX8 222 RX7 yX7_writeOn wsX7_writeOn) := goodIn_app (goodIn_of _ (by decide +kernel)) ggX8_write_X7_writeOn
theorem dX8_write_0 : decode cX8_write 0 = .ok (.aload_n 0, 1) := by decide +kernel
theorem dX8_write_1 : decode cX8_write 1 = .ok (.getfield 12, 3) := by decide +kernel
theorem dX8_write_4 : decode cX8_write 4 = .ok (.iload_n 1, 1) := by decide +kernel
theorem dX8_write_5 : decode cX8_write 5 = .ok (.invokevirtual 76, 3) := by decide +kernel
theorem dX8_write_8 : decode cX8_write 8 = .ok (.astore_n 2, 1) := by decide +kernel
theorem dX8_write_9 : decode cX8_write 9 = .ok (.aload_n 2, 1) := by decide +kernel
theorem dX8_write_10 : decode cX8_write 10 = .ok (.ifnonnull 5, 3) := by decide +kernel
theorem dX8_write_13 : decode cX8_write 13 = .ok (.iconst (-1), 1) := by decide +kernel
theorem dX8_write_14 : decode cX8_write 14 = .ok (.ireturn, 1) := by decide +kernel
theorem dX8_write_15 : decode cX8_write 15 = .ok (.aload_n 2, 1) := by decide +kernel
theorem dX8_write_16 : decode cX8_write 16 = .ok (.getfield 80, 3) := by decide +kernel
theorem dX8_write_19 : decode cX8_write 19 = .ok (.ifCond .eq 6, 3) := by decide +kernel
theorem dX8_write_22 : decode cX8_write 22 = .ok (.bipush (-2), 2) := by decide +kernel
theorem dX8_write_24 : decode cX8_write 24 = .ok (.ireturn, 1) := by decide +kernel
theorem dX8_write_25 : decode cX8_write 25 = .ok (.aload_n 0, 1) := by decide +kernel
theorem dX8_write_26 : decode cX8_write 26 = .ok (.getfield 26, 3) := by decide +kernel
theorem dX8_write_29 : decode cX8_write 29 = .ok (.aload_n 2, 1) := by decide +kernel
theorem dX8_write_30 : decode cX8_write 30 = .ok (.getfield 96, 3) := by decide +kernel
theorem dX8_write_33 : decode cX8_write 33 = .ok (.aload_n 0, 1) := by decide +kernel
theorem dX8_write_34 : decode cX8_write 34 = .ok (.getfield 12, 3) := by decide +kernel
theorem dX8_write_37 : decode cX8_write 37 = .ok (.getfield 45, 3) := by decide +kernel
theorem dX8_write_40 : decode cX8_write 40 = .ok (.invokevirtual 49, 3) := by decide +kernel
theorem dX8_write_43 : decode cX8_write 43 = .ok (.invokevirtual 211, 3) := by decide +kernel
theorem dX8_write_46 : decode cX8_write 46 = .ok (.aload_n 0, 1) := by decide +kernel
theorem dX8_write_47 : decode cX8_write 47 = .ok (.getfield 26, 3) := by decide +kernel
theorem dX8_write_50 : decode cX8_write 50 = .ok (.getfield 215, 3) := by decide +kernel
theorem dX8_write_53 : decode cX8_write 53 = .ok (.ifCond .eq 6, 3) := by decide +kernel
theorem dX8_write_56 : decode cX8_write 56 = .ok (.bipush (-2), 2) := by decide +kernel
theorem dX8_write_58 : decode cX8_write 58 = .ok (.ireturn, 1) := by decide +kernel
theorem dX8_write_59 : decode cX8_write 59 = .ok (.aload_n 0, 1) := by decide +kernel
theorem dX8_write_60 : decode cX8_write 60 = .ok (.getfield 19, 3) := by decide +kernel
theorem dX8_write_63 : decode cX8_write 63 = .ok (.aload_n 0, 1) := by decide +kernel
theorem dX8_write_64 : decode cX8_write 64 = .ok (.getfield 12, 3) := by decide +kernel
theorem dX8_write_67 : decode cX8_write 67 = .ok (.invokevirtual 55, 3) := by decide +kernel
theorem dX8_write_70 : decode cX8_write 70 = .ok (.aload_n 0, 1) := by decide +kernel
theorem dX8_write_71 : decode cX8_write 71 = .ok (.getfield 12, 3) := by decide +kernel
theorem dX8_write_74 : decode cX8_write 74 = .ok (.aload_n 2, 1) := by decide +kernel
theorem dX8_write_75 : decode cX8_write 75 = .ok (.aload_n 0, 1) := by decide +kernel
theorem dX8_write_76 : decode cX8_write 76 = .ok (.getfield 26, 3) := by decide +kernel
theorem dX8_write_79 : decode cX8_write 79 = .ok (.getfield 221, 3) := by decide +kernel
theorem dX8_write_82 : decode cX8_write 82 = .ok (.invokevirtual 222, 3) := by decide +kernel
theorem dX8_write_85 : decode cX8_write 85 = .ok (.aload_n 0, 1) := by decide +kernel
theorem dX8_write_86 : decode cX8_write 86 = .ok (.getfield 26, 3) := by decide +kernel
theorem dX8_write_89 : decode cX8_write 89 = .ok (.getfield 221, 3) := by decide +kernel
theorem dX8_write_92 : decode cX8_write 92 = .ok (.invokevirtual 49, 3) := by decide +kernel
theorem dX8_write_95 : decode cX8_write 95 = .ok (.ireturn, 1) := by decide +kernel
set_option maxRecDepth 20000 in
theorem ggX8_putSheet_X0_record : GoodIn wsX8_putSheet wsX0_record := goodIn_r _ [7, 8, 9, 10, 11, 12, 6, 13, 14, 15, 16, 17, 18, 19, 20, 21, 22, 23, 24, 25, 26, 27, 28, 29, 30, 31, 32, 33, 34, 35, 36, 37, 38, 39, 40, 41, 42, 43, 44, 45, 46, 47, 48, 49, 50, 51, 52, 53, 54, 55, 56, 57, 58, 59, 60, 72, 73, 74, 75, 76, 77, 78, 79, 80, 81, 82, 83, 84, 85, 86, 87, 88, 69, 70, 71] (by decide +kernel) (by decide +kernel)
set_option maxRecDepth 20000 in
theorem gX8_putSheet_X0_record : GoodIn wsX8_putSheet (wsV RX8 55 RX0 yX0_record wsX0_record) := goodIn_app (goodIn_of _ (by decide +kernel)) ggX8_putSheet_X0_record
set_option maxRecDepth 20000 in
theorem ggX8_putSheet_X5_used : GoodIn wsX8_putSheet wsX5_used := goodIn_r _ [64, 32, 83, 84] (by decide +kernel) (by decide +kernel)
set_option maxRecDepth 20000 in
theorem gX8_putSheet_X5_used : GoodIn wsX8_putSheet (wsV RX8 49 RX5 yX5_used wsX5_used) := goodIn_app (goodIn_of _ (by decide +kernel)) ggX8_putSheet_X5_used
theorem dX8_putSheet_0 : decode cX8_putSheet 0 = .ok (.aload_n 0, 1) := by decide +kernel
theorem dX8_putSheet_1 : decode cX8_putSheet 1 = .ok (.getfield 19, 3) := by decide +kernel
theorem dX8_putSheet_4 : decode cX8_putSheet 4 = .ok (.aload_n 0, 1) := by decide +kernel
theorem dX8_putSheet_5 : decode cX8_putSheet 5 = .ok (.getfield 12, 3) := by decide +kernel
theorem dX8_putSheet_8 : decode cX8_putSheet 8 = .ok (.invokevirtual 55, 3) := by decide +kernel
theorem dX8_putSheet_11 : decode cX8_putSheet 11 = .ok (.aload_n 1, 1) := by decide +kernel
theorem dX8_putSheet_12 : decode cX8_putSheet 12 = .ok (.iload_n 2, 1) := by decide +kernel
theorem dX8_putSheet_13 : decode cX8_putSheet 13 = .ok (.putfield 80, 3) := by decide +kernel
theorem dX8_putSheet_16 : decode cX8_putSheet 16 = .ok (.aload_n 1, 1) := by decide +kernel
theorem dX8_putSheet_17 : decode cX8_putSheet 17 = .ok (.getfield 96, 3) := by decide +kernel
theorem dX8_putSheet_20 : decode cX8_putSheet 20 = .ok (.invokevirtual 49, 3) := by decide +kernel
theorem dX8_putSheet_23 : decode cX8_putSheet 23 = .ok (.ireturn, 1) := by decide +kernel
set_option maxRecDepth 20000 in
theorem ggX8_characterIn_X5_used : GoodIn wsX8_characterIn wsX5_used := goodIn_r _ [5, 6, 16, 17] (by decide +kernel) (by decide +kernel)
set_option maxRecDepth 20000 in
theorem gX8_characterIn_X5_used : GoodIn wsX8_characterIn (wsV RX8 49 RX5 yX5_used wsX5_used) := goodIn_app (goodIn_of _ (by decide +kernel)) ggX8_characterIn_X5_used
set_option maxRecDepth 20000 in
theorem ggX8_characterIn_X5_get : GoodIn wsX8_characterIn wsX5_get := goodIn_r _ [10, 11, 12, 13, 14, 4, 15, 6, 16, 17] (by decide +kernel) (by decide +kernel)
set_option maxRecDepth 20000 in
theorem gX8_characterIn_X5_get : GoodIn wsX8_characterIn (wsV RX8 116 RX5 yX5_get wsX5_get) := goodIn_app (goodIn_of _ (by decide +kernel)) ggX8_characterIn_X5_get
theorem dX8_characterIn_0 : decode cX8_characterIn 0 = .ok (.iload_n 1, 1) := by decide +kernel
theorem dX8_characterIn_1 : decode cX8_characterIn 1 = .ok (.ifCond .ge 5, 3) := by decide +kernel
theorem dX8_characterIn_4 : decode cX8_characterIn 4 = .ok (.iconst (-1), 1) := by decide +kernel
theorem dX8_characterIn_5 : decode cX8_characterIn 5 = .ok (.ireturn, 1) := by decide +kernel
theorem dX8_characterIn_6 : decode cX8_characterIn 6 = .ok (.iload_n 1, 1) := by decide +kernel
theorem dX8_characterIn_7 : decode cX8_characterIn 7 = .ok (.aload_n 0, 1) := by decide +kernel
theorem dX8_characterIn_8 : decode cX8_characterIn 8 = .ok (.invokevirtual 49, 3) := by decide +kernel
theorem dX8_characterIn_11 : decode cX8_characterIn 11 = .ok (.if_icmp .ge 11, 3) := by decide +kernel
theorem dX8_characterIn_14 : decode cX8_characterIn 14 = .ok (.aload_n 0, 1) := by decide +kernel
theorem dX8_characterIn_15 : decode cX8_characterIn 15 = .ok (.iload_n 1, 1) := by decide +kernel
theorem dX8_characterIn_16 : decode cX8_characterIn 16 = .ok (.invokevirtual 116, 3) := by decide +kernel
theorem dX8_characterIn_19 : decode cX8_characterIn 19 = .ok (.goto 5, 3) := by decide +kernel
theorem dX8_characterIn_22 : decode cX8_characterIn 22 = .ok (.bipush (-4), 2) := by decide +kernel
theorem dX8_characterIn_24 : decode cX8_characterIn 24 = .ok (.ireturn, 1) := by decide +kernel
set_option maxRecDepth 20000 in
theorem ggX8_isNoCharacter_X8_isOutside : GoodIn wsX8_isNoCharacter wsX8_isOutside := goodIn_r _ [4] (by decide +kernel) (by decide +kernel)
set_option maxRecDepth 20000 in
theorem gX8_isNoCharacter_X8_isOutside : GoodIn wsX8_isNoCharacter (va_wsS RX8 112 yX8_isOutside wsX8_isOutside) := goodIn_app (goodIn_of _ (by decide +kernel)) ggX8_isNoCharacter_X8_isOutside
theorem dX8_isNoCharacter_0 : decode cX8_isNoCharacter 0 = .ok (.iload_n 0, 1) := by decide +kernel
theorem dX8_isNoCharacter_1 : decode cX8_isNoCharacter 1 = .ok (.bipush 32, 2) := by decide +kernel
theorem dX8_isNoCharacter_3 : decode cX8_isNoCharacter 3 = .ok (.bipush 126, 2) := by decide +kernel
theorem dX8_isNoCharacter_5 : decode cX8_isNoCharacter 5 = .ok (.invokestatic 112, 3) := by decide +kernel
theorem dX8_isNoCharacter_8 : decode cX8_isNoCharacter 8 = .ok (.ireturn, 1) := by decide +kernel
set_option maxRecDepth 20000 in
theorem ggX8_isNoReader_X8_isOutside : GoodIn wsX8_isNoReader wsX8_isOutside := goodIn_r _ [4] (by decide +kernel) (by decide +kernel)
set_option maxRecDepth 20000 in
theorem gX8_isNoReader_X8_isOutside : GoodIn wsX8_isNoReader (va_wsS RX8 112 yX8_isOutside wsX8_isOutside) := goodIn_app (goodIn_of _ (by decide +kernel)) ggX8_isNoReader_X8_isOutside
theorem dX8_isNoReader_0 : decode cX8_isNoReader 0 = .ok (.iload_n 0, 1) := by decide +kernel
theorem dX8_isNoReader_1 : decode cX8_isNoReader 1 = .ok (.iconst 0, 1) := by decide +kernel
theorem dX8_isNoReader_2 : decode cX8_isNoReader 2 = .ok (.iconst 5, 1) := by decide +kernel
theorem dX8_isNoReader_3 : decode cX8_isNoReader 3 = .ok (.invokestatic 112, 3) := by decide +kernel
theorem dX8_isNoReader_6 : decode cX8_isNoReader 6 = .ok (.ireturn, 1) := by decide +kernel
