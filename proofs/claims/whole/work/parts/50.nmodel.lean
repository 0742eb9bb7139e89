theorem dX9_init_0 : decode cX9_init 0 = .ok (.aload_n 0, 1) := by decide +kernel
theorem dX9_init_1 : decode cX9_init 1 = .ok (.invokespecial 1, 3) := by decide +kernel
theorem dX9_init_4 : decode cX9_init 4 = .ok (.aload_n 0, 1) := by decide +kernel
theorem dX9_init_5 : decode cX9_init 5 = .ok (.sipush 855, 3) := by decide +kernel
theorem dX9_init_8 : decode cX9_init 8 = .ok (.newarray .int, 2) := by decide +kernel
theorem dX9_init_10 : decode cX9_init 10 = .ok (.putfield 7, 3) := by decide +kernel
theorem dX9_init_13 : decode cX9_init 13 = .ok (.aload_n 0, 1) := by decide +kernel
theorem dX9_init_14 : decode cX9_init 14 = .ok (.sipush 3420, 3) := by decide +kernel
theorem dX9_init_17 : decode cX9_init 17 = .ok (.newarray .int, 2) := by decide +kernel
theorem dX9_init_19 : decode cX9_init 19 = .ok (.putfield 13, 3) := by decide +kernel
theorem dX9_init_22 : decode cX9_init 22 = .ok (.aload_n 0, 1) := by decide +kernel
theorem dX9_init_23 : decode cX9_init 23 = .ok (.bipush 80, 2) := by decide +kernel
theorem dX9_init_25 : decode cX9_init 25 = .ok (.newarray .int, 2) := by decide +kernel
theorem dX9_init_27 : decode cX9_init 27 = .ok (.putfield 16, 3) := by decide +kernel
theorem dX9_init_30 : decode cX9_init 30 = .ok (.aload_n 0, 1) := by decide +kernel
theorem dX9_init_31 : decode cX9_init 31 = .ok (.sipush 170, 3) := by decide +kernel
theorem dX9_init_34 : decode cX9_init 34 = .ok (.newarray .int, 2) := by decide +kernel
theorem dX9_init_36 : decode cX9_init 36 = .ok (.putfield 19, 3) := by decide +kernel
theorem dX9_init_39 : decode cX9_init 39 = .ok (.aload_n 0, 1) := by decide +kernel
theorem dX9_init_40 : decode cX9_init 40 = .ok (.bipush 36, 2) := by decide +kernel
theorem dX9_init_42 : decode cX9_init 42 = .ok (.newarray .int, 2) := by decide +kernel
theorem dX9_init_44 : decode cX9_init 44 = .ok (.putfield 22, 3) := by decide +kernel
theorem dX9_init_47 : decode cX9_init 47 = .ok (.return_, 1) := by decide +kernel
theorem dX9_in_0 : decode cX9_in 0 = .ok (.iload_n 0, 1) := by decide +kernel
theorem dX9_in_1 : decode cX9_in 1 = .ok (.iload_n 1, 1) := by decide +kernel
theorem dX9_in_2 : decode cX9_in 2 = .ok (.if_icmp .lt 12, 3) := by decide +kernel
theorem dX9_in_5 : decode cX9_in 5 = .ok (.iload_n 0, 1) := by decide +kernel
theorem dX9_in_6 : decode cX9_in 6 = .ok (.iload_n 2, 1) := by decide +kernel
theorem dX9_in_7 : decode cX9_in 7 = .ok (.if_icmp .gt 7, 3) := by decide +kernel
theorem dX9_in_10 : decode cX9_in 10 = .ok (.iconst 1, 1) := by decide +kernel
theorem dX9_in_11 : decode cX9_in 11 = .ok (.goto 4, 3) := by decide +kernel
theorem dX9_in_14 : decode cX9_in 14 = .ok (.iconst 0, 1) := by decide +kernel
theorem dX9_in_15 : decode cX9_in 15 = .ok (.ireturn, 1) := by decide +kernel
theorem dX9_records_0 : decode cX9_records 0 = .ok (.aload_n 0, 1) := by decide +kernel
theorem dX9_records_1 : decode cX9_records 1 = .ok (.getfield 25, 3) := by decide +kernel
theorem dX9_records_4 : decode cX9_records 4 = .ok (.iconst 4, 1) := by decide +kernel
theorem dX9_records_5 : decode cX9_records 5 = .ok (.if_icmp .ne 44, 3) := by decide +kernel
theorem dX9_records_8 : decode cX9_records 8 = .ok (.iconst 0, 1) := by decide +kernel
theorem dX9_records_9 : decode cX9_records 9 = .ok (.istore_n 1, 1) := by decide +kernel
theorem dX9_records_10 : decode cX9_records 10 = .ok (.iload_n 1, 1) := by decide +kernel
theorem dX9_records_11 : decode cX9_records 11 = .ok (.sipush 2565, 3) := by decide +kernel
theorem dX9_records_14 : decode cX9_records 14 = .ok (.if_icmp .ge 25, 3) := by decide +kernel
theorem dX9_records_17 : decode cX9_records 17 = .ok (.aload_n 0, 1) := by decide +kernel
theorem dX9_records_18 : decode cX9_records 18 = .ok (.getfield 13, 3) := by decide +kernel
theorem dX9_records_21 : decode cX9_records 21 = .ok (.iload_n 1, 1) := by decide +kernel
theorem dX9_records_22 : decode cX9_records 22 = .ok (.aload_n 0, 1) := by decide +kernel
theorem dX9_records_23 : decode cX9_records 23 = .ok (.getfield 13, 3) := by decide +kernel
theorem dX9_records_26 : decode cX9_records 26 = .ok (.iload_n 1, 1) := by decide +kernel
theorem dX9_records_27 : decode cX9_records 27 = .ok (.sipush 855, 3) := by decide +kernel
theorem dX9_records_30 : decode cX9_records 30 = .ok (.iadd, 1) := by decide +kernel
theorem dX9_records_31 : decode cX9_records 31 = .ok (.iaload, 1) := by decide +kernel
theorem dX9_records_32 : decode cX9_records 32 = .ok (.iastore, 1) := by decide +kernel
theorem dX9_records_33 : decode cX9_records 33 = .ok (.iinc 1 1, 3) := by decide +kernel
theorem dX9_records_36 : decode cX9_records 36 = .ok (.goto (-26), 3) := by decide +kernel
theorem dX9_records_39 : decode cX9_records 39 = .ok (.aload_n 0, 1) := by decide +kernel
theorem dX9_records_40 : decode cX9_records 40 = .ok (.dup, 1) := by decide +kernel
theorem dX9_records_41 : decode cX9_records 41 = .ok (.getfield 25, 3) := by decide +kernel
theorem dX9_records_44 : decode cX9_records 44 = .ok (.iconst 1, 1) := by decide +kernel
theorem dX9_records_45 : decode cX9_records 45 = .ok (.isub, 1) := by decide +kernel
theorem dX9_records_46 : decode cX9_records 46 = .ok (.putfield 25, 3) := by decide +kernel
theorem dX9_records_49 : decode cX9_records 49 = .ok (.iconst 0, 1) := by decide +kernel
theorem dX9_records_50 : decode cX9_records 50 = .ok (.istore_n 1, 1) := by decide +kernel
theorem dX9_records_51 : decode cX9_records 51 = .ok (.iload_n 1, 1) := by decide +kernel
theorem dX9_records_52 : decode cX9_records 52 = .ok (.sipush 855, 3) := by decide +kernel
theorem dX9_records_55 : decode cX9_records 55 = .ok (.if_icmp .ge 30, 3) := by decide +kernel
theorem dX9_records_58 : decode cX9_records 58 = .ok (.aload_n 0, 1) := by decide +kernel
theorem dX9_records_59 : decode cX9_records 59 = .ok (.getfield 13, 3) := by decide +kernel
theorem dX9_records_62 : decode cX9_records 62 = .ok (.sipush 855, 3) := by decide +kernel
theorem dX9_records_65 : decode cX9_records 65 = .ok (.aload_n 0, 1) := by decide +kernel
theorem dX9_records_66 : decode cX9_records 66 = .ok (.getfield 25, 3) := by decide +kernel
theorem dX9_records_69 : decode cX9_records 69 = .ok (.imul, 1) := by decide +kernel
theorem dX9_records_70 : decode cX9_records 70 = .ok (.iload_n 1, 1) := by decide +kernel
theorem dX9_records_71 : decode cX9_records 71 = .ok (.iadd, 1) := by decide +kernel
theorem dX9_records_72 : decode cX9_records 72 = .ok (.aload_n 0, 1) := by decide +kernel
theorem dX9_records_73 : decode cX9_records 73 = .ok (.getfield 7, 3) := by decide +kernel
theorem dX9_records_76 : decode cX9_records 76 = .ok (.iload_n 1, 1) := by decide +kernel
theorem dX9_records_77 : decode cX9_records 77 = .ok (.iaload, 1) := by decide +kernel
theorem dX9_records_78 : decode cX9_records 78 = .ok (.iastore, 1) := by decide +kernel
theorem dX9_records_79 : decode cX9_records 79 = .ok (.iinc 1 1, 3) := by decide +kernel
theorem dX9_records_82 : decode cX9_records 82 = .ok (.goto (-31), 3) := by decide +kernel
theorem dX9_records_85 : decode cX9_records 85 = .ok (.aload_n 0, 1) := by decide +kernel
theorem dX9_records_86 : decode cX9_records 86 = .ok (.dup, 1) := by decide +kernel
theorem dX9_records_87 : decode cX9_records 87 = .ok (.getfield 25, 3) := by decide +kernel
theorem dX9_records_90 : decode cX9_records 90 = .ok (.iconst 1, 1) := by decide +kernel
theorem dX9_records_91 : decode cX9_records 91 = .ok (.iadd, 1) := by decide +kernel
theorem dX9_records_92 : decode cX9_records 92 = .ok (.putfield 25, 3) := by decide +kernel
theorem dX9_records_95 : decode cX9_records 95 = .ok (.return_, 1) := by decide +kernel
theorem dX9_undo_0 : decode cX9_undo 0 = .ok (.aload_n 0, 1) := by decide +kernel
theorem dX9_undo_1 : decode cX9_undo 1 = .ok (.getfield 25, 3) := by decide +kernel
theorem dX9_undo_4 : decode cX9_undo 4 = .ok (.ifCond .ne 6, 3) := by decide +kernel
theorem dX9_undo_7 : decode cX9_undo 7 = .ok (.bipush (-2), 2) := by decide +kernel
theorem dX9_undo_9 : decode cX9_undo 9 = .ok (.ireturn, 1) := by decide +kernel
theorem dX9_undo_10 : decode cX9_undo 10 = .ok (.aload_n 0, 1) := by decide +kernel
theorem dX9_undo_11 : decode cX9_undo 11 = .ok (.dup, 1) := by decide +kernel
theorem dX9_undo_12 : decode cX9_undo 12 = .ok (.getfield 25, 3) := by decide +kernel
theorem dX9_undo_15 : decode cX9_undo 15 = .ok (.iconst 1, 1) := by decide +kernel
theorem dX9_undo_16 : decode cX9_undo 16 = .ok (.isub, 1) := by decide +kernel
theorem dX9_undo_17 : decode cX9_undo 17 = .ok (.putfield 25, 3) := by decide +kernel
theorem dX9_undo_20 : decode cX9_undo 20 = .ok (.iconst 0, 1) := by decide +kernel
theorem dX9_undo_21 : decode cX9_undo 21 = .ok (.istore_n 1, 1) := by decide +kernel
theorem dX9_undo_22 : decode cX9_undo 22 = .ok (.iload_n 1, 1) := by decide +kernel
theorem dX9_undo_23 : decode cX9_undo 23 = .ok (.sipush 855, 3) := by decide +kernel
theorem dX9_undo_26 : decode cX9_undo 26 = .ok (.if_icmp .ge 30, 3) := by decide +kernel
theorem dX9_undo_29 : decode cX9_undo 29 = .ok (.aload_n 0, 1) := by decide +kernel
theorem dX9_undo_30 : decode cX9_undo 30 = .ok (.getfield 7, 3) := by decide +kernel
theorem dX9_undo_33 : decode cX9_undo 33 = .ok (.iload_n 1, 1) := by decide +kernel
theorem dX9_undo_34 : decode cX9_undo 34 = .ok (.aload_n 0, 1) := by decide +kernel
theorem dX9_undo_35 : decode cX9_undo 35 = .ok (.getfield 13, 3) := by decide +kernel
theorem dX9_undo_38 : decode cX9_undo 38 = .ok (.sipush 855, 3) := by decide +kernel
theorem dX9_undo_41 : decode cX9_undo 41 = .ok (.aload_n 0, 1) := by decide +kernel
theorem dX9_undo_42 : decode cX9_undo 42 = .ok (.getfield 25, 3) := by decide +kernel
theorem dX9_undo_45 : decode cX9_undo 45 = .ok (.imul, 1) := by decide +kernel
theorem dX9_undo_46 : decode cX9_undo 46 = .ok (.iload_n 1, 1) := by decide +kernel
theorem dX9_undo_47 : decode cX9_undo 47 = .ok (.iadd, 1) := by decide +kernel
theorem dX9_undo_48 : decode cX9_undo 48 = .ok (.iaload, 1) := by decide +kernel
theorem dX9_undo_49 : decode cX9_undo 49 = .ok (.iastore, 1) := by decide +kernel
theorem dX9_undo_50 : decode cX9_undo 50 = .ok (.iinc 1 1, 3) := by decide +kernel
theorem dX9_undo_53 : decode cX9_undo 53 = .ok (.goto (-31), 3) := by decide +kernel
theorem dX9_undo_56 : decode cX9_undo 56 = .ok (.aload_n 0, 1) := by decide +kernel
theorem dX9_undo_57 : decode cX9_undo 57 = .ok (.getfield 25, 3) := by decide +kernel
theorem dX9_undo_60 : decode cX9_undo 60 = .ok (.ireturn, 1) := by decide +kernel
set_option maxRecDepth 20000 in
theorem ggX9_put_X9_in : GoodIn wsX9_put wsX9_in := goodIn_r _ [5] (by decide +kernel) (by decide +kernel)
set_option maxRecDepth 20000 in
theorem gX9_put_X9_in : GoodIn wsX9_put (va_wsS RX9 29 yX9_in wsX9_in) := goodIn_app (goodIn_of _ (by decide +kernel)) ggX9_put_X9_in
set_option maxRecDepth 20000 in
theorem ggX9_put_X9_records : GoodIn wsX9_put wsX9_records := goodIn_r _ [9, 10, 11, 1, 12, 13, 14, 15, 16, 17, 18, 19, 20, 21, 22] (by decide +kernel) (by decide +kernel)
set_option maxRecDepth 20000 in
theorem gX9_put_X9_records : GoodIn wsX9_put (wsV RX9 33 RX9 yX9_records wsX9_records) := goodIn_app (goodIn_of _ (by decide +kernel)) ggX9_put_X9_records
theorem dX9_put_0 : decode cX9_put 0 = .ok (.iload_n 1, 1) := by decide +kernel
theorem dX9_put_1 : decode cX9_put 1 = .ok (.bipush 32, 2) := by decide +kernel
theorem dX9_put_3 : decode cX9_put 3 = .ok (.bipush 126, 2) := by decide +kernel
theorem dX9_put_5 : decode cX9_put 5 = .ok (.invokestatic 29, 3) := by decide +kernel
theorem dX9_put_8 : decode cX9_put 8 = .ok (.ifCond .ne 5, 3) := by decide +kernel
theorem dX9_put_11 : decode cX9_put 11 = .ok (.iconst (-1), 1) := by decide +kernel
theorem dX9_put_12 : decode cX9_put 12 = .ok (.ireturn, 1) := by decide +kernel
theorem dX9_put_13 : decode cX9_put 13 = .ok (.aload_n 0, 1) := by decide +kernel
theorem dX9_put_14 : decode cX9_put 14 = .ok (.getfield 7, 3) := by decide +kernel
theorem dX9_put_17 : decode cX9_put 17 = .ok (.iconst 1, 1) := by decide +kernel
theorem dX9_put_18 : decode cX9_put 18 = .ok (.iaload, 1) := by decide +kernel
theorem dX9_put_19 : decode cX9_put 19 = .ok (.ifCond .eq 6, 3) := by decide +kernel
theorem dX9_put_22 : decode cX9_put 22 = .ok (.bipush (-2), 2) := by decide +kernel
theorem dX9_put_24 : decode cX9_put 24 = .ok (.ireturn, 1) := by decide +kernel
theorem dX9_put_25 : decode cX9_put 25 = .ok (.aload_n 0, 1) := by decide +kernel
theorem dX9_put_26 : decode cX9_put 26 = .ok (.getfield 7, 3) := by decide +kernel
theorem dX9_put_29 : decode cX9_put 29 = .ok (.iconst 0, 1) := by decide +kernel
theorem dX9_put_30 : decode cX9_put 30 = .ok (.iaload, 1) := by decide +kernel
theorem dX9_put_31 : decode cX9_put 31 = .ok (.bipush 100, 2) := by decide +kernel
theorem dX9_put_33 : decode cX9_put 33 = .ok (.if_icmp .ne 6, 3) := by decide +kernel
theorem dX9_put_36 : decode cX9_put 36 = .ok (.bipush (-3), 2) := by decide +kernel
theorem dX9_put_38 : decode cX9_put 38 = .ok (.ireturn, 1) := by decide +kernel
theorem dX9_put_39 : decode cX9_put 39 = .ok (.aload_n 0, 1) := by decide +kernel
theorem dX9_put_40 : decode cX9_put 40 = .ok (.invokevirtual 33, 3) := by decide +kernel
theorem dX9_put_43 : decode cX9_put 43 = .ok (.aload_n 0, 1) := by decide +kernel
theorem dX9_put_44 : decode cX9_put 44 = .ok (.getfield 7, 3) := by decide +kernel
theorem dX9_put_47 : decode cX9_put 47 = .ok (.bipush 27, 2) := by decide +kernel
theorem dX9_put_49 : decode cX9_put 49 = .ok (.aload_n 0, 1) := by decide +kernel
theorem dX9_put_50 : decode cX9_put 50 = .ok (.getfield 7, 3) := by decide +kernel
theorem dX9_put_53 : decode cX9_put 53 = .ok (.iconst 0, 1) := by decide +kernel
theorem dX9_put_54 : decode cX9_put 54 = .ok (.iaload, 1) := by decide +kernel
theorem dX9_put_55 : decode cX9_put 55 = .ok (.iadd, 1) := by decide +kernel
theorem dX9_put_56 : decode cX9_put 56 = .ok (.iload_n 1, 1) := by decide +kernel
theorem dX9_put_57 : decode cX9_put 57 = .ok (.iastore, 1) := by decide +kernel
theorem dX9_put_58 : decode cX9_put 58 = .ok (.aload_n 0, 1) := by decide +kernel
theorem dX9_put_59 : decode cX9_put 59 = .ok (.getfield 7, 3) := by decide +kernel
theorem dX9_put_62 : decode cX9_put 62 = .ok (.iconst 0, 1) := by decide +kernel
theorem dX9_put_63 : decode cX9_put 63 = .ok (.dup2, 1) := by decide +kernel
theorem dX9_put_64 : decode cX9_put 64 = .ok (.iaload, 1) := by decide +kernel
theorem dX9_put_65 : decode cX9_put 65 = .ok (.iconst 1, 1) := by decide +kernel
theorem dX9_put_66 : decode cX9_put 66 = .ok (.iadd, 1) := by decide +kernel
theorem dX9_put_67 : decode cX9_put 67 = .ok (.iastore, 1) := by decide +kernel
theorem dX9_put_68 : decode cX9_put 68 = .ok (.aload_n 0, 1) := by decide +kernel
theorem dX9_put_69 : decode cX9_put 69 = .ok (.getfield 7, 3) := by decide +kernel
theorem dX9_put_72 : decode cX9_put 72 = .ok (.iconst 0, 1) := by decide +kernel
theorem dX9_put_73 : decode cX9_put 73 = .ok (.iaload, 1) := by decide +kernel
theorem dX9_put_74 : decode cX9_put 74 = .ok (.ireturn, 1) := by decide +kernel
set_option maxRecDepth 20000 in
theorem ggX9_begin_X9_records : GoodIn wsX9_begin wsX9_records := goodIn_r _ [6, 7, 8, 1, 9, 10, 11, 12, 13, 14, 15, 16, 17, 18, 19] (by decide +kernel) (by decide +kernel)
set_option maxRecDepth 20000 in
theorem gX9_begin_X9_records : GoodIn wsX9_begin (wsV RX9 33 RX9 yX9_records wsX9_records) := goodIn_app (goodIn_of _ (by decide +kernel)) ggX9_begin_X9_records
theorem dX9_begin_0 : decode cX9_begin 0 = .ok (.aload_n 0, 1) := by decide +kernel
theorem dX9_begin_1 : decode cX9_begin 1 = .ok (.getfield 7, 3) := by decide +kernel
theorem dX9_begin_4 : decode cX9_begin 4 = .ok (.iconst 1, 1) := by decide +kernel
theorem dX9_begin_5 : decode cX9_begin 5 = .ok (.iaload, 1) := by decide +kernel
theorem dX9_begin_6 : decode cX9_begin 6 = .ok (.ifCond .ne 12, 3) := by decide +kernel
theorem dX9_begin_9 : decode cX9_begin 9 = .ok (.aload_n 0, 1) := by decide +kernel
theorem dX9_begin_10 : decode cX9_begin 10 = .ok (.getfield 7, 3) := by decide +kernel
theorem dX9_begin_13 : decode cX9_begin 13 = .ok (.iconst 0, 1) := by decide +kernel
theorem dX9_begin_14 : decode cX9_begin 14 = .ok (.iaload, 1) := by decide +kernel
theorem dX9_begin_15 : decode cX9_begin 15 = .ok (.ifCond .ne 6, 3) := by decide +kernel
theorem dX9_begin_18 : decode cX9_begin 18 = .ok (.bipush (-2), 2) := by decide +kernel
theorem dX9_begin_20 : decode cX9_begin 20 = .ok (.ireturn, 1) := by decide +kernel
theorem dX9_begin_21 : decode cX9_begin 21 = .ok (.aload_n 0, 1) := by decide +kernel
theorem dX9_begin_22 : decode cX9_begin 22 = .ok (.invokevirtual 33, 3) := by decide +kernel
theorem dX9_begin_25 : decode cX9_begin 25 = .ok (.aload_n 0, 1) := by decide +kernel
theorem dX9_begin_26 : decode cX9_begin 26 = .ok (.getfield 7, 3) := by decide +kernel
theorem dX9_begin_29 : decode cX9_begin 29 = .ok (.iconst 1, 1) := by decide +kernel
theorem dX9_begin_30 : decode cX9_begin 30 = .ok (.iconst 1, 1) := by decide +kernel
theorem dX9_begin_31 : decode cX9_begin 31 = .ok (.iastore, 1) := by decide +kernel
theorem dX9_begin_32 : decode cX9_begin 32 = .ok (.aload_n 0, 1) := by decide +kernel
theorem dX9_begin_33 : decode cX9_begin 33 = .ok (.getfield 7, 3) := by decide +kernel
theorem dX9_begin_36 : decode cX9_begin 36 = .ok (.iconst 0, 1) := by decide +kernel
theorem dX9_begin_37 : decode cX9_begin 37 = .ok (.iaload, 1) := by decide +kernel
theorem dX9_begin_38 : decode cX9_begin 38 = .ok (.ireturn, 1) := by decide +kernel
theorem dX9_sheetAt_0 : decode cX9_sheetAt 0 = .ok (.bipush 127, 2) := by decide +kernel
theorem dX9_sheetAt_2 : decode cX9_sheetAt 2 = .ok (.bipush 35, 2) := by decide +kernel
theorem dX9_sheetAt_4 : decode cX9_sheetAt 4 = .ok (.iload_n 0, 1) := by decide +kernel
theorem dX9_sheetAt_5 : decode cX9_sheetAt 5 = .ok (.imul, 1) := by decide +kernel
theorem dX9_sheetAt_6 : decode cX9_sheetAt 6 = .ok (.iadd, 1) := by decide +kernel
theorem dX9_sheetAt_7 : decode cX9_sheetAt 7 = .ok (.ireturn, 1) := by decide +kernel
theorem dX9_of_0 : decode cX9_of 0 = .ok (.aload_n 0, 1) := by decide +kernel
theorem dX9_of_1 : decode cX9_of 1 = .ok (.getfield 7, 3) := by decide +kernel
theorem dX9_of_4 : decode cX9_of 4 = .ok (.bipush 127, 2) := by decide +kernel
theorem dX9_of_6 : decode cX9_of 6 = .ok (.bipush 35, 2) := by decide +kernel
theorem dX9_of_8 : decode cX9_of 8 = .ok (.iload_n 1, 1) := by decide +kernel
theorem dX9_of_9 : decode cX9_of 9 = .ok (.imul, 1) := by decide +kernel
theorem dX9_of_10 : decode cX9_of 10 = .ok (.iadd, 1) := by decide +kernel
theorem dX9_of_11 : decode cX9_of 11 = .ok (.iload_n 2, 1) := by decide +kernel
theorem dX9_of_12 : decode cX9_of 12 = .ok (.iadd, 1) := by decide +kernel
theorem dX9_of_13 : decode cX9_of 13 = .ok (.iaload, 1) := by decide +kernel
theorem dX9_of_14 : decode cX9_of 14 = .ok (.ireturn, 1) := by decide +kernel
set_option maxRecDepth 20000 in
theorem ggX9_isSheet_X9_in : GoodIn wsX9_isSheet wsX9_in := goodIn_r _ [5] (by decide +kernel) (by decide +kernel)
set_option maxRecDepth 20000 in
theorem gX9_isSheet_X9_in : GoodIn wsX9_isSheet (va_wsS RX9 29 yX9_in wsX9_in) := goodIn_app (goodIn_of _ (by decide +kernel)) ggX9_isSheet_X9_in
theorem dX9_isSheet_0 : decode cX9_isSheet 0 = .ok (.iload_n 1, 1) := by decide +kernel
theorem dX9_isSheet_1 : decode cX9_isSheet 1 = .ok (.iconst 0, 1) := by decide +kernel
theorem dX9_isSheet_2 : decode cX9_isSheet 2 = .ok (.aload_n 0, 1) := by decide +kernel
theorem dX9_isSheet_3 : decode cX9_isSheet 3 = .ok (.getfield 7, 3) := by decide +kernel
theorem dX9_isSheet_6 : decode cX9_isSheet 6 = .ok (.iconst 2, 1) := by decide +kernel
theorem dX9_isSheet_7 : decode cX9_isSheet 7 = .ok (.iaload, 1) := by decide +kernel
theorem dX9_isSheet_8 : decode cX9_isSheet 8 = .ok (.iconst 1, 1) := by decide +kernel
theorem dX9_isSheet_9 : decode cX9_isSheet 9 = .ok (.isub, 1) := by decide +kernel
theorem dX9_isSheet_10 : decode cX9_isSheet 10 = .ok (.invokestatic 29, 3) := by decide +kernel
theorem dX9_isSheet_13 : decode cX9_isSheet 13 = .ok (.ireturn, 1) := by decide +kernel
theorem dX9_markOf_0 : decode cX9_markOf 0 = .ok (.bipush 127, 2) := by decide +kernel
theorem dX9_markOf_2 : decode cX9_markOf 2 = .ok (.bipush 35, 2) := by decide +kernel
theorem dX9_markOf_4 : decode cX9_markOf 4 = .ok (.iload_n 0, 1) := by decide +kernel
theorem dX9_markOf_5 : decode cX9_markOf 5 = .ok (.imul, 1) := by decide +kernel
theorem dX9_markOf_6 : decode cX9_markOf 6 = .ok (.iadd, 1) := by decide +kernel
theorem dX9_markOf_7 : decode cX9_markOf 7 = .ok (.iconst 3, 1) := by decide +kernel
theorem dX9_markOf_8 : decode cX9_markOf 8 = .ok (.iadd, 1) := by decide +kernel
theorem dX9_markOf_9 : decode cX9_markOf 9 = .ok (.iconst 4, 1) := by decide +kernel
theorem dX9_markOf_10 : decode cX9_markOf 10 = .ok (.iload_n 1, 1) := by decide +kernel
theorem dX9_markOf_11 : decode cX9_markOf 11 = .ok (.imul, 1) := by decide +kernel
theorem dX9_markOf_12 : decode cX9_markOf 12 = .ok (.iadd, 1) := by decide +kernel
theorem dX9_markOf_13 : decode cX9_markOf 13 = .ok (.ireturn, 1) := by decide +kernel
theorem dX9_listed_0 : decode cX9_listed 0 = .ok (.sipush 407, 3) := by decide +kernel
theorem dX9_listed_3 : decode cX9_listed 3 = .ok (.bipush 7, 2) := by decide +kernel
theorem dX9_listed_5 : decode cX9_listed 5 = .ok (.iload_n 0, 1) := by decide +kernel
theorem dX9_listed_6 : decode cX9_listed 6 = .ok (.imul, 1) := by decide +kernel
theorem dX9_listed_7 : decode cX9_listed 7 = .ok (.iadd, 1) := by decide +kernel
theorem dX9_listed_8 : decode cX9_listed 8 = .ok (.ireturn, 1) := by decide +kernel
set_option maxRecDepth 20000 in
theorem ggX9_isMark_X9_in : GoodIn wsX9_isMark wsX9_in := goodIn_r _ [5] (by decide +kernel) (by decide +kernel)
set_option maxRecDepth 20000 in
theorem gX9_isMark_X9_in : GoodIn wsX9_isMark (va_wsS RX9 29 yX9_in wsX9_in) := goodIn_app (goodIn_of _ (by decide +kernel)) ggX9_isMark_X9_in
theorem dX9_isMark_0 : decode cX9_isMark 0 = .ok (.iload_n 1, 1) := by decide +kernel
theorem dX9_isMark_1 : decode cX9_isMark 1 = .ok (.iconst 0, 1) := by decide +kernel
theorem dX9_isMark_2 : decode cX9_isMark 2 = .ok (.aload_n 0, 1) := by decide +kernel
theorem dX9_isMark_3 : decode cX9_isMark 3 = .ok (.getfield 7, 3) := by decide +kernel
theorem dX9_isMark_6 : decode cX9_isMark 6 = .ok (.iconst 3, 1) := by decide +kernel
theorem dX9_isMark_7 : decode cX9_isMark 7 = .ok (.iaload, 1) := by decide +kernel
theorem dX9_isMark_8 : decode cX9_isMark 8 = .ok (.iconst 1, 1) := by decide +kernel
theorem dX9_isMark_9 : decode cX9_isMark 9 = .ok (.isub, 1) := by decide +kernel
theorem dX9_isMark_10 : decode cX9_isMark 10 = .ok (.invokestatic 29, 3) := by decide +kernel
theorem dX9_isMark_13 : decode cX9_isMark 13 = .ok (.ireturn, 1) := by decide +kernel
set_option maxRecDepth 20000 in
theorem ggX9_isReader_X9_in : GoodIn wsX9_isReader wsX9_in := goodIn_r _ [4] (by decide +kernel) (by decide +kernel)
set_option maxRecDepth 20000 in
theorem gX9_isReader_X9_in : GoodIn wsX9_isReader (va_wsS RX9 29 yX9_in wsX9_in) := goodIn_app (goodIn_of _ (by decide +kernel)) ggX9_isReader_X9_in
theorem dX9_isReader_0 : decode cX9_isReader 0 = .ok (.iload_n 0, 1) := by decide +kernel
theorem dX9_isReader_1 : decode cX9_isReader 1 = .ok (.iconst 0, 1) := by decide +kernel
theorem dX9_isReader_2 : decode cX9_isReader 2 = .ok (.iconst 5, 1) := by decide +kernel
theorem dX9_isReader_3 : decode cX9_isReader 3 = .ok (.invokestatic 29, 3) := by decide +kernel
theorem dX9_isReader_6 : decode cX9_isReader 6 = .ok (.ireturn, 1) := by decide +kernel
set_option maxRecDepth 20000 in
theorem ggX9_inState_X9_of : GoodIn wsX9_inState wsX9_of := goodIn_r _ [6, 1, 7, 8, 9, 10, 11, 12, 13, 14, 15, 16, 17] (by decide +kernel) (by decide +kernel)
set_option maxRecDepth 20000 in
theorem gX9_inState_X9_of : GoodIn wsX9_inState (wsV RX9 36 RX9 yX9_of wsX9_of) := goodIn_app (goodIn_of _ (by decide +kernel)) ggX9_inState_X9_of
theorem dX9_inState_0 : decode cX9_inState 0 = .ok (.iconst 0, 1) := by decide +kernel
theorem dX9_inState_1 : decode cX9_inState 1 = .ok (.istore_n 2, 1) := by decide +kernel
theorem dX9_inState_2 : decode cX9_inState 2 = .ok (.iconst 0, 1) := by decide +kernel
theorem dX9_inState_3 : decode cX9_inState 3 = .ok (.istore_n 3, 1) := by decide +kernel
theorem dX9_inState_4 : decode cX9_inState 4 = .ok (.iload_n 3, 1) := by decide +kernel
theorem dX9_inState_5 : decode cX9_inState 5 = .ok (.aload_n 0, 1) := by decide +kernel
theorem dX9_inState_6 : decode cX9_inState 6 = .ok (.getfield 7, 3) := by decide +kernel
theorem dX9_inState_9 : decode cX9_inState 9 = .ok (.iconst 2, 1) := by decide +kernel
theorem dX9_inState_10 : decode cX9_inState 10 = .ok (.iaload, 1) := by decide +kernel
theorem dX9_inState_11 : decode cX9_inState 11 = .ok (.if_icmp .ge 27, 3) := by decide +kernel
theorem dX9_inState_14 : decode cX9_inState 14 = .ok (.iload_n 2, 1) := by decide +kernel
theorem dX9_inState_15 : decode cX9_inState 15 = .ok (.aload_n 0, 1) := by decide +kernel
theorem dX9_inState_16 : decode cX9_inState 16 = .ok (.iload_n 3, 1) := by decide +kernel
theorem dX9_inState_17 : decode cX9_inState 17 = .ok (.iconst 1, 1) := by decide +kernel
theorem dX9_inState_18 : decode cX9_inState 18 = .ok (.invokevirtual 36, 3) := by decide +kernel
theorem dX9_inState_21 : decode cX9_inState 21 = .ok (.iload_n 1, 1) := by decide +kernel
theorem dX9_inState_22 : decode cX9_inState 22 = .ok (.if_icmp .ne 7, 3) := by decide +kernel
theorem dX9_inState_25 : decode cX9_inState 25 = .ok (.iconst 1, 1) := by decide +kernel
theorem dX9_inState_26 : decode cX9_inState 26 = .ok (.goto 4, 3) := by decide +kernel
theorem dX9_inState_29 : decode cX9_inState 29 = .ok (.iconst 0, 1) := by decide +kernel
theorem dX9_inState_30 : decode cX9_inState 30 = .ok (.iadd, 1) := by decide +kernel
theorem dX9_inState_31 : decode cX9_inState 31 = .ok (.istore_n 2, 1) := by decide +kernel
theorem dX9_inState_32 : decode cX9_inState 32 = .ok (.iinc 3 1, 3) := by decide +kernel
theorem dX9_inState_35 : decode cX9_inState 35 = .ok (.goto (-31), 3) := by decide +kernel
theorem dX9_inState_38 : decode cX9_inState 38 = .ok (.iload_n 2, 1) := by decide +kernel
theorem dX9_inState_39 : decode cX9_inState 39 = .ok (.ireturn, 1) := by decide +kernel
set_option maxRecDepth 20000 in
theorem ggX9_isBusy_X9_of : GoodIn wsX9_isBusy wsX9_of := goodIn_r _ [6, 1, 7, 8, 9, 10, 11, 12, 13, 14, 15, 16, 17] (by decide +kernel) (by decide +kernel)
set_option maxRecDepth 20000 in
theorem gX9_isBusy_X9_of : GoodIn wsX9_isBusy (wsV RX9 36 RX9 yX9_of wsX9_of) := goodIn_app (goodIn_of _ (by decide +kernel)) ggX9_isBusy_X9_of
theorem dX9_isBusy_0 : decode cX9_isBusy 0 = .ok (.iconst 0, 1) := by decide +kernel
theorem dX9_isBusy_1 : decode cX9_isBusy 1 = .ok (.istore_n 2, 1) := by decide +kernel
theorem dX9_isBusy_2 : decode cX9_isBusy 2 = .ok (.iconst 0, 1) := by decide +kernel
theorem dX9_isBusy_3 : decode cX9_isBusy 3 = .ok (.istore_n 3, 1) := by decide +kernel
theorem dX9_isBusy_4 : decode cX9_isBusy 4 = .ok (.iload_n 3, 1) := by decide +kernel
theorem dX9_isBusy_5 : decode cX9_isBusy 5 = .ok (.aload_n 0, 1) := by decide +kernel
theorem dX9_isBusy_6 : decode cX9_isBusy 6 = .ok (.getfield 7, 3) := by decide +kernel
theorem dX9_isBusy_9 : decode cX9_isBusy 9 = .ok (.iconst 2, 1) := by decide +kernel
theorem dX9_isBusy_10 : decode cX9_isBusy 10 = .ok (.iaload, 1) := by decide +kernel
theorem dX9_isBusy_11 : decode cX9_isBusy 11 = .ok (.if_icmp .ge 38, 3) := by decide +kernel
theorem dX9_isBusy_14 : decode cX9_isBusy 14 = .ok (.iload_n 2, 1) := by decide +kernel
theorem dX9_isBusy_15 : decode cX9_isBusy 15 = .ok (.ifCond .ne 22, 3) := by decide +kernel
theorem dX9_isBusy_18 : decode cX9_isBusy 18 = .ok (.aload_n 0, 1) := by decide +kernel
theorem dX9_isBusy_19 : decode cX9_isBusy 19 = .ok (.iload_n 3, 1) := by decide +kernel
theorem dX9_isBusy_20 : decode cX9_isBusy 20 = .ok (.iconst 0, 1) := by decide +kernel
theorem dX9_isBusy_21 : decode cX9_isBusy 21 = .ok (.invokevirtual 36, 3) := by decide +kernel
theorem dX9_isBusy_24 : decode cX9_isBusy 24 = .ok (.iload_n 1, 1) := by decide +kernel
theorem dX9_isBusy_25 : decode cX9_isBusy 25 = .ok (.if_icmp .ne 16, 3) := by decide +kernel
theorem dX9_isBusy_28 : decode cX9_isBusy 28 = .ok (.aload_n 0, 1) := by decide +kernel
theorem dX9_isBusy_29 : decode cX9_isBusy 29 = .ok (.iload_n 3, 1) := by decide +kernel
theorem dX9_isBusy_30 : decode cX9_isBusy 30 = .ok (.iconst 1, 1) := by decide +kernel
theorem dX9_isBusy_31 : decode cX9_isBusy 31 = .ok (.invokevirtual 36, 3) := by decide +kernel
theorem dX9_isBusy_34 : decode cX9_isBusy 34 = .ok (.ifCond .ne 7, 3) := by decide +kernel
theorem dX9_isBusy_37 : decode cX9_isBusy 37 = .ok (.iconst 1, 1) := by decide +kernel
theorem dX9_isBusy_38 : decode cX9_isBusy 38 = .ok (.goto 4, 3) := by decide +kernel
theorem dX9_isBusy_41 : decode cX9_isBusy 41 = .ok (.iconst 0, 1) := by decide +kernel
theorem dX9_isBusy_42 : decode cX9_isBusy 42 = .ok (.istore_n 2, 1) := by decide +kernel
theorem dX9_isBusy_43 : decode cX9_isBusy 43 = .ok (.iinc 3 1, 3) := by decide +kernel
theorem dX9_isBusy_46 : decode cX9_isBusy 46 = .ok (.goto (-42), 3) := by decide +kernel
theorem dX9_isBusy_49 : decode cX9_isBusy 49 = .ok (.iload_n 2, 1) := by decide +kernel
theorem dX9_isBusy_50 : decode cX9_isBusy 50 = .ok (.ireturn, 1) := by decide +kernel
set_option maxRecDepth 20000 in
theorem ggX9_send_X9_isReader : GoodIn wsX9_send wsX9_isReader := goodIn_r _ [5, 6, 7, 4, 8] (by decide +kernel) (by decide +kernel)
set_option maxRecDepth 20000 in
theorem gX9_send_X9_isReader : GoodIn wsX9_send (va_wsS RX9 40 yX9_isReader wsX9_isReader) := goodIn_app (goodIn_of _ (by decide +kernel)) ggX9_send_X9_isReader
set_option maxRecDepth 20000 in
theorem ggX9_send_X9_isBusy : GoodIn wsX9_send wsX9_isBusy := goodIn_r _ [12, 1, 13, 14, 15, 4, 16, 26, 27, 28, 29, 30, 31, 32, 33, 34, 35, 36] (by decide +kernel) (by decide +kernel)
set_option maxRecDepth 20000 in
theorem gX9_send_X9_isBusy : GoodIn wsX9_send (wsV RX9 44 RX9 yX9_isBusy wsX9_isBusy) := goodIn_app (goodIn_of _ (by decide +kernel)) ggX9_send_X9_isBusy
set_option maxRecDepth 20000 in
theorem ggX9_send_X9_records : GoodIn wsX9_send wsX9_records := goodIn_r _ [20, 21, 22, 1, 26, 27, 28, 29, 30, 31, 32, 33, 34, 35, 36] (by decide +kernel) (by decide +kernel)
set_option maxRecDepth 20000 in
theorem gX9_send_X9_records : GoodIn wsX9_send (wsV RX9 33 RX9 yX9_records wsX9_records) := goodIn_app (goodIn_of _ (by decide +kernel)) ggX9_send_X9_records
set_option maxRecDepth 20000 in
theorem ggX9_send_X9_sheetAt : GoodIn wsX9_send wsX9_sheetAt := goodIn_r _ [25] (by decide +kernel) (by decide +kernel)
set_option maxRecDepth 20000 in
theorem gX9_send_X9_sheetAt : GoodIn wsX9_send (va_wsS RX9 47 yX9_sheetAt wsX9_sheetAt) := goodIn_app (goodIn_of _ (by decide +kernel)) ggX9_send_X9_sheetAt
theorem dX9_send_0 : decode cX9_send 0 = .ok (.iload_n 1, 1) := by decide +kernel
theorem dX9_send_1 : decode cX9_send 1 = .ok (.invokestatic 40, 3) := by decide +kernel
theorem dX9_send_4 : decode cX9_send 4 = .ok (.ifCond .ne 5, 3) := by decide +kernel
theorem dX9_send_7 : decode cX9_send 7 = .ok (.iconst (-1), 1) := by decide +kernel
theorem dX9_send_8 : decode cX9_send 8 = .ok (.ireturn, 1) := by decide +kernel
theorem dX9_send_9 : decode cX9_send 9 = .ok (.aload_n 0, 1) := by decide +kernel
theorem dX9_send_10 : decode cX9_send 10 = .ok (.getfield 7, 3) := by decide +kernel
theorem dX9_send_13 : decode cX9_send 13 = .ok (.iconst 1, 1) := by decide +kernel
theorem dX9_send_14 : decode cX9_send 14 = .ok (.iaload, 1) := by decide +kernel
theorem dX9_send_15 : decode cX9_send 15 = .ok (.ifCond .eq 11, 3) := by decide +kernel
theorem dX9_send_18 : decode cX9_send 18 = .ok (.aload_n 0, 1) := by decide +kernel
theorem dX9_send_19 : decode cX9_send 19 = .ok (.iload_n 1, 1) := by decide +kernel
theorem dX9_send_20 : decode cX9_send 20 = .ok (.invokevirtual 44, 3) := by decide +kernel
theorem dX9_send_23 : decode cX9_send 23 = .ok (.ifCond .eq 6, 3) := by decide +kernel
theorem dX9_send_26 : decode cX9_send 26 = .ok (.bipush (-2), 2) := by decide +kernel
theorem dX9_send_28 : decode cX9_send 28 = .ok (.ireturn, 1) := by decide +kernel
theorem dX9_send_29 : decode cX9_send 29 = .ok (.aload_n 0, 1) := by decide +kernel
theorem dX9_send_30 : decode cX9_send 30 = .ok (.getfield 7, 3) := by decide +kernel
theorem dX9_send_33 : decode cX9_send 33 = .ok (.iconst 2, 1) := by decide +kernel
theorem dX9_send_34 : decode cX9_send 34 = .ok (.iaload, 1) := by decide +kernel
theorem dX9_send_35 : decode cX9_send 35 = .ok (.bipush 8, 2) := by decide +kernel
theorem dX9_send_37 : decode cX9_send 37 = .ok (.if_icmp .ne 6, 3) := by decide +kernel
theorem dX9_send_40 : decode cX9_send 40 = .ok (.bipush (-3), 2) := by decide +kernel
theorem dX9_send_42 : decode cX9_send 42 = .ok (.ireturn, 1) := by decide +kernel
theorem dX9_send_43 : decode cX9_send 43 = .ok (.aload_n 0, 1) := by decide +kernel
theorem dX9_send_44 : decode cX9_send 44 = .ok (.invokevirtual 33, 3) := by decide +kernel
theorem dX9_send_47 : decode cX9_send 47 = .ok (.aload_n 0, 1) := by decide +kernel
theorem dX9_send_48 : decode cX9_send 48 = .ok (.getfield 7, 3) := by decide +kernel
theorem dX9_send_51 : decode cX9_send 51 = .ok (.iconst 2, 1) := by decide +kernel
theorem dX9_send_52 : decode cX9_send 52 = .ok (.iaload, 1) := by decide +kernel
theorem dX9_send_53 : decode cX9_send 53 = .ok (.istore_n 2, 1) := by decide +kernel
theorem dX9_send_54 : decode cX9_send 54 = .ok (.iconst 0, 1) := by decide +kernel
theorem dX9_send_55 : decode cX9_send 55 = .ok (.istore_n 3, 1) := by decide +kernel
theorem dX9_send_56 : decode cX9_send 56 = .ok (.iload_n 3, 1) := by decide +kernel
theorem dX9_send_57 : decode cX9_send 57 = .ok (.bipush 35, 2) := by decide +kernel
theorem dX9_send_59 : decode cX9_send 59 = .ok (.if_icmp .ge 21, 3) := by decide +kernel
theorem dX9_send_62 : decode cX9_send 62 = .ok (.aload_n 0, 1) := by decide +kernel
theorem dX9_send_63 : decode cX9_send 63 = .ok (.getfield 7, 3) := by decide +kernel
theorem dX9_send_66 : decode cX9_send 66 = .ok (.iload_n 2, 1) := by decide +kernel
theorem dX9_send_67 : decode cX9_send 67 = .ok (.invokestatic 47, 3) := by decide +kernel
theorem dX9_send_70 : decode cX9_send 70 = .ok (.iload_n 3, 1) := by decide +kernel
theorem dX9_send_71 : decode cX9_send 71 = .ok (.iadd, 1) := by decide +kernel
theorem dX9_send_72 : decode cX9_send 72 = .ok (.iconst 0, 1) := by decide +kernel
theorem dX9_send_73 : decode cX9_send 73 = .ok (.iastore, 1) := by decide +kernel
theorem dX9_send_74 : decode cX9_send 74 = .ok (.iinc 3 1, 3) := by decide +kernel
theorem dX9_send_77 : decode cX9_send 77 = .ok (.goto (-21), 3) := by decide +kernel
theorem dX9_send_80 : decode cX9_send 80 = .ok (.aload_n 0, 1) := by decide +kernel
theorem dX9_send_81 : decode cX9_send 81 = .ok (.getfield 7, 3) := by decide +kernel
theorem dX9_send_84 : decode cX9_send 84 = .ok (.iload_n 2, 1) := by decide +kernel
theorem dX9_send_85 : decode cX9_send 85 = .ok (.invokestatic 47, 3) := by decide +kernel
theorem dX9_send_88 : decode cX9_send 88 = .ok (.iconst 0, 1) := by decide +kernel
theorem dX9_send_89 : decode cX9_send 89 = .ok (.iadd, 1) := by decide +kernel
theorem dX9_send_90 : decode cX9_send 90 = .ok (.iload_n 1, 1) := by decide +kernel
theorem dX9_send_91 : decode cX9_send 91 = .ok (.iastore, 1) := by decide +kernel
theorem dX9_send_92 : decode cX9_send 92 = .ok (.aload_n 0, 1) := by decide +kernel
theorem dX9_send_93 : decode cX9_send 93 = .ok (.getfield 7, 3) := by decide +kernel
theorem dX9_send_96 : decode cX9_send 96 = .ok (.bipush 9, 2) := by decide +kernel
theorem dX9_send_98 : decode cX9_send 98 = .ok (.iconst 3, 1) := by decide +kernel
theorem dX9_send_99 : decode cX9_send 99 = .ok (.iload_n 1, 1) := by decide +kernel
theorem dX9_send_100 : decode cX9_send 100 = .ok (.imul, 1) := by decide +kernel
theorem dX9_send_101 : decode cX9_send 101 = .ok (.iadd, 1) := by decide +kernel
theorem dX9_send_102 : decode cX9_send 102 = .ok (.dup2, 1) := by decide +kernel
theorem dX9_send_103 : decode cX9_send 103 = .ok (.iaload, 1) := by decide +kernel
theorem dX9_send_104 : decode cX9_send 104 = .ok (.iconst 1, 1) := by decide +kernel
theorem dX9_send_105 : decode cX9_send 105 = .ok (.iadd, 1) := by decide +kernel
theorem dX9_send_106 : decode cX9_send 106 = .ok (.iastore, 1) := by decide +kernel
theorem dX9_send_107 : decode cX9_send 107 = .ok (.aload_n 0, 1) := by decide +kernel
theorem dX9_send_108 : decode cX9_send 108 = .ok (.getfield 7, 3) := by decide +kernel
theorem dX9_send_111 : decode cX9_send 111 = .ok (.iconst 2, 1) := by decide +kernel
theorem dX9_send_112 : decode cX9_send 112 = .ok (.dup2, 1) := by decide +kernel
theorem dX9_send_113 : decode cX9_send 113 = .ok (.iaload, 1) := by decide +kernel
theorem dX9_send_114 : decode cX9_send 114 = .ok (.iconst 1, 1) := by decide +kernel
theorem dX9_send_115 : decode cX9_send 115 = .ok (.iadd, 1) := by decide +kernel
theorem dX9_send_116 : decode cX9_send 116 = .ok (.iastore, 1) := by decide +kernel
theorem dX9_send_117 : decode cX9_send 117 = .ok (.iload_n 2, 1) := by decide +kernel
theorem dX9_send_118 : decode cX9_send 118 = .ok (.ireturn, 1) := by decide +kernel
set_option maxRecDepth 20000 in
theorem ggX9_becomes_X9_records : GoodIn wsX9_becomes wsX9_records := goodIn_r _ [6, 7, 8, 1, 16, 17, 18, 19, 20, 21, 22, 23, 24, 25, 26] (by decide +kernel) (by decide +kernel)
set_option maxRecDepth 20000 in
theorem gX9_becomes_X9_records : GoodIn wsX9_becomes (wsV RX9 33 RX9 yX9_records wsX9_records) := goodIn_app (goodIn_of _ (by decide +kernel)) ggX9_becomes_X9_records
set_option maxRecDepth 20000 in
theorem ggX9_becomes_X9_sheetAt : GoodIn wsX9_becomes wsX9_sheetAt := goodIn_r _ [11] (by decide +kernel) (by decide +kernel)
set_option maxRecDepth 20000 in
theorem gX9_becomes_X9_sheetAt : GoodIn wsX9_becomes (va_wsS RX9 47 yX9_sheetAt wsX9_sheetAt) := goodIn_app (goodIn_of _ (by decide +kernel)) ggX9_becomes_X9_sheetAt
set_option maxRecDepth 20000 in
theorem ggX9_becomes_X9_of : GoodIn wsX9_becomes wsX9_of := goodIn_r _ [15, 1, 16, 17, 18, 19, 20, 21, 22, 23, 24, 25, 26] (by decide +kernel) (by decide +kernel)
set_option maxRecDepth 20000 in
theorem gX9_becomes_X9_of : GoodIn wsX9_becomes (wsV RX9 36 RX9 yX9_of wsX9_of) := goodIn_app (goodIn_of _ (by decide +kernel)) ggX9_becomes_X9_of
theorem dX9_becomes_0 : decode cX9_becomes 0 = .ok (.aload_n 0, 1) := by decide +kernel
theorem dX9_becomes_1 : decode cX9_becomes 1 = .ok (.invokevirtual 33, 3) := by decide +kernel
theorem dX9_becomes_4 : decode cX9_becomes 4 = .ok (.aload_n 0, 1) := by decide +kernel
theorem dX9_becomes_5 : decode cX9_becomes 5 = .ok (.getfield 7, 3) := by decide +kernel
theorem dX9_becomes_8 : decode cX9_becomes 8 = .ok (.iload_n 1, 1) := by decide +kernel
theorem dX9_becomes_9 : decode cX9_becomes 9 = .ok (.invokestatic 47, 3) := by decide +kernel
theorem dX9_becomes_12 : decode cX9_becomes 12 = .ok (.iconst 1, 1) := by decide +kernel
theorem dX9_becomes_13 : decode cX9_becomes 13 = .ok (.iadd, 1) := by decide +kernel
theorem dX9_becomes_14 : decode cX9_becomes 14 = .ok (.iload_n 2, 1) := by decide +kernel
theorem dX9_becomes_15 : decode cX9_becomes 15 = .ok (.iastore, 1) := by decide +kernel
theorem dX9_becomes_16 : decode cX9_becomes 16 = .ok (.aload_n 0, 1) := by decide +kernel
theorem dX9_becomes_17 : decode cX9_becomes 17 = .ok (.iload_n 1, 1) := by decide +kernel
theorem dX9_becomes_18 : decode cX9_becomes 18 = .ok (.iconst 2, 1) := by decide +kernel
theorem dX9_becomes_19 : decode cX9_becomes 19 = .ok (.invokevirtual 36, 3) := by decide +kernel
theorem dX9_becomes_22 : decode cX9_becomes 22 = .ok (.ireturn, 1) := by decide +kernel
set_option maxRecDepth 20000 in
theorem ggX9_bring_X9_isSheet : GoodIn wsX9_bring wsX9_isSheet := goodIn_r _ [5, 6, 7, 8, 4, 9, 27, 28, 29, 30, 31, 32, 33, 34, 35, 36, 37] (by decide +kernel) (by decide +kernel)
set_option maxRecDepth 20000 in
theorem gX9_bring_X9_isSheet : GoodIn wsX9_bring (wsV RX9 51 RX9 yX9_isSheet wsX9_isSheet) := goodIn_app (goodIn_of _ (by decide +kernel)) ggX9_bring_X9_isSheet
set_option maxRecDepth 20000 in
theorem ggX9_bring_X9_of : GoodIn wsX9_bring wsX9_of := goodIn_r _ [13, 6, 27, 28, 29, 30, 31, 32, 33, 34, 35, 36, 37] (by decide +kernel) (by decide +kernel)
set_option maxRecDepth 20000 in
theorem gX9_bring_X9_of : GoodIn wsX9_bring (wsV RX9 36 RX9 yX9_of wsX9_of) := goodIn_app (goodIn_of _ (by decide +kernel)) ggX9_bring_X9_of
set_option maxRecDepth 20000 in
theorem ggX9_bring_X9_becomes : GoodIn wsX9_bring wsX9_becomes := goodIn_r _ [17, 6, 18, 19, 20, 4, 21, 22, 23, 24, 25, 26, 10, 11, 12, 13, 27, 28, 29, 30, 31, 32, 33, 34, 35, 36, 37] (by decide +kernel) (by decide +kernel)
set_option maxRecDepth 20000 in
theorem gX9_bring_X9_becomes : GoodIn wsX9_bring (wsV RX9 54 RX9 yX9_becomes wsX9_becomes) := goodIn_app (goodIn_of _ (by decide +kernel)) ggX9_bring_X9_becomes
theorem dX9_bring_0 : decode cX9_bring 0 = .ok (.aload_n 0, 1) := by decide +kernel
theorem dX9_bring_1 : decode cX9_bring 1 = .ok (.iload_n 1, 1) := by decide +kernel
theorem dX9_bring_2 : decode cX9_bring 2 = .ok (.invokevirtual 51, 3) := by decide +kernel
theorem dX9_bring_5 : decode cX9_bring 5 = .ok (.ifCond .ne 5, 3) := by decide +kernel
theorem dX9_bring_8 : decode cX9_bring 8 = .ok (.iconst (-1), 1) := by decide +kernel
theorem dX9_bring_9 : decode cX9_bring 9 = .ok (.ireturn, 1) := by decide +kernel
theorem dX9_bring_10 : decode cX9_bring 10 = .ok (.aload_n 0, 1) := by decide +kernel
theorem dX9_bring_11 : decode cX9_bring 11 = .ok (.iload_n 1, 1) := by decide +kernel
theorem dX9_bring_12 : decode cX9_bring 12 = .ok (.iconst 1, 1) := by decide +kernel
theorem dX9_bring_13 : decode cX9_bring 13 = .ok (.invokevirtual 36, 3) := by decide +kernel
theorem dX9_bring_16 : decode cX9_bring 16 = .ok (.ifCond .ne 12, 3) := by decide +kernel
theorem dX9_bring_19 : decode cX9_bring 19 = .ok (.aload_n 0, 1) := by decide +kernel
theorem dX9_bring_20 : decode cX9_bring 20 = .ok (.iload_n 1, 1) := by decide +kernel
theorem dX9_bring_21 : decode cX9_bring 21 = .ok (.iconst 1, 1) := by decide +kernel
theorem dX9_bring_22 : decode cX9_bring 22 = .ok (.invokevirtual 54, 3) := by decide +kernel
theorem dX9_bring_25 : decode cX9_bring 25 = .ok (.goto 5, 3) := by decide +kernel
theorem dX9_bring_28 : decode cX9_bring 28 = .ok (.bipush (-2), 2) := by decide +kernel
theorem dX9_bring_30 : decode cX9_bring 30 = .ok (.ireturn, 1) := by decide +kernel
set_option maxRecDepth 20000 in
theorem ggX9_lose_X9_isSheet : GoodIn wsX9_lose wsX9_isSheet := goodIn_r _ [5, 6, 7, 8, 4, 9, 27, 28, 29, 30, 31, 32, 33, 34, 35, 36, 37] (by decide +kernel) (by decide +kernel)
set_option maxRecDepth 20000 in
theorem gX9_lose_X9_isSheet : GoodIn wsX9_lose (wsV RX9 51 RX9 yX9_isSheet wsX9_isSheet) := goodIn_app (goodIn_of _ (by decide +kernel)) ggX9_lose_X9_isSheet
set_option maxRecDepth 20000 in
theorem ggX9_lose_X9_of : GoodIn wsX9_lose wsX9_of := goodIn_r _ [13, 6, 27, 28, 29, 30, 31, 32, 33, 34, 35, 36, 37] (by decide +kernel) (by decide +kernel)
set_option maxRecDepth 20000 in
theorem gX9_lose_X9_of : GoodIn wsX9_lose (wsV RX9 36 RX9 yX9_of wsX9_of) := goodIn_app (goodIn_of _ (by decide +kernel)) ggX9_lose_X9_of
set_option maxRecDepth 20000 in
theorem ggX9_lose_X9_becomes : GoodIn wsX9_lose wsX9_becomes := goodIn_r _ [17, 6, 18, 19, 20, 4, 21, 22, 23, 24, 25, 26, 10, 11, 12, 13, 27, 28, 29, 30, 31, 32, 33, 34, 35, 36, 37] (by decide +kernel) (by decide +kernel)
set_option maxRecDepth 20000 in
theorem gX9_lose_X9_becomes : GoodIn wsX9_lose (wsV RX9 54 RX9 yX9_becomes wsX9_becomes) := goodIn_app (goodIn_of _ (by decide +kernel)) ggX9_lose_X9_becomes
theorem dX9_lose_0 : decode cX9_lose 0 = .ok (.aload_n 0, 1) := by decide +kernel
theorem dX9_lose_1 : decode cX9_lose 1 = .ok (.iload_n 1, 1) := by decide +kernel
theorem dX9_lose_2 : decode cX9_lose 2 = .ok (.invokevirtual 51, 3) := by decide +kernel
theorem dX9_lose_5 : decode cX9_lose 5 = .ok (.ifCond .ne 5, 3) := by decide +kernel
theorem dX9_lose_8 : decode cX9_lose 8 = .ok (.iconst (-1), 1) := by decide +kernel
theorem dX9_lose_9 : decode cX9_lose 9 = .ok (.ireturn, 1) := by decide +kernel
theorem dX9_lose_10 : decode cX9_lose 10 = .ok (.aload_n 0, 1) := by decide +kernel
theorem dX9_lose_11 : decode cX9_lose 11 = .ok (.iload_n 1, 1) := by decide +kernel
theorem dX9_lose_12 : decode cX9_lose 12 = .ok (.iconst 1, 1) := by decide +kernel
theorem dX9_lose_13 : decode cX9_lose 13 = .ok (.invokevirtual 36, 3) := by decide +kernel
theorem dX9_lose_16 : decode cX9_lose 16 = .ok (.iconst 2, 1) := by decide +kernel
theorem dX9_lose_17 : decode cX9_lose 17 = .ok (.if_icmp .ge 12, 3) := by decide +kernel
theorem dX9_lose_20 : decode cX9_lose 20 = .ok (.aload_n 0, 1) := by decide +kernel
theorem dX9_lose_21 : decode cX9_lose 21 = .ok (.iload_n 1, 1) := by decide +kernel
theorem dX9_lose_22 : decode cX9_lose 22 = .ok (.iconst 2, 1) := by decide +kernel
theorem dX9_lose_23 : decode cX9_lose 23 = .ok (.invokevirtual 54, 3) := by decide +kernel
theorem dX9_lose_26 : decode cX9_lose 26 = .ok (.goto 5, 3) := by decide +kernel
theorem dX9_lose_29 : decode cX9_lose 29 = .ok (.bipush (-2), 2) := by decide +kernel
theorem dX9_lose_31 : decode cX9_lose 31 = .ok (.ireturn, 1) := by decide +kernel
set_option maxRecDepth 20000 in
theorem ggX9_find_X9_isSheet : GoodIn wsX9_find wsX9_isSheet := goodIn_r _ [5, 6, 7, 8, 4, 9, 27, 28, 29, 30, 31, 32, 33, 34, 35, 36, 37] (by decide +kernel) (by decide +kernel)
set_option maxRecDepth 20000 in
theorem gX9_find_X9_isSheet : GoodIn wsX9_find (wsV RX9 51 RX9 yX9_isSheet wsX9_isSheet) := goodIn_app (goodIn_of _ (by decide +kernel)) ggX9_find_X9_isSheet
set_option maxRecDepth 20000 in
theorem ggX9_find_X9_of : GoodIn wsX9_find wsX9_of := goodIn_r _ [13, 6, 27, 28, 29, 30, 31, 32, 33, 34, 35, 36, 37] (by decide +kernel) (by decide +kernel)
set_option maxRecDepth 20000 in
theorem gX9_find_X9_of : GoodIn wsX9_find (wsV RX9 36 RX9 yX9_of wsX9_of) := goodIn_app (goodIn_of _ (by decide +kernel)) ggX9_find_X9_of
set_option maxRecDepth 20000 in
theorem ggX9_find_X9_becomes : GoodIn wsX9_find wsX9_becomes := goodIn_r _ [17, 6, 18, 19, 20, 4, 21, 22, 23, 24, 25, 26, 10, 11, 12, 13, 27, 28, 29, 30, 31, 32, 33, 34, 35, 36, 37] (by decide +kernel) (by decide +kernel)
set_option maxRecDepth 20000 in
theorem gX9_find_X9_becomes : GoodIn wsX9_find (wsV RX9 54 RX9 yX9_becomes wsX9_becomes) := goodIn_app (goodIn_of _ (by decide +kernel)) ggX9_find_X9_becomes
theorem dX9_find_0 : decode cX9_find 0 = .ok (.aload_n 0, 1) := by decide +kernel
theorem dX9_find_1 : decode cX9_find 1 = .ok (.iload_n 1, 1) := by decide +kernel
theorem dX9_find_2 : decode cX9_find 2 = .ok (.invokevirtual 51, 3) := by decide +kernel
theorem dX9_find_5 : decode cX9_find 5 = .ok (.ifCond .ne 5, 3) := by decide +kernel
theorem dX9_find_8 : decode cX9_find 8 = .ok (.iconst (-1), 1) := by decide +kernel
theorem dX9_find_9 : decode cX9_find 9 = .ok (.ireturn, 1) := by decide +kernel
theorem dX9_find_10 : decode cX9_find 10 = .ok (.aload_n 0, 1) := by decide +kernel
theorem dX9_find_11 : decode cX9_find 11 = .ok (.iload_n 1, 1) := by decide +kernel
theorem dX9_find_12 : decode cX9_find 12 = .ok (.iconst 1, 1) := by decide +kernel
theorem dX9_find_13 : decode cX9_find 13 = .ok (.invokevirtual 36, 3) := by decide +kernel
theorem dX9_find_16 : decode cX9_find 16 = .ok (.iconst 2, 1) := by decide +kernel
theorem dX9_find_17 : decode cX9_find 17 = .ok (.if_icmp .ne 12, 3) := by decide +kernel
theorem dX9_find_20 : decode cX9_find 20 = .ok (.aload_n 0, 1) := by decide +kernel
theorem dX9_find_21 : decode cX9_find 21 = .ok (.iload_n 1, 1) := by decide +kernel
theorem dX9_find_22 : decode cX9_find 22 = .ok (.iconst 1, 1) := by decide +kernel
theorem dX9_find_23 : decode cX9_find 23 = .ok (.invokevirtual 54, 3) := by decide +kernel
theorem dX9_find_26 : decode cX9_find 26 = .ok (.goto 5, 3) := by decide +kernel
theorem dX9_find_29 : decode cX9_find 29 = .ok (.bipush (-2), 2) := by decide +kernel
theorem dX9_find_31 : decode cX9_find 31 = .ok (.ireturn, 1) := by decide +kernel
theorem dX9_areLike_0 : decode cX9_areLike 0 = .ok (.iconst 1, 1) := by decide +kernel
theorem dX9_areLike_1 : decode cX9_areLike 1 = .ok (.istore_n 3, 1) := by decide +kernel
theorem dX9_areLike_2 : decode cX9_areLike 2 = .ok (.iconst 0, 1) := by decide +kernel
theorem dX9_areLike_3 : decode cX9_areLike 3 = .ok (.istore 4, 2) := by decide +kernel
theorem dX9_areLike_5 : decode cX9_areLike 5 = .ok (.iload 4, 2) := by decide +kernel
theorem dX9_areLike_7 : decode cX9_areLike 7 = .ok (.iconst 3, 1) := by decide +kernel
theorem dX9_areLike_8 : decode cX9_areLike 8 = .ok (.if_icmp .gt 40, 3) := by decide +kernel
theorem dX9_areLike_11 : decode cX9_areLike 11 = .ok (.iload_n 3, 1) := by decide +kernel
theorem dX9_areLike_12 : decode cX9_areLike 12 = .ok (.ifCond .eq 28, 3) := by decide +kernel
theorem dX9_areLike_15 : decode cX9_areLike 15 = .ok (.aload_n 0, 1) := by decide +kernel
theorem dX9_areLike_16 : decode cX9_areLike 16 = .ok (.getfield 7, 3) := by decide +kernel
theorem dX9_areLike_19 : decode cX9_areLike 19 = .ok (.iload_n 1, 1) := by decide +kernel
theorem dX9_areLike_20 : decode cX9_areLike 20 = .ok (.iload 4, 2) := by decide +kernel
theorem dX9_areLike_22 : decode cX9_areLike 22 = .ok (.iadd, 1) := by decide +kernel
theorem dX9_areLike_23 : decode cX9_areLike 23 = .ok (.iaload, 1) := by decide +kernel
theorem dX9_areLike_24 : decode cX9_areLike 24 = .ok (.aload_n 0, 1) := by decide +kernel
theorem dX9_areLike_25 : decode cX9_areLike 25 = .ok (.getfield 7, 3) := by decide +kernel
theorem dX9_areLike_28 : decode cX9_areLike 28 = .ok (.iload_n 2, 1) := by decide +kernel
theorem dX9_areLike_29 : decode cX9_areLike 29 = .ok (.iload 4, 2) := by decide +kernel
theorem dX9_areLike_31 : decode cX9_areLike 31 = .ok (.iadd, 1) := by decide +kernel
theorem dX9_areLike_32 : decode cX9_areLike 32 = .ok (.iaload, 1) := by decide +kernel
theorem dX9_areLike_33 : decode cX9_areLike 33 = .ok (.if_icmp .ne 7, 3) := by decide +kernel
theorem dX9_areLike_36 : decode cX9_areLike 36 = .ok (.iconst 1, 1) := by decide +kernel
theorem dX9_areLike_37 : decode cX9_areLike 37 = .ok (.goto 4, 3) := by decide +kernel
theorem dX9_areLike_40 : decode cX9_areLike 40 = .ok (.iconst 0, 1) := by decide +kernel
theorem dX9_areLike_41 : decode cX9_areLike 41 = .ok (.istore_n 3, 1) := by decide +kernel
theorem dX9_areLike_42 : decode cX9_areLike 42 = .ok (.iinc 4 1, 3) := by decide +kernel
theorem dX9_areLike_45 : decode cX9_areLike 45 = .ok (.goto (-40), 3) := by decide +kernel
theorem dX9_areLike_48 : decode cX9_areLike 48 = .ok (.iload_n 3, 1) := by decide +kernel
theorem dX9_areLike_49 : decode cX9_areLike 49 = .ok (.ireturn, 1) := by decide +kernel
theorem dX9_behind_0 : decode cX9_behind 0 = .ok (.aload_n 0, 1) := by decide +kernel
theorem dX9_behind_1 : decode cX9_behind 1 = .ok (.getfield 7, 3) := by decide +kernel
theorem dX9_behind_4 : decode cX9_behind 4 = .ok (.iload_n 1, 1) := by decide +kernel
theorem dX9_behind_5 : decode cX9_behind 5 = .ok (.iconst 1, 1) := by decide +kernel
theorem dX9_behind_6 : decode cX9_behind 6 = .ok (.iadd, 1) := by decide +kernel
theorem dX9_behind_7 : decode cX9_behind 7 = .ok (.iaload, 1) := by decide +kernel
theorem dX9_behind_8 : decode cX9_behind 8 = .ok (.istore_n 2, 1) := by decide +kernel
theorem dX9_behind_9 : decode cX9_behind 9 = .ok (.aload_n 0, 1) := by decide +kernel
theorem dX9_behind_10 : decode cX9_behind 10 = .ok (.getfield 7, 3) := by decide +kernel
theorem dX9_behind_13 : decode cX9_behind 13 = .ok (.iload_n 1, 1) := by decide +kernel
theorem dX9_behind_14 : decode cX9_behind 14 = .ok (.iconst 0, 1) := by decide +kernel
theorem dX9_behind_15 : decode cX9_behind 15 = .ok (.iadd, 1) := by decide +kernel
theorem dX9_behind_16 : decode cX9_behind 16 = .ok (.iaload, 1) := by decide +kernel
theorem dX9_behind_17 : decode cX9_behind 17 = .ok (.tableswitch 46 0 3 #[31, 40, 46, 42], 31) := by decide +kernel
theorem dX9_behind_48 : decode cX9_behind 48 = .ok (.aload_n 0, 1) := by decide +kernel
theorem dX9_behind_49 : decode cX9_behind 49 = .ok (.getfield 7, 3) := by decide +kernel
theorem dX9_behind_52 : decode cX9_behind 52 = .ok (.iload_n 1, 1) := by decide +kernel
theorem dX9_behind_53 : decode cX9_behind 53 = .ok (.iconst 2, 1) := by decide +kernel
theorem dX9_behind_54 : decode cX9_behind 54 = .ok (.iadd, 1) := by decide +kernel
theorem dX9_behind_55 : decode cX9_behind 55 = .ok (.iaload, 1) := by decide +kernel
theorem dX9_behind_56 : decode cX9_behind 56 = .ok (.ireturn, 1) := by decide +kernel
theorem dX9_behind_57 : decode cX9_behind 57 = .ok (.iload_n 2, 1) := by decide +kernel
theorem dX9_behind_58 : decode cX9_behind 58 = .ok (.ireturn, 1) := by decide +kernel
theorem dX9_behind_59 : decode cX9_behind 59 = .ok (.iload_n 2, 1) := by decide +kernel
theorem dX9_behind_60 : decode cX9_behind 60 = .ok (.iconst 2, 1) := by decide +kernel
theorem dX9_behind_61 : decode cX9_behind 61 = .ok (.iadd, 1) := by decide +kernel
theorem dX9_behind_62 : decode cX9_behind 62 = .ok (.ireturn, 1) := by decide +kernel
theorem dX9_behind_63 : decode cX9_behind 63 = .ok (.iload_n 2, 1) := by decide +kernel
theorem dX9_behind_64 : decode cX9_behind 64 = .ok (.iconst 1, 1) := by decide +kernel
theorem dX9_behind_65 : decode cX9_behind 65 = .ok (.iadd, 1) := by decide +kernel
theorem dX9_behind_66 : decode cX9_behind 66 = .ok (.ireturn, 1) := by decide +kernel
set_option maxRecDepth 20000 in
theorem ggX9_isWithin_X9_behind : GoodIn wsX9_isWithin wsX9_behind := goodIn_r _ [6, 1, 7, 8, 9, 10, 11, 12, 13, 14, 15, 16, 17] (by decide +kernel) (by decide +kernel)
set_option maxRecDepth 20000 in
theorem gX9_isWithin_X9_behind : GoodIn wsX9_isWithin (wsV RX9 57 RX9 yX9_behind wsX9_behind) := goodIn_app (goodIn_of _ (by decide +kernel)) ggX9_isWithin_X9_behind
theorem dX9_isWithin_0 : decode cX9_isWithin 0 = .ok (.aload_n 0, 1) := by decide +kernel
theorem dX9_isWithin_1 : decode cX9_isWithin 1 = .ok (.getfield 7, 3) := by decide +kernel
theorem dX9_isWithin_4 : decode cX9_isWithin 4 = .ok (.iload_n 1, 1) := by decide +kernel
theorem dX9_isWithin_5 : decode cX9_isWithin 5 = .ok (.iconst 0, 1) := by decide +kernel
theorem dX9_isWithin_6 : decode cX9_isWithin 6 = .ok (.iadd, 1) := by decide +kernel
theorem dX9_isWithin_7 : decode cX9_isWithin 7 = .ok (.iaload, 1) := by decide +kernel
theorem dX9_isWithin_8 : decode cX9_isWithin 8 = .ok (.iconst 1, 1) := by decide +kernel
theorem dX9_isWithin_9 : decode cX9_isWithin 9 = .ok (.if_icmp .ne 42, 3) := by decide +kernel
theorem dX9_isWithin_12 : decode cX9_isWithin 12 = .ok (.aload_n 0, 1) := by decide +kernel
theorem dX9_isWithin_13 : decode cX9_isWithin 13 = .ok (.getfield 7, 3) := by decide +kernel
theorem dX9_isWithin_16 : decode cX9_isWithin 16 = .ok (.iload_n 2, 1) := by decide +kernel
theorem dX9_isWithin_17 : decode cX9_isWithin 17 = .ok (.iconst 1, 1) := by decide +kernel
theorem dX9_isWithin_18 : decode cX9_isWithin 18 = .ok (.iadd, 1) := by decide +kernel
theorem dX9_isWithin_19 : decode cX9_isWithin 19 = .ok (.iaload, 1) := by decide +kernel
theorem dX9_isWithin_20 : decode cX9_isWithin 20 = .ok (.aload_n 0, 1) := by decide +kernel
theorem dX9_isWithin_21 : decode cX9_isWithin 21 = .ok (.getfield 7, 3) := by decide +kernel
theorem dX9_isWithin_24 : decode cX9_isWithin 24 = .ok (.iload_n 1, 1) := by decide +kernel
theorem dX9_isWithin_25 : decode cX9_isWithin 25 = .ok (.iconst 1, 1) := by decide +kernel
theorem dX9_isWithin_26 : decode cX9_isWithin 26 = .ok (.iadd, 1) := by decide +kernel
theorem dX9_isWithin_27 : decode cX9_isWithin 27 = .ok (.iaload, 1) := by decide +kernel
theorem dX9_isWithin_28 : decode cX9_isWithin 28 = .ok (.if_icmp .ge 23, 3) := by decide +kernel
theorem dX9_isWithin_31 : decode cX9_isWithin 31 = .ok (.aload_n 0, 1) := by decide +kernel
theorem dX9_isWithin_32 : decode cX9_isWithin 32 = .ok (.getfield 7, 3) := by decide +kernel
theorem dX9_isWithin_35 : decode cX9_isWithin 35 = .ok (.iload_n 1, 1) := by decide +kernel
theorem dX9_isWithin_36 : decode cX9_isWithin 36 = .ok (.iconst 1, 1) := by decide +kernel
theorem dX9_isWithin_37 : decode cX9_isWithin 37 = .ok (.iadd, 1) := by decide +kernel
theorem dX9_isWithin_38 : decode cX9_isWithin 38 = .ok (.iaload, 1) := by decide +kernel
theorem dX9_isWithin_39 : decode cX9_isWithin 39 = .ok (.aload_n 0, 1) := by decide +kernel
theorem dX9_isWithin_40 : decode cX9_isWithin 40 = .ok (.iload_n 2, 1) := by decide +kernel
theorem dX9_isWithin_41 : decode cX9_isWithin 41 = .ok (.invokevirtual 57, 3) := by decide +kernel
theorem dX9_isWithin_44 : decode cX9_isWithin 44 = .ok (.if_icmp .ge 7, 3) := by decide +kernel
theorem dX9_isWithin_47 : decode cX9_isWithin 47 = .ok (.iconst 1, 1) := by decide +kernel
theorem dX9_isWithin_48 : decode cX9_isWithin 48 = .ok (.goto 4, 3) := by decide +kernel
theorem dX9_isWithin_51 : decode cX9_isWithin 51 = .ok (.iconst 0, 1) := by decide +kernel
theorem dX9_isWithin_52 : decode cX9_isWithin 52 = .ok (.ireturn, 1) := by decide +kernel
set_option maxRecDepth 20000 in
theorem ggX9_areAgainst_X9_areLike : GoodIn wsX9_areAgainst wsX9_areLike := goodIn_r _ [6, 1, 15, 16, 17, 18, 19, 20, 21, 22, 23, 24, 25] (by decide +kernel) (by decide +kernel)
set_option maxRecDepth 20000 in
theorem gX9_areAgainst_X9_areLike : GoodIn wsX9_areAgainst (wsV RX9 60 RX9 yX9_areLike wsX9_areLike) := goodIn_app (goodIn_of _ (by decide +kernel)) ggX9_areAgainst_X9_areLike
set_option maxRecDepth 20000 in
theorem ggX9_areAgainst_X9_behind : GoodIn wsX9_areAgainst wsX9_behind := goodIn_r _ [10, 1, 15, 16, 17, 18, 19, 20, 21, 22, 23, 24, 25] (by decide +kernel) (by decide +kernel)
set_option maxRecDepth 20000 in
theorem gX9_areAgainst_X9_behind : GoodIn wsX9_areAgainst (wsV RX9 57 RX9 yX9_behind wsX9_behind) := goodIn_app (goodIn_of _ (by decide +kernel)) ggX9_areAgainst_X9_behind
set_option maxRecDepth 20000 in
theorem ggX9_areAgainst_X9_isWithin : GoodIn wsX9_areAgainst wsX9_isWithin := goodIn_r _ [14, 1, 7, 8, 9, 5, 10, 15, 16, 17, 18, 19, 20, 21, 22, 23, 24, 25] (by decide +kernel) (by decide +kernel)
set_option maxRecDepth 20000 in
theorem gX9_areAgainst_X9_isWithin : GoodIn wsX9_areAgainst (wsV RX9 64 RX9 yX9_isWithin wsX9_isWithin) := goodIn_app (goodIn_of _ (by decide +kernel)) ggX9_areAgainst_X9_isWithin
theorem dX9_areAgainst_0 : decode cX9_areAgainst 0 = .ok (.aload_n 0, 1) := by decide +kernel
theorem dX9_areAgainst_1 : decode cX9_areAgainst 1 = .ok (.getfield 7, 3) := by decide +kernel
theorem dX9_areAgainst_4 : decode cX9_areAgainst 4 = .ok (.iload_n 1, 1) := by decide +kernel
theorem dX9_areAgainst_5 : decode cX9_areAgainst 5 = .ok (.iconst 0, 1) := by decide +kernel
theorem dX9_areAgainst_6 : decode cX9_areAgainst 6 = .ok (.iadd, 1) := by decide +kernel
theorem dX9_areAgainst_7 : decode cX9_areAgainst 7 = .ok (.iaload, 1) := by decide +kernel
theorem dX9_areAgainst_8 : decode cX9_areAgainst 8 = .ok (.iconst 5, 1) := by decide +kernel
theorem dX9_areAgainst_9 : decode cX9_areAgainst 9 = .ok (.if_icmp .eq 24, 3) := by decide +kernel
theorem dX9_areAgainst_12 : decode cX9_areAgainst 12 = .ok (.aload_n 0, 1) := by decide +kernel
theorem dX9_areAgainst_13 : decode cX9_areAgainst 13 = .ok (.getfield 7, 3) := by decide +kernel
theorem dX9_areAgainst_16 : decode cX9_areAgainst 16 = .ok (.iload_n 2, 1) := by decide +kernel
theorem dX9_areAgainst_17 : decode cX9_areAgainst 17 = .ok (.iconst 0, 1) := by decide +kernel
theorem dX9_areAgainst_18 : decode cX9_areAgainst 18 = .ok (.iadd, 1) := by decide +kernel
theorem dX9_areAgainst_19 : decode cX9_areAgainst 19 = .ok (.iaload, 1) := by decide +kernel
theorem dX9_areAgainst_20 : decode cX9_areAgainst 20 = .ok (.iconst 5, 1) := by decide +kernel
theorem dX9_areAgainst_21 : decode cX9_areAgainst 21 = .ok (.if_icmp .eq 12, 3) := by decide +kernel
theorem dX9_areAgainst_24 : decode cX9_areAgainst 24 = .ok (.aload_n 0, 1) := by decide +kernel
theorem dX9_areAgainst_25 : decode cX9_areAgainst 25 = .ok (.iload_n 1, 1) := by decide +kernel
theorem dX9_areAgainst_26 : decode cX9_areAgainst 26 = .ok (.iload_n 2, 1) := by decide +kernel
theorem dX9_areAgainst_27 : decode cX9_areAgainst 27 = .ok (.invokevirtual 60, 3) := by decide +kernel
theorem dX9_areAgainst_30 : decode cX9_areAgainst 30 = .ok (.ifCond .eq 5, 3) := by decide +kernel
theorem dX9_areAgainst_33 : decode cX9_areAgainst 33 = .ok (.iconst 0, 1) := by decide +kernel
theorem dX9_areAgainst_34 : decode cX9_areAgainst 34 = .ok (.ireturn, 1) := by decide +kernel
theorem dX9_areAgainst_35 : decode cX9_areAgainst 35 = .ok (.aload_n 0, 1) := by decide +kernel
theorem dX9_areAgainst_36 : decode cX9_areAgainst 36 = .ok (.getfield 7, 3) := by decide +kernel
theorem dX9_areAgainst_39 : decode cX9_areAgainst 39 = .ok (.iload_n 1, 1) := by decide +kernel
theorem dX9_areAgainst_40 : decode cX9_areAgainst 40 = .ok (.iconst 0, 1) := by decide +kernel
theorem dX9_areAgainst_41 : decode cX9_areAgainst 41 = .ok (.iadd, 1) := by decide +kernel
theorem dX9_areAgainst_42 : decode cX9_areAgainst 42 = .ok (.iaload, 1) := by decide +kernel
theorem dX9_areAgainst_43 : decode cX9_areAgainst 43 = .ok (.iconst 1, 1) := by decide +kernel
theorem dX9_areAgainst_44 : decode cX9_areAgainst 44 = .ok (.if_icmp .ne 40, 3) := by decide +kernel
theorem dX9_areAgainst_47 : decode cX9_areAgainst 47 = .ok (.aload_n 0, 1) := by decide +kernel
theorem dX9_areAgainst_48 : decode cX9_areAgainst 48 = .ok (.getfield 7, 3) := by decide +kernel
theorem dX9_areAgainst_51 : decode cX9_areAgainst 51 = .ok (.iload_n 2, 1) := by decide +kernel
theorem dX9_areAgainst_52 : decode cX9_areAgainst 52 = .ok (.iconst 0, 1) := by decide +kernel
theorem dX9_areAgainst_53 : decode cX9_areAgainst 53 = .ok (.iadd, 1) := by decide +kernel
theorem dX9_areAgainst_54 : decode cX9_areAgainst 54 = .ok (.iaload, 1) := by decide +kernel
theorem dX9_areAgainst_55 : decode cX9_areAgainst 55 = .ok (.iconst 1, 1) := by decide +kernel
theorem dX9_areAgainst_56 : decode cX9_areAgainst 56 = .ok (.if_icmp .ne 28, 3) := by decide +kernel
theorem dX9_areAgainst_59 : decode cX9_areAgainst 59 = .ok (.aload_n 0, 1) := by decide +kernel
theorem dX9_areAgainst_60 : decode cX9_areAgainst 60 = .ok (.getfield 7, 3) := by decide +kernel
theorem dX9_areAgainst_63 : decode cX9_areAgainst 63 = .ok (.iload_n 1, 1) := by decide +kernel
theorem dX9_areAgainst_64 : decode cX9_areAgainst 64 = .ok (.iconst 1, 1) := by decide +kernel
theorem dX9_areAgainst_65 : decode cX9_areAgainst 65 = .ok (.iadd, 1) := by decide +kernel
theorem dX9_areAgainst_66 : decode cX9_areAgainst 66 = .ok (.iaload, 1) := by decide +kernel
theorem dX9_areAgainst_67 : decode cX9_areAgainst 67 = .ok (.aload_n 0, 1) := by decide +kernel
theorem dX9_areAgainst_68 : decode cX9_areAgainst 68 = .ok (.getfield 7, 3) := by decide +kernel
theorem dX9_areAgainst_71 : decode cX9_areAgainst 71 = .ok (.iload_n 2, 1) := by decide +kernel
theorem dX9_areAgainst_72 : decode cX9_areAgainst 72 = .ok (.iconst 1, 1) := by decide +kernel
theorem dX9_areAgainst_73 : decode cX9_areAgainst 73 = .ok (.iadd, 1) := by decide +kernel
theorem dX9_areAgainst_74 : decode cX9_areAgainst 74 = .ok (.iaload, 1) := by decide +kernel
theorem dX9_areAgainst_75 : decode cX9_areAgainst 75 = .ok (.if_icmp .ne 7, 3) := by decide +kernel
theorem dX9_areAgainst_78 : decode cX9_areAgainst 78 = .ok (.iconst 1, 1) := by decide +kernel
theorem dX9_areAgainst_79 : decode cX9_areAgainst 79 = .ok (.goto 4, 3) := by decide +kernel
theorem dX9_areAgainst_82 : decode cX9_areAgainst 82 = .ok (.iconst 0, 1) := by decide +kernel
theorem dX9_areAgainst_83 : decode cX9_areAgainst 83 = .ok (.ireturn, 1) := by decide +kernel
theorem dX9_areAgainst_84 : decode cX9_areAgainst 84 = .ok (.aload_n 0, 1) := by decide +kernel
theorem dX9_areAgainst_85 : decode cX9_areAgainst 85 = .ok (.getfield 7, 3) := by decide +kernel
theorem dX9_areAgainst_88 : decode cX9_areAgainst 88 = .ok (.iload_n 1, 1) := by decide +kernel
theorem dX9_areAgainst_89 : decode cX9_areAgainst 89 = .ok (.iconst 1, 1) := by decide +kernel
theorem dX9_areAgainst_90 : decode cX9_areAgainst 90 = .ok (.iadd, 1) := by decide +kernel
theorem dX9_areAgainst_91 : decode cX9_areAgainst 91 = .ok (.iaload, 1) := by decide +kernel
theorem dX9_areAgainst_92 : decode cX9_areAgainst 92 = .ok (.aload_n 0, 1) := by decide +kernel
theorem dX9_areAgainst_93 : decode cX9_areAgainst 93 = .ok (.getfield 7, 3) := by decide +kernel
theorem dX9_areAgainst_96 : decode cX9_areAgainst 96 = .ok (.iload_n 2, 1) := by decide +kernel
theorem dX9_areAgainst_97 : decode cX9_areAgainst 97 = .ok (.iconst 1, 1) := by decide +kernel
theorem dX9_areAgainst_98 : decode cX9_areAgainst 98 = .ok (.iadd, 1) := by decide +kernel
theorem dX9_areAgainst_99 : decode cX9_areAgainst 99 = .ok (.iaload, 1) := by decide +kernel
theorem dX9_areAgainst_100 : decode cX9_areAgainst 100 = .ok (.if_icmp .le 14, 3) := by decide +kernel
theorem dX9_areAgainst_103 : decode cX9_areAgainst 103 = .ok (.aload_n 0, 1) := by decide +kernel
theorem dX9_areAgainst_104 : decode cX9_areAgainst 104 = .ok (.getfield 7, 3) := by decide +kernel
theorem dX9_areAgainst_107 : decode cX9_areAgainst 107 = .ok (.iload_n 1, 1) := by decide +kernel
theorem dX9_areAgainst_108 : decode cX9_areAgainst 108 = .ok (.iconst 1, 1) := by decide +kernel
theorem dX9_areAgainst_109 : decode cX9_areAgainst 109 = .ok (.iadd, 1) := by decide +kernel
theorem dX9_areAgainst_110 : decode cX9_areAgainst 110 = .ok (.iaload, 1) := by decide +kernel
theorem dX9_areAgainst_111 : decode cX9_areAgainst 111 = .ok (.goto 11, 3) := by decide +kernel
theorem dX9_areAgainst_114 : decode cX9_areAgainst 114 = .ok (.aload_n 0, 1) := by decide +kernel
theorem dX9_areAgainst_115 : decode cX9_areAgainst 115 = .ok (.getfield 7, 3) := by decide +kernel
theorem dX9_areAgainst_118 : decode cX9_areAgainst 118 = .ok (.iload_n 2, 1) := by decide +kernel
theorem dX9_areAgainst_119 : decode cX9_areAgainst 119 = .ok (.iconst 1, 1) := by decide +kernel
theorem dX9_areAgainst_120 : decode cX9_areAgainst 120 = .ok (.iadd, 1) := by decide +kernel
theorem dX9_areAgainst_121 : decode cX9_areAgainst 121 = .ok (.iaload, 1) := by decide +kernel
theorem dX9_areAgainst_122 : decode cX9_areAgainst 122 = .ok (.istore_n 3, 1) := by decide +kernel
theorem dX9_areAgainst_123 : decode cX9_areAgainst 123 = .ok (.aload_n 0, 1) := by decide +kernel
theorem dX9_areAgainst_124 : decode cX9_areAgainst 124 = .ok (.iload_n 1, 1) := by decide +kernel
theorem dX9_areAgainst_125 : decode cX9_areAgainst 125 = .ok (.invokevirtual 57, 3) := by decide +kernel
theorem dX9_areAgainst_128 : decode cX9_areAgainst 128 = .ok (.aload_n 0, 1) := by decide +kernel
theorem dX9_areAgainst_129 : decode cX9_areAgainst 129 = .ok (.iload_n 2, 1) := by decide +kernel
theorem dX9_areAgainst_130 : decode cX9_areAgainst 130 = .ok (.invokevirtual 57, 3) := by decide +kernel
theorem dX9_areAgainst_133 : decode cX9_areAgainst 133 = .ok (.if_icmp .ge 11, 3) := by decide +kernel
theorem dX9_areAgainst_136 : decode cX9_areAgainst 136 = .ok (.aload_n 0, 1) := by decide +kernel
theorem dX9_areAgainst_137 : decode cX9_areAgainst 137 = .ok (.iload_n 1, 1) := by decide +kernel
theorem dX9_areAgainst_138 : decode cX9_areAgainst 138 = .ok (.invokevirtual 57, 3) := by decide +kernel
theorem dX9_areAgainst_141 : decode cX9_areAgainst 141 = .ok (.goto 8, 3) := by decide +kernel
theorem dX9_areAgainst_144 : decode cX9_areAgainst 144 = .ok (.aload_n 0, 1) := by decide +kernel
theorem dX9_areAgainst_145 : decode cX9_areAgainst 145 = .ok (.iload_n 2, 1) := by decide +kernel
theorem dX9_areAgainst_146 : decode cX9_areAgainst 146 = .ok (.invokevirtual 57, 3) := by decide +kernel
theorem dX9_areAgainst_149 : decode cX9_areAgainst 149 = .ok (.istore 4, 2) := by decide +kernel
theorem dX9_areAgainst_151 : decode cX9_areAgainst 151 = .ok (.iload_n 3, 1) := by decide +kernel
theorem dX9_areAgainst_152 : decode cX9_areAgainst 152 = .ok (.iload 4, 2) := by decide +kernel
theorem dX9_areAgainst_154 : decode cX9_areAgainst 154 = .ok (.if_icmp .lt 21, 3) := by decide +kernel
theorem dX9_areAgainst_157 : decode cX9_areAgainst 157 = .ok (.aload_n 0, 1) := by decide +kernel
theorem dX9_areAgainst_158 : decode cX9_areAgainst 158 = .ok (.iload_n 1, 1) := by decide +kernel
theorem dX9_areAgainst_159 : decode cX9_areAgainst 159 = .ok (.iload_n 2, 1) := by decide +kernel
theorem dX9_areAgainst_160 : decode cX9_areAgainst 160 = .ok (.invokevirtual 64, 3) := by decide +kernel
theorem dX9_areAgainst_163 : decode cX9_areAgainst 163 = .ok (.ifCond .ne 12, 3) := by decide +kernel
theorem dX9_areAgainst_166 : decode cX9_areAgainst 166 = .ok (.aload_n 0, 1) := by decide +kernel
theorem dX9_areAgainst_167 : decode cX9_areAgainst 167 = .ok (.iload_n 2, 1) := by decide +kernel
theorem dX9_areAgainst_168 : decode cX9_areAgainst 168 = .ok (.iload_n 1, 1) := by decide +kernel
theorem dX9_areAgainst_169 : decode cX9_areAgainst 169 = .ok (.invokevirtual 64, 3) := by decide +kernel
theorem dX9_areAgainst_172 : decode cX9_areAgainst 172 = .ok (.ifCond .eq 7, 3) := by decide +kernel
theorem dX9_areAgainst_175 : decode cX9_areAgainst 175 = .ok (.iconst 1, 1) := by decide +kernel
theorem dX9_areAgainst_176 : decode cX9_areAgainst 176 = .ok (.goto 4, 3) := by decide +kernel
theorem dX9_areAgainst_179 : decode cX9_areAgainst 179 = .ok (.iconst 0, 1) := by decide +kernel
theorem dX9_areAgainst_180 : decode cX9_areAgainst 180 = .ok (.ireturn, 1) := by decide +kernel
set_option maxRecDepth 20000 in
theorem ggX9_likeOf_X9_listed : GoodIn wsX9_likeOf wsX9_listed := goodIn_r _ [5] (by decide +kernel) (by decide +kernel)
set_option maxRecDepth 20000 in
theorem gX9_likeOf_X9_listed : GoodIn wsX9_likeOf (va_wsS RX9 67 yX9_listed wsX9_listed) := goodIn_app (goodIn_of _ (by decide +kernel)) ggX9_likeOf_X9_listed
set_option maxRecDepth 20000 in
theorem ggX9_likeOf_X9_areLike : GoodIn wsX9_likeOf wsX9_areLike := goodIn_r _ [9, 1, 10, 11, 12, 13, 14, 15, 16, 17, 18, 19, 20] (by decide +kernel) (by decide +kernel)
set_option maxRecDepth 20000 in
theorem gX9_likeOf_X9_areLike : GoodIn wsX9_likeOf (wsV RX9 60 RX9 yX9_areLike wsX9_areLike) := goodIn_app (goodIn_of _ (by decide +kernel)) ggX9_likeOf_X9_areLike
theorem dX9_likeOf_0 : decode cX9_likeOf 0 = .ok (.iconst 0, 1) := by decide +kernel
theorem dX9_likeOf_1 : decode cX9_likeOf 1 = .ok (.istore_n 2, 1) := by decide +kernel
theorem dX9_likeOf_2 : decode cX9_likeOf 2 = .ok (.iload_n 2, 1) := by decide +kernel
theorem dX9_likeOf_3 : decode cX9_likeOf 3 = .ok (.aload_n 0, 1) := by decide +kernel
theorem dX9_likeOf_4 : decode cX9_likeOf 4 = .ok (.getfield 7, 3) := by decide +kernel
theorem dX9_likeOf_7 : decode cX9_likeOf 7 = .ok (.iconst 3, 1) := by decide +kernel
theorem dX9_likeOf_8 : decode cX9_likeOf 8 = .ok (.iaload, 1) := by decide +kernel
theorem dX9_likeOf_9 : decode cX9_likeOf 9 = .ok (.if_icmp .ge 23, 3) := by decide +kernel
theorem dX9_likeOf_12 : decode cX9_likeOf 12 = .ok (.aload_n 0, 1) := by decide +kernel
theorem dX9_likeOf_13 : decode cX9_likeOf 13 = .ok (.iload_n 1, 1) := by decide +kernel
theorem dX9_likeOf_14 : decode cX9_likeOf 14 = .ok (.iload_n 2, 1) := by decide +kernel
theorem dX9_likeOf_15 : decode cX9_likeOf 15 = .ok (.invokestatic 67, 3) := by decide +kernel
theorem dX9_likeOf_18 : decode cX9_likeOf 18 = .ok (.invokevirtual 60, 3) := by decide +kernel
theorem dX9_likeOf_21 : decode cX9_likeOf 21 = .ok (.ifCond .eq 5, 3) := by decide +kernel
theorem dX9_likeOf_24 : decode cX9_likeOf 24 = .ok (.iload_n 2, 1) := by decide +kernel
theorem dX9_likeOf_25 : decode cX9_likeOf 25 = .ok (.ireturn, 1) := by decide +kernel
theorem dX9_likeOf_26 : decode cX9_likeOf 26 = .ok (.iinc 2 1, 3) := by decide +kernel
theorem dX9_likeOf_29 : decode cX9_likeOf 29 = .ok (.goto (-27), 3) := by decide +kernel
theorem dX9_likeOf_32 : decode cX9_likeOf 32 = .ok (.bipush (-4), 2) := by decide +kernel
theorem dX9_likeOf_34 : decode cX9_likeOf 34 = .ok (.ireturn, 1) := by decide +kernel
set_option maxRecDepth 20000 in
theorem ggX9_isBarred_X9_listed : GoodIn wsX9_isBarred wsX9_listed := goodIn_r _ [5] (by decide +kernel) (by decide +kernel)
set_option maxRecDepth 20000 in
theorem gX9_isBarred_X9_listed : GoodIn wsX9_isBarred (va_wsS RX9 67 yX9_listed wsX9_listed) := goodIn_app (goodIn_of _ (by decide +kernel)) ggX9_isBarred_X9_listed
set_option maxRecDepth 20000 in
theorem ggX9_isBarred_X9_areAgainst : GoodIn wsX9_isBarred wsX9_areAgainst := goodIn_r _ [9, 1, 10, 11, 12, 4, 13, 14, 15, 16, 17, 18, 19, 20, 21, 22, 23, 24, 25, 26, 27, 28, 29, 30, 31, 32] (by decide +kernel) (by decide +kernel)
set_option maxRecDepth 20000 in
theorem gX9_isBarred_X9_areAgainst : GoodIn wsX9_isBarred (wsV RX9 70 RX9 yX9_areAgainst wsX9_areAgainst) := goodIn_app (goodIn_of _ (by decide +kernel)) ggX9_isBarred_X9_areAgainst
theorem dX9_isBarred_0 : decode cX9_isBarred 0 = .ok (.iconst 0, 1) := by decide +kernel
theorem dX9_isBarred_1 : decode cX9_isBarred 1 = .ok (.istore_n 2, 1) := by decide +kernel
theorem dX9_isBarred_2 : decode cX9_isBarred 2 = .ok (.iconst 0, 1) := by decide +kernel
theorem dX9_isBarred_3 : decode cX9_isBarred 3 = .ok (.istore_n 3, 1) := by decide +kernel
theorem dX9_isBarred_4 : decode cX9_isBarred 4 = .ok (.iload_n 3, 1) := by decide +kernel
theorem dX9_isBarred_5 : decode cX9_isBarred 5 = .ok (.aload_n 0, 1) := by decide +kernel
theorem dX9_isBarred_6 : decode cX9_isBarred 6 = .ok (.getfield 7, 3) := by decide +kernel
theorem dX9_isBarred_9 : decode cX9_isBarred 9 = .ok (.iconst 3, 1) := by decide +kernel
theorem dX9_isBarred_10 : decode cX9_isBarred 10 = .ok (.iaload, 1) := by decide +kernel
theorem dX9_isBarred_11 : decode cX9_isBarred 11 = .ok (.if_icmp .ge 46, 3) := by decide +kernel
theorem dX9_isBarred_14 : decode cX9_isBarred 14 = .ok (.iload_n 2, 1) := by decide +kernel
theorem dX9_isBarred_15 : decode cX9_isBarred 15 = .ok (.ifCond .ne 30, 3) := by decide +kernel
theorem dX9_isBarred_18 : decode cX9_isBarred 18 = .ok (.aload_n 0, 1) := by decide +kernel
theorem dX9_isBarred_19 : decode cX9_isBarred 19 = .ok (.getfield 7, 3) := by decide +kernel
theorem dX9_isBarred_22 : decode cX9_isBarred 22 = .ok (.iload_n 3, 1) := by decide +kernel
theorem dX9_isBarred_23 : decode cX9_isBarred 23 = .ok (.invokestatic 67, 3) := by decide +kernel
theorem dX9_isBarred_26 : decode cX9_isBarred 26 = .ok (.iconst 4, 1) := by decide +kernel
theorem dX9_isBarred_27 : decode cX9_isBarred 27 = .ok (.iadd, 1) := by decide +kernel
theorem dX9_isBarred_28 : decode cX9_isBarred 28 = .ok (.iaload, 1) := by decide +kernel
theorem dX9_isBarred_29 : decode cX9_isBarred 29 = .ok (.iconst 1, 1) := by decide +kernel
theorem dX9_isBarred_30 : decode cX9_isBarred 30 = .ok (.if_icmp .ne 19, 3) := by decide +kernel
theorem dX9_isBarred_33 : decode cX9_isBarred 33 = .ok (.aload_n 0, 1) := by decide +kernel
theorem dX9_isBarred_34 : decode cX9_isBarred 34 = .ok (.iload_n 1, 1) := by decide +kernel
theorem dX9_isBarred_35 : decode cX9_isBarred 35 = .ok (.iload_n 3, 1) := by decide +kernel
theorem dX9_isBarred_36 : decode cX9_isBarred 36 = .ok (.invokestatic 67, 3) := by decide +kernel
theorem dX9_isBarred_39 : decode cX9_isBarred 39 = .ok (.invokevirtual 70, 3) := by decide +kernel
theorem dX9_isBarred_42 : decode cX9_isBarred 42 = .ok (.ifCond .eq 7, 3) := by decide +kernel
theorem dX9_isBarred_45 : decode cX9_isBarred 45 = .ok (.iconst 1, 1) := by decide +kernel
theorem dX9_isBarred_46 : decode cX9_isBarred 46 = .ok (.goto 4, 3) := by decide +kernel
theorem dX9_isBarred_49 : decode cX9_isBarred 49 = .ok (.iconst 0, 1) := by decide +kernel
theorem dX9_isBarred_50 : decode cX9_isBarred 50 = .ok (.istore_n 2, 1) := by decide +kernel
theorem dX9_isBarred_51 : decode cX9_isBarred 51 = .ok (.iinc 3 1, 3) := by decide +kernel
theorem dX9_isBarred_54 : decode cX9_isBarred 54 = .ok (.goto (-50), 3) := by decide +kernel
theorem dX9_isBarred_57 : decode cX9_isBarred 57 = .ok (.iload_n 2, 1) := by decide +kernel
theorem dX9_isBarred_58 : decode cX9_isBarred 58 = .ok (.ireturn, 1) := by decide +kernel
set_option maxRecDepth 20000 in
theorem ggX9_comes_X9_likeOf : GoodIn wsX9_comes wsX9_likeOf := goodIn_r _ [6, 1, 7, 8, 5, 9, 10, 11, 12, 13, 14, 15, 16, 17, 18, 19, 20, 21, 22, 23, 24] (by decide +kernel) (by decide +kernel)
set_option maxRecDepth 20000 in
theorem gX9_comes_X9_likeOf : GoodIn wsX9_comes (wsV RX9 73 RX9 yX9_likeOf wsX9_likeOf) := goodIn_app (goodIn_of _ (by decide +kernel)) ggX9_comes_X9_likeOf
set_option maxRecDepth 20000 in
theorem ggX9_comes_X9_listed : GoodIn wsX9_comes wsX9_listed := goodIn_r _ [9] (by decide +kernel) (by decide +kernel)
set_option maxRecDepth 20000 in
theorem gX9_comes_X9_listed : GoodIn wsX9_comes (va_wsS RX9 67 yX9_listed wsX9_listed) := goodIn_app (goodIn_of _ (by decide +kernel)) ggX9_comes_X9_listed
theorem dX9_comes_0 : decode cX9_comes 0 = .ok (.aload_n 0, 1) := by decide +kernel
theorem dX9_comes_1 : decode cX9_comes 1 = .ok (.iload_n 1, 1) := by decide +kernel
theorem dX9_comes_2 : decode cX9_comes 2 = .ok (.invokevirtual 73, 3) := by decide +kernel
theorem dX9_comes_5 : decode cX9_comes 5 = .ok (.istore_n 3, 1) := by decide +kernel
theorem dX9_comes_6 : decode cX9_comes 6 = .ok (.iload_n 3, 1) := by decide +kernel
theorem dX9_comes_7 : decode cX9_comes 7 = .ok (.ifCond .ge 12, 3) := by decide +kernel
theorem dX9_comes_10 : decode cX9_comes 10 = .ok (.aload_n 0, 1) := by decide +kernel
theorem dX9_comes_11 : decode cX9_comes 11 = .ok (.getfield 7, 3) := by decide +kernel
theorem dX9_comes_14 : decode cX9_comes 14 = .ok (.iconst 3, 1) := by decide +kernel
theorem dX9_comes_15 : decode cX9_comes 15 = .ok (.iaload, 1) := by decide +kernel
theorem dX9_comes_16 : decode cX9_comes 16 = .ok (.goto 4, 3) := by decide +kernel
theorem dX9_comes_19 : decode cX9_comes 19 = .ok (.iload_n 3, 1) := by decide +kernel
theorem dX9_comes_20 : decode cX9_comes 20 = .ok (.invokestatic 67, 3) := by decide +kernel
theorem dX9_comes_23 : decode cX9_comes 23 = .ok (.istore 4, 2) := by decide +kernel
theorem dX9_comes_25 : decode cX9_comes 25 = .ok (.iload_n 3, 1) := by decide +kernel
theorem dX9_comes_26 : decode cX9_comes 26 = .ok (.ifCond .ge 78, 3) := by decide +kernel
theorem dX9_comes_29 : decode cX9_comes 29 = .ok (.iconst 0, 1) := by decide +kernel
theorem dX9_comes_30 : decode cX9_comes 30 = .ok (.istore 5, 2) := by decide +kernel
theorem dX9_comes_32 : decode cX9_comes 32 = .ok (.iload 5, 2) := by decide +kernel
theorem dX9_comes_34 : decode cX9_comes 34 = .ok (.iconst 3, 1) := by decide +kernel
theorem dX9_comes_35 : decode cX9_comes 35 = .ok (.if_icmp .gt 28, 3) := by decide +kernel
theorem dX9_comes_38 : decode cX9_comes 38 = .ok (.aload_n 0, 1) := by decide +kernel
theorem dX9_comes_39 : decode cX9_comes 39 = .ok (.getfield 7, 3) := by decide +kernel
theorem dX9_comes_42 : decode cX9_comes 42 = .ok (.iload 4, 2) := by decide +kernel
theorem dX9_comes_44 : decode cX9_comes 44 = .ok (.iload 5, 2) := by decide +kernel
theorem dX9_comes_46 : decode cX9_comes 46 = .ok (.iadd, 1) := by decide +kernel
theorem dX9_comes_47 : decode cX9_comes 47 = .ok (.aload_n 0, 1) := by decide +kernel
theorem dX9_comes_48 : decode cX9_comes 48 = .ok (.getfield 7, 3) := by decide +kernel
theorem dX9_comes_51 : decode cX9_comes 51 = .ok (.iload_n 1, 1) := by decide +kernel
theorem dX9_comes_52 : decode cX9_comes 52 = .ok (.iload 5, 2) := by decide +kernel
theorem dX9_comes_54 : decode cX9_comes 54 = .ok (.iadd, 1) := by decide +kernel
theorem dX9_comes_55 : decode cX9_comes 55 = .ok (.iaload, 1) := by decide +kernel
theorem dX9_comes_56 : decode cX9_comes 56 = .ok (.iastore, 1) := by decide +kernel
theorem dX9_comes_57 : decode cX9_comes 57 = .ok (.iinc 5 1, 3) := by decide +kernel
theorem dX9_comes_60 : decode cX9_comes 60 = .ok (.goto (-28), 3) := by decide +kernel
theorem dX9_comes_63 : decode cX9_comes 63 = .ok (.aload_n 0, 1) := by decide +kernel
theorem dX9_comes_64 : decode cX9_comes 64 = .ok (.getfield 7, 3) := by decide +kernel
theorem dX9_comes_67 : decode cX9_comes 67 = .ok (.iload 4, 2) := by decide +kernel
theorem dX9_comes_69 : decode cX9_comes 69 = .ok (.iconst 4, 1) := by decide +kernel
theorem dX9_comes_70 : decode cX9_comes 70 = .ok (.iadd, 1) := by decide +kernel
theorem dX9_comes_71 : decode cX9_comes 71 = .ok (.iconst 0, 1) := by decide +kernel
theorem dX9_comes_72 : decode cX9_comes 72 = .ok (.iastore, 1) := by decide +kernel
theorem dX9_comes_73 : decode cX9_comes 73 = .ok (.aload_n 0, 1) := by decide +kernel
theorem dX9_comes_74 : decode cX9_comes 74 = .ok (.getfield 7, 3) := by decide +kernel
theorem dX9_comes_77 : decode cX9_comes 77 = .ok (.iload 4, 2) := by decide +kernel
theorem dX9_comes_79 : decode cX9_comes 79 = .ok (.iconst 5, 1) := by decide +kernel
theorem dX9_comes_80 : decode cX9_comes 80 = .ok (.iadd, 1) := by decide +kernel
theorem dX9_comes_81 : decode cX9_comes 81 = .ok (.iconst 0, 1) := by decide +kernel
theorem dX9_comes_82 : decode cX9_comes 82 = .ok (.iastore, 1) := by decide +kernel
theorem dX9_comes_83 : decode cX9_comes 83 = .ok (.aload_n 0, 1) := by decide +kernel
theorem dX9_comes_84 : decode cX9_comes 84 = .ok (.getfield 7, 3) := by decide +kernel
theorem dX9_comes_87 : decode cX9_comes 87 = .ok (.iload 4, 2) := by decide +kernel
theorem dX9_comes_89 : decode cX9_comes 89 = .ok (.bipush 6, 2) := by decide +kernel
theorem dX9_comes_91 : decode cX9_comes 91 = .ok (.iadd, 1) := by decide +kernel
theorem dX9_comes_92 : decode cX9_comes 92 = .ok (.iconst 0, 1) := by decide +kernel
theorem dX9_comes_93 : decode cX9_comes 93 = .ok (.iastore, 1) := by decide +kernel
theorem dX9_comes_94 : decode cX9_comes 94 = .ok (.aload_n 0, 1) := by decide +kernel
theorem dX9_comes_95 : decode cX9_comes 95 = .ok (.getfield 7, 3) := by decide +kernel
theorem dX9_comes_98 : decode cX9_comes 98 = .ok (.iconst 3, 1) := by decide +kernel
theorem dX9_comes_99 : decode cX9_comes 99 = .ok (.dup2, 1) := by decide +kernel
theorem dX9_comes_100 : decode cX9_comes 100 = .ok (.iaload, 1) := by decide +kernel
theorem dX9_comes_101 : decode cX9_comes 101 = .ok (.iconst 1, 1) := by decide +kernel
theorem dX9_comes_102 : decode cX9_comes 102 = .ok (.iadd, 1) := by decide +kernel
theorem dX9_comes_103 : decode cX9_comes 103 = .ok (.iastore, 1) := by decide +kernel
theorem dX9_comes_104 : decode cX9_comes 104 = .ok (.aload_n 0, 1) := by decide +kernel
theorem dX9_comes_105 : decode cX9_comes 105 = .ok (.getfield 7, 3) := by decide +kernel
theorem dX9_comes_108 : decode cX9_comes 108 = .ok (.iload 4, 2) := by decide +kernel
theorem dX9_comes_110 : decode cX9_comes 110 = .ok (.iconst 5, 1) := by decide +kernel
theorem dX9_comes_111 : decode cX9_comes 111 = .ok (.iadd, 1) := by decide +kernel
theorem dX9_comes_112 : decode cX9_comes 112 = .ok (.dup2, 1) := by decide +kernel
theorem dX9_comes_113 : decode cX9_comes 113 = .ok (.iaload, 1) := by decide +kernel
theorem dX9_comes_114 : decode cX9_comes 114 = .ok (.iconst 1, 1) := by decide +kernel
theorem dX9_comes_115 : decode cX9_comes 115 = .ok (.iadd, 1) := by decide +kernel
theorem dX9_comes_116 : decode cX9_comes 116 = .ok (.iastore, 1) := by decide +kernel
theorem dX9_comes_117 : decode cX9_comes 117 = .ok (.aload_n 0, 1) := by decide +kernel
theorem dX9_comes_118 : decode cX9_comes 118 = .ok (.getfield 7, 3) := by decide +kernel
theorem dX9_comes_121 : decode cX9_comes 121 = .ok (.iload 4, 2) := by decide +kernel
theorem dX9_comes_123 : decode cX9_comes 123 = .ok (.bipush 6, 2) := by decide +kernel
theorem dX9_comes_125 : decode cX9_comes 125 = .ok (.iadd, 1) := by decide +kernel
theorem dX9_comes_126 : decode cX9_comes 126 = .ok (.dup2, 1) := by decide +kernel
theorem dX9_comes_127 : decode cX9_comes 127 = .ok (.iaload, 1) := by decide +kernel
theorem dX9_comes_128 : decode cX9_comes 128 = .ok (.iconst 1, 1) := by decide +kernel
theorem dX9_comes_129 : decode cX9_comes 129 = .ok (.iload_n 2, 1) := by decide +kernel
theorem dX9_comes_130 : decode cX9_comes 130 = .ok (.ishl, 1) := by decide +kernel
theorem dX9_comes_131 : decode cX9_comes 131 = .ok (.ior, 1) := by decide +kernel
theorem dX9_comes_132 : decode cX9_comes 132 = .ok (.iastore, 1) := by decide +kernel
theorem dX9_comes_133 : decode cX9_comes 133 = .ok (.iload_n 3, 1) := by decide +kernel
theorem dX9_comes_134 : decode cX9_comes 134 = .ok (.ifCond .lt 7, 3) := by decide +kernel
theorem dX9_comes_137 : decode cX9_comes 137 = .ok (.iconst 1, 1) := by decide +kernel
theorem dX9_comes_138 : decode cX9_comes 138 = .ok (.goto 4, 3) := by decide +kernel
theorem dX9_comes_141 : decode cX9_comes 141 = .ok (.iconst 0, 1) := by decide +kernel
theorem dX9_comes_142 : decode cX9_comes 142 = .ok (.ireturn, 1) := by decide +kernel
set_option maxRecDepth 20000 in
theorem ggX9_merge_X9_isSheet : GoodIn wsX9_merge wsX9_isSheet := goodIn_r _ [6, 1, 7, 8, 5, 9, 41, 42, 43, 44, 45, 46, 47, 48, 49, 50, 51] (by decide +kernel) (by decide +kernel)
set_option maxRecDepth 20000 in
theorem gX9_merge_X9_isSheet : GoodIn wsX9_merge (wsV RX9 51 RX9 yX9_isSheet wsX9_isSheet) := goodIn_app (goodIn_of _ (by decide +kernel)) ggX9_merge_X9_isSheet
set_option maxRecDepth 20000 in
theorem ggX9_merge_X9_of : GoodIn wsX9_merge wsX9_of := goodIn_r _ [13, 1, 41, 42, 43, 44, 45, 46, 47, 48, 49, 50, 51] (by decide +kernel) (by decide +kernel)
set_option maxRecDepth 20000 in
theorem gX9_merge_X9_of : GoodIn wsX9_merge (wsV RX9 36 RX9 yX9_of wsX9_of) := goodIn_app (goodIn_of _ (by decide +kernel)) ggX9_merge_X9_of
set_option maxRecDepth 20000 in
theorem ggX9_merge_X9_records : GoodIn wsX9_merge wsX9_records := goodIn_r _ [17, 18, 19, 1, 41, 42, 43, 44, 45, 46, 47, 48, 49, 50, 51] (by decide +kernel) (by decide +kernel)
set_option maxRecDepth 20000 in
theorem gX9_merge_X9_records : GoodIn wsX9_merge (wsV RX9 33 RX9 yX9_records wsX9_records) := goodIn_app (goodIn_of _ (by decide +kernel)) ggX9_merge_X9_records
set_option maxRecDepth 20000 in
theorem ggX9_merge_X9_markOf : GoodIn wsX9_merge wsX9_markOf := goodIn_r _ [22] (by decide +kernel) (by decide +kernel)
set_option maxRecDepth 20000 in
theorem gX9_merge_X9_markOf : GoodIn wsX9_merge (va_wsS RX9 76 yX9_markOf wsX9_markOf) := goodIn_app (goodIn_of _ (by decide +kernel)) ggX9_merge_X9_markOf
set_option maxRecDepth 20000 in
theorem ggX9_merge_X9_comes : GoodIn wsX9_merge wsX9_comes := goodIn_r _ [26, 1, 27, 28, 29, 5, 30, 31, 32, 33, 34, 35, 36, 37, 41, 42, 43, 44, 45, 46, 47, 48, 49, 50, 51] (by decide +kernel) (by decide +kernel)
set_option maxRecDepth 20000 in
theorem gX9_merge_X9_comes : GoodIn wsX9_merge (wsV RX9 79 RX9 yX9_comes wsX9_comes) := goodIn_app (goodIn_of _ (by decide +kernel)) ggX9_merge_X9_comes
set_option maxRecDepth 20000 in
theorem ggX9_merge_X9_sheetAt : GoodIn wsX9_merge wsX9_sheetAt := goodIn_r _ [40] (by decide +kernel) (by decide +kernel)
set_option maxRecDepth 20000 in
theorem gX9_merge_X9_sheetAt : GoodIn wsX9_merge (va_wsS RX9 47 yX9_sheetAt wsX9_sheetAt) := goodIn_app (goodIn_of _ (by decide +kernel)) ggX9_merge_X9_sheetAt
theorem dX9_merge_0 : decode cX9_merge 0 = .ok (.aload_n 0, 1) := by decide +kernel
theorem dX9_merge_1 : decode cX9_merge 1 = .ok (.iload_n 1, 1) := by decide +kernel
theorem dX9_merge_2 : decode cX9_merge 2 = .ok (.invokevirtual 51, 3) := by decide +kernel
theorem dX9_merge_5 : decode cX9_merge 5 = .ok (.ifCond .ne 5, 3) := by decide +kernel
theorem dX9_merge_8 : decode cX9_merge 8 = .ok (.iconst (-1), 1) := by decide +kernel
theorem dX9_merge_9 : decode cX9_merge 9 = .ok (.ireturn, 1) := by decide +kernel
theorem dX9_merge_10 : decode cX9_merge 10 = .ok (.aload_n 0, 1) := by decide +kernel
theorem dX9_merge_11 : decode cX9_merge 11 = .ok (.iload_n 1, 1) := by decide +kernel
theorem dX9_merge_12 : decode cX9_merge 12 = .ok (.iconst 1, 1) := by decide +kernel
theorem dX9_merge_13 : decode cX9_merge 13 = .ok (.invokevirtual 36, 3) := by decide +kernel
theorem dX9_merge_16 : decode cX9_merge 16 = .ok (.iconst 1, 1) := by decide +kernel
theorem dX9_merge_17 : decode cX9_merge 17 = .ok (.if_icmp .eq 6, 3) := by decide +kernel
theorem dX9_merge_20 : decode cX9_merge 20 = .ok (.bipush (-2), 2) := by decide +kernel
theorem dX9_merge_22 : decode cX9_merge 22 = .ok (.ireturn, 1) := by decide +kernel
theorem dX9_merge_23 : decode cX9_merge 23 = .ok (.aload_n 0, 1) := by decide +kernel
theorem dX9_merge_24 : decode cX9_merge 24 = .ok (.invokevirtual 33, 3) := by decide +kernel
theorem dX9_merge_27 : decode cX9_merge 27 = .ok (.aload_n 0, 1) := by decide +kernel
theorem dX9_merge_28 : decode cX9_merge 28 = .ok (.iload_n 1, 1) := by decide +kernel
theorem dX9_merge_29 : decode cX9_merge 29 = .ok (.iconst 0, 1) := by decide +kernel
theorem dX9_merge_30 : decode cX9_merge 30 = .ok (.invokevirtual 36, 3) := by decide +kernel
theorem dX9_merge_33 : decode cX9_merge 33 = .ok (.istore_n 2, 1) := by decide +kernel
theorem dX9_merge_34 : decode cX9_merge 34 = .ok (.iconst 0, 1) := by decide +kernel
theorem dX9_merge_35 : decode cX9_merge 35 = .ok (.istore_n 3, 1) := by decide +kernel
theorem dX9_merge_36 : decode cX9_merge 36 = .ok (.iconst 0, 1) := by decide +kernel
theorem dX9_merge_37 : decode cX9_merge 37 = .ok (.istore 4, 2) := by decide +kernel
theorem dX9_merge_39 : decode cX9_merge 39 = .ok (.iload 4, 2) := by decide +kernel
theorem dX9_merge_41 : decode cX9_merge 41 = .ok (.aload_n 0, 1) := by decide +kernel
theorem dX9_merge_42 : decode cX9_merge 42 = .ok (.iload_n 1, 1) := by decide +kernel
theorem dX9_merge_43 : decode cX9_merge 43 = .ok (.iconst 2, 1) := by decide +kernel
theorem dX9_merge_44 : decode cX9_merge 44 = .ok (.invokevirtual 36, 3) := by decide +kernel
theorem dX9_merge_47 : decode cX9_merge 47 = .ok (.if_icmp .ge 31, 3) := by decide +kernel
theorem dX9_merge_50 : decode cX9_merge 50 = .ok (.iload_n 3, 1) := by decide +kernel
theorem dX9_merge_51 : decode cX9_merge 51 = .ok (.aload_n 0, 1) := by decide +kernel
theorem dX9_merge_52 : decode cX9_merge 52 = .ok (.iload_n 1, 1) := by decide +kernel
theorem dX9_merge_53 : decode cX9_merge 53 = .ok (.iload 4, 2) := by decide +kernel
theorem dX9_merge_55 : decode cX9_merge 55 = .ok (.invokestatic 76, 3) := by decide +kernel
theorem dX9_merge_58 : decode cX9_merge 58 = .ok (.iload_n 2, 1) := by decide +kernel
theorem dX9_merge_59 : decode cX9_merge 59 = .ok (.invokevirtual 79, 3) := by decide +kernel
theorem dX9_merge_62 : decode cX9_merge 62 = .ok (.ifCond .eq 7, 3) := by decide +kernel
theorem dX9_merge_65 : decode cX9_merge 65 = .ok (.iconst 1, 1) := by decide +kernel
theorem dX9_merge_66 : decode cX9_merge 66 = .ok (.goto 4, 3) := by decide +kernel
theorem dX9_merge_69 : decode cX9_merge 69 = .ok (.iconst 0, 1) := by decide +kernel
theorem dX9_merge_70 : decode cX9_merge 70 = .ok (.iadd, 1) := by decide +kernel
theorem dX9_merge_71 : decode cX9_merge 71 = .ok (.istore_n 3, 1) := by decide +kernel
theorem dX9_merge_72 : decode cX9_merge 72 = .ok (.iinc 4 1, 3) := by decide +kernel
theorem dX9_merge_75 : decode cX9_merge 75 = .ok (.goto (-36), 3) := by decide +kernel
theorem dX9_merge_78 : decode cX9_merge 78 = .ok (.aload_n 0, 1) := by decide +kernel
theorem dX9_merge_79 : decode cX9_merge 79 = .ok (.getfield 7, 3) := by decide +kernel
theorem dX9_merge_82 : decode cX9_merge 82 = .ok (.iload_n 1, 1) := by decide +kernel
theorem dX9_merge_83 : decode cX9_merge 83 = .ok (.invokestatic 47, 3) := by decide +kernel
theorem dX9_merge_86 : decode cX9_merge 86 = .ok (.iconst 1, 1) := by decide +kernel
theorem dX9_merge_87 : decode cX9_merge 87 = .ok (.iadd, 1) := by decide +kernel
theorem dX9_merge_88 : decode cX9_merge 88 = .ok (.iconst 3, 1) := by decide +kernel
theorem dX9_merge_89 : decode cX9_merge 89 = .ok (.iastore, 1) := by decide +kernel
theorem dX9_merge_90 : decode cX9_merge 90 = .ok (.aload_n 0, 1) := by decide +kernel
theorem dX9_merge_91 : decode cX9_merge 91 = .ok (.getfield 7, 3) := by decide +kernel
theorem dX9_merge_94 : decode cX9_merge 94 = .ok (.iconst 5, 1) := by decide +kernel
theorem dX9_merge_95 : decode cX9_merge 95 = .ok (.dup2, 1) := by decide +kernel
theorem dX9_merge_96 : decode cX9_merge 96 = .ok (.iaload, 1) := by decide +kernel
theorem dX9_merge_97 : decode cX9_merge 97 = .ok (.iload_n 3, 1) := by decide +kernel
theorem dX9_merge_98 : decode cX9_merge 98 = .ok (.iadd, 1) := by decide +kernel
theorem dX9_merge_99 : decode cX9_merge 99 = .ok (.iastore, 1) := by decide +kernel
theorem dX9_merge_100 : decode cX9_merge 100 = .ok (.aload_n 0, 1) := by decide +kernel
theorem dX9_merge_101 : decode cX9_merge 101 = .ok (.getfield 7, 3) := by decide +kernel
theorem dX9_merge_104 : decode cX9_merge 104 = .ok (.bipush 9, 2) := by decide +kernel
theorem dX9_merge_106 : decode cX9_merge 106 = .ok (.iconst 3, 1) := by decide +kernel
theorem dX9_merge_107 : decode cX9_merge 107 = .ok (.iload_n 2, 1) := by decide +kernel
theorem dX9_merge_108 : decode cX9_merge 108 = .ok (.imul, 1) := by decide +kernel
theorem dX9_merge_109 : decode cX9_merge 109 = .ok (.iadd, 1) := by decide +kernel
theorem dX9_merge_110 : decode cX9_merge 110 = .ok (.iconst 2, 1) := by decide +kernel
theorem dX9_merge_111 : decode cX9_merge 111 = .ok (.iadd, 1) := by decide +kernel
theorem dX9_merge_112 : decode cX9_merge 112 = .ok (.dup2, 1) := by decide +kernel
theorem dX9_merge_113 : decode cX9_merge 113 = .ok (.iaload, 1) := by decide +kernel
theorem dX9_merge_114 : decode cX9_merge 114 = .ok (.aload_n 0, 1) := by decide +kernel
theorem dX9_merge_115 : decode cX9_merge 115 = .ok (.iload_n 1, 1) := by decide +kernel
theorem dX9_merge_116 : decode cX9_merge 116 = .ok (.iconst 2, 1) := by decide +kernel
theorem dX9_merge_117 : decode cX9_merge 117 = .ok (.invokevirtual 36, 3) := by decide +kernel
theorem dX9_merge_120 : decode cX9_merge 120 = .ok (.iadd, 1) := by decide +kernel
theorem dX9_merge_121 : decode cX9_merge 121 = .ok (.iastore, 1) := by decide +kernel
theorem dX9_merge_122 : decode cX9_merge 122 = .ok (.iload_n 3, 1) := by decide +kernel
theorem dX9_merge_123 : decode cX9_merge 123 = .ok (.ireturn, 1) := by decide +kernel
set_option maxRecDepth 20000 in
theorem ggX9_sheetTold_X9_of : GoodIn wsX9_sheetTold wsX9_of := goodIn_r _ [5, 6, 37, 38, 39, 40, 41, 42, 43, 44, 45, 46, 47] (by decide +kernel) (by decide +kernel)
set_option maxRecDepth 20000 in
theorem gX9_sheetTold_X9_of : GoodIn wsX9_sheetTold (wsV RX9 36 RX9 yX9_of wsX9_of) := goodIn_app (goodIn_of _ (by decide +kernel)) ggX9_sheetTold_X9_of
set_option maxRecDepth 20000 in
theorem ggX9_sheetTold_X9_markOf : GoodIn wsX9_sheetTold wsX9_markOf := goodIn_r _ [9] (by decide +kernel) (by decide +kernel)
set_option maxRecDepth 20000 in
theorem gX9_sheetTold_X9_markOf : GoodIn wsX9_sheetTold (va_wsS RX9 76 yX9_markOf wsX9_markOf) := goodIn_app (goodIn_of _ (by decide +kernel)) ggX9_sheetTold_X9_markOf
set_option maxRecDepth 20000 in
theorem ggX9_sheetTold_X9_likeOf : GoodIn wsX9_sheetTold wsX9_likeOf := goodIn_r _ [13, 6, 14, 15, 4, 16, 17, 18, 19, 20, 37, 38, 39, 40, 41, 42, 43, 44, 45, 46, 47] (by decide +kernel) (by decide +kernel)
set_option maxRecDepth 20000 in
theorem gX9_sheetTold_X9_likeOf : GoodIn wsX9_sheetTold (wsV RX9 73 RX9 yX9_likeOf wsX9_likeOf) := goodIn_app (goodIn_of _ (by decide +kernel)) ggX9_sheetTold_X9_likeOf
set_option maxRecDepth 20000 in
theorem ggX9_sheetTold_X9_isBarred : GoodIn wsX9_sheetTold wsX9_isBarred := goodIn_r _ [24, 6, 14, 15, 4, 16, 25, 26, 27, 28, 17, 18, 19, 20, 29, 30, 31, 32, 33, 34, 35, 36, 37, 38, 39, 40, 41, 42, 43, 44, 45, 46, 47] (by decide +kernel) (by decide +kernel)
set_option maxRecDepth 20000 in
theorem gX9_sheetTold_X9_isBarred : GoodIn wsX9_sheetTold (wsV RX9 82 RX9 yX9_isBarred wsX9_isBarred) := goodIn_app (goodIn_of _ (by decide +kernel)) ggX9_sheetTold_X9_isBarred
theorem dX9_sheetTold_0 : decode cX9_sheetTold 0 = .ok (.iload_n 2, 1) := by decide +kernel
theorem dX9_sheetTold_1 : decode cX9_sheetTold 1 = .ok (.iconst 3, 1) := by decide +kernel
theorem dX9_sheetTold_2 : decode cX9_sheetTold 2 = .ok (.if_icmp .ge 10, 3) := by decide +kernel
theorem dX9_sheetTold_5 : decode cX9_sheetTold 5 = .ok (.aload_n 0, 1) := by decide +kernel
theorem dX9_sheetTold_6 : decode cX9_sheetTold 6 = .ok (.iload_n 1, 1) := by decide +kernel
theorem dX9_sheetTold_7 : decode cX9_sheetTold 7 = .ok (.iload_n 2, 1) := by decide +kernel
theorem dX9_sheetTold_8 : decode cX9_sheetTold 8 = .ok (.invokevirtual 36, 3) := by decide +kernel
theorem dX9_sheetTold_11 : decode cX9_sheetTold 11 = .ok (.ireturn, 1) := by decide +kernel
theorem dX9_sheetTold_12 : decode cX9_sheetTold 12 = .ok (.iconst 0, 1) := by decide +kernel
theorem dX9_sheetTold_13 : decode cX9_sheetTold 13 = .ok (.istore_n 3, 1) := by decide +kernel
theorem dX9_sheetTold_14 : decode cX9_sheetTold 14 = .ok (.iconst 0, 1) := by decide +kernel
theorem dX9_sheetTold_15 : decode cX9_sheetTold 15 = .ok (.istore 4, 2) := by decide +kernel
theorem dX9_sheetTold_17 : decode cX9_sheetTold 17 = .ok (.iload 4, 2) := by decide +kernel
theorem dX9_sheetTold_19 : decode cX9_sheetTold 19 = .ok (.aload_n 0, 1) := by decide +kernel
theorem dX9_sheetTold_20 : decode cX9_sheetTold 20 = .ok (.iload_n 1, 1) := by decide +kernel
theorem dX9_sheetTold_21 : decode cX9_sheetTold 21 = .ok (.iconst 2, 1) := by decide +kernel
theorem dX9_sheetTold_22 : decode cX9_sheetTold 22 = .ok (.invokevirtual 36, 3) := by decide +kernel
theorem dX9_sheetTold_25 : decode cX9_sheetTold 25 = .ok (.if_icmp .ge 56, 3) := by decide +kernel
theorem dX9_sheetTold_28 : decode cX9_sheetTold 28 = .ok (.iload_n 1, 1) := by decide +kernel
theorem dX9_sheetTold_29 : decode cX9_sheetTold 29 = .ok (.iload 4, 2) := by decide +kernel
theorem dX9_sheetTold_31 : decode cX9_sheetTold 31 = .ok (.invokestatic 76, 3) := by decide +kernel
theorem dX9_sheetTold_34 : decode cX9_sheetTold 34 = .ok (.istore 5, 2) := by decide +kernel
theorem dX9_sheetTold_36 : decode cX9_sheetTold 36 = .ok (.iload_n 3, 1) := by decide +kernel
theorem dX9_sheetTold_37 : decode cX9_sheetTold 37 = .ok (.iload_n 2, 1) := by decide +kernel
theorem dX9_sheetTold_38 : decode cX9_sheetTold 38 = .ok (.iconst 3, 1) := by decide +kernel
theorem dX9_sheetTold_39 : decode cX9_sheetTold 39 = .ok (.if_icmp .ne 20, 3) := by decide +kernel
theorem dX9_sheetTold_42 : decode cX9_sheetTold 42 = .ok (.aload_n 0, 1) := by decide +kernel
theorem dX9_sheetTold_43 : decode cX9_sheetTold 43 = .ok (.iload 5, 2) := by decide +kernel
theorem dX9_sheetTold_45 : decode cX9_sheetTold 45 = .ok (.invokevirtual 73, 3) := by decide +kernel
theorem dX9_sheetTold_48 : decode cX9_sheetTold 48 = .ok (.ifCond .lt 7, 3) := by decide +kernel
theorem dX9_sheetTold_51 : decode cX9_sheetTold 51 = .ok (.iconst 1, 1) := by decide +kernel
theorem dX9_sheetTold_52 : decode cX9_sheetTold 52 = .ok (.goto 21, 3) := by decide +kernel
theorem dX9_sheetTold_55 : decode cX9_sheetTold 55 = .ok (.iconst 0, 1) := by decide +kernel
theorem dX9_sheetTold_56 : decode cX9_sheetTold 56 = .ok (.goto 17, 3) := by decide +kernel
theorem dX9_sheetTold_59 : decode cX9_sheetTold 59 = .ok (.aload_n 0, 1) := by decide +kernel
theorem dX9_sheetTold_60 : decode cX9_sheetTold 60 = .ok (.iload 5, 2) := by decide +kernel
theorem dX9_sheetTold_62 : decode cX9_sheetTold 62 = .ok (.invokevirtual 82, 3) := by decide +kernel
theorem dX9_sheetTold_65 : decode cX9_sheetTold 65 = .ok (.ifCond .eq 7, 3) := by decide +kernel
theorem dX9_sheetTold_68 : decode cX9_sheetTold 68 = .ok (.iconst 1, 1) := by decide +kernel
theorem dX9_sheetTold_69 : decode cX9_sheetTold 69 = .ok (.goto 4, 3) := by decide +kernel
theorem dX9_sheetTold_72 : decode cX9_sheetTold 72 = .ok (.iconst 0, 1) := by decide +kernel
theorem dX9_sheetTold_73 : decode cX9_sheetTold 73 = .ok (.iadd, 1) := by decide +kernel
theorem dX9_sheetTold_74 : decode cX9_sheetTold 74 = .ok (.istore_n 3, 1) := by decide +kernel
theorem dX9_sheetTold_75 : decode cX9_sheetTold 75 = .ok (.iinc 4 1, 3) := by decide +kernel
theorem dX9_sheetTold_78 : decode cX9_sheetTold 78 = .ok (.goto (-61), 3) := by decide +kernel
theorem dX9_sheetTold_81 : decode cX9_sheetTold 81 = .ok (.iload_n 3, 1) := by decide +kernel
theorem dX9_sheetTold_82 : decode cX9_sheetTold 82 = .ok (.ireturn, 1) := by decide +kernel
set_option maxRecDepth 20000 in
theorem ggX9_sheet_X9_isSheet : GoodIn wsX9_sheet wsX9_isSheet := goodIn_r _ [5, 6, 7, 8, 4, 9, 48, 49, 50, 51, 52, 53, 54, 55, 56, 57, 58] (by decide +kernel) (by decide +kernel)
set_option maxRecDepth 20000 in
theorem gX9_sheet_X9_isSheet : GoodIn wsX9_sheet (wsV RX9 51 RX9 yX9_isSheet wsX9_isSheet) := goodIn_app (goodIn_of _ (by decide +kernel)) ggX9_sheet_X9_isSheet
set_option maxRecDepth 20000 in
theorem ggX9_sheet_X9_in : GoodIn wsX9_sheet wsX9_in := goodIn_r _ [9] (by decide +kernel) (by decide +kernel)
set_option maxRecDepth 20000 in
theorem gX9_sheet_X9_in : GoodIn wsX9_sheet (va_wsS RX9 29 yX9_in wsX9_in) := goodIn_app (goodIn_of _ (by decide +kernel)) ggX9_sheet_X9_in
set_option maxRecDepth 20000 in
theorem ggX9_sheet_X9_sheetTold : GoodIn wsX9_sheet wsX9_sheetTold := goodIn_r _ [13, 14, 15, 16, 4, 17, 6, 18, 19, 20, 21, 22, 23, 24, 25, 26, 27, 28, 29, 30, 31, 32, 33, 34, 35, 36, 37, 38, 39, 40, 41, 42, 43, 44, 45, 46, 47, 48, 49, 50, 51, 52, 53, 54, 55, 56, 57, 58] (by decide +kernel) (by decide +kernel)
set_option maxRecDepth 20000 in
theorem gX9_sheet_X9_sheetTold : GoodIn wsX9_sheet (wsV RX9 85 RX9 yX9_sheetTold wsX9_sheetTold) := goodIn_app (goodIn_of _ (by decide +kernel)) ggX9_sheet_X9_sheetTold
theorem dX9_sheet_0 : decode cX9_sheet 0 = .ok (.aload_n 0, 1) := by decide +kernel
theorem dX9_sheet_1 : decode cX9_sheet 1 = .ok (.iload_n 1, 1) := by decide +kernel
theorem dX9_sheet_2 : decode cX9_sheet 2 = .ok (.invokevirtual 51, 3) := by decide +kernel
theorem dX9_sheet_5 : decode cX9_sheet 5 = .ok (.ifCond .eq 21, 3) := by decide +kernel
theorem dX9_sheet_8 : decode cX9_sheet 8 = .ok (.iload_n 2, 1) := by decide +kernel
theorem dX9_sheet_9 : decode cX9_sheet 9 = .ok (.iconst 0, 1) := by decide +kernel
theorem dX9_sheet_10 : decode cX9_sheet 10 = .ok (.iconst 4, 1) := by decide +kernel
theorem dX9_sheet_11 : decode cX9_sheet 11 = .ok (.invokestatic 29, 3) := by decide +kernel
theorem dX9_sheet_14 : decode cX9_sheet 14 = .ok (.ifCond .eq 12, 3) := by decide +kernel
theorem dX9_sheet_17 : decode cX9_sheet 17 = .ok (.aload_n 0, 1) := by decide +kernel
theorem dX9_sheet_18 : decode cX9_sheet 18 = .ok (.iload_n 1, 1) := by decide +kernel
theorem dX9_sheet_19 : decode cX9_sheet 19 = .ok (.iload_n 2, 1) := by decide +kernel
theorem dX9_sheet_20 : decode cX9_sheet 20 = .ok (.invokevirtual 85, 3) := by decide +kernel
theorem dX9_sheet_23 : decode cX9_sheet 23 = .ok (.goto 4, 3) := by decide +kernel
theorem dX9_sheet_26 : decode cX9_sheet 26 = .ok (.iconst (-1), 1) := by decide +kernel
theorem dX9_sheet_27 : decode cX9_sheet 27 = .ok (.ireturn, 1) := by decide +kernel
theorem dX9_numberOf_0 : decode cX9_numberOf 0 = .ok (.aload_n 0, 1) := by decide +kernel
theorem dX9_numberOf_1 : decode cX9_numberOf 1 = .ok (.getfield 7, 3) := by decide +kernel
theorem dX9_numberOf_4 : decode cX9_numberOf 4 = .ok (.iload_n 1, 1) := by decide +kernel
theorem dX9_numberOf_5 : decode cX9_numberOf 5 = .ok (.iconst 0, 1) := by decide +kernel
theorem dX9_numberOf_6 : decode cX9_numberOf 6 = .ok (.iadd, 1) := by decide +kernel
theorem dX9_numberOf_7 : decode cX9_numberOf 7 = .ok (.iaload, 1) := by decide +kernel
theorem dX9_numberOf_8 : decode cX9_numberOf 8 = .ok (.istore_n 3, 1) := by decide +kernel
theorem dX9_numberOf_9 : decode cX9_numberOf 9 = .ok (.iload_n 2, 1) := by decide +kernel
theorem dX9_numberOf_10 : decode cX9_numberOf 10 = .ok (.iconst 2, 1) := by decide +kernel
theorem dX9_numberOf_11 : decode cX9_numberOf 11 = .ok (.if_icmp .lt 27, 3) := by decide +kernel
theorem dX9_numberOf_14 : decode cX9_numberOf 14 = .ok (.iload_n 2, 1) := by decide +kernel
theorem dX9_numberOf_15 : decode cX9_numberOf 15 = .ok (.iconst 2, 1) := by decide +kernel
theorem dX9_numberOf_16 : decode cX9_numberOf 16 = .ok (.if_icmp .ne 7, 3) := by decide +kernel
theorem dX9_numberOf_19 : decode cX9_numberOf 19 = .ok (.iload_n 3, 1) := by decide +kernel
theorem dX9_numberOf_20 : decode cX9_numberOf 20 = .ok (.ifCond .eq 18, 3) := by decide +kernel
theorem dX9_numberOf_23 : decode cX9_numberOf 23 = .ok (.iload_n 2, 1) := by decide +kernel
theorem dX9_numberOf_24 : decode cX9_numberOf 24 = .ok (.iconst 3, 1) := by decide +kernel
theorem dX9_numberOf_25 : decode cX9_numberOf 25 = .ok (.if_icmp .ne 17, 3) := by decide +kernel
theorem dX9_numberOf_28 : decode cX9_numberOf 28 = .ok (.iload_n 3, 1) := by decide +kernel
theorem dX9_numberOf_29 : decode cX9_numberOf 29 = .ok (.iconst 1, 1) := by decide +kernel
theorem dX9_numberOf_30 : decode cX9_numberOf 30 = .ok (.if_icmp .eq 8, 3) := by decide +kernel
theorem dX9_numberOf_33 : decode cX9_numberOf 33 = .ok (.iload_n 3, 1) := by decide +kernel
theorem dX9_numberOf_34 : decode cX9_numberOf 34 = .ok (.iconst 2, 1) := by decide +kernel
theorem dX9_numberOf_35 : decode cX9_numberOf 35 = .ok (.if_icmp .ne 7, 3) := by decide +kernel
theorem dX9_numberOf_38 : decode cX9_numberOf 38 = .ok (.iconst 1, 1) := by decide +kernel
theorem dX9_numberOf_39 : decode cX9_numberOf 39 = .ok (.goto 4, 3) := by decide +kernel
theorem dX9_numberOf_42 : decode cX9_numberOf 42 = .ok (.iconst 0, 1) := by decide +kernel
theorem dX9_numberOf_43 : decode cX9_numberOf 43 = .ok (.istore 4, 2) := by decide +kernel
theorem dX9_numberOf_45 : decode cX9_numberOf 45 = .ok (.iload 4, 2) := by decide +kernel
theorem dX9_numberOf_47 : decode cX9_numberOf 47 = .ok (.ifCond .eq 14, 3) := by decide +kernel
theorem dX9_numberOf_50 : decode cX9_numberOf 50 = .ok (.aload_n 0, 1) := by decide +kernel
theorem dX9_numberOf_51 : decode cX9_numberOf 51 = .ok (.getfield 7, 3) := by decide +kernel
theorem dX9_numberOf_54 : decode cX9_numberOf 54 = .ok (.iload_n 1, 1) := by decide +kernel
theorem dX9_numberOf_55 : decode cX9_numberOf 55 = .ok (.iload_n 2, 1) := by decide +kernel
theorem dX9_numberOf_56 : decode cX9_numberOf 56 = .ok (.iadd, 1) := by decide +kernel
theorem dX9_numberOf_57 : decode cX9_numberOf 57 = .ok (.iaload, 1) := by decide +kernel
theorem dX9_numberOf_58 : decode cX9_numberOf 58 = .ok (.goto 5, 3) := by decide +kernel
theorem dX9_numberOf_61 : decode cX9_numberOf 61 = .ok (.bipush (-4), 2) := by decide +kernel
theorem dX9_numberOf_63 : decode cX9_numberOf 63 = .ok (.ireturn, 1) := by decide +kernel
set_option maxRecDepth 20000 in
theorem ggX9_written_X9_isSheet : GoodIn wsX9_written wsX9_isSheet := goodIn_r _ [5, 6, 7, 8, 4, 9, 32, 33, 34, 35, 36, 37, 38, 39, 40, 41, 42] (by decide +kernel) (by decide +kernel)
set_option maxRecDepth 20000 in
theorem gX9_written_X9_isSheet : GoodIn wsX9_written (wsV RX9 51 RX9 yX9_isSheet wsX9_isSheet) := goodIn_app (goodIn_of _ (by decide +kernel)) ggX9_written_X9_isSheet
set_option maxRecDepth 20000 in
theorem ggX9_written_X9_in : GoodIn wsX9_written wsX9_in := goodIn_r _ [9] (by decide +kernel) (by decide +kernel)
set_option maxRecDepth 20000 in
theorem gX9_written_X9_in : GoodIn wsX9_written (va_wsS RX9 29 yX9_in wsX9_in) := goodIn_app (goodIn_of _ (by decide +kernel)) ggX9_written_X9_in
set_option maxRecDepth 20000 in
theorem ggX9_written_X9_of : GoodIn wsX9_written wsX9_of := goodIn_r _ [13, 6, 32, 33, 34, 35, 36, 37, 38, 39, 40, 41, 42] (by decide +kernel) (by decide +kernel)
set_option maxRecDepth 20000 in
theorem gX9_written_X9_of : GoodIn wsX9_written (wsV RX9 36 RX9 yX9_of wsX9_of) := goodIn_app (goodIn_of _ (by decide +kernel)) ggX9_written_X9_of
set_option maxRecDepth 20000 in
theorem ggX9_written_X9_markOf : GoodIn wsX9_written wsX9_markOf := goodIn_r _ [16] (by decide +kernel) (by decide +kernel)
set_option maxRecDepth 20000 in
theorem gX9_written_X9_markOf : GoodIn wsX9_written (va_wsS RX9 76 yX9_markOf wsX9_markOf) := goodIn_app (goodIn_of _ (by decide +kernel)) ggX9_written_X9_markOf
set_option maxRecDepth 20000 in
theorem ggX9_written_X9_likeOf : GoodIn wsX9_written wsX9_likeOf := goodIn_r _ [20, 6, 21, 22, 4, 23, 24, 25, 26, 27, 32, 33, 34, 35, 36, 37, 38, 39, 40, 41, 42] (by decide +kernel) (by decide +kernel)
set_option maxRecDepth 20000 in
theorem gX9_written_X9_likeOf : GoodIn wsX9_written (wsV RX9 73 RX9 yX9_likeOf wsX9_likeOf) := goodIn_app (goodIn_of _ (by decide +kernel)) ggX9_written_X9_likeOf
set_option maxRecDepth 20000 in
theorem ggX9_written_X9_numberOf : GoodIn wsX9_written wsX9_numberOf := goodIn_r _ [31, 6, 32, 33, 34, 35, 36, 37, 38, 39, 40, 41, 42] (by decide +kernel) (by decide +kernel)
set_option maxRecDepth 20000 in
theorem gX9_written_X9_numberOf : GoodIn wsX9_written (wsV RX9 88 RX9 yX9_numberOf wsX9_numberOf) := goodIn_app (goodIn_of _ (by decide +kernel)) ggX9_written_X9_numberOf
theorem dX9_written_0 : decode cX9_written 0 = .ok (.aload_n 0, 1) := by decide +kernel
theorem dX9_written_1 : decode cX9_written 1 = .ok (.iload_n 1, 1) := by decide +kernel
theorem dX9_written_2 : decode cX9_written 2 = .ok (.invokevirtual 51, 3) := by decide +kernel
theorem dX9_written_5 : decode cX9_written 5 = .ok (.ifCond .eq 16, 3) := by decide +kernel
theorem dX9_written_8 : decode cX9_written 8 = .ok (.iload_n 2, 1) := by decide +kernel
theorem dX9_written_9 : decode cX9_written 9 = .ok (.ifCond .lt 12, 3) := by decide +kernel
theorem dX9_written_12 : decode cX9_written 12 = .ok (.iload_n 3, 1) := by decide +kernel
theorem dX9_written_13 : decode cX9_written 13 = .ok (.iconst 0, 1) := by decide +kernel
theorem dX9_written_14 : decode cX9_written 14 = .ok (.iconst 4, 1) := by decide +kernel
theorem dX9_written_15 : decode cX9_written 15 = .ok (.invokestatic 29, 3) := by decide +kernel
theorem dX9_written_18 : decode cX9_written 18 = .ok (.ifCond .ne 5, 3) := by decide +kernel
theorem dX9_written_21 : decode cX9_written 21 = .ok (.iconst (-1), 1) := by decide +kernel
theorem dX9_written_22 : decode cX9_written 22 = .ok (.ireturn, 1) := by decide +kernel
theorem dX9_written_23 : decode cX9_written 23 = .ok (.iload_n 2, 1) := by decide +kernel
theorem dX9_written_24 : decode cX9_written 24 = .ok (.aload_n 0, 1) := by decide +kernel
theorem dX9_written_25 : decode cX9_written 25 = .ok (.iload_n 1, 1) := by decide +kernel
theorem dX9_written_26 : decode cX9_written 26 = .ok (.iconst 2, 1) := by decide +kernel
theorem dX9_written_27 : decode cX9_written 27 = .ok (.invokevirtual 36, 3) := by decide +kernel
theorem dX9_written_30 : decode cX9_written 30 = .ok (.if_icmp .lt 6, 3) := by decide +kernel
theorem dX9_written_33 : decode cX9_written 33 = .ok (.bipush (-4), 2) := by decide +kernel
theorem dX9_written_35 : decode cX9_written 35 = .ok (.ireturn, 1) := by decide +kernel
theorem dX9_written_36 : decode cX9_written 36 = .ok (.iload_n 1, 1) := by decide +kernel
theorem dX9_written_37 : decode cX9_written 37 = .ok (.iload_n 2, 1) := by decide +kernel
theorem dX9_written_38 : decode cX9_written 38 = .ok (.invokestatic 76, 3) := by decide +kernel
theorem dX9_written_41 : decode cX9_written 41 = .ok (.istore 4, 2) := by decide +kernel
theorem dX9_written_43 : decode cX9_written 43 = .ok (.iload_n 3, 1) := by decide +kernel
theorem dX9_written_44 : decode cX9_written 44 = .ok (.iconst 4, 1) := by decide +kernel
theorem dX9_written_45 : decode cX9_written 45 = .ok (.if_icmp .ne 12, 3) := by decide +kernel
theorem dX9_written_48 : decode cX9_written 48 = .ok (.aload_n 0, 1) := by decide +kernel
theorem dX9_written_49 : decode cX9_written 49 = .ok (.iload 4, 2) := by decide +kernel
theorem dX9_written_51 : decode cX9_written 51 = .ok (.invokevirtual 73, 3) := by decide +kernel
theorem dX9_written_54 : decode cX9_written 54 = .ok (.goto 10, 3) := by decide +kernel
theorem dX9_written_57 : decode cX9_written 57 = .ok (.aload_n 0, 1) := by decide +kernel
theorem dX9_written_58 : decode cX9_written 58 = .ok (.iload 4, 2) := by decide +kernel
theorem dX9_written_60 : decode cX9_written 60 = .ok (.iload_n 3, 1) := by decide +kernel
theorem dX9_written_61 : decode cX9_written 61 = .ok (.invokevirtual 88, 3) := by decide +kernel
theorem dX9_written_64 : decode cX9_written 64 = .ok (.ireturn, 1) := by decide +kernel
set_option maxRecDepth 20000 in
theorem ggX9_unanswered_X9_listed : GoodIn wsX9_unanswered wsX9_listed := goodIn_r _ [5] (by decide +kernel) (by decide +kernel)
set_option maxRecDepth 20000 in
theorem gX9_unanswered_X9_listed : GoodIn wsX9_unanswered (va_wsS RX9 67 yX9_listed wsX9_listed) := goodIn_app (goodIn_of _ (by decide +kernel)) ggX9_unanswered_X9_listed
theorem dX9_unanswered_0 : decode cX9_unanswered 0 = .ok (.iconst 0, 1) := by decide +kernel
theorem dX9_unanswered_1 : decode cX9_unanswered 1 = .ok (.istore_n 1, 1) := by decide +kernel
theorem dX9_unanswered_2 : decode cX9_unanswered 2 = .ok (.iconst 0, 1) := by decide +kernel
theorem dX9_unanswered_3 : decode cX9_unanswered 3 = .ok (.istore_n 2, 1) := by decide +kernel
theorem dX9_unanswered_4 : decode cX9_unanswered 4 = .ok (.iload_n 2, 1) := by decide +kernel
theorem dX9_unanswered_5 : decode cX9_unanswered 5 = .ok (.aload_n 0, 1) := by decide +kernel
theorem dX9_unanswered_6 : decode cX9_unanswered 6 = .ok (.getfield 7, 3) := by decide +kernel
theorem dX9_unanswered_9 : decode cX9_unanswered 9 = .ok (.iconst 3, 1) := by decide +kernel
theorem dX9_unanswered_10 : decode cX9_unanswered 10 = .ok (.iaload, 1) := by decide +kernel
theorem dX9_unanswered_11 : decode cX9_unanswered 11 = .ok (.if_icmp .ge 31, 3) := by decide +kernel
theorem dX9_unanswered_14 : decode cX9_unanswered 14 = .ok (.iload_n 1, 1) := by decide +kernel
theorem dX9_unanswered_15 : decode cX9_unanswered 15 = .ok (.aload_n 0, 1) := by decide +kernel
theorem dX9_unanswered_16 : decode cX9_unanswered 16 = .ok (.getfield 7, 3) := by decide +kernel
theorem dX9_unanswered_19 : decode cX9_unanswered 19 = .ok (.iload_n 2, 1) := by decide +kernel
theorem dX9_unanswered_20 : decode cX9_unanswered 20 = .ok (.invokestatic 67, 3) := by decide +kernel
theorem dX9_unanswered_23 : decode cX9_unanswered 23 = .ok (.iconst 4, 1) := by decide +kernel
theorem dX9_unanswered_24 : decode cX9_unanswered 24 = .ok (.iadd, 1) := by decide +kernel
theorem dX9_unanswered_25 : decode cX9_unanswered 25 = .ok (.iaload, 1) := by decide +kernel
theorem dX9_unanswered_26 : decode cX9_unanswered 26 = .ok (.ifCond .ne 7, 3) := by decide +kernel
theorem dX9_unanswered_29 : decode cX9_unanswered 29 = .ok (.iconst 1, 1) := by decide +kernel
theorem dX9_unanswered_30 : decode cX9_unanswered 30 = .ok (.goto 4, 3) := by decide +kernel
theorem dX9_unanswered_33 : decode cX9_unanswered 33 = .ok (.iconst 0, 1) := by decide +kernel
theorem dX9_unanswered_34 : decode cX9_unanswered 34 = .ok (.iadd, 1) := by decide +kernel
theorem dX9_unanswered_35 : decode cX9_unanswered 35 = .ok (.istore_n 1, 1) := by decide +kernel
theorem dX9_unanswered_36 : decode cX9_unanswered 36 = .ok (.iinc 2 1, 3) := by decide +kernel
theorem dX9_unanswered_39 : decode cX9_unanswered 39 = .ok (.goto (-35), 3) := by decide +kernel
theorem dX9_unanswered_42 : decode cX9_unanswered 42 = .ok (.iload_n 1, 1) := by decide +kernel
theorem dX9_unanswered_43 : decode cX9_unanswered 43 = .ok (.ireturn, 1) := by decide +kernel
set_option maxRecDepth 20000 in
theorem ggX9_againstMany_X9_listed : GoodIn wsX9_againstMany wsX9_listed := goodIn_r _ [5] (by decide +kernel) (by decide +kernel)
set_option maxRecDepth 20000 in
theorem gX9_againstMany_X9_listed : GoodIn wsX9_againstMany (va_wsS RX9 67 yX9_listed wsX9_listed) := goodIn_app (goodIn_of _ (by decide +kernel)) ggX9_againstMany_X9_listed
set_option maxRecDepth 20000 in
theorem ggX9_againstMany_X9_areAgainst : GoodIn wsX9_againstMany wsX9_areAgainst := goodIn_r _ [9, 1, 10, 11, 12, 4, 13, 14, 15, 16, 17, 18, 19, 20, 21, 22, 23, 24, 25, 26, 27, 28, 29, 30, 31, 32] (by decide +kernel) (by decide +kernel)
set_option maxRecDepth 20000 in
theorem gX9_againstMany_X9_areAgainst : GoodIn wsX9_againstMany (wsV RX9 70 RX9 yX9_areAgainst wsX9_areAgainst) := goodIn_app (goodIn_of _ (by decide +kernel)) ggX9_againstMany_X9_areAgainst
theorem dX9_againstMany_0 : decode cX9_againstMany 0 = .ok (.iconst 0, 1) := by decide +kernel
theorem dX9_againstMany_1 : decode cX9_againstMany 1 = .ok (.istore_n 2, 1) := by decide +kernel
theorem dX9_againstMany_2 : decode cX9_againstMany 2 = .ok (.iconst 0, 1) := by decide +kernel
theorem dX9_againstMany_3 : decode cX9_againstMany 3 = .ok (.istore_n 3, 1) := by decide +kernel
theorem dX9_againstMany_4 : decode cX9_againstMany 4 = .ok (.iload_n 3, 1) := by decide +kernel
theorem dX9_againstMany_5 : decode cX9_againstMany 5 = .ok (.aload_n 0, 1) := by decide +kernel
theorem dX9_againstMany_6 : decode cX9_againstMany 6 = .ok (.getfield 7, 3) := by decide +kernel
theorem dX9_againstMany_9 : decode cX9_againstMany 9 = .ok (.iconst 3, 1) := by decide +kernel
theorem dX9_againstMany_10 : decode cX9_againstMany 10 = .ok (.iaload, 1) := by decide +kernel
theorem dX9_againstMany_11 : decode cX9_againstMany 11 = .ok (.if_icmp .ge 29, 3) := by decide +kernel
theorem dX9_againstMany_14 : decode cX9_againstMany 14 = .ok (.iload_n 2, 1) := by decide +kernel
theorem dX9_againstMany_15 : decode cX9_againstMany 15 = .ok (.aload_n 0, 1) := by decide +kernel
theorem dX9_againstMany_16 : decode cX9_againstMany 16 = .ok (.iload_n 1, 1) := by decide +kernel
theorem dX9_againstMany_17 : decode cX9_againstMany 17 = .ok (.iload_n 3, 1) := by decide +kernel
theorem dX9_againstMany_18 : decode cX9_againstMany 18 = .ok (.invokestatic 67, 3) := by decide +kernel
theorem dX9_againstMany_21 : decode cX9_againstMany 21 = .ok (.invokevirtual 70, 3) := by decide +kernel
theorem dX9_againstMany_24 : decode cX9_againstMany 24 = .ok (.ifCond .eq 7, 3) := by decide +kernel
theorem dX9_againstMany_27 : decode cX9_againstMany 27 = .ok (.iconst 1, 1) := by decide +kernel
theorem dX9_againstMany_28 : decode cX9_againstMany 28 = .ok (.goto 4, 3) := by decide +kernel
theorem dX9_againstMany_31 : decode cX9_againstMany 31 = .ok (.iconst 0, 1) := by decide +kernel
theorem dX9_againstMany_32 : decode cX9_againstMany 32 = .ok (.iadd, 1) := by decide +kernel
theorem dX9_againstMany_33 : decode cX9_againstMany 33 = .ok (.istore_n 2, 1) := by decide +kernel
theorem dX9_againstMany_34 : decode cX9_againstMany 34 = .ok (.iinc 3 1, 3) := by decide +kernel
theorem dX9_againstMany_37 : decode cX9_againstMany 37 = .ok (.goto (-33), 3) := by decide +kernel
theorem dX9_againstMany_40 : decode cX9_againstMany 40 = .ok (.iload_n 2, 1) := by decide +kernel
theorem dX9_againstMany_41 : decode cX9_againstMany 41 = .ok (.ireturn, 1) := by decide +kernel
set_option maxRecDepth 20000 in
theorem ggX9_pairs_X9_listed : GoodIn wsX9_pairs wsX9_listed := goodIn_r _ [5] (by decide +kernel) (by decide +kernel)
set_option maxRecDepth 20000 in
theorem gX9_pairs_X9_listed : GoodIn wsX9_pairs (va_wsS RX9 67 yX9_listed wsX9_listed) := goodIn_app (goodIn_of _ (by decide +kernel)) ggX9_pairs_X9_listed
set_option maxRecDepth 20000 in
theorem ggX9_pairs_X9_againstMany : GoodIn wsX9_pairs wsX9_againstMany := goodIn_r _ [9, 1, 2, 3, 4, 5, 10, 11, 12, 13, 14, 15, 16, 17, 18, 19, 20, 21, 22, 23, 24, 25, 26, 27, 28, 29, 30, 31, 32, 33, 34, 35, 36] (by decide +kernel) (by decide +kernel)
set_option maxRecDepth 20000 in
theorem gX9_pairs_X9_againstMany : GoodIn wsX9_pairs (wsV RX9 91 RX9 yX9_againstMany wsX9_againstMany) := goodIn_app (goodIn_of _ (by decide +kernel)) ggX9_pairs_X9_againstMany
theorem dX9_pairs_0 : decode cX9_pairs 0 = .ok (.iconst 0, 1) := by decide +kernel
theorem dX9_pairs_1 : decode cX9_pairs 1 = .ok (.istore_n 1, 1) := by decide +kernel
theorem dX9_pairs_2 : decode cX9_pairs 2 = .ok (.iconst 0, 1) := by decide +kernel
theorem dX9_pairs_3 : decode cX9_pairs 3 = .ok (.istore_n 2, 1) := by decide +kernel
theorem dX9_pairs_4 : decode cX9_pairs 4 = .ok (.iload_n 2, 1) := by decide +kernel
theorem dX9_pairs_5 : decode cX9_pairs 5 = .ok (.aload_n 0, 1) := by decide +kernel
theorem dX9_pairs_6 : decode cX9_pairs 6 = .ok (.getfield 7, 3) := by decide +kernel
theorem dX9_pairs_9 : decode cX9_pairs 9 = .ok (.iconst 3, 1) := by decide +kernel
theorem dX9_pairs_10 : decode cX9_pairs 10 = .ok (.iaload, 1) := by decide +kernel
theorem dX9_pairs_11 : decode cX9_pairs 11 = .ok (.if_icmp .ge 20, 3) := by decide +kernel
theorem dX9_pairs_14 : decode cX9_pairs 14 = .ok (.iload_n 1, 1) := by decide +kernel
theorem dX9_pairs_15 : decode cX9_pairs 15 = .ok (.aload_n 0, 1) := by decide +kernel
theorem dX9_pairs_16 : decode cX9_pairs 16 = .ok (.iload_n 2, 1) := by decide +kernel
theorem dX9_pairs_17 : decode cX9_pairs 17 = .ok (.invokestatic 67, 3) := by decide +kernel
theorem dX9_pairs_20 : decode cX9_pairs 20 = .ok (.invokevirtual 91, 3) := by decide +kernel
theorem dX9_pairs_23 : decode cX9_pairs 23 = .ok (.iadd, 1) := by decide +kernel
theorem dX9_pairs_24 : decode cX9_pairs 24 = .ok (.istore_n 1, 1) := by decide +kernel
theorem dX9_pairs_25 : decode cX9_pairs 25 = .ok (.iinc 2 1, 3) := by decide +kernel
theorem dX9_pairs_28 : decode cX9_pairs 28 = .ok (.goto (-24), 3) := by decide +kernel
theorem dX9_pairs_31 : decode cX9_pairs 31 = .ok (.iload_n 1, 1) := by decide +kernel
theorem dX9_pairs_32 : decode cX9_pairs 32 = .ok (.iconst 2, 1) := by decide +kernel
theorem dX9_pairs_33 : decode cX9_pairs 33 = .ok (.idiv, 1) := by decide +kernel
theorem dX9_pairs_34 : decode cX9_pairs 34 = .ok (.ireturn, 1) := by decide +kernel
set_option maxRecDepth 20000 in
theorem ggX9_unmerged_X9_of : GoodIn wsX9_unmerged wsX9_of := goodIn_r _ [6, 1, 7, 8, 9, 10, 11, 12, 13, 14, 15, 16, 17] (by decide +kernel) (by decide +kernel)
set_option maxRecDepth 20000 in
theorem gX9_unmerged_X9_of : GoodIn wsX9_unmerged (wsV RX9 36 RX9 yX9_of wsX9_of) := goodIn_app (goodIn_of _ (by decide +kernel)) ggX9_unmerged_X9_of
theorem dX9_unmerged_0 : decode cX9_unmerged 0 = .ok (.iconst 0, 1) := by decide +kernel
theorem dX9_unmerged_1 : decode cX9_unmerged 1 = .ok (.istore_n 1, 1) := by decide +kernel
theorem dX9_unmerged_2 : decode cX9_unmerged 2 = .ok (.iconst 0, 1) := by decide +kernel
theorem dX9_unmerged_3 : decode cX9_unmerged 3 = .ok (.istore_n 2, 1) := by decide +kernel
theorem dX9_unmerged_4 : decode cX9_unmerged 4 = .ok (.iload_n 2, 1) := by decide +kernel
theorem dX9_unmerged_5 : decode cX9_unmerged 5 = .ok (.aload_n 0, 1) := by decide +kernel
theorem dX9_unmerged_6 : decode cX9_unmerged 6 = .ok (.getfield 7, 3) := by decide +kernel
theorem dX9_unmerged_9 : decode cX9_unmerged 9 = .ok (.iconst 2, 1) := by decide +kernel
theorem dX9_unmerged_10 : decode cX9_unmerged 10 = .ok (.iaload, 1) := by decide +kernel
theorem dX9_unmerged_11 : decode cX9_unmerged 11 = .ok (.if_icmp .ge 32, 3) := by decide +kernel
theorem dX9_unmerged_14 : decode cX9_unmerged 14 = .ok (.iload_n 1, 1) := by decide +kernel
theorem dX9_unmerged_15 : decode cX9_unmerged 15 = .ok (.aload_n 0, 1) := by decide +kernel
theorem dX9_unmerged_16 : decode cX9_unmerged 16 = .ok (.iload_n 2, 1) := by decide +kernel
theorem dX9_unmerged_17 : decode cX9_unmerged 17 = .ok (.iconst 1, 1) := by decide +kernel
theorem dX9_unmerged_18 : decode cX9_unmerged 18 = .ok (.invokevirtual 36, 3) := by decide +kernel
theorem dX9_unmerged_21 : decode cX9_unmerged 21 = .ok (.iconst 3, 1) := by decide +kernel
theorem dX9_unmerged_22 : decode cX9_unmerged 22 = .ok (.if_icmp .eq 12, 3) := by decide +kernel
theorem dX9_unmerged_25 : decode cX9_unmerged 25 = .ok (.aload_n 0, 1) := by decide +kernel
theorem dX9_unmerged_26 : decode cX9_unmerged 26 = .ok (.iload_n 2, 1) := by decide +kernel
theorem dX9_unmerged_27 : decode cX9_unmerged 27 = .ok (.iconst 2, 1) := by decide +kernel
theorem dX9_unmerged_28 : decode cX9_unmerged 28 = .ok (.invokevirtual 36, 3) := by decide +kernel
theorem dX9_unmerged_31 : decode cX9_unmerged 31 = .ok (.goto 4, 3) := by decide +kernel
theorem dX9_unmerged_34 : decode cX9_unmerged 34 = .ok (.iconst 0, 1) := by decide +kernel
theorem dX9_unmerged_35 : decode cX9_unmerged 35 = .ok (.iadd, 1) := by decide +kernel
theorem dX9_unmerged_36 : decode cX9_unmerged 36 = .ok (.istore_n 1, 1) := by decide +kernel
theorem dX9_unmerged_37 : decode cX9_unmerged 37 = .ok (.iinc 2 1, 3) := by decide +kernel
theorem dX9_unmerged_40 : decode cX9_unmerged 40 = .ok (.goto (-36), 3) := by decide +kernel
theorem dX9_unmerged_43 : decode cX9_unmerged 43 = .ok (.iload_n 1, 1) := by decide +kernel
theorem dX9_unmerged_44 : decode cX9_unmerged 44 = .ok (.ireturn, 1) := by decide +kernel
set_option maxRecDepth 20000 in
theorem ggX9_count_X9_inState : GoodIn wsX9_count wsX9_inState := goodIn_r _ [8, 1, 9, 10, 11, 7, 12, 51, 52, 53, 54, 55, 56, 57, 58, 59, 60, 61] (by decide +kernel) (by decide +kernel)
set_option maxRecDepth 20000 in
theorem gX9_count_X9_inState : GoodIn wsX9_count (wsV RX9 94 RX9 yX9_inState wsX9_inState) := goodIn_app (goodIn_of _ (by decide +kernel)) ggX9_count_X9_inState
set_option maxRecDepth 20000 in
theorem ggX9_count_X9_unanswered : GoodIn wsX9_count wsX9_unanswered := goodIn_r _ [16, 1, 17, 18, 7, 19, 51, 52, 53, 54, 55, 56, 57, 58, 59, 60, 61] (by decide +kernel) (by decide +kernel)
set_option maxRecDepth 20000 in
theorem gX9_count_X9_unanswered : GoodIn wsX9_count (wsV RX9 97 RX9 yX9_unanswered wsX9_unanswered) := goodIn_app (goodIn_of _ (by decide +kernel)) ggX9_count_X9_unanswered
set_option maxRecDepth 20000 in
theorem ggX9_count_X9_pairs : GoodIn wsX9_count wsX9_pairs := goodIn_r _ [23, 1, 17, 18, 7, 19, 24, 25, 26, 27, 28, 29, 30, 31, 32, 33, 34, 35, 36, 37, 38, 39, 40, 41, 42, 43, 51, 52, 53, 54, 55, 56, 57, 58, 59, 60, 61] (by decide +kernel) (by decide +kernel)
set_option maxRecDepth 20000 in
theorem gX9_count_X9_pairs : GoodIn wsX9_count (wsV RX9 104 RX9 yX9_pairs wsX9_pairs) := goodIn_app (goodIn_of _ (by decide +kernel)) ggX9_count_X9_pairs
set_option maxRecDepth 20000 in
theorem ggX9_count_X9_unmerged : GoodIn wsX9_count wsX9_unmerged := goodIn_r _ [47, 1, 9, 10, 11, 7, 12, 51, 52, 53, 54, 55, 56, 57, 58, 59, 60, 61] (by decide +kernel) (by decide +kernel)
set_option maxRecDepth 20000 in
theorem gX9_count_X9_unmerged : GoodIn wsX9_count (wsV RX9 107 RX9 yX9_unmerged wsX9_unmerged) := goodIn_app (goodIn_of _ (by decide +kernel)) ggX9_count_X9_unmerged
set_option maxRecDepth 20000 in
theorem ggX9_count_X9_in : GoodIn wsX9_count wsX9_in := goodIn_r _ [50] (by decide +kernel) (by decide +kernel)
set_option maxRecDepth 20000 in
theorem gX9_count_X9_in : GoodIn wsX9_count (va_wsS RX9 29 yX9_in wsX9_in) := goodIn_app (goodIn_of _ (by decide +kernel)) ggX9_count_X9_in
theorem dX9_count_0 : decode cX9_count 0 = .ok (.iload_n 1, 1) := by decide +kernel
theorem dX9_count_1 : decode cX9_count 1 = .ok (.tableswitch 128 0 16 #[83, 83, 83, 90, 96, 103, 108, 113, 118, 128, 128, 128, 128, 128, 128, 123, 103], 83) := by decide +kernel
theorem dX9_count_84 : decode cX9_count 84 = .ok (.aload_n 0, 1) := by decide +kernel
theorem dX9_count_85 : decode cX9_count 85 = .ok (.getfield 7, 3) := by decide +kernel
theorem dX9_count_88 : decode cX9_count 88 = .ok (.iload_n 1, 1) := by decide +kernel
theorem dX9_count_89 : decode cX9_count 89 = .ok (.iaload, 1) := by decide +kernel
theorem dX9_count_90 : decode cX9_count 90 = .ok (.ireturn, 1) := by decide +kernel
theorem dX9_count_91 : decode cX9_count 91 = .ok (.aload_n 0, 1) := by decide +kernel
theorem dX9_count_92 : decode cX9_count 92 = .ok (.iconst 0, 1) := by decide +kernel
theorem dX9_count_93 : decode cX9_count 93 = .ok (.invokevirtual 94, 3) := by decide +kernel
theorem dX9_count_96 : decode cX9_count 96 = .ok (.ireturn, 1) := by decide +kernel
theorem dX9_count_97 : decode cX9_count 97 = .ok (.aload_n 0, 1) := by decide +kernel
theorem dX9_count_98 : decode cX9_count 98 = .ok (.getfield 7, 3) := by decide +kernel
theorem dX9_count_101 : decode cX9_count 101 = .ok (.iconst 3, 1) := by decide +kernel
theorem dX9_count_102 : decode cX9_count 102 = .ok (.iaload, 1) := by decide +kernel
theorem dX9_count_103 : decode cX9_count 103 = .ok (.ireturn, 1) := by decide +kernel
theorem dX9_count_104 : decode cX9_count 104 = .ok (.aload_n 0, 1) := by decide +kernel
theorem dX9_count_105 : decode cX9_count 105 = .ok (.invokevirtual 97, 3) := by decide +kernel
theorem dX9_count_108 : decode cX9_count 108 = .ok (.ireturn, 1) := by decide +kernel
theorem dX9_count_109 : decode cX9_count 109 = .ok (.aload_n 0, 1) := by decide +kernel
theorem dX9_count_110 : decode cX9_count 110 = .ok (.getfield 25, 3) := by decide +kernel
theorem dX9_count_113 : decode cX9_count 113 = .ok (.ireturn, 1) := by decide +kernel
theorem dX9_count_114 : decode cX9_count 114 = .ok (.aload_n 0, 1) := by decide +kernel
theorem dX9_count_115 : decode cX9_count 115 = .ok (.getfield 101, 3) := by decide +kernel
theorem dX9_count_118 : decode cX9_count 118 = .ok (.ireturn, 1) := by decide +kernel
theorem dX9_count_119 : decode cX9_count 119 = .ok (.aload_n 0, 1) := by decide +kernel
theorem dX9_count_120 : decode cX9_count 120 = .ok (.invokevirtual 104, 3) := by decide +kernel
theorem dX9_count_123 : decode cX9_count 123 = .ok (.ireturn, 1) := by decide +kernel
theorem dX9_count_124 : decode cX9_count 124 = .ok (.aload_n 0, 1) := by decide +kernel
theorem dX9_count_125 : decode cX9_count 125 = .ok (.invokevirtual 107, 3) := by decide +kernel
theorem dX9_count_128 : decode cX9_count 128 = .ok (.ireturn, 1) := by decide +kernel
theorem dX9_count_129 : decode cX9_count 129 = .ok (.iload_n 1, 1) := by decide +kernel
theorem dX9_count_130 : decode cX9_count 130 = .ok (.bipush 10, 2) := by decide +kernel
theorem dX9_count_132 : decode cX9_count 132 = .ok (.bipush 14, 2) := by decide +kernel
theorem dX9_count_134 : decode cX9_count 134 = .ok (.invokestatic 29, 3) := by decide +kernel
theorem dX9_count_137 : decode cX9_count 137 = .ok (.ifCond .eq 17, 3) := by decide +kernel
theorem dX9_count_140 : decode cX9_count 140 = .ok (.aload_n 0, 1) := by decide +kernel
theorem dX9_count_141 : decode cX9_count 141 = .ok (.getfield 7, 3) := by decide +kernel
theorem dX9_count_144 : decode cX9_count 144 = .ok (.iconst 4, 1) := by decide +kernel
theorem dX9_count_145 : decode cX9_count 145 = .ok (.iload_n 1, 1) := by decide +kernel
theorem dX9_count_146 : decode cX9_count 146 = .ok (.iadd, 1) := by decide +kernel
theorem dX9_count_147 : decode cX9_count 147 = .ok (.bipush 10, 2) := by decide +kernel
theorem dX9_count_149 : decode cX9_count 149 = .ok (.isub, 1) := by decide +kernel
theorem dX9_count_150 : decode cX9_count 150 = .ok (.iaload, 1) := by decide +kernel
theorem dX9_count_151 : decode cX9_count 151 = .ok (.goto 4, 3) := by decide +kernel
theorem dX9_count_154 : decode cX9_count 154 = .ok (.iconst (-1), 1) := by decide +kernel
theorem dX9_count_155 : decode cX9_count 155 = .ok (.ireturn, 1) := by decide +kernel
theorem dX9_at_0 : decode cX9_at 0 = .ok (.iload_n 1, 1) := by decide +kernel
theorem dX9_at_1 : decode cX9_at 1 = .ok (.ifCond .ge 5, 3) := by decide +kernel
theorem dX9_at_4 : decode cX9_at 4 = .ok (.iconst (-1), 1) := by decide +kernel
theorem dX9_at_5 : decode cX9_at 5 = .ok (.ireturn, 1) := by decide +kernel
theorem dX9_at_6 : decode cX9_at 6 = .ok (.iload_n 1, 1) := by decide +kernel
theorem dX9_at_7 : decode cX9_at 7 = .ok (.aload_n 0, 1) := by decide +kernel
theorem dX9_at_8 : decode cX9_at 8 = .ok (.getfield 7, 3) := by decide +kernel
theorem dX9_at_11 : decode cX9_at 11 = .ok (.iconst 0, 1) := by decide +kernel
theorem dX9_at_12 : decode cX9_at 12 = .ok (.iaload, 1) := by decide +kernel
theorem dX9_at_13 : decode cX9_at 13 = .ok (.if_icmp .ge 15, 3) := by decide +kernel
theorem dX9_at_16 : decode cX9_at 16 = .ok (.aload_n 0, 1) := by decide +kernel
theorem dX9_at_17 : decode cX9_at 17 = .ok (.getfield 7, 3) := by decide +kernel
theorem dX9_at_20 : decode cX9_at 20 = .ok (.bipush 27, 2) := by decide +kernel
theorem dX9_at_22 : decode cX9_at 22 = .ok (.iload_n 1, 1) := by decide +kernel
theorem dX9_at_23 : decode cX9_at 23 = .ok (.iadd, 1) := by decide +kernel
theorem dX9_at_24 : decode cX9_at 24 = .ok (.iaload, 1) := by decide +kernel
theorem dX9_at_25 : decode cX9_at 25 = .ok (.goto 5, 3) := by decide +kernel
theorem dX9_at_28 : decode cX9_at 28 = .ok (.bipush (-4), 2) := by decide +kernel
theorem dX9_at_30 : decode cX9_at 30 = .ok (.ireturn, 1) := by decide +kernel
theorem dX9_lowest_0 : decode cX9_lowest 0 = .ok (.iconst 0, 1) := by decide +kernel
theorem dX9_lowest_1 : decode cX9_lowest 1 = .ok (.istore_n 2, 1) := by decide +kernel
theorem dX9_lowest_2 : decode cX9_lowest 2 = .ok (.iload_n 1, 1) := by decide +kernel
theorem dX9_lowest_3 : decode cX9_lowest 3 = .ok (.iload_n 2, 1) := by decide +kernel
theorem dX9_lowest_4 : decode cX9_lowest 4 = .ok (.ishr, 1) := by decide +kernel
theorem dX9_lowest_5 : decode cX9_lowest 5 = .ok (.iconst 1, 1) := by decide +kernel
theorem dX9_lowest_6 : decode cX9_lowest 6 = .ok (.iand, 1) := by decide +kernel
theorem dX9_lowest_7 : decode cX9_lowest 7 = .ok (.ifCond .ne 9, 3) := by decide +kernel
theorem dX9_lowest_10 : decode cX9_lowest 10 = .ok (.iinc 2 1, 3) := by decide +kernel
theorem dX9_lowest_13 : decode cX9_lowest 13 = .ok (.goto (-11), 3) := by decide +kernel
theorem dX9_lowest_16 : decode cX9_lowest 16 = .ok (.iload_n 2, 1) := by decide +kernel
theorem dX9_lowest_17 : decode cX9_lowest 17 = .ok (.ireturn, 1) := by decide +kernel
set_option maxRecDepth 20000 in
theorem ggX9_markTold_X9_listed : GoodIn wsX9_markTold wsX9_listed := goodIn_r _ [5] (by decide +kernel) (by decide +kernel)
set_option maxRecDepth 20000 in
theorem gX9_markTold_X9_listed : GoodIn wsX9_markTold (va_wsS RX9 67 yX9_listed wsX9_listed) := goodIn_app (goodIn_of _ (by decide +kernel)) ggX9_markTold_X9_listed
set_option maxRecDepth 20000 in
theorem ggX9_markTold_X9_lowest : GoodIn wsX9_markTold wsX9_lowest := goodIn_r _ [9] (by decide +kernel) (by decide +kernel)
set_option maxRecDepth 20000 in
theorem gX9_markTold_X9_lowest : GoodIn wsX9_markTold (wsV RX9 110 RX9 yX9_lowest wsX9_lowest) := goodIn_app (goodIn_of _ (by decide +kernel)) ggX9_markTold_X9_lowest
set_option maxRecDepth 20000 in
theorem ggX9_markTold_X9_againstMany : GoodIn wsX9_markTold wsX9_againstMany := goodIn_r _ [13, 1, 2, 3, 4, 5, 14, 15, 16, 17, 18, 19, 20, 21, 22, 23, 24, 25, 26, 27, 28, 29, 38, 39, 40, 41, 42, 43, 44, 45, 46, 47, 48] (by decide +kernel) (by decide +kernel)
set_option maxRecDepth 20000 in
theorem gX9_markTold_X9_againstMany : GoodIn wsX9_markTold (wsV RX9 91 RX9 yX9_againstMany wsX9_againstMany) := goodIn_app (goodIn_of _ (by decide +kernel)) ggX9_markTold_X9_againstMany
set_option maxRecDepth 20000 in
theorem ggX9_markTold_X9_isBarred : GoodIn wsX9_markTold wsX9_isBarred := goodIn_r _ [33, 1, 2, 3, 4, 5, 14, 15, 16, 17, 18, 19, 20, 21, 22, 23, 24, 25, 26, 27, 28, 29, 38, 39, 40, 41, 42, 43, 44, 45, 46, 47, 48] (by decide +kernel) (by decide +kernel)
set_option maxRecDepth 20000 in
theorem gX9_markTold_X9_isBarred : GoodIn wsX9_markTold (wsV RX9 82 RX9 yX9_isBarred wsX9_isBarred) := goodIn_app (goodIn_of _ (by decide +kernel)) ggX9_markTold_X9_isBarred
set_option maxRecDepth 20000 in
theorem ggX9_markTold_X9_numberOf : GoodIn wsX9_markTold wsX9_numberOf := goodIn_r _ [37, 1, 38, 39, 40, 41, 42, 43, 44, 45, 46, 47, 48] (by decide +kernel) (by decide +kernel)
set_option maxRecDepth 20000 in
theorem gX9_markTold_X9_numberOf : GoodIn wsX9_markTold (wsV RX9 88 RX9 yX9_numberOf wsX9_numberOf) := goodIn_app (goodIn_of _ (by decide +kernel)) ggX9_markTold_X9_numberOf
theorem dX9_markTold_0 : decode cX9_markTold 0 = .ok (.iload_n 1, 1) := by decide +kernel
theorem dX9_markTold_1 : decode cX9_markTold 1 = .ok (.invokestatic 67, 3) := by decide +kernel
theorem dX9_markTold_4 : decode cX9_markTold 4 = .ok (.istore_n 3, 1) := by decide +kernel
theorem dX9_markTold_5 : decode cX9_markTold 5 = .ok (.iload_n 2, 1) := by decide +kernel
theorem dX9_markTold_6 : decode cX9_markTold 6 = .ok (.tableswitch 97 4 8 #[34, 43, 52, 66, 72], 34) := by decide +kernel
theorem dX9_markTold_40 : decode cX9_markTold 40 = .ok (.aload_n 0, 1) := by decide +kernel
theorem dX9_markTold_41 : decode cX9_markTold 41 = .ok (.getfield 7, 3) := by decide +kernel
theorem dX9_markTold_44 : decode cX9_markTold 44 = .ok (.iload_n 3, 1) := by decide +kernel
theorem dX9_markTold_45 : decode cX9_markTold 45 = .ok (.iconst 4, 1) := by decide +kernel
theorem dX9_markTold_46 : decode cX9_markTold 46 = .ok (.iadd, 1) := by decide +kernel
theorem dX9_markTold_47 : decode cX9_markTold 47 = .ok (.iaload, 1) := by decide +kernel
theorem dX9_markTold_48 : decode cX9_markTold 48 = .ok (.ireturn, 1) := by decide +kernel
theorem dX9_markTold_49 : decode cX9_markTold 49 = .ok (.aload_n 0, 1) := by decide +kernel
theorem dX9_markTold_50 : decode cX9_markTold 50 = .ok (.getfield 7, 3) := by decide +kernel
theorem dX9_markTold_53 : decode cX9_markTold 53 = .ok (.iload_n 3, 1) := by decide +kernel
theorem dX9_markTold_54 : decode cX9_markTold 54 = .ok (.iconst 5, 1) := by decide +kernel
theorem dX9_markTold_55 : decode cX9_markTold 55 = .ok (.iadd, 1) := by decide +kernel
theorem dX9_markTold_56 : decode cX9_markTold 56 = .ok (.iaload, 1) := by decide +kernel
theorem dX9_markTold_57 : decode cX9_markTold 57 = .ok (.ireturn, 1) := by decide +kernel
theorem dX9_markTold_58 : decode cX9_markTold 58 = .ok (.aload_n 0, 1) := by decide +kernel
theorem dX9_markTold_59 : decode cX9_markTold 59 = .ok (.aload_n 0, 1) := by decide +kernel
theorem dX9_markTold_60 : decode cX9_markTold 60 = .ok (.getfield 7, 3) := by decide +kernel
theorem dX9_markTold_63 : decode cX9_markTold 63 = .ok (.iload_n 3, 1) := by decide +kernel
theorem dX9_markTold_64 : decode cX9_markTold 64 = .ok (.bipush 6, 2) := by decide +kernel
theorem dX9_markTold_66 : decode cX9_markTold 66 = .ok (.iadd, 1) := by decide +kernel
theorem dX9_markTold_67 : decode cX9_markTold 67 = .ok (.iaload, 1) := by decide +kernel
theorem dX9_markTold_68 : decode cX9_markTold 68 = .ok (.invokevirtual 110, 3) := by decide +kernel
theorem dX9_markTold_71 : decode cX9_markTold 71 = .ok (.ireturn, 1) := by decide +kernel
theorem dX9_markTold_72 : decode cX9_markTold 72 = .ok (.aload_n 0, 1) := by decide +kernel
theorem dX9_markTold_73 : decode cX9_markTold 73 = .ok (.iload_n 3, 1) := by decide +kernel
theorem dX9_markTold_74 : decode cX9_markTold 74 = .ok (.invokevirtual 91, 3) := by decide +kernel
theorem dX9_markTold_77 : decode cX9_markTold 77 = .ok (.ireturn, 1) := by decide +kernel
theorem dX9_markTold_78 : decode cX9_markTold 78 = .ok (.aload_n 0, 1) := by decide +kernel
theorem dX9_markTold_79 : decode cX9_markTold 79 = .ok (.getfield 7, 3) := by decide +kernel
theorem dX9_markTold_82 : decode cX9_markTold 82 = .ok (.iload_n 3, 1) := by decide +kernel
theorem dX9_markTold_83 : decode cX9_markTold 83 = .ok (.iconst 4, 1) := by decide +kernel
theorem dX9_markTold_84 : decode cX9_markTold 84 = .ok (.iadd, 1) := by decide +kernel
theorem dX9_markTold_85 : decode cX9_markTold 85 = .ok (.iaload, 1) := by decide +kernel
theorem dX9_markTold_86 : decode cX9_markTold 86 = .ok (.ifCond .ne 15, 3) := by decide +kernel
theorem dX9_markTold_89 : decode cX9_markTold 89 = .ok (.aload_n 0, 1) := by decide +kernel
theorem dX9_markTold_90 : decode cX9_markTold 90 = .ok (.iload_n 3, 1) := by decide +kernel
theorem dX9_markTold_91 : decode cX9_markTold 91 = .ok (.invokevirtual 82, 3) := by decide +kernel
theorem dX9_markTold_94 : decode cX9_markTold 94 = .ok (.ifCond .ne 7, 3) := by decide +kernel
theorem dX9_markTold_97 : decode cX9_markTold 97 = .ok (.iconst 1, 1) := by decide +kernel
theorem dX9_markTold_98 : decode cX9_markTold 98 = .ok (.goto 4, 3) := by decide +kernel
theorem dX9_markTold_101 : decode cX9_markTold 101 = .ok (.iconst 0, 1) := by decide +kernel
theorem dX9_markTold_102 : decode cX9_markTold 102 = .ok (.ireturn, 1) := by decide +kernel
theorem dX9_markTold_103 : decode cX9_markTold 103 = .ok (.aload_n 0, 1) := by decide +kernel
theorem dX9_markTold_104 : decode cX9_markTold 104 = .ok (.iload_n 3, 1) := by decide +kernel
theorem dX9_markTold_105 : decode cX9_markTold 105 = .ok (.iload_n 2, 1) := by decide +kernel
theorem dX9_markTold_106 : decode cX9_markTold 106 = .ok (.invokevirtual 88, 3) := by decide +kernel
theorem dX9_markTold_109 : decode cX9_markTold 109 = .ok (.ireturn, 1) := by decide +kernel
set_option maxRecDepth 20000 in
theorem ggX9_mark_X9_isMark : GoodIn wsX9_mark wsX9_isMark := goodIn_r _ [5, 6, 7, 8, 4, 9, 49, 50, 51, 52, 53, 54, 55, 56, 57, 58, 59] (by decide +kernel) (by decide +kernel)
set_option maxRecDepth 20000 in
theorem gX9_mark_X9_isMark : GoodIn wsX9_mark (wsV RX9 113 RX9 yX9_isMark wsX9_isMark) := goodIn_app (goodIn_of _ (by decide +kernel)) ggX9_mark_X9_isMark
set_option maxRecDepth 20000 in
theorem ggX9_mark_X9_in : GoodIn wsX9_mark wsX9_in := goodIn_r _ [9] (by decide +kernel) (by decide +kernel)
set_option maxRecDepth 20000 in
theorem gX9_mark_X9_in : GoodIn wsX9_mark (va_wsS RX9 29 yX9_in wsX9_in) := goodIn_app (goodIn_of _ (by decide +kernel)) ggX9_mark_X9_in
set_option maxRecDepth 20000 in
theorem ggX9_mark_X9_markTold : GoodIn wsX9_mark wsX9_markTold := goodIn_r _ [13, 6, 14, 15, 4, 16, 17, 18, 19, 20, 21, 22, 23, 24, 25, 26, 27, 28, 29, 30, 31, 32, 33, 34, 35, 36, 37, 38, 39, 40, 41, 42, 43, 44, 45, 46, 47, 48, 49, 50, 51, 52, 53, 54, 55, 56, 57, 58, 59] (by decide +kernel) (by decide +kernel)
set_option maxRecDepth 20000 in
theorem gX9_mark_X9_markTold : GoodIn wsX9_mark (wsV RX9 116 RX9 yX9_markTold wsX9_markTold) := goodIn_app (goodIn_of _ (by decide +kernel)) ggX9_mark_X9_markTold
theorem dX9_mark_0 : decode cX9_mark 0 = .ok (.aload_n 0, 1) := by decide +kernel
theorem dX9_mark_1 : decode cX9_mark 1 = .ok (.iload_n 1, 1) := by decide +kernel
theorem dX9_mark_2 : decode cX9_mark 2 = .ok (.invokevirtual 113, 3) := by decide +kernel
theorem dX9_mark_5 : decode cX9_mark 5 = .ok (.ifCond .eq 22, 3) := by decide +kernel
theorem dX9_mark_8 : decode cX9_mark 8 = .ok (.iload_n 2, 1) := by decide +kernel
theorem dX9_mark_9 : decode cX9_mark 9 = .ok (.iconst 0, 1) := by decide +kernel
theorem dX9_mark_10 : decode cX9_mark 10 = .ok (.bipush 8, 2) := by decide +kernel
theorem dX9_mark_12 : decode cX9_mark 12 = .ok (.invokestatic 29, 3) := by decide +kernel
theorem dX9_mark_15 : decode cX9_mark 15 = .ok (.ifCond .eq 12, 3) := by decide +kernel
theorem dX9_mark_18 : decode cX9_mark 18 = .ok (.aload_n 0, 1) := by decide +kernel
theorem dX9_mark_19 : decode cX9_mark 19 = .ok (.iload_n 1, 1) := by decide +kernel
theorem dX9_mark_20 : decode cX9_mark 20 = .ok (.iload_n 2, 1) := by decide +kernel
theorem dX9_mark_21 : decode cX9_mark 21 = .ok (.invokevirtual 116, 3) := by decide +kernel
theorem dX9_mark_24 : decode cX9_mark 24 = .ok (.goto 4, 3) := by decide +kernel
theorem dX9_mark_27 : decode cX9_mark 27 = .ok (.iconst (-1), 1) := by decide +kernel
theorem dX9_mark_28 : decode cX9_mark 28 = .ok (.ireturn, 1) := by decide +kernel
set_option maxRecDepth 20000 in
theorem ggX9_answer_X9_isMark : GoodIn wsX9_answer wsX9_isMark := goodIn_r _ [6, 1, 7, 8, 5, 9, 43, 44, 45, 46, 47, 48, 49, 50, 51, 52, 53] (by decide +kernel) (by decide +kernel)
set_option maxRecDepth 20000 in
theorem gX9_answer_X9_isMark : GoodIn wsX9_answer (wsV RX9 113 RX9 yX9_isMark wsX9_isMark) := goodIn_app (goodIn_of _ (by decide +kernel)) ggX9_answer_X9_isMark
set_option maxRecDepth 20000 in
theorem ggX9_answer_X9_in : GoodIn wsX9_answer wsX9_in := goodIn_r _ [9] (by decide +kernel) (by decide +kernel)
set_option maxRecDepth 20000 in
theorem gX9_answer_X9_in : GoodIn wsX9_answer (va_wsS RX9 29 yX9_in wsX9_in) := goodIn_app (goodIn_of _ (by decide +kernel)) ggX9_answer_X9_in
set_option maxRecDepth 20000 in
theorem ggX9_answer_X9_listed : GoodIn wsX9_answer wsX9_listed := goodIn_r _ [12] (by decide +kernel) (by decide +kernel)
set_option maxRecDepth 20000 in
theorem gX9_answer_X9_listed : GoodIn wsX9_answer (va_wsS RX9 67 yX9_listed wsX9_listed) := goodIn_app (goodIn_of _ (by decide +kernel)) ggX9_answer_X9_listed
set_option maxRecDepth 20000 in
theorem ggX9_answer_X9_isBarred : GoodIn wsX9_answer wsX9_isBarred := goodIn_r _ [16, 1, 10, 11, 5, 12, 17, 18, 19, 20, 21, 22, 23, 24, 25, 26, 27, 28, 29, 30, 31, 32, 43, 44, 45, 46, 47, 48, 49, 50, 51, 52, 53] (by decide +kernel) (by decide +kernel)
set_option maxRecDepth 20000 in
theorem gX9_answer_X9_isBarred : GoodIn wsX9_answer (wsV RX9 82 RX9 yX9_isBarred wsX9_isBarred) := goodIn_app (goodIn_of _ (by decide +kernel)) ggX9_answer_X9_isBarred
set_option maxRecDepth 20000 in
theorem ggX9_answer_X9_records : GoodIn wsX9_answer wsX9_records := goodIn_r _ [36, 37, 38, 1, 43, 44, 45, 46, 47, 48, 49, 50, 51, 52, 53] (by decide +kernel) (by decide +kernel)
set_option maxRecDepth 20000 in
theorem gX9_answer_X9_records : GoodIn wsX9_answer (wsV RX9 33 RX9 yX9_records wsX9_records) := goodIn_app (goodIn_of _ (by decide +kernel)) ggX9_answer_X9_records
set_option maxRecDepth 20000 in
theorem ggX9_answer_X9_unanswered : GoodIn wsX9_answer wsX9_unanswered := goodIn_r _ [42, 1, 10, 11, 5, 12, 43, 44, 45, 46, 47, 48, 49, 50, 51, 52, 53] (by decide +kernel) (by decide +kernel)
set_option maxRecDepth 20000 in
theorem gX9_answer_X9_unanswered : GoodIn wsX9_answer (wsV RX9 97 RX9 yX9_unanswered wsX9_unanswered) := goodIn_app (goodIn_of _ (by decide +kernel)) ggX9_answer_X9_unanswered
theorem dX9_answer_0 : decode cX9_answer 0 = .ok (.aload_n 0, 1) := by decide +kernel
theorem dX9_answer_1 : decode cX9_answer 1 = .ok (.iload_n 1, 1) := by decide +kernel
theorem dX9_answer_2 : decode cX9_answer 2 = .ok (.invokevirtual 113, 3) := by decide +kernel
theorem dX9_answer_5 : decode cX9_answer 5 = .ok (.ifCond .eq 12, 3) := by decide +kernel
theorem dX9_answer_8 : decode cX9_answer 8 = .ok (.iload_n 2, 1) := by decide +kernel
theorem dX9_answer_9 : decode cX9_answer 9 = .ok (.iconst 0, 1) := by decide +kernel
theorem dX9_answer_10 : decode cX9_answer 10 = .ok (.iconst 1, 1) := by decide +kernel
theorem dX9_answer_11 : decode cX9_answer 11 = .ok (.invokestatic 29, 3) := by decide +kernel
theorem dX9_answer_14 : decode cX9_answer 14 = .ok (.ifCond .ne 5, 3) := by decide +kernel
theorem dX9_answer_17 : decode cX9_answer 17 = .ok (.iconst (-1), 1) := by decide +kernel
theorem dX9_answer_18 : decode cX9_answer 18 = .ok (.ireturn, 1) := by decide +kernel
theorem dX9_answer_19 : decode cX9_answer 19 = .ok (.iload_n 1, 1) := by decide +kernel
theorem dX9_answer_20 : decode cX9_answer 20 = .ok (.invokestatic 67, 3) := by decide +kernel
theorem dX9_answer_23 : decode cX9_answer 23 = .ok (.istore_n 3, 1) := by decide +kernel
theorem dX9_answer_24 : decode cX9_answer 24 = .ok (.aload_n 0, 1) := by decide +kernel
theorem dX9_answer_25 : decode cX9_answer 25 = .ok (.getfield 7, 3) := by decide +kernel
theorem dX9_answer_28 : decode cX9_answer 28 = .ok (.iload_n 3, 1) := by decide +kernel
theorem dX9_answer_29 : decode cX9_answer 29 = .ok (.iconst 4, 1) := by decide +kernel
theorem dX9_answer_30 : decode cX9_answer 30 = .ok (.iadd, 1) := by decide +kernel
theorem dX9_answer_31 : decode cX9_answer 31 = .ok (.iaload, 1) := by decide +kernel
theorem dX9_answer_32 : decode cX9_answer 32 = .ok (.ifCond .ne 15, 3) := by decide +kernel
theorem dX9_answer_35 : decode cX9_answer 35 = .ok (.iload_n 2, 1) := by decide +kernel
theorem dX9_answer_36 : decode cX9_answer 36 = .ok (.ifCond .ne 14, 3) := by decide +kernel
theorem dX9_answer_39 : decode cX9_answer 39 = .ok (.aload_n 0, 1) := by decide +kernel
theorem dX9_answer_40 : decode cX9_answer 40 = .ok (.iload_n 3, 1) := by decide +kernel
theorem dX9_answer_41 : decode cX9_answer 41 = .ok (.invokevirtual 82, 3) := by decide +kernel
theorem dX9_answer_44 : decode cX9_answer 44 = .ok (.ifCond .eq 6, 3) := by decide +kernel
theorem dX9_answer_47 : decode cX9_answer 47 = .ok (.bipush (-2), 2) := by decide +kernel
theorem dX9_answer_49 : decode cX9_answer 49 = .ok (.ireturn, 1) := by decide +kernel
theorem dX9_answer_50 : decode cX9_answer 50 = .ok (.aload_n 0, 1) := by decide +kernel
theorem dX9_answer_51 : decode cX9_answer 51 = .ok (.invokevirtual 33, 3) := by decide +kernel
theorem dX9_answer_54 : decode cX9_answer 54 = .ok (.aload_n 0, 1) := by decide +kernel
theorem dX9_answer_55 : decode cX9_answer 55 = .ok (.getfield 7, 3) := by decide +kernel
theorem dX9_answer_58 : decode cX9_answer 58 = .ok (.iload_n 3, 1) := by decide +kernel
theorem dX9_answer_59 : decode cX9_answer 59 = .ok (.iconst 4, 1) := by decide +kernel
theorem dX9_answer_60 : decode cX9_answer 60 = .ok (.iadd, 1) := by decide +kernel
theorem dX9_answer_61 : decode cX9_answer 61 = .ok (.iconst 1, 1) := by decide +kernel
theorem dX9_answer_62 : decode cX9_answer 62 = .ok (.iload_n 2, 1) := by decide +kernel
theorem dX9_answer_63 : decode cX9_answer 63 = .ok (.iadd, 1) := by decide +kernel
theorem dX9_answer_64 : decode cX9_answer 64 = .ok (.iastore, 1) := by decide +kernel
theorem dX9_answer_65 : decode cX9_answer 65 = .ok (.aload_n 0, 1) := by decide +kernel
theorem dX9_answer_66 : decode cX9_answer 66 = .ok (.getfield 7, 3) := by decide +kernel
theorem dX9_answer_69 : decode cX9_answer 69 = .ok (.bipush 6, 2) := by decide +kernel
theorem dX9_answer_71 : decode cX9_answer 71 = .ok (.iload_n 2, 1) := by decide +kernel
theorem dX9_answer_72 : decode cX9_answer 72 = .ok (.iadd, 1) := by decide +kernel
theorem dX9_answer_73 : decode cX9_answer 73 = .ok (.dup2, 1) := by decide +kernel
theorem dX9_answer_74 : decode cX9_answer 74 = .ok (.iaload, 1) := by decide +kernel
theorem dX9_answer_75 : decode cX9_answer 75 = .ok (.iconst 1, 1) := by decide +kernel
theorem dX9_answer_76 : decode cX9_answer 76 = .ok (.iadd, 1) := by decide +kernel
theorem dX9_answer_77 : decode cX9_answer 77 = .ok (.iastore, 1) := by decide +kernel
theorem dX9_answer_78 : decode cX9_answer 78 = .ok (.aload_n 0, 1) := by decide +kernel
theorem dX9_answer_79 : decode cX9_answer 79 = .ok (.invokevirtual 97, 3) := by decide +kernel
theorem dX9_answer_82 : decode cX9_answer 82 = .ok (.ireturn, 1) := by decide +kernel
set_option maxRecDepth 20000 in
theorem ggX9_against_X9_isMark : GoodIn wsX9_against wsX9_isMark := goodIn_r _ [5, 6, 7, 8, 4, 9, 29, 30, 31, 32, 33, 34, 35, 36, 37, 38, 39] (by decide +kernel) (by decide +kernel)
set_option maxRecDepth 20000 in
theorem gX9_against_X9_isMark : GoodIn wsX9_against (wsV RX9 113 RX9 yX9_isMark wsX9_isMark) := goodIn_app (goodIn_of _ (by decide +kernel)) ggX9_against_X9_isMark
set_option maxRecDepth 20000 in
theorem ggX9_against_X9_listed : GoodIn wsX9_against wsX9_listed := goodIn_r _ [12] (by decide +kernel) (by decide +kernel)
set_option maxRecDepth 20000 in
theorem gX9_against_X9_listed : GoodIn wsX9_against (va_wsS RX9 67 yX9_listed wsX9_listed) := goodIn_app (goodIn_of _ (by decide +kernel)) ggX9_against_X9_listed
set_option maxRecDepth 20000 in
theorem ggX9_against_X9_areAgainst : GoodIn wsX9_against wsX9_areAgainst := goodIn_r _ [16, 6, 17, 18, 19, 4, 20, 21, 22, 23, 24, 25, 26, 27, 28, 29, 30, 31, 32, 33, 34, 35, 36, 37, 38, 39] (by decide +kernel) (by decide +kernel)
set_option maxRecDepth 20000 in
theorem gX9_against_X9_areAgainst : GoodIn wsX9_against (wsV RX9 70 RX9 yX9_areAgainst wsX9_areAgainst) := goodIn_app (goodIn_of _ (by decide +kernel)) ggX9_against_X9_areAgainst
theorem dX9_against_0 : decode cX9_against 0 = .ok (.aload_n 0, 1) := by decide +kernel
theorem dX9_against_1 : decode cX9_against 1 = .ok (.iload_n 1, 1) := by decide +kernel
theorem dX9_against_2 : decode cX9_against 2 = .ok (.invokevirtual 113, 3) := by decide +kernel
theorem dX9_against_5 : decode cX9_against 5 = .ok (.ifCond .eq 11, 3) := by decide +kernel
theorem dX9_against_8 : decode cX9_against 8 = .ok (.aload_n 0, 1) := by decide +kernel
theorem dX9_against_9 : decode cX9_against 9 = .ok (.iload_n 2, 1) := by decide +kernel
theorem dX9_against_10 : decode cX9_against 10 = .ok (.invokevirtual 113, 3) := by decide +kernel
theorem dX9_against_13 : decode cX9_against 13 = .ok (.ifCond .ne 5, 3) := by decide +kernel
theorem dX9_against_16 : decode cX9_against 16 = .ok (.iconst (-1), 1) := by decide +kernel
theorem dX9_against_17 : decode cX9_against 17 = .ok (.ireturn, 1) := by decide +kernel
theorem dX9_against_18 : decode cX9_against 18 = .ok (.aload_n 0, 1) := by decide +kernel
theorem dX9_against_19 : decode cX9_against 19 = .ok (.iload_n 1, 1) := by decide +kernel
theorem dX9_against_20 : decode cX9_against 20 = .ok (.invokestatic 67, 3) := by decide +kernel
theorem dX9_against_23 : decode cX9_against 23 = .ok (.iload_n 2, 1) := by decide +kernel
theorem dX9_against_24 : decode cX9_against 24 = .ok (.invokestatic 67, 3) := by decide +kernel
theorem dX9_against_27 : decode cX9_against 27 = .ok (.invokevirtual 70, 3) := by decide +kernel
theorem dX9_against_30 : decode cX9_against 30 = .ok (.ifCond .eq 7, 3) := by decide +kernel
theorem dX9_against_33 : decode cX9_against 33 = .ok (.iconst 1, 1) := by decide +kernel
theorem dX9_against_34 : decode cX9_against 34 = .ok (.goto 4, 3) := by decide +kernel
theorem dX9_against_37 : decode cX9_against 37 = .ok (.iconst 0, 1) := by decide +kernel
theorem dX9_against_38 : decode cX9_against 38 = .ok (.ireturn, 1) := by decide +kernel
set_option maxRecDepth 20000 in
theorem ggX9_next_X9_listed : GoodIn wsX9_next wsX9_listed := goodIn_r _ [5] (by decide +kernel) (by decide +kernel)
set_option maxRecDepth 20000 in
theorem gX9_next_X9_listed : GoodIn wsX9_next (va_wsS RX9 67 yX9_listed wsX9_listed) := goodIn_app (goodIn_of _ (by decide +kernel)) ggX9_next_X9_listed
theorem dX9_next_0 : decode cX9_next 0 = .ok (.bipush (-4), 2) := by decide +kernel
theorem dX9_next_2 : decode cX9_next 2 = .ok (.istore_n 1, 1) := by decide +kernel
theorem dX9_next_3 : decode cX9_next 3 = .ok (.iconst 0, 1) := by decide +kernel
theorem dX9_next_4 : decode cX9_next 4 = .ok (.istore_n 2, 1) := by decide +kernel
theorem dX9_next_5 : decode cX9_next 5 = .ok (.iload_n 2, 1) := by decide +kernel
theorem dX9_next_6 : decode cX9_next 6 = .ok (.aload_n 0, 1) := by decide +kernel
theorem dX9_next_7 : decode cX9_next 7 = .ok (.getfield 7, 3) := by decide +kernel
theorem dX9_next_10 : decode cX9_next 10 = .ok (.iconst 3, 1) := by decide +kernel
theorem dX9_next_11 : decode cX9_next 11 = .ok (.iaload, 1) := by decide +kernel
theorem dX9_next_12 : decode cX9_next 12 = .ok (.if_icmp .ge 121, 3) := by decide +kernel
theorem dX9_next_15 : decode cX9_next 15 = .ok (.iload_n 2, 1) := by decide +kernel
theorem dX9_next_16 : decode cX9_next 16 = .ok (.invokestatic 67, 3) := by decide +kernel
theorem dX9_next_19 : decode cX9_next 19 = .ok (.istore_n 3, 1) := by decide +kernel
theorem dX9_next_20 : decode cX9_next 20 = .ok (.iload_n 1, 1) := by decide +kernel
theorem dX9_next_21 : decode cX9_next 21 = .ok (.ifCond .ge 7, 3) := by decide +kernel
theorem dX9_next_24 : decode cX9_next 24 = .ok (.iload_n 2, 1) := by decide +kernel
theorem dX9_next_25 : decode cX9_next 25 = .ok (.goto 4, 3) := by decide +kernel
theorem dX9_next_28 : decode cX9_next 28 = .ok (.iload_n 1, 1) := by decide +kernel
theorem dX9_next_29 : decode cX9_next 29 = .ok (.invokestatic 67, 3) := by decide +kernel
theorem dX9_next_32 : decode cX9_next 32 = .ok (.istore 4, 2) := by decide +kernel
theorem dX9_next_34 : decode cX9_next 34 = .ok (.aload_n 0, 1) := by decide +kernel
theorem dX9_next_35 : decode cX9_next 35 = .ok (.getfield 7, 3) := by decide +kernel
theorem dX9_next_38 : decode cX9_next 38 = .ok (.iload_n 3, 1) := by decide +kernel
theorem dX9_next_39 : decode cX9_next 39 = .ok (.iconst 5, 1) := by decide +kernel
theorem dX9_next_40 : decode cX9_next 40 = .ok (.iadd, 1) := by decide +kernel
theorem dX9_next_41 : decode cX9_next 41 = .ok (.iaload, 1) := by decide +kernel
theorem dX9_next_42 : decode cX9_next 42 = .ok (.aload_n 0, 1) := by decide +kernel
theorem dX9_next_43 : decode cX9_next 43 = .ok (.getfield 7, 3) := by decide +kernel
theorem dX9_next_46 : decode cX9_next 46 = .ok (.iload 4, 2) := by decide +kernel
theorem dX9_next_48 : decode cX9_next 48 = .ok (.iconst 5, 1) := by decide +kernel
theorem dX9_next_49 : decode cX9_next 49 = .ok (.iadd, 1) := by decide +kernel
theorem dX9_next_50 : decode cX9_next 50 = .ok (.iaload, 1) := by decide +kernel
theorem dX9_next_51 : decode cX9_next 51 = .ok (.if_icmp .gt 43, 3) := by decide +kernel
theorem dX9_next_54 : decode cX9_next 54 = .ok (.aload_n 0, 1) := by decide +kernel
theorem dX9_next_55 : decode cX9_next 55 = .ok (.getfield 7, 3) := by decide +kernel
theorem dX9_next_58 : decode cX9_next 58 = .ok (.iload_n 3, 1) := by decide +kernel
theorem dX9_next_59 : decode cX9_next 59 = .ok (.iconst 5, 1) := by decide +kernel
theorem dX9_next_60 : decode cX9_next 60 = .ok (.iadd, 1) := by decide +kernel
theorem dX9_next_61 : decode cX9_next 61 = .ok (.iaload, 1) := by decide +kernel
theorem dX9_next_62 : decode cX9_next 62 = .ok (.aload_n 0, 1) := by decide +kernel
theorem dX9_next_63 : decode cX9_next 63 = .ok (.getfield 7, 3) := by decide +kernel
theorem dX9_next_66 : decode cX9_next 66 = .ok (.iload 4, 2) := by decide +kernel
theorem dX9_next_68 : decode cX9_next 68 = .ok (.iconst 5, 1) := by decide +kernel
theorem dX9_next_69 : decode cX9_next 69 = .ok (.iadd, 1) := by decide +kernel
theorem dX9_next_70 : decode cX9_next 70 = .ok (.iaload, 1) := by decide +kernel
theorem dX9_next_71 : decode cX9_next 71 = .ok (.if_icmp .ne 27, 3) := by decide +kernel
theorem dX9_next_74 : decode cX9_next 74 = .ok (.aload_n 0, 1) := by decide +kernel
theorem dX9_next_75 : decode cX9_next 75 = .ok (.getfield 7, 3) := by decide +kernel
theorem dX9_next_78 : decode cX9_next 78 = .ok (.iload_n 3, 1) := by decide +kernel
theorem dX9_next_79 : decode cX9_next 79 = .ok (.iconst 1, 1) := by decide +kernel
theorem dX9_next_80 : decode cX9_next 80 = .ok (.iadd, 1) := by decide +kernel
theorem dX9_next_81 : decode cX9_next 81 = .ok (.iaload, 1) := by decide +kernel
theorem dX9_next_82 : decode cX9_next 82 = .ok (.aload_n 0, 1) := by decide +kernel
theorem dX9_next_83 : decode cX9_next 83 = .ok (.getfield 7, 3) := by decide +kernel
theorem dX9_next_86 : decode cX9_next 86 = .ok (.iload 4, 2) := by decide +kernel
theorem dX9_next_88 : decode cX9_next 88 = .ok (.iconst 1, 1) := by decide +kernel
theorem dX9_next_89 : decode cX9_next 89 = .ok (.iadd, 1) := by decide +kernel
theorem dX9_next_90 : decode cX9_next 90 = .ok (.iaload, 1) := by decide +kernel
theorem dX9_next_91 : decode cX9_next 91 = .ok (.if_icmp .ge 7, 3) := by decide +kernel
theorem dX9_next_94 : decode cX9_next 94 = .ok (.iconst 1, 1) := by decide +kernel
theorem dX9_next_95 : decode cX9_next 95 = .ok (.goto 4, 3) := by decide +kernel
theorem dX9_next_98 : decode cX9_next 98 = .ok (.iconst 0, 1) := by decide +kernel
theorem dX9_next_99 : decode cX9_next 99 = .ok (.istore 5, 2) := by decide +kernel
theorem dX9_next_101 : decode cX9_next 101 = .ok (.aload_n 0, 1) := by decide +kernel
theorem dX9_next_102 : decode cX9_next 102 = .ok (.getfield 7, 3) := by decide +kernel
theorem dX9_next_105 : decode cX9_next 105 = .ok (.iload_n 3, 1) := by decide +kernel
theorem dX9_next_106 : decode cX9_next 106 = .ok (.iconst 4, 1) := by decide +kernel
theorem dX9_next_107 : decode cX9_next 107 = .ok (.iadd, 1) := by decide +kernel
theorem dX9_next_108 : decode cX9_next 108 = .ok (.iaload, 1) := by decide +kernel
theorem dX9_next_109 : decode cX9_next 109 = .ok (.ifCond .ne 16, 3) := by decide +kernel
theorem dX9_next_112 : decode cX9_next 112 = .ok (.iload_n 1, 1) := by decide +kernel
theorem dX9_next_113 : decode cX9_next 113 = .ok (.ifCond .lt 8, 3) := by decide +kernel
theorem dX9_next_116 : decode cX9_next 116 = .ok (.iload 5, 2) := by decide +kernel
theorem dX9_next_118 : decode cX9_next 118 = .ok (.ifCond .eq 7, 3) := by decide +kernel
theorem dX9_next_121 : decode cX9_next 121 = .ok (.iload_n 2, 1) := by decide +kernel
theorem dX9_next_122 : decode cX9_next 122 = .ok (.goto 4, 3) := by decide +kernel
theorem dX9_next_125 : decode cX9_next 125 = .ok (.iload_n 1, 1) := by decide +kernel
theorem dX9_next_126 : decode cX9_next 126 = .ok (.istore_n 1, 1) := by decide +kernel
theorem dX9_next_127 : decode cX9_next 127 = .ok (.iinc 2 1, 3) := by decide +kernel
theorem dX9_next_130 : decode cX9_next 130 = .ok (.goto (-125), 3) := by decide +kernel
theorem dX9_next_133 : decode cX9_next 133 = .ok (.iload_n 1, 1) := by decide +kernel
theorem dX9_next_134 : decode cX9_next 134 = .ok (.ireturn, 1) := by decide +kernel
set_option maxRecDepth 20000 in
theorem ggX9_other_X9_in : GoodIn wsX9_other wsX9_in := goodIn_r _ [4] (by decide +kernel) (by decide +kernel)
set_option maxRecDepth 20000 in
theorem gX9_other_X9_in : GoodIn wsX9_other (va_wsS RX9 29 yX9_in wsX9_in) := goodIn_app (goodIn_of _ (by decide +kernel)) ggX9_other_X9_in
theorem dX9_other_0 : decode cX9_other 0 = .ok (.iload_n 0, 1) := by decide +kernel
theorem dX9_other_1 : decode cX9_other 1 = .ok (.bipush 97, 2) := by decide +kernel
theorem dX9_other_3 : decode cX9_other 3 = .ok (.bipush 122, 2) := by decide +kernel
theorem dX9_other_5 : decode cX9_other 5 = .ok (.invokestatic 29, 3) := by decide +kernel
theorem dX9_other_8 : decode cX9_other 8 = .ok (.ifCond .eq 10, 3) := by decide +kernel
theorem dX9_other_11 : decode cX9_other 11 = .ok (.iload_n 0, 1) := by decide +kernel
theorem dX9_other_12 : decode cX9_other 12 = .ok (.bipush 32, 2) := by decide +kernel
theorem dX9_other_14 : decode cX9_other 14 = .ok (.isub, 1) := by decide +kernel
theorem dX9_other_15 : decode cX9_other 15 = .ok (.goto 22, 3) := by decide +kernel
theorem dX9_other_18 : decode cX9_other 18 = .ok (.iload_n 0, 1) := by decide +kernel
theorem dX9_other_19 : decode cX9_other 19 = .ok (.bipush 65, 2) := by decide +kernel
theorem dX9_other_21 : decode cX9_other 21 = .ok (.bipush 90, 2) := by decide +kernel
theorem dX9_other_23 : decode cX9_other 23 = .ok (.invokestatic 29, 3) := by decide +kernel
theorem dX9_other_26 : decode cX9_other 26 = .ok (.ifCond .eq 10, 3) := by decide +kernel
theorem dX9_other_29 : decode cX9_other 29 = .ok (.iload_n 0, 1) := by decide +kernel
theorem dX9_other_30 : decode cX9_other 30 = .ok (.bipush 32, 2) := by decide +kernel
theorem dX9_other_32 : decode cX9_other 32 = .ok (.iadd, 1) := by decide +kernel
theorem dX9_other_33 : decode cX9_other 33 = .ok (.goto 4, 3) := by decide +kernel
theorem dX9_other_36 : decode cX9_other 36 = .ok (.iload_n 0, 1) := by decide +kernel
theorem dX9_other_37 : decode cX9_other 37 = .ok (.ireturn, 1) := by decide +kernel
set_option maxRecDepth 20000 in
theorem ggX9_isAccepted_X9_listed : GoodIn wsX9_isAccepted wsX9_listed := goodIn_r _ [5] (by decide +kernel) (by decide +kernel)
set_option maxRecDepth 20000 in
theorem gX9_isAccepted_X9_listed : GoodIn wsX9_isAccepted (va_wsS RX9 67 yX9_listed wsX9_listed) := goodIn_app (goodIn_of _ (by decide +kernel)) ggX9_isAccepted_X9_listed
theorem dX9_isAccepted_0 : decode cX9_isAccepted 0 = .ok (.aload_n 0, 1) := by decide +kernel
theorem dX9_isAccepted_1 : decode cX9_isAccepted 1 = .ok (.getfield 7, 3) := by decide +kernel
theorem dX9_isAccepted_4 : decode cX9_isAccepted 4 = .ok (.iload_n 1, 1) := by decide +kernel
theorem dX9_isAccepted_5 : decode cX9_isAccepted 5 = .ok (.invokestatic 67, 3) := by decide +kernel
theorem dX9_isAccepted_8 : decode cX9_isAccepted 8 = .ok (.iconst 4, 1) := by decide +kernel
theorem dX9_isAccepted_9 : decode cX9_isAccepted 9 = .ok (.iadd, 1) := by decide +kernel
theorem dX9_isAccepted_10 : decode cX9_isAccepted 10 = .ok (.iaload, 1) := by decide +kernel
theorem dX9_isAccepted_11 : decode cX9_isAccepted 11 = .ok (.iconst 1, 1) := by decide +kernel
theorem dX9_isAccepted_12 : decode cX9_isAccepted 12 = .ok (.if_icmp .ne 7, 3) := by decide +kernel
theorem dX9_isAccepted_15 : decode cX9_isAccepted 15 = .ok (.iconst 1, 1) := by decide +kernel
theorem dX9_isAccepted_16 : decode cX9_isAccepted 16 = .ok (.goto 4, 3) := by decide +kernel
theorem dX9_isAccepted_19 : decode cX9_isAccepted 19 = .ok (.iconst 0, 1) := by decide +kernel
theorem dX9_isAccepted_20 : decode cX9_isAccepted 20 = .ok (.ireturn, 1) := by decide +kernel
set_option maxRecDepth 20000 in
theorem ggX9_brings_X9_listed : GoodIn wsX9_brings wsX9_listed := goodIn_r _ [7] (by decide +kernel) (by decide +kernel)
set_option maxRecDepth 20000 in
theorem gX9_brings_X9_listed : GoodIn wsX9_brings (va_wsS RX9 67 yX9_listed wsX9_listed) := goodIn_app (goodIn_of _ (by decide +kernel)) ggX9_brings_X9_listed
set_option maxRecDepth 20000 in
theorem ggX9_brings_X9_isAccepted : GoodIn wsX9_brings wsX9_isAccepted := goodIn_r _ [11, 1, 4, 5, 6, 7, 12, 13, 14, 15, 16, 17, 18, 19, 20, 21, 22] (by decide +kernel) (by decide +kernel)
set_option maxRecDepth 20000 in
theorem gX9_brings_X9_isAccepted : GoodIn wsX9_brings (wsV RX9 119 RX9 yX9_isAccepted wsX9_isAccepted) := goodIn_app (goodIn_of _ (by decide +kernel)) ggX9_brings_X9_isAccepted
theorem dX9_brings_0 : decode cX9_brings 0 = .ok (.iconst 0, 1) := by decide +kernel
theorem dX9_brings_1 : decode cX9_brings 1 = .ok (.istore_n 2, 1) := by decide +kernel
theorem dX9_brings_2 : decode cX9_brings 2 = .ok (.iload_n 2, 1) := by decide +kernel
theorem dX9_brings_3 : decode cX9_brings 3 = .ok (.aload_n 0, 1) := by decide +kernel
theorem dX9_brings_4 : decode cX9_brings 4 = .ok (.getfield 7, 3) := by decide +kernel
theorem dX9_brings_7 : decode cX9_brings 7 = .ok (.iconst 3, 1) := by decide +kernel
theorem dX9_brings_8 : decode cX9_brings 8 = .ok (.iaload, 1) := by decide +kernel
theorem dX9_brings_9 : decode cX9_brings 9 = .ok (.if_icmp .ge 73, 3) := by decide +kernel
theorem dX9_brings_12 : decode cX9_brings 12 = .ok (.iload_n 2, 1) := by decide +kernel
theorem dX9_brings_13 : decode cX9_brings 13 = .ok (.invokestatic 67, 3) := by decide +kernel
theorem dX9_brings_16 : decode cX9_brings 16 = .ok (.istore_n 3, 1) := by decide +kernel
theorem dX9_brings_17 : decode cX9_brings 17 = .ok (.aload_n 0, 1) := by decide +kernel
theorem dX9_brings_18 : decode cX9_brings 18 = .ok (.iload_n 2, 1) := by decide +kernel
theorem dX9_brings_19 : decode cX9_brings 19 = .ok (.invokevirtual 119, 3) := by decide +kernel
theorem dX9_brings_22 : decode cX9_brings 22 = .ok (.ifCond .eq 54, 3) := by decide +kernel
theorem dX9_brings_25 : decode cX9_brings 25 = .ok (.aload_n 0, 1) := by decide +kernel
theorem dX9_brings_26 : decode cX9_brings 26 = .ok (.getfield 7, 3) := by decide +kernel
theorem dX9_brings_29 : decode cX9_brings 29 = .ok (.iload_n 3, 1) := by decide +kernel
theorem dX9_brings_30 : decode cX9_brings 30 = .ok (.iconst 0, 1) := by decide +kernel
theorem dX9_brings_31 : decode cX9_brings 31 = .ok (.iadd, 1) := by decide +kernel
theorem dX9_brings_32 : decode cX9_brings 32 = .ok (.iaload, 1) := by decide +kernel
theorem dX9_brings_33 : decode cX9_brings 33 = .ok (.iconst 1, 1) := by decide +kernel
theorem dX9_brings_34 : decode cX9_brings 34 = .ok (.if_icmp .ne 42, 3) := by decide +kernel
theorem dX9_brings_37 : decode cX9_brings 37 = .ok (.aload_n 0, 1) := by decide +kernel
theorem dX9_brings_38 : decode cX9_brings 38 = .ok (.getfield 7, 3) := by decide +kernel
theorem dX9_brings_41 : decode cX9_brings 41 = .ok (.iload_n 3, 1) := by decide +kernel
theorem dX9_brings_42 : decode cX9_brings 42 = .ok (.iconst 1, 1) := by decide +kernel
theorem dX9_brings_43 : decode cX9_brings 43 = .ok (.iadd, 1) := by decide +kernel
theorem dX9_brings_44 : decode cX9_brings 44 = .ok (.iaload, 1) := by decide +kernel
theorem dX9_brings_45 : decode cX9_brings 45 = .ok (.iload_n 1, 1) := by decide +kernel
theorem dX9_brings_46 : decode cX9_brings 46 = .ok (.if_icmp .ne 30, 3) := by decide +kernel
theorem dX9_brings_49 : decode cX9_brings 49 = .ok (.aload_n 0, 1) := by decide +kernel
theorem dX9_brings_50 : decode cX9_brings 50 = .ok (.getfield 19, 3) := by decide +kernel
theorem dX9_brings_53 : decode cX9_brings 53 = .ok (.aload_n 0, 1) := by decide +kernel
theorem dX9_brings_54 : decode cX9_brings 54 = .ok (.getfield 122, 3) := by decide +kernel
theorem dX9_brings_57 : decode cX9_brings 57 = .ok (.aload_n 0, 1) := by decide +kernel
theorem dX9_brings_58 : decode cX9_brings 58 = .ok (.getfield 7, 3) := by decide +kernel
theorem dX9_brings_61 : decode cX9_brings 61 = .ok (.iload_n 3, 1) := by decide +kernel
theorem dX9_brings_62 : decode cX9_brings 62 = .ok (.iconst 3, 1) := by decide +kernel
theorem dX9_brings_63 : decode cX9_brings 63 = .ok (.iadd, 1) := by decide +kernel
theorem dX9_brings_64 : decode cX9_brings 64 = .ok (.iaload, 1) := by decide +kernel
theorem dX9_brings_65 : decode cX9_brings 65 = .ok (.iastore, 1) := by decide +kernel
theorem dX9_brings_66 : decode cX9_brings 66 = .ok (.aload_n 0, 1) := by decide +kernel
theorem dX9_brings_67 : decode cX9_brings 67 = .ok (.dup, 1) := by decide +kernel
theorem dX9_brings_68 : decode cX9_brings 68 = .ok (.getfield 122, 3) := by decide +kernel
theorem dX9_brings_71 : decode cX9_brings 71 = .ok (.iconst 1, 1) := by decide +kernel
theorem dX9_brings_72 : decode cX9_brings 72 = .ok (.iadd, 1) := by decide +kernel
theorem dX9_brings_73 : decode cX9_brings 73 = .ok (.putfield 122, 3) := by decide +kernel
theorem dX9_brings_76 : decode cX9_brings 76 = .ok (.iinc 2 1, 3) := by decide +kernel
theorem dX9_brings_79 : decode cX9_brings 79 = .ok (.goto (-77), 3) := by decide +kernel
theorem dX9_brings_82 : decode cX9_brings 82 = .ok (.return_, 1) := by decide +kernel
set_option maxRecDepth 20000 in
theorem ggX9_turned_X9_listed : GoodIn wsX9_turned wsX9_listed := goodIn_r _ [5] (by decide +kernel) (by decide +kernel)
set_option maxRecDepth 20000 in
theorem gX9_turned_X9_listed : GoodIn wsX9_turned (va_wsS RX9 67 yX9_listed wsX9_listed) := goodIn_app (goodIn_of _ (by decide +kernel)) ggX9_turned_X9_listed
set_option maxRecDepth 20000 in
theorem ggX9_turned_X9_isAccepted : GoodIn wsX9_turned wsX9_isAccepted := goodIn_r _ [9, 1, 2, 3, 4, 5, 20, 21, 22, 23, 24, 25, 26, 27, 28, 29, 30] (by decide +kernel) (by decide +kernel)
set_option maxRecDepth 20000 in
theorem gX9_turned_X9_isAccepted : GoodIn wsX9_turned (wsV RX9 119 RX9 yX9_isAccepted wsX9_isAccepted) := goodIn_app (goodIn_of _ (by decide +kernel)) ggX9_turned_X9_isAccepted
set_option maxRecDepth 20000 in
theorem ggX9_turned_X9_behind : GoodIn wsX9_turned wsX9_behind := goodIn_r _ [13, 1, 20, 21, 22, 23, 24, 25, 26, 27, 28, 29, 30] (by decide +kernel) (by decide +kernel)
set_option maxRecDepth 20000 in
theorem gX9_turned_X9_behind : GoodIn wsX9_turned (wsV RX9 57 RX9 yX9_behind wsX9_behind) := goodIn_app (goodIn_of _ (by decide +kernel)) ggX9_turned_X9_behind
set_option maxRecDepth 20000 in
theorem ggX9_turned_X9_in : GoodIn wsX9_turned wsX9_in := goodIn_r _ [16] (by decide +kernel) (by decide +kernel)
set_option maxRecDepth 20000 in
theorem gX9_turned_X9_in : GoodIn wsX9_turned (va_wsS RX9 29 yX9_in wsX9_in) := goodIn_app (goodIn_of _ (by decide +kernel)) ggX9_turned_X9_in
set_option maxRecDepth 20000 in
theorem ggX9_turned_X9_other : GoodIn wsX9_turned wsX9_other := goodIn_r _ [19, 14, 15, 4, 16] (by decide +kernel) (by decide +kernel)
set_option maxRecDepth 20000 in
theorem gX9_turned_X9_other : GoodIn wsX9_turned (va_wsS RX9 125 yX9_other wsX9_other) := goodIn_app (goodIn_of _ (by decide +kernel)) ggX9_turned_X9_other
theorem dX9_turned_0 : decode cX9_turned 0 = .ok (.aload_n 0, 1) := by decide +kernel
theorem dX9_turned_1 : decode cX9_turned 1 = .ok (.getfield 7, 3) := by decide +kernel
theorem dX9_turned_4 : decode cX9_turned 4 = .ok (.bipush 27, 2) := by decide +kernel
theorem dX9_turned_6 : decode cX9_turned 6 = .ok (.iload_n 1, 1) := by decide +kernel
theorem dX9_turned_7 : decode cX9_turned 7 = .ok (.iadd, 1) := by decide +kernel
theorem dX9_turned_8 : decode cX9_turned 8 = .ok (.iaload, 1) := by decide +kernel
theorem dX9_turned_9 : decode cX9_turned 9 = .ok (.istore_n 2, 1) := by decide +kernel
theorem dX9_turned_10 : decode cX9_turned 10 = .ok (.iconst 0, 1) := by decide +kernel
theorem dX9_turned_11 : decode cX9_turned 11 = .ok (.istore_n 3, 1) := by decide +kernel
theorem dX9_turned_12 : decode cX9_turned 12 = .ok (.iload_n 3, 1) := by decide +kernel
theorem dX9_turned_13 : decode cX9_turned 13 = .ok (.aload_n 0, 1) := by decide +kernel
theorem dX9_turned_14 : decode cX9_turned 14 = .ok (.getfield 7, 3) := by decide +kernel
theorem dX9_turned_17 : decode cX9_turned 17 = .ok (.iconst 3, 1) := by decide +kernel
theorem dX9_turned_18 : decode cX9_turned 18 = .ok (.iaload, 1) := by decide +kernel
theorem dX9_turned_19 : decode cX9_turned 19 = .ok (.if_icmp .ge 129, 3) := by decide +kernel
theorem dX9_turned_22 : decode cX9_turned 22 = .ok (.iload_n 3, 1) := by decide +kernel
theorem dX9_turned_23 : decode cX9_turned 23 = .ok (.invokestatic 67, 3) := by decide +kernel
theorem dX9_turned_26 : decode cX9_turned 26 = .ok (.istore 4, 2) := by decide +kernel
theorem dX9_turned_28 : decode cX9_turned 28 = .ok (.aload_n 0, 1) := by decide +kernel
theorem dX9_turned_29 : decode cX9_turned 29 = .ok (.getfield 7, 3) := by decide +kernel
theorem dX9_turned_32 : decode cX9_turned 32 = .ok (.iload 4, 2) := by decide +kernel
theorem dX9_turned_34 : decode cX9_turned 34 = .ok (.iconst 1, 1) := by decide +kernel
theorem dX9_turned_35 : decode cX9_turned 35 = .ok (.iadd, 1) := by decide +kernel
theorem dX9_turned_36 : decode cX9_turned 36 = .ok (.iaload, 1) := by decide +kernel
theorem dX9_turned_37 : decode cX9_turned 37 = .ok (.istore 5, 2) := by decide +kernel
theorem dX9_turned_39 : decode cX9_turned 39 = .ok (.aload_n 0, 1) := by decide +kernel
theorem dX9_turned_40 : decode cX9_turned 40 = .ok (.iload_n 3, 1) := by decide +kernel
theorem dX9_turned_41 : decode cX9_turned 41 = .ok (.invokevirtual 119, 3) := by decide +kernel
theorem dX9_turned_44 : decode cX9_turned 44 = .ok (.ifCond .eq 98, 3) := by decide +kernel
theorem dX9_turned_47 : decode cX9_turned 47 = .ok (.iload_n 1, 1) := by decide +kernel
theorem dX9_turned_48 : decode cX9_turned 48 = .ok (.iload 5, 2) := by decide +kernel
theorem dX9_turned_50 : decode cX9_turned 50 = .ok (.aload_n 0, 1) := by decide +kernel
theorem dX9_turned_51 : decode cX9_turned 51 = .ok (.iload 4, 2) := by decide +kernel
theorem dX9_turned_53 : decode cX9_turned 53 = .ok (.invokevirtual 57, 3) := by decide +kernel
theorem dX9_turned_56 : decode cX9_turned 56 = .ok (.iconst 1, 1) := by decide +kernel
theorem dX9_turned_57 : decode cX9_turned 57 = .ok (.isub, 1) := by decide +kernel
theorem dX9_turned_58 : decode cX9_turned 58 = .ok (.invokestatic 29, 3) := by decide +kernel
theorem dX9_turned_61 : decode cX9_turned 61 = .ok (.ifCond .eq 81, 3) := by decide +kernel
theorem dX9_turned_64 : decode cX9_turned 64 = .ok (.aload_n 0, 1) := by decide +kernel
theorem dX9_turned_65 : decode cX9_turned 65 = .ok (.getfield 7, 3) := by decide +kernel
theorem dX9_turned_68 : decode cX9_turned 68 = .ok (.iload 4, 2) := by decide +kernel
theorem dX9_turned_70 : decode cX9_turned 70 = .ok (.iconst 0, 1) := by decide +kernel
theorem dX9_turned_71 : decode cX9_turned 71 = .ok (.iadd, 1) := by decide +kernel
theorem dX9_turned_72 : decode cX9_turned 72 = .ok (.iaload, 1) := by decide +kernel
theorem dX9_turned_73 : decode cX9_turned 73 = .ok (.tableswitch 69 0 4 #[35, 69, 37, 47, 64], 35) := by decide +kernel
theorem dX9_turned_108 : decode cX9_turned 108 = .ok (.iconst (-1), 1) := by decide +kernel
theorem dX9_turned_109 : decode cX9_turned 109 = .ok (.ireturn, 1) := by decide +kernel
theorem dX9_turned_110 : decode cX9_turned 110 = .ok (.aload_n 0, 1) := by decide +kernel
theorem dX9_turned_111 : decode cX9_turned 111 = .ok (.getfield 7, 3) := by decide +kernel
theorem dX9_turned_114 : decode cX9_turned 114 = .ok (.iload 4, 2) := by decide +kernel
theorem dX9_turned_116 : decode cX9_turned 116 = .ok (.iconst 3, 1) := by decide +kernel
theorem dX9_turned_117 : decode cX9_turned 117 = .ok (.iadd, 1) := by decide +kernel
theorem dX9_turned_118 : decode cX9_turned 118 = .ok (.iaload, 1) := by decide +kernel
theorem dX9_turned_119 : decode cX9_turned 119 = .ok (.ireturn, 1) := by decide +kernel
theorem dX9_turned_120 : decode cX9_turned 120 = .ok (.aload_n 0, 1) := by decide +kernel
theorem dX9_turned_121 : decode cX9_turned 121 = .ok (.getfield 7, 3) := by decide +kernel
theorem dX9_turned_124 : decode cX9_turned 124 = .ok (.bipush 27, 2) := by decide +kernel
theorem dX9_turned_126 : decode cX9_turned 126 = .ok (.iconst 2, 1) := by decide +kernel
theorem dX9_turned_127 : decode cX9_turned 127 = .ok (.iload 5, 2) := by decide +kernel
theorem dX9_turned_129 : decode cX9_turned 129 = .ok (.imul, 1) := by decide +kernel
theorem dX9_turned_130 : decode cX9_turned 130 = .ok (.iadd, 1) := by decide +kernel
theorem dX9_turned_131 : decode cX9_turned 131 = .ok (.iconst 1, 1) := by decide +kernel
theorem dX9_turned_132 : decode cX9_turned 132 = .ok (.iadd, 1) := by decide +kernel
theorem dX9_turned_133 : decode cX9_turned 133 = .ok (.iload_n 1, 1) := by decide +kernel
theorem dX9_turned_134 : decode cX9_turned 134 = .ok (.isub, 1) := by decide +kernel
theorem dX9_turned_135 : decode cX9_turned 135 = .ok (.iaload, 1) := by decide +kernel
theorem dX9_turned_136 : decode cX9_turned 136 = .ok (.ireturn, 1) := by decide +kernel
theorem dX9_turned_137 : decode cX9_turned 137 = .ok (.iload_n 2, 1) := by decide +kernel
theorem dX9_turned_138 : decode cX9_turned 138 = .ok (.invokestatic 125, 3) := by decide +kernel
theorem dX9_turned_141 : decode cX9_turned 141 = .ok (.ireturn, 1) := by decide +kernel
theorem dX9_turned_142 : decode cX9_turned 142 = .ok (.iinc 3 1, 3) := by decide +kernel
theorem dX9_turned_145 : decode cX9_turned 145 = .ok (.goto (-133), 3) := by decide +kernel
theorem dX9_turned_148 : decode cX9_turned 148 = .ok (.iload_n 2, 1) := by decide +kernel
theorem dX9_turned_149 : decode cX9_turned 149 = .ok (.ireturn, 1) := by decide +kernel
set_option maxRecDepth 20000 in
theorem ggX9_makes_X9_brings : GoodIn wsX9_makes wsX9_brings := goodIn_r _ [8, 2, 3, 1, 9, 10, 7, 11, 12, 13, 14, 15, 30, 31, 32, 33, 34, 35, 36, 37, 38, 39, 40] (by decide +kernel) (by decide +kernel)
set_option maxRecDepth 20000 in
theorem gX9_makes_X9_brings : GoodIn wsX9_makes (wsV RX9 128 RX9 yX9_brings wsX9_brings) := goodIn_app (goodIn_of _ (by decide +kernel)) ggX9_makes_X9_brings
set_option maxRecDepth 20000 in
theorem ggX9_makes_X9_turned : GoodIn wsX9_makes wsX9_turned := goodIn_r _ [19, 2, 9, 10, 7, 11, 12, 13, 14, 15, 20, 21, 22, 23, 24, 25, 26, 27, 28, 29, 30, 31, 32, 33, 34, 35, 36, 37, 38, 39, 40] (by decide +kernel) (by decide +kernel)
set_option maxRecDepth 20000 in
theorem gX9_makes_X9_turned : GoodIn wsX9_makes (wsV RX9 132 RX9 yX9_turned wsX9_turned) := goodIn_app (goodIn_of _ (by decide +kernel)) ggX9_makes_X9_turned
theorem dX9_makes_0 : decode cX9_makes 0 = .ok (.aload_n 0, 1) := by decide +kernel
theorem dX9_makes_1 : decode cX9_makes 1 = .ok (.iconst 0, 1) := by decide +kernel
theorem dX9_makes_2 : decode cX9_makes 2 = .ok (.putfield 122, 3) := by decide +kernel
theorem dX9_makes_5 : decode cX9_makes 5 = .ok (.iconst 0, 1) := by decide +kernel
theorem dX9_makes_6 : decode cX9_makes 6 = .ok (.istore_n 1, 1) := by decide +kernel
theorem dX9_makes_7 : decode cX9_makes 7 = .ok (.iload_n 1, 1) := by decide +kernel
theorem dX9_makes_8 : decode cX9_makes 8 = .ok (.aload_n 0, 1) := by decide +kernel
theorem dX9_makes_9 : decode cX9_makes 9 = .ok (.getfield 7, 3) := by decide +kernel
theorem dX9_makes_12 : decode cX9_makes 12 = .ok (.iconst 0, 1) := by decide +kernel
theorem dX9_makes_13 : decode cX9_makes 13 = .ok (.iaload, 1) := by decide +kernel
theorem dX9_makes_14 : decode cX9_makes 14 = .ok (.if_icmp .ge 44, 3) := by decide +kernel
theorem dX9_makes_17 : decode cX9_makes 17 = .ok (.aload_n 0, 1) := by decide +kernel
theorem dX9_makes_18 : decode cX9_makes 18 = .ok (.iload_n 1, 1) := by decide +kernel
theorem dX9_makes_19 : decode cX9_makes 19 = .ok (.invokevirtual 128, 3) := by decide +kernel
theorem dX9_makes_22 : decode cX9_makes 22 = .ok (.aload_n 0, 1) := by decide +kernel
theorem dX9_makes_23 : decode cX9_makes 23 = .ok (.iload_n 1, 1) := by decide +kernel
theorem dX9_makes_24 : decode cX9_makes 24 = .ok (.invokevirtual 132, 3) := by decide +kernel
theorem dX9_makes_27 : decode cX9_makes 27 = .ok (.istore_n 2, 1) := by decide +kernel
theorem dX9_makes_28 : decode cX9_makes 28 = .ok (.iload_n 2, 1) := by decide +kernel
theorem dX9_makes_29 : decode cX9_makes 29 = .ok (.ifCond .lt 23, 3) := by decide +kernel
theorem dX9_makes_32 : decode cX9_makes 32 = .ok (.aload_n 0, 1) := by decide +kernel
theorem dX9_makes_33 : decode cX9_makes 33 = .ok (.getfield 19, 3) := by decide +kernel
theorem dX9_makes_36 : decode cX9_makes 36 = .ok (.aload_n 0, 1) := by decide +kernel
theorem dX9_makes_37 : decode cX9_makes 37 = .ok (.getfield 122, 3) := by decide +kernel
theorem dX9_makes_40 : decode cX9_makes 40 = .ok (.iload_n 2, 1) := by decide +kernel
theorem dX9_makes_41 : decode cX9_makes 41 = .ok (.iastore, 1) := by decide +kernel
theorem dX9_makes_42 : decode cX9_makes 42 = .ok (.aload_n 0, 1) := by decide +kernel
theorem dX9_makes_43 : decode cX9_makes 43 = .ok (.dup, 1) := by decide +kernel
theorem dX9_makes_44 : decode cX9_makes 44 = .ok (.getfield 122, 3) := by decide +kernel
theorem dX9_makes_47 : decode cX9_makes 47 = .ok (.iconst 1, 1) := by decide +kernel
theorem dX9_makes_48 : decode cX9_makes 48 = .ok (.iadd, 1) := by decide +kernel
theorem dX9_makes_49 : decode cX9_makes 49 = .ok (.putfield 122, 3) := by decide +kernel
theorem dX9_makes_52 : decode cX9_makes 52 = .ok (.iinc 1 1, 3) := by decide +kernel
theorem dX9_makes_55 : decode cX9_makes 55 = .ok (.goto (-48), 3) := by decide +kernel
theorem dX9_makes_58 : decode cX9_makes 58 = .ok (.aload_n 0, 1) := by decide +kernel
theorem dX9_makes_59 : decode cX9_makes 59 = .ok (.aload_n 0, 1) := by decide +kernel
theorem dX9_makes_60 : decode cX9_makes 60 = .ok (.getfield 7, 3) := by decide +kernel
theorem dX9_makes_63 : decode cX9_makes 63 = .ok (.iconst 0, 1) := by decide +kernel
theorem dX9_makes_64 : decode cX9_makes 64 = .ok (.iaload, 1) := by decide +kernel
theorem dX9_makes_65 : decode cX9_makes 65 = .ok (.invokevirtual 128, 3) := by decide +kernel
theorem dX9_makes_68 : decode cX9_makes 68 = .ok (.aload_n 0, 1) := by decide +kernel
theorem dX9_makes_69 : decode cX9_makes 69 = .ok (.aload_n 0, 1) := by decide +kernel
theorem dX9_makes_70 : decode cX9_makes 70 = .ok (.getfield 122, 3) := by decide +kernel
theorem dX9_makes_73 : decode cX9_makes 73 = .ok (.bipush 100, 2) := by decide +kernel
theorem dX9_makes_75 : decode cX9_makes 75 = .ok (.if_icmp .le 8, 3) := by decide +kernel
theorem dX9_makes_78 : decode cX9_makes 78 = .ok (.bipush 100, 2) := by decide +kernel
theorem dX9_makes_80 : decode cX9_makes 80 = .ok (.goto 7, 3) := by decide +kernel
theorem dX9_makes_83 : decode cX9_makes 83 = .ok (.aload_n 0, 1) := by decide +kernel
theorem dX9_makes_84 : decode cX9_makes 84 = .ok (.getfield 122, 3) := by decide +kernel
theorem dX9_makes_87 : decode cX9_makes 87 = .ok (.putfield 122, 3) := by decide +kernel
theorem dX9_makes_90 : decode cX9_makes 90 = .ok (.return_, 1) := by decide +kernel
theorem dX9_madeAt_0 : decode cX9_madeAt 0 = .ok (.iload_n 1, 1) := by decide +kernel
theorem dX9_madeAt_1 : decode cX9_madeAt 1 = .ok (.aload_n 0, 1) := by decide +kernel
theorem dX9_madeAt_2 : decode cX9_madeAt 2 = .ok (.getfield 122, 3) := by decide +kernel
theorem dX9_madeAt_5 : decode cX9_madeAt 5 = .ok (.if_icmp .ge 12, 3) := by decide +kernel
theorem dX9_madeAt_8 : decode cX9_madeAt 8 = .ok (.aload_n 0, 1) := by decide +kernel
theorem dX9_madeAt_9 : decode cX9_madeAt 9 = .ok (.getfield 19, 3) := by decide +kernel
theorem dX9_madeAt_12 : decode cX9_madeAt 12 = .ok (.iload_n 1, 1) := by decide +kernel
theorem dX9_madeAt_13 : decode cX9_madeAt 13 = .ok (.iaload, 1) := by decide +kernel
theorem dX9_madeAt_14 : decode cX9_madeAt 14 = .ok (.goto 5, 3) := by decide +kernel
theorem dX9_madeAt_17 : decode cX9_madeAt 17 = .ok (.bipush (-4), 2) := by decide +kernel
theorem dX9_madeAt_19 : decode cX9_madeAt 19 = .ok (.ireturn, 1) := by decide +kernel
set_option maxRecDepth 20000 in
theorem ggX9_would_X9_makes : GoodIn wsX9_would wsX9_makes := goodIn_r _ [5, 6, 7, 8, 9, 10, 11, 4, 12, 13, 14, 15, 16, 17, 18, 19, 20, 21, 22, 23, 24, 25, 26, 27, 28, 29, 30, 31, 32, 33, 38, 39, 40, 41, 42, 43, 44, 45, 46, 47, 48] (by decide +kernel) (by decide +kernel)
set_option maxRecDepth 20000 in
theorem gX9_would_X9_makes : GoodIn wsX9_would (wsV RX9 135 RX9 yX9_makes wsX9_makes) := goodIn_app (goodIn_of _ (by decide +kernel)) ggX9_would_X9_makes
set_option maxRecDepth 20000 in
theorem ggX9_would_X9_madeAt : GoodIn wsX9_would wsX9_madeAt := goodIn_r _ [37, 6, 8, 38, 39, 40, 41, 42, 43, 44, 45, 46, 47, 48] (by decide +kernel) (by decide +kernel)
set_option maxRecDepth 20000 in
theorem gX9_would_X9_madeAt : GoodIn wsX9_would (wsV RX9 138 RX9 yX9_madeAt wsX9_madeAt) := goodIn_app (goodIn_of _ (by decide +kernel)) ggX9_would_X9_madeAt
theorem dX9_would_0 : decode cX9_would 0 = .ok (.iload_n 1, 1) := by decide +kernel
theorem dX9_would_1 : decode cX9_would 1 = .ok (.ifCond .ge 5, 3) := by decide +kernel
theorem dX9_would_4 : decode cX9_would 4 = .ok (.iconst (-1), 1) := by decide +kernel
theorem dX9_would_5 : decode cX9_would 5 = .ok (.ireturn, 1) := by decide +kernel
theorem dX9_would_6 : decode cX9_would 6 = .ok (.aload_n 0, 1) := by decide +kernel
theorem dX9_would_7 : decode cX9_would 7 = .ok (.invokevirtual 135, 3) := by decide +kernel
theorem dX9_would_10 : decode cX9_would 10 = .ok (.aload_n 0, 1) := by decide +kernel
theorem dX9_would_11 : decode cX9_would 11 = .ok (.iload_n 1, 1) := by decide +kernel
theorem dX9_would_12 : decode cX9_would 12 = .ok (.invokevirtual 138, 3) := by decide +kernel
theorem dX9_would_15 : decode cX9_would 15 = .ok (.ireturn, 1) := by decide +kernel
theorem dX9_shifts_0 : decode cX9_shifts 0 = .ok (.iload_n 1, 1) := by decide +kernel
theorem dX9_shifts_1 : decode cX9_shifts 1 = .ok (.istore_n 3, 1) := by decide +kernel
theorem dX9_shifts_2 : decode cX9_shifts 2 = .ok (.iload_n 2, 1) := by decide +kernel
theorem dX9_shifts_3 : decode cX9_shifts 3 = .ok (.ifCond .ge 33, 3) := by decide +kernel
theorem dX9_shifts_6 : decode cX9_shifts 6 = .ok (.iload_n 3, 1) := by decide +kernel
theorem dX9_shifts_7 : decode cX9_shifts 7 = .ok (.aload_n 0, 1) := by decide +kernel
theorem dX9_shifts_8 : decode cX9_shifts 8 = .ok (.getfield 122, 3) := by decide +kernel
theorem dX9_shifts_11 : decode cX9_shifts 11 = .ok (.iload_n 2, 1) := by decide +kernel
theorem dX9_shifts_12 : decode cX9_shifts 12 = .ok (.iadd, 1) := by decide +kernel
theorem dX9_shifts_13 : decode cX9_shifts 13 = .ok (.if_icmp .ge 23, 3) := by decide +kernel
theorem dX9_shifts_16 : decode cX9_shifts 16 = .ok (.aload_n 0, 1) := by decide +kernel
theorem dX9_shifts_17 : decode cX9_shifts 17 = .ok (.getfield 19, 3) := by decide +kernel
theorem dX9_shifts_20 : decode cX9_shifts 20 = .ok (.iload_n 3, 1) := by decide +kernel
theorem dX9_shifts_21 : decode cX9_shifts 21 = .ok (.aload_n 0, 1) := by decide +kernel
theorem dX9_shifts_22 : decode cX9_shifts 22 = .ok (.getfield 19, 3) := by decide +kernel
theorem dX9_shifts_25 : decode cX9_shifts 25 = .ok (.iload_n 3, 1) := by decide +kernel
theorem dX9_shifts_26 : decode cX9_shifts 26 = .ok (.iload_n 2, 1) := by decide +kernel
theorem dX9_shifts_27 : decode cX9_shifts 27 = .ok (.isub, 1) := by decide +kernel
theorem dX9_shifts_28 : decode cX9_shifts 28 = .ok (.iaload, 1) := by decide +kernel
theorem dX9_shifts_29 : decode cX9_shifts 29 = .ok (.iastore, 1) := by decide +kernel
theorem dX9_shifts_30 : decode cX9_shifts 30 = .ok (.iinc 3 1, 3) := by decide +kernel
theorem dX9_shifts_33 : decode cX9_shifts 33 = .ok (.goto (-31), 3) := by decide +kernel
theorem dX9_shifts_36 : decode cX9_shifts 36 = .ok (.aload_n 0, 1) := by decide +kernel
theorem dX9_shifts_37 : decode cX9_shifts 37 = .ok (.getfield 122, 3) := by decide +kernel
theorem dX9_shifts_40 : decode cX9_shifts 40 = .ok (.iload_n 2, 1) := by decide +kernel
theorem dX9_shifts_41 : decode cX9_shifts 41 = .ok (.iadd, 1) := by decide +kernel
theorem dX9_shifts_42 : decode cX9_shifts 42 = .ok (.iconst 1, 1) := by decide +kernel
theorem dX9_shifts_43 : decode cX9_shifts 43 = .ok (.isub, 1) := by decide +kernel
theorem dX9_shifts_44 : decode cX9_shifts 44 = .ok (.istore_n 3, 1) := by decide +kernel
theorem dX9_shifts_45 : decode cX9_shifts 45 = .ok (.iload_n 2, 1) := by decide +kernel
theorem dX9_shifts_46 : decode cX9_shifts 46 = .ok (.ifCond .le 30, 3) := by decide +kernel
theorem dX9_shifts_49 : decode cX9_shifts 49 = .ok (.iload_n 3, 1) := by decide +kernel
theorem dX9_shifts_50 : decode cX9_shifts 50 = .ok (.iload_n 1, 1) := by decide +kernel
theorem dX9_shifts_51 : decode cX9_shifts 51 = .ok (.iload_n 2, 1) := by decide +kernel
theorem dX9_shifts_52 : decode cX9_shifts 52 = .ok (.iadd, 1) := by decide +kernel
theorem dX9_shifts_53 : decode cX9_shifts 53 = .ok (.if_icmp .lt 23, 3) := by decide +kernel
theorem dX9_shifts_56 : decode cX9_shifts 56 = .ok (.aload_n 0, 1) := by decide +kernel
theorem dX9_shifts_57 : decode cX9_shifts 57 = .ok (.getfield 19, 3) := by decide +kernel
theorem dX9_shifts_60 : decode cX9_shifts 60 = .ok (.iload_n 3, 1) := by decide +kernel
theorem dX9_shifts_61 : decode cX9_shifts 61 = .ok (.aload_n 0, 1) := by decide +kernel
theorem dX9_shifts_62 : decode cX9_shifts 62 = .ok (.getfield 19, 3) := by decide +kernel
theorem dX9_shifts_65 : decode cX9_shifts 65 = .ok (.iload_n 3, 1) := by decide +kernel
theorem dX9_shifts_66 : decode cX9_shifts 66 = .ok (.iload_n 2, 1) := by decide +kernel
theorem dX9_shifts_67 : decode cX9_shifts 67 = .ok (.isub, 1) := by decide +kernel
theorem dX9_shifts_68 : decode cX9_shifts 68 = .ok (.iaload, 1) := by decide +kernel
theorem dX9_shifts_69 : decode cX9_shifts 69 = .ok (.iastore, 1) := by decide +kernel
theorem dX9_shifts_70 : decode cX9_shifts 70 = .ok (.iinc 3 (-1), 3) := by decide +kernel
theorem dX9_shifts_73 : decode cX9_shifts 73 = .ok (.goto (-28), 3) := by decide +kernel
theorem dX9_shifts_76 : decode cX9_shifts 76 = .ok (.aload_n 0, 1) := by decide +kernel
theorem dX9_shifts_77 : decode cX9_shifts 77 = .ok (.dup, 1) := by decide +kernel
theorem dX9_shifts_78 : decode cX9_shifts 78 = .ok (.getfield 122, 3) := by decide +kernel
theorem dX9_shifts_81 : decode cX9_shifts 81 = .ok (.iload_n 2, 1) := by decide +kernel
theorem dX9_shifts_82 : decode cX9_shifts 82 = .ok (.iadd, 1) := by decide +kernel
theorem dX9_shifts_83 : decode cX9_shifts 83 = .ok (.putfield 122, 3) := by decide +kernel
theorem dX9_shifts_86 : decode cX9_shifts 86 = .ok (.return_, 1) := by decide +kernel
set_option maxRecDepth 20000 in
theorem ggX9_carries_X9_shifts : GoodIn wsX9_carries wsX9_shifts := goodIn_r _ [8, 2, 3, 15, 16, 17, 18, 19, 20, 21, 22, 23, 24, 25] (by decide +kernel) (by decide +kernel)
set_option maxRecDepth 20000 in
theorem gX9_carries_X9_shifts : GoodIn wsX9_carries (wsV RX9 141 RX9 yX9_shifts wsX9_shifts) := goodIn_app (goodIn_of _ (by decide +kernel)) ggX9_carries_X9_shifts
set_option maxRecDepth 20000 in
theorem ggX9_carries_X9_other : GoodIn wsX9_carries wsX9_other := goodIn_r _ [11, 12, 13, 7, 14] (by decide +kernel) (by decide +kernel)
set_option maxRecDepth 20000 in
theorem gX9_carries_X9_other : GoodIn wsX9_carries (va_wsS RX9 125 yX9_other wsX9_other) := goodIn_app (goodIn_of _ (by decide +kernel)) ggX9_carries_X9_other
theorem dX9_carries_0 : decode cX9_carries 0 = .ok (.aload_n 0, 1) := by decide +kernel
theorem dX9_carries_1 : decode cX9_carries 1 = .ok (.getfield 7, 3) := by decide +kernel
theorem dX9_carries_4 : decode cX9_carries 4 = .ok (.iload_n 1, 1) := by decide +kernel
theorem dX9_carries_5 : decode cX9_carries 5 = .ok (.iconst 1, 1) := by decide +kernel
theorem dX9_carries_6 : decode cX9_carries 6 = .ok (.iadd, 1) := by decide +kernel
theorem dX9_carries_7 : decode cX9_carries 7 = .ok (.iaload, 1) := by decide +kernel
theorem dX9_carries_8 : decode cX9_carries 8 = .ok (.istore_n 2, 1) := by decide +kernel
theorem dX9_carries_9 : decode cX9_carries 9 = .ok (.iload_n 2, 1) := by decide +kernel
theorem dX9_carries_10 : decode cX9_carries 10 = .ok (.aload_n 0, 1) := by decide +kernel
theorem dX9_carries_11 : decode cX9_carries 11 = .ok (.getfield 122, 3) := by decide +kernel
theorem dX9_carries_14 : decode cX9_carries 14 = .ok (.if_icmp .ge 12, 3) := by decide +kernel
theorem dX9_carries_17 : decode cX9_carries 17 = .ok (.aload_n 0, 1) := by decide +kernel
theorem dX9_carries_18 : decode cX9_carries 18 = .ok (.getfield 19, 3) := by decide +kernel
theorem dX9_carries_21 : decode cX9_carries 21 = .ok (.iload_n 2, 1) := by decide +kernel
theorem dX9_carries_22 : decode cX9_carries 22 = .ok (.iaload, 1) := by decide +kernel
theorem dX9_carries_23 : decode cX9_carries 23 = .ok (.goto 4, 3) := by decide +kernel
theorem dX9_carries_26 : decode cX9_carries 26 = .ok (.iconst 0, 1) := by decide +kernel
theorem dX9_carries_27 : decode cX9_carries 27 = .ok (.istore_n 3, 1) := by decide +kernel
theorem dX9_carries_28 : decode cX9_carries 28 = .ok (.aload_n 0, 1) := by decide +kernel
theorem dX9_carries_29 : decode cX9_carries 29 = .ok (.getfield 7, 3) := by decide +kernel
theorem dX9_carries_32 : decode cX9_carries 32 = .ok (.iload_n 1, 1) := by decide +kernel
theorem dX9_carries_33 : decode cX9_carries 33 = .ok (.iconst 0, 1) := by decide +kernel
theorem dX9_carries_34 : decode cX9_carries 34 = .ok (.iadd, 1) := by decide +kernel
theorem dX9_carries_35 : decode cX9_carries 35 = .ok (.iaload, 1) := by decide +kernel
theorem dX9_carries_36 : decode cX9_carries 36 = .ok (.tableswitch 133 0 4 #[36, 54, 77, 94, 120], 36) := by decide +kernel
theorem dX9_carries_72 : decode cX9_carries 72 = .ok (.aload_n 0, 1) := by decide +kernel
theorem dX9_carries_73 : decode cX9_carries 73 = .ok (.iload_n 2, 1) := by decide +kernel
theorem dX9_carries_74 : decode cX9_carries 74 = .ok (.iload_n 2, 1) := by decide +kernel
theorem dX9_carries_75 : decode cX9_carries 75 = .ok (.aload_n 0, 1) := by decide +kernel
theorem dX9_carries_76 : decode cX9_carries 76 = .ok (.getfield 7, 3) := by decide +kernel
theorem dX9_carries_79 : decode cX9_carries 79 = .ok (.iload_n 1, 1) := by decide +kernel
theorem dX9_carries_80 : decode cX9_carries 80 = .ok (.iconst 2, 1) := by decide +kernel
theorem dX9_carries_81 : decode cX9_carries 81 = .ok (.iadd, 1) := by decide +kernel
theorem dX9_carries_82 : decode cX9_carries 82 = .ok (.iaload, 1) := by decide +kernel
theorem dX9_carries_83 : decode cX9_carries 83 = .ok (.isub, 1) := by decide +kernel
theorem dX9_carries_84 : decode cX9_carries 84 = .ok (.invokevirtual 141, 3) := by decide +kernel
theorem dX9_carries_87 : decode cX9_carries 87 = .ok (.goto 82, 3) := by decide +kernel
theorem dX9_carries_90 : decode cX9_carries 90 = .ok (.aload_n 0, 1) := by decide +kernel
theorem dX9_carries_91 : decode cX9_carries 91 = .ok (.iload_n 2, 1) := by decide +kernel
theorem dX9_carries_92 : decode cX9_carries 92 = .ok (.iconst 1, 1) := by decide +kernel
theorem dX9_carries_93 : decode cX9_carries 93 = .ok (.invokevirtual 141, 3) := by decide +kernel
theorem dX9_carries_96 : decode cX9_carries 96 = .ok (.aload_n 0, 1) := by decide +kernel
theorem dX9_carries_97 : decode cX9_carries 97 = .ok (.getfield 19, 3) := by decide +kernel
theorem dX9_carries_100 : decode cX9_carries 100 = .ok (.iload_n 2, 1) := by decide +kernel
theorem dX9_carries_101 : decode cX9_carries 101 = .ok (.aload_n 0, 1) := by decide +kernel
theorem dX9_carries_102 : decode cX9_carries 102 = .ok (.getfield 7, 3) := by decide +kernel
theorem dX9_carries_105 : decode cX9_carries 105 = .ok (.iload_n 1, 1) := by decide +kernel
theorem dX9_carries_106 : decode cX9_carries 106 = .ok (.iconst 3, 1) := by decide +kernel
theorem dX9_carries_107 : decode cX9_carries 107 = .ok (.iadd, 1) := by decide +kernel
theorem dX9_carries_108 : decode cX9_carries 108 = .ok (.iaload, 1) := by decide +kernel
theorem dX9_carries_109 : decode cX9_carries 109 = .ok (.iastore, 1) := by decide +kernel
theorem dX9_carries_110 : decode cX9_carries 110 = .ok (.goto 59, 3) := by decide +kernel
theorem dX9_carries_113 : decode cX9_carries 113 = .ok (.aload_n 0, 1) := by decide +kernel
theorem dX9_carries_114 : decode cX9_carries 114 = .ok (.getfield 19, 3) := by decide +kernel
theorem dX9_carries_117 : decode cX9_carries 117 = .ok (.iload_n 2, 1) := by decide +kernel
theorem dX9_carries_118 : decode cX9_carries 118 = .ok (.aload_n 0, 1) := by decide +kernel
theorem dX9_carries_119 : decode cX9_carries 119 = .ok (.getfield 7, 3) := by decide +kernel
theorem dX9_carries_122 : decode cX9_carries 122 = .ok (.iload_n 1, 1) := by decide +kernel
theorem dX9_carries_123 : decode cX9_carries 123 = .ok (.iconst 3, 1) := by decide +kernel
theorem dX9_carries_124 : decode cX9_carries 124 = .ok (.iadd, 1) := by decide +kernel
theorem dX9_carries_125 : decode cX9_carries 125 = .ok (.iaload, 1) := by decide +kernel
theorem dX9_carries_126 : decode cX9_carries 126 = .ok (.iastore, 1) := by decide +kernel
theorem dX9_carries_127 : decode cX9_carries 127 = .ok (.goto 42, 3) := by decide +kernel
theorem dX9_carries_130 : decode cX9_carries 130 = .ok (.aload_n 0, 1) := by decide +kernel
theorem dX9_carries_131 : decode cX9_carries 131 = .ok (.getfield 19, 3) := by decide +kernel
theorem dX9_carries_134 : decode cX9_carries 134 = .ok (.iload_n 2, 1) := by decide +kernel
theorem dX9_carries_135 : decode cX9_carries 135 = .ok (.aload_n 0, 1) := by decide +kernel
theorem dX9_carries_136 : decode cX9_carries 136 = .ok (.getfield 19, 3) := by decide +kernel
theorem dX9_carries_139 : decode cX9_carries 139 = .ok (.iload_n 2, 1) := by decide +kernel
theorem dX9_carries_140 : decode cX9_carries 140 = .ok (.iconst 1, 1) := by decide +kernel
theorem dX9_carries_141 : decode cX9_carries 141 = .ok (.iadd, 1) := by decide +kernel
theorem dX9_carries_142 : decode cX9_carries 142 = .ok (.iaload, 1) := by decide +kernel
theorem dX9_carries_143 : decode cX9_carries 143 = .ok (.iastore, 1) := by decide +kernel
theorem dX9_carries_144 : decode cX9_carries 144 = .ok (.aload_n 0, 1) := by decide +kernel
theorem dX9_carries_145 : decode cX9_carries 145 = .ok (.getfield 19, 3) := by decide +kernel
theorem dX9_carries_148 : decode cX9_carries 148 = .ok (.iload_n 2, 1) := by decide +kernel
theorem dX9_carries_149 : decode cX9_carries 149 = .ok (.iconst 1, 1) := by decide +kernel
theorem dX9_carries_150 : decode cX9_carries 150 = .ok (.iadd, 1) := by decide +kernel
theorem dX9_carries_151 : decode cX9_carries 151 = .ok (.iload_n 3, 1) := by decide +kernel
theorem dX9_carries_152 : decode cX9_carries 152 = .ok (.iastore, 1) := by decide +kernel
theorem dX9_carries_153 : decode cX9_carries 153 = .ok (.goto 16, 3) := by decide +kernel
theorem dX9_carries_156 : decode cX9_carries 156 = .ok (.aload_n 0, 1) := by decide +kernel
theorem dX9_carries_157 : decode cX9_carries 157 = .ok (.getfield 19, 3) := by decide +kernel
theorem dX9_carries_160 : decode cX9_carries 160 = .ok (.iload_n 2, 1) := by decide +kernel
theorem dX9_carries_161 : decode cX9_carries 161 = .ok (.iload_n 3, 1) := by decide +kernel
theorem dX9_carries_162 : decode cX9_carries 162 = .ok (.invokestatic 125, 3) := by decide +kernel
theorem dX9_carries_165 : decode cX9_carries 165 = .ok (.iastore, 1) := by decide +kernel
theorem dX9_carries_166 : decode cX9_carries 166 = .ok (.goto 3, 3) := by decide +kernel
theorem dX9_carries_169 : decode cX9_carries 169 = .ok (.return_, 1) := by decide +kernel
set_option maxRecDepth 20000 in
theorem ggX9_makesOneByOne_X9_listed : GoodIn wsX9_makesOneByOne wsX9_listed := goodIn_r _ [7] (by decide +kernel) (by decide +kernel)
set_option maxRecDepth 20000 in
theorem gX9_makesOneByOne_X9_listed : GoodIn wsX9_makesOneByOne (va_wsS RX9 67 yX9_listed wsX9_listed) := goodIn_app (goodIn_of _ (by decide +kernel)) ggX9_makesOneByOne_X9_listed
set_option maxRecDepth 20000 in
theorem ggX9_makesOneByOne_X9_isAccepted : GoodIn wsX9_makesOneByOne wsX9_isAccepted := goodIn_r _ [11, 1, 4, 5, 6, 7, 26, 27, 28, 29, 30, 31, 32, 33, 34, 35, 36] (by decide +kernel) (by decide +kernel)
set_option maxRecDepth 20000 in
theorem gX9_makesOneByOne_X9_isAccepted : GoodIn wsX9_makesOneByOne (wsV RX9 119 RX9 yX9_isAccepted wsX9_isAccepted) := goodIn_app (goodIn_of _ (by decide +kernel)) ggX9_makesOneByOne_X9_isAccepted
set_option maxRecDepth 20000 in
theorem ggX9_makesOneByOne_X9_carries : GoodIn wsX9_makesOneByOne wsX9_carries := goodIn_r _ [15, 1, 2, 3, 16, 17, 18, 6, 19, 20, 21, 22, 23, 24, 25, 26, 27, 28, 29, 30, 31, 32, 33, 34, 35, 36] (by decide +kernel) (by decide +kernel)
set_option maxRecDepth 20000 in
theorem gX9_makesOneByOne_X9_carries : GoodIn wsX9_makesOneByOne (wsV RX9 145 RX9 yX9_carries wsX9_carries) := goodIn_app (goodIn_of _ (by decide +kernel)) ggX9_makesOneByOne_X9_carries
theorem dX9_makesOneByOne_0 : decode cX9_makesOneByOne 0 = .ok (.aload_n 0, 1) := by decide +kernel
theorem dX9_makesOneByOne_1 : decode cX9_makesOneByOne 1 = .ok (.aload_n 0, 1) := by decide +kernel
theorem dX9_makesOneByOne_2 : decode cX9_makesOneByOne 2 = .ok (.getfield 7, 3) := by decide +kernel
theorem dX9_makesOneByOne_5 : decode cX9_makesOneByOne 5 = .ok (.iconst 0, 1) := by decide +kernel
theorem dX9_makesOneByOne_6 : decode cX9_makesOneByOne 6 = .ok (.iaload, 1) := by decide +kernel
theorem dX9_makesOneByOne_7 : decode cX9_makesOneByOne 7 = .ok (.putfield 122, 3) := by decide +kernel
theorem dX9_makesOneByOne_10 : decode cX9_makesOneByOne 10 = .ok (.iconst 0, 1) := by decide +kernel
theorem dX9_makesOneByOne_11 : decode cX9_makesOneByOne 11 = .ok (.istore_n 1, 1) := by decide +kernel
theorem dX9_makesOneByOne_12 : decode cX9_makesOneByOne 12 = .ok (.iload_n 1, 1) := by decide +kernel
theorem dX9_makesOneByOne_13 : decode cX9_makesOneByOne 13 = .ok (.aload_n 0, 1) := by decide +kernel
theorem dX9_makesOneByOne_14 : decode cX9_makesOneByOne 14 = .ok (.getfield 122, 3) := by decide +kernel
theorem dX9_makesOneByOne_17 : decode cX9_makesOneByOne 17 = .ok (.if_icmp .ge 24, 3) := by decide +kernel
theorem dX9_makesOneByOne_20 : decode cX9_makesOneByOne 20 = .ok (.aload_n 0, 1) := by decide +kernel
theorem dX9_makesOneByOne_21 : decode cX9_makesOneByOne 21 = .ok (.getfield 19, 3) := by decide +kernel
theorem dX9_makesOneByOne_24 : decode cX9_makesOneByOne 24 = .ok (.iload_n 1, 1) := by decide +kernel
theorem dX9_makesOneByOne_25 : decode cX9_makesOneByOne 25 = .ok (.aload_n 0, 1) := by decide +kernel
theorem dX9_makesOneByOne_26 : decode cX9_makesOneByOne 26 = .ok (.getfield 7, 3) := by decide +kernel
theorem dX9_makesOneByOne_29 : decode cX9_makesOneByOne 29 = .ok (.bipush 27, 2) := by decide +kernel
theorem dX9_makesOneByOne_31 : decode cX9_makesOneByOne 31 = .ok (.iload_n 1, 1) := by decide +kernel
theorem dX9_makesOneByOne_32 : decode cX9_makesOneByOne 32 = .ok (.iadd, 1) := by decide +kernel
theorem dX9_makesOneByOne_33 : decode cX9_makesOneByOne 33 = .ok (.iaload, 1) := by decide +kernel
theorem dX9_makesOneByOne_34 : decode cX9_makesOneByOne 34 = .ok (.iastore, 1) := by decide +kernel
theorem dX9_makesOneByOne_35 : decode cX9_makesOneByOne 35 = .ok (.iinc 1 1, 3) := by decide +kernel
theorem dX9_makesOneByOne_38 : decode cX9_makesOneByOne 38 = .ok (.goto (-26), 3) := by decide +kernel
theorem dX9_makesOneByOne_41 : decode cX9_makesOneByOne 41 = .ok (.aload_n 0, 1) := by decide +kernel
theorem dX9_makesOneByOne_42 : decode cX9_makesOneByOne 42 = .ok (.getfield 7, 3) := by decide +kernel
theorem dX9_makesOneByOne_45 : decode cX9_makesOneByOne 45 = .ok (.iconst 0, 1) := by decide +kernel
theorem dX9_makesOneByOne_46 : decode cX9_makesOneByOne 46 = .ok (.iaload, 1) := by decide +kernel
theorem dX9_makesOneByOne_47 : decode cX9_makesOneByOne 47 = .ok (.istore_n 1, 1) := by decide +kernel
theorem dX9_makesOneByOne_48 : decode cX9_makesOneByOne 48 = .ok (.iload_n 1, 1) := by decide +kernel
theorem dX9_makesOneByOne_49 : decode cX9_makesOneByOne 49 = .ok (.ifCond .lt 116, 3) := by decide +kernel
theorem dX9_makesOneByOne_52 : decode cX9_makesOneByOne 52 = .ok (.iconst 0, 1) := by decide +kernel
theorem dX9_makesOneByOne_53 : decode cX9_makesOneByOne 53 = .ok (.istore_n 2, 1) := by decide +kernel
theorem dX9_makesOneByOne_54 : decode cX9_makesOneByOne 54 = .ok (.iload_n 2, 1) := by decide +kernel
theorem dX9_makesOneByOne_55 : decode cX9_makesOneByOne 55 = .ok (.iconst 2, 1) := by decide +kernel
theorem dX9_makesOneByOne_56 : decode cX9_makesOneByOne 56 = .ok (.if_icmp .ge 103, 3) := by decide +kernel
theorem dX9_makesOneByOne_59 : decode cX9_makesOneByOne 59 = .ok (.iconst 0, 1) := by decide +kernel
theorem dX9_makesOneByOne_60 : decode cX9_makesOneByOne 60 = .ok (.istore_n 3, 1) := by decide +kernel
theorem dX9_makesOneByOne_61 : decode cX9_makesOneByOne 61 = .ok (.iload_n 3, 1) := by decide +kernel
theorem dX9_makesOneByOne_62 : decode cX9_makesOneByOne 62 = .ok (.aload_n 0, 1) := by decide +kernel
theorem dX9_makesOneByOne_63 : decode cX9_makesOneByOne 63 = .ok (.getfield 7, 3) := by decide +kernel
theorem dX9_makesOneByOne_66 : decode cX9_makesOneByOne 66 = .ok (.iconst 3, 1) := by decide +kernel
theorem dX9_makesOneByOne_67 : decode cX9_makesOneByOne 67 = .ok (.iaload, 1) := by decide +kernel
theorem dX9_makesOneByOne_68 : decode cX9_makesOneByOne 68 = .ok (.if_icmp .ge 85, 3) := by decide +kernel
theorem dX9_makesOneByOne_71 : decode cX9_makesOneByOne 71 = .ok (.iload_n 3, 1) := by decide +kernel
theorem dX9_makesOneByOne_72 : decode cX9_makesOneByOne 72 = .ok (.invokestatic 67, 3) := by decide +kernel
theorem dX9_makesOneByOne_75 : decode cX9_makesOneByOne 75 = .ok (.istore 4, 2) := by decide +kernel
theorem dX9_makesOneByOne_77 : decode cX9_makesOneByOne 77 = .ok (.aload_n 0, 1) := by decide +kernel
theorem dX9_makesOneByOne_78 : decode cX9_makesOneByOne 78 = .ok (.getfield 7, 3) := by decide +kernel
theorem dX9_makesOneByOne_81 : decode cX9_makesOneByOne 81 = .ok (.iload 4, 2) := by decide +kernel
theorem dX9_makesOneByOne_83 : decode cX9_makesOneByOne 83 = .ok (.iconst 0, 1) := by decide +kernel
theorem dX9_makesOneByOne_84 : decode cX9_makesOneByOne 84 = .ok (.iadd, 1) := by decide +kernel
theorem dX9_makesOneByOne_85 : decode cX9_makesOneByOne 85 = .ok (.iaload, 1) := by decide +kernel
theorem dX9_makesOneByOne_86 : decode cX9_makesOneByOne 86 = .ok (.iconst 1, 1) := by decide +kernel
theorem dX9_makesOneByOne_87 : decode cX9_makesOneByOne 87 = .ok (.if_icmp .ne 7, 3) := by decide +kernel
theorem dX9_makesOneByOne_90 : decode cX9_makesOneByOne 90 = .ok (.iconst 1, 1) := by decide +kernel
theorem dX9_makesOneByOne_91 : decode cX9_makesOneByOne 91 = .ok (.goto 4, 3) := by decide +kernel
theorem dX9_makesOneByOne_94 : decode cX9_makesOneByOne 94 = .ok (.iconst 0, 1) := by decide +kernel
theorem dX9_makesOneByOne_95 : decode cX9_makesOneByOne 95 = .ok (.iload_n 2, 1) := by decide +kernel
theorem dX9_makesOneByOne_96 : decode cX9_makesOneByOne 96 = .ok (.iconst 1, 1) := by decide +kernel
theorem dX9_makesOneByOne_97 : decode cX9_makesOneByOne 97 = .ok (.if_icmp .ne 7, 3) := by decide +kernel
theorem dX9_makesOneByOne_100 : decode cX9_makesOneByOne 100 = .ok (.iconst 1, 1) := by decide +kernel
theorem dX9_makesOneByOne_101 : decode cX9_makesOneByOne 101 = .ok (.goto 4, 3) := by decide +kernel
theorem dX9_makesOneByOne_104 : decode cX9_makesOneByOne 104 = .ok (.iconst 0, 1) := by decide +kernel
theorem dX9_makesOneByOne_105 : decode cX9_makesOneByOne 105 = .ok (.if_icmp .ne 7, 3) := by decide +kernel
theorem dX9_makesOneByOne_108 : decode cX9_makesOneByOne 108 = .ok (.iconst 1, 1) := by decide +kernel
theorem dX9_makesOneByOne_109 : decode cX9_makesOneByOne 109 = .ok (.goto 4, 3) := by decide +kernel
theorem dX9_makesOneByOne_112 : decode cX9_makesOneByOne 112 = .ok (.iconst 0, 1) := by decide +kernel
theorem dX9_makesOneByOne_113 : decode cX9_makesOneByOne 113 = .ok (.istore 5, 2) := by decide +kernel
theorem dX9_makesOneByOne_115 : decode cX9_makesOneByOne 115 = .ok (.aload_n 0, 1) := by decide +kernel
theorem dX9_makesOneByOne_116 : decode cX9_makesOneByOne 116 = .ok (.iload_n 3, 1) := by decide +kernel
theorem dX9_makesOneByOne_117 : decode cX9_makesOneByOne 117 = .ok (.invokevirtual 119, 3) := by decide +kernel
theorem dX9_makesOneByOne_120 : decode cX9_makesOneByOne 120 = .ok (.ifCond .eq 27, 3) := by decide +kernel
theorem dX9_makesOneByOne_123 : decode cX9_makesOneByOne 123 = .ok (.aload_n 0, 1) := by decide +kernel
theorem dX9_makesOneByOne_124 : decode cX9_makesOneByOne 124 = .ok (.getfield 7, 3) := by decide +kernel
theorem dX9_makesOneByOne_127 : decode cX9_makesOneByOne 127 = .ok (.iload 4, 2) := by decide +kernel
theorem dX9_makesOneByOne_129 : decode cX9_makesOneByOne 129 = .ok (.iconst 1, 1) := by decide +kernel
theorem dX9_makesOneByOne_130 : decode cX9_makesOneByOne 130 = .ok (.iadd, 1) := by decide +kernel
theorem dX9_makesOneByOne_131 : decode cX9_makesOneByOne 131 = .ok (.iaload, 1) := by decide +kernel
theorem dX9_makesOneByOne_132 : decode cX9_makesOneByOne 132 = .ok (.iload_n 1, 1) := by decide +kernel
theorem dX9_makesOneByOne_133 : decode cX9_makesOneByOne 133 = .ok (.if_icmp .ne 14, 3) := by decide +kernel
theorem dX9_makesOneByOne_136 : decode cX9_makesOneByOne 136 = .ok (.iload 5, 2) := by decide +kernel
theorem dX9_makesOneByOne_138 : decode cX9_makesOneByOne 138 = .ok (.ifCond .eq 9, 3) := by decide +kernel
theorem dX9_makesOneByOne_141 : decode cX9_makesOneByOne 141 = .ok (.aload_n 0, 1) := by decide +kernel
theorem dX9_makesOneByOne_142 : decode cX9_makesOneByOne 142 = .ok (.iload 4, 2) := by decide +kernel
theorem dX9_makesOneByOne_144 : decode cX9_makesOneByOne 144 = .ok (.invokevirtual 145, 3) := by decide +kernel
theorem dX9_makesOneByOne_147 : decode cX9_makesOneByOne 147 = .ok (.iinc 3 1, 3) := by decide +kernel
theorem dX9_makesOneByOne_150 : decode cX9_makesOneByOne 150 = .ok (.goto (-89), 3) := by decide +kernel
theorem dX9_makesOneByOne_153 : decode cX9_makesOneByOne 153 = .ok (.iinc 2 1, 3) := by decide +kernel
theorem dX9_makesOneByOne_156 : decode cX9_makesOneByOne 156 = .ok (.goto (-102), 3) := by decide +kernel
theorem dX9_makesOneByOne_159 : decode cX9_makesOneByOne 159 = .ok (.iinc 1 (-1), 3) := by decide +kernel
theorem dX9_makesOneByOne_162 : decode cX9_makesOneByOne 162 = .ok (.goto (-114), 3) := by decide +kernel
theorem dX9_makesOneByOne_165 : decode cX9_makesOneByOne 165 = .ok (.aload_n 0, 1) := by decide +kernel
theorem dX9_makesOneByOne_166 : decode cX9_makesOneByOne 166 = .ok (.aload_n 0, 1) := by decide +kernel
theorem dX9_makesOneByOne_167 : decode cX9_makesOneByOne 167 = .ok (.getfield 122, 3) := by decide +kernel
theorem dX9_makesOneByOne_170 : decode cX9_makesOneByOne 170 = .ok (.bipush 100, 2) := by decide +kernel
theorem dX9_makesOneByOne_172 : decode cX9_makesOneByOne 172 = .ok (.if_icmp .le 8, 3) := by decide +kernel
theorem dX9_makesOneByOne_175 : decode cX9_makesOneByOne 175 = .ok (.bipush 100, 2) := by decide +kernel
theorem dX9_makesOneByOne_177 : decode cX9_makesOneByOne 177 = .ok (.goto 7, 3) := by decide +kernel
theorem dX9_makesOneByOne_180 : decode cX9_makesOneByOne 180 = .ok (.aload_n 0, 1) := by decide +kernel
theorem dX9_makesOneByOne_181 : decode cX9_makesOneByOne 181 = .ok (.getfield 122, 3) := by decide +kernel
theorem dX9_makesOneByOne_184 : decode cX9_makesOneByOne 184 = .ok (.putfield 122, 3) := by decide +kernel
theorem dX9_makesOneByOne_187 : decode cX9_makesOneByOne 187 = .ok (.return_, 1) := by decide +kernel
set_option maxRecDepth 20000 in
theorem ggX9_again_X9_makesOneByOne : GoodIn wsX9_again wsX9_makesOneByOne := goodIn_r _ [5, 6, 7, 8, 9, 10, 4, 11, 12, 13, 14, 15, 16, 17, 18, 19, 20, 21, 22, 23, 24, 25, 26, 27, 28, 29, 34, 35, 36, 37, 38, 39, 40, 41, 42, 43, 44] (by decide +kernel) (by decide +kernel)
set_option maxRecDepth 20000 in
theorem gX9_again_X9_makesOneByOne : GoodIn wsX9_again (wsV RX9 148 RX9 yX9_makesOneByOne wsX9_makesOneByOne) := goodIn_app (goodIn_of _ (by decide +kernel)) ggX9_again_X9_makesOneByOne
set_option maxRecDepth 20000 in
theorem ggX9_again_X9_madeAt : GoodIn wsX9_again wsX9_madeAt := goodIn_r _ [33, 7, 8, 34, 35, 36, 37, 38, 39, 40, 41, 42, 43, 44] (by decide +kernel) (by decide +kernel)
set_option maxRecDepth 20000 in
theorem gX9_again_X9_madeAt : GoodIn wsX9_again (wsV RX9 138 RX9 yX9_madeAt wsX9_madeAt) := goodIn_app (goodIn_of _ (by decide +kernel)) ggX9_again_X9_madeAt
theorem dX9_again_0 : decode cX9_again 0 = .ok (.iload_n 1, 1) := by decide +kernel
theorem dX9_again_1 : decode cX9_again 1 = .ok (.ifCond .ge 5, 3) := by decide +kernel
theorem dX9_again_4 : decode cX9_again 4 = .ok (.iconst (-1), 1) := by decide +kernel
theorem dX9_again_5 : decode cX9_again 5 = .ok (.ireturn, 1) := by decide +kernel
theorem dX9_again_6 : decode cX9_again 6 = .ok (.aload_n 0, 1) := by decide +kernel
theorem dX9_again_7 : decode cX9_again 7 = .ok (.invokevirtual 148, 3) := by decide +kernel
theorem dX9_again_10 : decode cX9_again 10 = .ok (.aload_n 0, 1) := by decide +kernel
theorem dX9_again_11 : decode cX9_again 11 = .ok (.iload_n 1, 1) := by decide +kernel
theorem dX9_again_12 : decode cX9_again 12 = .ok (.invokevirtual 138, 3) := by decide +kernel
theorem dX9_again_15 : decode cX9_again 15 = .ok (.ireturn, 1) := by decide +kernel
set_option maxRecDepth 20000 in
theorem ggX9_finish_X9_inState : GoodIn wsX9_finish wsX9_inState := goodIn_r _ [8, 1, 9, 10, 11, 7, 12, 56, 57, 58, 59, 60, 61, 62, 63, 64, 65, 66] (by decide +kernel) (by decide +kernel)
set_option maxRecDepth 20000 in
theorem gX9_finish_X9_inState : GoodIn wsX9_finish (wsV RX9 94 RX9 yX9_inState wsX9_inState) := goodIn_app (goodIn_of _ (by decide +kernel)) ggX9_finish_X9_inState
set_option maxRecDepth 20000 in
theorem ggX9_finish_X9_unanswered : GoodIn wsX9_finish wsX9_unanswered := goodIn_r _ [16, 1, 17, 18, 7, 19, 56, 57, 58, 59, 60, 61, 62, 63, 64, 65, 66] (by decide +kernel) (by decide +kernel)
set_option maxRecDepth 20000 in
theorem gX9_finish_X9_unanswered : GoodIn wsX9_finish (wsV RX9 97 RX9 yX9_unanswered wsX9_unanswered) := goodIn_app (goodIn_of _ (by decide +kernel)) ggX9_finish_X9_unanswered
set_option maxRecDepth 20000 in
theorem ggX9_finish_X9_records : GoodIn wsX9_finish wsX9_records := goodIn_r _ [23, 24, 25, 1, 56, 57, 58, 59, 60, 61, 62, 63, 64, 65, 66] (by decide +kernel) (by decide +kernel)
set_option maxRecDepth 20000 in
theorem gX9_finish_X9_records : GoodIn wsX9_finish (wsV RX9 33 RX9 yX9_records wsX9_records) := goodIn_app (goodIn_of _ (by decide +kernel)) ggX9_finish_X9_records
set_option maxRecDepth 20000 in
theorem ggX9_finish_X9_unmerged : GoodIn wsX9_finish wsX9_unmerged := goodIn_r _ [29, 1, 9, 10, 11, 7, 12, 56, 57, 58, 59, 60, 61, 62, 63, 64, 65, 66] (by decide +kernel) (by decide +kernel)
set_option maxRecDepth 20000 in
theorem gX9_finish_X9_unmerged : GoodIn wsX9_finish (wsV RX9 107 RX9 yX9_unmerged wsX9_unmerged) := goodIn_app (goodIn_of _ (by decide +kernel)) ggX9_finish_X9_unmerged
set_option maxRecDepth 20000 in
theorem ggX9_finish_X9_makes : GoodIn wsX9_finish wsX9_makes := goodIn_r _ [33, 2, 1, 3, 34, 35, 36, 7, 37, 17, 18, 19, 38, 39, 40, 41, 42, 43, 44, 45, 46, 47, 48, 49, 50, 51, 52, 53, 54, 55, 56, 57, 58, 59, 60, 61, 62, 63, 64, 65, 66] (by decide +kernel) (by decide +kernel)
set_option maxRecDepth 20000 in
theorem gX9_finish_X9_makes : GoodIn wsX9_finish (wsV RX9 135 RX9 yX9_makes wsX9_makes) := goodIn_app (goodIn_of _ (by decide +kernel)) ggX9_finish_X9_makes
theorem dX9_finish_0 : decode cX9_finish 0 = .ok (.aload_n 0, 1) := by decide +kernel
theorem dX9_finish_1 : decode cX9_finish 1 = .ok (.getfield 7, 3) := by decide +kernel
theorem dX9_finish_4 : decode cX9_finish 4 = .ok (.iconst 1, 1) := by decide +kernel
theorem dX9_finish_5 : decode cX9_finish 5 = .ok (.iaload, 1) := by decide +kernel
theorem dX9_finish_6 : decode cX9_finish 6 = .ok (.ifCond .eq 22, 3) := by decide +kernel
theorem dX9_finish_9 : decode cX9_finish 9 = .ok (.aload_n 0, 1) := by decide +kernel
theorem dX9_finish_10 : decode cX9_finish 10 = .ok (.iconst 0, 1) := by decide +kernel
theorem dX9_finish_11 : decode cX9_finish 11 = .ok (.invokevirtual 94, 3) := by decide +kernel
theorem dX9_finish_14 : decode cX9_finish 14 = .ok (.aload_n 0, 1) := by decide +kernel
theorem dX9_finish_15 : decode cX9_finish 15 = .ok (.iconst 1, 1) := by decide +kernel
theorem dX9_finish_16 : decode cX9_finish 16 = .ok (.invokevirtual 94, 3) := by decide +kernel
theorem dX9_finish_19 : decode cX9_finish 19 = .ok (.iadd, 1) := by decide +kernel
theorem dX9_finish_20 : decode cX9_finish 20 = .ok (.aload_n 0, 1) := by decide +kernel
theorem dX9_finish_21 : decode cX9_finish 21 = .ok (.invokevirtual 97, 3) := by decide +kernel
theorem dX9_finish_24 : decode cX9_finish 24 = .ok (.iadd, 1) := by decide +kernel
theorem dX9_finish_25 : decode cX9_finish 25 = .ok (.ifCond .le 6, 3) := by decide +kernel
theorem dX9_finish_28 : decode cX9_finish 28 = .ok (.bipush (-2), 2) := by decide +kernel
theorem dX9_finish_30 : decode cX9_finish 30 = .ok (.ireturn, 1) := by decide +kernel
theorem dX9_finish_31 : decode cX9_finish 31 = .ok (.aload_n 0, 1) := by decide +kernel
theorem dX9_finish_32 : decode cX9_finish 32 = .ok (.invokevirtual 33, 3) := by decide +kernel
theorem dX9_finish_35 : decode cX9_finish 35 = .ok (.aload_n 0, 1) := by decide +kernel
theorem dX9_finish_36 : decode cX9_finish 36 = .ok (.getfield 7, 3) := by decide +kernel
theorem dX9_finish_39 : decode cX9_finish 39 = .ok (.bipush 8, 2) := by decide +kernel
theorem dX9_finish_41 : decode cX9_finish 41 = .ok (.dup2, 1) := by decide +kernel
theorem dX9_finish_42 : decode cX9_finish 42 = .ok (.iaload, 1) := by decide +kernel
theorem dX9_finish_43 : decode cX9_finish 43 = .ok (.aload_n 0, 1) := by decide +kernel
theorem dX9_finish_44 : decode cX9_finish 44 = .ok (.invokevirtual 107, 3) := by decide +kernel
theorem dX9_finish_47 : decode cX9_finish 47 = .ok (.iadd, 1) := by decide +kernel
theorem dX9_finish_48 : decode cX9_finish 48 = .ok (.iastore, 1) := by decide +kernel
theorem dX9_finish_49 : decode cX9_finish 49 = .ok (.aload_n 0, 1) := by decide +kernel
theorem dX9_finish_50 : decode cX9_finish 50 = .ok (.invokevirtual 135, 3) := by decide +kernel
theorem dX9_finish_53 : decode cX9_finish 53 = .ok (.aload_n 0, 1) := by decide +kernel
theorem dX9_finish_54 : decode cX9_finish 54 = .ok (.getfield 7, 3) := by decide +kernel
theorem dX9_finish_57 : decode cX9_finish 57 = .ok (.iconst 0, 1) := by decide +kernel
theorem dX9_finish_58 : decode cX9_finish 58 = .ok (.aload_n 0, 1) := by decide +kernel
theorem dX9_finish_59 : decode cX9_finish 59 = .ok (.getfield 122, 3) := by decide +kernel
theorem dX9_finish_62 : decode cX9_finish 62 = .ok (.iastore, 1) := by decide +kernel
theorem dX9_finish_63 : decode cX9_finish 63 = .ok (.iconst 0, 1) := by decide +kernel
theorem dX9_finish_64 : decode cX9_finish 64 = .ok (.istore_n 1, 1) := by decide +kernel
theorem dX9_finish_65 : decode cX9_finish 65 = .ok (.iload_n 1, 1) := by decide +kernel
theorem dX9_finish_66 : decode cX9_finish 66 = .ok (.aload_n 0, 1) := by decide +kernel
theorem dX9_finish_67 : decode cX9_finish 67 = .ok (.getfield 122, 3) := by decide +kernel
theorem dX9_finish_70 : decode cX9_finish 70 = .ok (.if_icmp .ge 24, 3) := by decide +kernel
theorem dX9_finish_73 : decode cX9_finish 73 = .ok (.aload_n 0, 1) := by decide +kernel
theorem dX9_finish_74 : decode cX9_finish 74 = .ok (.getfield 7, 3) := by decide +kernel
theorem dX9_finish_77 : decode cX9_finish 77 = .ok (.bipush 27, 2) := by decide +kernel
theorem dX9_finish_79 : decode cX9_finish 79 = .ok (.iload_n 1, 1) := by decide +kernel
theorem dX9_finish_80 : decode cX9_finish 80 = .ok (.iadd, 1) := by decide +kernel
theorem dX9_finish_81 : decode cX9_finish 81 = .ok (.aload_n 0, 1) := by decide +kernel
theorem dX9_finish_82 : decode cX9_finish 82 = .ok (.getfield 19, 3) := by decide +kernel
theorem dX9_finish_85 : decode cX9_finish 85 = .ok (.iload_n 1, 1) := by decide +kernel
theorem dX9_finish_86 : decode cX9_finish 86 = .ok (.iaload, 1) := by decide +kernel
theorem dX9_finish_87 : decode cX9_finish 87 = .ok (.iastore, 1) := by decide +kernel
theorem dX9_finish_88 : decode cX9_finish 88 = .ok (.iinc 1 1, 3) := by decide +kernel
theorem dX9_finish_91 : decode cX9_finish 91 = .ok (.goto (-26), 3) := by decide +kernel
theorem dX9_finish_94 : decode cX9_finish 94 = .ok (.aload_n 0, 1) := by decide +kernel
theorem dX9_finish_95 : decode cX9_finish 95 = .ok (.getfield 7, 3) := by decide +kernel
theorem dX9_finish_98 : decode cX9_finish 98 = .ok (.iconst 1, 1) := by decide +kernel
theorem dX9_finish_99 : decode cX9_finish 99 = .ok (.dup2, 1) := by decide +kernel
theorem dX9_finish_100 : decode cX9_finish 100 = .ok (.iaload, 1) := by decide +kernel
theorem dX9_finish_101 : decode cX9_finish 101 = .ok (.iconst 1, 1) := by decide +kernel
theorem dX9_finish_102 : decode cX9_finish 102 = .ok (.iadd, 1) := by decide +kernel
theorem dX9_finish_103 : decode cX9_finish 103 = .ok (.iastore, 1) := by decide +kernel
theorem dX9_finish_104 : decode cX9_finish 104 = .ok (.aload_n 0, 1) := by decide +kernel
theorem dX9_finish_105 : decode cX9_finish 105 = .ok (.getfield 7, 3) := by decide +kernel
theorem dX9_finish_108 : decode cX9_finish 108 = .ok (.iconst 2, 1) := by decide +kernel
theorem dX9_finish_109 : decode cX9_finish 109 = .ok (.iconst 0, 1) := by decide +kernel
theorem dX9_finish_110 : decode cX9_finish 110 = .ok (.iastore, 1) := by decide +kernel
theorem dX9_finish_111 : decode cX9_finish 111 = .ok (.aload_n 0, 1) := by decide +kernel
theorem dX9_finish_112 : decode cX9_finish 112 = .ok (.getfield 7, 3) := by decide +kernel
theorem dX9_finish_115 : decode cX9_finish 115 = .ok (.iconst 3, 1) := by decide +kernel
theorem dX9_finish_116 : decode cX9_finish 116 = .ok (.iconst 0, 1) := by decide +kernel
theorem dX9_finish_117 : decode cX9_finish 117 = .ok (.iastore, 1) := by decide +kernel
theorem dX9_finish_118 : decode cX9_finish 118 = .ok (.aload_n 0, 1) := by decide +kernel
theorem dX9_finish_119 : decode cX9_finish 119 = .ok (.getfield 122, 3) := by decide +kernel
theorem dX9_finish_122 : decode cX9_finish 122 = .ok (.ireturn, 1) := by decide +kernel
set_option maxRecDepth 20000 in
theorem ggX9_reader_X9_isReader : GoodIn wsX9_reader wsX9_isReader := goodIn_r _ [5, 6, 7, 4, 8] (by decide +kernel) (by decide +kernel)
set_option maxRecDepth 20000 in
theorem gX9_reader_X9_isReader : GoodIn wsX9_reader (va_wsS RX9 40 yX9_isReader wsX9_isReader) := goodIn_app (goodIn_of _ (by decide +kernel)) ggX9_reader_X9_isReader
set_option maxRecDepth 20000 in
theorem ggX9_reader_X9_in : GoodIn wsX9_reader wsX9_in := goodIn_r _ [8] (by decide +kernel) (by decide +kernel)
set_option maxRecDepth 20000 in
theorem gX9_reader_X9_in : GoodIn wsX9_reader (va_wsS RX9 29 yX9_in wsX9_in) := goodIn_app (goodIn_of _ (by decide +kernel)) ggX9_reader_X9_in
set_option maxRecDepth 20000 in
theorem ggX9_reader_X9_isBusy : GoodIn wsX9_reader wsX9_isBusy := goodIn_r _ [12, 1, 13, 14, 15, 4, 16, 17, 18, 19, 20, 21, 22, 23, 24, 25, 26, 27] (by decide +kernel) (by decide +kernel)
set_option maxRecDepth 20000 in
theorem gX9_reader_X9_isBusy : GoodIn wsX9_reader (wsV RX9 44 RX9 yX9_isBusy wsX9_isBusy) := goodIn_app (goodIn_of _ (by decide +kernel)) ggX9_reader_X9_isBusy
theorem dX9_reader_0 : decode cX9_reader 0 = .ok (.iload_n 1, 1) := by decide +kernel
theorem dX9_reader_1 : decode cX9_reader 1 = .ok (.invokestatic 40, 3) := by decide +kernel
theorem dX9_reader_4 : decode cX9_reader 4 = .ok (.ifCond .eq 12, 3) := by decide +kernel
theorem dX9_reader_7 : decode cX9_reader 7 = .ok (.iload_n 2, 1) := by decide +kernel
theorem dX9_reader_8 : decode cX9_reader 8 = .ok (.iconst 0, 1) := by decide +kernel
theorem dX9_reader_9 : decode cX9_reader 9 = .ok (.iconst 3, 1) := by decide +kernel
theorem dX9_reader_10 : decode cX9_reader 10 = .ok (.invokestatic 29, 3) := by decide +kernel
theorem dX9_reader_13 : decode cX9_reader 13 = .ok (.ifCond .ne 5, 3) := by decide +kernel
theorem dX9_reader_16 : decode cX9_reader 16 = .ok (.iconst (-1), 1) := by decide +kernel
theorem dX9_reader_17 : decode cX9_reader 17 = .ok (.ireturn, 1) := by decide +kernel
theorem dX9_reader_18 : decode cX9_reader 18 = .ok (.iload_n 2, 1) := by decide +kernel
theorem dX9_reader_19 : decode cX9_reader 19 = .ok (.iconst 3, 1) := by decide +kernel
theorem dX9_reader_20 : decode cX9_reader 20 = .ok (.if_icmp .ge 19, 3) := by decide +kernel
theorem dX9_reader_23 : decode cX9_reader 23 = .ok (.aload_n 0, 1) := by decide +kernel
theorem dX9_reader_24 : decode cX9_reader 24 = .ok (.getfield 7, 3) := by decide +kernel
theorem dX9_reader_27 : decode cX9_reader 27 = .ok (.bipush 9, 2) := by decide +kernel
theorem dX9_reader_29 : decode cX9_reader 29 = .ok (.iconst 3, 1) := by decide +kernel
theorem dX9_reader_30 : decode cX9_reader 30 = .ok (.iload_n 1, 1) := by decide +kernel
theorem dX9_reader_31 : decode cX9_reader 31 = .ok (.imul, 1) := by decide +kernel
theorem dX9_reader_32 : decode cX9_reader 32 = .ok (.iadd, 1) := by decide +kernel
theorem dX9_reader_33 : decode cX9_reader 33 = .ok (.iload_n 2, 1) := by decide +kernel
theorem dX9_reader_34 : decode cX9_reader 34 = .ok (.iadd, 1) := by decide +kernel
theorem dX9_reader_35 : decode cX9_reader 35 = .ok (.iaload, 1) := by decide +kernel
theorem dX9_reader_36 : decode cX9_reader 36 = .ok (.goto 16, 3) := by decide +kernel
theorem dX9_reader_39 : decode cX9_reader 39 = .ok (.aload_n 0, 1) := by decide +kernel
theorem dX9_reader_40 : decode cX9_reader 40 = .ok (.iload_n 1, 1) := by decide +kernel
theorem dX9_reader_41 : decode cX9_reader 41 = .ok (.invokevirtual 44, 3) := by decide +kernel
theorem dX9_reader_44 : decode cX9_reader 44 = .ok (.ifCond .eq 7, 3) := by decide +kernel
theorem dX9_reader_47 : decode cX9_reader 47 = .ok (.iconst 1, 1) := by decide +kernel
theorem dX9_reader_48 : decode cX9_reader 48 = .ok (.goto 4, 3) := by decide +kernel
theorem dX9_reader_51 : decode cX9_reader 51 = .ok (.iconst 0, 1) := by decide +kernel
theorem dX9_reader_52 : decode cX9_reader 52 = .ok (.ireturn, 1) := by decide +kernel
set_option maxRecDepth 20000 in
theorem ggX9_type_X9_in : GoodIn wsX9_type wsX9_in := goodIn_r _ [6] (by decide +kernel) (by decide +kernel)
set_option maxRecDepth 20000 in
theorem gX9_type_X9_in : GoodIn wsX9_type (va_wsS RX9 29 yX9_in wsX9_in) := goodIn_app (goodIn_of _ (by decide +kernel)) ggX9_type_X9_in
theorem dX9_type_0 : decode cX9_type 0 = .ok (.iload_n 1, 1) := by decide +kernel
theorem dX9_type_1 : decode cX9_type 1 = .ok (.bipush 32, 2) := by decide +kernel
theorem dX9_type_3 : decode cX9_type 3 = .ok (.bipush 126, 2) := by decide +kernel
theorem dX9_type_5 : decode cX9_type 5 = .ok (.invokestatic 29, 3) := by decide +kernel
theorem dX9_type_8 : decode cX9_type 8 = .ok (.ifCond .ne 5, 3) := by decide +kernel
theorem dX9_type_11 : decode cX9_type 11 = .ok (.iconst (-1), 1) := by decide +kernel
theorem dX9_type_12 : decode cX9_type 12 = .ok (.ireturn, 1) := by decide +kernel
theorem dX9_type_13 : decode cX9_type 13 = .ok (.aload_n 0, 1) := by decide +kernel
theorem dX9_type_14 : decode cX9_type 14 = .ok (.getfield 101, 3) := by decide +kernel
theorem dX9_type_17 : decode cX9_type 17 = .ok (.bipush 80, 2) := by decide +kernel
theorem dX9_type_19 : decode cX9_type 19 = .ok (.if_icmp .ne 6, 3) := by decide +kernel
theorem dX9_type_22 : decode cX9_type 22 = .ok (.bipush (-3), 2) := by decide +kernel
theorem dX9_type_24 : decode cX9_type 24 = .ok (.ireturn, 1) := by decide +kernel
theorem dX9_type_25 : decode cX9_type 25 = .ok (.aload_n 0, 1) := by decide +kernel
theorem dX9_type_26 : decode cX9_type 26 = .ok (.getfield 16, 3) := by decide +kernel
theorem dX9_type_29 : decode cX9_type 29 = .ok (.aload_n 0, 1) := by decide +kernel
theorem dX9_type_30 : decode cX9_type 30 = .ok (.getfield 101, 3) := by decide +kernel
theorem dX9_type_33 : decode cX9_type 33 = .ok (.iload_n 1, 1) := by decide +kernel
theorem dX9_type_34 : decode cX9_type 34 = .ok (.iastore, 1) := by decide +kernel
theorem dX9_type_35 : decode cX9_type 35 = .ok (.aload_n 0, 1) := by decide +kernel
theorem dX9_type_36 : decode cX9_type 36 = .ok (.dup, 1) := by decide +kernel
theorem dX9_type_37 : decode cX9_type 37 = .ok (.getfield 101, 3) := by decide +kernel
theorem dX9_type_40 : decode cX9_type 40 = .ok (.iconst 1, 1) := by decide +kernel
theorem dX9_type_41 : decode cX9_type 41 = .ok (.iadd, 1) := by decide +kernel
theorem dX9_type_42 : decode cX9_type 42 = .ok (.putfield 101, 3) := by decide +kernel
theorem dX9_type_45 : decode cX9_type 45 = .ok (.aload_n 0, 1) := by decide +kernel
theorem dX9_type_46 : decode cX9_type 46 = .ok (.getfield 101, 3) := by decide +kernel
theorem dX9_type_49 : decode cX9_type 49 = .ok (.ireturn, 1) := by decide +kernel
theorem dX9_clearText_0 : decode cX9_clearText 0 = .ok (.aload_n 0, 1) := by decide +kernel
theorem dX9_clearText_1 : decode cX9_clearText 1 = .ok (.getfield 101, 3) := by decide +kernel
theorem dX9_clearText_4 : decode cX9_clearText 4 = .ok (.istore_n 1, 1) := by decide +kernel
theorem dX9_clearText_5 : decode cX9_clearText 5 = .ok (.aload_n 0, 1) := by decide +kernel
theorem dX9_clearText_6 : decode cX9_clearText 6 = .ok (.iconst 0, 1) := by decide +kernel
theorem dX9_clearText_7 : decode cX9_clearText 7 = .ok (.putfield 101, 3) := by decide +kernel
theorem dX9_clearText_10 : decode cX9_clearText 10 = .ok (.iload_n 1, 1) := by decide +kernel
theorem dX9_clearText_11 : decode cX9_clearText 11 = .ok (.ireturn, 1) := by decide +kernel
theorem dX9_here_0 : decode cX9_here 0 = .ok (.aload_n 0, 1) := by decide +kernel
theorem dX9_here_1 : decode cX9_here 1 = .ok (.getfield 151, 3) := by decide +kernel
theorem dX9_here_4 : decode cX9_here 4 = .ok (.aload_n 0, 1) := by decide +kernel
theorem dX9_here_5 : decode cX9_here 5 = .ok (.getfield 101, 3) := by decide +kernel
theorem dX9_here_8 : decode cX9_here 8 = .ok (.if_icmp .ge 15, 3) := by decide +kernel
theorem dX9_here_11 : decode cX9_here 11 = .ok (.aload_n 0, 1) := by decide +kernel
theorem dX9_here_12 : decode cX9_here 12 = .ok (.getfield 16, 3) := by decide +kernel
theorem dX9_here_15 : decode cX9_here 15 = .ok (.aload_n 0, 1) := by decide +kernel
theorem dX9_here_16 : decode cX9_here 16 = .ok (.getfield 151, 3) := by decide +kernel
theorem dX9_here_19 : decode cX9_here 19 = .ok (.iaload, 1) := by decide +kernel
theorem dX9_here_20 : decode cX9_here 20 = .ok (.goto 4, 3) := by decide +kernel
theorem dX9_here_23 : decode cX9_here 23 = .ok (.iconst 0, 1) := by decide +kernel
theorem dX9_here_24 : decode cX9_here 24 = .ok (.ireturn, 1) := by decide +kernel
set_option maxRecDepth 20000 in
theorem ggX9_takes_X9_here : GoodIn wsX9_takes wsX9_here := goodIn_r _ [6, 1, 7, 8, 9, 10, 11, 12, 13, 14, 15, 16, 17, 18, 19] (by decide +kernel) (by decide +kernel)
set_option maxRecDepth 20000 in
theorem gX9_takes_X9_here : GoodIn wsX9_takes (wsV RX9 154 RX9 yX9_here wsX9_here) := goodIn_app (goodIn_of _ (by decide +kernel)) ggX9_takes_X9_here
theorem dX9_takes_0 : decode cX9_takes 0 = .ok (.aload_n 0, 1) := by decide +kernel
theorem dX9_takes_1 : decode cX9_takes 1 = .ok (.invokevirtual 154, 3) := by decide +kernel
theorem dX9_takes_4 : decode cX9_takes 4 = .ok (.iload_n 1, 1) := by decide +kernel
theorem dX9_takes_5 : decode cX9_takes 5 = .ok (.if_icmp .ne 7, 3) := by decide +kernel
theorem dX9_takes_8 : decode cX9_takes 8 = .ok (.iconst 1, 1) := by decide +kernel
theorem dX9_takes_9 : decode cX9_takes 9 = .ok (.goto 4, 3) := by decide +kernel
theorem dX9_takes_12 : decode cX9_takes 12 = .ok (.iconst 0, 1) := by decide +kernel
theorem dX9_takes_13 : decode cX9_takes 13 = .ok (.istore_n 2, 1) := by decide +kernel
theorem dX9_takes_14 : decode cX9_takes 14 = .ok (.aload_n 0, 1) := by decide +kernel
theorem dX9_takes_15 : decode cX9_takes 15 = .ok (.dup, 1) := by decide +kernel
theorem dX9_takes_16 : decode cX9_takes 16 = .ok (.getfield 151, 3) := by decide +kernel
theorem dX9_takes_19 : decode cX9_takes 19 = .ok (.iload_n 2, 1) := by decide +kernel
theorem dX9_takes_20 : decode cX9_takes 20 = .ok (.ifCond .eq 7, 3) := by decide +kernel
theorem dX9_takes_23 : decode cX9_takes 23 = .ok (.iconst 1, 1) := by decide +kernel
theorem dX9_takes_24 : decode cX9_takes 24 = .ok (.goto 4, 3) := by decide +kernel
theorem dX9_takes_27 : decode cX9_takes 27 = .ok (.iconst 0, 1) := by decide +kernel
theorem dX9_takes_28 : decode cX9_takes 28 = .ok (.iadd, 1) := by decide +kernel
theorem dX9_takes_29 : decode cX9_takes 29 = .ok (.putfield 151, 3) := by decide +kernel
theorem dX9_takes_32 : decode cX9_takes 32 = .ok (.iload_n 2, 1) := by decide +kernel
theorem dX9_takes_33 : decode cX9_takes 33 = .ok (.ireturn, 1) := by decide +kernel
theorem dX9_spelt_0 : decode cX9_spelt 0 = .ok (.iload_n 0, 1) := by decide +kernel
theorem dX9_spelt_1 : decode cX9_spelt 1 = .ok (.sipush 128, 3) := by decide +kernel
theorem dX9_spelt_4 : decode cX9_spelt 4 = .ok (.imul, 1) := by decide +kernel
theorem dX9_spelt_5 : decode cX9_spelt 5 = .ok (.iload_n 1, 1) := by decide +kernel
theorem dX9_spelt_6 : decode cX9_spelt 6 = .ok (.iadd, 1) := by decide +kernel
theorem dX9_spelt_7 : decode cX9_spelt 7 = .ok (.sipush 128, 3) := by decide +kernel
theorem dX9_spelt_10 : decode cX9_spelt 10 = .ok (.imul, 1) := by decide +kernel
theorem dX9_spelt_11 : decode cX9_spelt 11 = .ok (.iload_n 2, 1) := by decide +kernel
theorem dX9_spelt_12 : decode cX9_spelt 12 = .ok (.iadd, 1) := by decide +kernel
theorem dX9_spelt_13 : decode cX9_spelt 13 = .ok (.sipush 128, 3) := by decide +kernel
theorem dX9_spelt_16 : decode cX9_spelt 16 = .ok (.imul, 1) := by decide +kernel
theorem dX9_spelt_17 : decode cX9_spelt 17 = .ok (.iload_n 3, 1) := by decide +kernel
theorem dX9_spelt_18 : decode cX9_spelt 18 = .ok (.iadd, 1) := by decide +kernel
theorem dX9_spelt_19 : decode cX9_spelt 19 = .ok (.ireturn, 1) := by decide +kernel
set_option maxRecDepth 20000 in
theorem ggX9_wordHere_X9_here : GoodIn wsX9_wordHere wsX9_here := goodIn_r _ [6, 1, 7, 8, 15, 16, 17, 18, 19, 20, 21, 22, 23, 24, 25] (by decide +kernel) (by decide +kernel)
set_option maxRecDepth 20000 in
theorem gX9_wordHere_X9_here : GoodIn wsX9_wordHere (wsV RX9 154 RX9 yX9_here wsX9_here) := goodIn_app (goodIn_of _ (by decide +kernel)) ggX9_wordHere_X9_here
set_option maxRecDepth 20000 in
theorem ggX9_wordHere_X9_in : GoodIn wsX9_wordHere wsX9_in := goodIn_r _ [11] (by decide +kernel) (by decide +kernel)
set_option maxRecDepth 20000 in
theorem gX9_wordHere_X9_in : GoodIn wsX9_wordHere (va_wsS RX9 29 yX9_in wsX9_in) := goodIn_app (goodIn_of _ (by decide +kernel)) ggX9_wordHere_X9_in
set_option maxRecDepth 20000 in
theorem ggX9_wordHere_X9_spelt : GoodIn wsX9_wordHere wsX9_spelt := goodIn_r _ [14] (by decide +kernel) (by decide +kernel)
set_option maxRecDepth 20000 in
theorem gX9_wordHere_X9_spelt : GoodIn wsX9_wordHere (va_wsS RX9 157 yX9_spelt wsX9_spelt) := goodIn_app (goodIn_of _ (by decide +kernel)) ggX9_wordHere_X9_spelt
theorem dX9_wordHere_0 : decode cX9_wordHere 0 = .ok (.iconst 0, 1) := by decide +kernel
theorem dX9_wordHere_1 : decode cX9_wordHere 1 = .ok (.istore_n 1, 1) := by decide +kernel
theorem dX9_wordHere_2 : decode cX9_wordHere 2 = .ok (.iconst 0, 1) := by decide +kernel
theorem dX9_wordHere_3 : decode cX9_wordHere 3 = .ok (.istore_n 2, 1) := by decide +kernel
theorem dX9_wordHere_4 : decode cX9_wordHere 4 = .ok (.aload_n 0, 1) := by decide +kernel
theorem dX9_wordHere_5 : decode cX9_wordHere 5 = .ok (.invokevirtual 154, 3) := by decide +kernel
theorem dX9_wordHere_8 : decode cX9_wordHere 8 = .ok (.bipush 97, 2) := by decide +kernel
theorem dX9_wordHere_10 : decode cX9_wordHere 10 = .ok (.bipush 122, 2) := by decide +kernel
theorem dX9_wordHere_12 : decode cX9_wordHere 12 = .ok (.invokestatic 29, 3) := by decide +kernel
theorem dX9_wordHere_15 : decode cX9_wordHere 15 = .ok (.ifCond .eq 39, 3) := by decide +kernel
theorem dX9_wordHere_18 : decode cX9_wordHere 18 = .ok (.iload_n 2, 1) := by decide +kernel
theorem dX9_wordHere_19 : decode cX9_wordHere 19 = .ok (.iconst 4, 1) := by decide +kernel
theorem dX9_wordHere_20 : decode cX9_wordHere 20 = .ok (.if_icmp .ge 16, 3) := by decide +kernel
theorem dX9_wordHere_23 : decode cX9_wordHere 23 = .ok (.iload_n 1, 1) := by decide +kernel
theorem dX9_wordHere_24 : decode cX9_wordHere 24 = .ok (.sipush 128, 3) := by decide +kernel
theorem dX9_wordHere_27 : decode cX9_wordHere 27 = .ok (.imul, 1) := by decide +kernel
theorem dX9_wordHere_28 : decode cX9_wordHere 28 = .ok (.aload_n 0, 1) := by decide +kernel
theorem dX9_wordHere_29 : decode cX9_wordHere 29 = .ok (.invokevirtual 154, 3) := by decide +kernel
theorem dX9_wordHere_32 : decode cX9_wordHere 32 = .ok (.iadd, 1) := by decide +kernel
theorem dX9_wordHere_33 : decode cX9_wordHere 33 = .ok (.goto 4, 3) := by decide +kernel
theorem dX9_wordHere_36 : decode cX9_wordHere 36 = .ok (.iconst 0, 1) := by decide +kernel
theorem dX9_wordHere_37 : decode cX9_wordHere 37 = .ok (.istore_n 1, 1) := by decide +kernel
theorem dX9_wordHere_38 : decode cX9_wordHere 38 = .ok (.iinc 2 1, 3) := by decide +kernel
theorem dX9_wordHere_41 : decode cX9_wordHere 41 = .ok (.aload_n 0, 1) := by decide +kernel
theorem dX9_wordHere_42 : decode cX9_wordHere 42 = .ok (.dup, 1) := by decide +kernel
theorem dX9_wordHere_43 : decode cX9_wordHere 43 = .ok (.getfield 151, 3) := by decide +kernel
theorem dX9_wordHere_46 : decode cX9_wordHere 46 = .ok (.iconst 1, 1) := by decide +kernel
theorem dX9_wordHere_47 : decode cX9_wordHere 47 = .ok (.iadd, 1) := by decide +kernel
theorem dX9_wordHere_48 : decode cX9_wordHere 48 = .ok (.putfield 151, 3) := by decide +kernel
theorem dX9_wordHere_51 : decode cX9_wordHere 51 = .ok (.goto (-47), 3) := by decide +kernel
theorem dX9_wordHere_54 : decode cX9_wordHere 54 = .ok (.iload_n 2, 1) := by decide +kernel
theorem dX9_wordHere_55 : decode cX9_wordHere 55 = .ok (.iconst 3, 1) := by decide +kernel
theorem dX9_wordHere_56 : decode cX9_wordHere 56 = .ok (.if_icmp .ne 7, 3) := by decide +kernel
theorem dX9_wordHere_59 : decode cX9_wordHere 59 = .ok (.iload_n 1, 1) := by decide +kernel
theorem dX9_wordHere_60 : decode cX9_wordHere 60 = .ok (.goto 4, 3) := by decide +kernel
theorem dX9_wordHere_63 : decode cX9_wordHere 63 = .ok (.iconst (-1), 1) := by decide +kernel
theorem dX9_wordHere_64 : decode cX9_wordHere 64 = .ok (.istore_n 3, 1) := by decide +kernel
theorem dX9_wordHere_65 : decode cX9_wordHere 65 = .ok (.iload_n 2, 1) := by decide +kernel
theorem dX9_wordHere_66 : decode cX9_wordHere 66 = .ok (.iconst 4, 1) := by decide +kernel
theorem dX9_wordHere_67 : decode cX9_wordHere 67 = .ok (.if_icmp .ne 7, 3) := by decide +kernel
theorem dX9_wordHere_70 : decode cX9_wordHere 70 = .ok (.iload_n 1, 1) := by decide +kernel
theorem dX9_wordHere_71 : decode cX9_wordHere 71 = .ok (.goto 4, 3) := by decide +kernel
theorem dX9_wordHere_74 : decode cX9_wordHere 74 = .ok (.iconst (-1), 1) := by decide +kernel
theorem dX9_wordHere_75 : decode cX9_wordHere 75 = .ok (.istore 4, 2) := by decide +kernel
theorem dX9_wordHere_77 : decode cX9_wordHere 77 = .ok (.iload 4, 2) := by decide +kernel
theorem dX9_wordHere_79 : decode cX9_wordHere 79 = .ok (.bipush 115, 2) := by decide +kernel
theorem dX9_wordHere_81 : decode cX9_wordHere 81 = .ok (.bipush 119, 2) := by decide +kernel
theorem dX9_wordHere_83 : decode cX9_wordHere 83 = .ok (.bipush 97, 2) := by decide +kernel
theorem dX9_wordHere_85 : decode cX9_wordHere 85 = .ok (.bipush 112, 2) := by decide +kernel
theorem dX9_wordHere_87 : decode cX9_wordHere 87 = .ok (.invokestatic 157, 3) := by decide +kernel
theorem dX9_wordHere_90 : decode cX9_wordHere 90 = .ok (.if_icmp .ne 5, 3) := by decide +kernel
theorem dX9_wordHere_93 : decode cX9_wordHere 93 = .ok (.iconst 3, 1) := by decide +kernel
theorem dX9_wordHere_94 : decode cX9_wordHere 94 = .ok (.ireturn, 1) := by decide +kernel
theorem dX9_wordHere_95 : decode cX9_wordHere 95 = .ok (.iload_n 3, 1) := by decide +kernel
theorem dX9_wordHere_96 : decode cX9_wordHere 96 = .ok (.iconst 0, 1) := by decide +kernel
theorem dX9_wordHere_97 : decode cX9_wordHere 97 = .ok (.bipush 100, 2) := by decide +kernel
theorem dX9_wordHere_99 : decode cX9_wordHere 99 = .ok (.bipush 101, 2) := by decide +kernel
theorem dX9_wordHere_101 : decode cX9_wordHere 101 = .ok (.bipush 108, 2) := by decide +kernel
theorem dX9_wordHere_103 : decode cX9_wordHere 103 = .ok (.invokestatic 157, 3) := by decide +kernel
theorem dX9_wordHere_106 : decode cX9_wordHere 106 = .ok (.if_icmp .ne 5, 3) := by decide +kernel
theorem dX9_wordHere_109 : decode cX9_wordHere 109 = .ok (.iconst 0, 1) := by decide +kernel
theorem dX9_wordHere_110 : decode cX9_wordHere 110 = .ok (.ireturn, 1) := by decide +kernel
theorem dX9_wordHere_111 : decode cX9_wordHere 111 = .ok (.iload_n 3, 1) := by decide +kernel
theorem dX9_wordHere_112 : decode cX9_wordHere 112 = .ok (.iconst 0, 1) := by decide +kernel
theorem dX9_wordHere_113 : decode cX9_wordHere 113 = .ok (.bipush 105, 2) := by decide +kernel
theorem dX9_wordHere_115 : decode cX9_wordHere 115 = .ok (.bipush 110, 2) := by decide +kernel
theorem dX9_wordHere_117 : decode cX9_wordHere 117 = .ok (.bipush 115, 2) := by decide +kernel
theorem dX9_wordHere_119 : decode cX9_wordHere 119 = .ok (.invokestatic 157, 3) := by decide +kernel
theorem dX9_wordHere_122 : decode cX9_wordHere 122 = .ok (.if_icmp .ne 5, 3) := by decide +kernel
theorem dX9_wordHere_125 : decode cX9_wordHere 125 = .ok (.iconst 1, 1) := by decide +kernel
theorem dX9_wordHere_126 : decode cX9_wordHere 126 = .ok (.ireturn, 1) := by decide +kernel
theorem dX9_wordHere_127 : decode cX9_wordHere 127 = .ok (.iload_n 3, 1) := by decide +kernel
theorem dX9_wordHere_128 : decode cX9_wordHere 128 = .ok (.iconst 0, 1) := by decide +kernel
theorem dX9_wordHere_129 : decode cX9_wordHere 129 = .ok (.bipush 114, 2) := by decide +kernel
theorem dX9_wordHere_131 : decode cX9_wordHere 131 = .ok (.bipush 101, 2) := by decide +kernel
theorem dX9_wordHere_133 : decode cX9_wordHere 133 = .ok (.bipush 112, 2) := by decide +kernel
theorem dX9_wordHere_135 : decode cX9_wordHere 135 = .ok (.invokestatic 157, 3) := by decide +kernel
theorem dX9_wordHere_138 : decode cX9_wordHere 138 = .ok (.if_icmp .ne 5, 3) := by decide +kernel
theorem dX9_wordHere_141 : decode cX9_wordHere 141 = .ok (.iconst 2, 1) := by decide +kernel
theorem dX9_wordHere_142 : decode cX9_wordHere 142 = .ok (.ireturn, 1) := by decide +kernel
theorem dX9_wordHere_143 : decode cX9_wordHere 143 = .ok (.iload_n 3, 1) := by decide +kernel
theorem dX9_wordHere_144 : decode cX9_wordHere 144 = .ok (.iconst 0, 1) := by decide +kernel
theorem dX9_wordHere_145 : decode cX9_wordHere 145 = .ok (.bipush 99, 2) := by decide +kernel
theorem dX9_wordHere_147 : decode cX9_wordHere 147 = .ok (.bipush 97, 2) := by decide +kernel
theorem dX9_wordHere_149 : decode cX9_wordHere 149 = .ok (.bipush 112, 2) := by decide +kernel
theorem dX9_wordHere_151 : decode cX9_wordHere 151 = .ok (.invokestatic 157, 3) := by decide +kernel
theorem dX9_wordHere_154 : decode cX9_wordHere 154 = .ok (.if_icmp .ne 7, 3) := by decide +kernel
theorem dX9_wordHere_157 : decode cX9_wordHere 157 = .ok (.iconst 4, 1) := by decide +kernel
theorem dX9_wordHere_158 : decode cX9_wordHere 158 = .ok (.goto 22, 3) := by decide +kernel
theorem dX9_wordHere_161 : decode cX9_wordHere 161 = .ok (.iload_n 3, 1) := by decide +kernel
theorem dX9_wordHere_162 : decode cX9_wordHere 162 = .ok (.iconst 0, 1) := by decide +kernel
theorem dX9_wordHere_163 : decode cX9_wordHere 163 = .ok (.bipush 97, 2) := by decide +kernel
theorem dX9_wordHere_165 : decode cX9_wordHere 165 = .ok (.bipush 115, 2) := by decide +kernel
theorem dX9_wordHere_167 : decode cX9_wordHere 167 = .ok (.bipush 107, 2) := by decide +kernel
theorem dX9_wordHere_169 : decode cX9_wordHere 169 = .ok (.invokestatic 157, 3) := by decide +kernel
theorem dX9_wordHere_172 : decode cX9_wordHere 172 = .ok (.if_icmp .ne 7, 3) := by decide +kernel
theorem dX9_wordHere_175 : decode cX9_wordHere 175 = .ok (.iconst 5, 1) := by decide +kernel
theorem dX9_wordHere_176 : decode cX9_wordHere 176 = .ok (.goto 4, 3) := by decide +kernel
theorem dX9_wordHere_179 : decode cX9_wordHere 179 = .ok (.iconst (-1), 1) := by decide +kernel
theorem dX9_wordHere_180 : decode cX9_wordHere 180 = .ok (.ireturn, 1) := by decide +kernel
set_option maxRecDepth 20000 in
theorem ggX9_takesPosition_X9_takes : GoodIn wsX9_takesPosition wsX9_takes := goodIn_r _ [6, 1, 7, 8, 9, 5, 10, 11, 12, 16, 17, 18, 19, 20, 21, 22, 23, 24, 25, 26] (by decide +kernel) (by decide +kernel)
set_option maxRecDepth 20000 in
theorem gX9_takesPosition_X9_takes : GoodIn wsX9_takesPosition (wsV RX9 161 RX9 yX9_takes wsX9_takes) := goodIn_app (goodIn_of _ (by decide +kernel)) ggX9_takesPosition_X9_takes
set_option maxRecDepth 20000 in
theorem ggX9_takesPosition_X9_here : GoodIn wsX9_takesPosition wsX9_here := goodIn_r _ [10, 1, 11, 12, 16, 17, 18, 19, 20, 21, 22, 23, 24, 25, 26] (by decide +kernel) (by decide +kernel)
set_option maxRecDepth 20000 in
theorem gX9_takesPosition_X9_here : GoodIn wsX9_takesPosition (wsV RX9 154 RX9 yX9_here wsX9_here) := goodIn_app (goodIn_of _ (by decide +kernel)) ggX9_takesPosition_X9_here
set_option maxRecDepth 20000 in
theorem ggX9_takesPosition_X9_in : GoodIn wsX9_takesPosition wsX9_in := goodIn_r _ [15] (by decide +kernel) (by decide +kernel)
set_option maxRecDepth 20000 in
theorem gX9_takesPosition_X9_in : GoodIn wsX9_takesPosition (va_wsS RX9 29 yX9_in wsX9_in) := goodIn_app (goodIn_of _ (by decide +kernel)) ggX9_takesPosition_X9_in
theorem dX9_takesPosition_0 : decode cX9_takesPosition 0 = .ok (.aload_n 0, 1) := by decide +kernel
theorem dX9_takesPosition_1 : decode cX9_takesPosition 1 = .ok (.bipush 32, 2) := by decide +kernel
theorem dX9_takesPosition_3 : decode cX9_takesPosition 3 = .ok (.invokevirtual 161, 3) := by decide +kernel
theorem dX9_takesPosition_6 : decode cX9_takesPosition 6 = .ok (.ifCond .eq 17, 3) := by decide +kernel
theorem dX9_takesPosition_9 : decode cX9_takesPosition 9 = .ok (.aload_n 0, 1) := by decide +kernel
theorem dX9_takesPosition_10 : decode cX9_takesPosition 10 = .ok (.invokevirtual 154, 3) := by decide +kernel
theorem dX9_takesPosition_13 : decode cX9_takesPosition 13 = .ok (.bipush 48, 2) := by decide +kernel
theorem dX9_takesPosition_15 : decode cX9_takesPosition 15 = .ok (.bipush 57, 2) := by decide +kernel
theorem dX9_takesPosition_17 : decode cX9_takesPosition 17 = .ok (.invokestatic 29, 3) := by decide +kernel
theorem dX9_takesPosition_20 : decode cX9_takesPosition 20 = .ok (.ifCond .ne 5, 3) := by decide +kernel
theorem dX9_takesPosition_23 : decode cX9_takesPosition 23 = .ok (.iconst (-1), 1) := by decide +kernel
theorem dX9_takesPosition_24 : decode cX9_takesPosition 24 = .ok (.ireturn, 1) := by decide +kernel
theorem dX9_takesPosition_25 : decode cX9_takesPosition 25 = .ok (.iconst 0, 1) := by decide +kernel
theorem dX9_takesPosition_26 : decode cX9_takesPosition 26 = .ok (.istore_n 1, 1) := by decide +kernel
theorem dX9_takesPosition_27 : decode cX9_takesPosition 27 = .ok (.iconst 0, 1) := by decide +kernel
theorem dX9_takesPosition_28 : decode cX9_takesPosition 28 = .ok (.istore_n 2, 1) := by decide +kernel
theorem dX9_takesPosition_29 : decode cX9_takesPosition 29 = .ok (.iload_n 2, 1) := by decide +kernel
theorem dX9_takesPosition_30 : decode cX9_takesPosition 30 = .ok (.iconst 3, 1) := by decide +kernel
theorem dX9_takesPosition_31 : decode cX9_takesPosition 31 = .ok (.if_icmp .ge 46, 3) := by decide +kernel
theorem dX9_takesPosition_34 : decode cX9_takesPosition 34 = .ok (.aload_n 0, 1) := by decide +kernel
theorem dX9_takesPosition_35 : decode cX9_takesPosition 35 = .ok (.invokevirtual 154, 3) := by decide +kernel
theorem dX9_takesPosition_38 : decode cX9_takesPosition 38 = .ok (.bipush 48, 2) := by decide +kernel
theorem dX9_takesPosition_40 : decode cX9_takesPosition 40 = .ok (.bipush 57, 2) := by decide +kernel
theorem dX9_takesPosition_42 : decode cX9_takesPosition 42 = .ok (.invokestatic 29, 3) := by decide +kernel
theorem dX9_takesPosition_45 : decode cX9_takesPosition 45 = .ok (.ifCond .eq 32, 3) := by decide +kernel
theorem dX9_takesPosition_48 : decode cX9_takesPosition 48 = .ok (.bipush 10, 2) := by decide +kernel
theorem dX9_takesPosition_50 : decode cX9_takesPosition 50 = .ok (.iload_n 1, 1) := by decide +kernel
theorem dX9_takesPosition_51 : decode cX9_takesPosition 51 = .ok (.imul, 1) := by decide +kernel
theorem dX9_takesPosition_52 : decode cX9_takesPosition 52 = .ok (.aload_n 0, 1) := by decide +kernel
theorem dX9_takesPosition_53 : decode cX9_takesPosition 53 = .ok (.invokevirtual 154, 3) := by decide +kernel
theorem dX9_takesPosition_56 : decode cX9_takesPosition 56 = .ok (.iadd, 1) := by decide +kernel
theorem dX9_takesPosition_57 : decode cX9_takesPosition 57 = .ok (.bipush 48, 2) := by decide +kernel
theorem dX9_takesPosition_59 : decode cX9_takesPosition 59 = .ok (.isub, 1) := by decide +kernel
theorem dX9_takesPosition_60 : decode cX9_takesPosition 60 = .ok (.istore_n 1, 1) := by decide +kernel
theorem dX9_takesPosition_61 : decode cX9_takesPosition 61 = .ok (.aload_n 0, 1) := by decide +kernel
theorem dX9_takesPosition_62 : decode cX9_takesPosition 62 = .ok (.dup, 1) := by decide +kernel
theorem dX9_takesPosition_63 : decode cX9_takesPosition 63 = .ok (.getfield 151, 3) := by decide +kernel
theorem dX9_takesPosition_66 : decode cX9_takesPosition 66 = .ok (.iconst 1, 1) := by decide +kernel
theorem dX9_takesPosition_67 : decode cX9_takesPosition 67 = .ok (.iadd, 1) := by decide +kernel
theorem dX9_takesPosition_68 : decode cX9_takesPosition 68 = .ok (.putfield 151, 3) := by decide +kernel
theorem dX9_takesPosition_71 : decode cX9_takesPosition 71 = .ok (.iinc 2 1, 3) := by decide +kernel
theorem dX9_takesPosition_74 : decode cX9_takesPosition 74 = .ok (.goto (-45), 3) := by decide +kernel
theorem dX9_takesPosition_77 : decode cX9_takesPosition 77 = .ok (.iload_n 1, 1) := by decide +kernel
theorem dX9_takesPosition_78 : decode cX9_takesPosition 78 = .ok (.ireturn, 1) := by decide +kernel
set_option maxRecDepth 20000 in
theorem ggX9_isFormed_X9_takesPosition : GoodIn wsX9_isFormed wsX9_takesPosition := goodIn_r _ [9, 3, 10, 11, 12, 8, 13, 14, 15, 16, 17, 4, 18, 19, 20, 21, 22, 23, 24, 25, 26, 27, 28, 29, 30, 31, 32] (by decide +kernel) (by decide +kernel)
set_option maxRecDepth 20000 in
theorem gX9_isFormed_X9_takesPosition : GoodIn wsX9_isFormed (wsV RX9 167 RX9 yX9_takesPosition wsX9_takesPosition) := goodIn_app (goodIn_of _ (by decide +kernel)) ggX9_isFormed_X9_takesPosition
set_option maxRecDepth 20000 in
theorem ggX9_isFormed_X9_takes : GoodIn wsX9_isFormed wsX9_takes := goodIn_r _ [13, 3, 14, 15, 16, 8, 17, 4, 18, 22, 23, 24, 25, 26, 27, 28, 29, 30, 31, 32] (by decide +kernel) (by decide +kernel)
set_option maxRecDepth 20000 in
theorem gX9_isFormed_X9_takes : GoodIn wsX9_isFormed (wsV RX9 161 RX9 yX9_takes wsX9_takes) := goodIn_app (goodIn_of _ (by decide +kernel)) ggX9_isFormed_X9_takes
set_option maxRecDepth 20000 in
theorem ggX9_isFormed_X9_here : GoodIn wsX9_isFormed wsX9_here := goodIn_r _ [17, 3, 4, 18, 22, 23, 24, 25, 26, 27, 28, 29, 30, 31, 32] (by decide +kernel) (by decide +kernel)
set_option maxRecDepth 20000 in
theorem gX9_isFormed_X9_here : GoodIn wsX9_isFormed (wsV RX9 154 RX9 yX9_here wsX9_here) := goodIn_app (goodIn_of _ (by decide +kernel)) ggX9_isFormed_X9_here
theorem dX9_isFormed_0 : decode cX9_isFormed 0 = .ok (.iconst 4, 1) := by decide +kernel
theorem dX9_isFormed_1 : decode cX9_isFormed 1 = .ok (.aload_n 0, 1) := by decide +kernel
theorem dX9_isFormed_2 : decode cX9_isFormed 2 = .ok (.getfield 164, 3) := by decide +kernel
theorem dX9_isFormed_5 : decode cX9_isFormed 5 = .ok (.imul, 1) := by decide +kernel
theorem dX9_isFormed_6 : decode cX9_isFormed 6 = .ok (.istore_n 2, 1) := by decide +kernel
theorem dX9_isFormed_7 : decode cX9_isFormed 7 = .ok (.aload_n 0, 1) := by decide +kernel
theorem dX9_isFormed_8 : decode cX9_isFormed 8 = .ok (.getfield 22, 3) := by decide +kernel
theorem dX9_isFormed_11 : decode cX9_isFormed 11 = .ok (.iload_n 2, 1) := by decide +kernel
theorem dX9_isFormed_12 : decode cX9_isFormed 12 = .ok (.iconst 0, 1) := by decide +kernel
theorem dX9_isFormed_13 : decode cX9_isFormed 13 = .ok (.iadd, 1) := by decide +kernel
theorem dX9_isFormed_14 : decode cX9_isFormed 14 = .ok (.iload_n 1, 1) := by decide +kernel
theorem dX9_isFormed_15 : decode cX9_isFormed 15 = .ok (.iastore, 1) := by decide +kernel
theorem dX9_isFormed_16 : decode cX9_isFormed 16 = .ok (.aload_n 0, 1) := by decide +kernel
theorem dX9_isFormed_17 : decode cX9_isFormed 17 = .ok (.getfield 22, 3) := by decide +kernel
theorem dX9_isFormed_20 : decode cX9_isFormed 20 = .ok (.iload_n 2, 1) := by decide +kernel
theorem dX9_isFormed_21 : decode cX9_isFormed 21 = .ok (.iconst 1, 1) := by decide +kernel
theorem dX9_isFormed_22 : decode cX9_isFormed 22 = .ok (.iadd, 1) := by decide +kernel
theorem dX9_isFormed_23 : decode cX9_isFormed 23 = .ok (.aload_n 0, 1) := by decide +kernel
theorem dX9_isFormed_24 : decode cX9_isFormed 24 = .ok (.invokevirtual 167, 3) := by decide +kernel
theorem dX9_isFormed_27 : decode cX9_isFormed 27 = .ok (.iastore, 1) := by decide +kernel
theorem dX9_isFormed_28 : decode cX9_isFormed 28 = .ok (.aload_n 0, 1) := by decide +kernel
theorem dX9_isFormed_29 : decode cX9_isFormed 29 = .ok (.getfield 22, 3) := by decide +kernel
theorem dX9_isFormed_32 : decode cX9_isFormed 32 = .ok (.iload_n 2, 1) := by decide +kernel
theorem dX9_isFormed_33 : decode cX9_isFormed 33 = .ok (.iconst 2, 1) := by decide +kernel
theorem dX9_isFormed_34 : decode cX9_isFormed 34 = .ok (.iadd, 1) := by decide +kernel
theorem dX9_isFormed_35 : decode cX9_isFormed 35 = .ok (.iconst 0, 1) := by decide +kernel
theorem dX9_isFormed_36 : decode cX9_isFormed 36 = .ok (.iastore, 1) := by decide +kernel
theorem dX9_isFormed_37 : decode cX9_isFormed 37 = .ok (.aload_n 0, 1) := by decide +kernel
theorem dX9_isFormed_38 : decode cX9_isFormed 38 = .ok (.getfield 22, 3) := by decide +kernel
theorem dX9_isFormed_41 : decode cX9_isFormed 41 = .ok (.iload_n 2, 1) := by decide +kernel
theorem dX9_isFormed_42 : decode cX9_isFormed 42 = .ok (.iconst 3, 1) := by decide +kernel
theorem dX9_isFormed_43 : decode cX9_isFormed 43 = .ok (.iadd, 1) := by decide +kernel
theorem dX9_isFormed_44 : decode cX9_isFormed 44 = .ok (.iconst 0, 1) := by decide +kernel
theorem dX9_isFormed_45 : decode cX9_isFormed 45 = .ok (.iastore, 1) := by decide +kernel
theorem dX9_isFormed_46 : decode cX9_isFormed 46 = .ok (.aload_n 0, 1) := by decide +kernel
theorem dX9_isFormed_47 : decode cX9_isFormed 47 = .ok (.getfield 22, 3) := by decide +kernel
theorem dX9_isFormed_50 : decode cX9_isFormed 50 = .ok (.iload_n 2, 1) := by decide +kernel
theorem dX9_isFormed_51 : decode cX9_isFormed 51 = .ok (.iconst 1, 1) := by decide +kernel
theorem dX9_isFormed_52 : decode cX9_isFormed 52 = .ok (.iadd, 1) := by decide +kernel
theorem dX9_isFormed_53 : decode cX9_isFormed 53 = .ok (.iaload, 1) := by decide +kernel
theorem dX9_isFormed_54 : decode cX9_isFormed 54 = .ok (.ifCond .ge 5, 3) := by decide +kernel
theorem dX9_isFormed_57 : decode cX9_isFormed 57 = .ok (.iconst 0, 1) := by decide +kernel
theorem dX9_isFormed_58 : decode cX9_isFormed 58 = .ok (.ireturn, 1) := by decide +kernel
theorem dX9_isFormed_59 : decode cX9_isFormed 59 = .ok (.iload_n 1, 1) := by decide +kernel
theorem dX9_isFormed_60 : decode cX9_isFormed 60 = .ok (.ifCond .ne 15, 3) := by decide +kernel
theorem dX9_isFormed_63 : decode cX9_isFormed 63 = .ok (.aload_n 0, 1) := by decide +kernel
theorem dX9_isFormed_64 : decode cX9_isFormed 64 = .ok (.getfield 22, 3) := by decide +kernel
theorem dX9_isFormed_67 : decode cX9_isFormed 67 = .ok (.iload_n 2, 1) := by decide +kernel
theorem dX9_isFormed_68 : decode cX9_isFormed 68 = .ok (.iconst 2, 1) := by decide +kernel
theorem dX9_isFormed_69 : decode cX9_isFormed 69 = .ok (.iadd, 1) := by decide +kernel
theorem dX9_isFormed_70 : decode cX9_isFormed 70 = .ok (.aload_n 0, 1) := by decide +kernel
theorem dX9_isFormed_71 : decode cX9_isFormed 71 = .ok (.invokevirtual 167, 3) := by decide +kernel
theorem dX9_isFormed_74 : decode cX9_isFormed 74 = .ok (.iastore, 1) := by decide +kernel
theorem dX9_isFormed_75 : decode cX9_isFormed 75 = .ok (.iload_n 1, 1) := by decide +kernel
theorem dX9_isFormed_76 : decode cX9_isFormed 76 = .ok (.iconst 1, 1) := by decide +kernel
theorem dX9_isFormed_77 : decode cX9_isFormed 77 = .ok (.if_icmp .eq 8, 3) := by decide +kernel
theorem dX9_isFormed_80 : decode cX9_isFormed 80 = .ok (.iload_n 1, 1) := by decide +kernel
theorem dX9_isFormed_81 : decode cX9_isFormed 81 = .ok (.iconst 2, 1) := by decide +kernel
theorem dX9_isFormed_82 : decode cX9_isFormed 82 = .ok (.if_icmp .ne 59, 3) := by decide +kernel
theorem dX9_isFormed_85 : decode cX9_isFormed 85 = .ok (.aload_n 0, 1) := by decide +kernel
theorem dX9_isFormed_86 : decode cX9_isFormed 86 = .ok (.bipush 32, 2) := by decide +kernel
theorem dX9_isFormed_88 : decode cX9_isFormed 88 = .ok (.invokevirtual 161, 3) := by decide +kernel
theorem dX9_isFormed_91 : decode cX9_isFormed 91 = .ok (.ifCond .eq 18, 3) := by decide +kernel
theorem dX9_isFormed_94 : decode cX9_isFormed 94 = .ok (.aload_n 0, 1) := by decide +kernel
theorem dX9_isFormed_95 : decode cX9_isFormed 95 = .ok (.getfield 151, 3) := by decide +kernel
theorem dX9_isFormed_98 : decode cX9_isFormed 98 = .ok (.aload_n 0, 1) := by decide +kernel
theorem dX9_isFormed_99 : decode cX9_isFormed 99 = .ok (.getfield 101, 3) := by decide +kernel
theorem dX9_isFormed_102 : decode cX9_isFormed 102 = .ok (.if_icmp .ge 7, 3) := by decide +kernel
theorem dX9_isFormed_105 : decode cX9_isFormed 105 = .ok (.iconst 1, 1) := by decide +kernel
theorem dX9_isFormed_106 : decode cX9_isFormed 106 = .ok (.goto 4, 3) := by decide +kernel
theorem dX9_isFormed_109 : decode cX9_isFormed 109 = .ok (.iconst 0, 1) := by decide +kernel
theorem dX9_isFormed_110 : decode cX9_isFormed 110 = .ok (.istore_n 3, 1) := by decide +kernel
theorem dX9_isFormed_111 : decode cX9_isFormed 111 = .ok (.aload_n 0, 1) := by decide +kernel
theorem dX9_isFormed_112 : decode cX9_isFormed 112 = .ok (.getfield 22, 3) := by decide +kernel
theorem dX9_isFormed_115 : decode cX9_isFormed 115 = .ok (.iload_n 2, 1) := by decide +kernel
theorem dX9_isFormed_116 : decode cX9_isFormed 116 = .ok (.iconst 3, 1) := by decide +kernel
theorem dX9_isFormed_117 : decode cX9_isFormed 117 = .ok (.iadd, 1) := by decide +kernel
theorem dX9_isFormed_118 : decode cX9_isFormed 118 = .ok (.iload_n 3, 1) := by decide +kernel
theorem dX9_isFormed_119 : decode cX9_isFormed 119 = .ok (.ifCond .eq 10, 3) := by decide +kernel
theorem dX9_isFormed_122 : decode cX9_isFormed 122 = .ok (.aload_n 0, 1) := by decide +kernel
theorem dX9_isFormed_123 : decode cX9_isFormed 123 = .ok (.invokevirtual 154, 3) := by decide +kernel
theorem dX9_isFormed_126 : decode cX9_isFormed 126 = .ok (.goto 4, 3) := by decide +kernel
theorem dX9_isFormed_129 : decode cX9_isFormed 129 = .ok (.iconst (-1), 1) := by decide +kernel
theorem dX9_isFormed_130 : decode cX9_isFormed 130 = .ok (.iastore, 1) := by decide +kernel
theorem dX9_isFormed_131 : decode cX9_isFormed 131 = .ok (.aload_n 0, 1) := by decide +kernel
theorem dX9_isFormed_132 : decode cX9_isFormed 132 = .ok (.dup, 1) := by decide +kernel
theorem dX9_isFormed_133 : decode cX9_isFormed 133 = .ok (.getfield 151, 3) := by decide +kernel
theorem dX9_isFormed_136 : decode cX9_isFormed 136 = .ok (.iconst 1, 1) := by decide +kernel
theorem dX9_isFormed_137 : decode cX9_isFormed 137 = .ok (.iadd, 1) := by decide +kernel
theorem dX9_isFormed_138 : decode cX9_isFormed 138 = .ok (.putfield 151, 3) := by decide +kernel
theorem dX9_isFormed_141 : decode cX9_isFormed 141 = .ok (.aload_n 0, 1) := by decide +kernel
theorem dX9_isFormed_142 : decode cX9_isFormed 142 = .ok (.getfield 22, 3) := by decide +kernel
theorem dX9_isFormed_145 : decode cX9_isFormed 145 = .ok (.iload_n 2, 1) := by decide +kernel
theorem dX9_isFormed_146 : decode cX9_isFormed 146 = .ok (.iconst 2, 1) := by decide +kernel
theorem dX9_isFormed_147 : decode cX9_isFormed 147 = .ok (.iadd, 1) := by decide +kernel
theorem dX9_isFormed_148 : decode cX9_isFormed 148 = .ok (.iaload, 1) := by decide +kernel
theorem dX9_isFormed_149 : decode cX9_isFormed 149 = .ok (.ifCond .lt 27, 3) := by decide +kernel
theorem dX9_isFormed_152 : decode cX9_isFormed 152 = .ok (.aload_n 0, 1) := by decide +kernel
theorem dX9_isFormed_153 : decode cX9_isFormed 153 = .ok (.getfield 22, 3) := by decide +kernel
theorem dX9_isFormed_156 : decode cX9_isFormed 156 = .ok (.iload_n 2, 1) := by decide +kernel
theorem dX9_isFormed_157 : decode cX9_isFormed 157 = .ok (.iconst 3, 1) := by decide +kernel
theorem dX9_isFormed_158 : decode cX9_isFormed 158 = .ok (.iadd, 1) := by decide +kernel
theorem dX9_isFormed_159 : decode cX9_isFormed 159 = .ok (.iaload, 1) := by decide +kernel
theorem dX9_isFormed_160 : decode cX9_isFormed 160 = .ok (.ifCond .lt 16, 3) := by decide +kernel
theorem dX9_isFormed_163 : decode cX9_isFormed 163 = .ok (.aload_n 0, 1) := by decide +kernel
theorem dX9_isFormed_164 : decode cX9_isFormed 164 = .ok (.bipush 59, 2) := by decide +kernel
theorem dX9_isFormed_166 : decode cX9_isFormed 166 = .ok (.invokevirtual 161, 3) := by decide +kernel
theorem dX9_isFormed_169 : decode cX9_isFormed 169 = .ok (.ifCond .eq 7, 3) := by decide +kernel
theorem dX9_isFormed_172 : decode cX9_isFormed 172 = .ok (.iconst 1, 1) := by decide +kernel
theorem dX9_isFormed_173 : decode cX9_isFormed 173 = .ok (.goto 4, 3) := by decide +kernel
theorem dX9_isFormed_176 : decode cX9_isFormed 176 = .ok (.iconst 0, 1) := by decide +kernel
theorem dX9_isFormed_177 : decode cX9_isFormed 177 = .ok (.ireturn, 1) := by decide +kernel
theorem dX9_isInRange_0 : decode cX9_isInRange 0 = .ok (.iconst 4, 1) := by decide +kernel
theorem dX9_isInRange_1 : decode cX9_isInRange 1 = .ok (.aload_n 0, 1) := by decide +kernel
theorem dX9_isInRange_2 : decode cX9_isInRange 2 = .ok (.getfield 164, 3) := by decide +kernel
theorem dX9_isInRange_5 : decode cX9_isInRange 5 = .ok (.imul, 1) := by decide +kernel
theorem dX9_isInRange_6 : decode cX9_isInRange 6 = .ok (.istore_n 1, 1) := by decide +kernel
theorem dX9_isInRange_7 : decode cX9_isInRange 7 = .ok (.aload_n 0, 1) := by decide +kernel
theorem dX9_isInRange_8 : decode cX9_isInRange 8 = .ok (.getfield 22, 3) := by decide +kernel
theorem dX9_isInRange_11 : decode cX9_isInRange 11 = .ok (.iload_n 1, 1) := by decide +kernel
theorem dX9_isInRange_12 : decode cX9_isInRange 12 = .ok (.iconst 0, 1) := by decide +kernel
theorem dX9_isInRange_13 : decode cX9_isInRange 13 = .ok (.iadd, 1) := by decide +kernel
theorem dX9_isInRange_14 : decode cX9_isInRange 14 = .ok (.iaload, 1) := by decide +kernel
theorem dX9_isInRange_15 : decode cX9_isInRange 15 = .ok (.istore_n 2, 1) := by decide +kernel
theorem dX9_isInRange_16 : decode cX9_isInRange 16 = .ok (.aload_n 0, 1) := by decide +kernel
theorem dX9_isInRange_17 : decode cX9_isInRange 17 = .ok (.getfield 22, 3) := by decide +kernel
theorem dX9_isInRange_20 : decode cX9_isInRange 20 = .ok (.iload_n 1, 1) := by decide +kernel
theorem dX9_isInRange_21 : decode cX9_isInRange 21 = .ok (.iconst 1, 1) := by decide +kernel
theorem dX9_isInRange_22 : decode cX9_isInRange 22 = .ok (.iadd, 1) := by decide +kernel
theorem dX9_isInRange_23 : decode cX9_isInRange 23 = .ok (.iaload, 1) := by decide +kernel
theorem dX9_isInRange_24 : decode cX9_isInRange 24 = .ok (.istore_n 3, 1) := by decide +kernel
theorem dX9_isInRange_25 : decode cX9_isInRange 25 = .ok (.iload_n 2, 1) := by decide +kernel
theorem dX9_isInRange_26 : decode cX9_isInRange 26 = .ok (.ifCond .ne 38, 3) := by decide +kernel
theorem dX9_isInRange_29 : decode cX9_isInRange 29 = .ok (.iload_n 3, 1) := by decide +kernel
theorem dX9_isInRange_30 : decode cX9_isInRange 30 = .ok (.aload_n 0, 1) := by decide +kernel
theorem dX9_isInRange_31 : decode cX9_isInRange 31 = .ok (.getfield 22, 3) := by decide +kernel
theorem dX9_isInRange_34 : decode cX9_isInRange 34 = .ok (.iload_n 1, 1) := by decide +kernel
theorem dX9_isInRange_35 : decode cX9_isInRange 35 = .ok (.iconst 2, 1) := by decide +kernel
theorem dX9_isInRange_36 : decode cX9_isInRange 36 = .ok (.iadd, 1) := by decide +kernel
theorem dX9_isInRange_37 : decode cX9_isInRange 37 = .ok (.iaload, 1) := by decide +kernel
theorem dX9_isInRange_38 : decode cX9_isInRange 38 = .ok (.if_icmp .ge 24, 3) := by decide +kernel
theorem dX9_isInRange_41 : decode cX9_isInRange 41 = .ok (.aload_n 0, 1) := by decide +kernel
theorem dX9_isInRange_42 : decode cX9_isInRange 42 = .ok (.getfield 22, 3) := by decide +kernel
theorem dX9_isInRange_45 : decode cX9_isInRange 45 = .ok (.iload_n 1, 1) := by decide +kernel
theorem dX9_isInRange_46 : decode cX9_isInRange 46 = .ok (.iconst 2, 1) := by decide +kernel
theorem dX9_isInRange_47 : decode cX9_isInRange 47 = .ok (.iadd, 1) := by decide +kernel
theorem dX9_isInRange_48 : decode cX9_isInRange 48 = .ok (.iaload, 1) := by decide +kernel
theorem dX9_isInRange_49 : decode cX9_isInRange 49 = .ok (.aload_n 0, 1) := by decide +kernel
theorem dX9_isInRange_50 : decode cX9_isInRange 50 = .ok (.getfield 7, 3) := by decide +kernel
theorem dX9_isInRange_53 : decode cX9_isInRange 53 = .ok (.iconst 0, 1) := by decide +kernel
theorem dX9_isInRange_54 : decode cX9_isInRange 54 = .ok (.iaload, 1) := by decide +kernel
theorem dX9_isInRange_55 : decode cX9_isInRange 55 = .ok (.if_icmp .gt 7, 3) := by decide +kernel
theorem dX9_isInRange_58 : decode cX9_isInRange 58 = .ok (.iconst 1, 1) := by decide +kernel
theorem dX9_isInRange_59 : decode cX9_isInRange 59 = .ok (.goto 4, 3) := by decide +kernel
theorem dX9_isInRange_62 : decode cX9_isInRange 62 = .ok (.iconst 0, 1) := by decide +kernel
theorem dX9_isInRange_63 : decode cX9_isInRange 63 = .ok (.ireturn, 1) := by decide +kernel
theorem dX9_isInRange_64 : decode cX9_isInRange 64 = .ok (.iload_n 3, 1) := by decide +kernel
theorem dX9_isInRange_65 : decode cX9_isInRange 65 = .ok (.aload_n 0, 1) := by decide +kernel
theorem dX9_isInRange_66 : decode cX9_isInRange 66 = .ok (.getfield 7, 3) := by decide +kernel
theorem dX9_isInRange_69 : decode cX9_isInRange 69 = .ok (.iconst 0, 1) := by decide +kernel
theorem dX9_isInRange_70 : decode cX9_isInRange 70 = .ok (.iaload, 1) := by decide +kernel
theorem dX9_isInRange_71 : decode cX9_isInRange 71 = .ok (.iload_n 2, 1) := by decide +kernel
theorem dX9_isInRange_72 : decode cX9_isInRange 72 = .ok (.iconst 1, 1) := by decide +kernel
theorem dX9_isInRange_73 : decode cX9_isInRange 73 = .ok (.if_icmp .ne 7, 3) := by decide +kernel
theorem dX9_isInRange_76 : decode cX9_isInRange 76 = .ok (.iconst 0, 1) := by decide +kernel
theorem dX9_isInRange_77 : decode cX9_isInRange 77 = .ok (.goto 13, 3) := by decide +kernel
theorem dX9_isInRange_80 : decode cX9_isInRange 80 = .ok (.iload_n 2, 1) := by decide +kernel
theorem dX9_isInRange_81 : decode cX9_isInRange 81 = .ok (.iconst 3, 1) := by decide +kernel
theorem dX9_isInRange_82 : decode cX9_isInRange 82 = .ok (.if_icmp .ne 7, 3) := by decide +kernel
theorem dX9_isInRange_85 : decode cX9_isInRange 85 = .ok (.iconst 2, 1) := by decide +kernel
theorem dX9_isInRange_86 : decode cX9_isInRange 86 = .ok (.goto 4, 3) := by decide +kernel
theorem dX9_isInRange_89 : decode cX9_isInRange 89 = .ok (.iconst 1, 1) := by decide +kernel
theorem dX9_isInRange_90 : decode cX9_isInRange 90 = .ok (.isub, 1) := by decide +kernel
theorem dX9_isInRange_91 : decode cX9_isInRange 91 = .ok (.if_icmp .gt 7, 3) := by decide +kernel
theorem dX9_isInRange_94 : decode cX9_isInRange 94 = .ok (.iconst 1, 1) := by decide +kernel
theorem dX9_isInRange_95 : decode cX9_isInRange 95 = .ok (.goto 4, 3) := by decide +kernel
theorem dX9_isInRange_98 : decode cX9_isInRange 98 = .ok (.iconst 0, 1) := by decide +kernel
theorem dX9_isInRange_99 : decode cX9_isInRange 99 = .ok (.ireturn, 1) := by decide +kernel
set_option maxRecDepth 20000 in
theorem ggX9_isThere_X9_of : GoodIn wsX9_isThere wsX9_of := goodIn_r _ [8, 3, 12, 13, 14, 15, 16, 17, 18, 19, 20, 21, 22] (by decide +kernel) (by decide +kernel)
set_option maxRecDepth 20000 in
theorem gX9_isThere_X9_of : GoodIn wsX9_isThere (wsV RX9 36 RX9 yX9_of wsX9_of) := goodIn_app (goodIn_of _ (by decide +kernel)) ggX9_isThere_X9_of
set_option maxRecDepth 20000 in
theorem ggX9_isThere_X9_markOf : GoodIn wsX9_isThere wsX9_markOf := goodIn_r _ [11] (by decide +kernel) (by decide +kernel)
set_option maxRecDepth 20000 in
theorem gX9_isThere_X9_markOf : GoodIn wsX9_isThere (va_wsS RX9 76 yX9_markOf wsX9_markOf) := goodIn_app (goodIn_of _ (by decide +kernel)) ggX9_isThere_X9_markOf
theorem dX9_isThere_0 : decode cX9_isThere 0 = .ok (.iconst 4, 1) := by decide +kernel
theorem dX9_isThere_1 : decode cX9_isThere 1 = .ok (.aload_n 0, 1) := by decide +kernel
theorem dX9_isThere_2 : decode cX9_isThere 2 = .ok (.getfield 164, 3) := by decide +kernel
theorem dX9_isThere_5 : decode cX9_isThere 5 = .ok (.imul, 1) := by decide +kernel
theorem dX9_isThere_6 : decode cX9_isThere 6 = .ok (.istore_n 2, 1) := by decide +kernel
theorem dX9_isThere_7 : decode cX9_isThere 7 = .ok (.iconst 0, 1) := by decide +kernel
theorem dX9_isThere_8 : decode cX9_isThere 8 = .ok (.istore_n 3, 1) := by decide +kernel
theorem dX9_isThere_9 : decode cX9_isThere 9 = .ok (.iconst 0, 1) := by decide +kernel
theorem dX9_isThere_10 : decode cX9_isThere 10 = .ok (.istore 4, 2) := by decide +kernel
theorem dX9_isThere_12 : decode cX9_isThere 12 = .ok (.iload 4, 2) := by decide +kernel
theorem dX9_isThere_14 : decode cX9_isThere 14 = .ok (.aload_n 0, 1) := by decide +kernel
theorem dX9_isThere_15 : decode cX9_isThere 15 = .ok (.iload_n 1, 1) := by decide +kernel
theorem dX9_isThere_16 : decode cX9_isThere 16 = .ok (.iconst 2, 1) := by decide +kernel
theorem dX9_isThere_17 : decode cX9_isThere 17 = .ok (.invokevirtual 36, 3) := by decide +kernel
theorem dX9_isThere_20 : decode cX9_isThere 20 = .ok (.aload_n 0, 1) := by decide +kernel
theorem dX9_isThere_21 : decode cX9_isThere 21 = .ok (.getfield 164, 3) := by decide +kernel
theorem dX9_isThere_24 : decode cX9_isThere 24 = .ok (.iadd, 1) := by decide +kernel
theorem dX9_isThere_25 : decode cX9_isThere 25 = .ok (.if_icmp .ge 113, 3) := by decide +kernel
theorem dX9_isThere_28 : decode cX9_isThere 28 = .ok (.iconst 1, 1) := by decide +kernel
theorem dX9_isThere_29 : decode cX9_isThere 29 = .ok (.istore 5, 2) := by decide +kernel
theorem dX9_isThere_31 : decode cX9_isThere 31 = .ok (.iconst 0, 1) := by decide +kernel
theorem dX9_isThere_32 : decode cX9_isThere 32 = .ok (.istore 6, 2) := by decide +kernel
theorem dX9_isThere_34 : decode cX9_isThere 34 = .ok (.iload 6, 2) := by decide +kernel
theorem dX9_isThere_36 : decode cX9_isThere 36 = .ok (.iconst 4, 1) := by decide +kernel
theorem dX9_isThere_37 : decode cX9_isThere 37 = .ok (.if_icmp .ge 80, 3) := by decide +kernel
theorem dX9_isThere_40 : decode cX9_isThere 40 = .ok (.iload 4, 2) := by decide +kernel
theorem dX9_isThere_42 : decode cX9_isThere 42 = .ok (.aload_n 0, 1) := by decide +kernel
theorem dX9_isThere_43 : decode cX9_isThere 43 = .ok (.getfield 164, 3) := by decide +kernel
theorem dX9_isThere_46 : decode cX9_isThere 46 = .ok (.if_icmp .ge 18, 3) := by decide +kernel
theorem dX9_isThere_49 : decode cX9_isThere 49 = .ok (.aload_n 0, 1) := by decide +kernel
theorem dX9_isThere_50 : decode cX9_isThere 50 = .ok (.getfield 22, 3) := by decide +kernel
theorem dX9_isThere_53 : decode cX9_isThere 53 = .ok (.iconst 4, 1) := by decide +kernel
theorem dX9_isThere_54 : decode cX9_isThere 54 = .ok (.iload 4, 2) := by decide +kernel
theorem dX9_isThere_56 : decode cX9_isThere 56 = .ok (.imul, 1) := by decide +kernel
theorem dX9_isThere_57 : decode cX9_isThere 57 = .ok (.iload 6, 2) := by decide +kernel
theorem dX9_isThere_59 : decode cX9_isThere 59 = .ok (.iadd, 1) := by decide +kernel
theorem dX9_isThere_60 : decode cX9_isThere 60 = .ok (.iaload, 1) := by decide +kernel
theorem dX9_isThere_61 : decode cX9_isThere 61 = .ok (.goto 22, 3) := by decide +kernel
theorem dX9_isThere_64 : decode cX9_isThere 64 = .ok (.aload_n 0, 1) := by decide +kernel
theorem dX9_isThere_65 : decode cX9_isThere 65 = .ok (.getfield 7, 3) := by decide +kernel
theorem dX9_isThere_68 : decode cX9_isThere 68 = .ok (.iload_n 1, 1) := by decide +kernel
theorem dX9_isThere_69 : decode cX9_isThere 69 = .ok (.iload 4, 2) := by decide +kernel
theorem dX9_isThere_71 : decode cX9_isThere 71 = .ok (.aload_n 0, 1) := by decide +kernel
theorem dX9_isThere_72 : decode cX9_isThere 72 = .ok (.getfield 164, 3) := by decide +kernel
theorem dX9_isThere_75 : decode cX9_isThere 75 = .ok (.isub, 1) := by decide +kernel
theorem dX9_isThere_76 : decode cX9_isThere 76 = .ok (.invokestatic 76, 3) := by decide +kernel
theorem dX9_isThere_79 : decode cX9_isThere 79 = .ok (.iload 6, 2) := by decide +kernel
theorem dX9_isThere_81 : decode cX9_isThere 81 = .ok (.iadd, 1) := by decide +kernel
theorem dX9_isThere_82 : decode cX9_isThere 82 = .ok (.iaload, 1) := by decide +kernel
theorem dX9_isThere_83 : decode cX9_isThere 83 = .ok (.istore 7, 2) := by decide +kernel
theorem dX9_isThere_85 : decode cX9_isThere 85 = .ok (.iload 5, 2) := by decide +kernel
theorem dX9_isThere_87 : decode cX9_isThere 87 = .ok (.ifCond .eq 21, 3) := by decide +kernel
theorem dX9_isThere_90 : decode cX9_isThere 90 = .ok (.iload 7, 2) := by decide +kernel
theorem dX9_isThere_92 : decode cX9_isThere 92 = .ok (.aload_n 0, 1) := by decide +kernel
theorem dX9_isThere_93 : decode cX9_isThere 93 = .ok (.getfield 22, 3) := by decide +kernel
theorem dX9_isThere_96 : decode cX9_isThere 96 = .ok (.iload_n 2, 1) := by decide +kernel
theorem dX9_isThere_97 : decode cX9_isThere 97 = .ok (.iload 6, 2) := by decide +kernel
theorem dX9_isThere_99 : decode cX9_isThere 99 = .ok (.iadd, 1) := by decide +kernel
theorem dX9_isThere_100 : decode cX9_isThere 100 = .ok (.iaload, 1) := by decide +kernel
theorem dX9_isThere_101 : decode cX9_isThere 101 = .ok (.if_icmp .ne 7, 3) := by decide +kernel
theorem dX9_isThere_104 : decode cX9_isThere 104 = .ok (.iconst 1, 1) := by decide +kernel
theorem dX9_isThere_105 : decode cX9_isThere 105 = .ok (.goto 4, 3) := by decide +kernel
theorem dX9_isThere_108 : decode cX9_isThere 108 = .ok (.iconst 0, 1) := by decide +kernel
theorem dX9_isThere_109 : decode cX9_isThere 109 = .ok (.istore 5, 2) := by decide +kernel
theorem dX9_isThere_111 : decode cX9_isThere 111 = .ok (.iinc 6 1, 3) := by decide +kernel
theorem dX9_isThere_114 : decode cX9_isThere 114 = .ok (.goto (-80), 3) := by decide +kernel
theorem dX9_isThere_117 : decode cX9_isThere 117 = .ok (.iload_n 3, 1) := by decide +kernel
theorem dX9_isThere_118 : decode cX9_isThere 118 = .ok (.ifCond .ne 8, 3) := by decide +kernel
theorem dX9_isThere_121 : decode cX9_isThere 121 = .ok (.iload 5, 2) := by decide +kernel
theorem dX9_isThere_123 : decode cX9_isThere 123 = .ok (.ifCond .eq 7, 3) := by decide +kernel
theorem dX9_isThere_126 : decode cX9_isThere 126 = .ok (.iconst 1, 1) := by decide +kernel
theorem dX9_isThere_127 : decode cX9_isThere 127 = .ok (.goto 4, 3) := by decide +kernel
theorem dX9_isThere_130 : decode cX9_isThere 130 = .ok (.iconst 0, 1) := by decide +kernel
theorem dX9_isThere_131 : decode cX9_isThere 131 = .ok (.istore_n 3, 1) := by decide +kernel
theorem dX9_isThere_132 : decode cX9_isThere 132 = .ok (.iinc 4 1, 3) := by decide +kernel
theorem dX9_isThere_135 : decode cX9_isThere 135 = .ok (.goto (-123), 3) := by decide +kernel
theorem dX9_isThere_138 : decode cX9_isThere 138 = .ok (.iload_n 3, 1) := by decide +kernel
theorem dX9_isThere_139 : decode cX9_isThere 139 = .ok (.ireturn, 1) := by decide +kernel
set_option maxRecDepth 20000 in
theorem ggX9_reason_X9_wordHere : GoodIn wsX9_reason wsX9_wordHere := goodIn_r _ [8, 1, 9, 10, 11, 7, 12, 13, 14, 15, 16, 17, 18, 19, 20, 50, 51, 52, 53, 54, 55, 56, 57, 58, 59, 60] (by decide +kernel) (by decide +kernel)
set_option maxRecDepth 20000 in
theorem gX9_reason_X9_wordHere : GoodIn wsX9_reason (wsV RX9 173 RX9 yX9_wordHere wsX9_wordHere) := goodIn_app (goodIn_of _ (by decide +kernel)) ggX9_reason_X9_wordHere
set_option maxRecDepth 20000 in
theorem ggX9_reason_X9_isFormed : GoodIn wsX9_reason wsX9_isFormed := goodIn_r _ [24, 3, 25, 1, 13, 26, 27, 28, 7, 29, 30, 31, 32, 33, 9, 10, 11, 12, 14, 15, 16, 17, 50, 51, 52, 53, 54, 55, 56, 57, 58, 59, 60] (by decide +kernel) (by decide +kernel)
set_option maxRecDepth 20000 in
theorem gX9_reason_X9_isFormed : GoodIn wsX9_reason (wsV RX9 176 RX9 yX9_isFormed wsX9_isFormed) := goodIn_app (goodIn_of _ (by decide +kernel)) ggX9_reason_X9_isFormed
set_option maxRecDepth 20000 in
theorem ggX9_reason_X9_isInRange : GoodIn wsX9_reason wsX9_isInRange := goodIn_r _ [37, 3, 25, 38, 50, 51, 52, 53, 54, 55, 56, 57, 58, 59, 60] (by decide +kernel) (by decide +kernel)
set_option maxRecDepth 20000 in
theorem gX9_reason_X9_isInRange : GoodIn wsX9_reason (wsV RX9 179 RX9 yX9_isInRange wsX9_isInRange) := goodIn_app (goodIn_of _ (by decide +kernel)) ggX9_reason_X9_isInRange
set_option maxRecDepth 20000 in
theorem ggX9_reason_X9_isThere : GoodIn wsX9_reason wsX9_isThere := goodIn_r _ [42, 3, 25, 38, 43, 44, 45, 7, 46, 47, 48, 49, 50, 51, 52, 53, 54, 55, 56, 57, 58, 59, 60] (by decide +kernel) (by decide +kernel)
set_option maxRecDepth 20000 in
theorem gX9_reason_X9_isThere : GoodIn wsX9_reason (wsV RX9 183 RX9 yX9_isThere wsX9_isThere) := goodIn_app (goodIn_of _ (by decide +kernel)) ggX9_reason_X9_isThere
set_option maxRecDepth 20000 in
theorem ggX9_reason_X9_of : GoodIn wsX9_reason wsX9_of := goodIn_r _ [46, 38, 50, 51, 52, 53, 54, 55, 56, 57, 58, 59, 60] (by decide +kernel) (by decide +kernel)
set_option maxRecDepth 20000 in
theorem gX9_reason_X9_of : GoodIn wsX9_reason (wsV RX9 36 RX9 yX9_of wsX9_of) := goodIn_app (goodIn_of _ (by decide +kernel)) ggX9_reason_X9_of
theorem dX9_reason_0 : decode cX9_reason 0 = .ok (.aload_n 0, 1) := by decide +kernel
theorem dX9_reason_1 : decode cX9_reason 1 = .ok (.aload_n 0, 1) := by decide +kernel
theorem dX9_reason_2 : decode cX9_reason 2 = .ok (.getfield 151, 3) := by decide +kernel
theorem dX9_reason_5 : decode cX9_reason 5 = .ok (.putfield 170, 3) := by decide +kernel
theorem dX9_reason_8 : decode cX9_reason 8 = .ok (.aload_n 0, 1) := by decide +kernel
theorem dX9_reason_9 : decode cX9_reason 9 = .ok (.invokevirtual 173, 3) := by decide +kernel
theorem dX9_reason_12 : decode cX9_reason 12 = .ok (.istore_n 2, 1) := by decide +kernel
theorem dX9_reason_13 : decode cX9_reason 13 = .ok (.iload_n 2, 1) := by decide +kernel
theorem dX9_reason_14 : decode cX9_reason 14 = .ok (.ifCond .ge 5, 3) := by decide +kernel
theorem dX9_reason_17 : decode cX9_reason 17 = .ok (.iconst 1, 1) := by decide +kernel
theorem dX9_reason_18 : decode cX9_reason 18 = .ok (.ireturn, 1) := by decide +kernel
theorem dX9_reason_19 : decode cX9_reason 19 = .ok (.aload_n 0, 1) := by decide +kernel
theorem dX9_reason_20 : decode cX9_reason 20 = .ok (.iload_n 2, 1) := by decide +kernel
theorem dX9_reason_21 : decode cX9_reason 21 = .ok (.invokevirtual 176, 3) := by decide +kernel
theorem dX9_reason_24 : decode cX9_reason 24 = .ok (.ifCond .ne 5, 3) := by decide +kernel
theorem dX9_reason_27 : decode cX9_reason 27 = .ok (.iconst 2, 1) := by decide +kernel
theorem dX9_reason_28 : decode cX9_reason 28 = .ok (.ireturn, 1) := by decide +kernel
theorem dX9_reason_29 : decode cX9_reason 29 = .ok (.aload_n 0, 1) := by decide +kernel
theorem dX9_reason_30 : decode cX9_reason 30 = .ok (.invokevirtual 179, 3) := by decide +kernel
theorem dX9_reason_33 : decode cX9_reason 33 = .ok (.ifCond .ne 5, 3) := by decide +kernel
theorem dX9_reason_36 : decode cX9_reason 36 = .ok (.iconst 3, 1) := by decide +kernel
theorem dX9_reason_37 : decode cX9_reason 37 = .ok (.ireturn, 1) := by decide +kernel
theorem dX9_reason_38 : decode cX9_reason 38 = .ok (.aload_n 0, 1) := by decide +kernel
theorem dX9_reason_39 : decode cX9_reason 39 = .ok (.iload_n 1, 1) := by decide +kernel
theorem dX9_reason_40 : decode cX9_reason 40 = .ok (.invokevirtual 183, 3) := by decide +kernel
theorem dX9_reason_43 : decode cX9_reason 43 = .ok (.ifCond .eq 5, 3) := by decide +kernel
theorem dX9_reason_46 : decode cX9_reason 46 = .ok (.iconst 4, 1) := by decide +kernel
theorem dX9_reason_47 : decode cX9_reason 47 = .ok (.ireturn, 1) := by decide +kernel
theorem dX9_reason_48 : decode cX9_reason 48 = .ok (.aload_n 0, 1) := by decide +kernel
theorem dX9_reason_49 : decode cX9_reason 49 = .ok (.iload_n 1, 1) := by decide +kernel
theorem dX9_reason_50 : decode cX9_reason 50 = .ok (.iconst 2, 1) := by decide +kernel
theorem dX9_reason_51 : decode cX9_reason 51 = .ok (.invokevirtual 36, 3) := by decide +kernel
theorem dX9_reason_54 : decode cX9_reason 54 = .ok (.aload_n 0, 1) := by decide +kernel
theorem dX9_reason_55 : decode cX9_reason 55 = .ok (.getfield 164, 3) := by decide +kernel
theorem dX9_reason_58 : decode cX9_reason 58 = .ok (.iadd, 1) := by decide +kernel
theorem dX9_reason_59 : decode cX9_reason 59 = .ok (.bipush 8, 2) := by decide +kernel
theorem dX9_reason_61 : decode cX9_reason 61 = .ok (.if_icmp .ne 5, 3) := by decide +kernel
theorem dX9_reason_64 : decode cX9_reason 64 = .ok (.iconst 5, 1) := by decide +kernel
theorem dX9_reason_65 : decode cX9_reason 65 = .ok (.ireturn, 1) := by decide +kernel
theorem dX9_reason_66 : decode cX9_reason 66 = .ok (.aload_n 0, 1) := by decide +kernel
theorem dX9_reason_67 : decode cX9_reason 67 = .ok (.dup, 1) := by decide +kernel
theorem dX9_reason_68 : decode cX9_reason 68 = .ok (.getfield 164, 3) := by decide +kernel
theorem dX9_reason_71 : decode cX9_reason 71 = .ok (.iconst 1, 1) := by decide +kernel
theorem dX9_reason_72 : decode cX9_reason 72 = .ok (.iadd, 1) := by decide +kernel
theorem dX9_reason_73 : decode cX9_reason 73 = .ok (.putfield 164, 3) := by decide +kernel
theorem dX9_reason_76 : decode cX9_reason 76 = .ok (.iconst 0, 1) := by decide +kernel
theorem dX9_reason_77 : decode cX9_reason 77 = .ok (.ireturn, 1) := by decide +kernel
set_option maxRecDepth 20000 in
theorem ggX9_readsAll_X9_reason : GoodIn wsX9_readsAll wsX9_reason := goodIn_r _ [8, 1, 9, 2, 10, 11, 12, 7, 13, 14, 15, 16, 17, 3, 18, 19, 20, 21, 22, 23, 24, 25, 26, 27, 28, 29, 30, 31, 32, 33, 34, 35, 36, 37, 38, 39, 40, 41, 42, 43, 44, 45, 46, 47, 48, 49, 50, 51, 52, 53, 54, 55, 56, 57, 58, 59, 60, 61, 62, 63, 64] (by decide +kernel) (by decide +kernel)
set_option maxRecDepth 20000 in
theorem gX9_readsAll_X9_reason : GoodIn wsX9_readsAll (wsV RX9 186 RX9 yX9_reason wsX9_reason) := goodIn_app (goodIn_of _ (by decide +kernel)) ggX9_readsAll_X9_reason
theorem dX9_readsAll_0 : decode cX9_readsAll 0 = .ok (.aload_n 0, 1) := by decide +kernel
theorem dX9_readsAll_1 : decode cX9_readsAll 1 = .ok (.iconst 0, 1) := by decide +kernel
theorem dX9_readsAll_2 : decode cX9_readsAll 2 = .ok (.putfield 151, 3) := by decide +kernel
theorem dX9_readsAll_5 : decode cX9_readsAll 5 = .ok (.aload_n 0, 1) := by decide +kernel
theorem dX9_readsAll_6 : decode cX9_readsAll 6 = .ok (.iconst 0, 1) := by decide +kernel
theorem dX9_readsAll_7 : decode cX9_readsAll 7 = .ok (.putfield 164, 3) := by decide +kernel
theorem dX9_readsAll_10 : decode cX9_readsAll 10 = .ok (.iconst 0, 1) := by decide +kernel
theorem dX9_readsAll_11 : decode cX9_readsAll 11 = .ok (.istore_n 2, 1) := by decide +kernel
theorem dX9_readsAll_12 : decode cX9_readsAll 12 = .ok (.aload_n 0, 1) := by decide +kernel
theorem dX9_readsAll_13 : decode cX9_readsAll 13 = .ok (.getfield 151, 3) := by decide +kernel
theorem dX9_readsAll_16 : decode cX9_readsAll 16 = .ok (.aload_n 0, 1) := by decide +kernel
theorem dX9_readsAll_17 : decode cX9_readsAll 17 = .ok (.getfield 101, 3) := by decide +kernel
theorem dX9_readsAll_20 : decode cX9_readsAll 20 = .ok (.if_icmp .ge 16, 3) := by decide +kernel
theorem dX9_readsAll_23 : decode cX9_readsAll 23 = .ok (.iload_n 2, 1) := by decide +kernel
theorem dX9_readsAll_24 : decode cX9_readsAll 24 = .ok (.ifCond .ne 12, 3) := by decide +kernel
theorem dX9_readsAll_27 : decode cX9_readsAll 27 = .ok (.aload_n 0, 1) := by decide +kernel
theorem dX9_readsAll_28 : decode cX9_readsAll 28 = .ok (.iload_n 1, 1) := by decide +kernel
theorem dX9_readsAll_29 : decode cX9_readsAll 29 = .ok (.invokevirtual 186, 3) := by decide +kernel
theorem dX9_readsAll_32 : decode cX9_readsAll 32 = .ok (.istore_n 2, 1) := by decide +kernel
theorem dX9_readsAll_33 : decode cX9_readsAll 33 = .ok (.goto (-21), 3) := by decide +kernel
theorem dX9_readsAll_36 : decode cX9_readsAll 36 = .ok (.iload_n 2, 1) := by decide +kernel
theorem dX9_readsAll_37 : decode cX9_readsAll 37 = .ok (.ireturn, 1) := by decide +kernel
set_option maxRecDepth 20000 in
theorem ggX9_fault_X9_isSheet : GoodIn wsX9_fault wsX9_isSheet := goodIn_r _ [6, 7, 8, 9, 5, 10, 62, 63, 64, 65, 66, 67, 68, 69, 70, 71, 72] (by decide +kernel) (by decide +kernel)
set_option maxRecDepth 20000 in
theorem gX9_fault_X9_isSheet : GoodIn wsX9_fault (wsV RX9 51 RX9 yX9_isSheet wsX9_isSheet) := goodIn_app (goodIn_of _ (by decide +kernel)) ggX9_fault_X9_isSheet
set_option maxRecDepth 20000 in
theorem ggX9_fault_X9_in : GoodIn wsX9_fault wsX9_in := goodIn_r _ [10] (by decide +kernel) (by decide +kernel)
set_option maxRecDepth 20000 in
theorem gX9_fault_X9_in : GoodIn wsX9_fault (va_wsS RX9 29 yX9_in wsX9_in) := goodIn_app (goodIn_of _ (by decide +kernel)) ggX9_fault_X9_in
set_option maxRecDepth 20000 in
theorem ggX9_fault_X9_readsAll : GoodIn wsX9_fault wsX9_readsAll := goodIn_r _ [14, 15, 16, 17, 18, 19, 20, 5, 21, 1, 22, 23, 24, 25, 26, 27, 28, 29, 30, 8, 9, 10, 31, 32, 33, 34, 35, 36, 37, 38, 39, 40, 41, 42, 43, 44, 45, 46, 47, 48, 49, 50, 7, 51, 52, 53, 54, 55, 56, 57, 58, 59, 60, 61, 62, 63, 64, 65, 66, 67, 68, 69, 70, 71, 72] (by decide +kernel) (by decide +kernel)
set_option maxRecDepth 20000 in
theorem gX9_fault_X9_readsAll : GoodIn wsX9_fault (wsV RX9 189 RX9 yX9_readsAll wsX9_readsAll) := goodIn_app (goodIn_of _ (by decide +kernel)) ggX9_fault_X9_readsAll
theorem dX9_fault_0 : decode cX9_fault 0 = .ok (.aload_n 0, 1) := by decide +kernel
theorem dX9_fault_1 : decode cX9_fault 1 = .ok (.iload_n 1, 1) := by decide +kernel
theorem dX9_fault_2 : decode cX9_fault 2 = .ok (.invokevirtual 51, 3) := by decide +kernel
theorem dX9_fault_5 : decode cX9_fault 5 = .ok (.ifCond .eq 12, 3) := by decide +kernel
theorem dX9_fault_8 : decode cX9_fault 8 = .ok (.iload_n 2, 1) := by decide +kernel
theorem dX9_fault_9 : decode cX9_fault 9 = .ok (.iconst 0, 1) := by decide +kernel
theorem dX9_fault_10 : decode cX9_fault 10 = .ok (.iconst 1, 1) := by decide +kernel
theorem dX9_fault_11 : decode cX9_fault 11 = .ok (.invokestatic 29, 3) := by decide +kernel
theorem dX9_fault_14 : decode cX9_fault 14 = .ok (.ifCond .ne 5, 3) := by decide +kernel
theorem dX9_fault_17 : decode cX9_fault 17 = .ok (.iconst (-1), 1) := by decide +kernel
theorem dX9_fault_18 : decode cX9_fault 18 = .ok (.ireturn, 1) := by decide +kernel
theorem dX9_fault_19 : decode cX9_fault 19 = .ok (.aload_n 0, 1) := by decide +kernel
theorem dX9_fault_20 : decode cX9_fault 20 = .ok (.iload_n 1, 1) := by decide +kernel
theorem dX9_fault_21 : decode cX9_fault 21 = .ok (.invokevirtual 189, 3) := by decide +kernel
theorem dX9_fault_24 : decode cX9_fault 24 = .ok (.istore_n 3, 1) := by decide +kernel
theorem dX9_fault_25 : decode cX9_fault 25 = .ok (.iload_n 3, 1) := by decide +kernel
theorem dX9_fault_26 : decode cX9_fault 26 = .ok (.ifCond .ne 8, 3) := by decide +kernel
theorem dX9_fault_29 : decode cX9_fault 29 = .ok (.bipush (-4), 2) := by decide +kernel
theorem dX9_fault_31 : decode cX9_fault 31 = .ok (.goto 15, 3) := by decide +kernel
theorem dX9_fault_34 : decode cX9_fault 34 = .ok (.iload_n 2, 1) := by decide +kernel
theorem dX9_fault_35 : decode cX9_fault 35 = .ok (.ifCond .ne 10, 3) := by decide +kernel
theorem dX9_fault_38 : decode cX9_fault 38 = .ok (.aload_n 0, 1) := by decide +kernel
theorem dX9_fault_39 : decode cX9_fault 39 = .ok (.getfield 170, 3) := by decide +kernel
theorem dX9_fault_42 : decode cX9_fault 42 = .ok (.goto 4, 3) := by decide +kernel
theorem dX9_fault_45 : decode cX9_fault 45 = .ok (.iload_n 3, 1) := by decide +kernel
theorem dX9_fault_46 : decode cX9_fault 46 = .ok (.ireturn, 1) := by decide +kernel
set_option maxRecDepth 20000 in
theorem ggX9_write_X9_isSheet : GoodIn wsX9_write wsX9_isSheet := goodIn_r _ [8, 2, 9, 10, 7, 11, 71, 72, 73, 74, 75, 76, 77, 78, 79, 80, 81] (by decide +kernel) (by decide +kernel)
set_option maxRecDepth 20000 in
theorem gX9_write_X9_isSheet : GoodIn wsX9_write (wsV RX9 51 RX9 yX9_isSheet wsX9_isSheet) := goodIn_app (goodIn_of _ (by decide +kernel)) ggX9_write_X9_isSheet
set_option maxRecDepth 20000 in
theorem ggX9_write_X9_of : GoodIn wsX9_write wsX9_of := goodIn_r _ [15, 2, 71, 72, 73, 74, 75, 76, 77, 78, 79, 80, 81] (by decide +kernel) (by decide +kernel)
set_option maxRecDepth 20000 in
theorem gX9_write_X9_of : GoodIn wsX9_write (wsV RX9 36 RX9 yX9_of wsX9_of) := goodIn_app (goodIn_of _ (by decide +kernel)) ggX9_write_X9_of
set_option maxRecDepth 20000 in
theorem ggX9_write_X9_readsAll : GoodIn wsX9_write wsX9_readsAll := goodIn_r _ [19, 20, 1, 21, 22, 23, 24, 7, 25, 26, 27, 28, 29, 30, 31, 32, 33, 34, 35, 9, 10, 11, 36, 37, 38, 39, 40, 41, 42, 3, 43, 44, 45, 46, 47, 48, 49, 50, 51, 52, 53, 54, 2, 55, 56, 57, 58, 12, 13, 14, 15, 59, 60, 61, 71, 72, 73, 74, 75, 76, 77, 78, 79, 80, 81] (by decide +kernel) (by decide +kernel)
set_option maxRecDepth 20000 in
theorem gX9_write_X9_readsAll : GoodIn wsX9_write (wsV RX9 189 RX9 yX9_readsAll wsX9_readsAll) := goodIn_app (goodIn_of _ (by decide +kernel)) ggX9_write_X9_readsAll
set_option maxRecDepth 20000 in
theorem ggX9_write_X9_records : GoodIn wsX9_write wsX9_records := goodIn_r _ [65, 66, 67, 2, 71, 72, 73, 74, 75, 76, 77, 78, 79, 80, 81] (by decide +kernel) (by decide +kernel)
set_option maxRecDepth 20000 in
theorem gX9_write_X9_records : GoodIn wsX9_write (wsV RX9 33 RX9 yX9_records wsX9_records) := goodIn_app (goodIn_of _ (by decide +kernel)) ggX9_write_X9_records
set_option maxRecDepth 20000 in
theorem ggX9_write_X9_markOf : GoodIn wsX9_write wsX9_markOf := goodIn_r _ [61] (by decide +kernel) (by decide +kernel)
set_option maxRecDepth 20000 in
theorem gX9_write_X9_markOf : GoodIn wsX9_write (va_wsS RX9 76 yX9_markOf wsX9_markOf) := goodIn_app (goodIn_of _ (by decide +kernel)) ggX9_write_X9_markOf
set_option maxRecDepth 20000 in
theorem ggX9_write_X9_sheetAt : GoodIn wsX9_write wsX9_sheetAt := goodIn_r _ [70] (by decide +kernel) (by decide +kernel)
set_option maxRecDepth 20000 in
theorem gX9_write_X9_sheetAt : GoodIn wsX9_write (va_wsS RX9 47 yX9_sheetAt wsX9_sheetAt) := goodIn_app (goodIn_of _ (by decide +kernel)) ggX9_write_X9_sheetAt
theorem dX9_write_0 : decode cX9_write 0 = .ok (.aload_n 0, 1) := by decide +kernel
theorem dX9_write_1 : decode cX9_write 1 = .ok (.iload_n 1, 1) := by decide +kernel
theorem dX9_write_2 : decode cX9_write 2 = .ok (.invokevirtual 51, 3) := by decide +kernel
theorem dX9_write_5 : decode cX9_write 5 = .ok (.ifCond .ne 5, 3) := by decide +kernel
theorem dX9_write_8 : decode cX9_write 8 = .ok (.iconst (-1), 1) := by decide +kernel
theorem dX9_write_9 : decode cX9_write 9 = .ok (.ireturn, 1) := by decide +kernel
theorem dX9_write_10 : decode cX9_write 10 = .ok (.aload_n 0, 1) := by decide +kernel
theorem dX9_write_11 : decode cX9_write 11 = .ok (.iload_n 1, 1) := by decide +kernel
theorem dX9_write_12 : decode cX9_write 12 = .ok (.iconst 1, 1) := by decide +kernel
theorem dX9_write_13 : decode cX9_write 13 = .ok (.invokevirtual 36, 3) := by decide +kernel
theorem dX9_write_16 : decode cX9_write 16 = .ok (.ifCond .ne 11, 3) := by decide +kernel
theorem dX9_write_19 : decode cX9_write 19 = .ok (.aload_n 0, 1) := by decide +kernel
theorem dX9_write_20 : decode cX9_write 20 = .ok (.iload_n 1, 1) := by decide +kernel
theorem dX9_write_21 : decode cX9_write 21 = .ok (.invokevirtual 189, 3) := by decide +kernel
theorem dX9_write_24 : decode cX9_write 24 = .ok (.ifCond .eq 6, 3) := by decide +kernel
theorem dX9_write_27 : decode cX9_write 27 = .ok (.bipush (-2), 2) := by decide +kernel
theorem dX9_write_29 : decode cX9_write 29 = .ok (.ireturn, 1) := by decide +kernel
theorem dX9_write_30 : decode cX9_write 30 = .ok (.aload_n 0, 1) := by decide +kernel
theorem dX9_write_31 : decode cX9_write 31 = .ok (.invokevirtual 33, 3) := by decide +kernel
theorem dX9_write_34 : decode cX9_write 34 = .ok (.iload_n 1, 1) := by decide +kernel
theorem dX9_write_35 : decode cX9_write 35 = .ok (.aload_n 0, 1) := by decide +kernel
theorem dX9_write_36 : decode cX9_write 36 = .ok (.iload_n 1, 1) := by decide +kernel
theorem dX9_write_37 : decode cX9_write 37 = .ok (.iconst 2, 1) := by decide +kernel
theorem dX9_write_38 : decode cX9_write 38 = .ok (.invokevirtual 36, 3) := by decide +kernel
theorem dX9_write_41 : decode cX9_write 41 = .ok (.invokestatic 76, 3) := by decide +kernel
theorem dX9_write_44 : decode cX9_write 44 = .ok (.istore_n 2, 1) := by decide +kernel
theorem dX9_write_45 : decode cX9_write 45 = .ok (.iconst 0, 1) := by decide +kernel
theorem dX9_write_46 : decode cX9_write 46 = .ok (.istore_n 3, 1) := by decide +kernel
theorem dX9_write_47 : decode cX9_write 47 = .ok (.iload_n 3, 1) := by decide +kernel
theorem dX9_write_48 : decode cX9_write 48 = .ok (.iconst 4, 1) := by decide +kernel
theorem dX9_write_49 : decode cX9_write 49 = .ok (.aload_n 0, 1) := by decide +kernel
theorem dX9_write_50 : decode cX9_write 50 = .ok (.getfield 164, 3) := by decide +kernel
theorem dX9_write_53 : decode cX9_write 53 = .ok (.imul, 1) := by decide +kernel
theorem dX9_write_54 : decode cX9_write 54 = .ok (.if_icmp .ge 23, 3) := by decide +kernel
theorem dX9_write_57 : decode cX9_write 57 = .ok (.aload_n 0, 1) := by decide +kernel
theorem dX9_write_58 : decode cX9_write 58 = .ok (.getfield 7, 3) := by decide +kernel
theorem dX9_write_61 : decode cX9_write 61 = .ok (.iload_n 2, 1) := by decide +kernel
theorem dX9_write_62 : decode cX9_write 62 = .ok (.iload_n 3, 1) := by decide +kernel
theorem dX9_write_63 : decode cX9_write 63 = .ok (.iadd, 1) := by decide +kernel
theorem dX9_write_64 : decode cX9_write 64 = .ok (.aload_n 0, 1) := by decide +kernel
theorem dX9_write_65 : decode cX9_write 65 = .ok (.getfield 22, 3) := by decide +kernel
theorem dX9_write_68 : decode cX9_write 68 = .ok (.iload_n 3, 1) := by decide +kernel
theorem dX9_write_69 : decode cX9_write 69 = .ok (.iaload, 1) := by decide +kernel
theorem dX9_write_70 : decode cX9_write 70 = .ok (.iastore, 1) := by decide +kernel
theorem dX9_write_71 : decode cX9_write 71 = .ok (.iinc 3 1, 3) := by decide +kernel
theorem dX9_write_74 : decode cX9_write 74 = .ok (.goto (-27), 3) := by decide +kernel
theorem dX9_write_77 : decode cX9_write 77 = .ok (.aload_n 0, 1) := by decide +kernel
theorem dX9_write_78 : decode cX9_write 78 = .ok (.getfield 7, 3) := by decide +kernel
theorem dX9_write_81 : decode cX9_write 81 = .ok (.iload_n 1, 1) := by decide +kernel
theorem dX9_write_82 : decode cX9_write 82 = .ok (.invokestatic 47, 3) := by decide +kernel
theorem dX9_write_85 : decode cX9_write 85 = .ok (.iconst 2, 1) := by decide +kernel
theorem dX9_write_86 : decode cX9_write 86 = .ok (.iadd, 1) := by decide +kernel
theorem dX9_write_87 : decode cX9_write 87 = .ok (.dup2, 1) := by decide +kernel
theorem dX9_write_88 : decode cX9_write 88 = .ok (.iaload, 1) := by decide +kernel
theorem dX9_write_89 : decode cX9_write 89 = .ok (.aload_n 0, 1) := by decide +kernel
theorem dX9_write_90 : decode cX9_write 90 = .ok (.getfield 164, 3) := by decide +kernel
theorem dX9_write_93 : decode cX9_write 93 = .ok (.iadd, 1) := by decide +kernel
theorem dX9_write_94 : decode cX9_write 94 = .ok (.iastore, 1) := by decide +kernel
theorem dX9_write_95 : decode cX9_write 95 = .ok (.aload_n 0, 1) := by decide +kernel
theorem dX9_write_96 : decode cX9_write 96 = .ok (.getfield 7, 3) := by decide +kernel
theorem dX9_write_99 : decode cX9_write 99 = .ok (.iconst 4, 1) := by decide +kernel
theorem dX9_write_100 : decode cX9_write 100 = .ok (.dup2, 1) := by decide +kernel
theorem dX9_write_101 : decode cX9_write 101 = .ok (.iaload, 1) := by decide +kernel
theorem dX9_write_102 : decode cX9_write 102 = .ok (.aload_n 0, 1) := by decide +kernel
theorem dX9_write_103 : decode cX9_write 103 = .ok (.getfield 164, 3) := by decide +kernel
theorem dX9_write_106 : decode cX9_write 106 = .ok (.iadd, 1) := by decide +kernel
theorem dX9_write_107 : decode cX9_write 107 = .ok (.iastore, 1) := by decide +kernel
theorem dX9_write_108 : decode cX9_write 108 = .ok (.aload_n 0, 1) := by decide +kernel
theorem dX9_write_109 : decode cX9_write 109 = .ok (.getfield 7, 3) := by decide +kernel
theorem dX9_write_112 : decode cX9_write 112 = .ok (.bipush 9, 2) := by decide +kernel
theorem dX9_write_114 : decode cX9_write 114 = .ok (.iconst 3, 1) := by decide +kernel
theorem dX9_write_115 : decode cX9_write 115 = .ok (.aload_n 0, 1) := by decide +kernel
theorem dX9_write_116 : decode cX9_write 116 = .ok (.iload_n 1, 1) := by decide +kernel
theorem dX9_write_117 : decode cX9_write 117 = .ok (.iconst 0, 1) := by decide +kernel
theorem dX9_write_118 : decode cX9_write 118 = .ok (.invokevirtual 36, 3) := by decide +kernel
theorem dX9_write_121 : decode cX9_write 121 = .ok (.imul, 1) := by decide +kernel
theorem dX9_write_122 : decode cX9_write 122 = .ok (.iadd, 1) := by decide +kernel
theorem dX9_write_123 : decode cX9_write 123 = .ok (.iconst 1, 1) := by decide +kernel
theorem dX9_write_124 : decode cX9_write 124 = .ok (.iadd, 1) := by decide +kernel
theorem dX9_write_125 : decode cX9_write 125 = .ok (.dup2, 1) := by decide +kernel
theorem dX9_write_126 : decode cX9_write 126 = .ok (.iaload, 1) := by decide +kernel
theorem dX9_write_127 : decode cX9_write 127 = .ok (.aload_n 0, 1) := by decide +kernel
theorem dX9_write_128 : decode cX9_write 128 = .ok (.getfield 164, 3) := by decide +kernel
theorem dX9_write_131 : decode cX9_write 131 = .ok (.iadd, 1) := by decide +kernel
theorem dX9_write_132 : decode cX9_write 132 = .ok (.iastore, 1) := by decide +kernel
theorem dX9_write_133 : decode cX9_write 133 = .ok (.aload_n 0, 1) := by decide +kernel
theorem dX9_write_134 : decode cX9_write 134 = .ok (.getfield 164, 3) := by decide +kernel
theorem dX9_write_137 : decode cX9_write 137 = .ok (.ireturn, 1) := by decide +kernel
