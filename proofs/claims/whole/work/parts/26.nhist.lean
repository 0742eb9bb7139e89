set_option maxRecDepth 20000 in
theorem ggX0_init_X7_init : GoodIn wsX0_init wsX7_init := goodIn_r _ [10, 11, 2, 3, 12, 13, 14, 15, 16, 17, 18, 19, 20, 21, 22, 23, 24, 25, 26, 27, 28, 29, 30, 31, 32, 33, 34, 35, 36, 37, 38, 39, 40, 41, 42, 43, 44, 45, 46, 47, 48, 49, 50, 51, 52, 53, 54, 55, 56, 57, 69, 70, 60, 61, 62, 63, 64, 65, 66, 67, 68, 71, 72, 73, 74, 75, 76, 77] (by decide +kernel) (by decide +kernel)
set_option maxRecDepth 20000 in
theorem gX0_init_X7_init : GoodIn wsX0_init (wsX7_init) := ggX0_init_X7_init
theorem dX0_init_0 : decode cX0_init 0 = .ok (.aload_n 0, 1) := by decide +kernel
theorem dX0_init_1 : decode cX0_init 1 = .ok (.invokespecial 3, 3) := by decide +kernel
theorem dX0_init_4 : decode cX0_init 4 = .ok (.aload_n 0, 1) := by decide +kernel
theorem dX0_init_5 : decode cX0_init 5 = .ok (.iconst 4, 1) := by decide +kernel
theorem dX0_init_6 : decode cX0_init 6 = .ok (.anewarray 9, 3) := by decide +kernel
theorem dX0_init_9 : decode cX0_init 9 = .ok (.putfield 11, 3) := by decide +kernel
theorem dX0_init_12 : decode cX0_init 12 = .ok (.iconst 0, 1) := by decide +kernel
theorem dX0_init_13 : decode cX0_init 13 = .ok (.istore_n 1, 1) := by decide +kernel
theorem dX0_init_14 : decode cX0_init 14 = .ok (.iload_n 1, 1) := by decide +kernel
theorem dX0_init_15 : decode cX0_init 15 = .ok (.aload_n 0, 1) := by decide +kernel
theorem dX0_init_16 : decode cX0_init 16 = .ok (.getfield 11, 3) := by decide +kernel
theorem dX0_init_19 : decode cX0_init 19 = .ok (.arraylength, 1) := by decide +kernel
theorem dX0_init_20 : decode cX0_init 20 = .ok (.if_icmp .ge 22, 3) := by decide +kernel
theorem dX0_init_23 : decode cX0_init 23 = .ok (.aload_n 0, 1) := by decide +kernel
theorem dX0_init_24 : decode cX0_init 24 = .ok (.getfield 11, 3) := by decide +kernel
theorem dX0_init_27 : decode cX0_init 27 = .ok (.iload_n 1, 1) := by decide +kernel
theorem dX0_init_28 : decode cX0_init 28 = .ok (.new 9, 3) := by decide +kernel
theorem dX0_init_31 : decode cX0_init 31 = .ok (.dup, 1) := by decide +kernel
theorem dX0_init_32 : decode cX0_init 32 = .ok (.invokespecial 17, 3) := by decide +kernel
theorem dX0_init_35 : decode cX0_init 35 = .ok (.aastore, 1) := by decide +kernel
theorem dX0_init_36 : decode cX0_init 36 = .ok (.iinc 1 1, 3) := by decide +kernel
theorem dX0_init_39 : decode cX0_init 39 = .ok (.goto (-25), 3) := by decide +kernel
theorem dX0_init_42 : decode cX0_init 42 = .ok (.return_, 1) := by decide +kernel
set_option maxRecDepth 20000 in
theorem ggX0_record_X0_dropOldest : GoodIn wsX0_record wsX0_dropOldest := goodIn_r _ [7, 2, 1, 55, 56] (by decide +kernel) (by decide +kernel)
set_option maxRecDepth 20000 in
theorem gX0_record_X0_dropOldest : GoodIn wsX0_record (wsV RX0 22 RX0 yX0_dropOldest wsX0_dropOldest) := goodIn_app (goodIn_of _ (by decide +kernel)) ggX0_record_X0_dropOldest
set_option maxRecDepth 20000 in
theorem ggX0_record_X7_copyFrom : GoodIn wsX0_record wsX7_copyFrom := goodIn_r _ [12, 13, 14, 15, 16, 17, 18, 19, 20, 21, 22, 23, 24, 25, 26, 27, 28, 29, 30, 31, 32, 33, 34, 35, 36, 37, 38, 39, 40, 11, 41, 42, 43, 44, 45, 46, 47, 48, 49, 50, 51, 52, 53, 54, 57, 58, 59, 60, 61, 62, 63, 64, 65, 66, 67, 68, 69, 70, 71, 72, 73, 74] (by decide +kernel) (by decide +kernel)
set_option maxRecDepth 20000 in
theorem gX0_record_X7_copyFrom : GoodIn wsX0_record (wsV RX0 25 RX7 yX7_copyFrom wsX7_copyFrom) := goodIn_app (goodIn_of _ (by decide +kernel)) ggX0_record_X7_copyFrom
theorem dX0_record_0 : decode cX0_record 0 = .ok (.aload_n 0, 1) := by decide +kernel
theorem dX0_record_1 : decode cX0_record 1 = .ok (.getfield 18, 3) := by decide +kernel
theorem dX0_record_4 : decode cX0_record 4 = .ok (.aload_n 0, 1) := by decide +kernel
theorem dX0_record_5 : decode cX0_record 5 = .ok (.getfield 11, 3) := by decide +kernel
theorem dX0_record_8 : decode cX0_record 8 = .ok (.arraylength, 1) := by decide +kernel
theorem dX0_record_9 : decode cX0_record 9 = .ok (.if_icmp .lt 7, 3) := by decide +kernel
theorem dX0_record_12 : decode cX0_record 12 = .ok (.aload_n 0, 1) := by decide +kernel
theorem dX0_record_13 : decode cX0_record 13 = .ok (.invokevirtual 22, 3) := by decide +kernel
theorem dX0_record_16 : decode cX0_record 16 = .ok (.aload_n 0, 1) := by decide +kernel
theorem dX0_record_17 : decode cX0_record 17 = .ok (.getfield 18, 3) := by decide +kernel
theorem dX0_record_20 : decode cX0_record 20 = .ok (.ifCond .lt 50, 3) := by decide +kernel
theorem dX0_record_23 : decode cX0_record 23 = .ok (.aload_n 0, 1) := by decide +kernel
theorem dX0_record_24 : decode cX0_record 24 = .ok (.getfield 18, 3) := by decide +kernel
theorem dX0_record_27 : decode cX0_record 27 = .ok (.aload_n 0, 1) := by decide +kernel
theorem dX0_record_28 : decode cX0_record 28 = .ok (.getfield 11, 3) := by decide +kernel
theorem dX0_record_31 : decode cX0_record 31 = .ok (.arraylength, 1) := by decide +kernel
theorem dX0_record_32 : decode cX0_record 32 = .ok (.if_icmp .ge 38, 3) := by decide +kernel
theorem dX0_record_35 : decode cX0_record 35 = .ok (.aload_n 0, 1) := by decide +kernel
theorem dX0_record_36 : decode cX0_record 36 = .ok (.getfield 11, 3) := by decide +kernel
theorem dX0_record_39 : decode cX0_record 39 = .ok (.aload_n 0, 1) := by decide +kernel
theorem dX0_record_40 : decode cX0_record 40 = .ok (.getfield 18, 3) := by decide +kernel
theorem dX0_record_43 : decode cX0_record 43 = .ok (.aaload, 1) := by decide +kernel
theorem dX0_record_44 : decode cX0_record 44 = .ok (.ifnull 26, 3) := by decide +kernel
theorem dX0_record_47 : decode cX0_record 47 = .ok (.aload_n 0, 1) := by decide +kernel
theorem dX0_record_48 : decode cX0_record 48 = .ok (.getfield 11, 3) := by decide +kernel
theorem dX0_record_51 : decode cX0_record 51 = .ok (.aload_n 0, 1) := by decide +kernel
theorem dX0_record_52 : decode cX0_record 52 = .ok (.getfield 18, 3) := by decide +kernel
theorem dX0_record_55 : decode cX0_record 55 = .ok (.aaload, 1) := by decide +kernel
theorem dX0_record_56 : decode cX0_record 56 = .ok (.aload_n 1, 1) := by decide +kernel
theorem dX0_record_57 : decode cX0_record 57 = .ok (.invokevirtual 25, 3) := by decide +kernel
theorem dX0_record_60 : decode cX0_record 60 = .ok (.aload_n 0, 1) := by decide +kernel
theorem dX0_record_61 : decode cX0_record 61 = .ok (.dup, 1) := by decide +kernel
theorem dX0_record_62 : decode cX0_record 62 = .ok (.getfield 18, 3) := by decide +kernel
theorem dX0_record_65 : decode cX0_record 65 = .ok (.iconst 1, 1) := by decide +kernel
theorem dX0_record_66 : decode cX0_record 66 = .ok (.iadd, 1) := by decide +kernel
theorem dX0_record_67 : decode cX0_record 67 = .ok (.putfield 18, 3) := by decide +kernel
theorem dX0_record_70 : decode cX0_record 70 = .ok (.return_, 1) := by decide +kernel
theorem dX0_dropOldest_0 : decode cX0_dropOldest 0 = .ok (.iconst 0, 1) := by decide +kernel
theorem dX0_dropOldest_1 : decode cX0_dropOldest 1 = .ok (.istore_n 1, 1) := by decide +kernel
theorem dX0_dropOldest_2 : decode cX0_dropOldest 2 = .ok (.iload_n 1, 1) := by decide +kernel
theorem dX0_dropOldest_3 : decode cX0_dropOldest 3 = .ok (.iconst 1, 1) := by decide +kernel
theorem dX0_dropOldest_4 : decode cX0_dropOldest 4 = .ok (.iadd, 1) := by decide +kernel
theorem dX0_dropOldest_5 : decode cX0_dropOldest 5 = .ok (.aload_n 0, 1) := by decide +kernel
theorem dX0_dropOldest_6 : decode cX0_dropOldest 6 = .ok (.getfield 11, 3) := by decide +kernel
theorem dX0_dropOldest_9 : decode cX0_dropOldest 9 = .ok (.arraylength, 1) := by decide +kernel
theorem dX0_dropOldest_10 : decode cX0_dropOldest 10 = .ok (.if_icmp .ge 39, 3) := by decide +kernel
theorem dX0_dropOldest_13 : decode cX0_dropOldest 13 = .ok (.aload_n 0, 1) := by decide +kernel
theorem dX0_dropOldest_14 : decode cX0_dropOldest 14 = .ok (.getfield 11, 3) := by decide +kernel
theorem dX0_dropOldest_17 : decode cX0_dropOldest 17 = .ok (.iload_n 1, 1) := by decide +kernel
theorem dX0_dropOldest_18 : decode cX0_dropOldest 18 = .ok (.aaload, 1) := by decide +kernel
theorem dX0_dropOldest_19 : decode cX0_dropOldest 19 = .ok (.astore_n 2, 1) := by decide +kernel
theorem dX0_dropOldest_20 : decode cX0_dropOldest 20 = .ok (.aload_n 0, 1) := by decide +kernel
theorem dX0_dropOldest_21 : decode cX0_dropOldest 21 = .ok (.getfield 11, 3) := by decide +kernel
theorem dX0_dropOldest_24 : decode cX0_dropOldest 24 = .ok (.iload_n 1, 1) := by decide +kernel
theorem dX0_dropOldest_25 : decode cX0_dropOldest 25 = .ok (.aload_n 0, 1) := by decide +kernel
theorem dX0_dropOldest_26 : decode cX0_dropOldest 26 = .ok (.getfield 11, 3) := by decide +kernel
theorem dX0_dropOldest_29 : decode cX0_dropOldest 29 = .ok (.iload_n 1, 1) := by decide +kernel
theorem dX0_dropOldest_30 : decode cX0_dropOldest 30 = .ok (.iconst 1, 1) := by decide +kernel
theorem dX0_dropOldest_31 : decode cX0_dropOldest 31 = .ok (.iadd, 1) := by decide +kernel
theorem dX0_dropOldest_32 : decode cX0_dropOldest 32 = .ok (.aaload, 1) := by decide +kernel
theorem dX0_dropOldest_33 : decode cX0_dropOldest 33 = .ok (.aastore, 1) := by decide +kernel
theorem dX0_dropOldest_34 : decode cX0_dropOldest 34 = .ok (.aload_n 0, 1) := by decide +kernel
theorem dX0_dropOldest_35 : decode cX0_dropOldest 35 = .ok (.getfield 11, 3) := by decide +kernel
theorem dX0_dropOldest_38 : decode cX0_dropOldest 38 = .ok (.iload_n 1, 1) := by decide +kernel
theorem dX0_dropOldest_39 : decode cX0_dropOldest 39 = .ok (.iconst 1, 1) := by decide +kernel
theorem dX0_dropOldest_40 : decode cX0_dropOldest 40 = .ok (.iadd, 1) := by decide +kernel
theorem dX0_dropOldest_41 : decode cX0_dropOldest 41 = .ok (.aload_n 2, 1) := by decide +kernel
theorem dX0_dropOldest_42 : decode cX0_dropOldest 42 = .ok (.aastore, 1) := by decide +kernel
theorem dX0_dropOldest_43 : decode cX0_dropOldest 43 = .ok (.iinc 1 1, 3) := by decide +kernel
theorem dX0_dropOldest_46 : decode cX0_dropOldest 46 = .ok (.goto (-44), 3) := by decide +kernel
theorem dX0_dropOldest_49 : decode cX0_dropOldest 49 = .ok (.aload_n 0, 1) := by decide +kernel
theorem dX0_dropOldest_50 : decode cX0_dropOldest 50 = .ok (.dup, 1) := by decide +kernel
theorem dX0_dropOldest_51 : decode cX0_dropOldest 51 = .ok (.getfield 18, 3) := by decide +kernel
theorem dX0_dropOldest_54 : decode cX0_dropOldest 54 = .ok (.iconst 1, 1) := by decide +kernel
theorem dX0_dropOldest_55 : decode cX0_dropOldest 55 = .ok (.isub, 1) := by decide +kernel
theorem dX0_dropOldest_56 : decode cX0_dropOldest 56 = .ok (.putfield 18, 3) := by decide +kernel
theorem dX0_dropOldest_59 : decode cX0_dropOldest 59 = .ok (.return_, 1) := by decide +kernel
set_option maxRecDepth 20000 in
theorem ggX0_restore_X7_copyFrom : GoodIn wsX0_restore wsX7_copyFrom := goodIn_r _ [7, 8, 9, 10, 11, 12, 13, 14, 15, 16, 17, 18, 19, 20, 21, 22, 23, 24, 25, 26, 27, 28, 29, 30, 31, 32, 33, 34, 35, 6, 36, 37, 38, 39, 40, 41, 42, 43, 44, 45, 46, 47, 48, 49, 52, 53, 54, 55, 56, 57, 58, 59, 60, 61, 62, 63, 64, 65, 66, 67, 68, 69] (by decide +kernel) (by decide +kernel)
set_option maxRecDepth 20000 in
theorem gX0_restore_X7_copyFrom : GoodIn wsX0_restore (wsV RX0 25 RX7 yX7_copyFrom wsX7_copyFrom) := goodIn_app (goodIn_of _ (by decide +kernel)) ggX0_restore_X7_copyFrom
theorem dX0_restore_0 : decode cX0_restore 0 = .ok (.aload_n 0, 1) := by decide +kernel
theorem dX0_restore_1 : decode cX0_restore 1 = .ok (.getfield 18, 3) := by decide +kernel
theorem dX0_restore_4 : decode cX0_restore 4 = .ok (.iconst 1, 1) := by decide +kernel
theorem dX0_restore_5 : decode cX0_restore 5 = .ok (.isub, 1) := by decide +kernel
theorem dX0_restore_6 : decode cX0_restore 6 = .ok (.istore_n 2, 1) := by decide +kernel
theorem dX0_restore_7 : decode cX0_restore 7 = .ok (.iload_n 2, 1) := by decide +kernel
theorem dX0_restore_8 : decode cX0_restore 8 = .ok (.ifCond .lt 36, 3) := by decide +kernel
theorem dX0_restore_11 : decode cX0_restore 11 = .ok (.iload_n 2, 1) := by decide +kernel
theorem dX0_restore_12 : decode cX0_restore 12 = .ok (.aload_n 0, 1) := by decide +kernel
theorem dX0_restore_13 : decode cX0_restore 13 = .ok (.getfield 11, 3) := by decide +kernel
theorem dX0_restore_16 : decode cX0_restore 16 = .ok (.arraylength, 1) := by decide +kernel
theorem dX0_restore_17 : decode cX0_restore 17 = .ok (.if_icmp .ge 27, 3) := by decide +kernel
theorem dX0_restore_20 : decode cX0_restore 20 = .ok (.aload_n 0, 1) := by decide +kernel
theorem dX0_restore_21 : decode cX0_restore 21 = .ok (.getfield 11, 3) := by decide +kernel
theorem dX0_restore_24 : decode cX0_restore 24 = .ok (.iload_n 2, 1) := by decide +kernel
theorem dX0_restore_25 : decode cX0_restore 25 = .ok (.aaload, 1) := by decide +kernel
theorem dX0_restore_26 : decode cX0_restore 26 = .ok (.ifnull 18, 3) := by decide +kernel
theorem dX0_restore_29 : decode cX0_restore 29 = .ok (.aload_n 1, 1) := by decide +kernel
theorem dX0_restore_30 : decode cX0_restore 30 = .ok (.aload_n 0, 1) := by decide +kernel
theorem dX0_restore_31 : decode cX0_restore 31 = .ok (.getfield 11, 3) := by decide +kernel
theorem dX0_restore_34 : decode cX0_restore 34 = .ok (.iload_n 2, 1) := by decide +kernel
theorem dX0_restore_35 : decode cX0_restore 35 = .ok (.aaload, 1) := by decide +kernel
theorem dX0_restore_36 : decode cX0_restore 36 = .ok (.invokevirtual 25, 3) := by decide +kernel
theorem dX0_restore_39 : decode cX0_restore 39 = .ok (.aload_n 0, 1) := by decide +kernel
theorem dX0_restore_40 : decode cX0_restore 40 = .ok (.iload_n 2, 1) := by decide +kernel
theorem dX0_restore_41 : decode cX0_restore 41 = .ok (.putfield 18, 3) := by decide +kernel
theorem dX0_restore_44 : decode cX0_restore 44 = .ok (.return_, 1) := by decide +kernel
