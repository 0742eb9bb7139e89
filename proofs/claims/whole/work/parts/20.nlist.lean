set_option maxRecDepth 20000 in
theorem ggX2_init_X5_init : GoodIn wsX2_init wsX5_init := goodIn_r _ [13, 14, 2, 3, 15, 16, 17, 18] (by decide +kernel) (by decide +kernel)
set_option maxRecDepth 20000 in
theorem gX2_init_X5_init : GoodIn wsX2_init (wsX5_init) := ggX2_init_X5_init
theorem dX2_init_0 : decode cX2_init 0 = .ok (.aload_n 0, 1) := by decide +kernel
theorem dX2_init_1 : decode cX2_init 1 = .ok (.invokespecial 3, 3) := by decide +kernel
theorem dX2_init_4 : decode cX2_init 4 = .ok (.aload_n 0, 1) := by decide +kernel
theorem dX2_init_5 : decode cX2_init 5 = .ok (.new 9, 3) := by decide +kernel
theorem dX2_init_8 : decode cX2_init 8 = .ok (.dup, 1) := by decide +kernel
theorem dX2_init_9 : decode cX2_init 9 = .ok (.bipush 64, 2) := by decide +kernel
theorem dX2_init_11 : decode cX2_init 11 = .ok (.invokespecial 11, 3) := by decide +kernel
theorem dX2_init_14 : decode cX2_init 14 = .ok (.putfield 14, 3) := by decide +kernel
theorem dX2_init_17 : decode cX2_init 17 = .ok (.aload_n 0, 1) := by decide +kernel
theorem dX2_init_18 : decode cX2_init 18 = .ok (.new 9, 3) := by decide +kernel
theorem dX2_init_21 : decode cX2_init 21 = .ok (.dup, 1) := by decide +kernel
theorem dX2_init_22 : decode cX2_init 22 = .ok (.bipush 64, 2) := by decide +kernel
theorem dX2_init_24 : decode cX2_init 24 = .ok (.invokespecial 11, 3) := by decide +kernel
theorem dX2_init_27 : decode cX2_init 27 = .ok (.putfield 20, 3) := by decide +kernel
theorem dX2_init_30 : decode cX2_init 30 = .ok (.aload_n 0, 1) := by decide +kernel
theorem dX2_init_31 : decode cX2_init 31 = .ok (.new 9, 3) := by decide +kernel
theorem dX2_init_34 : decode cX2_init 34 = .ok (.dup, 1) := by decide +kernel
theorem dX2_init_35 : decode cX2_init 35 = .ok (.bipush 64, 2) := by decide +kernel
theorem dX2_init_37 : decode cX2_init 37 = .ok (.invokespecial 11, 3) := by decide +kernel
theorem dX2_init_40 : decode cX2_init 40 = .ok (.putfield 23, 3) := by decide +kernel
theorem dX2_init_43 : decode cX2_init 43 = .ok (.aload_n 0, 1) := by decide +kernel
theorem dX2_init_44 : decode cX2_init 44 = .ok (.new 9, 3) := by decide +kernel
theorem dX2_init_47 : decode cX2_init 47 = .ok (.dup, 1) := by decide +kernel
theorem dX2_init_48 : decode cX2_init 48 = .ok (.bipush 64, 2) := by decide +kernel
theorem dX2_init_50 : decode cX2_init 50 = .ok (.invokespecial 11, 3) := by decide +kernel
theorem dX2_init_53 : decode cX2_init 53 = .ok (.putfield 26, 3) := by decide +kernel
theorem dX2_init_56 : decode cX2_init 56 = .ok (.return_, 1) := by decide +kernel
set_option maxRecDepth 20000 in
theorem ggX2_empty_X5_cutTo : GoodIn wsX2_empty wsX5_cutTo := goodIn_r _ [9, 10, 15, 16] (by decide +kernel) (by decide +kernel)
set_option maxRecDepth 20000 in
theorem gX2_empty_X5_cutTo : GoodIn wsX2_empty (wsV RX2 29 RX5 yX5_cutTo wsX5_cutTo) := goodIn_app (goodIn_of _ (by decide +kernel)) ggX2_empty_X5_cutTo
theorem dX2_empty_0 : decode cX2_empty 0 = .ok (.aload_n 0, 1) := by decide +kernel
theorem dX2_empty_1 : decode cX2_empty 1 = .ok (.getfield 14, 3) := by decide +kernel
theorem dX2_empty_4 : decode cX2_empty 4 = .ok (.iconst 0, 1) := by decide +kernel
theorem dX2_empty_5 : decode cX2_empty 5 = .ok (.invokevirtual 29, 3) := by decide +kernel
theorem dX2_empty_8 : decode cX2_empty 8 = .ok (.aload_n 0, 1) := by decide +kernel
theorem dX2_empty_9 : decode cX2_empty 9 = .ok (.getfield 20, 3) := by decide +kernel
theorem dX2_empty_12 : decode cX2_empty 12 = .ok (.iconst 0, 1) := by decide +kernel
theorem dX2_empty_13 : decode cX2_empty 13 = .ok (.invokevirtual 29, 3) := by decide +kernel
theorem dX2_empty_16 : decode cX2_empty 16 = .ok (.aload_n 0, 1) := by decide +kernel
theorem dX2_empty_17 : decode cX2_empty 17 = .ok (.getfield 23, 3) := by decide +kernel
theorem dX2_empty_20 : decode cX2_empty 20 = .ok (.iconst 0, 1) := by decide +kernel
theorem dX2_empty_21 : decode cX2_empty 21 = .ok (.invokevirtual 29, 3) := by decide +kernel
theorem dX2_empty_24 : decode cX2_empty 24 = .ok (.aload_n 0, 1) := by decide +kernel
theorem dX2_empty_25 : decode cX2_empty 25 = .ok (.getfield 26, 3) := by decide +kernel
theorem dX2_empty_28 : decode cX2_empty 28 = .ok (.iconst 0, 1) := by decide +kernel
theorem dX2_empty_29 : decode cX2_empty 29 = .ok (.invokevirtual 29, 3) := by decide +kernel
theorem dX2_empty_32 : decode cX2_empty 32 = .ok (.return_, 1) := by decide +kernel
set_option maxRecDepth 20000 in
theorem ggX2_copyFrom_X5_copyFrom : GoodIn wsX2_copyFrom wsX5_copyFrom := goodIn_r _ [9, 10, 11, 16, 17] (by decide +kernel) (by decide +kernel)
set_option maxRecDepth 20000 in
theorem gX2_copyFrom_X5_copyFrom : GoodIn wsX2_copyFrom (wsV RX2 32 RX5 yX5_copyFrom wsX5_copyFrom) := goodIn_app (goodIn_of _ (by decide +kernel)) ggX2_copyFrom_X5_copyFrom
theorem dX2_copyFrom_0 : decode cX2_copyFrom 0 = .ok (.aload_n 0, 1) := by decide +kernel
theorem dX2_copyFrom_1 : decode cX2_copyFrom 1 = .ok (.getfield 14, 3) := by decide +kernel
theorem dX2_copyFrom_4 : decode cX2_copyFrom 4 = .ok (.aload_n 1, 1) := by decide +kernel
theorem dX2_copyFrom_5 : decode cX2_copyFrom 5 = .ok (.getfield 14, 3) := by decide +kernel
theorem dX2_copyFrom_8 : decode cX2_copyFrom 8 = .ok (.invokevirtual 32, 3) := by decide +kernel
theorem dX2_copyFrom_11 : decode cX2_copyFrom 11 = .ok (.aload_n 0, 1) := by decide +kernel
theorem dX2_copyFrom_12 : decode cX2_copyFrom 12 = .ok (.getfield 20, 3) := by decide +kernel
theorem dX2_copyFrom_15 : decode cX2_copyFrom 15 = .ok (.aload_n 1, 1) := by decide +kernel
theorem dX2_copyFrom_16 : decode cX2_copyFrom 16 = .ok (.getfield 20, 3) := by decide +kernel
theorem dX2_copyFrom_19 : decode cX2_copyFrom 19 = .ok (.invokevirtual 32, 3) := by decide +kernel
theorem dX2_copyFrom_22 : decode cX2_copyFrom 22 = .ok (.aload_n 0, 1) := by decide +kernel
theorem dX2_copyFrom_23 : decode cX2_copyFrom 23 = .ok (.getfield 23, 3) := by decide +kernel
theorem dX2_copyFrom_26 : decode cX2_copyFrom 26 = .ok (.aload_n 1, 1) := by decide +kernel
theorem dX2_copyFrom_27 : decode cX2_copyFrom 27 = .ok (.getfield 23, 3) := by decide +kernel
theorem dX2_copyFrom_30 : decode cX2_copyFrom 30 = .ok (.invokevirtual 32, 3) := by decide +kernel
theorem dX2_copyFrom_33 : decode cX2_copyFrom 33 = .ok (.aload_n 0, 1) := by decide +kernel
theorem dX2_copyFrom_34 : decode cX2_copyFrom 34 = .ok (.getfield 26, 3) := by decide +kernel
theorem dX2_copyFrom_37 : decode cX2_copyFrom 37 = .ok (.aload_n 1, 1) := by decide +kernel
theorem dX2_copyFrom_38 : decode cX2_copyFrom 38 = .ok (.getfield 26, 3) := by decide +kernel
theorem dX2_copyFrom_41 : decode cX2_copyFrom 41 = .ok (.invokevirtual 32, 3) := by decide +kernel
theorem dX2_copyFrom_44 : decode cX2_copyFrom 44 = .ok (.return_, 1) := by decide +kernel
set_option maxRecDepth 20000 in
theorem ggX2_hasNot_X5_used : GoodIn wsX2_hasNot wsX5_used := goodIn_r _ [6, 7, 15, 16] (by decide +kernel) (by decide +kernel)
set_option maxRecDepth 20000 in
theorem gX2_hasNot_X5_used : GoodIn wsX2_hasNot (wsV RX2 36 RX5 yX5_used wsX5_used) := goodIn_app (goodIn_of _ (by decide +kernel)) ggX2_hasNot_X5_used
set_option maxRecDepth 20000 in
theorem ggX2_hasNot_X8_isOutside : GoodIn wsX2_hasNot wsX8_isOutside := goodIn_r _ [10] (by decide +kernel) (by decide +kernel)
set_option maxRecDepth 20000 in
theorem gX2_hasNot_X8_isOutside_n40 : GoodIn wsX2_hasNot (wsX8_isOutside) := ggX2_hasNot_X8_isOutside
theorem dX2_hasNot_0 : decode cX2_hasNot 0 = .ok (.iload_n 1, 1) := by decide +kernel
theorem dX2_hasNot_1 : decode cX2_hasNot 1 = .ok (.iconst 0, 1) := by decide +kernel
theorem dX2_hasNot_2 : decode cX2_hasNot 2 = .ok (.aload_n 0, 1) := by decide +kernel
theorem dX2_hasNot_3 : decode cX2_hasNot 3 = .ok (.getfield 14, 3) := by decide +kernel
theorem dX2_hasNot_6 : decode cX2_hasNot 6 = .ok (.invokevirtual 36, 3) := by decide +kernel
theorem dX2_hasNot_9 : decode cX2_hasNot 9 = .ok (.iconst 1, 1) := by decide +kernel
theorem dX2_hasNot_10 : decode cX2_hasNot 10 = .ok (.isub, 1) := by decide +kernel
theorem dX2_hasNot_11 : decode cX2_hasNot 11 = .ok (.invokestatic 40, 3) := by decide +kernel
theorem dX2_hasNot_14 : decode cX2_hasNot 14 = .ok (.ireturn, 1) := by decide +kernel
set_option maxRecDepth 20000 in
theorem ggX2_take_X5_placeOf : GoodIn wsX2_take wsX5_placeOf := goodIn_r _ [13, 14, 15, 16, 17, 12, 18, 19, 20, 21, 22, 23, 42, 43] (by decide +kernel) (by decide +kernel)
set_option maxRecDepth 20000 in
theorem gX2_take_X5_placeOf : GoodIn wsX2_take (wsV RX2 44 RX5 yX5_placeOf wsX5_placeOf) := goodIn_app (goodIn_of _ (by decide +kernel)) ggX2_take_X5_placeOf
set_option maxRecDepth 20000 in
theorem ggX2_take_X5_add : GoodIn wsX2_take wsX5_add := goodIn_r _ [27, 15, 16, 17, 12, 18, 19, 20, 21, 22, 23, 14, 28, 29, 30, 31, 42, 43] (by decide +kernel) (by decide +kernel)
set_option maxRecDepth 20000 in
theorem gX2_take_X5_add : GoodIn wsX2_take (wsV RX2 48 RX5 yX5_add wsX5_add) := goodIn_app (goodIn_of _ (by decide +kernel)) ggX2_take_X5_add
set_option maxRecDepth 20000 in
theorem ggX2_take_X5_get : GoodIn wsX2_take wsX5_get := goodIn_r _ [18, 19, 20, 21, 22, 12, 23, 14, 42, 43] (by decide +kernel) (by decide +kernel)
set_option maxRecDepth 20000 in
theorem gX2_take_X5_get : GoodIn wsX2_take (wsV RX2 52 RX5 yX5_get wsX5_get) := goodIn_app (goodIn_of _ (by decide +kernel)) ggX2_take_X5_get
set_option maxRecDepth 20000 in
theorem ggX2_take_X5_set : GoodIn wsX2_take wsX5_set := goodIn_r _ [31, 19, 20, 21, 22, 12, 23, 14, 42, 43] (by decide +kernel) (by decide +kernel)
set_option maxRecDepth 20000 in
theorem gX2_take_X5_set : GoodIn wsX2_take (wsV RX2 61 RX5 yX5_set wsX5_set) := goodIn_app (goodIn_of _ (by decide +kernel)) ggX2_take_X5_set
set_option maxRecDepth 20000 in
theorem ggX2_take_X5_append : GoodIn wsX2_take wsX5_append := goodIn_r _ [37, 14, 19, 42, 43] (by decide +kernel) (by decide +kernel)
set_option maxRecDepth 20000 in
theorem gX2_take_X5_append : GoodIn wsX2_take (wsV RX2 64 RX5 yX5_append wsX5_append) := goodIn_app (goodIn_of _ (by decide +kernel)) ggX2_take_X5_append
theorem dX2_take_0 : decode cX2_take 0 = .ok (.aload_n 0, 1) := by decide +kernel
theorem dX2_take_1 : decode cX2_take 1 = .ok (.getfield 14, 3) := by decide +kernel
theorem dX2_take_4 : decode cX2_take 4 = .ok (.iload_n 1, 1) := by decide +kernel
theorem dX2_take_5 : decode cX2_take 5 = .ok (.invokevirtual 44, 3) := by decide +kernel
theorem dX2_take_8 : decode cX2_take 8 = .ok (.istore_n 3, 1) := by decide +kernel
theorem dX2_take_9 : decode cX2_take 9 = .ok (.iload_n 3, 1) := by decide +kernel
theorem dX2_take_10 : decode cX2_take 10 = .ok (.ifCond .lt 34, 3) := by decide +kernel
theorem dX2_take_13 : decode cX2_take 13 = .ok (.aload_n 0, 1) := by decide +kernel
theorem dX2_take_14 : decode cX2_take 14 = .ok (.getfield 23, 3) := by decide +kernel
theorem dX2_take_17 : decode cX2_take 17 = .ok (.iload_n 3, 1) := by decide +kernel
theorem dX2_take_18 : decode cX2_take 18 = .ok (.iconst 1, 1) := by decide +kernel
theorem dX2_take_19 : decode cX2_take 19 = .ok (.invokevirtual 48, 3) := by decide +kernel
theorem dX2_take_22 : decode cX2_take 22 = .ok (.aload_n 0, 1) := by decide +kernel
theorem dX2_take_23 : decode cX2_take 23 = .ok (.getfield 26, 3) := by decide +kernel
theorem dX2_take_26 : decode cX2_take 26 = .ok (.iload_n 3, 1) := by decide +kernel
theorem dX2_take_27 : decode cX2_take 27 = .ok (.aload_n 0, 1) := by decide +kernel
theorem dX2_take_28 : decode cX2_take 28 = .ok (.getfield 26, 3) := by decide +kernel
theorem dX2_take_31 : decode cX2_take 31 = .ok (.iload_n 3, 1) := by decide +kernel
theorem dX2_take_32 : decode cX2_take 32 = .ok (.invokevirtual 52, 3) := by decide +kernel
theorem dX2_take_35 : decode cX2_take 35 = .ok (.iload_n 2, 1) := by decide +kernel
theorem dX2_take_36 : decode cX2_take 36 = .ok (.invokestatic 55, 3) := by decide +kernel
theorem dX2_take_39 : decode cX2_take 39 = .ok (.invokevirtual 61, 3) := by decide +kernel
theorem dX2_take_42 : decode cX2_take 42 = .ok (.iconst 1, 1) := by decide +kernel
theorem dX2_take_43 : decode cX2_take 43 = .ok (.ireturn, 1) := by decide +kernel
theorem dX2_take_44 : decode cX2_take 44 = .ok (.aload_n 0, 1) := by decide +kernel
theorem dX2_take_45 : decode cX2_take 45 = .ok (.getfield 14, 3) := by decide +kernel
theorem dX2_take_48 : decode cX2_take 48 = .ok (.iload_n 1, 1) := by decide +kernel
theorem dX2_take_49 : decode cX2_take 49 = .ok (.invokevirtual 64, 3) := by decide +kernel
theorem dX2_take_52 : decode cX2_take 52 = .ok (.aload_n 0, 1) := by decide +kernel
theorem dX2_take_53 : decode cX2_take 53 = .ok (.getfield 20, 3) := by decide +kernel
theorem dX2_take_56 : decode cX2_take 56 = .ok (.iconst 0, 1) := by decide +kernel
theorem dX2_take_57 : decode cX2_take 57 = .ok (.invokevirtual 64, 3) := by decide +kernel
theorem dX2_take_60 : decode cX2_take 60 = .ok (.aload_n 0, 1) := by decide +kernel
theorem dX2_take_61 : decode cX2_take 61 = .ok (.getfield 23, 3) := by decide +kernel
theorem dX2_take_64 : decode cX2_take 64 = .ok (.iconst 1, 1) := by decide +kernel
theorem dX2_take_65 : decode cX2_take 65 = .ok (.invokevirtual 64, 3) := by decide +kernel
theorem dX2_take_68 : decode cX2_take 68 = .ok (.aload_n 0, 1) := by decide +kernel
theorem dX2_take_69 : decode cX2_take 69 = .ok (.getfield 26, 3) := by decide +kernel
theorem dX2_take_72 : decode cX2_take 72 = .ok (.iload_n 2, 1) := by decide +kernel
theorem dX2_take_73 : decode cX2_take 73 = .ok (.invokevirtual 64, 3) := by decide +kernel
theorem dX2_take_76 : decode cX2_take 76 = .ok (.iconst 0, 1) := by decide +kernel
theorem dX2_take_77 : decode cX2_take 77 = .ok (.ireturn, 1) := by decide +kernel
set_option maxRecDepth 20000 in
theorem ggX2_howManyAreOpen_X5_used : GoodIn wsX2_howManyAreOpen wsX5_used := goodIn_r _ [6, 7, 21, 22] (by decide +kernel) (by decide +kernel)
set_option maxRecDepth 20000 in
theorem gX2_howManyAreOpen_X5_used : GoodIn wsX2_howManyAreOpen (wsV RX2 36 RX5 yX5_used wsX5_used) := goodIn_app (goodIn_of _ (by decide +kernel)) ggX2_howManyAreOpen_X5_used
set_option maxRecDepth 20000 in
theorem ggX2_howManyAreOpen_X5_get : GoodIn wsX2_howManyAreOpen wsX5_get := goodIn_r _ [11, 12, 13, 14, 15, 5, 16, 7, 21, 22] (by decide +kernel) (by decide +kernel)
set_option maxRecDepth 20000 in
theorem gX2_howManyAreOpen_X5_get : GoodIn wsX2_howManyAreOpen (wsV RX2 52 RX5 yX5_get wsX5_get) := goodIn_app (goodIn_of _ (by decide +kernel)) ggX2_howManyAreOpen_X5_get
theorem dX2_howManyAreOpen_0 : decode cX2_howManyAreOpen 0 = .ok (.iconst 0, 1) := by decide +kernel
theorem dX2_howManyAreOpen_1 : decode cX2_howManyAreOpen 1 = .ok (.istore_n 1, 1) := by decide +kernel
theorem dX2_howManyAreOpen_2 : decode cX2_howManyAreOpen 2 = .ok (.iconst 0, 1) := by decide +kernel
theorem dX2_howManyAreOpen_3 : decode cX2_howManyAreOpen 3 = .ok (.istore_n 2, 1) := by decide +kernel
theorem dX2_howManyAreOpen_4 : decode cX2_howManyAreOpen 4 = .ok (.iload_n 2, 1) := by decide +kernel
theorem dX2_howManyAreOpen_5 : decode cX2_howManyAreOpen 5 = .ok (.aload_n 0, 1) := by decide +kernel
theorem dX2_howManyAreOpen_6 : decode cX2_howManyAreOpen 6 = .ok (.getfield 20, 3) := by decide +kernel
theorem dX2_howManyAreOpen_9 : decode cX2_howManyAreOpen 9 = .ok (.invokevirtual 36, 3) := by decide +kernel
theorem dX2_howManyAreOpen_12 : decode cX2_howManyAreOpen 12 = .ok (.if_icmp .ge 23, 3) := by decide +kernel
theorem dX2_howManyAreOpen_15 : decode cX2_howManyAreOpen 15 = .ok (.aload_n 0, 1) := by decide +kernel
theorem dX2_howManyAreOpen_16 : decode cX2_howManyAreOpen 16 = .ok (.getfield 20, 3) := by decide +kernel
theorem dX2_howManyAreOpen_19 : decode cX2_howManyAreOpen 19 = .ok (.iload_n 2, 1) := by decide +kernel
theorem dX2_howManyAreOpen_20 : decode cX2_howManyAreOpen 20 = .ok (.invokevirtual 52, 3) := by decide +kernel
theorem dX2_howManyAreOpen_23 : decode cX2_howManyAreOpen 23 = .ok (.ifCond .ne 6, 3) := by decide +kernel
theorem dX2_howManyAreOpen_26 : decode cX2_howManyAreOpen 26 = .ok (.iinc 1 1, 3) := by decide +kernel
theorem dX2_howManyAreOpen_29 : decode cX2_howManyAreOpen 29 = .ok (.iinc 2 1, 3) := by decide +kernel
theorem dX2_howManyAreOpen_32 : decode cX2_howManyAreOpen 32 = .ok (.goto (-28), 3) := by decide +kernel
theorem dX2_howManyAreOpen_35 : decode cX2_howManyAreOpen 35 = .ok (.iload_n 1, 1) := by decide +kernel
theorem dX2_howManyAreOpen_36 : decode cX2_howManyAreOpen 36 = .ok (.ireturn, 1) := by decide +kernel
set_option maxRecDepth 20000 in
theorem ggX2_howManyOppose_X5_used : GoodIn wsX2_howManyOppose wsX5_used := goodIn_r _ [6, 7, 37, 38] (by decide +kernel) (by decide +kernel)
set_option maxRecDepth 20000 in
theorem gX2_howManyOppose_X5_used : GoodIn wsX2_howManyOppose (wsV RX2 36 RX5 yX5_used wsX5_used) := goodIn_app (goodIn_of _ (by decide +kernel)) ggX2_howManyOppose_X5_used
set_option maxRecDepth 20000 in
theorem ggX2_howManyOppose_X5_get : GoodIn wsX2_howManyOppose wsX5_get := goodIn_r _ [11, 12, 13, 14, 15, 5, 16, 7, 37, 38] (by decide +kernel) (by decide +kernel)
set_option maxRecDepth 20000 in
theorem gX2_howManyOppose_X5_get : GoodIn wsX2_howManyOppose (wsV RX2 52 RX5 yX5_get wsX5_get) := goodIn_app (goodIn_of _ (by decide +kernel)) ggX2_howManyOppose_X5_get
set_option maxRecDepth 20000 in
theorem ggX2_howManyOppose_X1_areOpposed : GoodIn wsX2_howManyOppose wsX1_areOpposed := goodIn_r _ [20, 21, 22, 19, 23, 24, 25, 26, 27, 28, 29, 30, 31, 32] (by decide +kernel) (by decide +kernel)
set_option maxRecDepth 20000 in
theorem gX2_howManyOppose_X1_areOpposed : GoodIn wsX2_howManyOppose (va_wsS RX2 67 yX1_areOpposed wsX1_areOpposed) := goodIn_app (goodIn_of _ (by decide +kernel)) ggX2_howManyOppose_X1_areOpposed
theorem dX2_howManyOppose_0 : decode cX2_howManyOppose 0 = .ok (.iconst 0, 1) := by decide +kernel
theorem dX2_howManyOppose_1 : decode cX2_howManyOppose 1 = .ok (.istore_n 2, 1) := by decide +kernel
theorem dX2_howManyOppose_2 : decode cX2_howManyOppose 2 = .ok (.iconst 0, 1) := by decide +kernel
theorem dX2_howManyOppose_3 : decode cX2_howManyOppose 3 = .ok (.istore_n 3, 1) := by decide +kernel
theorem dX2_howManyOppose_4 : decode cX2_howManyOppose 4 = .ok (.iload_n 3, 1) := by decide +kernel
theorem dX2_howManyOppose_5 : decode cX2_howManyOppose 5 = .ok (.aload_n 0, 1) := by decide +kernel
theorem dX2_howManyOppose_6 : decode cX2_howManyOppose 6 = .ok (.getfield 14, 3) := by decide +kernel
theorem dX2_howManyOppose_9 : decode cX2_howManyOppose 9 = .ok (.invokevirtual 36, 3) := by decide +kernel
theorem dX2_howManyOppose_12 : decode cX2_howManyOppose 12 = .ok (.if_icmp .ge 27, 3) := by decide +kernel
theorem dX2_howManyOppose_15 : decode cX2_howManyOppose 15 = .ok (.iload_n 1, 1) := by decide +kernel
theorem dX2_howManyOppose_16 : decode cX2_howManyOppose 16 = .ok (.aload_n 0, 1) := by decide +kernel
theorem dX2_howManyOppose_17 : decode cX2_howManyOppose 17 = .ok (.getfield 14, 3) := by decide +kernel
theorem dX2_howManyOppose_20 : decode cX2_howManyOppose 20 = .ok (.iload_n 3, 1) := by decide +kernel
theorem dX2_howManyOppose_21 : decode cX2_howManyOppose 21 = .ok (.invokevirtual 52, 3) := by decide +kernel
theorem dX2_howManyOppose_24 : decode cX2_howManyOppose 24 = .ok (.invokestatic 67, 3) := by decide +kernel
theorem dX2_howManyOppose_27 : decode cX2_howManyOppose 27 = .ok (.ifCond .eq 6, 3) := by decide +kernel
theorem dX2_howManyOppose_30 : decode cX2_howManyOppose 30 = .ok (.iinc 2 1, 3) := by decide +kernel
theorem dX2_howManyOppose_33 : decode cX2_howManyOppose 33 = .ok (.iinc 3 1, 3) := by decide +kernel
theorem dX2_howManyOppose_36 : decode cX2_howManyOppose 36 = .ok (.goto (-32), 3) := by decide +kernel
theorem dX2_howManyOppose_39 : decode cX2_howManyOppose 39 = .ok (.iload_n 2, 1) := by decide +kernel
theorem dX2_howManyOppose_40 : decode cX2_howManyOppose 40 = .ok (.ireturn, 1) := by decide +kernel
set_option maxRecDepth 20000 in
theorem ggX2_opposedPairs_X5_used : GoodIn wsX2_opposedPairs wsX5_used := goodIn_r _ [6, 7, 42, 43] (by decide +kernel) (by decide +kernel)
set_option maxRecDepth 20000 in
theorem gX2_opposedPairs_X5_used : GoodIn wsX2_opposedPairs (wsV RX2 36 RX5 yX5_used wsX5_used) := goodIn_app (goodIn_of _ (by decide +kernel)) ggX2_opposedPairs_X5_used
set_option maxRecDepth 20000 in
theorem ggX2_opposedPairs_X5_get : GoodIn wsX2_opposedPairs wsX5_get := goodIn_r _ [11, 12, 13, 14, 15, 5, 16, 7, 42, 43] (by decide +kernel) (by decide +kernel)
set_option maxRecDepth 20000 in
theorem gX2_opposedPairs_X5_get : GoodIn wsX2_opposedPairs (wsV RX2 52 RX5 yX5_get wsX5_get) := goodIn_app (goodIn_of _ (by decide +kernel)) ggX2_opposedPairs_X5_get
set_option maxRecDepth 20000 in
theorem ggX2_opposedPairs_X2_howManyOppose : GoodIn wsX2_opposedPairs wsX2_howManyOppose := goodIn_r _ [21, 1, 2, 3, 4, 5, 6, 7, 8, 9, 10, 11, 12, 13, 14, 15, 16, 22, 23, 24, 25, 26, 27, 28, 29, 30, 31, 32, 33, 34, 35, 36, 37, 38, 39, 40, 41, 42, 43] (by decide +kernel) (by decide +kernel)
set_option maxRecDepth 20000 in
theorem gX2_opposedPairs_X2_howManyOppose : GoodIn wsX2_opposedPairs (wsV RX2 73 RX2 yX2_howManyOppose wsX2_howManyOppose) := goodIn_app (goodIn_of _ (by decide +kernel)) ggX2_opposedPairs_X2_howManyOppose
theorem dX2_opposedPairs_0 : decode cX2_opposedPairs 0 = .ok (.iconst 0, 1) := by decide +kernel
theorem dX2_opposedPairs_1 : decode cX2_opposedPairs 1 = .ok (.istore_n 1, 1) := by decide +kernel
theorem dX2_opposedPairs_2 : decode cX2_opposedPairs 2 = .ok (.iconst 0, 1) := by decide +kernel
theorem dX2_opposedPairs_3 : decode cX2_opposedPairs 3 = .ok (.istore_n 2, 1) := by decide +kernel
theorem dX2_opposedPairs_4 : decode cX2_opposedPairs 4 = .ok (.iload_n 2, 1) := by decide +kernel
theorem dX2_opposedPairs_5 : decode cX2_opposedPairs 5 = .ok (.aload_n 0, 1) := by decide +kernel
theorem dX2_opposedPairs_6 : decode cX2_opposedPairs 6 = .ok (.getfield 14, 3) := by decide +kernel
theorem dX2_opposedPairs_9 : decode cX2_opposedPairs 9 = .ok (.invokevirtual 36, 3) := by decide +kernel
theorem dX2_opposedPairs_12 : decode cX2_opposedPairs 12 = .ok (.if_icmp .ge 24, 3) := by decide +kernel
theorem dX2_opposedPairs_15 : decode cX2_opposedPairs 15 = .ok (.iload_n 1, 1) := by decide +kernel
theorem dX2_opposedPairs_16 : decode cX2_opposedPairs 16 = .ok (.aload_n 0, 1) := by decide +kernel
theorem dX2_opposedPairs_17 : decode cX2_opposedPairs 17 = .ok (.aload_n 0, 1) := by decide +kernel
theorem dX2_opposedPairs_18 : decode cX2_opposedPairs 18 = .ok (.getfield 14, 3) := by decide +kernel
theorem dX2_opposedPairs_21 : decode cX2_opposedPairs 21 = .ok (.iload_n 2, 1) := by decide +kernel
theorem dX2_opposedPairs_22 : decode cX2_opposedPairs 22 = .ok (.invokevirtual 52, 3) := by decide +kernel
theorem dX2_opposedPairs_25 : decode cX2_opposedPairs 25 = .ok (.invokevirtual 73, 3) := by decide +kernel
theorem dX2_opposedPairs_28 : decode cX2_opposedPairs 28 = .ok (.iadd, 1) := by decide +kernel
theorem dX2_opposedPairs_29 : decode cX2_opposedPairs 29 = .ok (.istore_n 1, 1) := by decide +kernel
theorem dX2_opposedPairs_30 : decode cX2_opposedPairs 30 = .ok (.iinc 2 1, 3) := by decide +kernel
theorem dX2_opposedPairs_33 : decode cX2_opposedPairs 33 = .ok (.goto (-29), 3) := by decide +kernel
theorem dX2_opposedPairs_36 : decode cX2_opposedPairs 36 = .ok (.iload_n 1, 1) := by decide +kernel
theorem dX2_opposedPairs_37 : decode cX2_opposedPairs 37 = .ok (.iconst 2, 1) := by decide +kernel
theorem dX2_opposedPairs_38 : decode cX2_opposedPairs 38 = .ok (.idiv, 1) := by decide +kernel
theorem dX2_opposedPairs_39 : decode cX2_opposedPairs 39 = .ok (.ireturn, 1) := by decide +kernel
set_option maxRecDepth 20000 in
theorem ggX2_meetsAnAccepted_X5_used : GoodIn wsX2_meetsAnAccepted wsX5_used := goodIn_r _ [7, 8, 38, 39] (by decide +kernel) (by decide +kernel)
set_option maxRecDepth 20000 in
theorem gX2_meetsAnAccepted_X5_used : GoodIn wsX2_meetsAnAccepted (wsV RX2 36 RX5 yX5_used wsX5_used) := goodIn_app (goodIn_of _ (by decide +kernel)) ggX2_meetsAnAccepted_X5_used
set_option maxRecDepth 20000 in
theorem ggX2_meetsAnAccepted_X5_get : GoodIn wsX2_meetsAnAccepted wsX5_get := goodIn_r _ [12, 13, 14, 15, 16, 6, 17, 8, 38, 39] (by decide +kernel) (by decide +kernel)
set_option maxRecDepth 20000 in
theorem gX2_meetsAnAccepted_X5_get : GoodIn wsX2_meetsAnAccepted (wsV RX2 52 RX5 yX5_get wsX5_get) := goodIn_app (goodIn_of _ (by decide +kernel)) ggX2_meetsAnAccepted_X5_get
set_option maxRecDepth 20000 in
theorem ggX2_meetsAnAccepted_X1_areOpposed : GoodIn wsX2_meetsAnAccepted wsX1_areOpposed := goodIn_r _ [21, 22, 23, 20, 24, 25, 26, 27, 28, 29, 30, 31, 32, 33] (by decide +kernel) (by decide +kernel)
set_option maxRecDepth 20000 in
theorem gX2_meetsAnAccepted_X1_areOpposed : GoodIn wsX2_meetsAnAccepted (va_wsS RX2 67 yX1_areOpposed wsX1_areOpposed) := goodIn_app (goodIn_of _ (by decide +kernel)) ggX2_meetsAnAccepted_X1_areOpposed
theorem dX2_meetsAnAccepted_0 : decode cX2_meetsAnAccepted 0 = .ok (.iconst 0, 1) := by decide +kernel
theorem dX2_meetsAnAccepted_1 : decode cX2_meetsAnAccepted 1 = .ok (.istore_n 2, 1) := by decide +kernel
theorem dX2_meetsAnAccepted_2 : decode cX2_meetsAnAccepted 2 = .ok (.iload_n 2, 1) := by decide +kernel
theorem dX2_meetsAnAccepted_3 : decode cX2_meetsAnAccepted 3 = .ok (.aload_n 0, 1) := by decide +kernel
theorem dX2_meetsAnAccepted_4 : decode cX2_meetsAnAccepted 4 = .ok (.getfield 14, 3) := by decide +kernel
theorem dX2_meetsAnAccepted_7 : decode cX2_meetsAnAccepted 7 = .ok (.invokevirtual 36, 3) := by decide +kernel
theorem dX2_meetsAnAccepted_10 : decode cX2_meetsAnAccepted 10 = .ok (.if_icmp .ge 38, 3) := by decide +kernel
theorem dX2_meetsAnAccepted_13 : decode cX2_meetsAnAccepted 13 = .ok (.aload_n 0, 1) := by decide +kernel
theorem dX2_meetsAnAccepted_14 : decode cX2_meetsAnAccepted 14 = .ok (.getfield 20, 3) := by decide +kernel
theorem dX2_meetsAnAccepted_17 : decode cX2_meetsAnAccepted 17 = .ok (.iload_n 2, 1) := by decide +kernel
theorem dX2_meetsAnAccepted_18 : decode cX2_meetsAnAccepted 18 = .ok (.invokevirtual 52, 3) := by decide +kernel
theorem dX2_meetsAnAccepted_21 : decode cX2_meetsAnAccepted 21 = .ok (.iconst 1, 1) := by decide +kernel
theorem dX2_meetsAnAccepted_22 : decode cX2_meetsAnAccepted 22 = .ok (.if_icmp .ne 20, 3) := by decide +kernel
theorem dX2_meetsAnAccepted_25 : decode cX2_meetsAnAccepted 25 = .ok (.iload_n 1, 1) := by decide +kernel
theorem dX2_meetsAnAccepted_26 : decode cX2_meetsAnAccepted 26 = .ok (.aload_n 0, 1) := by decide +kernel
theorem dX2_meetsAnAccepted_27 : decode cX2_meetsAnAccepted 27 = .ok (.getfield 14, 3) := by decide +kernel
theorem dX2_meetsAnAccepted_30 : decode cX2_meetsAnAccepted 30 = .ok (.iload_n 2, 1) := by decide +kernel
theorem dX2_meetsAnAccepted_31 : decode cX2_meetsAnAccepted 31 = .ok (.invokevirtual 52, 3) := by decide +kernel
theorem dX2_meetsAnAccepted_34 : decode cX2_meetsAnAccepted 34 = .ok (.invokestatic 67, 3) := by decide +kernel
theorem dX2_meetsAnAccepted_37 : decode cX2_meetsAnAccepted 37 = .ok (.ifCond .eq 5, 3) := by decide +kernel
theorem dX2_meetsAnAccepted_40 : decode cX2_meetsAnAccepted 40 = .ok (.iconst 1, 1) := by decide +kernel
theorem dX2_meetsAnAccepted_41 : decode cX2_meetsAnAccepted 41 = .ok (.ireturn, 1) := by decide +kernel
theorem dX2_meetsAnAccepted_42 : decode cX2_meetsAnAccepted 42 = .ok (.iinc 2 1, 3) := by decide +kernel
theorem dX2_meetsAnAccepted_45 : decode cX2_meetsAnAccepted 45 = .ok (.goto (-43), 3) := by decide +kernel
theorem dX2_meetsAnAccepted_48 : decode cX2_meetsAnAccepted 48 = .ok (.iconst 0, 1) := by decide +kernel
theorem dX2_meetsAnAccepted_49 : decode cX2_meetsAnAccepted 49 = .ok (.ireturn, 1) := by decide +kernel
set_option maxRecDepth 20000 in
theorem ggX2_canBeAccepted_X5_get : GoodIn wsX2_canBeAccepted wsX5_get := goodIn_r _ [7, 8, 9, 10, 11, 6, 12, 13, 43, 44] (by decide +kernel) (by decide +kernel)
set_option maxRecDepth 20000 in
theorem gX2_canBeAccepted_X5_get : GoodIn wsX2_canBeAccepted (wsV RX2 52 RX5 yX5_get wsX5_get) := goodIn_app (goodIn_of _ (by decide +kernel)) ggX2_canBeAccepted_X5_get
set_option maxRecDepth 20000 in
theorem ggX2_canBeAccepted_X2_meetsAnAccepted : GoodIn wsX2_canBeAccepted wsX2_meetsAnAccepted := goodIn_r _ [18, 2, 1, 19, 20, 21, 6, 22, 13, 3, 4, 5, 7, 8, 9, 10, 11, 12, 23, 24, 25, 26, 27, 28, 29, 30, 31, 32, 33, 34, 35, 36, 37, 38, 39, 40, 41, 42, 43, 44] (by decide +kernel) (by decide +kernel)
set_option maxRecDepth 20000 in
theorem gX2_canBeAccepted_X2_meetsAnAccepted : GoodIn wsX2_canBeAccepted (wsV RX2 76 RX2 yX2_meetsAnAccepted wsX2_meetsAnAccepted) := goodIn_app (goodIn_of _ (by decide +kernel)) ggX2_canBeAccepted_X2_meetsAnAccepted
theorem dX2_canBeAccepted_0 : decode cX2_canBeAccepted 0 = .ok (.aload_n 0, 1) := by decide +kernel
theorem dX2_canBeAccepted_1 : decode cX2_canBeAccepted 1 = .ok (.getfield 20, 3) := by decide +kernel
theorem dX2_canBeAccepted_4 : decode cX2_canBeAccepted 4 = .ok (.iload_n 1, 1) := by decide +kernel
theorem dX2_canBeAccepted_5 : decode cX2_canBeAccepted 5 = .ok (.invokevirtual 52, 3) := by decide +kernel
theorem dX2_canBeAccepted_8 : decode cX2_canBeAccepted 8 = .ok (.ifCond .ne 22, 3) := by decide +kernel
theorem dX2_canBeAccepted_11 : decode cX2_canBeAccepted 11 = .ok (.aload_n 0, 1) := by decide +kernel
theorem dX2_canBeAccepted_12 : decode cX2_canBeAccepted 12 = .ok (.aload_n 0, 1) := by decide +kernel
theorem dX2_canBeAccepted_13 : decode cX2_canBeAccepted 13 = .ok (.getfield 14, 3) := by decide +kernel
theorem dX2_canBeAccepted_16 : decode cX2_canBeAccepted 16 = .ok (.iload_n 1, 1) := by decide +kernel
theorem dX2_canBeAccepted_17 : decode cX2_canBeAccepted 17 = .ok (.invokevirtual 52, 3) := by decide +kernel
theorem dX2_canBeAccepted_20 : decode cX2_canBeAccepted 20 = .ok (.invokevirtual 76, 3) := by decide +kernel
theorem dX2_canBeAccepted_23 : decode cX2_canBeAccepted 23 = .ok (.ifCond .ne 7, 3) := by decide +kernel
theorem dX2_canBeAccepted_26 : decode cX2_canBeAccepted 26 = .ok (.iconst 1, 1) := by decide +kernel
theorem dX2_canBeAccepted_27 : decode cX2_canBeAccepted 27 = .ok (.goto 4, 3) := by decide +kernel
theorem dX2_canBeAccepted_30 : decode cX2_canBeAccepted 30 = .ok (.iconst 0, 1) := by decide +kernel
theorem dX2_canBeAccepted_31 : decode cX2_canBeAccepted 31 = .ok (.ireturn, 1) := by decide +kernel
set_option maxRecDepth 20000 in
theorem ggX2_howManyAreListed_X5_used : GoodIn wsX2_howManyAreListed wsX5_used := goodIn_r _ [6, 7, 26, 27] (by decide +kernel) (by decide +kernel)
set_option maxRecDepth 20000 in
theorem gX2_howManyAreListed_X5_used : GoodIn wsX2_howManyAreListed (wsV RX2 36 RX5 yX5_used wsX5_used) := goodIn_app (goodIn_of _ (by decide +kernel)) ggX2_howManyAreListed_X5_used
set_option maxRecDepth 20000 in
theorem ggX2_howManyAreListed_X5_get : GoodIn wsX2_howManyAreListed wsX5_get := goodIn_r _ [11, 12, 13, 14, 15, 5, 16, 7, 26, 27] (by decide +kernel) (by decide +kernel)
set_option maxRecDepth 20000 in
theorem gX2_howManyAreListed_X5_get : GoodIn wsX2_howManyAreListed (wsV RX2 52 RX5 yX5_get wsX5_get) := goodIn_app (goodIn_of _ (by decide +kernel)) ggX2_howManyAreListed_X5_get
set_option maxRecDepth 20000 in
theorem ggX2_howManyAreListed_X5_placeOf : GoodIn wsX2_howManyAreListed wsX5_placeOf := goodIn_r _ [20, 7, 21, 9, 10, 5, 11, 12, 13, 14, 15, 16, 26, 27] (by decide +kernel) (by decide +kernel)
set_option maxRecDepth 20000 in
theorem gX2_howManyAreListed_X5_placeOf : GoodIn wsX2_howManyAreListed (wsV RX2 44 RX5 yX5_placeOf wsX5_placeOf) := goodIn_app (goodIn_of _ (by decide +kernel)) ggX2_howManyAreListed_X5_placeOf
theorem dX2_howManyAreListed_0 : decode cX2_howManyAreListed 0 = .ok (.iconst 0, 1) := by decide +kernel
theorem dX2_howManyAreListed_1 : decode cX2_howManyAreListed 1 = .ok (.istore_n 2, 1) := by decide +kernel
theorem dX2_howManyAreListed_2 : decode cX2_howManyAreListed 2 = .ok (.iconst 0, 1) := by decide +kernel
theorem dX2_howManyAreListed_3 : decode cX2_howManyAreListed 3 = .ok (.istore_n 3, 1) := by decide +kernel
theorem dX2_howManyAreListed_4 : decode cX2_howManyAreListed 4 = .ok (.iload_n 3, 1) := by decide +kernel
theorem dX2_howManyAreListed_5 : decode cX2_howManyAreListed 5 = .ok (.aload_n 1, 1) := by decide +kernel
theorem dX2_howManyAreListed_6 : decode cX2_howManyAreListed 6 = .ok (.invokevirtual 36, 3) := by decide +kernel
theorem dX2_howManyAreListed_9 : decode cX2_howManyAreListed 9 = .ok (.if_icmp .ge 27, 3) := by decide +kernel
theorem dX2_howManyAreListed_12 : decode cX2_howManyAreListed 12 = .ok (.aload_n 0, 1) := by decide +kernel
theorem dX2_howManyAreListed_13 : decode cX2_howManyAreListed 13 = .ok (.getfield 14, 3) := by decide +kernel
theorem dX2_howManyAreListed_16 : decode cX2_howManyAreListed 16 = .ok (.aload_n 1, 1) := by decide +kernel
theorem dX2_howManyAreListed_17 : decode cX2_howManyAreListed 17 = .ok (.iload_n 3, 1) := by decide +kernel
theorem dX2_howManyAreListed_18 : decode cX2_howManyAreListed 18 = .ok (.invokevirtual 52, 3) := by decide +kernel
theorem dX2_howManyAreListed_21 : decode cX2_howManyAreListed 21 = .ok (.invokevirtual 44, 3) := by decide +kernel
theorem dX2_howManyAreListed_24 : decode cX2_howManyAreListed 24 = .ok (.ifCond .lt 6, 3) := by decide +kernel
theorem dX2_howManyAreListed_27 : decode cX2_howManyAreListed 27 = .ok (.iinc 2 1, 3) := by decide +kernel
theorem dX2_howManyAreListed_30 : decode cX2_howManyAreListed 30 = .ok (.iinc 3 1, 3) := by decide +kernel
theorem dX2_howManyAreListed_33 : decode cX2_howManyAreListed 33 = .ok (.goto (-29), 3) := by decide +kernel
theorem dX2_howManyAreListed_36 : decode cX2_howManyAreListed 36 = .ok (.iload_n 2, 1) := by decide +kernel
theorem dX2_howManyAreListed_37 : decode cX2_howManyAreListed 37 = .ok (.ireturn, 1) := by decide +kernel
set_option maxRecDepth 20000 in
theorem ggX2_howManyMeetAnAccepted_X5_used : GoodIn wsX2_howManyMeetAnAccepted wsX5_used := goodIn_r _ [5, 6, 39, 40] (by decide +kernel) (by decide +kernel)
set_option maxRecDepth 20000 in
theorem gX2_howManyMeetAnAccepted_X5_used : GoodIn wsX2_howManyMeetAnAccepted (wsV RX2 36 RX5 yX5_used wsX5_used) := goodIn_app (goodIn_of _ (by decide +kernel)) ggX2_howManyMeetAnAccepted_X5_used
set_option maxRecDepth 20000 in
theorem ggX2_howManyMeetAnAccepted_X5_get : GoodIn wsX2_howManyMeetAnAccepted wsX5_get := goodIn_r _ [10, 11, 12, 13, 14, 4, 15, 6, 39, 40] (by decide +kernel) (by decide +kernel)
set_option maxRecDepth 20000 in
theorem gX2_howManyMeetAnAccepted_X5_get : GoodIn wsX2_howManyMeetAnAccepted (wsV RX2 52 RX5 yX5_get wsX5_get) := goodIn_app (goodIn_of _ (by decide +kernel)) ggX2_howManyMeetAnAccepted_X5_get
set_option maxRecDepth 20000 in
theorem ggX2_howManyMeetAnAccepted_X2_meetsAnAccepted : GoodIn wsX2_howManyMeetAnAccepted wsX2_meetsAnAccepted := goodIn_r _ [20, 21, 22, 1, 2, 3, 4, 5, 6, 7, 8, 9, 10, 11, 12, 13, 14, 15, 23, 24, 25, 26, 27, 28, 29, 30, 31, 32, 33, 34, 35, 36, 37, 38, 41, 42, 43, 44, 39, 40] (by decide +kernel) (by decide +kernel)
set_option maxRecDepth 20000 in
theorem gX2_howManyMeetAnAccepted_X2_meetsAnAccepted : GoodIn wsX2_howManyMeetAnAccepted (wsV RX2 76 RX2 yX2_meetsAnAccepted wsX2_meetsAnAccepted) := goodIn_app (goodIn_of _ (by decide +kernel)) ggX2_howManyMeetAnAccepted_X2_meetsAnAccepted
theorem dX2_howManyMeetAnAccepted_0 : decode cX2_howManyMeetAnAccepted 0 = .ok (.iconst 0, 1) := by decide +kernel
theorem dX2_howManyMeetAnAccepted_1 : decode cX2_howManyMeetAnAccepted 1 = .ok (.istore_n 2, 1) := by decide +kernel
theorem dX2_howManyMeetAnAccepted_2 : decode cX2_howManyMeetAnAccepted 2 = .ok (.iconst 0, 1) := by decide +kernel
theorem dX2_howManyMeetAnAccepted_3 : decode cX2_howManyMeetAnAccepted 3 = .ok (.istore_n 3, 1) := by decide +kernel
theorem dX2_howManyMeetAnAccepted_4 : decode cX2_howManyMeetAnAccepted 4 = .ok (.iload_n 3, 1) := by decide +kernel
theorem dX2_howManyMeetAnAccepted_5 : decode cX2_howManyMeetAnAccepted 5 = .ok (.aload_n 1, 1) := by decide +kernel
theorem dX2_howManyMeetAnAccepted_6 : decode cX2_howManyMeetAnAccepted 6 = .ok (.invokevirtual 36, 3) := by decide +kernel
theorem dX2_howManyMeetAnAccepted_9 : decode cX2_howManyMeetAnAccepted 9 = .ok (.if_icmp .ge 24, 3) := by decide +kernel
theorem dX2_howManyMeetAnAccepted_12 : decode cX2_howManyMeetAnAccepted 12 = .ok (.aload_n 0, 1) := by decide +kernel
theorem dX2_howManyMeetAnAccepted_13 : decode cX2_howManyMeetAnAccepted 13 = .ok (.aload_n 1, 1) := by decide +kernel
theorem dX2_howManyMeetAnAccepted_14 : decode cX2_howManyMeetAnAccepted 14 = .ok (.iload_n 3, 1) := by decide +kernel
theorem dX2_howManyMeetAnAccepted_15 : decode cX2_howManyMeetAnAccepted 15 = .ok (.invokevirtual 52, 3) := by decide +kernel
theorem dX2_howManyMeetAnAccepted_18 : decode cX2_howManyMeetAnAccepted 18 = .ok (.invokevirtual 76, 3) := by decide +kernel
theorem dX2_howManyMeetAnAccepted_21 : decode cX2_howManyMeetAnAccepted 21 = .ok (.ifCond .eq 6, 3) := by decide +kernel
theorem dX2_howManyMeetAnAccepted_24 : decode cX2_howManyMeetAnAccepted 24 = .ok (.iinc 2 1, 3) := by decide +kernel
theorem dX2_howManyMeetAnAccepted_27 : decode cX2_howManyMeetAnAccepted 27 = .ok (.iinc 3 1, 3) := by decide +kernel
theorem dX2_howManyMeetAnAccepted_30 : decode cX2_howManyMeetAnAccepted 30 = .ok (.goto (-26), 3) := by decide +kernel
theorem dX2_howManyMeetAnAccepted_33 : decode cX2_howManyMeetAnAccepted 33 = .ok (.iload_n 2, 1) := by decide +kernel
theorem dX2_howManyMeetAnAccepted_34 : decode cX2_howManyMeetAnAccepted 34 = .ok (.ireturn, 1) := by decide +kernel
set_option maxRecDepth 20000 in
theorem ggX2_mostWanted_X5_used : GoodIn wsX2_mostWanted wsX5_used := goodIn_r _ [7, 8, 32, 33] (by decide +kernel) (by decide +kernel)
set_option maxRecDepth 20000 in
theorem gX2_mostWanted_X5_used : GoodIn wsX2_mostWanted (wsV RX2 36 RX5 yX5_used wsX5_used) := goodIn_app (goodIn_of _ (by decide +kernel)) ggX2_mostWanted_X5_used
set_option maxRecDepth 20000 in
theorem ggX2_mostWanted_X5_get : GoodIn wsX2_mostWanted wsX5_get := goodIn_r _ [12, 13, 14, 15, 16, 6, 17, 8, 32, 33] (by decide +kernel) (by decide +kernel)
set_option maxRecDepth 20000 in
theorem gX2_mostWanted_X5_get : GoodIn wsX2_mostWanted (wsV RX2 52 RX5 yX5_get wsX5_get) := goodIn_app (goodIn_of _ (by decide +kernel)) ggX2_mostWanted_X5_get
set_option maxRecDepth 20000 in
theorem ggX2_mostWanted_X2_isMoreWanted : GoodIn wsX2_mostWanted wsX2_isMoreWanted := goodIn_r _ [22, 23, 1, 9, 10, 11, 6, 12, 13, 14, 15, 16, 17, 8, 24, 25, 26, 27, 28, 29, 30, 31, 32, 33] (by decide +kernel) (by decide +kernel)
set_option maxRecDepth 20000 in
theorem gX2_mostWanted_X2_isMoreWanted : GoodIn wsX2_mostWanted (wsV RX2 80 RX2 yX2_isMoreWanted wsX2_isMoreWanted) := goodIn_app (goodIn_of _ (by decide +kernel)) ggX2_mostWanted_X2_isMoreWanted
theorem dX2_mostWanted_0 : decode cX2_mostWanted 0 = .ok (.iconst (-1), 1) := by decide +kernel
theorem dX2_mostWanted_1 : decode cX2_mostWanted 1 = .ok (.istore_n 1, 1) := by decide +kernel
theorem dX2_mostWanted_2 : decode cX2_mostWanted 2 = .ok (.iconst 0, 1) := by decide +kernel
theorem dX2_mostWanted_3 : decode cX2_mostWanted 3 = .ok (.istore_n 2, 1) := by decide +kernel
theorem dX2_mostWanted_4 : decode cX2_mostWanted 4 = .ok (.iload_n 2, 1) := by decide +kernel
theorem dX2_mostWanted_5 : decode cX2_mostWanted 5 = .ok (.aload_n 0, 1) := by decide +kernel
theorem dX2_mostWanted_6 : decode cX2_mostWanted 6 = .ok (.getfield 14, 3) := by decide +kernel
theorem dX2_mostWanted_9 : decode cX2_mostWanted 9 = .ok (.invokevirtual 36, 3) := by decide +kernel
theorem dX2_mostWanted_12 : decode cX2_mostWanted 12 = .ok (.if_icmp .ge 35, 3) := by decide +kernel
theorem dX2_mostWanted_15 : decode cX2_mostWanted 15 = .ok (.aload_n 0, 1) := by decide +kernel
theorem dX2_mostWanted_16 : decode cX2_mostWanted 16 = .ok (.getfield 20, 3) := by decide +kernel
theorem dX2_mostWanted_19 : decode cX2_mostWanted 19 = .ok (.iload_n 2, 1) := by decide +kernel
theorem dX2_mostWanted_20 : decode cX2_mostWanted 20 = .ok (.invokevirtual 52, 3) := by decide +kernel
theorem dX2_mostWanted_23 : decode cX2_mostWanted 23 = .ok (.ifCond .ne 18, 3) := by decide +kernel
theorem dX2_mostWanted_26 : decode cX2_mostWanted 26 = .ok (.iload_n 1, 1) := by decide +kernel
theorem dX2_mostWanted_27 : decode cX2_mostWanted 27 = .ok (.ifCond .lt 12, 3) := by decide +kernel
theorem dX2_mostWanted_30 : decode cX2_mostWanted 30 = .ok (.aload_n 0, 1) := by decide +kernel
theorem dX2_mostWanted_31 : decode cX2_mostWanted 31 = .ok (.iload_n 2, 1) := by decide +kernel
theorem dX2_mostWanted_32 : decode cX2_mostWanted 32 = .ok (.iload_n 1, 1) := by decide +kernel
theorem dX2_mostWanted_33 : decode cX2_mostWanted 33 = .ok (.invokevirtual 80, 3) := by decide +kernel
theorem dX2_mostWanted_36 : decode cX2_mostWanted 36 = .ok (.ifCond .eq 5, 3) := by decide +kernel
theorem dX2_mostWanted_39 : decode cX2_mostWanted 39 = .ok (.iload_n 2, 1) := by decide +kernel
theorem dX2_mostWanted_40 : decode cX2_mostWanted 40 = .ok (.istore_n 1, 1) := by decide +kernel
theorem dX2_mostWanted_41 : decode cX2_mostWanted 41 = .ok (.iinc 2 1, 3) := by decide +kernel
theorem dX2_mostWanted_44 : decode cX2_mostWanted 44 = .ok (.goto (-40), 3) := by decide +kernel
theorem dX2_mostWanted_47 : decode cX2_mostWanted 47 = .ok (.iload_n 1, 1) := by decide +kernel
theorem dX2_mostWanted_48 : decode cX2_mostWanted 48 = .ok (.ireturn, 1) := by decide +kernel
set_option maxRecDepth 20000 in
theorem ggX2_isMoreWanted_X5_get : GoodIn wsX2_isMoreWanted wsX5_get := goodIn_r _ [7, 8, 9, 10, 11, 6, 12, 13, 22, 23] (by decide +kernel) (by decide +kernel)
set_option maxRecDepth 20000 in
theorem gX2_isMoreWanted_X5_get : GoodIn wsX2_isMoreWanted (wsV RX2 52 RX5 yX5_get wsX5_get) := goodIn_app (goodIn_of _ (by decide +kernel)) ggX2_isMoreWanted_X5_get
set_option maxRecDepth 20000 in
theorem ggX2_isMoreWanted_X1_firstOf : GoodIn wsX2_isMoreWanted wsX1_firstOf := goodIn_r _ [17] (by decide +kernel) (by decide +kernel)
set_option maxRecDepth 20000 in
theorem gX2_isMoreWanted_X1_firstOf : GoodIn wsX2_isMoreWanted (va_wsS RX2 83 yX1_firstOf wsX1_firstOf) := goodIn_app (goodIn_of _ (by decide +kernel)) ggX2_isMoreWanted_X1_firstOf
theorem dX2_isMoreWanted_0 : decode cX2_isMoreWanted 0 = .ok (.aload_n 0, 1) := by decide +kernel
theorem dX2_isMoreWanted_1 : decode cX2_isMoreWanted 1 = .ok (.getfield 23, 3) := by decide +kernel
theorem dX2_isMoreWanted_4 : decode cX2_isMoreWanted 4 = .ok (.iload_n 1, 1) := by decide +kernel
theorem dX2_isMoreWanted_5 : decode cX2_isMoreWanted 5 = .ok (.invokevirtual 52, 3) := by decide +kernel
theorem dX2_isMoreWanted_8 : decode cX2_isMoreWanted 8 = .ok (.aload_n 0, 1) := by decide +kernel
theorem dX2_isMoreWanted_9 : decode cX2_isMoreWanted 9 = .ok (.getfield 23, 3) := by decide +kernel
theorem dX2_isMoreWanted_12 : decode cX2_isMoreWanted 12 = .ok (.iload_n 2, 1) := by decide +kernel
theorem dX2_isMoreWanted_13 : decode cX2_isMoreWanted 13 = .ok (.invokevirtual 52, 3) := by decide +kernel
theorem dX2_isMoreWanted_16 : decode cX2_isMoreWanted 16 = .ok (.if_icmp .eq 28, 3) := by decide +kernel
theorem dX2_isMoreWanted_19 : decode cX2_isMoreWanted 19 = .ok (.aload_n 0, 1) := by decide +kernel
theorem dX2_isMoreWanted_20 : decode cX2_isMoreWanted 20 = .ok (.getfield 23, 3) := by decide +kernel
theorem dX2_isMoreWanted_23 : decode cX2_isMoreWanted 23 = .ok (.iload_n 1, 1) := by decide +kernel
theorem dX2_isMoreWanted_24 : decode cX2_isMoreWanted 24 = .ok (.invokevirtual 52, 3) := by decide +kernel
theorem dX2_isMoreWanted_27 : decode cX2_isMoreWanted 27 = .ok (.aload_n 0, 1) := by decide +kernel
theorem dX2_isMoreWanted_28 : decode cX2_isMoreWanted 28 = .ok (.getfield 23, 3) := by decide +kernel
theorem dX2_isMoreWanted_31 : decode cX2_isMoreWanted 31 = .ok (.iload_n 2, 1) := by decide +kernel
theorem dX2_isMoreWanted_32 : decode cX2_isMoreWanted 32 = .ok (.invokevirtual 52, 3) := by decide +kernel
theorem dX2_isMoreWanted_35 : decode cX2_isMoreWanted 35 = .ok (.if_icmp .le 7, 3) := by decide +kernel
theorem dX2_isMoreWanted_38 : decode cX2_isMoreWanted 38 = .ok (.iconst 1, 1) := by decide +kernel
theorem dX2_isMoreWanted_39 : decode cX2_isMoreWanted 39 = .ok (.goto 4, 3) := by decide +kernel
theorem dX2_isMoreWanted_42 : decode cX2_isMoreWanted 42 = .ok (.iconst 0, 1) := by decide +kernel
theorem dX2_isMoreWanted_43 : decode cX2_isMoreWanted 43 = .ok (.ireturn, 1) := by decide +kernel
theorem dX2_isMoreWanted_44 : decode cX2_isMoreWanted 44 = .ok (.aload_n 0, 1) := by decide +kernel
theorem dX2_isMoreWanted_45 : decode cX2_isMoreWanted 45 = .ok (.getfield 14, 3) := by decide +kernel
theorem dX2_isMoreWanted_48 : decode cX2_isMoreWanted 48 = .ok (.iload_n 1, 1) := by decide +kernel
theorem dX2_isMoreWanted_49 : decode cX2_isMoreWanted 49 = .ok (.invokevirtual 52, 3) := by decide +kernel
theorem dX2_isMoreWanted_52 : decode cX2_isMoreWanted 52 = .ok (.invokestatic 83, 3) := by decide +kernel
theorem dX2_isMoreWanted_55 : decode cX2_isMoreWanted 55 = .ok (.aload_n 0, 1) := by decide +kernel
theorem dX2_isMoreWanted_56 : decode cX2_isMoreWanted 56 = .ok (.getfield 14, 3) := by decide +kernel
theorem dX2_isMoreWanted_59 : decode cX2_isMoreWanted 59 = .ok (.iload_n 2, 1) := by decide +kernel
theorem dX2_isMoreWanted_60 : decode cX2_isMoreWanted 60 = .ok (.invokevirtual 52, 3) := by decide +kernel
theorem dX2_isMoreWanted_63 : decode cX2_isMoreWanted 63 = .ok (.invokestatic 83, 3) := by decide +kernel
theorem dX2_isMoreWanted_66 : decode cX2_isMoreWanted 66 = .ok (.if_icmp .ge 7, 3) := by decide +kernel
theorem dX2_isMoreWanted_69 : decode cX2_isMoreWanted 69 = .ok (.iconst 1, 1) := by decide +kernel
theorem dX2_isMoreWanted_70 : decode cX2_isMoreWanted 70 = .ok (.goto 4, 3) := by decide +kernel
theorem dX2_isMoreWanted_73 : decode cX2_isMoreWanted 73 = .ok (.iconst 0, 1) := by decide +kernel
theorem dX2_isMoreWanted_74 : decode cX2_isMoreWanted 74 = .ok (.ireturn, 1) := by decide +kernel
