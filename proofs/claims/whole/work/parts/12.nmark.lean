theorem dX1_codeOf_0 : decode cX1_codeOf 0 = .ok (.iload_n 0, 1) := by decide +kernel
theorem dX1_codeOf_1 : decode cX1_codeOf 1 = .ok (.bipush 24, 2) := by decide +kernel
theorem dX1_codeOf_3 : decode cX1_codeOf 3 = .ok (.ishl, 1) := by decide +kernel
theorem dX1_codeOf_4 : decode cX1_codeOf 4 = .ok (.iload_n 1, 1) := by decide +kernel
theorem dX1_codeOf_5 : decode cX1_codeOf 5 = .ok (.bipush 16, 2) := by decide +kernel
theorem dX1_codeOf_7 : decode cX1_codeOf 7 = .ok (.ishl, 1) := by decide +kernel
theorem dX1_codeOf_8 : decode cX1_codeOf 8 = .ok (.ior, 1) := by decide +kernel
theorem dX1_codeOf_9 : decode cX1_codeOf 9 = .ok (.iload_n 2, 1) := by decide +kernel
theorem dX1_codeOf_10 : decode cX1_codeOf 10 = .ok (.bipush 8, 2) := by decide +kernel
theorem dX1_codeOf_12 : decode cX1_codeOf 12 = .ok (.ishl, 1) := by decide +kernel
theorem dX1_codeOf_13 : decode cX1_codeOf 13 = .ok (.ior, 1) := by decide +kernel
theorem dX1_codeOf_14 : decode cX1_codeOf 14 = .ok (.iload_n 3, 1) := by decide +kernel
theorem dX1_codeOf_15 : decode cX1_codeOf 15 = .ok (.ior, 1) := by decide +kernel
theorem dX1_codeOf_16 : decode cX1_codeOf 16 = .ok (.ireturn, 1) := by decide +kernel
theorem dX1_kindOf_0 : decode cX1_kindOf 0 = .ok (.iload_n 0, 1) := by decide +kernel
theorem dX1_kindOf_1 : decode cX1_kindOf 1 = .ok (.bipush 24, 2) := by decide +kernel
theorem dX1_kindOf_3 : decode cX1_kindOf 3 = .ok (.ishr, 1) := by decide +kernel
theorem dX1_kindOf_4 : decode cX1_kindOf 4 = .ok (.ireturn, 1) := by decide +kernel
theorem dX1_firstOf_0 : decode cX1_firstOf 0 = .ok (.iload_n 0, 1) := by decide +kernel
theorem dX1_firstOf_1 : decode cX1_firstOf 1 = .ok (.bipush 16, 2) := by decide +kernel
theorem dX1_firstOf_3 : decode cX1_firstOf 3 = .ok (.ishr, 1) := by decide +kernel
theorem dX1_firstOf_4 : decode cX1_firstOf 4 = .ok (.sipush 255, 3) := by decide +kernel
theorem dX1_firstOf_7 : decode cX1_firstOf 7 = .ok (.iand, 1) := by decide +kernel
theorem dX1_firstOf_8 : decode cX1_firstOf 8 = .ok (.ireturn, 1) := by decide +kernel
theorem dX1_secondOf_0 : decode cX1_secondOf 0 = .ok (.iload_n 0, 1) := by decide +kernel
theorem dX1_secondOf_1 : decode cX1_secondOf 1 = .ok (.bipush 8, 2) := by decide +kernel
theorem dX1_secondOf_3 : decode cX1_secondOf 3 = .ok (.ishr, 1) := by decide +kernel
theorem dX1_secondOf_4 : decode cX1_secondOf 4 = .ok (.sipush 255, 3) := by decide +kernel
theorem dX1_secondOf_7 : decode cX1_secondOf 7 = .ok (.iand, 1) := by decide +kernel
theorem dX1_secondOf_8 : decode cX1_secondOf 8 = .ok (.ireturn, 1) := by decide +kernel
theorem dX1_characterOf_0 : decode cX1_characterOf 0 = .ok (.iload_n 0, 1) := by decide +kernel
theorem dX1_characterOf_1 : decode cX1_characterOf 1 = .ok (.sipush 255, 3) := by decide +kernel
theorem dX1_characterOf_4 : decode cX1_characterOf 4 = .ok (.iand, 1) := by decide +kernel
theorem dX1_characterOf_5 : decode cX1_characterOf 5 = .ok (.ireturn, 1) := by decide +kernel
theorem dX1_takesCharacter_0 : decode cX1_takesCharacter 0 = .ok (.iload_n 0, 1) := by decide +kernel
theorem dX1_takesCharacter_1 : decode cX1_takesCharacter 1 = .ok (.iconst 1, 1) := by decide +kernel
theorem dX1_takesCharacter_2 : decode cX1_takesCharacter 2 = .ok (.if_icmp .eq 8, 3) := by decide +kernel
theorem dX1_takesCharacter_5 : decode cX1_takesCharacter 5 = .ok (.iload_n 0, 1) := by decide +kernel
theorem dX1_takesCharacter_6 : decode cX1_takesCharacter 6 = .ok (.iconst 2, 1) := by decide +kernel
theorem dX1_takesCharacter_7 : decode cX1_takesCharacter 7 = .ok (.if_icmp .ne 7, 3) := by decide +kernel
theorem dX1_takesCharacter_10 : decode cX1_takesCharacter 10 = .ok (.iconst 1, 1) := by decide +kernel
theorem dX1_takesCharacter_11 : decode cX1_takesCharacter 11 = .ok (.goto 4, 3) := by decide +kernel
theorem dX1_takesCharacter_14 : decode cX1_takesCharacter 14 = .ok (.iconst 0, 1) := by decide +kernel
theorem dX1_takesCharacter_15 : decode cX1_takesCharacter 15 = .ok (.ireturn, 1) := by decide +kernel
set_option maxRecDepth 20000 in
theorem ggX1_partOf_X1_kindOf : GoodIn wsX1_partOf wsX1_kindOf := goodIn_r _ [4] (by decide +kernel) (by decide +kernel)
set_option maxRecDepth 20000 in
theorem gX1_partOf_X1_kindOf : GoodIn wsX1_partOf (va_wsS RX1 9 yX1_kindOf wsX1_kindOf) := goodIn_app (goodIn_of _ (by decide +kernel)) ggX1_partOf_X1_kindOf
set_option maxRecDepth 20000 in
theorem ggX1_partOf_X1_firstOf : GoodIn wsX1_partOf wsX1_firstOf := goodIn_r _ [7] (by decide +kernel) (by decide +kernel)
set_option maxRecDepth 20000 in
theorem gX1_partOf_X1_firstOf : GoodIn wsX1_partOf (va_wsS RX1 15 yX1_firstOf wsX1_firstOf) := goodIn_app (goodIn_of _ (by decide +kernel)) ggX1_partOf_X1_firstOf
set_option maxRecDepth 20000 in
theorem ggX1_partOf_X1_secondOf : GoodIn wsX1_partOf wsX1_secondOf := goodIn_r _ [10] (by decide +kernel) (by decide +kernel)
set_option maxRecDepth 20000 in
theorem gX1_partOf_X1_secondOf : GoodIn wsX1_partOf (va_wsS RX1 18 yX1_secondOf wsX1_secondOf) := goodIn_app (goodIn_of _ (by decide +kernel)) ggX1_partOf_X1_secondOf
set_option maxRecDepth 20000 in
theorem ggX1_partOf_X1_takesCharacter : GoodIn wsX1_partOf wsX1_takesCharacter := goodIn_r _ [13] (by decide +kernel) (by decide +kernel)
set_option maxRecDepth 20000 in
theorem gX1_partOf_X1_takesCharacter : GoodIn wsX1_partOf (va_wsS RX1 21 yX1_takesCharacter wsX1_takesCharacter) := goodIn_app (goodIn_of _ (by decide +kernel)) ggX1_partOf_X1_takesCharacter
set_option maxRecDepth 20000 in
theorem ggX1_partOf_X1_characterOf : GoodIn wsX1_partOf wsX1_characterOf := goodIn_r _ [16] (by decide +kernel) (by decide +kernel)
set_option maxRecDepth 20000 in
theorem gX1_partOf_X1_characterOf : GoodIn wsX1_partOf (va_wsS RX1 25 yX1_characterOf wsX1_characterOf) := goodIn_app (goodIn_of _ (by decide +kernel)) ggX1_partOf_X1_characterOf
theorem dX1_partOf_0 : decode cX1_partOf 0 = .ok (.iload_n 1, 1) := by decide +kernel
theorem dX1_partOf_1 : decode cX1_partOf 1 = .ok (.tableswitch 54 0 2 #[27, 32, 37], 27) := by decide +kernel
theorem dX1_partOf_28 : decode cX1_partOf 28 = .ok (.iload_n 0, 1) := by decide +kernel
theorem dX1_partOf_29 : decode cX1_partOf 29 = .ok (.invokestatic 9, 3) := by decide +kernel
theorem dX1_partOf_32 : decode cX1_partOf 32 = .ok (.ireturn, 1) := by decide +kernel
theorem dX1_partOf_33 : decode cX1_partOf 33 = .ok (.iload_n 0, 1) := by decide +kernel
theorem dX1_partOf_34 : decode cX1_partOf 34 = .ok (.invokestatic 15, 3) := by decide +kernel
theorem dX1_partOf_37 : decode cX1_partOf 37 = .ok (.ireturn, 1) := by decide +kernel
theorem dX1_partOf_38 : decode cX1_partOf 38 = .ok (.iload_n 0, 1) := by decide +kernel
theorem dX1_partOf_39 : decode cX1_partOf 39 = .ok (.invokestatic 9, 3) := by decide +kernel
theorem dX1_partOf_42 : decode cX1_partOf 42 = .ok (.ifCond .ne 10, 3) := by decide +kernel
theorem dX1_partOf_45 : decode cX1_partOf 45 = .ok (.iload_n 0, 1) := by decide +kernel
theorem dX1_partOf_46 : decode cX1_partOf 46 = .ok (.invokestatic 18, 3) := by decide +kernel
theorem dX1_partOf_49 : decode cX1_partOf 49 = .ok (.goto 5, 3) := by decide +kernel
theorem dX1_partOf_52 : decode cX1_partOf 52 = .ok (.bipush (-4), 2) := by decide +kernel
theorem dX1_partOf_54 : decode cX1_partOf 54 = .ok (.ireturn, 1) := by decide +kernel
theorem dX1_partOf_55 : decode cX1_partOf 55 = .ok (.iload_n 0, 1) := by decide +kernel
theorem dX1_partOf_56 : decode cX1_partOf 56 = .ok (.invokestatic 9, 3) := by decide +kernel
theorem dX1_partOf_59 : decode cX1_partOf 59 = .ok (.invokestatic 21, 3) := by decide +kernel
theorem dX1_partOf_62 : decode cX1_partOf 62 = .ok (.ifCond .eq 10, 3) := by decide +kernel
theorem dX1_partOf_65 : decode cX1_partOf 65 = .ok (.iload_n 0, 1) := by decide +kernel
theorem dX1_partOf_66 : decode cX1_partOf 66 = .ok (.invokestatic 25, 3) := by decide +kernel
theorem dX1_partOf_69 : decode cX1_partOf 69 = .ok (.goto 5, 3) := by decide +kernel
theorem dX1_partOf_72 : decode cX1_partOf 72 = .ok (.bipush (-4), 2) := by decide +kernel
theorem dX1_partOf_74 : decode cX1_partOf 74 = .ok (.ireturn, 1) := by decide +kernel
theorem dX1_isPossible_0 : decode cX1_isPossible 0 = .ok (.iload_n 0, 1) := by decide +kernel
theorem dX1_isPossible_1 : decode cX1_isPossible 1 = .ok (.tableswitch 71 0 3 #[31, 47, 71, 58], 31) := by decide +kernel
theorem dX1_isPossible_32 : decode cX1_isPossible 32 = .ok (.iload_n 1, 1) := by decide +kernel
theorem dX1_isPossible_33 : decode cX1_isPossible 33 = .ok (.iload_n 2, 1) := by decide +kernel
theorem dX1_isPossible_34 : decode cX1_isPossible 34 = .ok (.if_icmp .ge 12, 3) := by decide +kernel
theorem dX1_isPossible_37 : decode cX1_isPossible 37 = .ok (.iload_n 2, 1) := by decide +kernel
theorem dX1_isPossible_38 : decode cX1_isPossible 38 = .ok (.iload_n 3, 1) := by decide +kernel
theorem dX1_isPossible_39 : decode cX1_isPossible 39 = .ok (.if_icmp .gt 7, 3) := by decide +kernel
theorem dX1_isPossible_42 : decode cX1_isPossible 42 = .ok (.iconst 1, 1) := by decide +kernel
theorem dX1_isPossible_43 : decode cX1_isPossible 43 = .ok (.goto 4, 3) := by decide +kernel
theorem dX1_isPossible_46 : decode cX1_isPossible 46 = .ok (.iconst 0, 1) := by decide +kernel
theorem dX1_isPossible_47 : decode cX1_isPossible 47 = .ok (.ireturn, 1) := by decide +kernel
theorem dX1_isPossible_48 : decode cX1_isPossible 48 = .ok (.iload_n 1, 1) := by decide +kernel
theorem dX1_isPossible_49 : decode cX1_isPossible 49 = .ok (.iload_n 3, 1) := by decide +kernel
theorem dX1_isPossible_50 : decode cX1_isPossible 50 = .ok (.if_icmp .gt 7, 3) := by decide +kernel
theorem dX1_isPossible_53 : decode cX1_isPossible 53 = .ok (.iconst 1, 1) := by decide +kernel
theorem dX1_isPossible_54 : decode cX1_isPossible 54 = .ok (.goto 4, 3) := by decide +kernel
theorem dX1_isPossible_57 : decode cX1_isPossible 57 = .ok (.iconst 0, 1) := by decide +kernel
theorem dX1_isPossible_58 : decode cX1_isPossible 58 = .ok (.ireturn, 1) := by decide +kernel
theorem dX1_isPossible_59 : decode cX1_isPossible 59 = .ok (.iload_n 1, 1) := by decide +kernel
theorem dX1_isPossible_60 : decode cX1_isPossible 60 = .ok (.iconst 1, 1) := by decide +kernel
theorem dX1_isPossible_61 : decode cX1_isPossible 61 = .ok (.iadd, 1) := by decide +kernel
theorem dX1_isPossible_62 : decode cX1_isPossible 62 = .ok (.iload_n 3, 1) := by decide +kernel
theorem dX1_isPossible_63 : decode cX1_isPossible 63 = .ok (.if_icmp .ge 7, 3) := by decide +kernel
theorem dX1_isPossible_66 : decode cX1_isPossible 66 = .ok (.iconst 1, 1) := by decide +kernel
theorem dX1_isPossible_67 : decode cX1_isPossible 67 = .ok (.goto 4, 3) := by decide +kernel
theorem dX1_isPossible_70 : decode cX1_isPossible 70 = .ok (.iconst 0, 1) := by decide +kernel
theorem dX1_isPossible_71 : decode cX1_isPossible 71 = .ok (.ireturn, 1) := by decide +kernel
theorem dX1_isPossible_72 : decode cX1_isPossible 72 = .ok (.iload_n 1, 1) := by decide +kernel
theorem dX1_isPossible_73 : decode cX1_isPossible 73 = .ok (.iload_n 3, 1) := by decide +kernel
theorem dX1_isPossible_74 : decode cX1_isPossible 74 = .ok (.if_icmp .ge 7, 3) := by decide +kernel
theorem dX1_isPossible_77 : decode cX1_isPossible 77 = .ok (.iconst 1, 1) := by decide +kernel
theorem dX1_isPossible_78 : decode cX1_isPossible 78 = .ok (.goto 4, 3) := by decide +kernel
theorem dX1_isPossible_81 : decode cX1_isPossible 81 = .ok (.iconst 0, 1) := by decide +kernel
theorem dX1_isPossible_82 : decode cX1_isPossible 82 = .ok (.ireturn, 1) := by decide +kernel
set_option maxRecDepth 20000 in
theorem ggX1_endOf_X1_kindOf : GoodIn wsX1_endOf wsX1_kindOf := goodIn_r _ [4] (by decide +kernel) (by decide +kernel)
set_option maxRecDepth 20000 in
theorem gX1_endOf_X1_kindOf : GoodIn wsX1_endOf (va_wsS RX1 9 yX1_kindOf wsX1_kindOf) := goodIn_app (goodIn_of _ (by decide +kernel)) ggX1_endOf_X1_kindOf
set_option maxRecDepth 20000 in
theorem ggX1_endOf_X1_secondOf : GoodIn wsX1_endOf wsX1_secondOf := goodIn_r _ [7] (by decide +kernel) (by decide +kernel)
set_option maxRecDepth 20000 in
theorem gX1_endOf_X1_secondOf : GoodIn wsX1_endOf (va_wsS RX1 18 yX1_secondOf wsX1_secondOf) := goodIn_app (goodIn_of _ (by decide +kernel)) ggX1_endOf_X1_secondOf
set_option maxRecDepth 20000 in
theorem ggX1_endOf_X1_firstOf : GoodIn wsX1_endOf wsX1_firstOf := goodIn_r _ [10] (by decide +kernel) (by decide +kernel)
set_option maxRecDepth 20000 in
theorem gX1_endOf_X1_firstOf : GoodIn wsX1_endOf (va_wsS RX1 15 yX1_firstOf wsX1_firstOf) := goodIn_app (goodIn_of _ (by decide +kernel)) ggX1_endOf_X1_firstOf
theorem dX1_endOf_0 : decode cX1_endOf 0 = .ok (.iload_n 0, 1) := by decide +kernel
theorem dX1_endOf_1 : decode cX1_endOf 1 = .ok (.invokestatic 9, 3) := by decide +kernel
theorem dX1_endOf_4 : decode cX1_endOf 4 = .ok (.tableswitch 49 0 3 #[32, 37, 49, 42], 32) := by decide +kernel
theorem dX1_endOf_36 : decode cX1_endOf 36 = .ok (.iload_n 0, 1) := by decide +kernel
theorem dX1_endOf_37 : decode cX1_endOf 37 = .ok (.invokestatic 18, 3) := by decide +kernel
theorem dX1_endOf_40 : decode cX1_endOf 40 = .ok (.ireturn, 1) := by decide +kernel
theorem dX1_endOf_41 : decode cX1_endOf 41 = .ok (.iload_n 0, 1) := by decide +kernel
theorem dX1_endOf_42 : decode cX1_endOf 42 = .ok (.invokestatic 15, 3) := by decide +kernel
theorem dX1_endOf_45 : decode cX1_endOf 45 = .ok (.ireturn, 1) := by decide +kernel
theorem dX1_endOf_46 : decode cX1_endOf 46 = .ok (.iload_n 0, 1) := by decide +kernel
theorem dX1_endOf_47 : decode cX1_endOf 47 = .ok (.invokestatic 15, 3) := by decide +kernel
theorem dX1_endOf_50 : decode cX1_endOf 50 = .ok (.iconst 2, 1) := by decide +kernel
theorem dX1_endOf_51 : decode cX1_endOf 51 = .ok (.iadd, 1) := by decide +kernel
theorem dX1_endOf_52 : decode cX1_endOf 52 = .ok (.ireturn, 1) := by decide +kernel
theorem dX1_endOf_53 : decode cX1_endOf 53 = .ok (.iload_n 0, 1) := by decide +kernel
theorem dX1_endOf_54 : decode cX1_endOf 54 = .ok (.invokestatic 15, 3) := by decide +kernel
theorem dX1_endOf_57 : decode cX1_endOf 57 = .ok (.iconst 1, 1) := by decide +kernel
theorem dX1_endOf_58 : decode cX1_endOf 58 = .ok (.iadd, 1) := by decide +kernel
theorem dX1_endOf_59 : decode cX1_endOf 59 = .ok (.ireturn, 1) := by decide +kernel
set_option maxRecDepth 20000 in
theorem ggX1_areOpposed_X1_kindOf : GoodIn wsX1_areOpposed wsX1_kindOf := goodIn_r _ [4] (by decide +kernel) (by decide +kernel)
set_option maxRecDepth 20000 in
theorem gX1_areOpposed_X1_kindOf : GoodIn wsX1_areOpposed (va_wsS RX1 9 yX1_kindOf wsX1_kindOf) := goodIn_app (goodIn_of _ (by decide +kernel)) ggX1_areOpposed_X1_kindOf
set_option maxRecDepth 20000 in
theorem ggX1_areOpposed_X1_firstOf : GoodIn wsX1_areOpposed wsX1_firstOf := goodIn_r _ [7] (by decide +kernel) (by decide +kernel)
set_option maxRecDepth 20000 in
theorem gX1_areOpposed_X1_firstOf : GoodIn wsX1_areOpposed (va_wsS RX1 15 yX1_firstOf wsX1_firstOf) := goodIn_app (goodIn_of _ (by decide +kernel)) ggX1_areOpposed_X1_firstOf
set_option maxRecDepth 20000 in
theorem ggX1_areOpposed_X1_endOf : GoodIn wsX1_areOpposed wsX1_endOf := goodIn_r _ [10, 1, 2, 3, 4, 11, 12, 13, 5, 6, 7] (by decide +kernel) (by decide +kernel)
set_option maxRecDepth 20000 in
theorem gX1_areOpposed_X1_endOf : GoodIn wsX1_areOpposed (va_wsS RX1 28 yX1_endOf wsX1_endOf) := goodIn_app (goodIn_of _ (by decide +kernel)) ggX1_areOpposed_X1_endOf
theorem dX1_areOpposed_0 : decode cX1_areOpposed 0 = .ok (.iload_n 0, 1) := by decide +kernel
theorem dX1_areOpposed_1 : decode cX1_areOpposed 1 = .ok (.invokestatic 9, 3) := by decide +kernel
theorem dX1_areOpposed_4 : decode cX1_areOpposed 4 = .ok (.istore_n 2, 1) := by decide +kernel
theorem dX1_areOpposed_5 : decode cX1_areOpposed 5 = .ok (.iload_n 1, 1) := by decide +kernel
theorem dX1_areOpposed_6 : decode cX1_areOpposed 6 = .ok (.invokestatic 9, 3) := by decide +kernel
theorem dX1_areOpposed_9 : decode cX1_areOpposed 9 = .ok (.istore_n 3, 1) := by decide +kernel
theorem dX1_areOpposed_10 : decode cX1_areOpposed 10 = .ok (.iload_n 0, 1) := by decide +kernel
theorem dX1_areOpposed_11 : decode cX1_areOpposed 11 = .ok (.iload_n 1, 1) := by decide +kernel
theorem dX1_areOpposed_12 : decode cX1_areOpposed 12 = .ok (.if_icmp .eq 13, 3) := by decide +kernel
theorem dX1_areOpposed_15 : decode cX1_areOpposed 15 = .ok (.iload_n 2, 1) := by decide +kernel
theorem dX1_areOpposed_16 : decode cX1_areOpposed 16 = .ok (.iconst 5, 1) := by decide +kernel
theorem dX1_areOpposed_17 : decode cX1_areOpposed 17 = .ok (.if_icmp .eq 8, 3) := by decide +kernel
theorem dX1_areOpposed_20 : decode cX1_areOpposed 20 = .ok (.iload_n 3, 1) := by decide +kernel
theorem dX1_areOpposed_21 : decode cX1_areOpposed 21 = .ok (.iconst 5, 1) := by decide +kernel
theorem dX1_areOpposed_22 : decode cX1_areOpposed 22 = .ok (.if_icmp .ne 5, 3) := by decide +kernel
theorem dX1_areOpposed_25 : decode cX1_areOpposed 25 = .ok (.iconst 0, 1) := by decide +kernel
theorem dX1_areOpposed_26 : decode cX1_areOpposed 26 = .ok (.ireturn, 1) := by decide +kernel
theorem dX1_areOpposed_27 : decode cX1_areOpposed 27 = .ok (.iload_n 2, 1) := by decide +kernel
theorem dX1_areOpposed_28 : decode cX1_areOpposed 28 = .ok (.iconst 1, 1) := by decide +kernel
theorem dX1_areOpposed_29 : decode cX1_areOpposed 29 = .ok (.if_icmp .ne 25, 3) := by decide +kernel
theorem dX1_areOpposed_32 : decode cX1_areOpposed 32 = .ok (.iload_n 3, 1) := by decide +kernel
theorem dX1_areOpposed_33 : decode cX1_areOpposed 33 = .ok (.iconst 1, 1) := by decide +kernel
theorem dX1_areOpposed_34 : decode cX1_areOpposed 34 = .ok (.if_icmp .ne 20, 3) := by decide +kernel
theorem dX1_areOpposed_37 : decode cX1_areOpposed 37 = .ok (.iload_n 0, 1) := by decide +kernel
theorem dX1_areOpposed_38 : decode cX1_areOpposed 38 = .ok (.invokestatic 15, 3) := by decide +kernel
theorem dX1_areOpposed_41 : decode cX1_areOpposed 41 = .ok (.iload_n 1, 1) := by decide +kernel
theorem dX1_areOpposed_42 : decode cX1_areOpposed 42 = .ok (.invokestatic 15, 3) := by decide +kernel
theorem dX1_areOpposed_45 : decode cX1_areOpposed 45 = .ok (.if_icmp .ne 7, 3) := by decide +kernel
theorem dX1_areOpposed_48 : decode cX1_areOpposed 48 = .ok (.iconst 1, 1) := by decide +kernel
theorem dX1_areOpposed_49 : decode cX1_areOpposed 49 = .ok (.goto 4, 3) := by decide +kernel
theorem dX1_areOpposed_52 : decode cX1_areOpposed 52 = .ok (.iconst 0, 1) := by decide +kernel
theorem dX1_areOpposed_53 : decode cX1_areOpposed 53 = .ok (.ireturn, 1) := by decide +kernel
theorem dX1_areOpposed_54 : decode cX1_areOpposed 54 = .ok (.iload_n 0, 1) := by decide +kernel
theorem dX1_areOpposed_55 : decode cX1_areOpposed 55 = .ok (.invokestatic 15, 3) := by decide +kernel
theorem dX1_areOpposed_58 : decode cX1_areOpposed 58 = .ok (.iload_n 1, 1) := by decide +kernel
theorem dX1_areOpposed_59 : decode cX1_areOpposed 59 = .ok (.invokestatic 28, 3) := by decide +kernel
theorem dX1_areOpposed_62 : decode cX1_areOpposed 62 = .ok (.if_icmp .ge 18, 3) := by decide +kernel
theorem dX1_areOpposed_65 : decode cX1_areOpposed 65 = .ok (.iload_n 1, 1) := by decide +kernel
theorem dX1_areOpposed_66 : decode cX1_areOpposed 66 = .ok (.invokestatic 15, 3) := by decide +kernel
theorem dX1_areOpposed_69 : decode cX1_areOpposed 69 = .ok (.iload_n 0, 1) := by decide +kernel
theorem dX1_areOpposed_70 : decode cX1_areOpposed 70 = .ok (.invokestatic 28, 3) := by decide +kernel
theorem dX1_areOpposed_73 : decode cX1_areOpposed 73 = .ok (.if_icmp .ge 7, 3) := by decide +kernel
theorem dX1_areOpposed_76 : decode cX1_areOpposed 76 = .ok (.iconst 1, 1) := by decide +kernel
theorem dX1_areOpposed_77 : decode cX1_areOpposed 77 = .ok (.goto 4, 3) := by decide +kernel
theorem dX1_areOpposed_80 : decode cX1_areOpposed 80 = .ok (.iconst 0, 1) := by decide +kernel
theorem dX1_areOpposed_81 : decode cX1_areOpposed 81 = .ok (.ireturn, 1) := by decide +kernel
theorem dX8_isOutside_0 : decode cX8_isOutside 0 = .ok (.iload_n 0, 1) := by decide +kernel
theorem dX8_isOutside_1 : decode cX8_isOutside 1 = .ok (.iload_n 1, 1) := by decide +kernel
theorem dX8_isOutside_2 : decode cX8_isOutside 2 = .ok (.if_icmp .lt 8, 3) := by decide +kernel
theorem dX8_isOutside_5 : decode cX8_isOutside 5 = .ok (.iload_n 0, 1) := by decide +kernel
theorem dX8_isOutside_6 : decode cX8_isOutside 6 = .ok (.iload_n 2, 1) := by decide +kernel
theorem dX8_isOutside_7 : decode cX8_isOutside 7 = .ok (.if_icmp .le 7, 3) := by decide +kernel
theorem dX8_isOutside_10 : decode cX8_isOutside 10 = .ok (.iconst 1, 1) := by decide +kernel
theorem dX8_isOutside_11 : decode cX8_isOutside 11 = .ok (.goto 4, 3) := by decide +kernel
theorem dX8_isOutside_14 : decode cX8_isOutside 14 = .ok (.iconst 0, 1) := by decide +kernel
theorem dX8_isOutside_15 : decode cX8_isOutside 15 = .ok (.ireturn, 1) := by decide +kernel
