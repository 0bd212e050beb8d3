theorem dX5_init_0 : decode cX5_init 0 = .ok (.aload_n 0, 1) := by decide +kernel
theorem dX5_init_1 : decode cX5_init 1 = .ok (.invokespecial 1, 3) := by decide +kernel
theorem dX5_init_4 : decode cX5_init 4 = .ok (.aload_n 0, 1) := by decide +kernel
theorem dX5_init_5 : decode cX5_init 5 = .ok (.iconst 4, 1) := by decide +kernel
theorem dX5_init_6 : decode cX5_init 6 = .ok (.newarray .int, 2) := by decide +kernel
theorem dX5_init_8 : decode cX5_init 8 = .ok (.dup, 1) := by decide +kernel
theorem dX5_init_9 : decode cX5_init 9 = .ok (.iconst 0, 1) := by decide +kernel
theorem dX5_init_10 : decode cX5_init 10 = .ok (.bipush (-9), 2) := by decide +kernel
theorem dX5_init_12 : decode cX5_init 12 = .ok (.iastore, 1) := by decide +kernel
theorem dX5_init_13 : decode cX5_init 13 = .ok (.dup, 1) := by decide +kernel
theorem dX5_init_14 : decode cX5_init 14 = .ok (.iconst 1, 1) := by decide +kernel
theorem dX5_init_15 : decode cX5_init 15 = .ok (.bipush (-9), 2) := by decide +kernel
theorem dX5_init_17 : decode cX5_init 17 = .ok (.iastore, 1) := by decide +kernel
theorem dX5_init_18 : decode cX5_init 18 = .ok (.dup, 1) := by decide +kernel
theorem dX5_init_19 : decode cX5_init 19 = .ok (.iconst 2, 1) := by decide +kernel
theorem dX5_init_20 : decode cX5_init 20 = .ok (.bipush (-9), 2) := by decide +kernel
theorem dX5_init_22 : decode cX5_init 22 = .ok (.iastore, 1) := by decide +kernel
theorem dX5_init_23 : decode cX5_init 23 = .ok (.dup, 1) := by decide +kernel
theorem dX5_init_24 : decode cX5_init 24 = .ok (.iconst 3, 1) := by decide +kernel
theorem dX5_init_25 : decode cX5_init 25 = .ok (.bipush (-9), 2) := by decide +kernel
theorem dX5_init_27 : decode cX5_init 27 = .ok (.iastore, 1) := by decide +kernel
theorem dX5_init_28 : decode cX5_init 28 = .ok (.putfield 9, 3) := by decide +kernel
theorem dX5_init_31 : decode cX5_init 31 = .ok (.aload_n 0, 1) := by decide +kernel
theorem dX5_init_32 : decode cX5_init 32 = .ok (.iconst 4, 1) := by decide +kernel
theorem dX5_init_33 : decode cX5_init 33 = .ok (.newarray .int, 2) := by decide +kernel
theorem dX5_init_35 : decode cX5_init 35 = .ok (.putfield 13, 3) := by decide +kernel
theorem dX5_init_38 : decode cX5_init 38 = .ok (.aload_n 0, 1) := by decide +kernel
theorem dX5_init_39 : decode cX5_init 39 = .ok (.sipush 240, 3) := by decide +kernel
theorem dX5_init_42 : decode cX5_init 42 = .ok (.newarray .int, 2) := by decide +kernel
theorem dX5_init_44 : decode cX5_init 44 = .ok (.putfield 16, 3) := by decide +kernel
theorem dX5_init_47 : decode cX5_init 47 = .ok (.aload_n 0, 1) := by decide +kernel
theorem dX5_init_48 : decode cX5_init 48 = .ok (.bipush 10, 2) := by decide +kernel
theorem dX5_init_50 : decode cX5_init 50 = .ok (.newarray .int, 2) := by decide +kernel
theorem dX5_init_52 : decode cX5_init 52 = .ok (.putfield 19, 3) := by decide +kernel
theorem dX5_init_55 : decode cX5_init 55 = .ok (.aload_n 0, 1) := by decide +kernel
theorem dX5_init_56 : decode cX5_init 56 = .ok (.bipush 10, 2) := by decide +kernel
theorem dX5_init_58 : decode cX5_init 58 = .ok (.newarray .int, 2) := by decide +kernel
theorem dX5_init_60 : decode cX5_init 60 = .ok (.putfield 22, 3) := by decide +kernel
theorem dX5_init_63 : decode cX5_init 63 = .ok (.aload_n 0, 1) := by decide +kernel
theorem dX5_init_64 : decode cX5_init 64 = .ok (.bipush 10, 2) := by decide +kernel
theorem dX5_init_66 : decode cX5_init 66 = .ok (.newarray .boolean, 2) := by decide +kernel
theorem dX5_init_68 : decode cX5_init 68 = .ok (.putfield 25, 3) := by decide +kernel
theorem dX5_init_71 : decode cX5_init 71 = .ok (.aload_n 0, 1) := by decide +kernel
theorem dX5_init_72 : decode cX5_init 72 = .ok (.iconst 3, 1) := by decide +kernel
theorem dX5_init_73 : decode cX5_init 73 = .ok (.newarray .int, 2) := by decide +kernel
theorem dX5_init_75 : decode cX5_init 75 = .ok (.putfield 29, 3) := by decide +kernel
theorem dX5_init_78 : decode cX5_init 78 = .ok (.aload_n 0, 1) := by decide +kernel
theorem dX5_init_79 : decode cX5_init 79 = .ok (.bipush 10, 2) := by decide +kernel
theorem dX5_init_81 : decode cX5_init 81 = .ok (.newarray .int, 2) := by decide +kernel
theorem dX5_init_83 : decode cX5_init 83 = .ok (.putfield 32, 3) := by decide +kernel
theorem dX5_init_86 : decode cX5_init 86 = .ok (.aload_n 0, 1) := by decide +kernel
theorem dX5_init_87 : decode cX5_init 87 = .ok (.bipush 10, 2) := by decide +kernel
theorem dX5_init_89 : decode cX5_init 89 = .ok (.newarray .int, 2) := by decide +kernel
theorem dX5_init_91 : decode cX5_init 91 = .ok (.putfield 35, 3) := by decide +kernel
theorem dX5_init_94 : decode cX5_init 94 = .ok (.aload_n 0, 1) := by decide +kernel
theorem dX5_init_95 : decode cX5_init 95 = .ok (.bipush 10, 2) := by decide +kernel
theorem dX5_init_97 : decode cX5_init 97 = .ok (.newarray .boolean, 2) := by decide +kernel
theorem dX5_init_99 : decode cX5_init 99 = .ok (.putfield 38, 3) := by decide +kernel
theorem dX5_init_102 : decode cX5_init 102 = .ok (.aload_n 0, 1) := by decide +kernel
theorem dX5_init_103 : decode cX5_init 103 = .ok (.sipush 21000, 3) := by decide +kernel
theorem dX5_init_106 : decode cX5_init 106 = .ok (.newarray .int, 2) := by decide +kernel
theorem dX5_init_108 : decode cX5_init 108 = .ok (.putfield 41, 3) := by decide +kernel
theorem dX5_init_111 : decode cX5_init 111 = .ok (.aload_n 0, 1) := by decide +kernel
theorem dX5_init_112 : decode cX5_init 112 = .ok (.bipush 8, 2) := by decide +kernel
theorem dX5_init_114 : decode cX5_init 114 = .ok (.newarray .int, 2) := by decide +kernel
theorem dX5_init_116 : decode cX5_init 116 = .ok (.putfield 44, 3) := by decide +kernel
theorem dX5_init_119 : decode cX5_init 119 = .ok (.aload_n 0, 1) := by decide +kernel
theorem dX5_init_120 : decode cX5_init 120 = .ok (.bipush 10, 2) := by decide +kernel
theorem dX5_init_122 : decode cX5_init 122 = .ok (.newarray .int, 2) := by decide +kernel
theorem dX5_init_124 : decode cX5_init 124 = .ok (.putfield 47, 3) := by decide +kernel
theorem dX5_init_127 : decode cX5_init 127 = .ok (.aload_n 0, 1) := by decide +kernel
theorem dX5_init_128 : decode cX5_init 128 = .ok (.bipush 10, 2) := by decide +kernel
theorem dX5_init_130 : decode cX5_init 130 = .ok (.newarray .int, 2) := by decide +kernel
theorem dX5_init_132 : decode cX5_init 132 = .ok (.putfield 50, 3) := by decide +kernel
theorem dX5_init_135 : decode cX5_init 135 = .ok (.return_, 1) := by decide +kernel
theorem dX5_fails_0 : decode cX5_fails 0 = .ok (.aload_n 0, 1) := by decide +kernel
theorem dX5_fails_1 : decode cX5_fails 1 = .ok (.iload_n 1, 1) := by decide +kernel
theorem dX5_fails_2 : decode cX5_fails 2 = .ok (.putfield 53, 3) := by decide +kernel
theorem dX5_fails_5 : decode cX5_fails 5 = .ok (.bipush (-10), 2) := by decide +kernel
theorem dX5_fails_7 : decode cX5_fails 7 = .ok (.iload_n 1, 1) := by decide +kernel
theorem dX5_fails_8 : decode cX5_fails 8 = .ok (.isub, 1) := by decide +kernel
theorem dX5_fails_9 : decode cX5_fails 9 = .ok (.ireturn, 1) := by decide +kernel
theorem dX5_lost_0 : decode cX5_lost 0 = .ok (.aload_n 0, 1) := by decide +kernel
theorem dX5_lost_1 : decode cX5_lost 1 = .ok (.iload_n 1, 1) := by decide +kernel
theorem dX5_lost_2 : decode cX5_lost 2 = .ok (.putfield 53, 3) := by decide +kernel
theorem dX5_lost_5 : decode cX5_lost 5 = .ok (.ldc2_w 57, 3) := by decide +kernel
theorem dX5_lost_8 : decode cX5_lost 8 = .ok (.lreturn, 1) := by decide +kernel
theorem dX5_within_0 : decode cX5_within 0 = .ok (.iload_n 0, 1) := by decide +kernel
theorem dX5_within_1 : decode cX5_within 1 = .ok (.iload_n 1, 1) := by decide +kernel
theorem dX5_within_2 : decode cX5_within 2 = .ok (.if_icmp .lt 12, 3) := by decide +kernel
theorem dX5_within_5 : decode cX5_within 5 = .ok (.iload_n 0, 1) := by decide +kernel
theorem dX5_within_6 : decode cX5_within 6 = .ok (.iload_n 2, 1) := by decide +kernel
theorem dX5_within_7 : decode cX5_within 7 = .ok (.if_icmp .gt 7, 3) := by decide +kernel
theorem dX5_within_10 : decode cX5_within 10 = .ok (.iconst 1, 1) := by decide +kernel
theorem dX5_within_11 : decode cX5_within 11 = .ok (.goto 4, 3) := by decide +kernel
theorem dX5_within_14 : decode cX5_within 14 = .ok (.iconst 0, 1) := by decide +kernel
theorem dX5_within_15 : decode cX5_within 15 = .ok (.ireturn, 1) := by decide +kernel
set_option maxRecDepth 20000 in
theorem ggX5_isSheet_X5_within : GoodIn wsX5_isSheet wsX5_within := goodIn_r _ [4] (by decide +kernel) (by decide +kernel)
set_option maxRecDepth 20000 in
theorem gX5_isSheet_X5_within : GoodIn wsX5_isSheet (va_wsS RX5 59 yX5_within wsX5_within) := goodIn_app (goodIn_of _ (by decide +kernel)) ggX5_isSheet_X5_within
theorem dX5_isSheet_0 : decode cX5_isSheet 0 = .ok (.iload_n 0, 1) := by decide +kernel
theorem dX5_isSheet_1 : decode cX5_isSheet 1 = .ok (.iconst 0, 1) := by decide +kernel
theorem dX5_isSheet_2 : decode cX5_isSheet 2 = .ok (.iconst 3, 1) := by decide +kernel
theorem dX5_isSheet_3 : decode cX5_isSheet 3 = .ok (.invokestatic 59, 3) := by decide +kernel
theorem dX5_isSheet_6 : decode cX5_isSheet 6 = .ok (.ireturn, 1) := by decide +kernel
set_option maxRecDepth 20000 in
theorem ggX5_isSort_X5_within : GoodIn wsX5_isSort wsX5_within := goodIn_r _ [4] (by decide +kernel) (by decide +kernel)
set_option maxRecDepth 20000 in
theorem gX5_isSort_X5_within : GoodIn wsX5_isSort (va_wsS RX5 59 yX5_within wsX5_within) := goodIn_app (goodIn_of _ (by decide +kernel)) ggX5_isSort_X5_within
theorem dX5_isSort_0 : decode cX5_isSort 0 = .ok (.iload_n 0, 1) := by decide +kernel
theorem dX5_isSort_1 : decode cX5_isSort 1 = .ok (.iconst 0, 1) := by decide +kernel
theorem dX5_isSort_2 : decode cX5_isSort 2 = .ok (.iconst 2, 1) := by decide +kernel
theorem dX5_isSort_3 : decode cX5_isSort 3 = .ok (.invokestatic 59, 3) := by decide +kernel
theorem dX5_isSort_6 : decode cX5_isSort 6 = .ok (.ireturn, 1) := by decide +kernel
theorem dX5_against_0 : decode cX5_against 0 = .ok (.aload_n 0, 1) := by decide +kernel
theorem dX5_against_1 : decode cX5_against 1 = .ok (.getfield 9, 3) := by decide +kernel
theorem dX5_against_4 : decode cX5_against 4 = .ok (.iload_n 1, 1) := by decide +kernel
theorem dX5_against_5 : decode cX5_against 5 = .ok (.iaload, 1) := by decide +kernel
theorem dX5_against_6 : decode cX5_against 6 = .ok (.bipush (-9), 2) := by decide +kernel
theorem dX5_against_8 : decode cX5_against 8 = .ok (.if_icmp .eq 15, 3) := by decide +kernel
theorem dX5_against_11 : decode cX5_against 11 = .ok (.aload_n 0, 1) := by decide +kernel
theorem dX5_against_12 : decode cX5_against 12 = .ok (.getfield 9, 3) := by decide +kernel
theorem dX5_against_15 : decode cX5_against 15 = .ok (.iload_n 1, 1) := by decide +kernel
theorem dX5_against_16 : decode cX5_against 16 = .ok (.iaload, 1) := by decide +kernel
theorem dX5_against_17 : decode cX5_against 17 = .ok (.iload_n 2, 1) := by decide +kernel
theorem dX5_against_18 : decode cX5_against 18 = .ok (.if_icmp .eq 5, 3) := by decide +kernel
theorem dX5_against_21 : decode cX5_against 21 = .ok (.iconst 2, 1) := by decide +kernel
theorem dX5_against_22 : decode cX5_against 22 = .ok (.ireturn, 1) := by decide +kernel
theorem dX5_against_23 : decode cX5_against 23 = .ok (.aload_n 0, 1) := by decide +kernel
theorem dX5_against_24 : decode cX5_against 24 = .ok (.getfield 9, 3) := by decide +kernel
theorem dX5_against_27 : decode cX5_against 27 = .ok (.iload_n 1, 1) := by decide +kernel
theorem dX5_against_28 : decode cX5_against 28 = .ok (.iaload, 1) := by decide +kernel
theorem dX5_against_29 : decode cX5_against 29 = .ok (.bipush (-9), 2) := by decide +kernel
theorem dX5_against_31 : decode cX5_against 31 = .ok (.if_icmp .ne 5, 3) := by decide +kernel
theorem dX5_against_34 : decode cX5_against 34 = .ok (.iconst 1, 1) := by decide +kernel
theorem dX5_against_35 : decode cX5_against 35 = .ok (.ireturn, 1) := by decide +kernel
theorem dX5_against_36 : decode cX5_against 36 = .ok (.iload 4, 2) := by decide +kernel
theorem dX5_against_38 : decode cX5_against 38 = .ok (.ifCond .ge 5, 3) := by decide +kernel
theorem dX5_against_41 : decode cX5_against 41 = .ok (.iconst 4, 1) := by decide +kernel
theorem dX5_against_42 : decode cX5_against 42 = .ok (.ireturn, 1) := by decide +kernel
theorem dX5_against_43 : decode cX5_against 43 = .ok (.iload_n 3, 1) := by decide +kernel
theorem dX5_against_44 : decode cX5_against 44 = .ok (.ifCond .lt 26, 3) := by decide +kernel
theorem dX5_against_47 : decode cX5_against 47 = .ok (.iload_n 3, 1) := by decide +kernel
theorem dX5_against_48 : decode cX5_against 48 = .ok (.aload_n 0, 1) := by decide +kernel
theorem dX5_against_49 : decode cX5_against 49 = .ok (.getfield 13, 3) := by decide +kernel
theorem dX5_against_52 : decode cX5_against 52 = .ok (.iload_n 1, 1) := by decide +kernel
theorem dX5_against_53 : decode cX5_against 53 = .ok (.iaload, 1) := by decide +kernel
theorem dX5_against_54 : decode cX5_against 54 = .ok (.if_icmp .gt 16, 3) := by decide +kernel
theorem dX5_against_57 : decode cX5_against 57 = .ok (.iload 4, 2) := by decide +kernel
theorem dX5_against_59 : decode cX5_against 59 = .ok (.aload_n 0, 1) := by decide +kernel
theorem dX5_against_60 : decode cX5_against 60 = .ok (.getfield 13, 3) := by decide +kernel
theorem dX5_against_63 : decode cX5_against 63 = .ok (.iload_n 1, 1) := by decide +kernel
theorem dX5_against_64 : decode cX5_against 64 = .ok (.iaload, 1) := by decide +kernel
theorem dX5_against_65 : decode cX5_against 65 = .ok (.iload_n 3, 1) := by decide +kernel
theorem dX5_against_66 : decode cX5_against 66 = .ok (.isub, 1) := by decide +kernel
theorem dX5_against_67 : decode cX5_against 67 = .ok (.if_icmp .le 7, 3) := by decide +kernel
theorem dX5_against_70 : decode cX5_against 70 = .ok (.iconst 3, 1) := by decide +kernel
theorem dX5_against_71 : decode cX5_against 71 = .ok (.goto 4, 3) := by decide +kernel
theorem dX5_against_74 : decode cX5_against 74 = .ok (.iconst 0, 1) := by decide +kernel
theorem dX5_against_75 : decode cX5_against 75 = .ok (.ireturn, 1) := by decide +kernel
theorem dX5_isFlag_0 : decode cX5_isFlag 0 = .ok (.iload_n 1, 1) := by decide +kernel
theorem dX5_isFlag_1 : decode cX5_isFlag 1 = .ok (.ifCond .lt 15, 3) := by decide +kernel
theorem dX5_isFlag_4 : decode cX5_isFlag 4 = .ok (.iload_n 1, 1) := by decide +kernel
theorem dX5_isFlag_5 : decode cX5_isFlag 5 = .ok (.aload_n 0, 1) := by decide +kernel
theorem dX5_isFlag_6 : decode cX5_isFlag 6 = .ok (.getfield 63, 3) := by decide +kernel
theorem dX5_isFlag_9 : decode cX5_isFlag 9 = .ok (.if_icmp .ge 7, 3) := by decide +kernel
theorem dX5_isFlag_12 : decode cX5_isFlag 12 = .ok (.iconst 1, 1) := by decide +kernel
theorem dX5_isFlag_13 : decode cX5_isFlag 13 = .ok (.goto 4, 3) := by decide +kernel
theorem dX5_isFlag_16 : decode cX5_isFlag 16 = .ok (.iconst 0, 1) := by decide +kernel
theorem dX5_isFlag_17 : decode cX5_isFlag 17 = .ok (.ireturn, 1) := by decide +kernel
set_option maxRecDepth 20000 in
theorem ggX5_digit_X5_within : GoodIn wsX5_digit wsX5_within := goodIn_r _ [6] (by decide +kernel) (by decide +kernel)
set_option maxRecDepth 20000 in
theorem gX5_digit_X5_within : GoodIn wsX5_digit (va_wsS RX5 59 yX5_within wsX5_within) := goodIn_app (goodIn_of _ (by decide +kernel)) ggX5_digit_X5_within
theorem dX5_digit_0 : decode cX5_digit 0 = .ok (.aload_n 0, 1) := by decide +kernel
theorem dX5_digit_1 : decode cX5_digit 1 = .ok (.getfield 66, 3) := by decide +kernel
theorem dX5_digit_4 : decode cX5_digit 4 = .ok (.iload_n 1, 1) := by decide +kernel
theorem dX5_digit_5 : decode cX5_digit 5 = .ok (.if_icmp .ge 26, 3) := by decide +kernel
theorem dX5_digit_8 : decode cX5_digit 8 = .ok (.aload_n 0, 1) := by decide +kernel
theorem dX5_digit_9 : decode cX5_digit 9 = .ok (.getfield 16, 3) := by decide +kernel
theorem dX5_digit_12 : decode cX5_digit 12 = .ok (.aload_n 0, 1) := by decide +kernel
theorem dX5_digit_13 : decode cX5_digit 13 = .ok (.getfield 66, 3) := by decide +kernel
theorem dX5_digit_16 : decode cX5_digit 16 = .ok (.iaload, 1) := by decide +kernel
theorem dX5_digit_17 : decode cX5_digit 17 = .ok (.bipush 48, 2) := by decide +kernel
theorem dX5_digit_19 : decode cX5_digit 19 = .ok (.iload_n 2, 1) := by decide +kernel
theorem dX5_digit_20 : decode cX5_digit 20 = .ok (.iadd, 1) := by decide +kernel
theorem dX5_digit_21 : decode cX5_digit 21 = .ok (.bipush 48, 2) := by decide +kernel
theorem dX5_digit_23 : decode cX5_digit 23 = .ok (.iload_n 3, 1) := by decide +kernel
theorem dX5_digit_24 : decode cX5_digit 24 = .ok (.iadd, 1) := by decide +kernel
theorem dX5_digit_25 : decode cX5_digit 25 = .ok (.invokestatic 59, 3) := by decide +kernel
theorem dX5_digit_28 : decode cX5_digit 28 = .ok (.ifCond .ne 6, 3) := by decide +kernel
theorem dX5_digit_31 : decode cX5_digit 31 = .ok (.bipush (-9), 2) := by decide +kernel
theorem dX5_digit_33 : decode cX5_digit 33 = .ok (.ireturn, 1) := by decide +kernel
theorem dX5_digit_34 : decode cX5_digit 34 = .ok (.aload_n 0, 1) := by decide +kernel
theorem dX5_digit_35 : decode cX5_digit 35 = .ok (.dup, 1) := by decide +kernel
theorem dX5_digit_36 : decode cX5_digit 36 = .ok (.getfield 66, 3) := by decide +kernel
theorem dX5_digit_39 : decode cX5_digit 39 = .ok (.iconst 1, 1) := by decide +kernel
theorem dX5_digit_40 : decode cX5_digit 40 = .ok (.iadd, 1) := by decide +kernel
theorem dX5_digit_41 : decode cX5_digit 41 = .ok (.putfield 66, 3) := by decide +kernel
theorem dX5_digit_44 : decode cX5_digit 44 = .ok (.aload_n 0, 1) := by decide +kernel
theorem dX5_digit_45 : decode cX5_digit 45 = .ok (.getfield 16, 3) := by decide +kernel
theorem dX5_digit_48 : decode cX5_digit 48 = .ok (.aload_n 0, 1) := by decide +kernel
theorem dX5_digit_49 : decode cX5_digit 49 = .ok (.getfield 66, 3) := by decide +kernel
theorem dX5_digit_52 : decode cX5_digit 52 = .ok (.iconst 1, 1) := by decide +kernel
theorem dX5_digit_53 : decode cX5_digit 53 = .ok (.isub, 1) := by decide +kernel
theorem dX5_digit_54 : decode cX5_digit 54 = .ok (.iaload, 1) := by decide +kernel
theorem dX5_digit_55 : decode cX5_digit 55 = .ok (.bipush 48, 2) := by decide +kernel
theorem dX5_digit_57 : decode cX5_digit 57 = .ok (.isub, 1) := by decide +kernel
theorem dX5_digit_58 : decode cX5_digit 58 = .ok (.ireturn, 1) := by decide +kernel
theorem dX5_isSign_0 : decode cX5_isSign 0 = .ok (.aload_n 0, 1) := by decide +kernel
theorem dX5_isSign_1 : decode cX5_isSign 1 = .ok (.getfield 66, 3) := by decide +kernel
theorem dX5_isSign_4 : decode cX5_isSign 4 = .ok (.iload_n 1, 1) := by decide +kernel
theorem dX5_isSign_5 : decode cX5_isSign 5 = .ok (.if_icmp .ge 16, 3) := by decide +kernel
theorem dX5_isSign_8 : decode cX5_isSign 8 = .ok (.aload_n 0, 1) := by decide +kernel
theorem dX5_isSign_9 : decode cX5_isSign 9 = .ok (.getfield 16, 3) := by decide +kernel
theorem dX5_isSign_12 : decode cX5_isSign 12 = .ok (.aload_n 0, 1) := by decide +kernel
theorem dX5_isSign_13 : decode cX5_isSign 13 = .ok (.getfield 66, 3) := by decide +kernel
theorem dX5_isSign_16 : decode cX5_isSign 16 = .ok (.iaload, 1) := by decide +kernel
theorem dX5_isSign_17 : decode cX5_isSign 17 = .ok (.iload_n 2, 1) := by decide +kernel
theorem dX5_isSign_18 : decode cX5_isSign 18 = .ok (.if_icmp .eq 5, 3) := by decide +kernel
theorem dX5_isSign_21 : decode cX5_isSign 21 = .ok (.iconst 0, 1) := by decide +kernel
theorem dX5_isSign_22 : decode cX5_isSign 22 = .ok (.ireturn, 1) := by decide +kernel
theorem dX5_isSign_23 : decode cX5_isSign 23 = .ok (.aload_n 0, 1) := by decide +kernel
theorem dX5_isSign_24 : decode cX5_isSign 24 = .ok (.dup, 1) := by decide +kernel
theorem dX5_isSign_25 : decode cX5_isSign 25 = .ok (.getfield 66, 3) := by decide +kernel
theorem dX5_isSign_28 : decode cX5_isSign 28 = .ok (.iconst 1, 1) := by decide +kernel
theorem dX5_isSign_29 : decode cX5_isSign 29 = .ok (.iadd, 1) := by decide +kernel
theorem dX5_isSign_30 : decode cX5_isSign 30 = .ok (.putfield 66, 3) := by decide +kernel
theorem dX5_isSign_33 : decode cX5_isSign 33 = .ok (.iconst 1, 1) := by decide +kernel
theorem dX5_isSign_34 : decode cX5_isSign 34 = .ok (.ireturn, 1) := by decide +kernel
set_option maxRecDepth 20000 in
theorem ggX5_street_X5_isSheet : GoodIn wsX5_street wsX5_isSheet := goodIn_r _ [19, 20, 21, 18, 22] (by decide +kernel) (by decide +kernel)
set_option maxRecDepth 20000 in
theorem gX5_street_X5_isSheet : GoodIn wsX5_street (va_wsS RX5 69 yX5_isSheet wsX5_isSheet) := goodIn_app (goodIn_of _ (by decide +kernel)) ggX5_street_X5_isSheet
set_option maxRecDepth 20000 in
theorem ggX5_street_X5_isSort : GoodIn wsX5_street wsX5_isSort := goodIn_r _ [25, 20, 21, 18, 22] (by decide +kernel) (by decide +kernel)
set_option maxRecDepth 20000 in
theorem gX5_street_X5_isSort : GoodIn wsX5_street (va_wsS RX5 73 yX5_isSort wsX5_isSort) := goodIn_app (goodIn_of _ (by decide +kernel)) ggX5_street_X5_isSort
set_option maxRecDepth 20000 in
theorem ggX5_street_X5_against : GoodIn wsX5_street wsX5_against := goodIn_r _ [29, 30, 31, 53, 54, 55, 56, 57, 58, 59, 60, 61, 62, 63, 64, 65, 66, 67, 68, 69, 70, 71, 72, 73, 74, 75, 76, 77, 78, 79, 80, 81, 82, 83, 84] (by decide +kernel) (by decide +kernel)
set_option maxRecDepth 20000 in
theorem gX5_street_X5_against : GoodIn wsX5_street (wsV RX5 76 RX5 yX5_against wsX5_against) := goodIn_app (goodIn_of _ (by decide +kernel)) ggX5_street_X5_against
set_option maxRecDepth 20000 in
theorem ggX5_street_X5_fails : GoodIn wsX5_street wsX5_fails := goodIn_r _ [35, 1, 53, 54, 55, 56, 57, 58, 59, 60, 61, 62, 63, 64, 65, 66, 67, 68, 69, 70, 71, 72, 73, 74, 75, 76, 77, 78, 79, 80, 81, 82, 83, 84] (by decide +kernel) (by decide +kernel)
set_option maxRecDepth 20000 in
theorem gX5_street_X5_fails : GoodIn wsX5_street (wsV RX5 80 RX5 yX5_fails wsX5_fails) := goodIn_app (goodIn_of _ (by decide +kernel)) ggX5_street_X5_fails
set_option maxRecDepth 20000 in
theorem ggX5_street_X5_readStreet : GoodIn wsX5_street wsX5_readStreet := goodIn_r _ [39, 7, 3, 2, 40, 41, 42, 18, 43, 44, 45, 46, 47, 48, 20, 21, 22, 49, 50, 51, 52, 10, 12, 14, 53, 54, 55, 56, 57, 58, 59, 60, 61, 62, 63, 64, 65, 66, 67, 68, 69, 70, 71, 72, 73, 74, 75, 76, 77, 78, 79, 80, 81, 82, 83, 84] (by decide +kernel) (by decide +kernel)
set_option maxRecDepth 20000 in
theorem gX5_street_X5_readStreet : GoodIn wsX5_street (wsV RX5 84 RX5 yX5_readStreet wsX5_readStreet) := goodIn_app (goodIn_of _ (by decide +kernel)) ggX5_street_X5_readStreet
theorem dX5_street_0 : decode cX5_street 0 = .ok (.aload_n 0, 1) := by decide +kernel
theorem dX5_street_1 : decode cX5_street 1 = .ok (.iconst 0, 1) := by decide +kernel
theorem dX5_street_2 : decode cX5_street 2 = .ok (.putfield 53, 3) := by decide +kernel
theorem dX5_street_5 : decode cX5_street 5 = .ok (.iload_n 1, 1) := by decide +kernel
theorem dX5_street_6 : decode cX5_street 6 = .ok (.invokestatic 69, 3) := by decide +kernel
theorem dX5_street_9 : decode cX5_street 9 = .ok (.ifCond .ne 5, 3) := by decide +kernel
theorem dX5_street_12 : decode cX5_street 12 = .ok (.iconst (-1), 1) := by decide +kernel
theorem dX5_street_13 : decode cX5_street 13 = .ok (.ireturn, 1) := by decide +kernel
theorem dX5_street_14 : decode cX5_street 14 = .ok (.iload_n 2, 1) := by decide +kernel
theorem dX5_street_15 : decode cX5_street 15 = .ok (.invokestatic 73, 3) := by decide +kernel
theorem dX5_street_18 : decode cX5_street 18 = .ok (.ifCond .ne 6, 3) := by decide +kernel
theorem dX5_street_21 : decode cX5_street 21 = .ok (.bipush (-2), 2) := by decide +kernel
theorem dX5_street_23 : decode cX5_street 23 = .ok (.ireturn, 1) := by decide +kernel
theorem dX5_street_24 : decode cX5_street 24 = .ok (.aload_n 0, 1) := by decide +kernel
theorem dX5_street_25 : decode cX5_street 25 = .ok (.iload_n 1, 1) := by decide +kernel
theorem dX5_street_26 : decode cX5_street 26 = .ok (.iload_n 2, 1) := by decide +kernel
theorem dX5_street_27 : decode cX5_street 27 = .ok (.iload_n 3, 1) := by decide +kernel
theorem dX5_street_28 : decode cX5_street 28 = .ok (.iload 4, 2) := by decide +kernel
theorem dX5_street_30 : decode cX5_street 30 = .ok (.invokevirtual 76, 3) := by decide +kernel
theorem dX5_street_33 : decode cX5_street 33 = .ok (.istore 5, 2) := by decide +kernel
theorem dX5_street_35 : decode cX5_street 35 = .ok (.iload 5, 2) := by decide +kernel
theorem dX5_street_37 : decode cX5_street 37 = .ok (.ifCond .eq 10, 3) := by decide +kernel
theorem dX5_street_40 : decode cX5_street 40 = .ok (.aload_n 0, 1) := by decide +kernel
theorem dX5_street_41 : decode cX5_street 41 = .ok (.iload 5, 2) := by decide +kernel
theorem dX5_street_43 : decode cX5_street 43 = .ok (.invokevirtual 80, 3) := by decide +kernel
theorem dX5_street_46 : decode cX5_street 46 = .ok (.ireturn, 1) := by decide +kernel
theorem dX5_street_47 : decode cX5_street 47 = .ok (.bipush 60, 2) := by decide +kernel
theorem dX5_street_49 : decode cX5_street 49 = .ok (.iload_n 1, 1) := by decide +kernel
theorem dX5_street_50 : decode cX5_street 50 = .ok (.imul, 1) := by decide +kernel
theorem dX5_street_51 : decode cX5_street 51 = .ok (.iload_n 3, 1) := by decide +kernel
theorem dX5_street_52 : decode cX5_street 52 = .ok (.iadd, 1) := by decide +kernel
theorem dX5_street_53 : decode cX5_street 53 = .ok (.istore 6, 2) := by decide +kernel
theorem dX5_street_55 : decode cX5_street 55 = .ok (.aload_n 0, 1) := by decide +kernel
theorem dX5_street_56 : decode cX5_street 56 = .ok (.iload 6, 2) := by decide +kernel
theorem dX5_street_58 : decode cX5_street 58 = .ok (.putfield 66, 3) := by decide +kernel
theorem dX5_street_61 : decode cX5_street 61 = .ok (.aload_n 0, 1) := by decide +kernel
theorem dX5_street_62 : decode cX5_street 62 = .ok (.iload 6, 2) := by decide +kernel
theorem dX5_street_64 : decode cX5_street 64 = .ok (.iload 4, 2) := by decide +kernel
theorem dX5_street_66 : decode cX5_street 66 = .ok (.iadd, 1) := by decide +kernel
theorem dX5_street_67 : decode cX5_street 67 = .ok (.invokevirtual 84, 3) := by decide +kernel
theorem dX5_street_70 : decode cX5_street 70 = .ok (.ifCond .ne 14, 3) := by decide +kernel
theorem dX5_street_73 : decode cX5_street 73 = .ok (.bipush (-100), 2) := by decide +kernel
theorem dX5_street_75 : decode cX5_street 75 = .ok (.aload_n 0, 1) := by decide +kernel
theorem dX5_street_76 : decode cX5_street 76 = .ok (.getfield 66, 3) := by decide +kernel
theorem dX5_street_79 : decode cX5_street 79 = .ok (.iload 6, 2) := by decide +kernel
theorem dX5_street_81 : decode cX5_street 81 = .ok (.isub, 1) := by decide +kernel
theorem dX5_street_82 : decode cX5_street 82 = .ok (.isub, 1) := by decide +kernel
theorem dX5_street_83 : decode cX5_street 83 = .ok (.ireturn, 1) := by decide +kernel
theorem dX5_street_84 : decode cX5_street 84 = .ok (.aload_n 0, 1) := by decide +kernel
theorem dX5_street_85 : decode cX5_street 85 = .ok (.aload_n 0, 1) := by decide +kernel
theorem dX5_street_86 : decode cX5_street 86 = .ok (.getfield 29, 3) := by decide +kernel
theorem dX5_street_89 : decode cX5_street 89 = .ok (.iconst 0, 1) := by decide +kernel
theorem dX5_street_90 : decode cX5_street 90 = .ok (.iaload, 1) := by decide +kernel
theorem dX5_street_91 : decode cX5_street 91 = .ok (.putfield 87, 3) := by decide +kernel
theorem dX5_street_94 : decode cX5_street 94 = .ok (.aload_n 0, 1) := by decide +kernel
theorem dX5_street_95 : decode cX5_street 95 = .ok (.aload_n 0, 1) := by decide +kernel
theorem dX5_street_96 : decode cX5_street 96 = .ok (.getfield 29, 3) := by decide +kernel
theorem dX5_street_99 : decode cX5_street 99 = .ok (.iconst 1, 1) := by decide +kernel
theorem dX5_street_100 : decode cX5_street 100 = .ok (.iaload, 1) := by decide +kernel
theorem dX5_street_101 : decode cX5_street 101 = .ok (.putfield 90, 3) := by decide +kernel
theorem dX5_street_104 : decode cX5_street 104 = .ok (.aload_n 0, 1) := by decide +kernel
theorem dX5_street_105 : decode cX5_street 105 = .ok (.aload_n 0, 1) := by decide +kernel
theorem dX5_street_106 : decode cX5_street 106 = .ok (.getfield 29, 3) := by decide +kernel
theorem dX5_street_109 : decode cX5_street 109 = .ok (.iconst 2, 1) := by decide +kernel
theorem dX5_street_110 : decode cX5_street 110 = .ok (.iaload, 1) := by decide +kernel
theorem dX5_street_111 : decode cX5_street 111 = .ok (.putfield 93, 3) := by decide +kernel
theorem dX5_street_114 : decode cX5_street 114 = .ok (.aload_n 0, 1) := by decide +kernel
theorem dX5_street_115 : decode cX5_street 115 = .ok (.aload_n 0, 1) := by decide +kernel
theorem dX5_street_116 : decode cX5_street 116 = .ok (.getfield 96, 3) := by decide +kernel
theorem dX5_street_119 : decode cX5_street 119 = .ok (.putfield 63, 3) := by decide +kernel
theorem dX5_street_122 : decode cX5_street 122 = .ok (.iconst 0, 1) := by decide +kernel
theorem dX5_street_123 : decode cX5_street 123 = .ok (.istore 7, 2) := by decide +kernel
theorem dX5_street_125 : decode cX5_street 125 = .ok (.iload 7, 2) := by decide +kernel
theorem dX5_street_127 : decode cX5_street 127 = .ok (.aload_n 0, 1) := by decide +kernel
theorem dX5_street_128 : decode cX5_street 128 = .ok (.getfield 63, 3) := by decide +kernel
theorem dX5_street_131 : decode cX5_street 131 = .ok (.if_icmp .ge 51, 3) := by decide +kernel
theorem dX5_street_134 : decode cX5_street 134 = .ok (.aload_n 0, 1) := by decide +kernel
theorem dX5_street_135 : decode cX5_street 135 = .ok (.getfield 19, 3) := by decide +kernel
theorem dX5_street_138 : decode cX5_street 138 = .ok (.iload 7, 2) := by decide +kernel
theorem dX5_street_140 : decode cX5_street 140 = .ok (.aload_n 0, 1) := by decide +kernel
theorem dX5_street_141 : decode cX5_street 141 = .ok (.getfield 32, 3) := by decide +kernel
theorem dX5_street_144 : decode cX5_street 144 = .ok (.iload 7, 2) := by decide +kernel
theorem dX5_street_146 : decode cX5_street 146 = .ok (.iaload, 1) := by decide +kernel
theorem dX5_street_147 : decode cX5_street 147 = .ok (.iastore, 1) := by decide +kernel
theorem dX5_street_148 : decode cX5_street 148 = .ok (.aload_n 0, 1) := by decide +kernel
theorem dX5_street_149 : decode cX5_street 149 = .ok (.getfield 22, 3) := by decide +kernel
theorem dX5_street_152 : decode cX5_street 152 = .ok (.iload 7, 2) := by decide +kernel
theorem dX5_street_154 : decode cX5_street 154 = .ok (.aload_n 0, 1) := by decide +kernel
theorem dX5_street_155 : decode cX5_street 155 = .ok (.getfield 35, 3) := by decide +kernel
theorem dX5_street_158 : decode cX5_street 158 = .ok (.iload 7, 2) := by decide +kernel
theorem dX5_street_160 : decode cX5_street 160 = .ok (.iaload, 1) := by decide +kernel
theorem dX5_street_161 : decode cX5_street 161 = .ok (.iastore, 1) := by decide +kernel
theorem dX5_street_162 : decode cX5_street 162 = .ok (.aload_n 0, 1) := by decide +kernel
theorem dX5_street_163 : decode cX5_street 163 = .ok (.getfield 25, 3) := by decide +kernel
theorem dX5_street_166 : decode cX5_street 166 = .ok (.iload 7, 2) := by decide +kernel
theorem dX5_street_168 : decode cX5_street 168 = .ok (.aload_n 0, 1) := by decide +kernel
theorem dX5_street_169 : decode cX5_street 169 = .ok (.getfield 38, 3) := by decide +kernel
theorem dX5_street_172 : decode cX5_street 172 = .ok (.iload 7, 2) := by decide +kernel
theorem dX5_street_174 : decode cX5_street 174 = .ok (.baload, 1) := by decide +kernel
theorem dX5_street_175 : decode cX5_street 175 = .ok (.bastore, 1) := by decide +kernel
theorem dX5_street_176 : decode cX5_street 176 = .ok (.iinc 7 1, 3) := by decide +kernel
theorem dX5_street_179 : decode cX5_street 179 = .ok (.goto (-54), 3) := by decide +kernel
theorem dX5_street_182 : decode cX5_street 182 = .ok (.aload_n 0, 1) := by decide +kernel
theorem dX5_street_183 : decode cX5_street 183 = .ok (.iconst 0, 1) := by decide +kernel
theorem dX5_street_184 : decode cX5_street 184 = .ok (.putfield 99, 3) := by decide +kernel
theorem dX5_street_187 : decode cX5_street 187 = .ok (.aload_n 0, 1) := by decide +kernel
theorem dX5_street_188 : decode cX5_street 188 = .ok (.getfield 63, 3) := by decide +kernel
theorem dX5_street_191 : decode cX5_street 191 = .ok (.ireturn, 1) := by decide +kernel
set_option maxRecDepth 20000 in
theorem ggX5_readStreet_X5_isSign : GoodIn wsX5_readStreet wsX5_isSign := goodIn_r _ [8, 3, 9, 24, 25, 26, 27, 28, 29, 30, 31, 32, 33, 34, 35, 36, 37, 38, 39, 40, 41, 42, 43, 44, 45, 46, 47, 48, 49, 50, 51, 52, 53, 54, 55] (by decide +kernel) (by decide +kernel)
set_option maxRecDepth 20000 in
theorem gX5_readStreet_X5_isSign : GoodIn wsX5_readStreet (wsV RX5 102 RX5 yX5_isSign wsX5_isSign) := goodIn_app (goodIn_of _ (by decide +kernel)) ggX5_readStreet_X5_isSign
set_option maxRecDepth 20000 in
theorem ggX5_readStreet_X5_digit : GoodIn wsX5_readStreet wsX5_digit := goodIn_r _ [13, 3, 9, 14, 15, 7, 16, 24, 25, 26, 27, 28, 29, 30, 31, 32, 33, 34, 35, 36, 37, 38, 39, 40, 41, 42, 43, 44, 45, 46, 47, 48, 49, 50, 51, 52, 53, 54, 55] (by decide +kernel) (by decide +kernel)
set_option maxRecDepth 20000 in
theorem gX5_readStreet_X5_digit : GoodIn wsX5_readStreet (wsV RX5 106 RX5 yX5_digit wsX5_digit) := goodIn_app (goodIn_of _ (by decide +kernel)) ggX5_readStreet_X5_digit
set_option maxRecDepth 20000 in
theorem ggX5_readStreet_X5_readFlag : GoodIn wsX5_readStreet wsX5_readFlag := goodIn_r _ [20, 3, 9, 21, 1, 22, 23, 10, 11, 12, 7, 13, 14, 15, 16, 4, 5, 6, 8, 24, 25, 26, 27, 28, 29, 30, 31, 32, 33, 34, 35, 36, 37, 38, 39, 40, 41, 42, 43, 44, 45, 46, 47, 48, 49, 50, 51, 52, 53, 54, 55] (by decide +kernel) (by decide +kernel)
set_option maxRecDepth 20000 in
theorem gX5_readStreet_X5_readFlag : GoodIn wsX5_readStreet (wsV RX5 110 RX5 yX5_readFlag wsX5_readFlag) := goodIn_app (goodIn_of _ (by decide +kernel)) ggX5_readStreet_X5_readFlag
theorem dX5_readStreet_0 : decode cX5_readStreet 0 = .ok (.aload_n 0, 1) := by decide +kernel
theorem dX5_readStreet_1 : decode cX5_readStreet 1 = .ok (.iconst 0, 1) := by decide +kernel
theorem dX5_readStreet_2 : decode cX5_readStreet 2 = .ok (.putfield 96, 3) := by decide +kernel
theorem dX5_readStreet_5 : decode cX5_readStreet 5 = .ok (.aload_n 0, 1) := by decide +kernel
theorem dX5_readStreet_6 : decode cX5_readStreet 6 = .ok (.iload_n 1, 1) := by decide +kernel
theorem dX5_readStreet_7 : decode cX5_readStreet 7 = .ok (.bipush 115, 2) := by decide +kernel
theorem dX5_readStreet_9 : decode cX5_readStreet 9 = .ok (.invokevirtual 102, 3) := by decide +kernel
theorem dX5_readStreet_12 : decode cX5_readStreet 12 = .ok (.ifCond .ne 5, 3) := by decide +kernel
theorem dX5_readStreet_15 : decode cX5_readStreet 15 = .ok (.iconst 0, 1) := by decide +kernel
theorem dX5_readStreet_16 : decode cX5_readStreet 16 = .ok (.ireturn, 1) := by decide +kernel
theorem dX5_readStreet_17 : decode cX5_readStreet 17 = .ok (.iconst 0, 1) := by decide +kernel
theorem dX5_readStreet_18 : decode cX5_readStreet 18 = .ok (.istore_n 2, 1) := by decide +kernel
theorem dX5_readStreet_19 : decode cX5_readStreet 19 = .ok (.iload_n 2, 1) := by decide +kernel
theorem dX5_readStreet_20 : decode cX5_readStreet 20 = .ok (.iconst 3, 1) := by decide +kernel
theorem dX5_readStreet_21 : decode cX5_readStreet 21 = .ok (.if_icmp .ge 61, 3) := by decide +kernel
theorem dX5_readStreet_24 : decode cX5_readStreet 24 = .ok (.aload_n 0, 1) := by decide +kernel
theorem dX5_readStreet_25 : decode cX5_readStreet 25 = .ok (.getfield 29, 3) := by decide +kernel
theorem dX5_readStreet_28 : decode cX5_readStreet 28 = .ok (.iload_n 2, 1) := by decide +kernel
theorem dX5_readStreet_29 : decode cX5_readStreet 29 = .ok (.aload_n 0, 1) := by decide +kernel
theorem dX5_readStreet_30 : decode cX5_readStreet 30 = .ok (.iload_n 1, 1) := by decide +kernel
theorem dX5_readStreet_31 : decode cX5_readStreet 31 = .ok (.iload_n 2, 1) := by decide +kernel
theorem dX5_readStreet_32 : decode cX5_readStreet 32 = .ok (.iconst 2, 1) := by decide +kernel
theorem dX5_readStreet_33 : decode cX5_readStreet 33 = .ok (.if_icmp .ne 7, 3) := by decide +kernel
theorem dX5_readStreet_36 : decode cX5_readStreet 36 = .ok (.iconst 0, 1) := by decide +kernel
theorem dX5_readStreet_37 : decode cX5_readStreet 37 = .ok (.goto 4, 3) := by decide +kernel
theorem dX5_readStreet_40 : decode cX5_readStreet 40 = .ok (.iconst 1, 1) := by decide +kernel
theorem dX5_readStreet_41 : decode cX5_readStreet 41 = .ok (.iload_n 2, 1) := by decide +kernel
theorem dX5_readStreet_42 : decode cX5_readStreet 42 = .ok (.ifCond .ne 7, 3) := by decide +kernel
theorem dX5_readStreet_45 : decode cX5_readStreet 45 = .ok (.iconst 4, 1) := by decide +kernel
theorem dX5_readStreet_46 : decode cX5_readStreet 46 = .ok (.goto 13, 3) := by decide +kernel
theorem dX5_readStreet_49 : decode cX5_readStreet 49 = .ok (.iload_n 2, 1) := by decide +kernel
theorem dX5_readStreet_50 : decode cX5_readStreet 50 = .ok (.iconst 1, 1) := by decide +kernel
theorem dX5_readStreet_51 : decode cX5_readStreet 51 = .ok (.if_icmp .ne 7, 3) := by decide +kernel
theorem dX5_readStreet_54 : decode cX5_readStreet 54 = .ok (.iconst 3, 1) := by decide +kernel
theorem dX5_readStreet_55 : decode cX5_readStreet 55 = .ok (.goto 4, 3) := by decide +kernel
theorem dX5_readStreet_58 : decode cX5_readStreet 58 = .ok (.iconst 2, 1) := by decide +kernel
theorem dX5_readStreet_59 : decode cX5_readStreet 59 = .ok (.invokevirtual 106, 3) := by decide +kernel
theorem dX5_readStreet_62 : decode cX5_readStreet 62 = .ok (.iastore, 1) := by decide +kernel
theorem dX5_readStreet_63 : decode cX5_readStreet 63 = .ok (.aload_n 0, 1) := by decide +kernel
theorem dX5_readStreet_64 : decode cX5_readStreet 64 = .ok (.getfield 29, 3) := by decide +kernel
theorem dX5_readStreet_67 : decode cX5_readStreet 67 = .ok (.iload_n 2, 1) := by decide +kernel
theorem dX5_readStreet_68 : decode cX5_readStreet 68 = .ok (.iaload, 1) := by decide +kernel
theorem dX5_readStreet_69 : decode cX5_readStreet 69 = .ok (.bipush (-9), 2) := by decide +kernel
theorem dX5_readStreet_71 : decode cX5_readStreet 71 = .ok (.if_icmp .ne 5, 3) := by decide +kernel
theorem dX5_readStreet_74 : decode cX5_readStreet 74 = .ok (.iconst 0, 1) := by decide +kernel
theorem dX5_readStreet_75 : decode cX5_readStreet 75 = .ok (.ireturn, 1) := by decide +kernel
theorem dX5_readStreet_76 : decode cX5_readStreet 76 = .ok (.iinc 2 1, 3) := by decide +kernel
theorem dX5_readStreet_79 : decode cX5_readStreet 79 = .ok (.goto (-60), 3) := by decide +kernel
theorem dX5_readStreet_82 : decode cX5_readStreet 82 = .ok (.aload_n 0, 1) := by decide +kernel
theorem dX5_readStreet_83 : decode cX5_readStreet 83 = .ok (.getfield 96, 3) := by decide +kernel
theorem dX5_readStreet_86 : decode cX5_readStreet 86 = .ok (.iconst 2, 1) := by decide +kernel
theorem dX5_readStreet_87 : decode cX5_readStreet 87 = .ok (.if_icmp .lt 20, 3) := by decide +kernel
theorem dX5_readStreet_90 : decode cX5_readStreet 90 = .ok (.aload_n 0, 1) := by decide +kernel
theorem dX5_readStreet_91 : decode cX5_readStreet 91 = .ok (.getfield 96, 3) := by decide +kernel
theorem dX5_readStreet_94 : decode cX5_readStreet 94 = .ok (.bipush 10, 2) := by decide +kernel
theorem dX5_readStreet_96 : decode cX5_readStreet 96 = .ok (.if_icmp .ge 21, 3) := by decide +kernel
theorem dX5_readStreet_99 : decode cX5_readStreet 99 = .ok (.aload_n 0, 1) := by decide +kernel
theorem dX5_readStreet_100 : decode cX5_readStreet 100 = .ok (.getfield 66, 3) := by decide +kernel
theorem dX5_readStreet_103 : decode cX5_readStreet 103 = .ok (.iload_n 1, 1) := by decide +kernel
theorem dX5_readStreet_104 : decode cX5_readStreet 104 = .ok (.if_icmp .ge 13, 3) := by decide +kernel
theorem dX5_readStreet_107 : decode cX5_readStreet 107 = .ok (.aload_n 0, 1) := by decide +kernel
theorem dX5_readStreet_108 : decode cX5_readStreet 108 = .ok (.iload_n 1, 1) := by decide +kernel
theorem dX5_readStreet_109 : decode cX5_readStreet 109 = .ok (.invokevirtual 110, 3) := by decide +kernel
theorem dX5_readStreet_112 : decode cX5_readStreet 112 = .ok (.ifCond .ne (-30), 3) := by decide +kernel
theorem dX5_readStreet_115 : decode cX5_readStreet 115 = .ok (.iconst 0, 1) := by decide +kernel
theorem dX5_readStreet_116 : decode cX5_readStreet 116 = .ok (.ireturn, 1) := by decide +kernel
theorem dX5_readStreet_117 : decode cX5_readStreet 117 = .ok (.aload_n 0, 1) := by decide +kernel
theorem dX5_readStreet_118 : decode cX5_readStreet 118 = .ok (.getfield 66, 3) := by decide +kernel
theorem dX5_readStreet_121 : decode cX5_readStreet 121 = .ok (.iload_n 1, 1) := by decide +kernel
theorem dX5_readStreet_122 : decode cX5_readStreet 122 = .ok (.if_icmp .ne 7, 3) := by decide +kernel
theorem dX5_readStreet_125 : decode cX5_readStreet 125 = .ok (.iconst 1, 1) := by decide +kernel
theorem dX5_readStreet_126 : decode cX5_readStreet 126 = .ok (.goto 4, 3) := by decide +kernel
theorem dX5_readStreet_129 : decode cX5_readStreet 129 = .ok (.iconst 0, 1) := by decide +kernel
theorem dX5_readStreet_130 : decode cX5_readStreet 130 = .ok (.ireturn, 1) := by decide +kernel
set_option maxRecDepth 20000 in
theorem ggX5_readFlag_X5_digit : GoodIn wsX5_readFlag wsX5_digit := goodIn_r _ [11, 1, 2, 12, 13, 10, 14, 19, 20, 21, 22, 23, 24, 25, 26, 27, 28, 29, 30, 31, 32, 33, 34, 35, 36, 37, 38, 39, 40, 41, 42, 43, 44, 45, 46, 47, 48, 49, 50] (by decide +kernel) (by decide +kernel)
set_option maxRecDepth 20000 in
theorem gX5_readFlag_X5_digit : GoodIn wsX5_readFlag (wsV RX5 106 RX5 yX5_digit wsX5_digit) := goodIn_app (goodIn_of _ (by decide +kernel)) ggX5_readFlag_X5_digit
set_option maxRecDepth 20000 in
theorem ggX5_readFlag_X5_isSign : GoodIn wsX5_readFlag wsX5_isSign := goodIn_r _ [18, 1, 2, 19, 20, 21, 22, 23, 24, 25, 26, 27, 28, 29, 30, 31, 32, 33, 34, 35, 36, 37, 38, 39, 40, 41, 42, 43, 44, 45, 46, 47, 48, 49, 50] (by decide +kernel) (by decide +kernel)
set_option maxRecDepth 20000 in
theorem gX5_readFlag_X5_isSign : GoodIn wsX5_readFlag (wsV RX5 102 RX5 yX5_isSign wsX5_isSign) := goodIn_app (goodIn_of _ (by decide +kernel)) ggX5_readFlag_X5_isSign
theorem dX5_readFlag_0 : decode cX5_readFlag 0 = .ok (.aload_n 0, 1) := by decide +kernel
theorem dX5_readFlag_1 : decode cX5_readFlag 1 = .ok (.getfield 66, 3) := by decide +kernel
theorem dX5_readFlag_4 : decode cX5_readFlag 4 = .ok (.iload_n 1, 1) := by decide +kernel
theorem dX5_readFlag_5 : decode cX5_readFlag 5 = .ok (.if_icmp .ge 15, 3) := by decide +kernel
theorem dX5_readFlag_8 : decode cX5_readFlag 8 = .ok (.aload_n 0, 1) := by decide +kernel
theorem dX5_readFlag_9 : decode cX5_readFlag 9 = .ok (.getfield 16, 3) := by decide +kernel
theorem dX5_readFlag_12 : decode cX5_readFlag 12 = .ok (.aload_n 0, 1) := by decide +kernel
theorem dX5_readFlag_13 : decode cX5_readFlag 13 = .ok (.getfield 66, 3) := by decide +kernel
theorem dX5_readFlag_16 : decode cX5_readFlag 16 = .ok (.iaload, 1) := by decide +kernel
theorem dX5_readFlag_17 : decode cX5_readFlag 17 = .ok (.goto 4, 3) := by decide +kernel
theorem dX5_readFlag_20 : decode cX5_readFlag 20 = .ok (.iconst 0, 1) := by decide +kernel
theorem dX5_readFlag_21 : decode cX5_readFlag 21 = .ok (.istore_n 2, 1) := by decide +kernel
theorem dX5_readFlag_22 : decode cX5_readFlag 22 = .ok (.aload_n 0, 1) := by decide +kernel
theorem dX5_readFlag_23 : decode cX5_readFlag 23 = .ok (.getfield 32, 3) := by decide +kernel
theorem dX5_readFlag_26 : decode cX5_readFlag 26 = .ok (.aload_n 0, 1) := by decide +kernel
theorem dX5_readFlag_27 : decode cX5_readFlag 27 = .ok (.getfield 96, 3) := by decide +kernel
theorem dX5_readFlag_30 : decode cX5_readFlag 30 = .ok (.iload_n 2, 1) := by decide +kernel
theorem dX5_readFlag_31 : decode cX5_readFlag 31 = .ok (.bipush 102, 2) := by decide +kernel
theorem dX5_readFlag_33 : decode cX5_readFlag 33 = .ok (.if_icmp .ne 7, 3) := by decide +kernel
theorem dX5_readFlag_36 : decode cX5_readFlag 36 = .ok (.iconst 0, 1) := by decide +kernel
theorem dX5_readFlag_37 : decode cX5_readFlag 37 = .ok (.goto 25, 3) := by decide +kernel
theorem dX5_readFlag_40 : decode cX5_readFlag 40 = .ok (.iload_n 2, 1) := by decide +kernel
theorem dX5_readFlag_41 : decode cX5_readFlag 41 = .ok (.bipush 104, 2) := by decide +kernel
theorem dX5_readFlag_43 : decode cX5_readFlag 43 = .ok (.if_icmp .ne 7, 3) := by decide +kernel
theorem dX5_readFlag_46 : decode cX5_readFlag 46 = .ok (.iconst 1, 1) := by decide +kernel
theorem dX5_readFlag_47 : decode cX5_readFlag 47 = .ok (.goto 15, 3) := by decide +kernel
theorem dX5_readFlag_50 : decode cX5_readFlag 50 = .ok (.iload_n 2, 1) := by decide +kernel
theorem dX5_readFlag_51 : decode cX5_readFlag 51 = .ok (.bipush 119, 2) := by decide +kernel
theorem dX5_readFlag_53 : decode cX5_readFlag 53 = .ok (.if_icmp .ne 7, 3) := by decide +kernel
theorem dX5_readFlag_56 : decode cX5_readFlag 56 = .ok (.iconst 2, 1) := by decide +kernel
theorem dX5_readFlag_57 : decode cX5_readFlag 57 = .ok (.goto 5, 3) := by decide +kernel
theorem dX5_readFlag_60 : decode cX5_readFlag 60 = .ok (.bipush (-9), 2) := by decide +kernel
theorem dX5_readFlag_62 : decode cX5_readFlag 62 = .ok (.iastore, 1) := by decide +kernel
theorem dX5_readFlag_63 : decode cX5_readFlag 63 = .ok (.aload_n 0, 1) := by decide +kernel
theorem dX5_readFlag_64 : decode cX5_readFlag 64 = .ok (.getfield 32, 3) := by decide +kernel
theorem dX5_readFlag_67 : decode cX5_readFlag 67 = .ok (.aload_n 0, 1) := by decide +kernel
theorem dX5_readFlag_68 : decode cX5_readFlag 68 = .ok (.getfield 96, 3) := by decide +kernel
theorem dX5_readFlag_71 : decode cX5_readFlag 71 = .ok (.iaload, 1) := by decide +kernel
theorem dX5_readFlag_72 : decode cX5_readFlag 72 = .ok (.bipush (-9), 2) := by decide +kernel
theorem dX5_readFlag_74 : decode cX5_readFlag 74 = .ok (.if_icmp .ne 5, 3) := by decide +kernel
theorem dX5_readFlag_77 : decode cX5_readFlag 77 = .ok (.iconst 0, 1) := by decide +kernel
theorem dX5_readFlag_78 : decode cX5_readFlag 78 = .ok (.ireturn, 1) := by decide +kernel
theorem dX5_readFlag_79 : decode cX5_readFlag 79 = .ok (.aload_n 0, 1) := by decide +kernel
theorem dX5_readFlag_80 : decode cX5_readFlag 80 = .ok (.dup, 1) := by decide +kernel
theorem dX5_readFlag_81 : decode cX5_readFlag 81 = .ok (.getfield 66, 3) := by decide +kernel
theorem dX5_readFlag_84 : decode cX5_readFlag 84 = .ok (.iconst 1, 1) := by decide +kernel
theorem dX5_readFlag_85 : decode cX5_readFlag 85 = .ok (.iadd, 1) := by decide +kernel
theorem dX5_readFlag_86 : decode cX5_readFlag 86 = .ok (.putfield 66, 3) := by decide +kernel
theorem dX5_readFlag_89 : decode cX5_readFlag 89 = .ok (.aload_n 0, 1) := by decide +kernel
theorem dX5_readFlag_90 : decode cX5_readFlag 90 = .ok (.getfield 35, 3) := by decide +kernel
theorem dX5_readFlag_93 : decode cX5_readFlag 93 = .ok (.aload_n 0, 1) := by decide +kernel
theorem dX5_readFlag_94 : decode cX5_readFlag 94 = .ok (.getfield 96, 3) := by decide +kernel
theorem dX5_readFlag_97 : decode cX5_readFlag 97 = .ok (.aload_n 0, 1) := by decide +kernel
theorem dX5_readFlag_98 : decode cX5_readFlag 98 = .ok (.iload_n 1, 1) := by decide +kernel
theorem dX5_readFlag_99 : decode cX5_readFlag 99 = .ok (.iconst 0, 1) := by decide +kernel
theorem dX5_readFlag_100 : decode cX5_readFlag 100 = .ok (.iconst 4, 1) := by decide +kernel
theorem dX5_readFlag_101 : decode cX5_readFlag 101 = .ok (.invokevirtual 106, 3) := by decide +kernel
theorem dX5_readFlag_104 : decode cX5_readFlag 104 = .ok (.iastore, 1) := by decide +kernel
theorem dX5_readFlag_105 : decode cX5_readFlag 105 = .ok (.aload_n 0, 1) := by decide +kernel
theorem dX5_readFlag_106 : decode cX5_readFlag 106 = .ok (.getfield 35, 3) := by decide +kernel
theorem dX5_readFlag_109 : decode cX5_readFlag 109 = .ok (.aload_n 0, 1) := by decide +kernel
theorem dX5_readFlag_110 : decode cX5_readFlag 110 = .ok (.getfield 96, 3) := by decide +kernel
theorem dX5_readFlag_113 : decode cX5_readFlag 113 = .ok (.iaload, 1) := by decide +kernel
theorem dX5_readFlag_114 : decode cX5_readFlag 114 = .ok (.bipush (-9), 2) := by decide +kernel
theorem dX5_readFlag_116 : decode cX5_readFlag 116 = .ok (.if_icmp .ne 5, 3) := by decide +kernel
theorem dX5_readFlag_119 : decode cX5_readFlag 119 = .ok (.iconst 0, 1) := by decide +kernel
theorem dX5_readFlag_120 : decode cX5_readFlag 120 = .ok (.ireturn, 1) := by decide +kernel
theorem dX5_readFlag_121 : decode cX5_readFlag 121 = .ok (.aload_n 0, 1) := by decide +kernel
theorem dX5_readFlag_122 : decode cX5_readFlag 122 = .ok (.getfield 38, 3) := by decide +kernel
theorem dX5_readFlag_125 : decode cX5_readFlag 125 = .ok (.aload_n 0, 1) := by decide +kernel
theorem dX5_readFlag_126 : decode cX5_readFlag 126 = .ok (.getfield 96, 3) := by decide +kernel
theorem dX5_readFlag_129 : decode cX5_readFlag 129 = .ok (.aload_n 0, 1) := by decide +kernel
theorem dX5_readFlag_130 : decode cX5_readFlag 130 = .ok (.iload_n 1, 1) := by decide +kernel
theorem dX5_readFlag_131 : decode cX5_readFlag 131 = .ok (.bipush 35, 2) := by decide +kernel
theorem dX5_readFlag_133 : decode cX5_readFlag 133 = .ok (.invokevirtual 102, 3) := by decide +kernel
theorem dX5_readFlag_136 : decode cX5_readFlag 136 = .ok (.bastore, 1) := by decide +kernel
theorem dX5_readFlag_137 : decode cX5_readFlag 137 = .ok (.aload_n 0, 1) := by decide +kernel
theorem dX5_readFlag_138 : decode cX5_readFlag 138 = .ok (.dup, 1) := by decide +kernel
theorem dX5_readFlag_139 : decode cX5_readFlag 139 = .ok (.getfield 96, 3) := by decide +kernel
theorem dX5_readFlag_142 : decode cX5_readFlag 142 = .ok (.iconst 1, 1) := by decide +kernel
theorem dX5_readFlag_143 : decode cX5_readFlag 143 = .ok (.iadd, 1) := by decide +kernel
theorem dX5_readFlag_144 : decode cX5_readFlag 144 = .ok (.putfield 96, 3) := by decide +kernel
theorem dX5_readFlag_147 : decode cX5_readFlag 147 = .ok (.iconst 1, 1) := by decide +kernel
theorem dX5_readFlag_148 : decode cX5_readFlag 148 = .ok (.ireturn, 1) := by decide +kernel
theorem dX5_dragOf_0 : decode cX5_dragOf 0 = .ok (.aload_n 0, 1) := by decide +kernel
theorem dX5_dragOf_1 : decode cX5_dragOf 1 = .ok (.getfield 19, 3) := by decide +kernel
theorem dX5_dragOf_4 : decode cX5_dragOf 4 = .ok (.iload_n 1, 1) := by decide +kernel
theorem dX5_dragOf_5 : decode cX5_dragOf 5 = .ok (.iaload, 1) := by decide +kernel
theorem dX5_dragOf_6 : decode cX5_dragOf 6 = .ok (.ifCond .ne 12, 3) := by decide +kernel
theorem dX5_dragOf_9 : decode cX5_dragOf 9 = .ok (.aload_n 0, 1) := by decide +kernel
theorem dX5_dragOf_10 : decode cX5_dragOf 10 = .ok (.getfield 22, 3) := by decide +kernel
theorem dX5_dragOf_13 : decode cX5_dragOf 13 = .ok (.iload_n 1, 1) := by decide +kernel
theorem dX5_dragOf_14 : decode cX5_dragOf 14 = .ok (.iaload, 1) := by decide +kernel
theorem dX5_dragOf_15 : decode cX5_dragOf 15 = .ok (.goto 32, 3) := by decide +kernel
theorem dX5_dragOf_18 : decode cX5_dragOf 18 = .ok (.aload_n 0, 1) := by decide +kernel
theorem dX5_dragOf_19 : decode cX5_dragOf 19 = .ok (.getfield 19, 3) := by decide +kernel
theorem dX5_dragOf_22 : decode cX5_dragOf 22 = .ok (.iload_n 1, 1) := by decide +kernel
theorem dX5_dragOf_23 : decode cX5_dragOf 23 = .ok (.iaload, 1) := by decide +kernel
theorem dX5_dragOf_24 : decode cX5_dragOf 24 = .ok (.iconst 1, 1) := by decide +kernel
theorem dX5_dragOf_25 : decode cX5_dragOf 25 = .ok (.if_icmp .ne 14, 3) := by decide +kernel
theorem dX5_dragOf_28 : decode cX5_dragOf 28 = .ok (.aload_n 0, 1) := by decide +kernel
theorem dX5_dragOf_29 : decode cX5_dragOf 29 = .ok (.getfield 22, 3) := by decide +kernel
theorem dX5_dragOf_32 : decode cX5_dragOf 32 = .ok (.iload_n 1, 1) := by decide +kernel
theorem dX5_dragOf_33 : decode cX5_dragOf 33 = .ok (.iaload, 1) := by decide +kernel
theorem dX5_dragOf_34 : decode cX5_dragOf 34 = .ok (.iconst 1, 1) := by decide +kernel
theorem dX5_dragOf_35 : decode cX5_dragOf 35 = .ok (.iadd, 1) := by decide +kernel
theorem dX5_dragOf_36 : decode cX5_dragOf 36 = .ok (.goto 11, 3) := by decide +kernel
theorem dX5_dragOf_39 : decode cX5_dragOf 39 = .ok (.aload_n 0, 1) := by decide +kernel
theorem dX5_dragOf_40 : decode cX5_dragOf 40 = .ok (.getfield 22, 3) := by decide +kernel
theorem dX5_dragOf_43 : decode cX5_dragOf 43 = .ok (.iload_n 1, 1) := by decide +kernel
theorem dX5_dragOf_44 : decode cX5_dragOf 44 = .ok (.iaload, 1) := by decide +kernel
theorem dX5_dragOf_45 : decode cX5_dragOf 45 = .ok (.iconst 2, 1) := by decide +kernel
theorem dX5_dragOf_46 : decode cX5_dragOf 46 = .ok (.idiv, 1) := by decide +kernel
theorem dX5_dragOf_47 : decode cX5_dragOf 47 = .ok (.ireturn, 1) := by decide +kernel
set_option maxRecDepth 20000 in
theorem ggX5_ofFlag_X5_isFlag : GoodIn wsX5_ofFlag wsX5_isFlag := goodIn_r _ [8, 9, 14, 15, 16, 17, 18, 19, 20, 21, 22, 23, 24, 25, 26, 27, 28, 29, 30, 31, 32, 33, 34, 35, 36, 37, 38, 39, 40, 41, 42, 43, 44, 45] (by decide +kernel) (by decide +kernel)
set_option maxRecDepth 20000 in
theorem gX5_ofFlag_X5_isFlag : GoodIn wsX5_ofFlag (wsV RX5 113 RX5 yX5_isFlag wsX5_isFlag) := goodIn_app (goodIn_of _ (by decide +kernel)) ggX5_ofFlag_X5_isFlag
set_option maxRecDepth 20000 in
theorem ggX5_ofFlag_X5_dragOf : GoodIn wsX5_ofFlag wsX5_dragOf := goodIn_r _ [13, 1, 2, 14, 15, 16, 17, 18, 19, 20, 21, 22, 23, 24, 25, 26, 27, 28, 29, 30, 31, 32, 33, 34, 35, 36, 37, 38, 39, 40, 41, 42, 43, 44, 45] (by decide +kernel) (by decide +kernel)
set_option maxRecDepth 20000 in
theorem gX5_ofFlag_X5_dragOf : GoodIn wsX5_ofFlag (wsV RX5 116 RX5 yX5_dragOf wsX5_dragOf) := goodIn_app (goodIn_of _ (by decide +kernel)) ggX5_ofFlag_X5_dragOf
theorem dX5_ofFlag_0 : decode cX5_ofFlag 0 = .ok (.aload_n 0, 1) := by decide +kernel
theorem dX5_ofFlag_1 : decode cX5_ofFlag 1 = .ok (.iload_n 1, 1) := by decide +kernel
theorem dX5_ofFlag_2 : decode cX5_ofFlag 2 = .ok (.invokevirtual 113, 3) := by decide +kernel
theorem dX5_ofFlag_5 : decode cX5_ofFlag 5 = .ok (.ifCond .ne 5, 3) := by decide +kernel
theorem dX5_ofFlag_8 : decode cX5_ofFlag 8 = .ok (.iconst (-1), 1) := by decide +kernel
theorem dX5_ofFlag_9 : decode cX5_ofFlag 9 = .ok (.ireturn, 1) := by decide +kernel
theorem dX5_ofFlag_10 : decode cX5_ofFlag 10 = .ok (.iload_n 2, 1) := by decide +kernel
theorem dX5_ofFlag_11 : decode cX5_ofFlag 11 = .ok (.tableswitch 64 0 3 #[29, 36, 43, 49], 29) := by decide +kernel
theorem dX5_ofFlag_40 : decode cX5_ofFlag 40 = .ok (.aload_n 0, 1) := by decide +kernel
theorem dX5_ofFlag_41 : decode cX5_ofFlag 41 = .ok (.getfield 19, 3) := by decide +kernel
theorem dX5_ofFlag_44 : decode cX5_ofFlag 44 = .ok (.iload_n 1, 1) := by decide +kernel
theorem dX5_ofFlag_45 : decode cX5_ofFlag 45 = .ok (.iaload, 1) := by decide +kernel
theorem dX5_ofFlag_46 : decode cX5_ofFlag 46 = .ok (.ireturn, 1) := by decide +kernel
theorem dX5_ofFlag_47 : decode cX5_ofFlag 47 = .ok (.aload_n 0, 1) := by decide +kernel
theorem dX5_ofFlag_48 : decode cX5_ofFlag 48 = .ok (.getfield 22, 3) := by decide +kernel
theorem dX5_ofFlag_51 : decode cX5_ofFlag 51 = .ok (.iload_n 1, 1) := by decide +kernel
theorem dX5_ofFlag_52 : decode cX5_ofFlag 52 = .ok (.iaload, 1) := by decide +kernel
theorem dX5_ofFlag_53 : decode cX5_ofFlag 53 = .ok (.ireturn, 1) := by decide +kernel
theorem dX5_ofFlag_54 : decode cX5_ofFlag 54 = .ok (.aload_n 0, 1) := by decide +kernel
theorem dX5_ofFlag_55 : decode cX5_ofFlag 55 = .ok (.iload_n 1, 1) := by decide +kernel
theorem dX5_ofFlag_56 : decode cX5_ofFlag 56 = .ok (.invokevirtual 116, 3) := by decide +kernel
theorem dX5_ofFlag_59 : decode cX5_ofFlag 59 = .ok (.ireturn, 1) := by decide +kernel
theorem dX5_ofFlag_60 : decode cX5_ofFlag 60 = .ok (.aload_n 0, 1) := by decide +kernel
theorem dX5_ofFlag_61 : decode cX5_ofFlag 61 = .ok (.getfield 25, 3) := by decide +kernel
theorem dX5_ofFlag_64 : decode cX5_ofFlag 64 = .ok (.iload_n 1, 1) := by decide +kernel
theorem dX5_ofFlag_65 : decode cX5_ofFlag 65 = .ok (.baload, 1) := by decide +kernel
theorem dX5_ofFlag_66 : decode cX5_ofFlag 66 = .ok (.ifCond .eq 7, 3) := by decide +kernel
theorem dX5_ofFlag_69 : decode cX5_ofFlag 69 = .ok (.iconst 1, 1) := by decide +kernel
theorem dX5_ofFlag_70 : decode cX5_ofFlag 70 = .ok (.goto 4, 3) := by decide +kernel
theorem dX5_ofFlag_73 : decode cX5_ofFlag 73 = .ok (.iconst 0, 1) := by decide +kernel
theorem dX5_ofFlag_74 : decode cX5_ofFlag 74 = .ok (.ireturn, 1) := by decide +kernel
theorem dX5_ofFlag_75 : decode cX5_ofFlag 75 = .ok (.bipush (-2), 2) := by decide +kernel
theorem dX5_ofFlag_77 : decode cX5_ofFlag 77 = .ok (.ireturn, 1) := by decide +kernel
set_option maxRecDepth 20000 in
theorem ggX5_strong_X5_within : GoodIn wsX5_strong wsX5_within := goodIn_r _ [6] (by decide +kernel) (by decide +kernel)
set_option maxRecDepth 20000 in
theorem gX5_strong_X5_within : GoodIn wsX5_strong (va_wsS RX5 59 yX5_within wsX5_within) := goodIn_app (goodIn_of _ (by decide +kernel)) ggX5_strong_X5_within
theorem dX5_strong_0 : decode cX5_strong 0 = .ok (.iload_n 1, 1) := by decide +kernel
theorem dX5_strong_1 : decode cX5_strong 1 = .ok (.iconst 1, 1) := by decide +kernel
theorem dX5_strong_2 : decode cX5_strong 2 = .ok (.iconst 4, 1) := by decide +kernel
theorem dX5_strong_3 : decode cX5_strong 3 = .ok (.invokestatic 59, 3) := by decide +kernel
theorem dX5_strong_6 : decode cX5_strong 6 = .ok (.ifCond .ne 6, 3) := by decide +kernel
theorem dX5_strong_9 : decode cX5_strong 9 = .ok (.bipush (-2), 2) := by decide +kernel
theorem dX5_strong_11 : decode cX5_strong 11 = .ok (.ireturn, 1) := by decide +kernel
theorem dX5_strong_12 : decode cX5_strong 12 = .ok (.aload_n 0, 1) := by decide +kernel
theorem dX5_strong_13 : decode cX5_strong 13 = .ok (.getfield 63, 3) := by decide +kernel
theorem dX5_strong_16 : decode cX5_strong 16 = .ok (.ifCond .ne 6, 3) := by decide +kernel
theorem dX5_strong_19 : decode cX5_strong 19 = .ok (.bipush (-3), 2) := by decide +kernel
theorem dX5_strong_21 : decode cX5_strong 21 = .ok (.ireturn, 1) := by decide +kernel
theorem dX5_strong_22 : decode cX5_strong 22 = .ok (.aload_n 0, 1) := by decide +kernel
theorem dX5_strong_23 : decode cX5_strong 23 = .ok (.getfield 87, 3) := by decide +kernel
theorem dX5_strong_26 : decode cX5_strong 26 = .ok (.istore_n 2, 1) := by decide +kernel
theorem dX5_strong_27 : decode cX5_strong 27 = .ok (.aload_n 0, 1) := by decide +kernel
theorem dX5_strong_28 : decode cX5_strong 28 = .ok (.iload_n 1, 1) := by decide +kernel
theorem dX5_strong_29 : decode cX5_strong 29 = .ok (.putfield 87, 3) := by decide +kernel
theorem dX5_strong_32 : decode cX5_strong 32 = .ok (.iload_n 2, 1) := by decide +kernel
theorem dX5_strong_33 : decode cX5_strong 33 = .ok (.ireturn, 1) := by decide +kernel
set_option maxRecDepth 20000 in
theorem ggX5_knee_X5_within : GoodIn wsX5_knee wsX5_within := goodIn_r _ [6] (by decide +kernel) (by decide +kernel)
set_option maxRecDepth 20000 in
theorem gX5_knee_X5_within : GoodIn wsX5_knee (va_wsS RX5 59 yX5_within wsX5_within) := goodIn_app (goodIn_of _ (by decide +kernel)) ggX5_knee_X5_within
theorem dX5_knee_0 : decode cX5_knee 0 = .ok (.iload_n 1, 1) := by decide +kernel
theorem dX5_knee_1 : decode cX5_knee 1 = .ok (.iconst 1, 1) := by decide +kernel
theorem dX5_knee_2 : decode cX5_knee 2 = .ok (.iconst 3, 1) := by decide +kernel
theorem dX5_knee_3 : decode cX5_knee 3 = .ok (.invokestatic 59, 3) := by decide +kernel
theorem dX5_knee_6 : decode cX5_knee 6 = .ok (.ifCond .ne 6, 3) := by decide +kernel
theorem dX5_knee_9 : decode cX5_knee 9 = .ok (.bipush (-2), 2) := by decide +kernel
theorem dX5_knee_11 : decode cX5_knee 11 = .ok (.ireturn, 1) := by decide +kernel
theorem dX5_knee_12 : decode cX5_knee 12 = .ok (.aload_n 0, 1) := by decide +kernel
theorem dX5_knee_13 : decode cX5_knee 13 = .ok (.getfield 63, 3) := by decide +kernel
theorem dX5_knee_16 : decode cX5_knee 16 = .ok (.ifCond .ne 6, 3) := by decide +kernel
theorem dX5_knee_19 : decode cX5_knee 19 = .ok (.bipush (-3), 2) := by decide +kernel
theorem dX5_knee_21 : decode cX5_knee 21 = .ok (.ireturn, 1) := by decide +kernel
theorem dX5_knee_22 : decode cX5_knee 22 = .ok (.aload_n 0, 1) := by decide +kernel
theorem dX5_knee_23 : decode cX5_knee 23 = .ok (.getfield 90, 3) := by decide +kernel
theorem dX5_knee_26 : decode cX5_knee 26 = .ok (.istore_n 2, 1) := by decide +kernel
theorem dX5_knee_27 : decode cX5_knee 27 = .ok (.aload_n 0, 1) := by decide +kernel
theorem dX5_knee_28 : decode cX5_knee 28 = .ok (.iload_n 1, 1) := by decide +kernel
theorem dX5_knee_29 : decode cX5_knee 29 = .ok (.putfield 90, 3) := by decide +kernel
theorem dX5_knee_32 : decode cX5_knee 32 = .ok (.iload_n 2, 1) := by decide +kernel
theorem dX5_knee_33 : decode cX5_knee 33 = .ok (.ireturn, 1) := by decide +kernel
set_option maxRecDepth 20000 in
theorem ggX5_sole_X5_within : GoodIn wsX5_sole wsX5_within := goodIn_r _ [6] (by decide +kernel) (by decide +kernel)
set_option maxRecDepth 20000 in
theorem gX5_sole_X5_within : GoodIn wsX5_sole (va_wsS RX5 59 yX5_within wsX5_within) := goodIn_app (goodIn_of _ (by decide +kernel)) ggX5_sole_X5_within
theorem dX5_sole_0 : decode cX5_sole 0 = .ok (.iload_n 1, 1) := by decide +kernel
theorem dX5_sole_1 : decode cX5_sole 1 = .ok (.iconst 0, 1) := by decide +kernel
theorem dX5_sole_2 : decode cX5_sole 2 = .ok (.iconst 2, 1) := by decide +kernel
theorem dX5_sole_3 : decode cX5_sole 3 = .ok (.invokestatic 59, 3) := by decide +kernel
theorem dX5_sole_6 : decode cX5_sole 6 = .ok (.ifCond .ne 6, 3) := by decide +kernel
theorem dX5_sole_9 : decode cX5_sole 9 = .ok (.bipush (-2), 2) := by decide +kernel
theorem dX5_sole_11 : decode cX5_sole 11 = .ok (.ireturn, 1) := by decide +kernel
theorem dX5_sole_12 : decode cX5_sole 12 = .ok (.aload_n 0, 1) := by decide +kernel
theorem dX5_sole_13 : decode cX5_sole 13 = .ok (.getfield 63, 3) := by decide +kernel
theorem dX5_sole_16 : decode cX5_sole 16 = .ok (.ifCond .ne 6, 3) := by decide +kernel
theorem dX5_sole_19 : decode cX5_sole 19 = .ok (.bipush (-3), 2) := by decide +kernel
theorem dX5_sole_21 : decode cX5_sole 21 = .ok (.ireturn, 1) := by decide +kernel
theorem dX5_sole_22 : decode cX5_sole 22 = .ok (.aload_n 0, 1) := by decide +kernel
theorem dX5_sole_23 : decode cX5_sole 23 = .ok (.getfield 93, 3) := by decide +kernel
theorem dX5_sole_26 : decode cX5_sole 26 = .ok (.istore_n 2, 1) := by decide +kernel
theorem dX5_sole_27 : decode cX5_sole 27 = .ok (.aload_n 0, 1) := by decide +kernel
theorem dX5_sole_28 : decode cX5_sole 28 = .ok (.iload_n 1, 1) := by decide +kernel
theorem dX5_sole_29 : decode cX5_sole 29 = .ok (.putfield 93, 3) := by decide +kernel
theorem dX5_sole_32 : decode cX5_sole 32 = .ok (.iload_n 2, 1) := by decide +kernel
theorem dX5_sole_33 : decode cX5_sole 33 = .ok (.ireturn, 1) := by decide +kernel
set_option maxRecDepth 20000 in
theorem ggX5_grating_X5_isFlag : GoodIn wsX5_grating wsX5_isFlag := goodIn_r _ [6, 7, 8, 9, 10, 11, 12, 13, 14, 15, 16, 17, 18, 19, 20, 21, 22, 23, 24, 25, 26, 27, 28, 29, 30, 31, 32, 33, 34, 35, 36, 37, 38, 39] (by decide +kernel) (by decide +kernel)
set_option maxRecDepth 20000 in
theorem gX5_grating_X5_isFlag : GoodIn wsX5_grating (wsV RX5 113 RX5 yX5_isFlag wsX5_isFlag) := goodIn_app (goodIn_of _ (by decide +kernel)) ggX5_grating_X5_isFlag
theorem dX5_grating_0 : decode cX5_grating 0 = .ok (.aload_n 0, 1) := by decide +kernel
theorem dX5_grating_1 : decode cX5_grating 1 = .ok (.iload_n 1, 1) := by decide +kernel
theorem dX5_grating_2 : decode cX5_grating 2 = .ok (.invokevirtual 113, 3) := by decide +kernel
theorem dX5_grating_5 : decode cX5_grating 5 = .ok (.ifCond .ne 5, 3) := by decide +kernel
theorem dX5_grating_8 : decode cX5_grating 8 = .ok (.iconst (-1), 1) := by decide +kernel
theorem dX5_grating_9 : decode cX5_grating 9 = .ok (.ireturn, 1) := by decide +kernel
theorem dX5_grating_10 : decode cX5_grating 10 = .ok (.aload_n 0, 1) := by decide +kernel
theorem dX5_grating_11 : decode cX5_grating 11 = .ok (.getfield 25, 3) := by decide +kernel
theorem dX5_grating_14 : decode cX5_grating 14 = .ok (.iload_n 1, 1) := by decide +kernel
theorem dX5_grating_15 : decode cX5_grating 15 = .ok (.baload, 1) := by decide +kernel
theorem dX5_grating_16 : decode cX5_grating 16 = .ok (.istore_n 3, 1) := by decide +kernel
theorem dX5_grating_17 : decode cX5_grating 17 = .ok (.aload_n 0, 1) := by decide +kernel
theorem dX5_grating_18 : decode cX5_grating 18 = .ok (.getfield 25, 3) := by decide +kernel
theorem dX5_grating_21 : decode cX5_grating 21 = .ok (.iload_n 1, 1) := by decide +kernel
theorem dX5_grating_22 : decode cX5_grating 22 = .ok (.iload_n 2, 1) := by decide +kernel
theorem dX5_grating_23 : decode cX5_grating 23 = .ok (.bastore, 1) := by decide +kernel
theorem dX5_grating_24 : decode cX5_grating 24 = .ok (.iload_n 3, 1) := by decide +kernel
theorem dX5_grating_25 : decode cX5_grating 25 = .ok (.iload_n 2, 1) := by decide +kernel
theorem dX5_grating_26 : decode cX5_grating 26 = .ok (.if_icmp .ne 7, 3) := by decide +kernel
theorem dX5_grating_29 : decode cX5_grating 29 = .ok (.iconst 0, 1) := by decide +kernel
theorem dX5_grating_30 : decode cX5_grating 30 = .ok (.goto 4, 3) := by decide +kernel
theorem dX5_grating_33 : decode cX5_grating 33 = .ok (.iconst 1, 1) := by decide +kernel
theorem dX5_grating_34 : decode cX5_grating 34 = .ok (.ireturn, 1) := by decide +kernel
theorem dX5_mayAct_0 : decode cX5_mayAct 0 = .ok (.aload_n 0, 1) := by decide +kernel
theorem dX5_mayAct_1 : decode cX5_mayAct 1 = .ok (.getfield 119, 3) := by decide +kernel
theorem dX5_mayAct_4 : decode cX5_mayAct 4 = .ok (.aload_n 0, 1) := by decide +kernel
theorem dX5_mayAct_5 : decode cX5_mayAct 5 = .ok (.getfield 63, 3) := by decide +kernel
theorem dX5_mayAct_8 : decode cX5_mayAct 8 = .ok (.if_icmp .ne 5, 3) := by decide +kernel
theorem dX5_mayAct_11 : decode cX5_mayAct 11 = .ok (.iconst 0, 1) := by decide +kernel
theorem dX5_mayAct_12 : decode cX5_mayAct 12 = .ok (.ireturn, 1) := by decide +kernel
theorem dX5_mayAct_13 : decode cX5_mayAct 13 = .ok (.iload_n 1, 1) := by decide +kernel
theorem dX5_mayAct_14 : decode cX5_mayAct 14 = .ok (.ifCond .ne 29, 3) := by decide +kernel
theorem dX5_mayAct_17 : decode cX5_mayAct 17 = .ok (.aload_n 0, 1) := by decide +kernel
theorem dX5_mayAct_18 : decode cX5_mayAct 18 = .ok (.getfield 122, 3) := by decide +kernel
theorem dX5_mayAct_21 : decode cX5_mayAct 21 = .ok (.aload_n 0, 1) := by decide +kernel
theorem dX5_mayAct_22 : decode cX5_mayAct 22 = .ok (.getfield 90, 3) := by decide +kernel
theorem dX5_mayAct_25 : decode cX5_mayAct 25 = .ok (.if_icmp .ge 16, 3) := by decide +kernel
theorem dX5_mayAct_28 : decode cX5_mayAct 28 = .ok (.aload_n 0, 1) := by decide +kernel
theorem dX5_mayAct_29 : decode cX5_mayAct 29 = .ok (.getfield 125, 3) := by decide +kernel
theorem dX5_mayAct_32 : decode cX5_mayAct 32 = .ok (.bipush 6, 2) := by decide +kernel
theorem dX5_mayAct_34 : decode cX5_mayAct 34 = .ok (.if_icmp .ge 7, 3) := by decide +kernel
theorem dX5_mayAct_37 : decode cX5_mayAct 37 = .ok (.iconst 1, 1) := by decide +kernel
theorem dX5_mayAct_38 : decode cX5_mayAct 38 = .ok (.goto 4, 3) := by decide +kernel
theorem dX5_mayAct_41 : decode cX5_mayAct 41 = .ok (.iconst 0, 1) := by decide +kernel
theorem dX5_mayAct_42 : decode cX5_mayAct 42 = .ok (.ireturn, 1) := by decide +kernel
theorem dX5_mayAct_43 : decode cX5_mayAct 43 = .ok (.iload_n 1, 1) := by decide +kernel
theorem dX5_mayAct_44 : decode cX5_mayAct 44 = .ok (.iconst 2, 1) := by decide +kernel
theorem dX5_mayAct_45 : decode cX5_mayAct 45 = .ok (.if_icmp .ne 16, 3) := by decide +kernel
theorem dX5_mayAct_48 : decode cX5_mayAct 48 = .ok (.aload_n 0, 1) := by decide +kernel
theorem dX5_mayAct_49 : decode cX5_mayAct 49 = .ok (.getfield 125, 3) := by decide +kernel
theorem dX5_mayAct_52 : decode cX5_mayAct 52 = .ok (.ifCond .le 7, 3) := by decide +kernel
theorem dX5_mayAct_55 : decode cX5_mayAct 55 = .ok (.iconst 1, 1) := by decide +kernel
theorem dX5_mayAct_56 : decode cX5_mayAct 56 = .ok (.goto 4, 3) := by decide +kernel
theorem dX5_mayAct_59 : decode cX5_mayAct 59 = .ok (.iconst 0, 1) := by decide +kernel
theorem dX5_mayAct_60 : decode cX5_mayAct 60 = .ok (.ireturn, 1) := by decide +kernel
theorem dX5_mayAct_61 : decode cX5_mayAct 61 = .ok (.iload_n 1, 1) := by decide +kernel
theorem dX5_mayAct_62 : decode cX5_mayAct 62 = .ok (.iconst 3, 1) := by decide +kernel
theorem dX5_mayAct_63 : decode cX5_mayAct 63 = .ok (.if_icmp .ne 17, 3) := by decide +kernel
theorem dX5_mayAct_66 : decode cX5_mayAct 66 = .ok (.aload_n 0, 1) := by decide +kernel
theorem dX5_mayAct_67 : decode cX5_mayAct 67 = .ok (.getfield 125, 3) := by decide +kernel
theorem dX5_mayAct_70 : decode cX5_mayAct 70 = .ok (.ifCond .le 14, 3) := by decide +kernel
theorem dX5_mayAct_73 : decode cX5_mayAct 73 = .ok (.aload_n 0, 1) := by decide +kernel
theorem dX5_mayAct_74 : decode cX5_mayAct 74 = .ok (.getfield 128, 3) := by decide +kernel
theorem dX5_mayAct_77 : decode cX5_mayAct 77 = .ok (.ifCond .le 7, 3) := by decide +kernel
theorem dX5_mayAct_80 : decode cX5_mayAct 80 = .ok (.iconst 1, 1) := by decide +kernel
theorem dX5_mayAct_81 : decode cX5_mayAct 81 = .ok (.goto 4, 3) := by decide +kernel
theorem dX5_mayAct_84 : decode cX5_mayAct 84 = .ok (.iconst 0, 1) := by decide +kernel
theorem dX5_mayAct_85 : decode cX5_mayAct 85 = .ok (.ireturn, 1) := by decide +kernel
set_option maxRecDepth 20000 in
theorem ggX5_act_X5_roll : GoodIn wsX5_act wsX5_roll := goodIn_r _ [10, 1, 3, 11, 12, 13, 14, 15, 9, 16, 17, 18, 19, 20, 21, 22, 23, 24, 25, 26, 27, 28, 29, 30, 31, 32, 33, 34, 35, 36, 37, 38, 39, 40, 41, 42, 43, 44, 45, 46, 47, 48, 49, 50] (by decide +kernel) (by decide +kernel)
set_option maxRecDepth 20000 in
theorem gX5_act_X5_roll : GoodIn wsX5_act (wsV RX5 131 RX5 yX5_roll wsX5_roll) := goodIn_app (goodIn_of _ (by decide +kernel)) ggX5_act_X5_roll
theorem dX5_act_0 : decode cX5_act 0 = .ok (.iload_n 1, 1) := by decide +kernel
theorem dX5_act_1 : decode cX5_act 1 = .ok (.iconst 4, 1) := by decide +kernel
theorem dX5_act_2 : decode cX5_act 2 = .ok (.if_icmp .ne 24, 3) := by decide +kernel
theorem dX5_act_5 : decode cX5_act 5 = .ok (.aload_n 0, 1) := by decide +kernel
theorem dX5_act_6 : decode cX5_act 6 = .ok (.iconst 0, 1) := by decide +kernel
theorem dX5_act_7 : decode cX5_act 7 = .ok (.putfield 125, 3) := by decide +kernel
theorem dX5_act_10 : decode cX5_act 10 = .ok (.aload_n 0, 1) := by decide +kernel
theorem dX5_act_11 : decode cX5_act 11 = .ok (.iconst 0, 1) := by decide +kernel
theorem dX5_act_12 : decode cX5_act 12 = .ok (.putfield 122, 3) := by decide +kernel
theorem dX5_act_15 : decode cX5_act 15 = .ok (.aload_n 0, 1) := by decide +kernel
theorem dX5_act_16 : decode cX5_act 16 = .ok (.dup, 1) := by decide +kernel
theorem dX5_act_17 : decode cX5_act 17 = .ok (.getfield 119, 3) := by decide +kernel
theorem dX5_act_20 : decode cX5_act 20 = .ok (.iconst 1, 1) := by decide +kernel
theorem dX5_act_21 : decode cX5_act 21 = .ok (.iadd, 1) := by decide +kernel
theorem dX5_act_22 : decode cX5_act 22 = .ok (.putfield 119, 3) := by decide +kernel
theorem dX5_act_25 : decode cX5_act 25 = .ok (.return_, 1) := by decide +kernel
theorem dX5_act_26 : decode cX5_act 26 = .ok (.iload_n 1, 1) := by decide +kernel
theorem dX5_act_27 : decode cX5_act 27 = .ok (.ifCond .ne 45, 3) := by decide +kernel
theorem dX5_act_30 : decode cX5_act 30 = .ok (.aload_n 0, 1) := by decide +kernel
theorem dX5_act_31 : decode cX5_act 31 = .ok (.aload_n 0, 1) := by decide +kernel
theorem dX5_act_32 : decode cX5_act 32 = .ok (.getfield 125, 3) := by decide +kernel
theorem dX5_act_35 : decode cX5_act 35 = .ok (.aload_n 0, 1) := by decide +kernel
theorem dX5_act_36 : decode cX5_act 36 = .ok (.getfield 87, 3) := by decide +kernel
theorem dX5_act_39 : decode cX5_act 39 = .ok (.iadd, 1) := by decide +kernel
theorem dX5_act_40 : decode cX5_act 40 = .ok (.bipush 6, 2) := by decide +kernel
theorem dX5_act_42 : decode cX5_act 42 = .ok (.if_icmp .le 8, 3) := by decide +kernel
theorem dX5_act_45 : decode cX5_act 45 = .ok (.bipush 6, 2) := by decide +kernel
theorem dX5_act_47 : decode cX5_act 47 = .ok (.goto 12, 3) := by decide +kernel
theorem dX5_act_50 : decode cX5_act 50 = .ok (.aload_n 0, 1) := by decide +kernel
theorem dX5_act_51 : decode cX5_act 51 = .ok (.getfield 125, 3) := by decide +kernel
theorem dX5_act_54 : decode cX5_act 54 = .ok (.aload_n 0, 1) := by decide +kernel
theorem dX5_act_55 : decode cX5_act 55 = .ok (.getfield 87, 3) := by decide +kernel
theorem dX5_act_58 : decode cX5_act 58 = .ok (.iadd, 1) := by decide +kernel
theorem dX5_act_59 : decode cX5_act 59 = .ok (.putfield 125, 3) := by decide +kernel
theorem dX5_act_62 : decode cX5_act 62 = .ok (.aload_n 0, 1) := by decide +kernel
theorem dX5_act_63 : decode cX5_act 63 = .ok (.dup, 1) := by decide +kernel
theorem dX5_act_64 : decode cX5_act 64 = .ok (.getfield 122, 3) := by decide +kernel
theorem dX5_act_67 : decode cX5_act 67 = .ok (.iconst 1, 1) := by decide +kernel
theorem dX5_act_68 : decode cX5_act 68 = .ok (.iadd, 1) := by decide +kernel
theorem dX5_act_69 : decode cX5_act 69 = .ok (.putfield 122, 3) := by decide +kernel
theorem dX5_act_72 : decode cX5_act 72 = .ok (.iload_n 1, 1) := by decide +kernel
theorem dX5_act_73 : decode cX5_act 73 = .ok (.iconst 1, 1) := by decide +kernel
theorem dX5_act_74 : decode cX5_act 74 = .ok (.if_icmp .ne 8, 3) := by decide +kernel
theorem dX5_act_77 : decode cX5_act 77 = .ok (.aload_n 0, 1) := by decide +kernel
theorem dX5_act_78 : decode cX5_act 78 = .ok (.iconst 0, 1) := by decide +kernel
theorem dX5_act_79 : decode cX5_act 79 = .ok (.putfield 122, 3) := by decide +kernel
theorem dX5_act_82 : decode cX5_act 82 = .ok (.iload_n 1, 1) := by decide +kernel
theorem dX5_act_83 : decode cX5_act 83 = .ok (.iconst 3, 1) := by decide +kernel
theorem dX5_act_84 : decode cX5_act 84 = .ok (.if_icmp .ne 35, 3) := by decide +kernel
theorem dX5_act_87 : decode cX5_act 87 = .ok (.aload_n 0, 1) := by decide +kernel
theorem dX5_act_88 : decode cX5_act 88 = .ok (.aload_n 0, 1) := by decide +kernel
