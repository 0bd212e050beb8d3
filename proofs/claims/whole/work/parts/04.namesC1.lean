theorem dX5_act_89 : decode cX5_act 89 = .ok (.getfield 125, 3) := by decide +kernel
theorem dX5_act_92 : decode cX5_act 92 = .ok (.iconst 2, 1) := by decide +kernel
theorem dX5_act_93 : decode cX5_act 93 = .ok (.if_icmp .ge 7, 3) := by decide +kernel
theorem dX5_act_96 : decode cX5_act 96 = .ok (.iconst 0, 1) := by decide +kernel
theorem dX5_act_97 : decode cX5_act 97 = .ok (.goto 9, 3) := by decide +kernel
theorem dX5_act_100 : decode cX5_act 100 = .ok (.aload_n 0, 1) := by decide +kernel
theorem dX5_act_101 : decode cX5_act 101 = .ok (.getfield 125, 3) := by decide +kernel
theorem dX5_act_104 : decode cX5_act 104 = .ok (.iconst 2, 1) := by decide +kernel
theorem dX5_act_105 : decode cX5_act 105 = .ok (.isub, 1) := by decide +kernel
theorem dX5_act_106 : decode cX5_act 106 = .ok (.putfield 125, 3) := by decide +kernel
theorem dX5_act_109 : decode cX5_act 109 = .ok (.aload_n 0, 1) := by decide +kernel
theorem dX5_act_110 : decode cX5_act 110 = .ok (.dup, 1) := by decide +kernel
theorem dX5_act_111 : decode cX5_act 111 = .ok (.getfield 128, 3) := by decide +kernel
theorem dX5_act_114 : decode cX5_act 114 = .ok (.iconst 1, 1) := by decide +kernel
theorem dX5_act_115 : decode cX5_act 115 = .ok (.isub, 1) := by decide +kernel
theorem dX5_act_116 : decode cX5_act 116 = .ok (.putfield 128, 3) := by decide +kernel
theorem dX5_act_119 : decode cX5_act 119 = .ok (.aload_n 0, 1) := by decide +kernel
theorem dX5_act_120 : decode cX5_act 120 = .ok (.invokevirtual 131, 3) := by decide +kernel
theorem dX5_act_123 : decode cX5_act 123 = .ok (.return_, 1) := by decide +kernel
set_option maxRecDepth 20000 in
theorem ggX5_roll_X5_dragOf : GoodIn wsX5_roll wsX5_dragOf := goodIn_r _ [9, 10, 11, 12, 13, 14, 15, 16, 17, 18, 19, 20, 21, 22, 23, 24, 25, 26, 27, 28, 29, 30, 31, 32, 33, 34, 35, 36, 37, 38, 39, 40, 41, 42, 43] (by decide +kernel) (by decide +kernel)
set_option maxRecDepth 20000 in
theorem gX5_roll_X5_dragOf : GoodIn wsX5_roll (wsV RX5 116 RX5 yX5_dragOf wsX5_dragOf) := goodIn_app (goodIn_of _ (by decide +kernel)) ggX5_roll_X5_dragOf
theorem dX5_roll_0 : decode cX5_roll 0 = .ok (.aload_n 0, 1) := by decide +kernel
theorem dX5_roll_1 : decode cX5_roll 1 = .ok (.dup, 1) := by decide +kernel
theorem dX5_roll_2 : decode cX5_roll 2 = .ok (.getfield 125, 3) := by decide +kernel
theorem dX5_roll_5 : decode cX5_roll 5 = .ok (.aload_n 0, 1) := by decide +kernel
theorem dX5_roll_6 : decode cX5_roll 6 = .ok (.aload_n 0, 1) := by decide +kernel
theorem dX5_roll_7 : decode cX5_roll 7 = .ok (.getfield 119, 3) := by decide +kernel
theorem dX5_roll_10 : decode cX5_roll 10 = .ok (.invokevirtual 116, 3) := by decide +kernel
theorem dX5_roll_13 : decode cX5_roll 13 = .ok (.isub, 1) := by decide +kernel
theorem dX5_roll_14 : decode cX5_roll 14 = .ok (.putfield 125, 3) := by decide +kernel
theorem dX5_roll_17 : decode cX5_roll 17 = .ok (.aload_n 0, 1) := by decide +kernel
theorem dX5_roll_18 : decode cX5_roll 18 = .ok (.aload_n 0, 1) := by decide +kernel
theorem dX5_roll_19 : decode cX5_roll 19 = .ok (.getfield 125, 3) := by decide +kernel
theorem dX5_roll_22 : decode cX5_roll 22 = .ok (.ifCond .ge 7, 3) := by decide +kernel
theorem dX5_roll_25 : decode cX5_roll 25 = .ok (.iconst 0, 1) := by decide +kernel
theorem dX5_roll_26 : decode cX5_roll 26 = .ok (.goto 7, 3) := by decide +kernel
theorem dX5_roll_29 : decode cX5_roll 29 = .ok (.aload_n 0, 1) := by decide +kernel
theorem dX5_roll_30 : decode cX5_roll 30 = .ok (.getfield 125, 3) := by decide +kernel
theorem dX5_roll_33 : decode cX5_roll 33 = .ok (.putfield 125, 3) := by decide +kernel
theorem dX5_roll_36 : decode cX5_roll 36 = .ok (.aload_n 0, 1) := by decide +kernel
theorem dX5_roll_37 : decode cX5_roll 37 = .ok (.getfield 125, 3) := by decide +kernel
theorem dX5_roll_40 : decode cX5_roll 40 = .ok (.iconst 2, 1) := by decide +kernel
theorem dX5_roll_41 : decode cX5_roll 41 = .ok (.idiv, 1) := by decide +kernel
theorem dX5_roll_42 : decode cX5_roll 42 = .ok (.istore_n 1, 1) := by decide +kernel
theorem dX5_roll_43 : decode cX5_roll 43 = .ok (.iconst 0, 1) := by decide +kernel
theorem dX5_roll_44 : decode cX5_roll 44 = .ok (.istore_n 2, 1) := by decide +kernel
theorem dX5_roll_45 : decode cX5_roll 45 = .ok (.iload_n 2, 1) := by decide +kernel
theorem dX5_roll_46 : decode cX5_roll 46 = .ok (.iload_n 1, 1) := by decide +kernel
theorem dX5_roll_47 : decode cX5_roll 47 = .ok (.if_icmp .ge 67, 3) := by decide +kernel
theorem dX5_roll_50 : decode cX5_roll 50 = .ok (.aload_n 0, 1) := by decide +kernel
theorem dX5_roll_51 : decode cX5_roll 51 = .ok (.getfield 119, 3) := by decide +kernel
theorem dX5_roll_54 : decode cX5_roll 54 = .ok (.aload_n 0, 1) := by decide +kernel
theorem dX5_roll_55 : decode cX5_roll 55 = .ok (.getfield 63, 3) := by decide +kernel
theorem dX5_roll_58 : decode cX5_roll 58 = .ok (.if_icmp .ge 56, 3) := by decide +kernel
theorem dX5_roll_61 : decode cX5_roll 61 = .ok (.aload_n 0, 1) := by decide +kernel
theorem dX5_roll_62 : decode cX5_roll 62 = .ok (.dup, 1) := by decide +kernel
theorem dX5_roll_63 : decode cX5_roll 63 = .ok (.getfield 119, 3) := by decide +kernel
theorem dX5_roll_66 : decode cX5_roll 66 = .ok (.iconst 1, 1) := by decide +kernel
theorem dX5_roll_67 : decode cX5_roll 67 = .ok (.iadd, 1) := by decide +kernel
theorem dX5_roll_68 : decode cX5_roll 68 = .ok (.putfield 119, 3) := by decide +kernel
theorem dX5_roll_71 : decode cX5_roll 71 = .ok (.aload_n 0, 1) := by decide +kernel
theorem dX5_roll_72 : decode cX5_roll 72 = .ok (.getfield 119, 3) := by decide +kernel
theorem dX5_roll_75 : decode cX5_roll 75 = .ok (.aload_n 0, 1) := by decide +kernel
theorem dX5_roll_76 : decode cX5_roll 76 = .ok (.getfield 63, 3) := by decide +kernel
theorem dX5_roll_79 : decode cX5_roll 79 = .ok (.if_icmp .ge 29, 3) := by decide +kernel
theorem dX5_roll_82 : decode cX5_roll 82 = .ok (.aload_n 0, 1) := by decide +kernel
theorem dX5_roll_83 : decode cX5_roll 83 = .ok (.getfield 25, 3) := by decide +kernel
theorem dX5_roll_86 : decode cX5_roll 86 = .ok (.aload_n 0, 1) := by decide +kernel
theorem dX5_roll_87 : decode cX5_roll 87 = .ok (.getfield 119, 3) := by decide +kernel
theorem dX5_roll_90 : decode cX5_roll 90 = .ok (.baload, 1) := by decide +kernel
theorem dX5_roll_91 : decode cX5_roll 91 = .ok (.ifCond .eq 17, 3) := by decide +kernel
theorem dX5_roll_94 : decode cX5_roll 94 = .ok (.aload_n 0, 1) := by decide +kernel
theorem dX5_roll_95 : decode cX5_roll 95 = .ok (.getfield 125, 3) := by decide +kernel
theorem dX5_roll_98 : decode cX5_roll 98 = .ok (.iconst 4, 1) := by decide +kernel
theorem dX5_roll_99 : decode cX5_roll 99 = .ok (.if_icmp .lt 9, 3) := by decide +kernel
theorem dX5_roll_102 : decode cX5_roll 102 = .ok (.aload_n 0, 1) := by decide +kernel
theorem dX5_roll_103 : decode cX5_roll 103 = .ok (.iconst 0, 1) := by decide +kernel
theorem dX5_roll_104 : decode cX5_roll 104 = .ok (.putfield 125, 3) := by decide +kernel
theorem dX5_roll_107 : decode cX5_roll 107 = .ok (.return_, 1) := by decide +kernel
theorem dX5_roll_108 : decode cX5_roll 108 = .ok (.iinc 2 1, 3) := by decide +kernel
theorem dX5_roll_111 : decode cX5_roll 111 = .ok (.goto (-66), 3) := by decide +kernel
theorem dX5_roll_114 : decode cX5_roll 114 = .ok (.return_, 1) := by decide +kernel
set_option maxRecDepth 20000 in
theorem ggX5_way_X5_isSheet : GoodIn wsX5_way wsX5_isSheet := goodIn_r _ [7, 8, 9, 6, 10] (by decide +kernel) (by decide +kernel)
set_option maxRecDepth 20000 in
theorem gX5_way_X5_isSheet : GoodIn wsX5_way (va_wsS RX5 69 yX5_isSheet wsX5_isSheet) := goodIn_app (goodIn_of _ (by decide +kernel)) ggX5_way_X5_isSheet
set_option maxRecDepth 20000 in
theorem ggX5_way_X5_isSort : GoodIn wsX5_way wsX5_isSort := goodIn_r _ [13, 8, 9, 6, 10] (by decide +kernel) (by decide +kernel)
set_option maxRecDepth 20000 in
theorem gX5_way_X5_isSort : GoodIn wsX5_way (va_wsS RX5 73 yX5_isSort wsX5_isSort) := goodIn_app (goodIn_of _ (by decide +kernel)) ggX5_way_X5_isSort
set_option maxRecDepth 20000 in
theorem ggX5_way_X5_within : GoodIn wsX5_way wsX5_within := goodIn_r _ [10] (by decide +kernel) (by decide +kernel)
set_option maxRecDepth 20000 in
theorem gX5_way_X5_within : GoodIn wsX5_way (va_wsS RX5 59 yX5_within wsX5_within) := goodIn_app (goodIn_of _ (by decide +kernel)) ggX5_way_X5_within
set_option maxRecDepth 20000 in
theorem ggX5_way_X5_against : GoodIn wsX5_way wsX5_against := goodIn_r _ [17, 18, 19, 65, 66, 67, 68, 69, 70, 71, 72, 73, 74, 75, 76, 77, 78, 79, 80, 81, 82, 83, 84, 85, 86, 87, 88, 89, 90, 91, 92, 93, 94, 95, 96] (by decide +kernel) (by decide +kernel)
set_option maxRecDepth 20000 in
theorem gX5_way_X5_against : GoodIn wsX5_way (wsV RX5 76 RX5 yX5_against wsX5_against) := goodIn_app (goodIn_of _ (by decide +kernel)) ggX5_way_X5_against
set_option maxRecDepth 20000 in
theorem ggX5_way_X5_fails : GoodIn wsX5_way wsX5_fails := goodIn_r _ [23, 1, 65, 66, 67, 68, 69, 70, 71, 72, 73, 74, 75, 76, 77, 78, 79, 80, 81, 82, 83, 84, 85, 86, 87, 88, 89, 90, 91, 92, 93, 94, 95, 96] (by decide +kernel) (by decide +kernel)
set_option maxRecDepth 20000 in
theorem gX5_way_X5_fails : GoodIn wsX5_way (wsV RX5 80 RX5 yX5_fails wsX5_fails) := goodIn_app (goodIn_of _ (by decide +kernel)) ggX5_way_X5_fails
set_option maxRecDepth 20000 in
theorem ggX5_way_X5_goWay : GoodIn wsX5_way wsX5_goWay := goodIn_r _ [27, 3, 28, 29, 30, 31, 32, 33, 6, 34, 35, 36, 37, 38, 39, 40, 41, 42, 43, 2, 44, 45, 46, 47, 48, 49, 50, 51, 52, 53, 54, 55, 56, 57, 58, 59, 60, 65, 66, 67, 68, 69, 70, 71, 72, 73, 74, 75, 76, 77, 78, 79, 80, 81, 82, 83, 84, 85, 86, 87, 88, 89, 90, 91, 92, 93, 94, 95, 96] (by decide +kernel) (by decide +kernel)
set_option maxRecDepth 20000 in
theorem gX5_way_X5_goWay : GoodIn wsX5_way (wsV RX5 134 RX5 yX5_goWay wsX5_goWay) := goodIn_app (goodIn_of _ (by decide +kernel)) ggX5_way_X5_goWay
set_option maxRecDepth 20000 in
theorem ggX5_way_X5_tellWay : GoodIn wsX5_way wsX5_tellWay := goodIn_r _ [64, 28, 35, 36, 29, 37, 39, 30, 65, 66, 67, 68, 69, 70, 71, 72, 73, 74, 75, 76, 77, 78, 79, 80, 81, 82, 83, 84, 85, 86, 87, 88, 89, 90, 91, 92, 93, 94, 95, 96] (by decide +kernel) (by decide +kernel)
set_option maxRecDepth 20000 in
theorem gX5_way_X5_tellWay : GoodIn wsX5_way (wsV RX5 138 RX5 yX5_tellWay wsX5_tellWay) := goodIn_app (goodIn_of _ (by decide +kernel)) ggX5_way_X5_tellWay
theorem dX5_way_0 : decode cX5_way 0 = .ok (.aload_n 0, 1) := by decide +kernel
theorem dX5_way_1 : decode cX5_way 1 = .ok (.iconst 0, 1) := by decide +kernel
theorem dX5_way_2 : decode cX5_way 2 = .ok (.putfield 53, 3) := by decide +kernel
theorem dX5_way_5 : decode cX5_way 5 = .ok (.iload_n 1, 1) := by decide +kernel
theorem dX5_way_6 : decode cX5_way 6 = .ok (.invokestatic 69, 3) := by decide +kernel
theorem dX5_way_9 : decode cX5_way 9 = .ok (.ifCond .ne 5, 3) := by decide +kernel
theorem dX5_way_12 : decode cX5_way 12 = .ok (.iconst (-1), 1) := by decide +kernel
theorem dX5_way_13 : decode cX5_way 13 = .ok (.ireturn, 1) := by decide +kernel
theorem dX5_way_14 : decode cX5_way 14 = .ok (.iload_n 2, 1) := by decide +kernel
theorem dX5_way_15 : decode cX5_way 15 = .ok (.invokestatic 73, 3) := by decide +kernel
theorem dX5_way_18 : decode cX5_way 18 = .ok (.ifCond .eq 25, 3) := by decide +kernel
theorem dX5_way_21 : decode cX5_way 21 = .ok (.iload 4, 2) := by decide +kernel
theorem dX5_way_23 : decode cX5_way 23 = .ok (.iconst 0, 1) := by decide +kernel
theorem dX5_way_24 : decode cX5_way 24 = .ok (.bipush 24, 2) := by decide +kernel
theorem dX5_way_26 : decode cX5_way 26 = .ok (.invokestatic 59, 3) := by decide +kernel
theorem dX5_way_29 : decode cX5_way 29 = .ok (.ifCond .eq 14, 3) := by decide +kernel
theorem dX5_way_32 : decode cX5_way 32 = .ok (.iload 5, 2) := by decide +kernel
theorem dX5_way_34 : decode cX5_way 34 = .ok (.iconst 0, 1) := by decide +kernel
theorem dX5_way_35 : decode cX5_way 35 = .ok (.bipush 7, 2) := by decide +kernel
theorem dX5_way_37 : decode cX5_way 37 = .ok (.invokestatic 59, 3) := by decide +kernel
theorem dX5_way_40 : decode cX5_way 40 = .ok (.ifCond .ne 6, 3) := by decide +kernel
theorem dX5_way_43 : decode cX5_way 43 = .ok (.bipush (-2), 2) := by decide +kernel
theorem dX5_way_45 : decode cX5_way 45 = .ok (.ireturn, 1) := by decide +kernel
theorem dX5_way_46 : decode cX5_way 46 = .ok (.aload_n 0, 1) := by decide +kernel
theorem dX5_way_47 : decode cX5_way 47 = .ok (.iload_n 1, 1) := by decide +kernel
theorem dX5_way_48 : decode cX5_way 48 = .ok (.iload_n 2, 1) := by decide +kernel
theorem dX5_way_49 : decode cX5_way 49 = .ok (.iload_n 3, 1) := by decide +kernel
theorem dX5_way_50 : decode cX5_way 50 = .ok (.iload 4, 2) := by decide +kernel
theorem dX5_way_52 : decode cX5_way 52 = .ok (.invokevirtual 76, 3) := by decide +kernel
theorem dX5_way_55 : decode cX5_way 55 = .ok (.istore 6, 2) := by decide +kernel
theorem dX5_way_57 : decode cX5_way 57 = .ok (.iload 6, 2) := by decide +kernel
theorem dX5_way_59 : decode cX5_way 59 = .ok (.ifCond .eq 10, 3) := by decide +kernel
theorem dX5_way_62 : decode cX5_way 62 = .ok (.aload_n 0, 1) := by decide +kernel
theorem dX5_way_63 : decode cX5_way 63 = .ok (.iload 6, 2) := by decide +kernel
theorem dX5_way_65 : decode cX5_way 65 = .ok (.invokevirtual 80, 3) := by decide +kernel
theorem dX5_way_68 : decode cX5_way 68 = .ok (.ireturn, 1) := by decide +kernel
theorem dX5_way_69 : decode cX5_way 69 = .ok (.aload_n 0, 1) := by decide +kernel
theorem dX5_way_70 : decode cX5_way 70 = .ok (.getfield 63, 3) := by decide +kernel
theorem dX5_way_73 : decode cX5_way 73 = .ok (.ifCond .ne 6, 3) := by decide +kernel
theorem dX5_way_76 : decode cX5_way 76 = .ok (.bipush (-3), 2) := by decide +kernel
theorem dX5_way_78 : decode cX5_way 78 = .ok (.ireturn, 1) := by decide +kernel
theorem dX5_way_79 : decode cX5_way 79 = .ok (.bipush 60, 2) := by decide +kernel
theorem dX5_way_81 : decode cX5_way 81 = .ok (.iload_n 1, 1) := by decide +kernel
theorem dX5_way_82 : decode cX5_way 82 = .ok (.imul, 1) := by decide +kernel
theorem dX5_way_83 : decode cX5_way 83 = .ok (.iload_n 3, 1) := by decide +kernel
theorem dX5_way_84 : decode cX5_way 84 = .ok (.iadd, 1) := by decide +kernel
theorem dX5_way_85 : decode cX5_way 85 = .ok (.istore 7, 2) := by decide +kernel
theorem dX5_way_87 : decode cX5_way 87 = .ok (.iconst 0, 1) := by decide +kernel
theorem dX5_way_88 : decode cX5_way 88 = .ok (.istore 8, 2) := by decide +kernel
theorem dX5_way_90 : decode cX5_way 90 = .ok (.iload 8, 2) := by decide +kernel
theorem dX5_way_92 : decode cX5_way 92 = .ok (.iload 4, 2) := by decide +kernel
theorem dX5_way_94 : decode cX5_way 94 = .ok (.if_icmp .ge 30, 3) := by decide +kernel
theorem dX5_way_97 : decode cX5_way 97 = .ok (.aload_n 0, 1) := by decide +kernel
theorem dX5_way_98 : decode cX5_way 98 = .ok (.getfield 16, 3) := by decide +kernel
theorem dX5_way_101 : decode cX5_way 101 = .ok (.iload 7, 2) := by decide +kernel
theorem dX5_way_103 : decode cX5_way 103 = .ok (.iload 8, 2) := by decide +kernel
theorem dX5_way_105 : decode cX5_way 105 = .ok (.iadd, 1) := by decide +kernel
theorem dX5_way_106 : decode cX5_way 106 = .ok (.iaload, 1) := by decide +kernel
theorem dX5_way_107 : decode cX5_way 107 = .ok (.iconst 0, 1) := by decide +kernel
theorem dX5_way_108 : decode cX5_way 108 = .ok (.iconst 4, 1) := by decide +kernel
theorem dX5_way_109 : decode cX5_way 109 = .ok (.invokestatic 59, 3) := by decide +kernel
theorem dX5_way_112 : decode cX5_way 112 = .ok (.ifCond .ne 6, 3) := by decide +kernel
theorem dX5_way_115 : decode cX5_way 115 = .ok (.bipush (-2), 2) := by decide +kernel
theorem dX5_way_117 : decode cX5_way 117 = .ok (.ireturn, 1) := by decide +kernel
theorem dX5_way_118 : decode cX5_way 118 = .ok (.iinc 8 1, 3) := by decide +kernel
theorem dX5_way_121 : decode cX5_way 121 = .ok (.goto (-31), 3) := by decide +kernel
theorem dX5_way_124 : decode cX5_way 124 = .ok (.aload_n 0, 1) := by decide +kernel
theorem dX5_way_125 : decode cX5_way 125 = .ok (.iload 7, 2) := by decide +kernel
theorem dX5_way_127 : decode cX5_way 127 = .ok (.iload 4, 2) := by decide +kernel
theorem dX5_way_129 : decode cX5_way 129 = .ok (.invokevirtual 134, 3) := by decide +kernel
theorem dX5_way_132 : decode cX5_way 132 = .ok (.istore 8, 2) := by decide +kernel
theorem dX5_way_134 : decode cX5_way 134 = .ok (.iload 5, 2) := by decide +kernel
theorem dX5_way_136 : decode cX5_way 136 = .ok (.iconst 1, 1) := by decide +kernel
theorem dX5_way_137 : decode cX5_way 137 = .ok (.if_icmp .ne 6, 3) := by decide +kernel
theorem dX5_way_140 : decode cX5_way 140 = .ok (.iload 8, 2) := by decide +kernel
theorem dX5_way_142 : decode cX5_way 142 = .ok (.ireturn, 1) := by decide +kernel
theorem dX5_way_143 : decode cX5_way 143 = .ok (.iload 8, 2) := by decide +kernel
theorem dX5_way_145 : decode cX5_way 145 = .ok (.bipush (-9), 2) := by decide +kernel
theorem dX5_way_147 : decode cX5_way 147 = .ok (.if_icmp .ne 12, 3) := by decide +kernel
theorem dX5_way_150 : decode cX5_way 150 = .ok (.aload_n 0, 1) := by decide +kernel
theorem dX5_way_151 : decode cX5_way 151 = .ok (.iload 5, 2) := by decide +kernel
theorem dX5_way_153 : decode cX5_way 153 = .ok (.invokevirtual 138, 3) := by decide +kernel
theorem dX5_way_156 : decode cX5_way 156 = .ok (.goto 8, 3) := by decide +kernel
theorem dX5_way_159 : decode cX5_way 159 = .ok (.bipush (-100), 2) := by decide +kernel
theorem dX5_way_161 : decode cX5_way 161 = .ok (.iload 8, 2) := by decide +kernel
theorem dX5_way_163 : decode cX5_way 163 = .ok (.isub, 1) := by decide +kernel
theorem dX5_way_164 : decode cX5_way 164 = .ok (.ireturn, 1) := by decide +kernel
theorem dX5_begin_0 : decode cX5_begin 0 = .ok (.aload_n 0, 1) := by decide +kernel
theorem dX5_begin_1 : decode cX5_begin 1 = .ok (.iconst 0, 1) := by decide +kernel
theorem dX5_begin_2 : decode cX5_begin 2 = .ok (.putfield 119, 3) := by decide +kernel
theorem dX5_begin_5 : decode cX5_begin 5 = .ok (.aload_n 0, 1) := by decide +kernel
theorem dX5_begin_6 : decode cX5_begin 6 = .ok (.iconst 0, 1) := by decide +kernel
theorem dX5_begin_7 : decode cX5_begin 7 = .ok (.putfield 125, 3) := by decide +kernel
theorem dX5_begin_10 : decode cX5_begin 10 = .ok (.aload_n 0, 1) := by decide +kernel
theorem dX5_begin_11 : decode cX5_begin 11 = .ok (.iconst 0, 1) := by decide +kernel
theorem dX5_begin_12 : decode cX5_begin 12 = .ok (.putfield 122, 3) := by decide +kernel
theorem dX5_begin_15 : decode cX5_begin 15 = .ok (.aload_n 0, 1) := by decide +kernel
theorem dX5_begin_16 : decode cX5_begin 16 = .ok (.aload_n 0, 1) := by decide +kernel
theorem dX5_begin_17 : decode cX5_begin 17 = .ok (.getfield 93, 3) := by decide +kernel
theorem dX5_begin_20 : decode cX5_begin 20 = .ok (.putfield 128, 3) := by decide +kernel
theorem dX5_begin_23 : decode cX5_begin 23 = .ok (.aload_n 0, 1) := by decide +kernel
theorem dX5_begin_24 : decode cX5_begin 24 = .ok (.iconst 0, 1) := by decide +kernel
theorem dX5_begin_25 : decode cX5_begin 25 = .ok (.putfield 141, 3) := by decide +kernel
theorem dX5_begin_28 : decode cX5_begin 28 = .ok (.aload_n 0, 1) := by decide +kernel
theorem dX5_begin_29 : decode cX5_begin 29 = .ok (.iconst 0, 1) := by decide +kernel
theorem dX5_begin_30 : decode cX5_begin 30 = .ok (.putfield 144, 3) := by decide +kernel
theorem dX5_begin_33 : decode cX5_begin 33 = .ok (.aload_n 0, 1) := by decide +kernel
theorem dX5_begin_34 : decode cX5_begin 34 = .ok (.iconst 0, 1) := by decide +kernel
theorem dX5_begin_35 : decode cX5_begin 35 = .ok (.putfield 147, 3) := by decide +kernel
theorem dX5_begin_38 : decode cX5_begin 38 = .ok (.return_, 1) := by decide +kernel
set_option maxRecDepth 20000 in
theorem ggX5_goWay_X5_begin : GoodIn wsX5_goWay wsX5_begin := goodIn_r _ [9, 10, 11, 12, 13, 14, 2, 3, 4, 37, 38, 39, 40, 41, 42, 43, 44, 45, 46, 47, 48, 49, 50, 51, 52, 53, 54, 55, 56, 57, 58, 59, 60, 61, 62, 63, 64, 65, 66, 67, 68] (by decide +kernel) (by decide +kernel)
set_option maxRecDepth 20000 in
theorem gX5_goWay_X5_begin : GoodIn wsX5_goWay (wsV RX5 150 RX5 yX5_begin wsX5_begin) := goodIn_app (goodIn_of _ (by decide +kernel)) ggX5_goWay_X5_begin
set_option maxRecDepth 20000 in
theorem ggX5_goWay_X5_mayAct : GoodIn wsX5_goWay wsX5_mayAct := goodIn_r _ [18, 10, 19, 12, 20, 11, 14, 37, 38, 39, 40, 41, 42, 43, 44, 45, 46, 47, 48, 49, 50, 51, 52, 53, 54, 55, 56, 57, 58, 59, 60, 61, 62, 63, 64, 65, 66, 67, 68] (by decide +kernel) (by decide +kernel)
set_option maxRecDepth 20000 in
theorem gX5_goWay_X5_mayAct : GoodIn wsX5_goWay (wsV RX5 153 RX5 yX5_mayAct wsX5_mayAct) := goodIn_app (goodIn_of _ (by decide +kernel)) ggX5_goWay_X5_mayAct
set_option maxRecDepth 20000 in
theorem ggX5_goWay_X5_act : GoodIn wsX5_goWay wsX5_act := goodIn_r _ [24, 11, 12, 10, 25, 14, 26, 27, 28, 8, 29, 19, 30, 31, 32, 33, 34, 35, 36, 37, 38, 39, 40, 41, 42, 43, 44, 45, 46, 47, 48, 49, 50, 51, 52, 53, 54, 55, 56, 57, 58, 59, 60, 61, 62, 63, 64, 65, 66, 67, 68] (by decide +kernel) (by decide +kernel)
set_option maxRecDepth 20000 in
theorem gX5_goWay_X5_act : GoodIn wsX5_goWay (wsV RX5 156 RX5 yX5_act wsX5_act) := goodIn_app (goodIn_of _ (by decide +kernel)) ggX5_goWay_X5_act
theorem dX5_goWay_0 : decode cX5_goWay 0 = .ok (.aload_n 0, 1) := by decide +kernel
theorem dX5_goWay_1 : decode cX5_goWay 1 = .ok (.invokevirtual 150, 3) := by decide +kernel
theorem dX5_goWay_4 : decode cX5_goWay 4 = .ok (.iconst 0, 1) := by decide +kernel
theorem dX5_goWay_5 : decode cX5_goWay 5 = .ok (.istore_n 3, 1) := by decide +kernel
theorem dX5_goWay_6 : decode cX5_goWay 6 = .ok (.iload_n 3, 1) := by decide +kernel
theorem dX5_goWay_7 : decode cX5_goWay 7 = .ok (.iload_n 2, 1) := by decide +kernel
theorem dX5_goWay_8 : decode cX5_goWay 8 = .ok (.if_icmp .ge 98, 3) := by decide +kernel
theorem dX5_goWay_11 : decode cX5_goWay 11 = .ok (.aload_n 0, 1) := by decide +kernel
theorem dX5_goWay_12 : decode cX5_goWay 12 = .ok (.getfield 16, 3) := by decide +kernel
theorem dX5_goWay_15 : decode cX5_goWay 15 = .ok (.iload_n 1, 1) := by decide +kernel
theorem dX5_goWay_16 : decode cX5_goWay 16 = .ok (.iload_n 3, 1) := by decide +kernel
theorem dX5_goWay_17 : decode cX5_goWay 17 = .ok (.iadd, 1) := by decide +kernel
theorem dX5_goWay_18 : decode cX5_goWay 18 = .ok (.iaload, 1) := by decide +kernel
theorem dX5_goWay_19 : decode cX5_goWay 19 = .ok (.istore 4, 2) := by decide +kernel
theorem dX5_goWay_21 : decode cX5_goWay 21 = .ok (.aload_n 0, 1) := by decide +kernel
theorem dX5_goWay_22 : decode cX5_goWay 22 = .ok (.iload 4, 2) := by decide +kernel
theorem dX5_goWay_24 : decode cX5_goWay 24 = .ok (.invokevirtual 153, 3) := by decide +kernel
theorem dX5_goWay_27 : decode cX5_goWay 27 = .ok (.ifCond .ne 5, 3) := by decide +kernel
theorem dX5_goWay_30 : decode cX5_goWay 30 = .ok (.iload_n 3, 1) := by decide +kernel
theorem dX5_goWay_31 : decode cX5_goWay 31 = .ok (.ireturn, 1) := by decide +kernel
theorem dX5_goWay_32 : decode cX5_goWay 32 = .ok (.aload_n 0, 1) := by decide +kernel
theorem dX5_goWay_33 : decode cX5_goWay 33 = .ok (.iload 4, 2) := by decide +kernel
theorem dX5_goWay_35 : decode cX5_goWay 35 = .ok (.invokevirtual 156, 3) := by decide +kernel
theorem dX5_goWay_38 : decode cX5_goWay 38 = .ok (.aload_n 0, 1) := by decide +kernel
theorem dX5_goWay_39 : decode cX5_goWay 39 = .ok (.dup, 1) := by decide +kernel
theorem dX5_goWay_40 : decode cX5_goWay 40 = .ok (.getfield 141, 3) := by decide +kernel
theorem dX5_goWay_43 : decode cX5_goWay 43 = .ok (.iload 4, 2) := by decide +kernel
theorem dX5_goWay_45 : decode cX5_goWay 45 = .ok (.iconst 4, 1) := by decide +kernel
theorem dX5_goWay_46 : decode cX5_goWay 46 = .ok (.if_icmp .ne 7, 3) := by decide +kernel
theorem dX5_goWay_49 : decode cX5_goWay 49 = .ok (.iconst 3, 1) := by decide +kernel
theorem dX5_goWay_50 : decode cX5_goWay 50 = .ok (.goto 4, 3) := by decide +kernel
theorem dX5_goWay_53 : decode cX5_goWay 53 = .ok (.iconst 1, 1) := by decide +kernel
theorem dX5_goWay_54 : decode cX5_goWay 54 = .ok (.iadd, 1) := by decide +kernel
theorem dX5_goWay_55 : decode cX5_goWay 55 = .ok (.putfield 141, 3) := by decide +kernel
theorem dX5_goWay_58 : decode cX5_goWay 58 = .ok (.aload_n 0, 1) := by decide +kernel
theorem dX5_goWay_59 : decode cX5_goWay 59 = .ok (.iload 4, 2) := by decide +kernel
theorem dX5_goWay_61 : decode cX5_goWay 61 = .ok (.iconst 1, 1) := by decide +kernel
theorem dX5_goWay_62 : decode cX5_goWay 62 = .ok (.if_icmp .ne 12, 3) := by decide +kernel
theorem dX5_goWay_65 : decode cX5_goWay 65 = .ok (.iconst 1, 1) := by decide +kernel
theorem dX5_goWay_66 : decode cX5_goWay 66 = .ok (.aload_n 0, 1) := by decide +kernel
theorem dX5_goWay_67 : decode cX5_goWay 67 = .ok (.getfield 144, 3) := by decide +kernel
theorem dX5_goWay_70 : decode cX5_goWay 70 = .ok (.isub, 1) := by decide +kernel
theorem dX5_goWay_71 : decode cX5_goWay 71 = .ok (.goto 7, 3) := by decide +kernel
theorem dX5_goWay_74 : decode cX5_goWay 74 = .ok (.aload_n 0, 1) := by decide +kernel
theorem dX5_goWay_75 : decode cX5_goWay 75 = .ok (.getfield 144, 3) := by decide +kernel
theorem dX5_goWay_78 : decode cX5_goWay 78 = .ok (.putfield 144, 3) := by decide +kernel
theorem dX5_goWay_81 : decode cX5_goWay 81 = .ok (.aload_n 0, 1) := by decide +kernel
theorem dX5_goWay_82 : decode cX5_goWay 82 = .ok (.dup, 1) := by decide +kernel
theorem dX5_goWay_83 : decode cX5_goWay 83 = .ok (.getfield 147, 3) := by decide +kernel
theorem dX5_goWay_86 : decode cX5_goWay 86 = .ok (.iload 4, 2) := by decide +kernel
theorem dX5_goWay_88 : decode cX5_goWay 88 = .ok (.ifCond .ne 7, 3) := by decide +kernel
theorem dX5_goWay_91 : decode cX5_goWay 91 = .ok (.iconst 1, 1) := by decide +kernel
theorem dX5_goWay_92 : decode cX5_goWay 92 = .ok (.goto 4, 3) := by decide +kernel
theorem dX5_goWay_95 : decode cX5_goWay 95 = .ok (.iconst 0, 1) := by decide +kernel
theorem dX5_goWay_96 : decode cX5_goWay 96 = .ok (.iadd, 1) := by decide +kernel
theorem dX5_goWay_97 : decode cX5_goWay 97 = .ok (.putfield 147, 3) := by decide +kernel
theorem dX5_goWay_100 : decode cX5_goWay 100 = .ok (.iinc 3 1, 3) := by decide +kernel
theorem dX5_goWay_103 : decode cX5_goWay 103 = .ok (.goto (-97), 3) := by decide +kernel
theorem dX5_goWay_106 : decode cX5_goWay 106 = .ok (.bipush (-9), 2) := by decide +kernel
theorem dX5_goWay_108 : decode cX5_goWay 108 = .ok (.ireturn, 1) := by decide +kernel
theorem dX5_tellWay_0 : decode cX5_tellWay 0 = .ok (.iload_n 1, 1) := by decide +kernel
theorem dX5_tellWay_1 : decode cX5_tellWay 1 = .ok (.tableswitch 73 0 6 #[43, 73, 48, 53, 58, 63, 68], 43) := by decide +kernel
theorem dX5_tellWay_44 : decode cX5_tellWay 44 = .ok (.aload_n 0, 1) := by decide +kernel
theorem dX5_tellWay_45 : decode cX5_tellWay 45 = .ok (.getfield 141, 3) := by decide +kernel
theorem dX5_tellWay_48 : decode cX5_tellWay 48 = .ok (.ireturn, 1) := by decide +kernel
theorem dX5_tellWay_49 : decode cX5_tellWay 49 = .ok (.aload_n 0, 1) := by decide +kernel
theorem dX5_tellWay_50 : decode cX5_tellWay 50 = .ok (.getfield 119, 3) := by decide +kernel
theorem dX5_tellWay_53 : decode cX5_tellWay 53 = .ok (.ireturn, 1) := by decide +kernel
theorem dX5_tellWay_54 : decode cX5_tellWay 54 = .ok (.aload_n 0, 1) := by decide +kernel
theorem dX5_tellWay_55 : decode cX5_tellWay 55 = .ok (.getfield 125, 3) := by decide +kernel
theorem dX5_tellWay_58 : decode cX5_tellWay 58 = .ok (.ireturn, 1) := by decide +kernel
theorem dX5_tellWay_59 : decode cX5_tellWay 59 = .ok (.aload_n 0, 1) := by decide +kernel
theorem dX5_tellWay_60 : decode cX5_tellWay 60 = .ok (.getfield 144, 3) := by decide +kernel
theorem dX5_tellWay_63 : decode cX5_tellWay 63 = .ok (.ireturn, 1) := by decide +kernel
theorem dX5_tellWay_64 : decode cX5_tellWay 64 = .ok (.aload_n 0, 1) := by decide +kernel
theorem dX5_tellWay_65 : decode cX5_tellWay 65 = .ok (.getfield 122, 3) := by decide +kernel
theorem dX5_tellWay_68 : decode cX5_tellWay 68 = .ok (.ireturn, 1) := by decide +kernel
theorem dX5_tellWay_69 : decode cX5_tellWay 69 = .ok (.aload_n 0, 1) := by decide +kernel
theorem dX5_tellWay_70 : decode cX5_tellWay 70 = .ok (.getfield 128, 3) := by decide +kernel
theorem dX5_tellWay_73 : decode cX5_tellWay 73 = .ok (.ireturn, 1) := by decide +kernel
theorem dX5_tellWay_74 : decode cX5_tellWay 74 = .ok (.aload_n 0, 1) := by decide +kernel
theorem dX5_tellWay_75 : decode cX5_tellWay 75 = .ok (.getfield 147, 3) := by decide +kernel
theorem dX5_tellWay_78 : decode cX5_tellWay 78 = .ok (.ireturn, 1) := by decide +kernel
theorem dX5_spot_0 : decode cX5_spot 0 = .ok (.iload_n 0, 1) := by decide +kernel
theorem dX5_spot_1 : decode cX5_spot 1 = .ok (.bipush 10, 2) := by decide +kernel
theorem dX5_spot_3 : decode cX5_spot 3 = .ok (.imul, 1) := by decide +kernel
theorem dX5_spot_4 : decode cX5_spot 4 = .ok (.iload_n 1, 1) := by decide +kernel
theorem dX5_spot_5 : decode cX5_spot 5 = .ok (.iadd, 1) := by decide +kernel
theorem dX5_spot_6 : decode cX5_spot 6 = .ok (.bipush 7, 2) := by decide +kernel
theorem dX5_spot_8 : decode cX5_spot 8 = .ok (.imul, 1) := by decide +kernel
theorem dX5_spot_9 : decode cX5_spot 9 = .ok (.iload_n 2, 1) := by decide +kernel
theorem dX5_spot_10 : decode cX5_spot 10 = .ok (.iadd, 1) := by decide +kernel
theorem dX5_spot_11 : decode cX5_spot 11 = .ok (.iconst 4, 1) := by decide +kernel
theorem dX5_spot_12 : decode cX5_spot 12 = .ok (.imul, 1) := by decide +kernel
theorem dX5_spot_13 : decode cX5_spot 13 = .ok (.iload_n 3, 1) := by decide +kernel
theorem dX5_spot_14 : decode cX5_spot 14 = .ok (.iadd, 1) := by decide +kernel
theorem dX5_spot_15 : decode cX5_spot 15 = .ok (.iconst 3, 1) := by decide +kernel
theorem dX5_spot_16 : decode cX5_spot 16 = .ok (.imul, 1) := by decide +kernel
theorem dX5_spot_17 : decode cX5_spot 17 = .ok (.iload 4, 2) := by decide +kernel
theorem dX5_spot_19 : decode cX5_spot 19 = .ok (.iadd, 1) := by decide +kernel
theorem dX5_spot_20 : decode cX5_spot 20 = .ok (.ireturn, 1) := by decide +kernel
set_option maxRecDepth 20000 in
theorem ggX5_comes_X5_spot : GoodIn wsX5_comes wsX5_spot := goodIn_r _ [12] (by decide +kernel) (by decide +kernel)
set_option maxRecDepth 20000 in
theorem gX5_comes_X5_spot : GoodIn wsX5_comes (va_wsS RX5 166 yX5_spot wsX5_spot) := goodIn_app (goodIn_of _ (by decide +kernel)) ggX5_comes_X5_spot
theorem dX5_comes_0 : decode cX5_comes 0 = .ok (.iload_n 1, 1) := by decide +kernel
theorem dX5_comes_1 : decode cX5_comes 1 = .ok (.iload_n 3, 1) := by decide +kernel
theorem dX5_comes_2 : decode cX5_comes 2 = .ok (.if_icmp .le 4, 3) := by decide +kernel
theorem dX5_comes_5 : decode cX5_comes 5 = .ok (.return_, 1) := by decide +kernel
theorem dX5_comes_6 : decode cX5_comes 6 = .ok (.aload_n 0, 1) := by decide +kernel
theorem dX5_comes_7 : decode cX5_comes 7 = .ok (.getfield 119, 3) := by decide +kernel
theorem dX5_comes_10 : decode cX5_comes 10 = .ok (.aload_n 0, 1) := by decide +kernel
theorem dX5_comes_11 : decode cX5_comes 11 = .ok (.getfield 63, 3) := by decide +kernel
theorem dX5_comes_14 : decode cX5_comes 14 = .ok (.if_icmp .ne 62, 3) := by decide +kernel
theorem dX5_comes_17 : decode cX5_comes 17 = .ok (.aload_n 0, 1) := by decide +kernel
theorem dX5_comes_18 : decode cX5_comes 18 = .ok (.aload_n 0, 1) := by decide +kernel
theorem dX5_comes_19 : decode cX5_comes 19 = .ok (.getfield 160, 3) := by decide +kernel
theorem dX5_comes_22 : decode cX5_comes 22 = .ok (.bipush (-9), 2) := by decide +kernel
theorem dX5_comes_24 : decode cX5_comes 24 = .ok (.if_icmp .eq 11, 3) := by decide +kernel
theorem dX5_comes_27 : decode cX5_comes 27 = .ok (.iload_n 1, 1) := by decide +kernel
theorem dX5_comes_28 : decode cX5_comes 28 = .ok (.aload_n 0, 1) := by decide +kernel
theorem dX5_comes_29 : decode cX5_comes 29 = .ok (.getfield 160, 3) := by decide +kernel
theorem dX5_comes_32 : decode cX5_comes 32 = .ok (.if_icmp .ge 7, 3) := by decide +kernel
theorem dX5_comes_35 : decode cX5_comes 35 = .ok (.iload_n 1, 1) := by decide +kernel
theorem dX5_comes_36 : decode cX5_comes 36 = .ok (.goto 7, 3) := by decide +kernel
theorem dX5_comes_39 : decode cX5_comes 39 = .ok (.aload_n 0, 1) := by decide +kernel
theorem dX5_comes_40 : decode cX5_comes 40 = .ok (.getfield 160, 3) := by decide +kernel
theorem dX5_comes_43 : decode cX5_comes 43 = .ok (.putfield 160, 3) := by decide +kernel
theorem dX5_comes_46 : decode cX5_comes 46 = .ok (.aload_n 0, 1) := by decide +kernel
theorem dX5_comes_47 : decode cX5_comes 47 = .ok (.aload_n 0, 1) := by decide +kernel
theorem dX5_comes_48 : decode cX5_comes 48 = .ok (.getfield 163, 3) := by decide +kernel
theorem dX5_comes_51 : decode cX5_comes 51 = .ok (.bipush (-9), 2) := by decide +kernel
theorem dX5_comes_53 : decode cX5_comes 53 = .ok (.if_icmp .eq 11, 3) := by decide +kernel
theorem dX5_comes_56 : decode cX5_comes 56 = .ok (.iload_n 2, 1) := by decide +kernel
theorem dX5_comes_57 : decode cX5_comes 57 = .ok (.aload_n 0, 1) := by decide +kernel
theorem dX5_comes_58 : decode cX5_comes 58 = .ok (.getfield 163, 3) := by decide +kernel
theorem dX5_comes_61 : decode cX5_comes 61 = .ok (.if_icmp .ge 7, 3) := by decide +kernel
theorem dX5_comes_64 : decode cX5_comes 64 = .ok (.iload_n 2, 1) := by decide +kernel
theorem dX5_comes_65 : decode cX5_comes 65 = .ok (.goto 7, 3) := by decide +kernel
theorem dX5_comes_68 : decode cX5_comes 68 = .ok (.aload_n 0, 1) := by decide +kernel
theorem dX5_comes_69 : decode cX5_comes 69 = .ok (.getfield 163, 3) := by decide +kernel
theorem dX5_comes_72 : decode cX5_comes 72 = .ok (.putfield 163, 3) := by decide +kernel
theorem dX5_comes_75 : decode cX5_comes 75 = .ok (.return_, 1) := by decide +kernel
theorem dX5_comes_76 : decode cX5_comes 76 = .ok (.iload_n 1, 1) := by decide +kernel
theorem dX5_comes_77 : decode cX5_comes 77 = .ok (.aload_n 0, 1) := by decide +kernel
theorem dX5_comes_78 : decode cX5_comes 78 = .ok (.getfield 119, 3) := by decide +kernel
theorem dX5_comes_81 : decode cX5_comes 81 = .ok (.aload_n 0, 1) := by decide +kernel
theorem dX5_comes_82 : decode cX5_comes 82 = .ok (.getfield 125, 3) := by decide +kernel
theorem dX5_comes_85 : decode cX5_comes 85 = .ok (.aload_n 0, 1) := by decide +kernel
theorem dX5_comes_86 : decode cX5_comes 86 = .ok (.getfield 122, 3) := by decide +kernel
theorem dX5_comes_89 : decode cX5_comes 89 = .ok (.aload_n 0, 1) := by decide +kernel
theorem dX5_comes_90 : decode cX5_comes 90 = .ok (.getfield 128, 3) := by decide +kernel
theorem dX5_comes_93 : decode cX5_comes 93 = .ok (.invokestatic 166, 3) := by decide +kernel
theorem dX5_comes_96 : decode cX5_comes 96 = .ok (.istore 4, 2) := by decide +kernel
theorem dX5_comes_98 : decode cX5_comes 98 = .ok (.aload_n 0, 1) := by decide +kernel
theorem dX5_comes_99 : decode cX5_comes 99 = .ok (.getfield 41, 3) := by decide +kernel
theorem dX5_comes_102 : decode cX5_comes 102 = .ok (.iload 4, 2) := by decide +kernel
theorem dX5_comes_104 : decode cX5_comes 104 = .ok (.aload_n 0, 1) := by decide +kernel
theorem dX5_comes_105 : decode cX5_comes 105 = .ok (.getfield 41, 3) := by decide +kernel
theorem dX5_comes_108 : decode cX5_comes 108 = .ok (.iload 4, 2) := by decide +kernel
theorem dX5_comes_110 : decode cX5_comes 110 = .ok (.iaload, 1) := by decide +kernel
theorem dX5_comes_111 : decode cX5_comes 111 = .ok (.bipush (-9), 2) := by decide +kernel
theorem dX5_comes_113 : decode cX5_comes 113 = .ok (.if_icmp .eq 14, 3) := by decide +kernel
theorem dX5_comes_116 : decode cX5_comes 116 = .ok (.iload_n 2, 1) := by decide +kernel
theorem dX5_comes_117 : decode cX5_comes 117 = .ok (.aload_n 0, 1) := by decide +kernel
theorem dX5_comes_118 : decode cX5_comes 118 = .ok (.getfield 41, 3) := by decide +kernel
theorem dX5_comes_121 : decode cX5_comes 121 = .ok (.iload 4, 2) := by decide +kernel
theorem dX5_comes_123 : decode cX5_comes 123 = .ok (.iaload, 1) := by decide +kernel
theorem dX5_comes_124 : decode cX5_comes 124 = .ok (.if_icmp .ge 7, 3) := by decide +kernel
theorem dX5_comes_127 : decode cX5_comes 127 = .ok (.iload_n 2, 1) := by decide +kernel
theorem dX5_comes_128 : decode cX5_comes 128 = .ok (.goto 10, 3) := by decide +kernel
theorem dX5_comes_131 : decode cX5_comes 131 = .ok (.aload_n 0, 1) := by decide +kernel
theorem dX5_comes_132 : decode cX5_comes 132 = .ok (.getfield 41, 3) := by decide +kernel
theorem dX5_comes_135 : decode cX5_comes 135 = .ok (.iload 4, 2) := by decide +kernel
theorem dX5_comes_137 : decode cX5_comes 137 = .ok (.iaload, 1) := by decide +kernel
theorem dX5_comes_138 : decode cX5_comes 138 = .ok (.iastore, 1) := by decide +kernel
theorem dX5_comes_139 : decode cX5_comes 139 = .ok (.return_, 1) := by decide +kernel
set_option maxRecDepth 20000 in
theorem ggX5_goFrom_X5_mayAct : GoodIn wsX5_goFrom wsX5_mayAct := goodIn_r _ [10, 1, 11, 3, 12, 2, 4, 38, 39, 40, 41, 42, 43, 44, 45, 46, 47, 48, 49, 50, 51, 52, 53, 54, 55, 56, 57, 58, 59, 60, 61, 62, 63, 64, 65, 66, 67, 68, 69] (by decide +kernel) (by decide +kernel)
set_option maxRecDepth 20000 in
theorem gX5_goFrom_X5_mayAct : GoodIn wsX5_goFrom (wsV RX5 153 RX5 yX5_mayAct wsX5_mayAct) := goodIn_app (goodIn_of _ (by decide +kernel)) ggX5_goFrom_X5_mayAct
set_option maxRecDepth 20000 in
theorem ggX5_goFrom_X5_act : GoodIn wsX5_goFrom wsX5_act := goodIn_r _ [16, 2, 3, 1, 17, 4, 18, 19, 20, 9, 21, 11, 22, 23, 24, 25, 26, 27, 28, 38, 39, 40, 41, 42, 43, 44, 45, 46, 47, 48, 49, 50, 51, 52, 53, 54, 55, 56, 57, 58, 59, 60, 61, 62, 63, 64, 65, 66, 67, 68, 69] (by decide +kernel) (by decide +kernel)
set_option maxRecDepth 20000 in
theorem gX5_goFrom_X5_act : GoodIn wsX5_goFrom (wsV RX5 156 RX5 yX5_act wsX5_act) := goodIn_app (goodIn_of _ (by decide +kernel)) ggX5_goFrom_X5_act
set_option maxRecDepth 20000 in
theorem ggX5_goFrom_X5_comes : GoodIn wsX5_goFrom wsX5_comes := goodIn_r _ [32, 1, 11, 33, 34, 2, 3, 4, 5, 35, 36, 9, 37, 38, 39, 40, 41, 42, 43, 44, 45, 46, 47, 48, 49, 50, 51, 52, 53, 54, 55, 56, 57, 58, 59, 60, 61, 62, 63, 64, 65, 66, 67, 68, 69] (by decide +kernel) (by decide +kernel)
set_option maxRecDepth 20000 in
theorem gX5_goFrom_X5_comes : GoodIn wsX5_goFrom (wsV RX5 170 RX5 yX5_comes wsX5_comes) := goodIn_app (goodIn_of _ (by decide +kernel)) ggX5_goFrom_X5_comes
theorem dX5_goFrom_0 : decode cX5_goFrom 0 = .ok (.iload_n 1, 1) := by decide +kernel
theorem dX5_goFrom_1 : decode cX5_goFrom 1 = .ok (.istore_n 3, 1) := by decide +kernel
theorem dX5_goFrom_2 : decode cX5_goFrom 2 = .ok (.iload_n 3, 1) := by decide +kernel
theorem dX5_goFrom_3 : decode cX5_goFrom 3 = .ok (.iconst 3, 1) := by decide +kernel
theorem dX5_goFrom_4 : decode cX5_goFrom 4 = .ok (.irem, 1) := by decide +kernel
theorem dX5_goFrom_5 : decode cX5_goFrom 5 = .ok (.istore 4, 2) := by decide +kernel
theorem dX5_goFrom_7 : decode cX5_goFrom 7 = .ok (.iload_n 3, 1) := by decide +kernel
theorem dX5_goFrom_8 : decode cX5_goFrom 8 = .ok (.iconst 3, 1) := by decide +kernel
theorem dX5_goFrom_9 : decode cX5_goFrom 9 = .ok (.idiv, 1) := by decide +kernel
theorem dX5_goFrom_10 : decode cX5_goFrom 10 = .ok (.istore_n 3, 1) := by decide +kernel
theorem dX5_goFrom_11 : decode cX5_goFrom 11 = .ok (.iload_n 3, 1) := by decide +kernel
theorem dX5_goFrom_12 : decode cX5_goFrom 12 = .ok (.iconst 4, 1) := by decide +kernel
theorem dX5_goFrom_13 : decode cX5_goFrom 13 = .ok (.irem, 1) := by decide +kernel
theorem dX5_goFrom_14 : decode cX5_goFrom 14 = .ok (.istore 5, 2) := by decide +kernel
theorem dX5_goFrom_16 : decode cX5_goFrom 16 = .ok (.iload_n 3, 1) := by decide +kernel
theorem dX5_goFrom_17 : decode cX5_goFrom 17 = .ok (.iconst 4, 1) := by decide +kernel
theorem dX5_goFrom_18 : decode cX5_goFrom 18 = .ok (.idiv, 1) := by decide +kernel
theorem dX5_goFrom_19 : decode cX5_goFrom 19 = .ok (.istore_n 3, 1) := by decide +kernel
theorem dX5_goFrom_20 : decode cX5_goFrom 20 = .ok (.iload_n 3, 1) := by decide +kernel
theorem dX5_goFrom_21 : decode cX5_goFrom 21 = .ok (.bipush 7, 2) := by decide +kernel
theorem dX5_goFrom_23 : decode cX5_goFrom 23 = .ok (.irem, 1) := by decide +kernel
theorem dX5_goFrom_24 : decode cX5_goFrom 24 = .ok (.istore 6, 2) := by decide +kernel
theorem dX5_goFrom_26 : decode cX5_goFrom 26 = .ok (.iload_n 3, 1) := by decide +kernel
theorem dX5_goFrom_27 : decode cX5_goFrom 27 = .ok (.bipush 7, 2) := by decide +kernel
theorem dX5_goFrom_29 : decode cX5_goFrom 29 = .ok (.idiv, 1) := by decide +kernel
theorem dX5_goFrom_30 : decode cX5_goFrom 30 = .ok (.istore_n 3, 1) := by decide +kernel
theorem dX5_goFrom_31 : decode cX5_goFrom 31 = .ok (.iconst 0, 1) := by decide +kernel
theorem dX5_goFrom_32 : decode cX5_goFrom 32 = .ok (.istore 7, 2) := by decide +kernel
theorem dX5_goFrom_34 : decode cX5_goFrom 34 = .ok (.iload 7, 2) := by decide +kernel
theorem dX5_goFrom_36 : decode cX5_goFrom 36 = .ok (.iconst 5, 1) := by decide +kernel
theorem dX5_goFrom_37 : decode cX5_goFrom 37 = .ok (.if_icmp .ge 88, 3) := by decide +kernel
theorem dX5_goFrom_40 : decode cX5_goFrom 40 = .ok (.aload_n 0, 1) := by decide +kernel
theorem dX5_goFrom_41 : decode cX5_goFrom 41 = .ok (.iload_n 3, 1) := by decide +kernel
theorem dX5_goFrom_42 : decode cX5_goFrom 42 = .ok (.bipush 10, 2) := by decide +kernel
theorem dX5_goFrom_44 : decode cX5_goFrom 44 = .ok (.irem, 1) := by decide +kernel
theorem dX5_goFrom_45 : decode cX5_goFrom 45 = .ok (.putfield 119, 3) := by decide +kernel
theorem dX5_goFrom_48 : decode cX5_goFrom 48 = .ok (.aload_n 0, 1) := by decide +kernel
theorem dX5_goFrom_49 : decode cX5_goFrom 49 = .ok (.iload 6, 2) := by decide +kernel
theorem dX5_goFrom_51 : decode cX5_goFrom 51 = .ok (.putfield 125, 3) := by decide +kernel
theorem dX5_goFrom_54 : decode cX5_goFrom 54 = .ok (.aload_n 0, 1) := by decide +kernel
theorem dX5_goFrom_55 : decode cX5_goFrom 55 = .ok (.iload 5, 2) := by decide +kernel
theorem dX5_goFrom_57 : decode cX5_goFrom 57 = .ok (.putfield 122, 3) := by decide +kernel
theorem dX5_goFrom_60 : decode cX5_goFrom 60 = .ok (.aload_n 0, 1) := by decide +kernel
theorem dX5_goFrom_61 : decode cX5_goFrom 61 = .ok (.iload 4, 2) := by decide +kernel
theorem dX5_goFrom_63 : decode cX5_goFrom 63 = .ok (.putfield 128, 3) := by decide +kernel
theorem dX5_goFrom_66 : decode cX5_goFrom 66 = .ok (.aload_n 0, 1) := by decide +kernel
theorem dX5_goFrom_67 : decode cX5_goFrom 67 = .ok (.iload 7, 2) := by decide +kernel
theorem dX5_goFrom_69 : decode cX5_goFrom 69 = .ok (.invokevirtual 153, 3) := by decide +kernel
theorem dX5_goFrom_72 : decode cX5_goFrom 72 = .ok (.ifCond .eq 47, 3) := by decide +kernel
theorem dX5_goFrom_75 : decode cX5_goFrom 75 = .ok (.aload_n 0, 1) := by decide +kernel
theorem dX5_goFrom_76 : decode cX5_goFrom 76 = .ok (.iload 7, 2) := by decide +kernel
theorem dX5_goFrom_78 : decode cX5_goFrom 78 = .ok (.invokevirtual 156, 3) := by decide +kernel
theorem dX5_goFrom_81 : decode cX5_goFrom 81 = .ok (.aload_n 0, 1) := by decide +kernel
theorem dX5_goFrom_82 : decode cX5_goFrom 82 = .ok (.iload_n 3, 1) := by decide +kernel
theorem dX5_goFrom_83 : decode cX5_goFrom 83 = .ok (.bipush 10, 2) := by decide +kernel
theorem dX5_goFrom_85 : decode cX5_goFrom 85 = .ok (.idiv, 1) := by decide +kernel
theorem dX5_goFrom_86 : decode cX5_goFrom 86 = .ok (.iload 7, 2) := by decide +kernel
theorem dX5_goFrom_88 : decode cX5_goFrom 88 = .ok (.iconst 4, 1) := by decide +kernel
theorem dX5_goFrom_89 : decode cX5_goFrom 89 = .ok (.if_icmp .ne 7, 3) := by decide +kernel
theorem dX5_goFrom_92 : decode cX5_goFrom 92 = .ok (.iconst 3, 1) := by decide +kernel
theorem dX5_goFrom_93 : decode cX5_goFrom 93 = .ok (.goto 4, 3) := by decide +kernel
theorem dX5_goFrom_96 : decode cX5_goFrom 96 = .ok (.iconst 1, 1) := by decide +kernel
theorem dX5_goFrom_97 : decode cX5_goFrom 97 = .ok (.iadd, 1) := by decide +kernel
theorem dX5_goFrom_98 : decode cX5_goFrom 98 = .ok (.aload_n 0, 1) := by decide +kernel
theorem dX5_goFrom_99 : decode cX5_goFrom 99 = .ok (.getfield 41, 3) := by decide +kernel
theorem dX5_goFrom_102 : decode cX5_goFrom 102 = .ok (.iload_n 1, 1) := by decide +kernel
theorem dX5_goFrom_103 : decode cX5_goFrom 103 = .ok (.iaload, 1) := by decide +kernel
theorem dX5_goFrom_104 : decode cX5_goFrom 104 = .ok (.iload 7, 2) := by decide +kernel
theorem dX5_goFrom_106 : decode cX5_goFrom 106 = .ok (.ifCond .ne 7, 3) := by decide +kernel
theorem dX5_goFrom_109 : decode cX5_goFrom 109 = .ok (.iconst 1, 1) := by decide +kernel
theorem dX5_goFrom_110 : decode cX5_goFrom 110 = .ok (.goto 4, 3) := by decide +kernel
theorem dX5_goFrom_113 : decode cX5_goFrom 113 = .ok (.iconst 0, 1) := by decide +kernel
theorem dX5_goFrom_114 : decode cX5_goFrom 114 = .ok (.iadd, 1) := by decide +kernel
theorem dX5_goFrom_115 : decode cX5_goFrom 115 = .ok (.iload_n 2, 1) := by decide +kernel
theorem dX5_goFrom_116 : decode cX5_goFrom 116 = .ok (.invokevirtual 170, 3) := by decide +kernel
theorem dX5_goFrom_119 : decode cX5_goFrom 119 = .ok (.iinc 7 1, 3) := by decide +kernel
theorem dX5_goFrom_122 : decode cX5_goFrom 122 = .ok (.goto (-88), 3) := by decide +kernel
theorem dX5_goFrom_125 : decode cX5_goFrom 125 = .ok (.return_, 1) := by decide +kernel
set_option maxRecDepth 20000 in
theorem ggX5_search_X5_begin : GoodIn wsX5_search wsX5_begin := goodIn_r _ [8, 9, 10, 11, 12, 13, 14, 15, 16, 50, 51, 52, 53, 54, 55, 56, 57, 58, 59, 60, 61, 62, 63, 64, 65, 66, 67, 68, 69, 70, 71, 72, 73, 74, 75, 76, 77, 78, 79, 80, 81] (by decide +kernel) (by decide +kernel)
set_option maxRecDepth 20000 in
theorem gX5_search_X5_begin : GoodIn wsX5_search (wsV RX5 150 RX5 yX5_begin wsX5_begin) := goodIn_app (goodIn_of _ (by decide +kernel)) ggX5_search_X5_begin
set_option maxRecDepth 20000 in
theorem ggX5_search_X5_comes : GoodIn wsX5_search wsX5_comes := goodIn_r _ [20, 9, 21, 2, 3, 10, 11, 13, 1, 22, 23, 7, 24, 50, 51, 52, 53, 54, 55, 56, 57, 58, 59, 60, 61, 62, 63, 64, 65, 66, 67, 68, 69, 70, 71, 72, 73, 74, 75, 76, 77, 78, 79, 80, 81] (by decide +kernel) (by decide +kernel)
set_option maxRecDepth 20000 in
theorem gX5_search_X5_comes : GoodIn wsX5_search (wsV RX5 170 RX5 yX5_comes wsX5_comes) := goodIn_app (goodIn_of _ (by decide +kernel)) ggX5_search_X5_comes
set_option maxRecDepth 20000 in
theorem ggX5_search_X5_goFrom : GoodIn wsX5_search wsX5_goFrom := goodIn_r _ [28, 9, 10, 11, 13, 1, 29, 30, 31, 7, 32, 21, 33, 34, 35, 36, 37, 38, 39, 40, 41, 42, 43, 44, 45, 46, 47, 48, 49, 17, 18, 19, 20, 2, 3, 22, 23, 24, 50, 51, 52, 53, 54, 55, 56, 57, 58, 59, 60, 61, 62, 63, 64, 65, 66, 67, 68, 69, 70, 71, 72, 73, 74, 75, 76, 77, 78, 79, 80, 81] (by decide +kernel) (by decide +kernel)
set_option maxRecDepth 20000 in
theorem gX5_search_X5_goFrom : GoodIn wsX5_search (wsV RX5 174 RX5 yX5_goFrom wsX5_goFrom) := goodIn_app (goodIn_of _ (by decide +kernel)) ggX5_search_X5_goFrom
theorem dX5_search_0 : decode cX5_search 0 = .ok (.iconst 0, 1) := by decide +kernel
theorem dX5_search_1 : decode cX5_search 1 = .ok (.istore_n 2, 1) := by decide +kernel
theorem dX5_search_2 : decode cX5_search 2 = .ok (.iload_n 2, 1) := by decide +kernel
theorem dX5_search_3 : decode cX5_search 3 = .ok (.sipush 21000, 3) := by decide +kernel
theorem dX5_search_6 : decode cX5_search 6 = .ok (.if_icmp .ge 17, 3) := by decide +kernel
theorem dX5_search_9 : decode cX5_search 9 = .ok (.aload_n 0, 1) := by decide +kernel
theorem dX5_search_10 : decode cX5_search 10 = .ok (.getfield 41, 3) := by decide +kernel
theorem dX5_search_13 : decode cX5_search 13 = .ok (.iload_n 2, 1) := by decide +kernel
theorem dX5_search_14 : decode cX5_search 14 = .ok (.bipush (-9), 2) := by decide +kernel
theorem dX5_search_16 : decode cX5_search 16 = .ok (.iastore, 1) := by decide +kernel
theorem dX5_search_17 : decode cX5_search 17 = .ok (.iinc 2 1, 3) := by decide +kernel
theorem dX5_search_20 : decode cX5_search 20 = .ok (.goto (-18), 3) := by decide +kernel
theorem dX5_search_23 : decode cX5_search 23 = .ok (.aload_n 0, 1) := by decide +kernel
theorem dX5_search_24 : decode cX5_search 24 = .ok (.bipush (-9), 2) := by decide +kernel
theorem dX5_search_26 : decode cX5_search 26 = .ok (.putfield 160, 3) := by decide +kernel
theorem dX5_search_29 : decode cX5_search 29 = .ok (.aload_n 0, 1) := by decide +kernel
theorem dX5_search_30 : decode cX5_search 30 = .ok (.bipush (-9), 2) := by decide +kernel
theorem dX5_search_32 : decode cX5_search 32 = .ok (.putfield 163, 3) := by decide +kernel
theorem dX5_search_35 : decode cX5_search 35 = .ok (.aload_n 0, 1) := by decide +kernel
theorem dX5_search_36 : decode cX5_search 36 = .ok (.invokevirtual 150, 3) := by decide +kernel
theorem dX5_search_39 : decode cX5_search 39 = .ok (.aload_n 0, 1) := by decide +kernel
theorem dX5_search_40 : decode cX5_search 40 = .ok (.iconst 0, 1) := by decide +kernel
theorem dX5_search_41 : decode cX5_search 41 = .ok (.iconst 0, 1) := by decide +kernel
theorem dX5_search_42 : decode cX5_search 42 = .ok (.iload_n 1, 1) := by decide +kernel
theorem dX5_search_43 : decode cX5_search 43 = .ok (.invokevirtual 170, 3) := by decide +kernel
theorem dX5_search_46 : decode cX5_search 46 = .ok (.iconst 0, 1) := by decide +kernel
theorem dX5_search_47 : decode cX5_search 47 = .ok (.istore_n 2, 1) := by decide +kernel
theorem dX5_search_48 : decode cX5_search 48 = .ok (.iload_n 2, 1) := by decide +kernel
theorem dX5_search_49 : decode cX5_search 49 = .ok (.sipush 840, 3) := by decide +kernel
theorem dX5_search_52 : decode cX5_search 52 = .ok (.iload_n 1, 1) := by decide +kernel
theorem dX5_search_53 : decode cX5_search 53 = .ok (.imul, 1) := by decide +kernel
theorem dX5_search_54 : decode cX5_search 54 = .ok (.if_icmp .ge 26, 3) := by decide +kernel
theorem dX5_search_57 : decode cX5_search 57 = .ok (.aload_n 0, 1) := by decide +kernel
theorem dX5_search_58 : decode cX5_search 58 = .ok (.getfield 41, 3) := by decide +kernel
theorem dX5_search_61 : decode cX5_search 61 = .ok (.iload_n 2, 1) := by decide +kernel
theorem dX5_search_62 : decode cX5_search 62 = .ok (.iaload, 1) := by decide +kernel
theorem dX5_search_63 : decode cX5_search 63 = .ok (.bipush (-9), 2) := by decide +kernel
theorem dX5_search_65 : decode cX5_search 65 = .ok (.if_icmp .eq 9, 3) := by decide +kernel
theorem dX5_search_68 : decode cX5_search 68 = .ok (.aload_n 0, 1) := by decide +kernel
theorem dX5_search_69 : decode cX5_search 69 = .ok (.iload_n 2, 1) := by decide +kernel
theorem dX5_search_70 : decode cX5_search 70 = .ok (.iload_n 1, 1) := by decide +kernel
theorem dX5_search_71 : decode cX5_search 71 = .ok (.invokevirtual 174, 3) := by decide +kernel
theorem dX5_search_74 : decode cX5_search 74 = .ok (.iinc 2 1, 3) := by decide +kernel
theorem dX5_search_77 : decode cX5_search 77 = .ok (.goto (-29), 3) := by decide +kernel
theorem dX5_search_80 : decode cX5_search 80 = .ok (.return_, 1) := by decide +kernel
set_option maxRecDepth 20000 in
theorem ggX5_quickestNow_X5_search : GoodIn wsX5_quickestNow wsX5_search := goodIn_r _ [6, 7, 1, 8, 9, 10, 11, 5, 12, 13, 14, 15, 16, 17, 18, 19, 20, 21, 22, 23, 24, 25, 26, 27, 28, 29, 30, 31, 32, 33, 34, 35, 36, 37, 38, 39, 40, 41, 42, 43, 44, 45, 46, 47, 48, 49, 50, 51, 52, 53, 54, 55, 56, 57, 58, 59, 60, 61, 62, 63, 64, 65, 66, 67, 68, 69, 70, 71, 72, 73, 74, 75, 76, 77, 78, 79, 80, 81, 82, 83, 84, 85] (by decide +kernel) (by decide +kernel)
set_option maxRecDepth 20000 in
theorem gX5_quickestNow_X5_search : GoodIn wsX5_quickestNow (wsV RX5 178 RX5 yX5_search wsX5_search) := goodIn_app (goodIn_of _ (by decide +kernel)) ggX5_quickestNow_X5_search
theorem dX5_quickestNow_0 : decode cX5_quickestNow 0 = .ok (.aload_n 0, 1) := by decide +kernel
theorem dX5_quickestNow_1 : decode cX5_quickestNow 1 = .ok (.bipush 24, 2) := by decide +kernel
theorem dX5_quickestNow_3 : decode cX5_quickestNow 3 = .ok (.invokevirtual 178, 3) := by decide +kernel
theorem dX5_quickestNow_6 : decode cX5_quickestNow 6 = .ok (.aload_n 0, 1) := by decide +kernel
theorem dX5_quickestNow_7 : decode cX5_quickestNow 7 = .ok (.getfield 160, 3) := by decide +kernel
theorem dX5_quickestNow_10 : decode cX5_quickestNow 10 = .ok (.ireturn, 1) := by decide +kernel
set_option maxRecDepth 20000 in
theorem ggX5_quickest_X5_quickestNow : GoodIn wsX5_quickest wsX5_quickestNow := goodIn_r _ [6, 7, 8, 9, 10, 5, 11, 12, 13, 14, 15, 16, 17, 18, 19, 20, 21, 22, 23, 24, 25, 26, 27, 28, 29, 1, 30, 31, 32, 33, 34, 35, 36, 37, 38, 39, 40, 41, 42, 43, 44, 45, 46, 47, 48, 49, 50, 51, 52, 53, 54, 55, 56, 57, 58, 59, 60, 61, 62, 63, 64, 65, 66, 67, 68, 69, 70, 71, 72, 73, 74, 75, 76, 77, 78, 79, 80, 81, 82, 83, 84, 85, 86, 87, 88, 89] (by decide +kernel) (by decide +kernel)
set_option maxRecDepth 20000 in
theorem gX5_quickest_X5_quickestNow : GoodIn wsX5_quickest (wsV RX5 181 RX5 yX5_quickestNow wsX5_quickestNow) := goodIn_app (goodIn_of _ (by decide +kernel)) ggX5_quickest_X5_quickestNow
theorem dX5_quickest_0 : decode cX5_quickest 0 = .ok (.aload_n 0, 1) := by decide +kernel
theorem dX5_quickest_1 : decode cX5_quickest 1 = .ok (.getfield 63, 3) := by decide +kernel
theorem dX5_quickest_4 : decode cX5_quickest 4 = .ok (.ifCond .ne 8, 3) := by decide +kernel
theorem dX5_quickest_7 : decode cX5_quickest 7 = .ok (.bipush (-3), 2) := by decide +kernel
theorem dX5_quickest_9 : decode cX5_quickest 9 = .ok (.goto 7, 3) := by decide +kernel
theorem dX5_quickest_12 : decode cX5_quickest 12 = .ok (.aload_n 0, 1) := by decide +kernel
theorem dX5_quickest_13 : decode cX5_quickest 13 = .ok (.invokevirtual 181, 3) := by decide +kernel
theorem dX5_quickest_16 : decode cX5_quickest 16 = .ok (.ireturn, 1) := by decide +kernel
set_option maxRecDepth 20000 in
theorem ggX5_lightest_X5_within : GoodIn wsX5_lightest wsX5_within := goodIn_r _ [6] (by decide +kernel) (by decide +kernel)
set_option maxRecDepth 20000 in
theorem gX5_lightest_X5_within : GoodIn wsX5_lightest (va_wsS RX5 59 yX5_within wsX5_within) := goodIn_app (goodIn_of _ (by decide +kernel)) ggX5_lightest_X5_within
set_option maxRecDepth 20000 in
theorem ggX5_lightest_X5_search : GoodIn wsX5_lightest wsX5_search := goodIn_r _ [10, 11, 12, 2, 13, 14, 15, 5, 16, 17, 18, 19, 20, 21, 22, 23, 24, 25, 26, 27, 28, 1, 29, 30, 31, 32, 33, 34, 35, 36, 37, 38, 39, 40, 41, 42, 43, 44, 45, 46, 47, 48, 49, 50, 51, 52, 53, 54, 55, 56, 57, 58, 59, 60, 61, 62, 63, 64, 65, 66, 67, 68, 69, 70, 71, 72, 73, 74, 75, 76, 77, 78, 79, 80, 81, 82, 83, 84, 85, 86, 87, 88] (by decide +kernel) (by decide +kernel)
set_option maxRecDepth 20000 in
theorem gX5_lightest_X5_search : GoodIn wsX5_lightest (wsV RX5 178 RX5 yX5_search wsX5_search) := goodIn_app (goodIn_of _ (by decide +kernel)) ggX5_lightest_X5_search
theorem dX5_lightest_0 : decode cX5_lightest 0 = .ok (.iload_n 1, 1) := by decide +kernel
theorem dX5_lightest_1 : decode cX5_lightest 1 = .ok (.iconst 0, 1) := by decide +kernel
theorem dX5_lightest_2 : decode cX5_lightest 2 = .ok (.bipush 24, 2) := by decide +kernel
theorem dX5_lightest_4 : decode cX5_lightest 4 = .ok (.invokestatic 59, 3) := by decide +kernel
theorem dX5_lightest_7 : decode cX5_lightest 7 = .ok (.ifCond .ne 6, 3) := by decide +kernel
theorem dX5_lightest_10 : decode cX5_lightest 10 = .ok (.bipush (-2), 2) := by decide +kernel
theorem dX5_lightest_12 : decode cX5_lightest 12 = .ok (.ireturn, 1) := by decide +kernel
theorem dX5_lightest_13 : decode cX5_lightest 13 = .ok (.aload_n 0, 1) := by decide +kernel
theorem dX5_lightest_14 : decode cX5_lightest 14 = .ok (.getfield 63, 3) := by decide +kernel
theorem dX5_lightest_17 : decode cX5_lightest 17 = .ok (.ifCond .ne 6, 3) := by decide +kernel
theorem dX5_lightest_20 : decode cX5_lightest 20 = .ok (.bipush (-3), 2) := by decide +kernel
theorem dX5_lightest_22 : decode cX5_lightest 22 = .ok (.ireturn, 1) := by decide +kernel
theorem dX5_lightest_23 : decode cX5_lightest 23 = .ok (.aload_n 0, 1) := by decide +kernel
theorem dX5_lightest_24 : decode cX5_lightest 24 = .ok (.iload_n 1, 1) := by decide +kernel
theorem dX5_lightest_25 : decode cX5_lightest 25 = .ok (.invokevirtual 178, 3) := by decide +kernel
theorem dX5_lightest_28 : decode cX5_lightest 28 = .ok (.aload_n 0, 1) := by decide +kernel
theorem dX5_lightest_29 : decode cX5_lightest 29 = .ok (.getfield 163, 3) := by decide +kernel
theorem dX5_lightest_32 : decode cX5_lightest 32 = .ok (.ireturn, 1) := by decide +kernel
set_option maxRecDepth 20000 in
theorem ggX5_cost_X5_isFlag : GoodIn wsX5_cost wsX5_isFlag := goodIn_r _ [7, 8, 62, 63, 64, 65, 66, 67, 68, 69, 70, 71, 72, 73, 74, 75, 76, 77, 78, 79, 80, 81, 82, 83, 84, 85, 86, 87, 88, 89, 90, 91, 92, 93] (by decide +kernel) (by decide +kernel)
set_option maxRecDepth 20000 in
theorem gX5_cost_X5_isFlag : GoodIn wsX5_cost (wsV RX5 113 RX5 yX5_isFlag wsX5_isFlag) := goodIn_app (goodIn_of _ (by decide +kernel)) ggX5_cost_X5_isFlag
set_option maxRecDepth 20000 in
theorem ggX5_cost_X5_quickestNow : GoodIn wsX5_cost wsX5_quickestNow := goodIn_r _ [12, 13, 14, 15, 16, 6, 17, 18, 19, 20, 21, 22, 23, 24, 25, 26, 27, 28, 29, 30, 31, 32, 33, 34, 35, 8, 36, 37, 38, 39, 40, 41, 42, 43, 44, 45, 46, 47, 48, 49, 50, 51, 52, 53, 54, 55, 56, 2, 57, 58, 59, 60, 61, 1, 62, 63, 64, 65, 66, 67, 68, 69, 70, 71, 72, 73, 74, 75, 76, 77, 78, 79, 80, 81, 82, 83, 84, 85, 86, 87, 88, 89, 90, 91, 92, 93] (by decide +kernel) (by decide +kernel)
set_option maxRecDepth 20000 in
theorem gX5_cost_X5_quickestNow : GoodIn wsX5_cost (wsV RX5 181 RX5 yX5_quickestNow wsX5_quickestNow) := goodIn_app (goodIn_of _ (by decide +kernel)) ggX5_cost_X5_quickestNow
theorem dX5_cost_0 : decode cX5_cost 0 = .ok (.aload_n 0, 1) := by decide +kernel
theorem dX5_cost_1 : decode cX5_cost 1 = .ok (.iload_n 1, 1) := by decide +kernel
theorem dX5_cost_2 : decode cX5_cost 2 = .ok (.invokevirtual 113, 3) := by decide +kernel
theorem dX5_cost_5 : decode cX5_cost 5 = .ok (.ifCond .ne 5, 3) := by decide +kernel
theorem dX5_cost_8 : decode cX5_cost 8 = .ok (.iconst (-1), 1) := by decide +kernel
theorem dX5_cost_9 : decode cX5_cost 9 = .ok (.ireturn, 1) := by decide +kernel
theorem dX5_cost_10 : decode cX5_cost 10 = .ok (.aload_n 0, 1) := by decide +kernel
theorem dX5_cost_11 : decode cX5_cost 11 = .ok (.invokevirtual 181, 3) := by decide +kernel
theorem dX5_cost_14 : decode cX5_cost 14 = .ok (.istore_n 2, 1) := by decide +kernel
theorem dX5_cost_15 : decode cX5_cost 15 = .ok (.aload_n 0, 1) := by decide +kernel
theorem dX5_cost_16 : decode cX5_cost 16 = .ok (.getfield 22, 3) := by decide +kernel
theorem dX5_cost_19 : decode cX5_cost 19 = .ok (.iload_n 1, 1) := by decide +kernel
theorem dX5_cost_20 : decode cX5_cost 20 = .ok (.iaload, 1) := by decide +kernel
theorem dX5_cost_21 : decode cX5_cost 21 = .ok (.istore_n 3, 1) := by decide +kernel
theorem dX5_cost_22 : decode cX5_cost 22 = .ok (.aload_n 0, 1) := by decide +kernel
theorem dX5_cost_23 : decode cX5_cost 23 = .ok (.getfield 25, 3) := by decide +kernel
theorem dX5_cost_26 : decode cX5_cost 26 = .ok (.iload_n 1, 1) := by decide +kernel
theorem dX5_cost_27 : decode cX5_cost 27 = .ok (.baload, 1) := by decide +kernel
theorem dX5_cost_28 : decode cX5_cost 28 = .ok (.istore 4, 2) := by decide +kernel
theorem dX5_cost_30 : decode cX5_cost 30 = .ok (.aload_n 0, 1) := by decide +kernel
theorem dX5_cost_31 : decode cX5_cost 31 = .ok (.getfield 22, 3) := by decide +kernel
theorem dX5_cost_34 : decode cX5_cost 34 = .ok (.iload_n 1, 1) := by decide +kernel
theorem dX5_cost_35 : decode cX5_cost 35 = .ok (.iconst 0, 1) := by decide +kernel
theorem dX5_cost_36 : decode cX5_cost 36 = .ok (.iastore, 1) := by decide +kernel
theorem dX5_cost_37 : decode cX5_cost 37 = .ok (.aload_n 0, 1) := by decide +kernel
theorem dX5_cost_38 : decode cX5_cost 38 = .ok (.getfield 25, 3) := by decide +kernel
theorem dX5_cost_41 : decode cX5_cost 41 = .ok (.iload_n 1, 1) := by decide +kernel
theorem dX5_cost_42 : decode cX5_cost 42 = .ok (.iconst 0, 1) := by decide +kernel
theorem dX5_cost_43 : decode cX5_cost 43 = .ok (.bastore, 1) := by decide +kernel
theorem dX5_cost_44 : decode cX5_cost 44 = .ok (.aload_n 0, 1) := by decide +kernel
theorem dX5_cost_45 : decode cX5_cost 45 = .ok (.invokevirtual 181, 3) := by decide +kernel
theorem dX5_cost_48 : decode cX5_cost 48 = .ok (.istore 5, 2) := by decide +kernel
theorem dX5_cost_50 : decode cX5_cost 50 = .ok (.aload_n 0, 1) := by decide +kernel
theorem dX5_cost_51 : decode cX5_cost 51 = .ok (.getfield 22, 3) := by decide +kernel
theorem dX5_cost_54 : decode cX5_cost 54 = .ok (.iload_n 1, 1) := by decide +kernel
theorem dX5_cost_55 : decode cX5_cost 55 = .ok (.iload_n 3, 1) := by decide +kernel
theorem dX5_cost_56 : decode cX5_cost 56 = .ok (.iastore, 1) := by decide +kernel
theorem dX5_cost_57 : decode cX5_cost 57 = .ok (.aload_n 0, 1) := by decide +kernel
theorem dX5_cost_58 : decode cX5_cost 58 = .ok (.getfield 25, 3) := by decide +kernel
theorem dX5_cost_61 : decode cX5_cost 61 = .ok (.iload_n 1, 1) := by decide +kernel
theorem dX5_cost_62 : decode cX5_cost 62 = .ok (.iload 4, 2) := by decide +kernel
theorem dX5_cost_64 : decode cX5_cost 64 = .ok (.bastore, 1) := by decide +kernel
theorem dX5_cost_65 : decode cX5_cost 65 = .ok (.iload_n 2, 1) := by decide +kernel
theorem dX5_cost_66 : decode cX5_cost 66 = .ok (.bipush (-9), 2) := by decide +kernel
theorem dX5_cost_68 : decode cX5_cost 68 = .ok (.if_icmp .eq 10, 3) := by decide +kernel
theorem dX5_cost_71 : decode cX5_cost 71 = .ok (.iload 5, 2) := by decide +kernel
theorem dX5_cost_73 : decode cX5_cost 73 = .ok (.bipush (-9), 2) := by decide +kernel
theorem dX5_cost_75 : decode cX5_cost 75 = .ok (.if_icmp .ne 8, 3) := by decide +kernel
theorem dX5_cost_78 : decode cX5_cost 78 = .ok (.bipush (-9), 2) := by decide +kernel
theorem dX5_cost_80 : decode cX5_cost 80 = .ok (.goto 7, 3) := by decide +kernel
theorem dX5_cost_83 : decode cX5_cost 83 = .ok (.iload_n 2, 1) := by decide +kernel
theorem dX5_cost_84 : decode cX5_cost 84 = .ok (.iload 5, 2) := by decide +kernel
theorem dX5_cost_86 : decode cX5_cost 86 = .ok (.isub, 1) := by decide +kernel
theorem dX5_cost_87 : decode cX5_cost 87 = .ok (.ireturn, 1) := by decide +kernel
set_option maxRecDepth 20000 in
theorem ggX5_reading_X5_within : GoodIn wsX5_reading wsX5_within := goodIn_r _ [7] (by decide +kernel) (by decide +kernel)
set_option maxRecDepth 20000 in
theorem gX5_reading_X5_within : GoodIn wsX5_reading (va_wsS RX5 59 yX5_within wsX5_within) := goodIn_app (goodIn_of _ (by decide +kernel)) ggX5_reading_X5_within
theorem dX5_reading_0 : decode cX5_reading 0 = .ok (.iload_n 1, 1) := by decide +kernel
theorem dX5_reading_1 : decode cX5_reading 1 = .ok (.bipush (-9), 2) := by decide +kernel
theorem dX5_reading_3 : decode cX5_reading 3 = .ok (.if_icmp .eq 16, 3) := by decide +kernel
theorem dX5_reading_6 : decode cX5_reading 6 = .ok (.iload_n 1, 1) := by decide +kernel
theorem dX5_reading_7 : decode cX5_reading 7 = .ok (.iconst 0, 1) := by decide +kernel
theorem dX5_reading_8 : decode cX5_reading 8 = .ok (.bipush 24, 2) := by decide +kernel
theorem dX5_reading_10 : decode cX5_reading 10 = .ok (.invokestatic 59, 3) := by decide +kernel
theorem dX5_reading_13 : decode cX5_reading 13 = .ok (.ifCond .ne 6, 3) := by decide +kernel
theorem dX5_reading_16 : decode cX5_reading 16 = .ok (.bipush (-2), 2) := by decide +kernel
theorem dX5_reading_18 : decode cX5_reading 18 = .ok (.ireturn, 1) := by decide +kernel
theorem dX5_reading_19 : decode cX5_reading 19 = .ok (.aload_n 0, 1) := by decide +kernel
theorem dX5_reading_20 : decode cX5_reading 20 = .ok (.getfield 63, 3) := by decide +kernel
theorem dX5_reading_23 : decode cX5_reading 23 = .ok (.ifCond .ne 6, 3) := by decide +kernel
theorem dX5_reading_26 : decode cX5_reading 26 = .ok (.bipush (-3), 2) := by decide +kernel
theorem dX5_reading_28 : decode cX5_reading 28 = .ok (.ireturn, 1) := by decide +kernel
theorem dX5_reading_29 : decode cX5_reading 29 = .ok (.aload_n 0, 1) := by decide +kernel
theorem dX5_reading_30 : decode cX5_reading 30 = .ok (.getfield 99, 3) := by decide +kernel
theorem dX5_reading_33 : decode cX5_reading 33 = .ok (.bipush 8, 2) := by decide +kernel
theorem dX5_reading_35 : decode cX5_reading 35 = .ok (.if_icmp .ne 6, 3) := by decide +kernel
theorem dX5_reading_38 : decode cX5_reading 38 = .ok (.bipush (-4), 2) := by decide +kernel
theorem dX5_reading_40 : decode cX5_reading 40 = .ok (.ireturn, 1) := by decide +kernel
theorem dX5_reading_41 : decode cX5_reading 41 = .ok (.aload_n 0, 1) := by decide +kernel
theorem dX5_reading_42 : decode cX5_reading 42 = .ok (.getfield 44, 3) := by decide +kernel
theorem dX5_reading_45 : decode cX5_reading 45 = .ok (.aload_n 0, 1) := by decide +kernel
theorem dX5_reading_46 : decode cX5_reading 46 = .ok (.getfield 99, 3) := by decide +kernel
theorem dX5_reading_49 : decode cX5_reading 49 = .ok (.iload_n 1, 1) := by decide +kernel
theorem dX5_reading_50 : decode cX5_reading 50 = .ok (.iastore, 1) := by decide +kernel
theorem dX5_reading_51 : decode cX5_reading 51 = .ok (.aload_n 0, 1) := by decide +kernel
theorem dX5_reading_52 : decode cX5_reading 52 = .ok (.dup, 1) := by decide +kernel
theorem dX5_reading_53 : decode cX5_reading 53 = .ok (.getfield 99, 3) := by decide +kernel
theorem dX5_reading_56 : decode cX5_reading 56 = .ok (.iconst 1, 1) := by decide +kernel
theorem dX5_reading_57 : decode cX5_reading 57 = .ok (.iadd, 1) := by decide +kernel
theorem dX5_reading_58 : decode cX5_reading 58 = .ok (.putfield 99, 3) := by decide +kernel
theorem dX5_reading_61 : decode cX5_reading 61 = .ok (.aload_n 0, 1) := by decide +kernel
theorem dX5_reading_62 : decode cX5_reading 62 = .ok (.getfield 99, 3) := by decide +kernel
theorem dX5_reading_65 : decode cX5_reading 65 = .ok (.iconst 1, 1) := by decide +kernel
theorem dX5_reading_66 : decode cX5_reading 66 = .ok (.isub, 1) := by decide +kernel
theorem dX5_reading_67 : decode cX5_reading 67 = .ok (.ireturn, 1) := by decide +kernel
set_option maxRecDepth 20000 in
theorem ggX5_back_X5_within : GoodIn wsX5_back wsX5_within := goodIn_r _ [5] (by decide +kernel) (by decide +kernel)
set_option maxRecDepth 20000 in
theorem gX5_back_X5_within : GoodIn wsX5_back (va_wsS RX5 59 yX5_within wsX5_within) := goodIn_app (goodIn_of _ (by decide +kernel)) ggX5_back_X5_within
theorem dX5_back_0 : decode cX5_back 0 = .ok (.iload_n 1, 1) := by decide +kernel
theorem dX5_back_1 : decode cX5_back 1 = .ok (.iconst 0, 1) := by decide +kernel
theorem dX5_back_2 : decode cX5_back 2 = .ok (.aload_n 0, 1) := by decide +kernel
theorem dX5_back_3 : decode cX5_back 3 = .ok (.getfield 99, 3) := by decide +kernel
theorem dX5_back_6 : decode cX5_back 6 = .ok (.invokestatic 59, 3) := by decide +kernel
theorem dX5_back_9 : decode cX5_back 9 = .ok (.ifCond .ne 6, 3) := by decide +kernel
theorem dX5_back_12 : decode cX5_back 12 = .ok (.bipush (-2), 2) := by decide +kernel
theorem dX5_back_14 : decode cX5_back 14 = .ok (.ireturn, 1) := by decide +kernel
theorem dX5_back_15 : decode cX5_back 15 = .ok (.aload_n 0, 1) := by decide +kernel
theorem dX5_back_16 : decode cX5_back 16 = .ok (.dup, 1) := by decide +kernel
theorem dX5_back_17 : decode cX5_back 17 = .ok (.getfield 99, 3) := by decide +kernel
theorem dX5_back_20 : decode cX5_back 20 = .ok (.iload_n 1, 1) := by decide +kernel
theorem dX5_back_21 : decode cX5_back 21 = .ok (.isub, 1) := by decide +kernel
theorem dX5_back_22 : decode cX5_back 22 = .ok (.putfield 99, 3) := by decide +kernel
theorem dX5_back_25 : decode cX5_back 25 = .ok (.aload_n 0, 1) := by decide +kernel
theorem dX5_back_26 : decode cX5_back 26 = .ok (.getfield 99, 3) := by decide +kernel
theorem dX5_back_29 : decode cX5_back 29 = .ok (.ireturn, 1) := by decide +kernel
set_option maxRecDepth 20000 in
theorem ggX5_areSo_X5_quickestNow : GoodIn wsX5_areSo wsX5_quickestNow := goodIn_r _ [7, 8, 9, 10, 11, 6, 12, 13, 14, 15, 16, 17, 18, 19, 20, 21, 22, 23, 24, 25, 26, 27, 28, 29, 30, 31, 32, 33, 34, 35, 36, 37, 38, 39, 40, 41, 42, 43, 44, 45, 46, 47, 48, 49, 50, 51, 52, 53, 54, 55, 56, 57, 58, 59, 60, 61, 62, 63, 64, 65, 66, 67, 68, 69, 70, 71, 72, 73, 74, 75, 76, 77, 78, 79, 80, 81, 82, 83, 84, 85, 86, 87, 88, 89, 90, 91] (by decide +kernel) (by decide +kernel)
set_option maxRecDepth 20000 in
theorem gX5_areSo_X5_quickestNow : GoodIn wsX5_areSo (wsV RX5 181 RX5 yX5_quickestNow wsX5_quickestNow) := goodIn_app (goodIn_of _ (by decide +kernel)) ggX5_areSo_X5_quickestNow
theorem dX5_areSo_0 : decode cX5_areSo 0 = .ok (.aload_n 0, 1) := by decide +kernel
theorem dX5_areSo_1 : decode cX5_areSo 1 = .ok (.invokevirtual 181, 3) := by decide +kernel
theorem dX5_areSo_4 : decode cX5_areSo 4 = .ok (.istore_n 1, 1) := by decide +kernel
theorem dX5_areSo_5 : decode cX5_areSo 5 = .ok (.iconst 0, 1) := by decide +kernel
theorem dX5_areSo_6 : decode cX5_areSo 6 = .ok (.istore_n 2, 1) := by decide +kernel
theorem dX5_areSo_7 : decode cX5_areSo 7 = .ok (.iload_n 2, 1) := by decide +kernel
theorem dX5_areSo_8 : decode cX5_areSo 8 = .ok (.aload_n 0, 1) := by decide +kernel
theorem dX5_areSo_9 : decode cX5_areSo 9 = .ok (.getfield 99, 3) := by decide +kernel
theorem dX5_areSo_12 : decode cX5_areSo 12 = .ok (.if_icmp .ge 21, 3) := by decide +kernel
theorem dX5_areSo_15 : decode cX5_areSo 15 = .ok (.aload_n 0, 1) := by decide +kernel
theorem dX5_areSo_16 : decode cX5_areSo 16 = .ok (.getfield 44, 3) := by decide +kernel
theorem dX5_areSo_19 : decode cX5_areSo 19 = .ok (.iload_n 2, 1) := by decide +kernel
theorem dX5_areSo_20 : decode cX5_areSo 20 = .ok (.iaload, 1) := by decide +kernel
theorem dX5_areSo_21 : decode cX5_areSo 21 = .ok (.iload_n 1, 1) := by decide +kernel
theorem dX5_areSo_22 : decode cX5_areSo 22 = .ok (.if_icmp .eq 5, 3) := by decide +kernel
theorem dX5_areSo_25 : decode cX5_areSo 25 = .ok (.iconst 0, 1) := by decide +kernel
theorem dX5_areSo_26 : decode cX5_areSo 26 = .ok (.ireturn, 1) := by decide +kernel
theorem dX5_areSo_27 : decode cX5_areSo 27 = .ok (.iinc 2 1, 3) := by decide +kernel
theorem dX5_areSo_30 : decode cX5_areSo 30 = .ok (.goto (-23), 3) := by decide +kernel
theorem dX5_areSo_33 : decode cX5_areSo 33 = .ok (.iconst 1, 1) := by decide +kernel
theorem dX5_areSo_34 : decode cX5_areSo 34 = .ok (.ireturn, 1) := by decide +kernel
set_option maxRecDepth 20000 in
theorem ggX5_smooth_X5_isFlag : GoodIn wsX5_smooth wsX5_isFlag := goodIn_r _ [6, 7, 68, 69, 70, 71, 72, 73, 74, 75, 76, 77, 78, 79, 80, 81, 82, 83, 84, 85, 86, 87, 88, 89, 90, 91, 92, 93, 94, 95, 96, 97, 98, 99] (by decide +kernel) (by decide +kernel)
set_option maxRecDepth 20000 in
theorem gX5_smooth_X5_isFlag : GoodIn wsX5_smooth (wsV RX5 113 RX5 yX5_isFlag wsX5_isFlag) := goodIn_app (goodIn_of _ (by decide +kernel)) ggX5_smooth_X5_isFlag
set_option maxRecDepth 20000 in
theorem ggX5_smooth_X5_areSo : GoodIn wsX5_smooth wsX5_areSo := goodIn_r _ [11, 12, 13, 14, 15, 16, 5, 17, 18, 19, 20, 21, 22, 23, 24, 25, 26, 27, 28, 29, 30, 31, 32, 33, 34, 35, 36, 37, 38, 39, 40, 7, 41, 42, 43, 44, 45, 46, 47, 48, 49, 50, 51, 52, 53, 54, 55, 56, 57, 58, 59, 60, 61, 62, 63, 64, 65, 66, 67, 1, 68, 69, 70, 71, 72, 73, 74, 75, 76, 77, 78, 79, 80, 81, 82, 83, 84, 85, 86, 87, 88, 89, 90, 91, 92, 93, 94, 95, 96, 97, 98, 99] (by decide +kernel) (by decide +kernel)
set_option maxRecDepth 20000 in
theorem gX5_smooth_X5_areSo : GoodIn wsX5_smooth (wsV RX5 185 RX5 yX5_areSo wsX5_areSo) := goodIn_app (goodIn_of _ (by decide +kernel)) ggX5_smooth_X5_areSo
theorem dX5_smooth_0 : decode cX5_smooth 0 = .ok (.aload_n 0, 1) := by decide +kernel
theorem dX5_smooth_1 : decode cX5_smooth 1 = .ok (.iload_n 1, 1) := by decide +kernel
theorem dX5_smooth_2 : decode cX5_smooth 2 = .ok (.invokevirtual 113, 3) := by decide +kernel
theorem dX5_smooth_5 : decode cX5_smooth 5 = .ok (.ifCond .ne 5, 3) := by decide +kernel
theorem dX5_smooth_8 : decode cX5_smooth 8 = .ok (.iconst (-1), 1) := by decide +kernel
theorem dX5_smooth_9 : decode cX5_smooth 9 = .ok (.ireturn, 1) := by decide +kernel
theorem dX5_smooth_10 : decode cX5_smooth 10 = .ok (.aload_n 0, 1) := by decide +kernel
theorem dX5_smooth_11 : decode cX5_smooth 11 = .ok (.getfield 22, 3) := by decide +kernel
theorem dX5_smooth_14 : decode cX5_smooth 14 = .ok (.iload_n 1, 1) := by decide +kernel
theorem dX5_smooth_15 : decode cX5_smooth 15 = .ok (.iaload, 1) := by decide +kernel
theorem dX5_smooth_16 : decode cX5_smooth 16 = .ok (.istore_n 2, 1) := by decide +kernel
theorem dX5_smooth_17 : decode cX5_smooth 17 = .ok (.iconst 0, 1) := by decide +kernel
theorem dX5_smooth_18 : decode cX5_smooth 18 = .ok (.istore_n 3, 1) := by decide +kernel
theorem dX5_smooth_19 : decode cX5_smooth 19 = .ok (.iconst 0, 1) := by decide +kernel
theorem dX5_smooth_20 : decode cX5_smooth 20 = .ok (.istore 4, 2) := by decide +kernel
theorem dX5_smooth_22 : decode cX5_smooth 22 = .ok (.iload 4, 2) := by decide +kernel
theorem dX5_smooth_24 : decode cX5_smooth 24 = .ok (.iconst 4, 1) := by decide +kernel
theorem dX5_smooth_25 : decode cX5_smooth 25 = .ok (.if_icmp .gt 35, 3) := by decide +kernel
theorem dX5_smooth_28 : decode cX5_smooth 28 = .ok (.aload_n 0, 1) := by decide +kernel
theorem dX5_smooth_29 : decode cX5_smooth 29 = .ok (.getfield 22, 3) := by decide +kernel
theorem dX5_smooth_32 : decode cX5_smooth 32 = .ok (.iload_n 1, 1) := by decide +kernel
theorem dX5_smooth_33 : decode cX5_smooth 33 = .ok (.iload 4, 2) := by decide +kernel
theorem dX5_smooth_35 : decode cX5_smooth 35 = .ok (.iastore, 1) := by decide +kernel
theorem dX5_smooth_36 : decode cX5_smooth 36 = .ok (.iload_n 3, 1) := by decide +kernel
theorem dX5_smooth_37 : decode cX5_smooth 37 = .ok (.aload_n 0, 1) := by decide +kernel
theorem dX5_smooth_38 : decode cX5_smooth 38 = .ok (.invokevirtual 185, 3) := by decide +kernel
theorem dX5_smooth_41 : decode cX5_smooth 41 = .ok (.ifCond .eq 10, 3) := by decide +kernel
theorem dX5_smooth_44 : decode cX5_smooth 44 = .ok (.iconst 1, 1) := by decide +kernel
theorem dX5_smooth_45 : decode cX5_smooth 45 = .ok (.iload 4, 2) := by decide +kernel
theorem dX5_smooth_47 : decode cX5_smooth 47 = .ok (.ishl, 1) := by decide +kernel
theorem dX5_smooth_48 : decode cX5_smooth 48 = .ok (.goto 4, 3) := by decide +kernel
theorem dX5_smooth_51 : decode cX5_smooth 51 = .ok (.iconst 0, 1) := by decide +kernel
theorem dX5_smooth_52 : decode cX5_smooth 52 = .ok (.ior, 1) := by decide +kernel
theorem dX5_smooth_53 : decode cX5_smooth 53 = .ok (.istore_n 3, 1) := by decide +kernel
theorem dX5_smooth_54 : decode cX5_smooth 54 = .ok (.iinc 4 1, 3) := by decide +kernel
theorem dX5_smooth_57 : decode cX5_smooth 57 = .ok (.goto (-35), 3) := by decide +kernel
theorem dX5_smooth_60 : decode cX5_smooth 60 = .ok (.aload_n 0, 1) := by decide +kernel
theorem dX5_smooth_61 : decode cX5_smooth 61 = .ok (.getfield 22, 3) := by decide +kernel
theorem dX5_smooth_64 : decode cX5_smooth 64 = .ok (.iload_n 1, 1) := by decide +kernel
theorem dX5_smooth_65 : decode cX5_smooth 65 = .ok (.iload_n 2, 1) := by decide +kernel
theorem dX5_smooth_66 : decode cX5_smooth 66 = .ok (.iastore, 1) := by decide +kernel
theorem dX5_smooth_67 : decode cX5_smooth 67 = .ok (.iload_n 3, 1) := by decide +kernel
theorem dX5_smooth_68 : decode cX5_smooth 68 = .ok (.ireturn, 1) := by decide +kernel
set_option maxRecDepth 20000 in
theorem ggX5_kinds_X5_isFlag : GoodIn wsX5_kinds wsX5_isFlag := goodIn_r _ [6, 7, 68, 69, 70, 71, 72, 73, 74, 75, 76, 77, 78, 79, 80, 81, 82, 83, 84, 85, 86, 87, 88, 89, 90, 91, 92, 93, 94, 95, 96, 97, 98, 99] (by decide +kernel) (by decide +kernel)
set_option maxRecDepth 20000 in
theorem gX5_kinds_X5_isFlag : GoodIn wsX5_kinds (wsV RX5 113 RX5 yX5_isFlag wsX5_isFlag) := goodIn_app (goodIn_of _ (by decide +kernel)) ggX5_kinds_X5_isFlag
set_option maxRecDepth 20000 in
theorem ggX5_kinds_X5_areSo : GoodIn wsX5_kinds wsX5_areSo := goodIn_r _ [11, 12, 13, 14, 15, 16, 5, 17, 18, 19, 20, 21, 22, 23, 24, 25, 26, 27, 28, 29, 30, 31, 32, 33, 34, 35, 36, 37, 38, 39, 40, 7, 41, 42, 43, 44, 45, 46, 47, 48, 49, 50, 51, 52, 53, 54, 55, 56, 57, 58, 59, 60, 61, 62, 63, 64, 65, 66, 1, 67, 68, 69, 70, 71, 72, 73, 74, 75, 76, 77, 78, 79, 80, 81, 82, 83, 84, 85, 86, 87, 88, 89, 90, 91, 92, 93, 94, 95, 96, 97, 98, 99] (by decide +kernel) (by decide +kernel)
set_option maxRecDepth 20000 in
theorem gX5_kinds_X5_areSo : GoodIn wsX5_kinds (wsV RX5 185 RX5 yX5_areSo wsX5_areSo) := goodIn_app (goodIn_of _ (by decide +kernel)) ggX5_kinds_X5_areSo
theorem dX5_kinds_0 : decode cX5_kinds 0 = .ok (.aload_n 0, 1) := by decide +kernel
theorem dX5_kinds_1 : decode cX5_kinds 1 = .ok (.iload_n 1, 1) := by decide +kernel
theorem dX5_kinds_2 : decode cX5_kinds 2 = .ok (.invokevirtual 113, 3) := by decide +kernel
theorem dX5_kinds_5 : decode cX5_kinds 5 = .ok (.ifCond .ne 5, 3) := by decide +kernel
theorem dX5_kinds_8 : decode cX5_kinds 8 = .ok (.iconst (-1), 1) := by decide +kernel
theorem dX5_kinds_9 : decode cX5_kinds 9 = .ok (.ireturn, 1) := by decide +kernel
theorem dX5_kinds_10 : decode cX5_kinds 10 = .ok (.aload_n 0, 1) := by decide +kernel
theorem dX5_kinds_11 : decode cX5_kinds 11 = .ok (.getfield 19, 3) := by decide +kernel
theorem dX5_kinds_14 : decode cX5_kinds 14 = .ok (.iload_n 1, 1) := by decide +kernel
theorem dX5_kinds_15 : decode cX5_kinds 15 = .ok (.iaload, 1) := by decide +kernel
theorem dX5_kinds_16 : decode cX5_kinds 16 = .ok (.istore_n 2, 1) := by decide +kernel
theorem dX5_kinds_17 : decode cX5_kinds 17 = .ok (.iconst 0, 1) := by decide +kernel
theorem dX5_kinds_18 : decode cX5_kinds 18 = .ok (.istore_n 3, 1) := by decide +kernel
theorem dX5_kinds_19 : decode cX5_kinds 19 = .ok (.iconst 0, 1) := by decide +kernel
