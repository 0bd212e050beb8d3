theorem dX0_init_0 : decode cX0_init 0 = .ok (.aload_n 0, 1) := by decide +kernel
theorem dX0_init_1 : decode cX0_init 1 = .ok (.invokespecial 3, 3) := by decide +kernel
theorem dX0_init_4 : decode cX0_init 4 = .ok (.aload_n 0, 1) := by decide +kernel
theorem dX0_init_5 : decode cX0_init 5 = .ok (.iconst 0, 1) := by decide +kernel
theorem dX0_init_6 : decode cX0_init 6 = .ok (.putfield 9, 3) := by decide +kernel
theorem dX0_init_9 : decode cX0_init 9 = .ok (.aload_n 0, 1) := by decide +kernel
theorem dX0_init_10 : decode cX0_init 10 = .ok (.iconst 0, 1) := by decide +kernel
theorem dX0_init_11 : decode cX0_init 11 = .ok (.putfield 15, 3) := by decide +kernel
theorem dX0_init_14 : decode cX0_init 14 = .ok (.aload_n 0, 1) := by decide +kernel
theorem dX0_init_15 : decode cX0_init 15 = .ok (.iconst 0, 1) := by decide +kernel
theorem dX0_init_16 : decode cX0_init 16 = .ok (.putfield 18, 3) := by decide +kernel
theorem dX0_init_19 : decode cX0_init 19 = .ok (.aload_n 0, 1) := by decide +kernel
theorem dX0_init_20 : decode cX0_init 20 = .ok (.iconst 0, 1) := by decide +kernel
theorem dX0_init_21 : decode cX0_init 21 = .ok (.putfield 21, 3) := by decide +kernel
theorem dX0_init_24 : decode cX0_init 24 = .ok (.aload_n 0, 1) := by decide +kernel
theorem dX0_init_25 : decode cX0_init 25 = .ok (.iconst 0, 1) := by decide +kernel
theorem dX0_init_26 : decode cX0_init 26 = .ok (.putfield 24, 3) := by decide +kernel
theorem dX0_init_29 : decode cX0_init 29 = .ok (.aload_n 0, 1) := by decide +kernel
theorem dX0_init_30 : decode cX0_init 30 = .ok (.iconst 0, 1) := by decide +kernel
theorem dX0_init_31 : decode cX0_init 31 = .ok (.putfield 27, 3) := by decide +kernel
theorem dX0_init_34 : decode cX0_init 34 = .ok (.aload_n 0, 1) := by decide +kernel
theorem dX0_init_35 : decode cX0_init 35 = .ok (.iconst 0, 1) := by decide +kernel
theorem dX0_init_36 : decode cX0_init 36 = .ok (.putfield 30, 3) := by decide +kernel
theorem dX0_init_39 : decode cX0_init 39 = .ok (.return_, 1) := by decide +kernel
theorem dX0_begin_0 : decode cX0_begin 0 = .ok (.aload_n 0, 1) := by decide +kernel
theorem dX0_begin_1 : decode cX0_begin 1 = .ok (.iconst 0, 1) := by decide +kernel
theorem dX0_begin_2 : decode cX0_begin 2 = .ok (.putfield 9, 3) := by decide +kernel
theorem dX0_begin_5 : decode cX0_begin 5 = .ok (.aload_n 0, 1) := by decide +kernel
theorem dX0_begin_6 : decode cX0_begin 6 = .ok (.iconst 0, 1) := by decide +kernel
theorem dX0_begin_7 : decode cX0_begin 7 = .ok (.putfield 15, 3) := by decide +kernel
theorem dX0_begin_10 : decode cX0_begin 10 = .ok (.aload_n 0, 1) := by decide +kernel
theorem dX0_begin_11 : decode cX0_begin 11 = .ok (.iconst 0, 1) := by decide +kernel
theorem dX0_begin_12 : decode cX0_begin 12 = .ok (.putfield 18, 3) := by decide +kernel
theorem dX0_begin_15 : decode cX0_begin 15 = .ok (.aload_n 0, 1) := by decide +kernel
theorem dX0_begin_16 : decode cX0_begin 16 = .ok (.iconst 0, 1) := by decide +kernel
theorem dX0_begin_17 : decode cX0_begin 17 = .ok (.putfield 21, 3) := by decide +kernel
theorem dX0_begin_20 : decode cX0_begin 20 = .ok (.aload_n 0, 1) := by decide +kernel
theorem dX0_begin_21 : decode cX0_begin 21 = .ok (.aload_n 1, 1) := by decide +kernel
theorem dX0_begin_22 : decode cX0_begin 22 = .ok (.getfield 33, 3) := by decide +kernel
theorem dX0_begin_25 : decode cX0_begin 25 = .ok (.putfield 24, 3) := by decide +kernel
theorem dX0_begin_28 : decode cX0_begin 28 = .ok (.aload_n 0, 1) := by decide +kernel
theorem dX0_begin_29 : decode cX0_begin 29 = .ok (.iconst 0, 1) := by decide +kernel
theorem dX0_begin_30 : decode cX0_begin 30 = .ok (.putfield 27, 3) := by decide +kernel
theorem dX0_begin_33 : decode cX0_begin 33 = .ok (.aload_n 0, 1) := by decide +kernel
theorem dX0_begin_34 : decode cX0_begin 34 = .ok (.iconst 0, 1) := by decide +kernel
theorem dX0_begin_35 : decode cX0_begin 35 = .ok (.putfield 30, 3) := by decide +kernel
theorem dX0_begin_38 : decode cX0_begin 38 = .ok (.return_, 1) := by decide +kernel
set_option maxRecDepth 20000 in
theorem ggX0_can_X3_has : GoodIn wsX0_can wsX3_has := goodIn_r _ [10, 11, 19, 20, 21, 22, 23, 24, 25] (by decide +kernel) (by decide +kernel)
set_option maxRecDepth 20000 in
theorem gX0_can_X3_has : GoodIn wsX0_can (wsV RX0 38 RX3 yX3_has wsX3_has) := goodIn_app (goodIn_of _ (by decide +kernel)) ggX0_can_X3_has
theorem dX0_can_0 : decode cX0_can 0 = .ok (.aload_n 1, 1) := by decide +kernel
theorem dX0_can_1 : decode cX0_can 1 = .ok (.aload_n 0, 1) := by decide +kernel
theorem dX0_can_2 : decode cX0_can 2 = .ok (.getfield 9, 3) := by decide +kernel
theorem dX0_can_5 : decode cX0_can 5 = .ok (.invokevirtual 38, 3) := by decide +kernel
theorem dX0_can_8 : decode cX0_can 8 = .ok (.ifCond .ne 5, 3) := by decide +kernel
theorem dX0_can_11 : decode cX0_can 11 = .ok (.iconst 0, 1) := by decide +kernel
theorem dX0_can_12 : decode cX0_can 12 = .ok (.ireturn, 1) := by decide +kernel
theorem dX0_can_13 : decode cX0_can 13 = .ok (.iload_n 2, 1) := by decide +kernel
theorem dX0_can_14 : decode cX0_can 14 = .ok (.tableswitch 91 0 3 #[30, 56, 58, 71], 30) := by decide +kernel
theorem dX0_can_44 : decode cX0_can 44 = .ok (.aload_n 0, 1) := by decide +kernel
theorem dX0_can_45 : decode cX0_can 45 = .ok (.getfield 21, 3) := by decide +kernel
theorem dX0_can_48 : decode cX0_can 48 = .ok (.aload_n 1, 1) := by decide +kernel
theorem dX0_can_49 : decode cX0_can 49 = .ok (.getfield 42, 3) := by decide +kernel
theorem dX0_can_52 : decode cX0_can 52 = .ok (.if_icmp .ge 16, 3) := by decide +kernel
theorem dX0_can_55 : decode cX0_can 55 = .ok (.aload_n 0, 1) := by decide +kernel
theorem dX0_can_56 : decode cX0_can 56 = .ok (.getfield 15, 3) := by decide +kernel
theorem dX0_can_59 : decode cX0_can 59 = .ok (.bipush 6, 2) := by decide +kernel
theorem dX0_can_61 : decode cX0_can 61 = .ok (.if_icmp .ge 7, 3) := by decide +kernel
theorem dX0_can_64 : decode cX0_can 64 = .ok (.iconst 1, 1) := by decide +kernel
theorem dX0_can_65 : decode cX0_can 65 = .ok (.goto 4, 3) := by decide +kernel
theorem dX0_can_68 : decode cX0_can 68 = .ok (.iconst 0, 1) := by decide +kernel
theorem dX0_can_69 : decode cX0_can 69 = .ok (.ireturn, 1) := by decide +kernel
theorem dX0_can_70 : decode cX0_can 70 = .ok (.iconst 1, 1) := by decide +kernel
theorem dX0_can_71 : decode cX0_can 71 = .ok (.ireturn, 1) := by decide +kernel
theorem dX0_can_72 : decode cX0_can 72 = .ok (.aload_n 0, 1) := by decide +kernel
theorem dX0_can_73 : decode cX0_can 73 = .ok (.getfield 15, 3) := by decide +kernel
theorem dX0_can_76 : decode cX0_can 76 = .ok (.ifCond .le 7, 3) := by decide +kernel
theorem dX0_can_79 : decode cX0_can 79 = .ok (.iconst 1, 1) := by decide +kernel
theorem dX0_can_80 : decode cX0_can 80 = .ok (.goto 4, 3) := by decide +kernel
theorem dX0_can_83 : decode cX0_can 83 = .ok (.iconst 0, 1) := by decide +kernel
theorem dX0_can_84 : decode cX0_can 84 = .ok (.ireturn, 1) := by decide +kernel
theorem dX0_can_85 : decode cX0_can 85 = .ok (.aload_n 0, 1) := by decide +kernel
theorem dX0_can_86 : decode cX0_can 86 = .ok (.getfield 24, 3) := by decide +kernel
theorem dX0_can_89 : decode cX0_can 89 = .ok (.ifCond .le 14, 3) := by decide +kernel
theorem dX0_can_92 : decode cX0_can 92 = .ok (.aload_n 0, 1) := by decide +kernel
theorem dX0_can_93 : decode cX0_can 93 = .ok (.getfield 15, 3) := by decide +kernel
theorem dX0_can_96 : decode cX0_can 96 = .ok (.ifCond .le 7, 3) := by decide +kernel
theorem dX0_can_99 : decode cX0_can 99 = .ok (.iconst 1, 1) := by decide +kernel
theorem dX0_can_100 : decode cX0_can 100 = .ok (.goto 4, 3) := by decide +kernel
theorem dX0_can_103 : decode cX0_can 103 = .ok (.iconst 0, 1) := by decide +kernel
theorem dX0_can_104 : decode cX0_can 104 = .ok (.ireturn, 1) := by decide +kernel
theorem dX0_can_105 : decode cX0_can 105 = .ok (.iload_n 2, 1) := by decide +kernel
theorem dX0_can_106 : decode cX0_can 106 = .ok (.iconst 4, 1) := by decide +kernel
theorem dX0_can_107 : decode cX0_can 107 = .ok (.if_icmp .ne 7, 3) := by decide +kernel
theorem dX0_can_110 : decode cX0_can 110 = .ok (.iconst 1, 1) := by decide +kernel
theorem dX0_can_111 : decode cX0_can 111 = .ok (.goto 4, 3) := by decide +kernel
theorem dX0_can_114 : decode cX0_can 114 = .ok (.iconst 0, 1) := by decide +kernel
theorem dX0_can_115 : decode cX0_can 115 = .ok (.ireturn, 1) := by decide +kernel
set_option maxRecDepth 20000 in
theorem ggX0_goBy_X0_roll : GoodIn wsX0_goBy wsX0_roll := goodIn_r _ [20, 1, 3, 12, 13, 8, 14, 21, 22, 23, 24, 25, 26, 27, 28, 29, 30, 31, 32, 33, 34, 35, 36, 37, 38, 39, 40, 41, 42, 43, 44, 45, 46, 47] (by decide +kernel) (by decide +kernel)
set_option maxRecDepth 20000 in
theorem gX0_goBy_X0_roll : GoodIn wsX0_goBy (wsV RX0 57 RX0 yX0_roll wsX0_roll) := goodIn_app (goodIn_of _ (by decide +kernel)) ggX0_goBy_X0_roll
theorem dX0_goBy_0 : decode cX0_goBy 0 = .ok (.iload_n 2, 1) := by decide +kernel
theorem dX0_goBy_1 : decode cX0_goBy 1 = .ok (.iconst 4, 1) := by decide +kernel
theorem dX0_goBy_2 : decode cX0_goBy 2 = .ok (.if_icmp .ne 34, 3) := by decide +kernel
theorem dX0_goBy_5 : decode cX0_goBy 5 = .ok (.aload_n 0, 1) := by decide +kernel
theorem dX0_goBy_6 : decode cX0_goBy 6 = .ok (.iconst 0, 1) := by decide +kernel
theorem dX0_goBy_7 : decode cX0_goBy 7 = .ok (.putfield 15, 3) := by decide +kernel
theorem dX0_goBy_10 : decode cX0_goBy 10 = .ok (.aload_n 0, 1) := by decide +kernel
theorem dX0_goBy_11 : decode cX0_goBy 11 = .ok (.iconst 0, 1) := by decide +kernel
theorem dX0_goBy_12 : decode cX0_goBy 12 = .ok (.putfield 21, 3) := by decide +kernel
theorem dX0_goBy_15 : decode cX0_goBy 15 = .ok (.aload_n 0, 1) := by decide +kernel
theorem dX0_goBy_16 : decode cX0_goBy 16 = .ok (.dup, 1) := by decide +kernel
theorem dX0_goBy_17 : decode cX0_goBy 17 = .ok (.getfield 9, 3) := by decide +kernel
theorem dX0_goBy_20 : decode cX0_goBy 20 = .ok (.iconst 1, 1) := by decide +kernel
theorem dX0_goBy_21 : decode cX0_goBy 21 = .ok (.iadd, 1) := by decide +kernel
theorem dX0_goBy_22 : decode cX0_goBy 22 = .ok (.putfield 9, 3) := by decide +kernel
theorem dX0_goBy_25 : decode cX0_goBy 25 = .ok (.aload_n 0, 1) := by decide +kernel
theorem dX0_goBy_26 : decode cX0_goBy 26 = .ok (.dup, 1) := by decide +kernel
theorem dX0_goBy_27 : decode cX0_goBy 27 = .ok (.getfield 27, 3) := by decide +kernel
theorem dX0_goBy_30 : decode cX0_goBy 30 = .ok (.iconst 3, 1) := by decide +kernel
theorem dX0_goBy_31 : decode cX0_goBy 31 = .ok (.iadd, 1) := by decide +kernel
theorem dX0_goBy_32 : decode cX0_goBy 32 = .ok (.putfield 27, 3) := by decide +kernel
theorem dX0_goBy_35 : decode cX0_goBy 35 = .ok (.return_, 1) := by decide +kernel
theorem dX0_goBy_36 : decode cX0_goBy 36 = .ok (.iload_n 2, 1) := by decide +kernel
theorem dX0_goBy_37 : decode cX0_goBy 37 = .ok (.ifCond .ne 44, 3) := by decide +kernel
theorem dX0_goBy_40 : decode cX0_goBy 40 = .ok (.aload_n 0, 1) := by decide +kernel
theorem dX0_goBy_41 : decode cX0_goBy 41 = .ok (.bipush 6, 2) := by decide +kernel
theorem dX0_goBy_43 : decode cX0_goBy 43 = .ok (.aload_n 0, 1) := by decide +kernel
theorem dX0_goBy_44 : decode cX0_goBy 44 = .ok (.getfield 15, 3) := by decide +kernel
theorem dX0_goBy_47 : decode cX0_goBy 47 = .ok (.aload_n 1, 1) := by decide +kernel
theorem dX0_goBy_48 : decode cX0_goBy 48 = .ok (.getfield 45, 3) := by decide +kernel
theorem dX0_goBy_51 : decode cX0_goBy 51 = .ok (.iadd, 1) := by decide +kernel
theorem dX0_goBy_52 : decode cX0_goBy 52 = .ok (.invokestatic 48, 3) := by decide +kernel
theorem dX0_goBy_55 : decode cX0_goBy 55 = .ok (.putfield 15, 3) := by decide +kernel
theorem dX0_goBy_58 : decode cX0_goBy 58 = .ok (.aload_n 0, 1) := by decide +kernel
theorem dX0_goBy_59 : decode cX0_goBy 59 = .ok (.dup, 1) := by decide +kernel
theorem dX0_goBy_60 : decode cX0_goBy 60 = .ok (.getfield 21, 3) := by decide +kernel
theorem dX0_goBy_63 : decode cX0_goBy 63 = .ok (.iconst 1, 1) := by decide +kernel
theorem dX0_goBy_64 : decode cX0_goBy 64 = .ok (.iadd, 1) := by decide +kernel
theorem dX0_goBy_65 : decode cX0_goBy 65 = .ok (.putfield 21, 3) := by decide +kernel
theorem dX0_goBy_68 : decode cX0_goBy 68 = .ok (.aload_n 0, 1) := by decide +kernel
theorem dX0_goBy_69 : decode cX0_goBy 69 = .ok (.dup, 1) := by decide +kernel
theorem dX0_goBy_70 : decode cX0_goBy 70 = .ok (.getfield 30, 3) := by decide +kernel
theorem dX0_goBy_73 : decode cX0_goBy 73 = .ok (.iconst 1, 1) := by decide +kernel
theorem dX0_goBy_74 : decode cX0_goBy 74 = .ok (.iadd, 1) := by decide +kernel
theorem dX0_goBy_75 : decode cX0_goBy 75 = .ok (.putfield 30, 3) := by decide +kernel
theorem dX0_goBy_78 : decode cX0_goBy 78 = .ok (.goto 55, 3) := by decide +kernel
theorem dX0_goBy_81 : decode cX0_goBy 81 = .ok (.iload_n 2, 1) := by decide +kernel
theorem dX0_goBy_82 : decode cX0_goBy 82 = .ok (.iconst 1, 1) := by decide +kernel
theorem dX0_goBy_83 : decode cX0_goBy 83 = .ok (.if_icmp .ne 21, 3) := by decide +kernel
theorem dX0_goBy_86 : decode cX0_goBy 86 = .ok (.aload_n 0, 1) := by decide +kernel
theorem dX0_goBy_87 : decode cX0_goBy 87 = .ok (.iconst 1, 1) := by decide +kernel
theorem dX0_goBy_88 : decode cX0_goBy 88 = .ok (.aload_n 0, 1) := by decide +kernel
theorem dX0_goBy_89 : decode cX0_goBy 89 = .ok (.getfield 18, 3) := by decide +kernel
theorem dX0_goBy_92 : decode cX0_goBy 92 = .ok (.isub, 1) := by decide +kernel
theorem dX0_goBy_93 : decode cX0_goBy 93 = .ok (.putfield 18, 3) := by decide +kernel
theorem dX0_goBy_96 : decode cX0_goBy 96 = .ok (.aload_n 0, 1) := by decide +kernel
theorem dX0_goBy_97 : decode cX0_goBy 97 = .ok (.iconst 0, 1) := by decide +kernel
theorem dX0_goBy_98 : decode cX0_goBy 98 = .ok (.putfield 21, 3) := by decide +kernel
theorem dX0_goBy_101 : decode cX0_goBy 101 = .ok (.goto 32, 3) := by decide +kernel
theorem dX0_goBy_104 : decode cX0_goBy 104 = .ok (.iload_n 2, 1) := by decide +kernel
theorem dX0_goBy_105 : decode cX0_goBy 105 = .ok (.iconst 3, 1) := by decide +kernel
theorem dX0_goBy_106 : decode cX0_goBy 106 = .ok (.if_icmp .ne 27, 3) := by decide +kernel
theorem dX0_goBy_109 : decode cX0_goBy 109 = .ok (.aload_n 0, 1) := by decide +kernel
theorem dX0_goBy_110 : decode cX0_goBy 110 = .ok (.iconst 0, 1) := by decide +kernel
theorem dX0_goBy_111 : decode cX0_goBy 111 = .ok (.aload_n 0, 1) := by decide +kernel
theorem dX0_goBy_112 : decode cX0_goBy 112 = .ok (.getfield 15, 3) := by decide +kernel
theorem dX0_goBy_115 : decode cX0_goBy 115 = .ok (.iconst 2, 1) := by decide +kernel
theorem dX0_goBy_116 : decode cX0_goBy 116 = .ok (.isub, 1) := by decide +kernel
theorem dX0_goBy_117 : decode cX0_goBy 117 = .ok (.invokestatic 54, 3) := by decide +kernel
theorem dX0_goBy_120 : decode cX0_goBy 120 = .ok (.putfield 15, 3) := by decide +kernel
theorem dX0_goBy_123 : decode cX0_goBy 123 = .ok (.aload_n 0, 1) := by decide +kernel
theorem dX0_goBy_124 : decode cX0_goBy 124 = .ok (.dup, 1) := by decide +kernel
theorem dX0_goBy_125 : decode cX0_goBy 125 = .ok (.getfield 24, 3) := by decide +kernel
theorem dX0_goBy_128 : decode cX0_goBy 128 = .ok (.iconst 1, 1) := by decide +kernel
theorem dX0_goBy_129 : decode cX0_goBy 129 = .ok (.isub, 1) := by decide +kernel
theorem dX0_goBy_130 : decode cX0_goBy 130 = .ok (.putfield 24, 3) := by decide +kernel
theorem dX0_goBy_133 : decode cX0_goBy 133 = .ok (.aload_n 0, 1) := by decide +kernel
theorem dX0_goBy_134 : decode cX0_goBy 134 = .ok (.dup, 1) := by decide +kernel
theorem dX0_goBy_135 : decode cX0_goBy 135 = .ok (.getfield 27, 3) := by decide +kernel
theorem dX0_goBy_138 : decode cX0_goBy 138 = .ok (.iconst 1, 1) := by decide +kernel
theorem dX0_goBy_139 : decode cX0_goBy 139 = .ok (.iadd, 1) := by decide +kernel
theorem dX0_goBy_140 : decode cX0_goBy 140 = .ok (.putfield 27, 3) := by decide +kernel
theorem dX0_goBy_143 : decode cX0_goBy 143 = .ok (.aload_n 0, 1) := by decide +kernel
theorem dX0_goBy_144 : decode cX0_goBy 144 = .ok (.aload_n 1, 1) := by decide +kernel
theorem dX0_goBy_145 : decode cX0_goBy 145 = .ok (.invokevirtual 57, 3) := by decide +kernel
theorem dX0_goBy_148 : decode cX0_goBy 148 = .ok (.return_, 1) := by decide +kernel
set_option maxRecDepth 20000 in
theorem ggX0_roll_X3_dragOf : GoodIn wsX0_roll wsX3_dragOf := goodIn_r _ [12, 13, 14, 15, 27, 28, 29, 30, 31, 32, 33] (by decide +kernel) (by decide +kernel)
set_option maxRecDepth 20000 in
theorem gX0_roll_X3_dragOf : GoodIn wsX0_roll (wsV RX0 61 RX3 yX3_dragOf wsX3_dragOf) := goodIn_app (goodIn_of _ (by decide +kernel)) ggX0_roll_X3_dragOf
set_option maxRecDepth 20000 in
theorem ggX0_roll_X3_has : GoodIn wsX0_roll wsX3_has := goodIn_r _ [19, 13, 27, 28, 29, 30, 31, 32, 33] (by decide +kernel) (by decide +kernel)
set_option maxRecDepth 20000 in
theorem gX0_roll_X3_has : GoodIn wsX0_roll (wsV RX0 38 RX3 yX3_has wsX3_has) := goodIn_app (goodIn_of _ (by decide +kernel)) ggX0_roll_X3_has
theorem dX0_roll_0 : decode cX0_roll 0 = .ok (.aload_n 0, 1) := by decide +kernel
theorem dX0_roll_1 : decode cX0_roll 1 = .ok (.iconst 0, 1) := by decide +kernel
theorem dX0_roll_2 : decode cX0_roll 2 = .ok (.aload_n 0, 1) := by decide +kernel
theorem dX0_roll_3 : decode cX0_roll 3 = .ok (.getfield 15, 3) := by decide +kernel
theorem dX0_roll_6 : decode cX0_roll 6 = .ok (.aload_n 1, 1) := by decide +kernel
theorem dX0_roll_7 : decode cX0_roll 7 = .ok (.aload_n 0, 1) := by decide +kernel
theorem dX0_roll_8 : decode cX0_roll 8 = .ok (.getfield 9, 3) := by decide +kernel
theorem dX0_roll_11 : decode cX0_roll 11 = .ok (.invokevirtual 61, 3) := by decide +kernel
theorem dX0_roll_14 : decode cX0_roll 14 = .ok (.isub, 1) := by decide +kernel
theorem dX0_roll_15 : decode cX0_roll 15 = .ok (.invokestatic 54, 3) := by decide +kernel
theorem dX0_roll_18 : decode cX0_roll 18 = .ok (.putfield 15, 3) := by decide +kernel
theorem dX0_roll_21 : decode cX0_roll 21 = .ok (.aload_n 0, 1) := by decide +kernel
theorem dX0_roll_22 : decode cX0_roll 22 = .ok (.getfield 15, 3) := by decide +kernel
theorem dX0_roll_25 : decode cX0_roll 25 = .ok (.iconst 2, 1) := by decide +kernel
theorem dX0_roll_26 : decode cX0_roll 26 = .ok (.idiv, 1) := by decide +kernel
theorem dX0_roll_27 : decode cX0_roll 27 = .ok (.istore_n 2, 1) := by decide +kernel
theorem dX0_roll_28 : decode cX0_roll 28 = .ok (.iconst 0, 1) := by decide +kernel
theorem dX0_roll_29 : decode cX0_roll 29 = .ok (.istore_n 3, 1) := by decide +kernel
theorem dX0_roll_30 : decode cX0_roll 30 = .ok (.iload_n 3, 1) := by decide +kernel
theorem dX0_roll_31 : decode cX0_roll 31 = .ok (.iload_n 2, 1) := by decide +kernel
theorem dX0_roll_32 : decode cX0_roll 32 = .ok (.if_icmp .ge 67, 3) := by decide +kernel
theorem dX0_roll_35 : decode cX0_roll 35 = .ok (.aload_n 1, 1) := by decide +kernel
theorem dX0_roll_36 : decode cX0_roll 36 = .ok (.aload_n 0, 1) := by decide +kernel
theorem dX0_roll_37 : decode cX0_roll 37 = .ok (.getfield 9, 3) := by decide +kernel
theorem dX0_roll_40 : decode cX0_roll 40 = .ok (.invokevirtual 38, 3) := by decide +kernel
theorem dX0_roll_43 : decode cX0_roll 43 = .ok (.ifCond .eq 56, 3) := by decide +kernel
theorem dX0_roll_46 : decode cX0_roll 46 = .ok (.aload_n 0, 1) := by decide +kernel
theorem dX0_roll_47 : decode cX0_roll 47 = .ok (.dup, 1) := by decide +kernel
theorem dX0_roll_48 : decode cX0_roll 48 = .ok (.getfield 9, 3) := by decide +kernel
theorem dX0_roll_51 : decode cX0_roll 51 = .ok (.iconst 1, 1) := by decide +kernel
theorem dX0_roll_52 : decode cX0_roll 52 = .ok (.iadd, 1) := by decide +kernel
theorem dX0_roll_53 : decode cX0_roll 53 = .ok (.putfield 9, 3) := by decide +kernel
theorem dX0_roll_56 : decode cX0_roll 56 = .ok (.aload_n 0, 1) := by decide +kernel
theorem dX0_roll_57 : decode cX0_roll 57 = .ok (.getfield 15, 3) := by decide +kernel
theorem dX0_roll_60 : decode cX0_roll 60 = .ok (.iconst 4, 1) := by decide +kernel
theorem dX0_roll_61 : decode cX0_roll 61 = .ok (.if_icmp .lt 32, 3) := by decide +kernel
theorem dX0_roll_64 : decode cX0_roll 64 = .ok (.aload_n 1, 1) := by decide +kernel
theorem dX0_roll_65 : decode cX0_roll 65 = .ok (.aload_n 0, 1) := by decide +kernel
theorem dX0_roll_66 : decode cX0_roll 66 = .ok (.getfield 9, 3) := by decide +kernel
theorem dX0_roll_69 : decode cX0_roll 69 = .ok (.invokevirtual 38, 3) := by decide +kernel
theorem dX0_roll_72 : decode cX0_roll 72 = .ok (.ifCond .eq 21, 3) := by decide +kernel
theorem dX0_roll_75 : decode cX0_roll 75 = .ok (.aload_n 1, 1) := by decide +kernel
theorem dX0_roll_76 : decode cX0_roll 76 = .ok (.getfield 65, 3) := by decide +kernel
theorem dX0_roll_79 : decode cX0_roll 79 = .ok (.aload_n 0, 1) := by decide +kernel
theorem dX0_roll_80 : decode cX0_roll 80 = .ok (.getfield 9, 3) := by decide +kernel
theorem dX0_roll_83 : decode cX0_roll 83 = .ok (.baload, 1) := by decide +kernel
theorem dX0_roll_84 : decode cX0_roll 84 = .ok (.ifCond .eq 9, 3) := by decide +kernel
theorem dX0_roll_87 : decode cX0_roll 87 = .ok (.aload_n 0, 1) := by decide +kernel
theorem dX0_roll_88 : decode cX0_roll 88 = .ok (.iconst 0, 1) := by decide +kernel
theorem dX0_roll_89 : decode cX0_roll 89 = .ok (.putfield 15, 3) := by decide +kernel
theorem dX0_roll_92 : decode cX0_roll 92 = .ok (.return_, 1) := by decide +kernel
theorem dX0_roll_93 : decode cX0_roll 93 = .ok (.iinc 3 1, 3) := by decide +kernel
theorem dX0_roll_96 : decode cX0_roll 96 = .ok (.goto (-66), 3) := by decide +kernel
theorem dX0_roll_99 : decode cX0_roll 99 = .ok (.return_, 1) := by decide +kernel
theorem dX1_init_0 : decode cX1_init 0 = .ok (.aload_n 0, 1) := by decide +kernel
theorem dX1_init_1 : decode cX1_init 1 = .ok (.invokespecial 3, 3) := by decide +kernel
theorem dX1_init_4 : decode cX1_init 4 = .ok (.aload_n 0, 1) := by decide +kernel
theorem dX1_init_5 : decode cX1_init 5 = .ok (.bipush 60, 2) := by decide +kernel
theorem dX1_init_7 : decode cX1_init 7 = .ok (.newarray .int, 2) := by decide +kernel
theorem dX1_init_9 : decode cX1_init 9 = .ok (.putfield 9, 3) := by decide +kernel
theorem dX1_init_12 : decode cX1_init 12 = .ok (.aload_n 0, 1) := by decide +kernel
theorem dX1_init_13 : decode cX1_init 13 = .ok (.iconst 0, 1) := by decide +kernel
theorem dX1_init_14 : decode cX1_init 14 = .ok (.putfield 15, 3) := by decide +kernel
theorem dX1_init_17 : decode cX1_init 17 = .ok (.aload_n 0, 1) := by decide +kernel
theorem dX1_init_18 : decode cX1_init 18 = .ok (.iconst 0, 1) := by decide +kernel
theorem dX1_init_19 : decode cX1_init 19 = .ok (.putfield 19, 3) := by decide +kernel
theorem dX1_init_22 : decode cX1_init 22 = .ok (.aload_n 0, 1) := by decide +kernel
theorem dX1_init_23 : decode cX1_init 23 = .ok (.iconst 0, 1) := by decide +kernel
theorem dX1_init_24 : decode cX1_init 24 = .ok (.putfield 23, 3) := by decide +kernel
theorem dX1_init_27 : decode cX1_init 27 = .ok (.return_, 1) := by decide +kernel
set_option maxRecDepth 20000 in
theorem ggX1_becomeNew_J7_fill_53178 : GoodIn wsX1_becomeNew wsJ7_fill_53178 := goodIn_r _ [15] (by decide +kernel) (by decide +kernel)
set_option maxRecDepth 20000 in
theorem gX1_becomeNew_J7_fill_53178 : GoodIn wsX1_becomeNew (va_wsS RX1 26 yJ7_fill_53178 wsJ7_fill_53178) := goodIn_app (goodIn_of _ (by decide +kernel)) ggX1_becomeNew_J7_fill_53178
theorem dX1_becomeNew_0 : decode cX1_becomeNew 0 = .ok (.aload_n 0, 1) := by decide +kernel
theorem dX1_becomeNew_1 : decode cX1_becomeNew 1 = .ok (.getfield 9, 3) := by decide +kernel
theorem dX1_becomeNew_4 : decode cX1_becomeNew 4 = .ok (.iconst 0, 1) := by decide +kernel
theorem dX1_becomeNew_5 : decode cX1_becomeNew 5 = .ok (.invokestatic 26, 3) := by decide +kernel
theorem dX1_becomeNew_8 : decode cX1_becomeNew 8 = .ok (.aload_n 0, 1) := by decide +kernel
theorem dX1_becomeNew_9 : decode cX1_becomeNew 9 = .ok (.iconst 1, 1) := by decide +kernel
theorem dX1_becomeNew_10 : decode cX1_becomeNew 10 = .ok (.putfield 15, 3) := by decide +kernel
theorem dX1_becomeNew_13 : decode cX1_becomeNew 13 = .ok (.aload_n 0, 1) := by decide +kernel
theorem dX1_becomeNew_14 : decode cX1_becomeNew 14 = .ok (.iload_n 1, 1) := by decide +kernel
theorem dX1_becomeNew_15 : decode cX1_becomeNew 15 = .ok (.putfield 19, 3) := by decide +kernel
theorem dX1_becomeNew_18 : decode cX1_becomeNew 18 = .ok (.aload_n 0, 1) := by decide +kernel
theorem dX1_becomeNew_19 : decode cX1_becomeNew 19 = .ok (.iconst 0, 1) := by decide +kernel
theorem dX1_becomeNew_20 : decode cX1_becomeNew 20 = .ok (.iload_n 2, 1) := by decide +kernel
theorem dX1_becomeNew_21 : decode cX1_becomeNew 21 = .ok (.bipush 60, 2) := by decide +kernel
theorem dX1_becomeNew_23 : decode cX1_becomeNew 23 = .ok (.invokestatic 32, 3) := by decide +kernel
theorem dX1_becomeNew_26 : decode cX1_becomeNew 26 = .ok (.invokestatic 38, 3) := by decide +kernel
theorem dX1_becomeNew_29 : decode cX1_becomeNew 29 = .ok (.putfield 23, 3) := by decide +kernel
theorem dX1_becomeNew_32 : decode cX1_becomeNew 32 = .ok (.return_, 1) := by decide +kernel
theorem dX1_isUnlike_0 : decode cX1_isUnlike 0 = .ok (.aload_n 0, 1) := by decide +kernel
theorem dX1_isUnlike_1 : decode cX1_isUnlike 1 = .ok (.getfield 15, 3) := by decide +kernel
theorem dX1_isUnlike_4 : decode cX1_isUnlike 4 = .ok (.ifCond .eq 15, 3) := by decide +kernel
theorem dX1_isUnlike_7 : decode cX1_isUnlike 7 = .ok (.aload_n 0, 1) := by decide +kernel
theorem dX1_isUnlike_8 : decode cX1_isUnlike 8 = .ok (.getfield 19, 3) := by decide +kernel
theorem dX1_isUnlike_11 : decode cX1_isUnlike 11 = .ok (.iload_n 1, 1) := by decide +kernel
theorem dX1_isUnlike_12 : decode cX1_isUnlike 12 = .ok (.if_icmp .eq 7, 3) := by decide +kernel
theorem dX1_isUnlike_15 : decode cX1_isUnlike 15 = .ok (.iconst 1, 1) := by decide +kernel
theorem dX1_isUnlike_16 : decode cX1_isUnlike 16 = .ok (.goto 4, 3) := by decide +kernel
theorem dX1_isUnlike_19 : decode cX1_isUnlike 19 = .ok (.iconst 0, 1) := by decide +kernel
theorem dX1_isUnlike_20 : decode cX1_isUnlike 20 = .ok (.ireturn, 1) := by decide +kernel
theorem dX1_holds_0 : decode cX1_holds 0 = .ok (.iload_n 1, 1) := by decide +kernel
theorem dX1_holds_1 : decode cX1_holds 1 = .ok (.ifCond .lt 29, 3) := by decide +kernel
theorem dX1_holds_4 : decode cX1_holds 4 = .ok (.iload_n 2, 1) := by decide +kernel
theorem dX1_holds_5 : decode cX1_holds 5 = .ok (.ifCond .lt 25, 3) := by decide +kernel
theorem dX1_holds_8 : decode cX1_holds 8 = .ok (.iload_n 2, 1) := by decide +kernel
theorem dX1_holds_9 : decode cX1_holds 9 = .ok (.aload_n 0, 1) := by decide +kernel
theorem dX1_holds_10 : decode cX1_holds 10 = .ok (.getfield 23, 3) := by decide +kernel
theorem dX1_holds_13 : decode cX1_holds 13 = .ok (.if_icmp .gt 17, 3) := by decide +kernel
theorem dX1_holds_16 : decode cX1_holds 16 = .ok (.iload_n 1, 1) := by decide +kernel
theorem dX1_holds_17 : decode cX1_holds 17 = .ok (.aload_n 0, 1) := by decide +kernel
theorem dX1_holds_18 : decode cX1_holds 18 = .ok (.getfield 23, 3) := by decide +kernel
theorem dX1_holds_21 : decode cX1_holds 21 = .ok (.iload_n 2, 1) := by decide +kernel
theorem dX1_holds_22 : decode cX1_holds 22 = .ok (.isub, 1) := by decide +kernel
theorem dX1_holds_23 : decode cX1_holds 23 = .ok (.if_icmp .gt 7, 3) := by decide +kernel
theorem dX1_holds_26 : decode cX1_holds 26 = .ok (.iconst 1, 1) := by decide +kernel
theorem dX1_holds_27 : decode cX1_holds 27 = .ok (.goto 4, 3) := by decide +kernel
theorem dX1_holds_30 : decode cX1_holds 30 = .ok (.iconst 0, 1) := by decide +kernel
theorem dX1_holds_31 : decode cX1_holds 31 = .ok (.ireturn, 1) := by decide +kernel
theorem dX1_at_0 : decode cX1_at 0 = .ok (.iload_n 1, 1) := by decide +kernel
theorem dX1_at_1 : decode cX1_at 1 = .ok (.ifCond .lt 20, 3) := by decide +kernel
theorem dX1_at_4 : decode cX1_at 4 = .ok (.iload_n 1, 1) := by decide +kernel
theorem dX1_at_5 : decode cX1_at 5 = .ok (.aload_n 0, 1) := by decide +kernel
theorem dX1_at_6 : decode cX1_at 6 = .ok (.getfield 23, 3) := by decide +kernel
theorem dX1_at_9 : decode cX1_at 9 = .ok (.if_icmp .ge 12, 3) := by decide +kernel
theorem dX1_at_12 : decode cX1_at 12 = .ok (.aload_n 0, 1) := by decide +kernel
theorem dX1_at_13 : decode cX1_at 13 = .ok (.getfield 9, 3) := by decide +kernel
theorem dX1_at_16 : decode cX1_at 16 = .ok (.iload_n 1, 1) := by decide +kernel
theorem dX1_at_17 : decode cX1_at 17 = .ok (.iaload, 1) := by decide +kernel
theorem dX1_at_18 : decode cX1_at 18 = .ok (.goto 4, 3) := by decide +kernel
theorem dX1_at_21 : decode cX1_at 21 = .ok (.iconst 0, 1) := by decide +kernel
theorem dX1_at_22 : decode cX1_at 22 = .ok (.ireturn, 1) := by decide +kernel
set_option maxRecDepth 20000 in
theorem ggX1_keep_X1_cut : GoodIn wsX1_keep wsX1_cut := goodIn_r _ [7, 8, 9, 10, 11, 12] (by decide +kernel) (by decide +kernel)
set_option maxRecDepth 20000 in
theorem gX1_keep_X1_cut : GoodIn wsX1_keep (wsV RX1 41 RX1 yX1_cut wsX1_cut) := goodIn_app (goodIn_of _ (by decide +kernel)) ggX1_keep_X1_cut
theorem dX1_keep_0 : decode cX1_keep 0 = .ok (.iload_n 1, 1) := by decide +kernel
theorem dX1_keep_1 : decode cX1_keep 1 = .ok (.ifCond .lt 22, 3) := by decide +kernel
theorem dX1_keep_4 : decode cX1_keep 4 = .ok (.iload_n 1, 1) := by decide +kernel
theorem dX1_keep_5 : decode cX1_keep 5 = .ok (.aload_n 0, 1) := by decide +kernel
theorem dX1_keep_6 : decode cX1_keep 6 = .ok (.getfield 23, 3) := by decide +kernel
theorem dX1_keep_9 : decode cX1_keep 9 = .ok (.if_icmp .ge 14, 3) := by decide +kernel
theorem dX1_keep_12 : decode cX1_keep 12 = .ok (.aload_n 0, 1) := by decide +kernel
theorem dX1_keep_13 : decode cX1_keep 13 = .ok (.getfield 9, 3) := by decide +kernel
theorem dX1_keep_16 : decode cX1_keep 16 = .ok (.iload_n 1, 1) := by decide +kernel
theorem dX1_keep_17 : decode cX1_keep 17 = .ok (.aload_n 0, 1) := by decide +kernel
theorem dX1_keep_18 : decode cX1_keep 18 = .ok (.iload_n 2, 1) := by decide +kernel
theorem dX1_keep_19 : decode cX1_keep 19 = .ok (.invokevirtual 41, 3) := by decide +kernel
theorem dX1_keep_22 : decode cX1_keep 22 = .ok (.iastore, 1) := by decide +kernel
theorem dX1_keep_23 : decode cX1_keep 23 = .ok (.return_, 1) := by decide +kernel
theorem dX1_cut_0 : decode cX1_cut 0 = .ok (.aload_n 0, 1) := by decide +kernel
theorem dX1_cut_1 : decode cX1_cut 1 = .ok (.getfield 19, 3) := by decide +kernel
theorem dX1_cut_4 : decode cX1_cut 4 = .ok (.lookupswitch 34 #[(0, 28), (1, 31)], 28) := by decide +kernel
theorem dX1_cut_32 : decode cX1_cut 32 = .ok (.iload_n 1, 1) := by decide +kernel
theorem dX1_cut_33 : decode cX1_cut 33 = .ok (.i2b, 1) := by decide +kernel
theorem dX1_cut_34 : decode cX1_cut 34 = .ok (.ireturn, 1) := by decide +kernel
theorem dX1_cut_35 : decode cX1_cut 35 = .ok (.iload_n 1, 1) := by decide +kernel
theorem dX1_cut_36 : decode cX1_cut 36 = .ok (.i2s, 1) := by decide +kernel
theorem dX1_cut_37 : decode cX1_cut 37 = .ok (.ireturn, 1) := by decide +kernel
theorem dX1_cut_38 : decode cX1_cut 38 = .ok (.iload_n 1, 1) := by decide +kernel
theorem dX1_cut_39 : decode cX1_cut 39 = .ok (.ireturn, 1) := by decide +kernel
set_option maxRecDepth 20000 in
theorem ggX2_init_X0_init : GoodIn wsX2_init wsX0_init := goodIn_r _ [17, 18, 2, 3, 19, 20, 21, 22, 23, 24, 25, 30, 31, 32, 33, 34, 35, 36] (by decide +kernel) (by decide +kernel)
set_option maxRecDepth 20000 in
theorem gX2_init_X0_init_n13 : GoodIn wsX2_init (wsX0_init) := ggX2_init_X0_init
set_option maxRecDepth 20000 in
theorem ggX2_init_J7_fill_53178 : GoodIn wsX2_init wsJ7_fill_53178 := goodIn_r _ [29] (by decide +kernel) (by decide +kernel)
set_option maxRecDepth 20000 in
theorem gX2_init_J7_fill_53178 : GoodIn wsX2_init (va_wsS RX2 42 yJ7_fill_53178 wsJ7_fill_53178) := goodIn_app (goodIn_of _ (by decide +kernel)) ggX2_init_J7_fill_53178
theorem dX2_init_0 : decode cX2_init 0 = .ok (.aload_n 0, 1) := by decide +kernel
theorem dX2_init_1 : decode cX2_init 1 = .ok (.invokespecial 5, 3) := by decide +kernel
theorem dX2_init_4 : decode cX2_init 4 = .ok (.aload_n 0, 1) := by decide +kernel
theorem dX2_init_5 : decode cX2_init 5 = .ok (.new 11, 3) := by decide +kernel
theorem dX2_init_8 : decode cX2_init 8 = .ok (.dup, 1) := by decide +kernel
theorem dX2_init_9 : decode cX2_init 9 = .ok (.invokespecial 13, 3) := by decide +kernel
theorem dX2_init_12 : decode cX2_init 12 = .ok (.putfield 14, 3) := by decide +kernel
theorem dX2_init_15 : decode cX2_init 15 = .ok (.aload_n 0, 1) := by decide +kernel
theorem dX2_init_16 : decode cX2_init 16 = .ok (.sipush 840, 3) := by decide +kernel
theorem dX2_init_19 : decode cX2_init 19 = .ok (.newarray .int, 2) := by decide +kernel
theorem dX2_init_21 : decode cX2_init 21 = .ok (.putfield 18, 3) := by decide +kernel
theorem dX2_init_24 : decode cX2_init 24 = .ok (.aload_n 0, 1) := by decide +kernel
theorem dX2_init_25 : decode cX2_init 25 = .ok (.sipush 3360, 3) := by decide +kernel
theorem dX2_init_28 : decode cX2_init 28 = .ok (.newarray .int, 2) := by decide +kernel
theorem dX2_init_30 : decode cX2_init 30 = .ok (.putfield 22, 3) := by decide +kernel
theorem dX2_init_33 : decode cX2_init 33 = .ok (.aload_n 0, 1) := by decide +kernel
theorem dX2_init_34 : decode cX2_init 34 = .ok (.sipush 3360, 3) := by decide +kernel
theorem dX2_init_37 : decode cX2_init 37 = .ok (.newarray .int, 2) := by decide +kernel
theorem dX2_init_39 : decode cX2_init 39 = .ok (.putfield 25, 3) := by decide +kernel
theorem dX2_init_42 : decode cX2_init 42 = .ok (.aload_n 0, 1) := by decide +kernel
theorem dX2_init_43 : decode cX2_init 43 = .ok (.iconst 4, 1) := by decide +kernel
theorem dX2_init_44 : decode cX2_init 44 = .ok (.newarray .int, 2) := by decide +kernel
theorem dX2_init_46 : decode cX2_init 46 = .ok (.putfield 28, 3) := by decide +kernel
theorem dX2_init_49 : decode cX2_init 49 = .ok (.aload_n 0, 1) := by decide +kernel
theorem dX2_init_50 : decode cX2_init 50 = .ok (.iconst 0, 1) := by decide +kernel
theorem dX2_init_51 : decode cX2_init 51 = .ok (.putfield 31, 3) := by decide +kernel
theorem dX2_init_54 : decode cX2_init 54 = .ok (.aload_n 0, 1) := by decide +kernel
theorem dX2_init_55 : decode cX2_init 55 = .ok (.iconst 0, 1) := by decide +kernel
theorem dX2_init_56 : decode cX2_init 56 = .ok (.putfield 35, 3) := by decide +kernel
theorem dX2_init_59 : decode cX2_init 59 = .ok (.aload_n 0, 1) := by decide +kernel
theorem dX2_init_60 : decode cX2_init 60 = .ok (.bipush (-9), 2) := by decide +kernel
theorem dX2_init_62 : decode cX2_init 62 = .ok (.putfield 39, 3) := by decide +kernel
theorem dX2_init_65 : decode cX2_init 65 = .ok (.aload_n 0, 1) := by decide +kernel
theorem dX2_init_66 : decode cX2_init 66 = .ok (.getfield 25, 3) := by decide +kernel
theorem dX2_init_69 : decode cX2_init 69 = .ok (.sipush 1000, 3) := by decide +kernel
theorem dX2_init_72 : decode cX2_init 72 = .ok (.invokestatic 42, 3) := by decide +kernel
theorem dX2_init_75 : decode cX2_init 75 = .ok (.return_, 1) := by decide +kernel
theorem dX3_init_0 : decode cX3_init 0 = .ok (.aload_n 0, 1) := by decide +kernel
theorem dX3_init_1 : decode cX3_init 1 = .ok (.invokespecial 3, 3) := by decide +kernel
theorem dX3_init_4 : decode cX3_init 4 = .ok (.aload_n 0, 1) := by decide +kernel
theorem dX3_init_5 : decode cX3_init 5 = .ok (.bipush 10, 2) := by decide +kernel
theorem dX3_init_7 : decode cX3_init 7 = .ok (.newarray .int, 2) := by decide +kernel
theorem dX3_init_9 : decode cX3_init 9 = .ok (.putfield 9, 3) := by decide +kernel
theorem dX3_init_12 : decode cX3_init 12 = .ok (.aload_n 0, 1) := by decide +kernel
theorem dX3_init_13 : decode cX3_init 13 = .ok (.bipush 10, 2) := by decide +kernel
theorem dX3_init_15 : decode cX3_init 15 = .ok (.newarray .int, 2) := by decide +kernel
theorem dX3_init_17 : decode cX3_init 17 = .ok (.putfield 15, 3) := by decide +kernel
theorem dX3_init_20 : decode cX3_init 20 = .ok (.aload_n 0, 1) := by decide +kernel
theorem dX3_init_21 : decode cX3_init 21 = .ok (.bipush 10, 2) := by decide +kernel
theorem dX3_init_23 : decode cX3_init 23 = .ok (.newarray .boolean, 2) := by decide +kernel
theorem dX3_init_25 : decode cX3_init 25 = .ok (.putfield 18, 3) := by decide +kernel
theorem dX3_init_28 : decode cX3_init 28 = .ok (.aload_n 0, 1) := by decide +kernel
theorem dX3_init_29 : decode cX3_init 29 = .ok (.iconst 0, 1) := by decide +kernel
theorem dX3_init_30 : decode cX3_init 30 = .ok (.putfield 22, 3) := by decide +kernel
theorem dX3_init_33 : decode cX3_init 33 = .ok (.aload_n 0, 1) := by decide +kernel
theorem dX3_init_34 : decode cX3_init 34 = .ok (.iconst 0, 1) := by decide +kernel
theorem dX3_init_35 : decode cX3_init 35 = .ok (.putfield 26, 3) := by decide +kernel
theorem dX3_init_38 : decode cX3_init 38 = .ok (.aload_n 0, 1) := by decide +kernel
theorem dX3_init_39 : decode cX3_init 39 = .ok (.iconst 0, 1) := by decide +kernel
theorem dX3_init_40 : decode cX3_init 40 = .ok (.putfield 29, 3) := by decide +kernel
theorem dX3_init_43 : decode cX3_init 43 = .ok (.aload_n 0, 1) := by decide +kernel
theorem dX3_init_44 : decode cX3_init 44 = .ok (.iconst 0, 1) := by decide +kernel
theorem dX3_init_45 : decode cX3_init 45 = .ok (.putfield 32, 3) := by decide +kernel
theorem dX3_init_48 : decode cX3_init 48 = .ok (.return_, 1) := by decide +kernel
theorem dX3_isNone_0 : decode cX3_isNone 0 = .ok (.aload_n 0, 1) := by decide +kernel
theorem dX3_isNone_1 : decode cX3_isNone 1 = .ok (.getfield 22, 3) := by decide +kernel
theorem dX3_isNone_4 : decode cX3_isNone 4 = .ok (.ifCond .ne 7, 3) := by decide +kernel
theorem dX3_isNone_7 : decode cX3_isNone 7 = .ok (.iconst 1, 1) := by decide +kernel
