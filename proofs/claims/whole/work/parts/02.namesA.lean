theorem dX0_init_0 : decode cX0_init 0 = .ok (.aload_n 0, 1) := by decide +kernel
theorem dX0_init_1 : decode cX0_init 1 = .ok (.invokespecial 3, 3) := by decide +kernel
theorem dX0_init_4 : decode cX0_init 4 = .ok (.aload_n 0, 1) := by decide +kernel
theorem dX0_init_5 : decode cX0_init 5 = .ok (.iconst 0, 1) := by decide +kernel
theorem dX0_init_6 : decode cX0_init 6 = .ok (.putfield 9, 3) := by decide +kernel
theorem dX0_init_9 : decode cX0_init 9 = .ok (.aload_n 0, 1) := by decide +kernel
theorem dX0_init_10 : decode cX0_init 10 = .ok (.iconst 0, 1) := by decide +kernel
theorem dX0_init_11 : decode cX0_init 11 = .ok (.putfield 15, 3) := by decide +kernel
theorem dX0_init_14 : decode cX0_init 14 = .ok (.aload_n 0, 1) := by decide +kernel
theorem dX0_init_15 : decode cX0_init 15 = .ok (.iconst 0, 1) := by decide +kernel
theorem dX0_init_16 : decode cX0_init 16 = .ok (.putfield 18, 3) := by decide +kernel
theorem dX0_init_19 : decode cX0_init 19 = .ok (.aload_n 0, 1) := by decide +kernel
theorem dX0_init_20 : decode cX0_init 20 = .ok (.iconst 0, 1) := by decide +kernel
theorem dX0_init_21 : decode cX0_init 21 = .ok (.putfield 21, 3) := by decide +kernel
theorem dX0_init_24 : decode cX0_init 24 = .ok (.aload_n 0, 1) := by decide +kernel
theorem dX0_init_25 : decode cX0_init 25 = .ok (.iconst 0, 1) := by decide +kernel
theorem dX0_init_26 : decode cX0_init 26 = .ok (.putfield 24, 3) := by decide +kernel
theorem dX0_init_29 : decode cX0_init 29 = .ok (.aload_n 0, 1) := by decide +kernel
theorem dX0_init_30 : decode cX0_init 30 = .ok (.iconst 0, 1) := by decide +kernel
theorem dX0_init_31 : decode cX0_init 31 = .ok (.putfield 27, 3) := by decide +kernel
theorem dX0_init_34 : decode cX0_init 34 = .ok (.aload_n 0, 1) := by decide +kernel
theorem dX0_init_35 : decode cX0_init 35 = .ok (.iconst 0, 1) := by decide +kernel
theorem dX0_init_36 : decode cX0_init 36 = .ok (.putfield 30, 3) := by decide +kernel
theorem dX0_init_39 : decode cX0_init 39 = .ok (.return_, 1) := by decide +kernel
theorem dX0_begin_0 : decode cX0_begin 0 = .ok (.aload_n 0, 1) := by decide +kernel
theorem dX0_begin_1 : decode cX0_begin 1 = .ok (.iconst 0, 1) := by decide +kernel
theorem dX0_begin_2 : decode cX0_begin 2 = .ok (.putfield 9, 3) := by decide +kernel
theorem dX0_begin_5 : decode cX0_begin 5 = .ok (.aload_n 0, 1) := by decide +kernel
theorem dX0_begin_6 : decode cX0_begin 6 = .ok (.iconst 0, 1) := by decide +kernel
theorem dX0_begin_7 : decode cX0_begin 7 = .ok (.putfield 15, 3) := by decide +kernel
theorem dX0_begin_10 : decode cX0_begin 10 = .ok (.aload_n 0, 1) := by decide +kernel
theorem dX0_begin_11 : decode cX0_begin 11 = .ok (.iconst 0, 1) := by decide +kernel
theorem dX0_begin_12 : decode cX0_begin 12 = .ok (.putfield 18, 3) := by decide +kernel
theorem dX0_begin_15 : decode cX0_begin 15 = .ok (.aload_n 0, 1) := by decide +kernel
theorem dX0_begin_16 : decode cX0_begin 16 = .ok (.iconst 0, 1) := by decide +kernel
theorem dX0_begin_17 : decode cX0_begin 17 = .ok (.putfield 21, 3) := by decide +kernel
theorem dX0_begin_20 : decode cX0_begin 20 = .ok (.aload_n 0, 1) := by decide +kernel
theorem dX0_begin_21 : decode cX0_begin 21 = .ok (.aload_n 1, 1) := by decide +kernel
theorem dX0_begin_22 : decode cX0_begin 22 = .ok (.getfield 33, 3) := by decide +kernel
theorem dX0_begin_25 : decode cX0_begin 25 = .ok (.putfield 24, 3) := by decide +kernel
theorem dX0_begin_28 : decode cX0_begin 28 = .ok (.aload_n 0, 1) := by decide +kernel
theorem dX0_begin_29 : decode cX0_begin 29 = .ok (.iconst 0, 1) := by decide +kernel
theorem dX0_begin_30 : decode cX0_begin 30 = .ok (.putfield 27, 3) := by decide +kernel
theorem dX0_begin_33 : decode cX0_begin 33 = .ok (.aload_n 0, 1) := by decide +kernel
theorem dX0_begin_34 : decode cX0_begin 34 = .ok (.iconst 0, 1) := by decide +kernel
theorem dX0_begin_35 : decode cX0_begin 35 = .ok (.putfield 30, 3) := by decide +kernel
theorem dX0_begin_38 : decode cX0_begin 38 = .ok (.return_, 1) := by decide +kernel
set_option maxRecDepth 20000 in
theorem ggX0_can_X3_has : GoodIn wsX0_can wsX3_has := goodIn_r _ [10, 11, 19, 20, 21, 22, 23, 24, 25] (by decide +kernel) (by decide +kernel)
set_option maxRecDepth 20000 in
theorem gX0_can_X3_has : GoodIn wsX0_can (wsV RX0 38 RX3 yX3_has wsX3_has) := goodIn_app (goodIn_of _ (by decide +kernel)) ggX0_can_X3_has
theorem dX0_can_0 : decode cX0_can 0 = .ok (.aload_n 1, 1) := by decide +kernel
theorem dX0_can_1 : decode cX0_can 1 = .ok (.aload_n 0, 1) := by decide +kernel
theorem dX0_can_2 : decode cX0_can 2 = .ok (.getfield 9, 3) := by decide +kernel
theorem dX0_can_5 : decode cX0_can 5 = .ok (.invokevirtual 38, 3) := by decide +kernel
theorem dX0_can_8 : decode cX0_can 8 = .ok (.ifCond .ne 5, 3) := by decide +kernel
theorem dX0_can_11 : decode cX0_can 11 = .ok (.iconst 0, 1) := by decide +kernel
theorem dX0_can_12 : decode cX0_can 12 = .ok (.ireturn, 1) := by decide +kernel
theorem dX0_can_13 : decode cX0_can 13 = .ok (.iload_n 2, 1) := by decide +kernel
theorem dX0_can_14 : decode cX0_can 14 = .ok (.tableswitch 91 0 3 #[30, 56, 58, 71], 30) := by decide +kernel
theorem dX0_can_44 : decode cX0_can 44 = .ok (.aload_n 0, 1) := by decide +kernel
theorem dX0_can_45 : decode cX0_can 45 = .ok (.getfield 21, 3) := by decide +kernel
theorem dX0_can_48 : decode cX0_can 48 = .ok (.aload_n 1, 1) := by decide +kernel
theorem dX0_can_49 : decode cX0_can 49 = .ok (.getfield 42, 3) := by decide +kernel
theorem dX0_can_52 : decode cX0_can 52 = .ok (.if_icmp .ge 16, 3) := by decide +kernel
theorem dX0_can_55 : decode cX0_can 55 = .ok (.aload_n 0, 1) := by decide +kernel
theorem dX0_can_56 : decode cX0_can 56 = .ok (.getfield 15, 3) := by decide +kernel
theorem dX0_can_59 : decode cX0_can 59 = .ok (.bipush 6, 2) := by decide +kernel
theorem dX0_can_61 : decode cX0_can 61 = .ok (.if_icmp .ge 7, 3) := by decide +kernel
theorem dX0_can_64 : decode cX0_can 64 = .ok (.iconst 1, 1) := by decide +kernel
theorem dX0_can_65 : decode cX0_can 65 = .ok (.goto 4, 3) := by decide +kernel
theorem dX0_can_68 : decode cX0_can 68 = .ok (.iconst 0, 1) := by decide +kernel
theorem dX0_can_69 : decode cX0_can 69 = .ok (.ireturn, 1) := by decide +kernel
theorem dX0_can_70 : decode cX0_can 70 = .ok (.iconst 1, 1) := by decide +kernel
theorem dX0_can_71 : decode cX0_can 71 = .ok (.ireturn, 1) := by decide +kernel
theorem dX0_can_72 : decode cX0_can 72 = .ok (.aload_n 0, 1) := by decide +kernel
theorem dX0_can_73 : decode cX0_can 73 = .ok (.getfield 15, 3) := by decide +kernel
theorem dX0_can_76 : decode cX0_can 76 = .ok (.ifCond .le 7, 3) := by decide +kernel
theorem dX0_can_79 : decode cX0_can 79 = .ok (.iconst 1, 1) := by decide +kernel
theorem dX0_can_80 : decode cX0_can 80 = .ok (.goto 4, 3) := by decide +kernel
theorem dX0_can_83 : decode cX0_can 83 = .ok (.iconst 0, 1) := by decide +kernel
theorem dX0_can_84 : decode cX0_can 84 = .ok (.ireturn, 1) := by decide +kernel
theorem dX0_can_85 : decode cX0_can 85 = .ok (.aload_n 0, 1) := by decide +kernel
theorem dX0_can_86 : decode cX0_can 86 = .ok (.getfield 24, 3) := by decide +kernel
theorem dX0_can_89 : decode cX0_can 89 = .ok (.ifCond .le 14, 3) := by decide +kernel
theorem dX0_can_92 : decode cX0_can 92 = .ok (.aload_n 0, 1) := by decide +kernel
theorem dX0_can_93 : decode cX0_can 93 = .ok (.getfield 15, 3) := by decide +kernel
theorem dX0_can_96 : decode cX0_can 96 = .ok (.ifCond .le 7, 3) := by decide +kernel
theorem dX0_can_99 : decode cX0_can 99 = .ok (.iconst 1, 1) := by decide +kernel
theorem dX0_can_100 : decode cX0_can 100 = .ok (.goto 4, 3) := by decide +kernel
theorem dX0_can_103 : decode cX0_can 103 = .ok (.iconst 0, 1) := by decide +kernel
theorem dX0_can_104 : decode cX0_can 104 = .ok (.ireturn, 1) := by decide +kernel
theorem dX0_can_105 : decode cX0_can 105 = .ok (.iload_n 2, 1) := by decide +kernel
theorem dX0_can_106 : decode cX0_can 106 = .ok (.iconst 4, 1) := by decide +kernel
theorem dX0_can_107 : decode cX0_can 107 = .ok (.if_icmp .ne 7, 3) := by decide +kernel
theorem dX0_can_110 : decode cX0_can 110 = .ok (.iconst 1, 1) := by decide +kernel
theorem dX0_can_111 : decode cX0_can 111 = .ok (.goto 4, 3) := by decide +kernel
theorem dX0_can_114 : decode cX0_can 114 = .ok (.iconst 0, 1) := by decide +kernel
theorem dX0_can_115 : decode cX0_can 115 = .ok (.ireturn, 1) := by decide +kernel
set_option maxRecDepth 20000 in
theorem ggX0_goBy_X0_roll : GoodIn wsX0_goBy wsX0_roll := goodIn_r _ [20, 1, 3, 12, 13, 8, 14, 21, 22, 23, 24, 25, 26, 27, 28, 29, 30, 31, 32, 33, 34, 35, 36, 37, 38, 39, 40, 41, 42, 43, 44, 45, 46, 47] (by decide +kernel) (by decide +kernel)
set_option maxRecDepth 20000 in
theorem gX0_goBy_X0_roll : GoodIn wsX0_goBy (wsV RX0 57 RX0 yX0_roll wsX0_roll) := goodIn_app (goodIn_of _ (by decide +kernel)) ggX0_goBy_X0_roll
theorem dX0_goBy_0 : decode cX0_goBy 0 = .ok (.iload_n 2, 1) := by decide +kernel
theorem dX0_goBy_1 : decode cX0_goBy 1 = .ok (.iconst 4, 1) := by decide +kernel
theorem dX0_goBy_2 : decode cX0_goBy 2 = .ok (.if_icmp .ne 34, 3) := by decide +kernel
theorem dX0_goBy_5 : decode cX0_goBy 5 = .ok (.aload_n 0, 1) := by decide +kernel
theorem dX0_goBy_6 : decode cX0_goBy 6 = .ok (.iconst 0, 1) := by decide +kernel
theorem dX0_goBy_7 : decode cX0_goBy 7 = .ok (.putfield 15, 3) := by decide +kernel
theorem dX0_goBy_10 : decode cX0_goBy 10 = .ok (.aload_n 0, 1) := by decide +kernel
theorem dX0_goBy_11 : decode cX0_goBy 11 = .ok (.iconst 0, 1) := by decide +kernel
theorem dX0_goBy_12 : decode cX0_goBy 12 = .ok (.putfield 21, 3) := by decide +kernel
theorem dX0_goBy_15 : decode cX0_goBy 15 = .ok (.aload_n 0, 1) := by decide +kernel
theorem dX0_goBy_16 : decode cX0_goBy 16 = .ok (.dup, 1) := by decide +kernel
theorem dX0_goBy_17 : decode cX0_goBy 17 = .ok (.getfield 9, 3) := by decide +kernel
theorem dX0_goBy_20 : decode cX0_goBy 20 = .ok (.iconst 1, 1) := by decide +kernel
theorem dX0_goBy_21 : decode cX0_goBy 21 = .ok (.iadd, 1) := by decide +kernel
theorem dX0_goBy_22 : decode cX0_goBy 22 = .ok (.putfield 9, 3) := by decide +kernel
theorem dX0_goBy_25 : decode cX0_goBy 25 = .ok (.aload_n 0, 1) := by decide +kernel
theorem dX0_goBy_26 : decode cX0_goBy 26 = .ok (.dup, 1) := by decide +kernel
theorem dX0_goBy_27 : decode cX0_goBy 27 = .ok (.getfield 27, 3) := by decide +kernel
theorem dX0_goBy_30 : decode cX0_goBy 30 = .ok (.iconst 3, 1) := by decide +kernel
theorem dX0_goBy_31 : decode cX0_goBy 31 = .ok (.iadd, 1) := by decide +kernel
theorem dX0_goBy_32 : decode cX0_goBy 32 = .ok (.putfield 27, 3) := by decide +kernel
theorem dX0_goBy_35 : decode cX0_goBy 35 = .ok (.return_, 1) := by decide +kernel
theorem dX0_goBy_36 : decode cX0_goBy 36 = .ok (.iload_n 2, 1) := by decide +kernel
theorem dX0_goBy_37 : decode cX0_goBy 37 = .ok (.ifCond .ne 44, 3) := by decide +kernel
theorem dX0_goBy_40 : decode cX0_goBy 40 = .ok (.aload_n 0, 1) := by decide +kernel
theorem dX0_goBy_41 : decode cX0_goBy 41 = .ok (.bipush 6, 2) := by decide +kernel
theorem dX0_goBy_43 : decode cX0_goBy 43 = .ok (.aload_n 0, 1) := by decide +kernel
theorem dX0_goBy_44 : decode cX0_goBy 44 = .ok (.getfield 15, 3) := by decide +kernel
theorem dX0_goBy_47 : decode cX0_goBy 47 = .ok (.aload_n 1, 1) := by decide +kernel
theorem dX0_goBy_48 : decode cX0_goBy 48 = .ok (.getfield 45, 3) := by decide +kernel
theorem dX0_goBy_51 : decode cX0_goBy 51 = .ok (.iadd, 1) := by decide +kernel
theorem dX0_goBy_52 : decode cX0_goBy 52 = .ok (.invokestatic 48, 3) := by decide +kernel
theorem dX0_goBy_55 : decode cX0_goBy 55 = .ok (.putfield 15, 3) := by decide +kernel
theorem dX0_goBy_58 : decode cX0_goBy 58 = .ok (.aload_n 0, 1) := by decide +kernel
theorem dX0_goBy_59 : decode cX0_goBy 59 = .ok (.dup, 1) := by decide +kernel
theorem dX0_goBy_60 : decode cX0_goBy 60 = .ok (.getfield 21, 3) := by decide +kernel
theorem dX0_goBy_63 : decode cX0_goBy 63 = .ok (.iconst 1, 1) := by decide +kernel
theorem dX0_goBy_64 : decode cX0_goBy 64 = .ok (.iadd, 1) := by decide +kernel
theorem dX0_goBy_65 : decode cX0_goBy 65 = .ok (.putfield 21, 3) := by decide +kernel
theorem dX0_goBy_68 : decode cX0_goBy 68 = .ok (.aload_n 0, 1) := by decide +kernel
theorem dX0_goBy_69 : decode cX0_goBy 69 = .ok (.dup, 1) := by decide +kernel
theorem dX0_goBy_70 : decode cX0_goBy 70 = .ok (.getfield 30, 3) := by decide +kernel
theorem dX0_goBy_73 : decode cX0_goBy 73 = .ok (.iconst 1, 1) := by decide +kernel
theorem dX0_goBy_74 : decode cX0_goBy 74 = .ok (.iadd, 1) := by decide +kernel
theorem dX0_goBy_75 : decode cX0_goBy 75 = .ok (.putfield 30, 3) := by decide +kernel
theorem dX0_goBy_78 : decode cX0_goBy 78 = .ok (.goto 55, 3) := by decide +kernel
theorem dX0_goBy_81 : decode cX0_goBy 81 = .ok (.iload_n 2, 1) := by decide +kernel
theorem dX0_goBy_82 : decode cX0_goBy 82 = .ok (.iconst 1, 1) := by decide +kernel
theorem dX0_goBy_83 : decode cX0_goBy 83 = .ok (.if_icmp .ne 21, 3) := by decide +kernel
theorem dX0_goBy_86 : decode cX0_goBy 86 = .ok (.aload_n 0, 1) := by decide +kernel
theorem dX0_goBy_87 : decode cX0_goBy 87 = .ok (.iconst 1, 1) := by decide +kernel
theorem dX0_goBy_88 : decode cX0_goBy 88 = .ok (.aload_n 0, 1) := by decide +kernel
theorem dX0_goBy_89 : decode cX0_goBy 89 = .ok (.getfield 18, 3) := by decide +kernel
theorem dX0_goBy_92 : decode cX0_goBy 92 = .ok (.isub, 1) := by decide +kernel
theorem dX0_goBy_93 : decode cX0_goBy 93 = .ok (.putfield 18, 3) := by decide +kernel
theorem dX0_goBy_96 : decode cX0_goBy 96 = .ok (.aload_n 0, 1) := by decide +kernel
theorem dX0_goBy_97 : decode cX0_goBy 97 = .ok (.iconst 0, 1) := by decide +kernel
theorem dX0_goBy_98 : decode cX0_goBy 98 = .ok (.putfield 21, 3) := by decide +kernel
theorem dX0_goBy_101 : decode cX0_goBy 101 = .ok (.goto 32, 3) := by decide +kernel
theorem dX0_goBy_104 : decode cX0_goBy 104 = .ok (.iload_n 2, 1) := by decide +kernel
theorem dX0_goBy_105 : decode cX0_goBy 105 = .ok (.iconst 3, 1) := by decide +kernel
theorem dX0_goBy_106 : decode cX0_goBy 106 = .ok (.if_icmp .ne 27, 3) := by decide +kernel
theorem dX0_goBy_109 : decode cX0_goBy 109 = .ok (.aload_n 0, 1) := by decide +kernel
theorem dX0_goBy_110 : decode cX0_goBy 110 = .ok (.iconst 0, 1) := by decide +kernel
theorem dX0_goBy_111 : decode cX0_goBy 111 = .ok (.aload_n 0, 1) := by decide +kernel
theorem dX0_goBy_112 : decode cX0_goBy 112 = .ok (.getfield 15, 3) := by decide +kernel
theorem dX0_goBy_115 : decode cX0_goBy 115 = .ok (.iconst 2, 1) := by decide +kernel
theorem dX0_goBy_116 : decode cX0_goBy 116 = .ok (.isub, 1) := by decide +kernel
theorem dX0_goBy_117 : decode cX0_goBy 117 = .ok (.invokestatic 54, 3) := by decide +kernel
theorem dX0_goBy_120 : decode cX0_goBy 120 = .ok (.putfield 15, 3) := by decide +kernel
theorem dX0_goBy_123 : decode cX0_goBy 123 = .ok (.aload_n 0, 1) := by decide +kernel
theorem dX0_goBy_124 : decode cX0_goBy 124 = .ok (.dup, 1) := by decide +kernel
theorem dX0_goBy_125 : decode cX0_goBy 125 = .ok (.getfield 24, 3) := by decide +kernel
theorem dX0_goBy_128 : decode cX0_goBy 128 = .ok (.iconst 1, 1) := by decide +kernel
theorem dX0_goBy_129 : decode cX0_goBy 129 = .ok (.isub, 1) := by decide +kernel
theorem dX0_goBy_130 : decode cX0_goBy 130 = .ok (.putfield 24, 3) := by decide +kernel
theorem dX0_goBy_133 : decode cX0_goBy 133 = .ok (.aload_n 0, 1) := by decide +kernel
theorem dX0_goBy_134 : decode cX0_goBy 134 = .ok (.dup, 1) := by decide +kernel
theorem dX0_goBy_135 : decode cX0_goBy 135 = .ok (.getfield 27, 3) := by decide +kernel
theorem dX0_goBy_138 : decode cX0_goBy 138 = .ok (.iconst 1, 1) := by decide +kernel
theorem dX0_goBy_139 : decode cX0_goBy 139 = .ok (.iadd, 1) := by decide +kernel
theorem dX0_goBy_140 : decode cX0_goBy 140 = .ok (.putfield 27, 3) := by decide +kernel
theorem dX0_goBy_143 : decode cX0_goBy 143 = .ok (.aload_n 0, 1) := by decide +kernel
theorem dX0_goBy_144 : decode cX0_goBy 144 = .ok (.aload_n 1, 1) := by decide +kernel
theorem dX0_goBy_145 : decode cX0_goBy 145 = .ok (.invokevirtual 57, 3) := by decide +kernel
theorem dX0_goBy_148 : decode cX0_goBy 148 = .ok (.return_, 1) := by decide +kernel
set_option maxRecDepth 20000 in
theorem ggX0_roll_X3_dragOf : GoodIn wsX0_roll wsX3_dragOf := goodIn_r _ [12, 13, 14, 15, 27, 28, 29, 30, 31, 32, 33] (by decide +kernel) (by decide +kernel)
set_option maxRecDepth 20000 in
theorem gX0_roll_X3_dragOf : GoodIn wsX0_roll (wsV RX0 61 RX3 yX3_dragOf wsX3_dragOf) := goodIn_app (goodIn_of _ (by decide +kernel)) ggX0_roll_X3_dragOf
set_option maxRecDepth 20000 in
theorem ggX0_roll_X3_has : GoodIn wsX0_roll wsX3_has := goodIn_r _ [19, 13, 27, 28, 29, 30, 31, 32, 33] (by decide +kernel) (by decide +kernel)
set_option maxRecDepth 20000 in
theorem gX0_roll_X3_has : GoodIn wsX0_roll (wsV RX0 38 RX3 yX3_has wsX3_has) := goodIn_app (goodIn_of _ (by decide +kernel)) ggX0_roll_X3_has
theorem dX0_roll_0 : decode cX0_roll 0 = .ok (.aload_n 0, 1) := by decide +kernel
theorem dX0_roll_1 : decode cX0_roll 1 = .ok (.iconst 0, 1) := by decide +kernel
theorem dX0_roll_2 : decode cX0_roll 2 = .ok (.aload_n 0, 1) := by decide +kernel
theorem dX0_roll_3 : decode cX0_roll 3 = .ok (.getfield 15, 3) := by decide +kernel
theorem dX0_roll_6 : decode cX0_roll 6 = .ok (.aload_n 1, 1) := by decide +kernel
theorem dX0_roll_7 : decode cX0_roll 7 = .ok (.aload_n 0, 1) := by decide +kernel
theorem dX0_roll_8 : decode cX0_roll 8 = .ok (.getfield 9, 3) := by decide +kernel
theorem dX0_roll_11 : decode cX0_roll 11 = .ok (.invokevirtual 61, 3) := by decide +kernel
theorem dX0_roll_14 : decode cX0_roll 14 = .ok (.isub, 1) := by decide +kernel
theorem dX0_roll_15 : decode cX0_roll 15 = .ok (.invokestatic 54, 3) := by decide +kernel
theorem dX0_roll_18 : decode cX0_roll 18 = .ok (.putfield 15, 3) := by decide +kernel
theorem dX0_roll_21 : decode cX0_roll 21 = .ok (.aload_n 0, 1) := by decide +kernel
theorem dX0_roll_22 : decode cX0_roll 22 = .ok (.getfield 15, 3) := by decide +kernel
theorem dX0_roll_25 : decode cX0_roll 25 = .ok (.iconst 2, 1) := by decide +kernel
theorem dX0_roll_26 : decode cX0_roll 26 = .ok (.idiv, 1) := by decide +kernel
theorem dX0_roll_27 : decode cX0_roll 27 = .ok (.istore_n 2, 1) := by decide +kernel
theorem dX0_roll_28 : decode cX0_roll 28 = .ok (.iconst 0, 1) := by decide +kernel
theorem dX0_roll_29 : decode cX0_roll 29 = .ok (.istore_n 3, 1) := by decide +kernel
theorem dX0_roll_30 : decode cX0_roll 30 = .ok (.iload_n 3, 1) := by decide +kernel
theorem dX0_roll_31 : decode cX0_roll 31 = .ok (.iload_n 2, 1) := by decide +kernel
theorem dX0_roll_32 : decode cX0_roll 32 = .ok (.if_icmp .ge 67, 3) := by decide +kernel
theorem dX0_roll_35 : decode cX0_roll 35 = .ok (.aload_n 1, 1) := by decide +kernel
theorem dX0_roll_36 : decode cX0_roll 36 = .ok (.aload_n 0, 1) := by decide +kernel
theorem dX0_roll_37 : decode cX0_roll 37 = .ok (.getfield 9, 3) := by decide +kernel
theorem dX0_roll_40 : decode cX0_roll 40 = .ok (.invokevirtual 38, 3) := by decide +kernel
theorem dX0_roll_43 : decode cX0_roll 43 = .ok (.ifCond .eq 56, 3) := by decide +kernel
theorem dX0_roll_46 : decode cX0_roll 46 = .ok (.aload_n 0, 1) := by decide +kernel
theorem dX0_roll_47 : decode cX0_roll 47 = .ok (.dup, 1) := by decide +kernel
theorem dX0_roll_48 : decode cX0_roll 48 = .ok (.getfield 9, 3) := by decide +kernel
theorem dX0_roll_51 : decode cX0_roll 51 = .ok (.iconst 1, 1) := by decide +kernel
theorem dX0_roll_52 : decode cX0_roll 52 = .ok (.iadd, 1) := by decide +kernel
theorem dX0_roll_53 : decode cX0_roll 53 = .ok (.putfield 9, 3) := by decide +kernel
theorem dX0_roll_56 : decode cX0_roll 56 = .ok (.aload_n 0, 1) := by decide +kernel
theorem dX0_roll_57 : decode cX0_roll 57 = .ok (.getfield 15, 3) := by decide +kernel
theorem dX0_roll_60 : decode cX0_roll 60 = .ok (.iconst 4, 1) := by decide +kernel
theorem dX0_roll_61 : decode cX0_roll 61 = .ok (.if_icmp .lt 32, 3) := by decide +kernel
theorem dX0_roll_64 : decode cX0_roll 64 = .ok (.aload_n 1, 1) := by decide +kernel
theorem dX0_roll_65 : decode cX0_roll 65 = .ok (.aload_n 0, 1) := by decide +kernel
theorem dX0_roll_66 : decode cX0_roll 66 = .ok (.getfield 9, 3) := by decide +kernel
theorem dX0_roll_69 : decode cX0_roll 69 = .ok (.invokevirtual 38, 3) := by decide +kernel
theorem dX0_roll_72 : decode cX0_roll 72 = .ok (.ifCond .eq 21, 3) := by decide +kernel
theorem dX0_roll_75 : decode cX0_roll 75 = .ok (.aload_n 1, 1) := by decide +kernel
theorem dX0_roll_76 : decode cX0_roll 76 = .ok (.getfield 65, 3) := by decide +kernel
theorem dX0_roll_79 : decode cX0_roll 79 = .ok (.aload_n 0, 1) := by decide +kernel
theorem dX0_roll_80 : decode cX0_roll 80 = .ok (.getfield 9, 3) := by decide +kernel
theorem dX0_roll_83 : decode cX0_roll 83 = .ok (.baload, 1) := by decide +kernel
theorem dX0_roll_84 : decode cX0_roll 84 = .ok (.ifCond .eq 9, 3) := by decide +kernel
theorem dX0_roll_87 : decode cX0_roll 87 = .ok (.aload_n 0, 1) := by decide +kernel
theorem dX0_roll_88 : decode cX0_roll 88 = .ok (.iconst 0, 1) := by decide +kernel
theorem dX0_roll_89 : decode cX0_roll 89 = .ok (.putfield 15, 3) := by decide +kernel
theorem dX0_roll_92 : decode cX0_roll 92 = .ok (.return_, 1) := by decide +kernel
theorem dX0_roll_93 : decode cX0_roll 93 = .ok (.iinc 3 1, 3) := by decide +kernel
theorem dX0_roll_96 : decode cX0_roll 96 = .ok (.goto (-66), 3) := by decide +kernel
theorem dX0_roll_99 : decode cX0_roll 99 = .ok (.return_, 1) := by decide +kernel
theorem dX1_init_0 : decode cX1_init 0 = .ok (.aload_n 0, 1) := by decide +kernel
theorem dX1_init_1 : decode cX1_init 1 = .ok (.invokespecial 3, 3) := by decide +kernel
theorem dX1_init_4 : decode cX1_init 4 = .ok (.aload_n 0, 1) := by decide +kernel
theorem dX1_init_5 : decode cX1_init 5 = .ok (.bipush 60, 2) := by decide +kernel
theorem dX1_init_7 : decode cX1_init 7 = .ok (.newarray .int, 2) := by decide +kernel
theorem dX1_init_9 : decode cX1_init 9 = .ok (.putfield 9, 3) := by decide +kernel
theorem dX1_init_12 : decode cX1_init 12 = .ok (.aload_n 0, 1) := by decide +kernel
theorem dX1_init_13 : decode cX1_init 13 = .ok (.iconst 0, 1) := by decide +kernel
theorem dX1_init_14 : decode cX1_init 14 = .ok (.putfield 15, 3) := by decide +kernel
theorem dX1_init_17 : decode cX1_init 17 = .ok (.aload_n 0, 1) := by decide +kernel
theorem dX1_init_18 : decode cX1_init 18 = .ok (.iconst 0, 1) := by decide +kernel
theorem dX1_init_19 : decode cX1_init 19 = .ok (.putfield 19, 3) := by decide +kernel
theorem dX1_init_22 : decode cX1_init 22 = .ok (.aload_n 0, 1) := by decide +kernel
theorem dX1_init_23 : decode cX1_init 23 = .ok (.iconst 0, 1) := by decide +kernel
theorem dX1_init_24 : decode cX1_init 24 = .ok (.putfield 23, 3) := by decide +kernel
theorem dX1_init_27 : decode cX1_init 27 = .ok (.return_, 1) := by decide +kernel
set_option maxRecDepth 20000 in
theorem ggX1_becomeNew_J7_fill_53178 : GoodIn wsX1_becomeNew wsJ7_fill_53178 := goodIn_r _ [15] (by decide +kernel) (by decide +kernel)
set_option maxRecDepth 20000 in
theorem gX1_becomeNew_J7_fill_53178 : GoodIn wsX1_becomeNew (va_wsS RX1 26 yJ7_fill_53178 wsJ7_fill_53178) := goodIn_app (goodIn_of _ (by decide +kernel)) ggX1_becomeNew_J7_fill_53178
theorem dX1_becomeNew_0 : decode cX1_becomeNew 0 = .ok (.aload_n 0, 1) := by decide +kernel
theorem dX1_becomeNew_1 : decode cX1_becomeNew 1 = .ok (.getfield 9, 3) := by decide +kernel
theorem dX1_becomeNew_4 : decode cX1_becomeNew 4 = .ok (.iconst 0, 1) := by decide +kernel
theorem dX1_becomeNew_5 : decode cX1_becomeNew 5 = .ok (.invokestatic 26, 3) := by decide +kernel
theorem dX1_becomeNew_8 : decode cX1_becomeNew 8 = .ok (.aload_n 0, 1) := by decide +kernel
theorem dX1_becomeNew_9 : decode cX1_becomeNew 9 = .ok (.iconst 1, 1) := by decide +kernel
theorem dX1_becomeNew_10 : decode cX1_becomeNew 10 = .ok (.putfield 15, 3) := by decide +kernel
theorem dX1_becomeNew_13 : decode cX1_becomeNew 13 = .ok (.aload_n 0, 1) := by decide +kernel
theorem dX1_becomeNew_14 : decode cX1_becomeNew 14 = .ok (.iload_n 1, 1) := by decide +kernel
theorem dX1_becomeNew_15 : decode cX1_becomeNew 15 = .ok (.putfield 19, 3) := by decide +kernel
theorem dX1_becomeNew_18 : decode cX1_becomeNew 18 = .ok (.aload_n 0, 1) := by decide +kernel
theorem dX1_becomeNew_19 : decode cX1_becomeNew 19 = .ok (.iconst 0, 1) := by decide +kernel
theorem dX1_becomeNew_20 : decode cX1_becomeNew 20 = .ok (.iload_n 2, 1) := by decide +kernel
theorem dX1_becomeNew_21 : decode cX1_becomeNew 21 = .ok (.bipush 60, 2) := by decide +kernel
theorem dX1_becomeNew_23 : decode cX1_becomeNew 23 = .ok (.invokestatic 32, 3) := by decide +kernel
theorem dX1_becomeNew_26 : decode cX1_becomeNew 26 = .ok (.invokestatic 38, 3) := by decide +kernel
theorem dX1_becomeNew_29 : decode cX1_becomeNew 29 = .ok (.putfield 23, 3) := by decide +kernel
theorem dX1_becomeNew_32 : decode cX1_becomeNew 32 = .ok (.return_, 1) := by decide +kernel
theorem dX1_isUnlike_0 : decode cX1_isUnlike 0 = .ok (.aload_n 0, 1) := by decide +kernel
theorem dX1_isUnlike_1 : decode cX1_isUnlike 1 = .ok (.getfield 15, 3) := by decide +kernel
theorem dX1_isUnlike_4 : decode cX1_isUnlike 4 = .ok (.ifCond .eq 15, 3) := by decide +kernel
theorem dX1_isUnlike_7 : decode cX1_isUnlike 7 = .ok (.aload_n 0, 1) := by decide +kernel
theorem dX1_isUnlike_8 : decode cX1_isUnlike 8 = .ok (.getfield 19, 3) := by decide +kernel
theorem dX1_isUnlike_11 : decode cX1_isUnlike 11 = .ok (.iload_n 1, 1) := by decide +kernel
theorem dX1_isUnlike_12 : decode cX1_isUnlike 12 = .ok (.if_icmp .eq 7, 3) := by decide +kernel
theorem dX1_isUnlike_15 : decode cX1_isUnlike 15 = .ok (.iconst 1, 1) := by decide +kernel
theorem dX1_isUnlike_16 : decode cX1_isUnlike 16 = .ok (.goto 4, 3) := by decide +kernel
theorem dX1_isUnlike_19 : decode cX1_isUnlike 19 = .ok (.iconst 0, 1) := by decide +kernel
theorem dX1_isUnlike_20 : decode cX1_isUnlike 20 = .ok (.ireturn, 1) := by decide +kernel
theorem dX1_holds_0 : decode cX1_holds 0 = .ok (.iload_n 1, 1) := by decide +kernel
theorem dX1_holds_1 : decode cX1_holds 1 = .ok (.ifCond .lt 29, 3) := by decide +kernel
theorem dX1_holds_4 : decode cX1_holds 4 = .ok (.iload_n 2, 1) := by decide +kernel
theorem dX1_holds_5 : decode cX1_holds 5 = .ok (.ifCond .lt 25, 3) := by decide +kernel
theorem dX1_holds_8 : decode cX1_holds 8 = .ok (.iload_n 2, 1) := by decide +kernel
theorem dX1_holds_9 : decode cX1_holds 9 = .ok (.aload_n 0, 1) := by decide +kernel
theorem dX1_holds_10 : decode cX1_holds 10 = .ok (.getfield 23, 3) := by decide +kernel
theorem dX1_holds_13 : decode cX1_holds 13 = .ok (.if_icmp .gt 17, 3) := by decide +kernel
theorem dX1_holds_16 : decode cX1_holds 16 = .ok (.iload_n 1, 1) := by decide +kernel
theorem dX1_holds_17 : decode cX1_holds 17 = .ok (.aload_n 0, 1) := by decide +kernel
theorem dX1_holds_18 : decode cX1_holds 18 = .ok (.getfield 23, 3) := by decide +kernel
theorem dX1_holds_21 : decode cX1_holds 21 = .ok (.iload_n 2, 1) := by decide +kernel
theorem dX1_holds_22 : decode cX1_holds 22 = .ok (.isub, 1) := by decide +kernel
theorem dX1_holds_23 : decode cX1_holds 23 = .ok (.if_icmp .gt 7, 3) := by decide +kernel
theorem dX1_holds_26 : decode cX1_holds 26 = .ok (.iconst 1, 1) := by decide +kernel
theorem dX1_holds_27 : decode cX1_holds 27 = .ok (.goto 4, 3) := by decide +kernel
theorem dX1_holds_30 : decode cX1_holds 30 = .ok (.iconst 0, 1) := by decide +kernel
theorem dX1_holds_31 : decode cX1_holds 31 = .ok (.ireturn, 1) := by decide +kernel
theorem dX1_at_0 : decode cX1_at 0 = .ok (.iload_n 1, 1) := by decide +kernel
theorem dX1_at_1 : decode cX1_at 1 = .ok (.ifCond .lt 20, 3) := by decide +kernel
theorem dX1_at_4 : decode cX1_at 4 = .ok (.iload_n 1, 1) := by decide +kernel
theorem dX1_at_5 : decode cX1_at 5 = .ok (.aload_n 0, 1) := by decide +kernel
theorem dX1_at_6 : decode cX1_at 6 = .ok (.getfield 23, 3) := by decide +kernel
theorem dX1_at_9 : decode cX1_at 9 = .ok (.if_icmp .ge 12, 3) := by decide +kernel
theorem dX1_at_12 : decode cX1_at 12 = .ok (.aload_n 0, 1) := by decide +kernel
theorem dX1_at_13 : decode cX1_at 13 = .ok (.getfield 9, 3) := by decide +kernel
theorem dX1_at_16 : decode cX1_at 16 = .ok (.iload_n 1, 1) := by decide +kernel
theorem dX1_at_17 : decode cX1_at 17 = .ok (.iaload, 1) := by decide +kernel
theorem dX1_at_18 : decode cX1_at 18 = .ok (.goto 4, 3) := by decide +kernel
theorem dX1_at_21 : decode cX1_at 21 = .ok (.iconst 0, 1) := by decide +kernel
theorem dX1_at_22 : decode cX1_at 22 = .ok (.ireturn, 1) := by decide +kernel
set_option maxRecDepth 20000 in
theorem ggX1_keep_X1_cut : GoodIn wsX1_keep wsX1_cut := goodIn_r _ [7, 8, 9, 10, 11, 12] (by decide +kernel) (by decide +kernel)
set_option maxRecDepth 20000 in
theorem gX1_keep_X1_cut : GoodIn wsX1_keep (wsV RX1 41 RX1 yX1_cut wsX1_cut) := goodIn_app (goodIn_of _ (by decide +kernel)) ggX1_keep_X1_cut
theorem dX1_keep_0 : decode cX1_keep 0 = .ok (.iload_n 1, 1) := by decide +kernel
theorem dX1_keep_1 : decode cX1_keep 1 = .ok (.ifCond .lt 22, 3) := by decide +kernel
theorem dX1_keep_4 : decode cX1_keep 4 = .ok (.iload_n 1, 1) := by decide +kernel
theorem dX1_keep_5 : decode cX1_keep 5 = .ok (.aload_n 0, 1) := by decide +kernel
theorem dX1_keep_6 : decode cX1_keep 6 = .ok (.getfield 23, 3) := by decide +kernel
theorem dX1_keep_9 : decode cX1_keep 9 = .ok (.if_icmp .ge 14, 3) := by decide +kernel
theorem dX1_keep_12 : decode cX1_keep 12 = .ok (.aload_n 0, 1) := by decide +kernel
theorem dX1_keep_13 : decode cX1_keep 13 = .ok (.getfield 9, 3) := by decide +kernel
theorem dX1_keep_16 : decode cX1_keep 16 = .ok (.iload_n 1, 1) := by decide +kernel
theorem dX1_keep_17 : decode cX1_keep 17 = .ok (.aload_n 0, 1) := by decide +kernel
theorem dX1_keep_18 : decode cX1_keep 18 = .ok (.iload_n 2, 1) := by decide +kernel
theorem dX1_keep_19 : decode cX1_keep 19 = .ok (.invokevirtual 41, 3) := by decide +kernel
theorem dX1_keep_22 : decode cX1_keep 22 = .ok (.iastore, 1) := by decide +kernel
theorem dX1_keep_23 : decode cX1_keep 23 = .ok (.return_, 1) := by decide +kernel
theorem dX1_cut_0 : decode cX1_cut 0 = .ok (.aload_n 0, 1) := by decide +kernel
theorem dX1_cut_1 : decode cX1_cut 1 = .ok (.getfield 19, 3) := by decide +kernel
theorem dX1_cut_4 : decode cX1_cut 4 = .ok (.lookupswitch 34 #[(0, 28), (1, 31)], 28) := by decide +kernel
theorem dX1_cut_32 : decode cX1_cut 32 = .ok (.iload_n 1, 1) := by decide +kernel
theorem dX1_cut_33 : decode cX1_cut 33 = .ok (.i2b, 1) := by decide +kernel
theorem dX1_cut_34 : decode cX1_cut 34 = .ok (.ireturn, 1) := by decide +kernel
theorem dX1_cut_35 : decode cX1_cut 35 = .ok (.iload_n 1, 1) := by decide +kernel
theorem dX1_cut_36 : decode cX1_cut 36 = .ok (.i2s, 1) := by decide +kernel
theorem dX1_cut_37 : decode cX1_cut 37 = .ok (.ireturn, 1) := by decide +kernel
theorem dX1_cut_38 : decode cX1_cut 38 = .ok (.iload_n 1, 1) := by decide +kernel
theorem dX1_cut_39 : decode cX1_cut 39 = .ok (.ireturn, 1) := by decide +kernel
set_option maxRecDepth 20000 in
theorem ggX2_init_X0_init : GoodIn wsX2_init wsX0_init := goodIn_r _ [17, 18, 2, 3, 19, 20, 21, 22, 23, 24, 25, 30, 31, 32, 33, 34, 35, 36] (by decide +kernel) (by decide +kernel)
set_option maxRecDepth 20000 in
theorem gX2_init_X0_init_n13 : GoodIn wsX2_init (wsX0_init) := ggX2_init_X0_init
set_option maxRecDepth 20000 in
theorem ggX2_init_J7_fill_53178 : GoodIn wsX2_init wsJ7_fill_53178 := goodIn_r _ [29] (by decide +kernel) (by decide +kernel)
set_option maxRecDepth 20000 in
theorem gX2_init_J7_fill_53178 : GoodIn wsX2_init (va_wsS RX2 42 yJ7_fill_53178 wsJ7_fill_53178) := goodIn_app (goodIn_of _ (by decide +kernel)) ggX2_init_J7_fill_53178
theorem dX2_init_0 : decode cX2_init 0 = .ok (.aload_n 0, 1) := by decide +kernel
theorem dX2_init_1 : decode cX2_init 1 = .ok (.invokespecial 5, 3) := by decide +kernel
theorem dX2_init_4 : decode cX2_init 4 = .ok (.aload_n 0, 1) := by decide +kernel
theorem dX2_init_5 : decode cX2_init 5 = .ok (.new 11, 3) := by decide +kernel
theorem dX2_init_8 : decode cX2_init 8 = .ok (.dup, 1) := by decide +kernel
theorem dX2_init_9 : decode cX2_init 9 = .ok (.invokespecial 13, 3) := by decide +kernel
theorem dX2_init_12 : decode cX2_init 12 = .ok (.putfield 14, 3) := by decide +kernel
theorem dX2_init_15 : decode cX2_init 15 = .ok (.aload_n 0, 1) := by decide +kernel
theorem dX2_init_16 : decode cX2_init 16 = .ok (.sipush 840, 3) := by decide +kernel
theorem dX2_init_19 : decode cX2_init 19 = .ok (.newarray .int, 2) := by decide +kernel
theorem dX2_init_21 : decode cX2_init 21 = .ok (.putfield 18, 3) := by decide +kernel
theorem dX2_init_24 : decode cX2_init 24 = .ok (.aload_n 0, 1) := by decide +kernel
theorem dX2_init_25 : decode cX2_init 25 = .ok (.sipush 3360, 3) := by decide +kernel
theorem dX2_init_28 : decode cX2_init 28 = .ok (.newarray .int, 2) := by decide +kernel
theorem dX2_init_30 : decode cX2_init 30 = .ok (.putfield 22, 3) := by decide +kernel
theorem dX2_init_33 : decode cX2_init 33 = .ok (.aload_n 0, 1) := by decide +kernel
theorem dX2_init_34 : decode cX2_init 34 = .ok (.sipush 3360, 3) := by decide +kernel
theorem dX2_init_37 : decode cX2_init 37 = .ok (.newarray .int, 2) := by decide +kernel
theorem dX2_init_39 : decode cX2_init 39 = .ok (.putfield 25, 3) := by decide +kernel
theorem dX2_init_42 : decode cX2_init 42 = .ok (.aload_n 0, 1) := by decide +kernel
theorem dX2_init_43 : decode cX2_init 43 = .ok (.iconst 4, 1) := by decide +kernel
theorem dX2_init_44 : decode cX2_init 44 = .ok (.newarray .int, 2) := by decide +kernel
theorem dX2_init_46 : decode cX2_init 46 = .ok (.putfield 28, 3) := by decide +kernel
theorem dX2_init_49 : decode cX2_init 49 = .ok (.aload_n 0, 1) := by decide +kernel
theorem dX2_init_50 : decode cX2_init 50 = .ok (.iconst 0, 1) := by decide +kernel
theorem dX2_init_51 : decode cX2_init 51 = .ok (.putfield 31, 3) := by decide +kernel
theorem dX2_init_54 : decode cX2_init 54 = .ok (.aload_n 0, 1) := by decide +kernel
theorem dX2_init_55 : decode cX2_init 55 = .ok (.iconst 0, 1) := by decide +kernel
theorem dX2_init_56 : decode cX2_init 56 = .ok (.putfield 35, 3) := by decide +kernel
theorem dX2_init_59 : decode cX2_init 59 = .ok (.aload_n 0, 1) := by decide +kernel
theorem dX2_init_60 : decode cX2_init 60 = .ok (.bipush (-9), 2) := by decide +kernel
theorem dX2_init_62 : decode cX2_init 62 = .ok (.putfield 39, 3) := by decide +kernel
theorem dX2_init_65 : decode cX2_init 65 = .ok (.aload_n 0, 1) := by decide +kernel
theorem dX2_init_66 : decode cX2_init 66 = .ok (.getfield 25, 3) := by decide +kernel
theorem dX2_init_69 : decode cX2_init 69 = .ok (.sipush 1000, 3) := by decide +kernel
theorem dX2_init_72 : decode cX2_init 72 = .ok (.invokestatic 42, 3) := by decide +kernel
theorem dX2_init_75 : decode cX2_init 75 = .ok (.return_, 1) := by decide +kernel
set_option maxRecDepth 20000 in
theorem ggX2_least_J7_fill_53178 : GoodIn wsX2_least wsJ7_fill_53178 := goodIn_r _ [16] (by decide +kernel) (by decide +kernel)
set_option maxRecDepth 20000 in
theorem gX2_least_J7_fill_53178 : GoodIn wsX2_least (va_wsS RX2 42 yJ7_fill_53178 wsJ7_fill_53178) := goodIn_app (goodIn_of _ (by decide +kernel)) ggX2_least_J7_fill_53178
set_option maxRecDepth 20000 in
theorem ggX2_least_X0_begin : GoodIn wsX2_least wsX0_begin := goodIn_r _ [21, 22, 23, 24, 25, 26, 27, 28, 29, 94, 95, 96, 97, 98, 99, 100, 101, 102, 103, 104, 105, 106, 107] (by decide +kernel) (by decide +kernel)
set_option maxRecDepth 20000 in
theorem gX2_least_X0_begin : GoodIn wsX2_least (wsV RX2 54 RX0 yX0_begin wsX0_begin) := goodIn_app (goodIn_of _ (by decide +kernel)) ggX2_least_X0_begin
set_option maxRecDepth 20000 in
theorem ggX2_least_X2_offerRider : GoodIn wsX2_least wsX2_offerRider := goodIn_r _ [34, 1, 9, 35, 36, 37, 38, 39, 40, 6, 8, 12, 10, 11, 2, 3, 4, 5, 41, 42, 43, 44, 45, 46, 47, 48, 49, 33, 50, 7, 86, 87, 88, 89, 90, 91, 92, 93, 94, 95, 96, 97, 98, 99, 100, 101, 102, 103, 104, 105, 106, 107] (by decide +kernel) (by decide +kernel)
set_option maxRecDepth 20000 in
theorem gX2_least_X2_offerRider : GoodIn wsX2_least (wsV RX2 58 RX2 yX2_offerRider wsX2_offerRider) := goodIn_app (goodIn_of _ (by decide +kernel)) ggX2_least_X2_offerRider
set_option maxRecDepth 20000 in
theorem ggX2_least_X2_goOnFrom : GoodIn wsX2_least wsX2_goOnFrom := goodIn_r _ [54, 9, 55, 56, 57, 33, 58, 39, 38, 37, 36, 59, 40, 35, 60, 61, 62, 20, 63, 22, 25, 64, 23, 27, 65, 42, 43, 44, 45, 46, 66, 67, 68, 69, 28, 70, 71, 3, 4, 5, 29, 24, 72, 73, 74, 75, 76, 77, 78, 79, 80, 81, 82, 83, 84, 85, 30, 31, 32, 34, 1, 6, 8, 12, 10, 11, 2, 41, 47, 48, 49, 50, 7, 86, 87, 88, 89, 90, 91, 92, 93, 94, 95, 96, 97, 98, 99, 100, 101, 102, 103, 104, 105, 106, 107] (by decide +kernel) (by decide +kernel)
set_option maxRecDepth 20000 in
theorem gX2_least_X2_goOnFrom : GoodIn wsX2_least (wsV RX2 61 RX2 yX2_goOnFrom wsX2_goOnFrom) := goodIn_app (goodIn_of _ (by decide +kernel)) ggX2_least_X2_goOnFrom
theorem dX2_least_0 : decode cX2_least 0 = .ok (.aload_n 0, 1) := by decide +kernel
theorem dX2_least_1 : decode cX2_least 1 = .ok (.iload_n 3, 1) := by decide +kernel
theorem dX2_least_2 : decode cX2_least 2 = .ok (.putfield 31, 3) := by decide +kernel
theorem dX2_least_5 : decode cX2_least 5 = .ok (.aload_n 0, 1) := by decide +kernel
theorem dX2_least_6 : decode cX2_least 6 = .ok (.iload_n 2, 1) := by decide +kernel
theorem dX2_least_7 : decode cX2_least 7 = .ok (.bipush 24, 2) := by decide +kernel
theorem dX2_least_9 : decode cX2_least 9 = .ok (.invokestatic 48, 3) := by decide +kernel
theorem dX2_least_12 : decode cX2_least 12 = .ok (.putfield 35, 3) := by decide +kernel
theorem dX2_least_15 : decode cX2_least 15 = .ok (.aload_n 0, 1) := by decide +kernel
theorem dX2_least_16 : decode cX2_least 16 = .ok (.bipush (-9), 2) := by decide +kernel
theorem dX2_least_18 : decode cX2_least 18 = .ok (.putfield 39, 3) := by decide +kernel
theorem dX2_least_21 : decode cX2_least 21 = .ok (.aload_n 0, 1) := by decide +kernel
theorem dX2_least_22 : decode cX2_least 22 = .ok (.getfield 18, 3) := by decide +kernel
theorem dX2_least_25 : decode cX2_least 25 = .ok (.sipush 1000, 3) := by decide +kernel
theorem dX2_least_28 : decode cX2_least 28 = .ok (.invokestatic 42, 3) := by decide +kernel
theorem dX2_least_31 : decode cX2_least 31 = .ok (.aload_n 0, 1) := by decide +kernel
theorem dX2_least_32 : decode cX2_least 32 = .ok (.getfield 14, 3) := by decide +kernel
theorem dX2_least_35 : decode cX2_least 35 = .ok (.aload_n 1, 1) := by decide +kernel
theorem dX2_least_36 : decode cX2_least 36 = .ok (.invokevirtual 54, 3) := by decide +kernel
theorem dX2_least_39 : decode cX2_least 39 = .ok (.aload_n 0, 1) := by decide +kernel
theorem dX2_least_40 : decode cX2_least 40 = .ok (.aload_n 1, 1) := by decide +kernel
theorem dX2_least_41 : decode cX2_least 41 = .ok (.invokevirtual 58, 3) := by decide +kernel
theorem dX2_least_44 : decode cX2_least 44 = .ok (.iconst 0, 1) := by decide +kernel
theorem dX2_least_45 : decode cX2_least 45 = .ok (.istore 4, 2) := by decide +kernel
theorem dX2_least_47 : decode cX2_least 47 = .ok (.iload 4, 2) := by decide +kernel
theorem dX2_least_49 : decode cX2_least 49 = .ok (.bipush 24, 2) := by decide +kernel
theorem dX2_least_51 : decode cX2_least 51 = .ok (.if_icmp .ge 138, 3) := by decide +kernel
theorem dX2_least_54 : decode cX2_least 54 = .ok (.iload 4, 2) := by decide +kernel
theorem dX2_least_56 : decode cX2_least 56 = .ok (.iconst 4, 1) := by decide +kernel
theorem dX2_least_57 : decode cX2_least 57 = .ok (.irem, 1) := by decide +kernel
theorem dX2_least_58 : decode cX2_least 58 = .ok (.istore 5, 2) := by decide +kernel
theorem dX2_least_60 : decode cX2_least 60 = .ok (.aload_n 0, 1) := by decide +kernel
theorem dX2_least_61 : decode cX2_least 61 = .ok (.getfield 28, 3) := by decide +kernel
theorem dX2_least_64 : decode cX2_least 64 = .ok (.iload 5, 2) := by decide +kernel
theorem dX2_least_66 : decode cX2_least 66 = .ok (.iaload, 1) := by decide +kernel
theorem dX2_least_67 : decode cX2_least 67 = .ok (.istore 6, 2) := by decide +kernel
theorem dX2_least_69 : decode cX2_least 69 = .ok (.iconst 0, 1) := by decide +kernel
theorem dX2_least_70 : decode cX2_least 70 = .ok (.istore 7, 2) := by decide +kernel
theorem dX2_least_72 : decode cX2_least 72 = .ok (.iload 7, 2) := by decide +kernel
theorem dX2_least_74 : decode cX2_least 74 = .ok (.iload 6, 2) := by decide +kernel
theorem dX2_least_76 : decode cX2_least 76 = .ok (.if_icmp .ge 99, 3) := by decide +kernel
theorem dX2_least_79 : decode cX2_least 79 = .ok (.aload_n 0, 1) := by decide +kernel
theorem dX2_least_80 : decode cX2_least 80 = .ok (.getfield 22, 3) := by decide +kernel
theorem dX2_least_83 : decode cX2_least 83 = .ok (.iload 5, 2) := by decide +kernel
theorem dX2_least_85 : decode cX2_least 85 = .ok (.sipush 840, 3) := by decide +kernel
theorem dX2_least_88 : decode cX2_least 88 = .ok (.imul, 1) := by decide +kernel
theorem dX2_least_89 : decode cX2_least 89 = .ok (.iload 7, 2) := by decide +kernel
theorem dX2_least_91 : decode cX2_least 91 = .ok (.iadd, 1) := by decide +kernel
theorem dX2_least_92 : decode cX2_least 92 = .ok (.iaload, 1) := by decide +kernel
theorem dX2_least_93 : decode cX2_least 93 = .ok (.istore 8, 2) := by decide +kernel
theorem dX2_least_95 : decode cX2_least 95 = .ok (.aload_n 0, 1) := by decide +kernel
theorem dX2_least_96 : decode cX2_least 96 = .ok (.getfield 25, 3) := by decide +kernel
theorem dX2_least_99 : decode cX2_least 99 = .ok (.iload 5, 2) := by decide +kernel
theorem dX2_least_101 : decode cX2_least 101 = .ok (.sipush 840, 3) := by decide +kernel
theorem dX2_least_104 : decode cX2_least 104 = .ok (.imul, 1) := by decide +kernel
theorem dX2_least_105 : decode cX2_least 105 = .ok (.iload 8, 2) := by decide +kernel
theorem dX2_least_107 : decode cX2_least 107 = .ok (.iadd, 1) := by decide +kernel
theorem dX2_least_108 : decode cX2_least 108 = .ok (.iaload, 1) := by decide +kernel
theorem dX2_least_109 : decode cX2_least 109 = .ok (.istore 9, 2) := by decide +kernel
theorem dX2_least_111 : decode cX2_least 111 = .ok (.aload_n 0, 1) := by decide +kernel
theorem dX2_least_112 : decode cX2_least 112 = .ok (.getfield 25, 3) := by decide +kernel
theorem dX2_least_115 : decode cX2_least 115 = .ok (.iload 5, 2) := by decide +kernel
theorem dX2_least_117 : decode cX2_least 117 = .ok (.sipush 840, 3) := by decide +kernel
theorem dX2_least_120 : decode cX2_least 120 = .ok (.imul, 1) := by decide +kernel
theorem dX2_least_121 : decode cX2_least 121 = .ok (.iload 8, 2) := by decide +kernel
theorem dX2_least_123 : decode cX2_least 123 = .ok (.iadd, 1) := by decide +kernel
theorem dX2_least_124 : decode cX2_least 124 = .ok (.sipush 1000, 3) := by decide +kernel
theorem dX2_least_127 : decode cX2_least 127 = .ok (.iastore, 1) := by decide +kernel
theorem dX2_least_128 : decode cX2_least 128 = .ok (.iload 4, 2) := by decide +kernel
theorem dX2_least_130 : decode cX2_least 130 = .ok (.aload_n 0, 1) := by decide +kernel
theorem dX2_least_131 : decode cX2_least 131 = .ok (.getfield 35, 3) := by decide +kernel
theorem dX2_least_134 : decode cX2_least 134 = .ok (.if_icmp .ge 35, 3) := by decide +kernel
theorem dX2_least_137 : decode cX2_least 137 = .ok (.iload 9, 2) := by decide +kernel
theorem dX2_least_139 : decode cX2_least 139 = .ok (.aload_n 0, 1) := by decide +kernel
theorem dX2_least_140 : decode cX2_least 140 = .ok (.getfield 18, 3) := by decide +kernel
theorem dX2_least_143 : decode cX2_least 143 = .ok (.iload 8, 2) := by decide +kernel
theorem dX2_least_145 : decode cX2_least 145 = .ok (.iaload, 1) := by decide +kernel
theorem dX2_least_146 : decode cX2_least 146 = .ok (.if_icmp .ge 23, 3) := by decide +kernel
theorem dX2_least_149 : decode cX2_least 149 = .ok (.aload_n 0, 1) := by decide +kernel
theorem dX2_least_150 : decode cX2_least 150 = .ok (.getfield 18, 3) := by decide +kernel
theorem dX2_least_153 : decode cX2_least 153 = .ok (.iload 8, 2) := by decide +kernel
theorem dX2_least_155 : decode cX2_least 155 = .ok (.iload 9, 2) := by decide +kernel
theorem dX2_least_157 : decode cX2_least 157 = .ok (.iastore, 1) := by decide +kernel
theorem dX2_least_158 : decode cX2_least 158 = .ok (.aload_n 0, 1) := by decide +kernel
theorem dX2_least_159 : decode cX2_least 159 = .ok (.aload_n 1, 1) := by decide +kernel
theorem dX2_least_160 : decode cX2_least 160 = .ok (.iload 8, 2) := by decide +kernel
theorem dX2_least_162 : decode cX2_least 162 = .ok (.iload 4, 2) := by decide +kernel
theorem dX2_least_164 : decode cX2_least 164 = .ok (.iload 9, 2) := by decide +kernel
theorem dX2_least_166 : decode cX2_least 166 = .ok (.invokevirtual 61, 3) := by decide +kernel
theorem dX2_least_169 : decode cX2_least 169 = .ok (.iinc 7 1, 3) := by decide +kernel
theorem dX2_least_172 : decode cX2_least 172 = .ok (.goto (-100), 3) := by decide +kernel
theorem dX2_least_175 : decode cX2_least 175 = .ok (.aload_n 0, 1) := by decide +kernel
theorem dX2_least_176 : decode cX2_least 176 = .ok (.getfield 28, 3) := by decide +kernel
theorem dX2_least_179 : decode cX2_least 179 = .ok (.iload 5, 2) := by decide +kernel
theorem dX2_least_181 : decode cX2_least 181 = .ok (.iconst 0, 1) := by decide +kernel
theorem dX2_least_182 : decode cX2_least 182 = .ok (.iastore, 1) := by decide +kernel
theorem dX2_least_183 : decode cX2_least 183 = .ok (.iinc 4 1, 3) := by decide +kernel
theorem dX2_least_186 : decode cX2_least 186 = .ok (.goto (-139), 3) := by decide +kernel
theorem dX2_least_189 : decode cX2_least 189 = .ok (.aload_n 0, 1) := by decide +kernel
theorem dX2_least_190 : decode cX2_least 190 = .ok (.getfield 39, 3) := by decide +kernel
theorem dX2_least_193 : decode cX2_least 193 = .ok (.ireturn, 1) := by decide +kernel
set_option maxRecDepth 20000 in
theorem ggX2_goOnFrom_X2_setRider : GoodIn wsX2_goOnFrom wsX2_setRider := goodIn_r _ [6, 1, 7, 8, 9, 10, 11, 12, 13, 73, 74, 75, 76, 77, 78, 79, 80, 81, 82, 83, 84, 85, 86, 87] (by decide +kernel) (by decide +kernel)
set_option maxRecDepth 20000 in
theorem gX2_goOnFrom_X2_setRider : GoodIn wsX2_goOnFrom (wsV RX2 65 RX2 yX2_setRider wsX2_setRider) := goodIn_app (goodIn_of _ (by decide +kernel)) ggX2_goOnFrom_X2_setRider
set_option maxRecDepth 20000 in
theorem ggX2_goOnFrom_X0_can : GoodIn wsX2_goOnFrom wsX0_can := goodIn_r _ [18, 19, 20, 21, 22, 23, 24, 25, 26, 27, 28, 29, 81, 82, 83, 84, 85, 86, 87, 88, 89, 90, 91, 92, 93, 94] (by decide +kernel) (by decide +kernel)
set_option maxRecDepth 20000 in
theorem gX2_goOnFrom_X0_can : GoodIn wsX2_goOnFrom (wsV RX2 69 RX0 yX0_can wsX0_can) := goodIn_app (goodIn_of _ (by decide +kernel)) ggX2_goOnFrom_X0_can
set_option maxRecDepth 20000 in
theorem ggX2_goOnFrom_X0_goBy : GoodIn wsX2_goOnFrom wsX0_goBy := goodIn_r _ [33, 22, 20, 19, 34, 35, 36, 37, 38, 39, 40, 41, 42, 43, 44, 23, 45, 46, 47, 17, 48, 49, 50, 51, 52, 27, 53, 29, 54, 55, 24, 25, 26, 28, 81, 82, 83, 84, 85, 86, 87, 88, 89, 90, 91, 92, 93, 94] (by decide +kernel) (by decide +kernel)
set_option maxRecDepth 20000 in
theorem gX2_goOnFrom_X0_goBy : GoodIn wsX2_goOnFrom (wsV RX2 73 RX0 yX0_goBy wsX0_goBy) := goodIn_app (goodIn_of _ (by decide +kernel)) ggX2_goOnFrom_X0_goBy
set_option maxRecDepth 20000 in
theorem ggX2_goOnFrom_X2_offerRider : GoodIn wsX2_goOnFrom wsX2_offerRider := goodIn_r _ [59, 60, 1, 13, 10, 9, 8, 7, 12, 61, 62, 63, 64, 65, 66, 37, 38, 39, 67, 25, 26, 27, 28, 29, 68, 69, 70, 5, 71, 72, 73, 74, 75, 76, 77, 78, 79, 80, 81, 82, 83, 84, 85, 86, 87, 88, 89, 90, 91, 92, 93, 94] (by decide +kernel) (by decide +kernel)
set_option maxRecDepth 20000 in
theorem gX2_goOnFrom_X2_offerRider : GoodIn wsX2_goOnFrom (wsV RX2 58 RX2 yX2_offerRider wsX2_offerRider) := goodIn_app (goodIn_of _ (by decide +kernel)) ggX2_goOnFrom_X2_offerRider
theorem dX2_goOnFrom_0 : decode cX2_goOnFrom 0 = .ok (.iconst 0, 1) := by decide +kernel
theorem dX2_goOnFrom_1 : decode cX2_goOnFrom 1 = .ok (.istore 5, 2) := by decide +kernel
theorem dX2_goOnFrom_3 : decode cX2_goOnFrom 3 = .ok (.iload 5, 2) := by decide +kernel
theorem dX2_goOnFrom_5 : decode cX2_goOnFrom 5 = .ok (.iconst 5, 1) := by decide +kernel
theorem dX2_goOnFrom_6 : decode cX2_goOnFrom 6 = .ok (.if_icmp .ge 45, 3) := by decide +kernel
theorem dX2_goOnFrom_9 : decode cX2_goOnFrom 9 = .ok (.aload_n 0, 1) := by decide +kernel
theorem dX2_goOnFrom_10 : decode cX2_goOnFrom 10 = .ok (.iload_n 2, 1) := by decide +kernel
theorem dX2_goOnFrom_11 : decode cX2_goOnFrom 11 = .ok (.iload_n 3, 1) := by decide +kernel
theorem dX2_goOnFrom_12 : decode cX2_goOnFrom 12 = .ok (.iload 4, 2) := by decide +kernel
theorem dX2_goOnFrom_14 : decode cX2_goOnFrom 14 = .ok (.invokevirtual 65, 3) := by decide +kernel
theorem dX2_goOnFrom_17 : decode cX2_goOnFrom 17 = .ok (.aload_n 0, 1) := by decide +kernel
theorem dX2_goOnFrom_18 : decode cX2_goOnFrom 18 = .ok (.getfield 14, 3) := by decide +kernel
theorem dX2_goOnFrom_21 : decode cX2_goOnFrom 21 = .ok (.aload_n 1, 1) := by decide +kernel
theorem dX2_goOnFrom_22 : decode cX2_goOnFrom 22 = .ok (.iload 5, 2) := by decide +kernel
theorem dX2_goOnFrom_24 : decode cX2_goOnFrom 24 = .ok (.invokevirtual 69, 3) := by decide +kernel
theorem dX2_goOnFrom_27 : decode cX2_goOnFrom 27 = .ok (.ifCond .eq 18, 3) := by decide +kernel
theorem dX2_goOnFrom_30 : decode cX2_goOnFrom 30 = .ok (.aload_n 0, 1) := by decide +kernel
theorem dX2_goOnFrom_31 : decode cX2_goOnFrom 31 = .ok (.getfield 14, 3) := by decide +kernel
theorem dX2_goOnFrom_34 : decode cX2_goOnFrom 34 = .ok (.aload_n 1, 1) := by decide +kernel
theorem dX2_goOnFrom_35 : decode cX2_goOnFrom 35 = .ok (.iload 5, 2) := by decide +kernel
theorem dX2_goOnFrom_37 : decode cX2_goOnFrom 37 = .ok (.invokevirtual 73, 3) := by decide +kernel
theorem dX2_goOnFrom_40 : decode cX2_goOnFrom 40 = .ok (.aload_n 0, 1) := by decide +kernel
theorem dX2_goOnFrom_41 : decode cX2_goOnFrom 41 = .ok (.aload_n 1, 1) := by decide +kernel
theorem dX2_goOnFrom_42 : decode cX2_goOnFrom 42 = .ok (.invokevirtual 58, 3) := by decide +kernel
theorem dX2_goOnFrom_45 : decode cX2_goOnFrom 45 = .ok (.iinc 5 1, 3) := by decide +kernel
theorem dX2_goOnFrom_48 : decode cX2_goOnFrom 48 = .ok (.goto (-45), 3) := by decide +kernel
theorem dX2_goOnFrom_51 : decode cX2_goOnFrom 51 = .ok (.return_, 1) := by decide +kernel
theorem dX2_setRider_0 : decode cX2_setRider 0 = .ok (.aload_n 0, 1) := by decide +kernel
theorem dX2_setRider_1 : decode cX2_setRider 1 = .ok (.getfield 14, 3) := by decide +kernel
theorem dX2_setRider_4 : decode cX2_setRider 4 = .ok (.iload_n 1, 1) := by decide +kernel
theorem dX2_setRider_5 : decode cX2_setRider 5 = .ok (.iconst 3, 1) := by decide +kernel
theorem dX2_setRider_6 : decode cX2_setRider 6 = .ok (.irem, 1) := by decide +kernel
theorem dX2_setRider_7 : decode cX2_setRider 7 = .ok (.putfield 77, 3) := by decide +kernel
theorem dX2_setRider_10 : decode cX2_setRider 10 = .ok (.aload_n 0, 1) := by decide +kernel
theorem dX2_setRider_11 : decode cX2_setRider 11 = .ok (.getfield 14, 3) := by decide +kernel
theorem dX2_setRider_14 : decode cX2_setRider 14 = .ok (.iload_n 1, 1) := by decide +kernel
theorem dX2_setRider_15 : decode cX2_setRider 15 = .ok (.iconst 3, 1) := by decide +kernel
theorem dX2_setRider_16 : decode cX2_setRider 16 = .ok (.idiv, 1) := by decide +kernel
theorem dX2_setRider_17 : decode cX2_setRider 17 = .ok (.iconst 4, 1) := by decide +kernel
theorem dX2_setRider_18 : decode cX2_setRider 18 = .ok (.irem, 1) := by decide +kernel
theorem dX2_setRider_19 : decode cX2_setRider 19 = .ok (.putfield 80, 3) := by decide +kernel
theorem dX2_setRider_22 : decode cX2_setRider 22 = .ok (.aload_n 0, 1) := by decide +kernel
theorem dX2_setRider_23 : decode cX2_setRider 23 = .ok (.getfield 14, 3) := by decide +kernel
theorem dX2_setRider_26 : decode cX2_setRider 26 = .ok (.iload_n 1, 1) := by decide +kernel
theorem dX2_setRider_27 : decode cX2_setRider 27 = .ok (.bipush 12, 2) := by decide +kernel
theorem dX2_setRider_29 : decode cX2_setRider 29 = .ok (.idiv, 1) := by decide +kernel
theorem dX2_setRider_30 : decode cX2_setRider 30 = .ok (.bipush 7, 2) := by decide +kernel
theorem dX2_setRider_32 : decode cX2_setRider 32 = .ok (.irem, 1) := by decide +kernel
theorem dX2_setRider_33 : decode cX2_setRider 33 = .ok (.putfield 83, 3) := by decide +kernel
theorem dX2_setRider_36 : decode cX2_setRider 36 = .ok (.aload_n 0, 1) := by decide +kernel
theorem dX2_setRider_37 : decode cX2_setRider 37 = .ok (.getfield 14, 3) := by decide +kernel
theorem dX2_setRider_40 : decode cX2_setRider 40 = .ok (.iload_n 1, 1) := by decide +kernel
theorem dX2_setRider_41 : decode cX2_setRider 41 = .ok (.bipush 84, 2) := by decide +kernel
theorem dX2_setRider_43 : decode cX2_setRider 43 = .ok (.idiv, 1) := by decide +kernel
theorem dX2_setRider_44 : decode cX2_setRider 44 = .ok (.putfield 86, 3) := by decide +kernel
theorem dX2_setRider_47 : decode cX2_setRider 47 = .ok (.aload_n 0, 1) := by decide +kernel
theorem dX2_setRider_48 : decode cX2_setRider 48 = .ok (.getfield 14, 3) := by decide +kernel
theorem dX2_setRider_51 : decode cX2_setRider 51 = .ok (.iconst 0, 1) := by decide +kernel
theorem dX2_setRider_52 : decode cX2_setRider 52 = .ok (.putfield 89, 3) := by decide +kernel
theorem dX2_setRider_55 : decode cX2_setRider 55 = .ok (.aload_n 0, 1) := by decide +kernel
theorem dX2_setRider_56 : decode cX2_setRider 56 = .ok (.getfield 14, 3) := by decide +kernel
theorem dX2_setRider_59 : decode cX2_setRider 59 = .ok (.iload_n 2, 1) := by decide +kernel
theorem dX2_setRider_60 : decode cX2_setRider 60 = .ok (.putfield 92, 3) := by decide +kernel
theorem dX2_setRider_63 : decode cX2_setRider 63 = .ok (.aload_n 0, 1) := by decide +kernel
theorem dX2_setRider_64 : decode cX2_setRider 64 = .ok (.getfield 14, 3) := by decide +kernel
theorem dX2_setRider_67 : decode cX2_setRider 67 = .ok (.iload_n 3, 1) := by decide +kernel
theorem dX2_setRider_68 : decode cX2_setRider 68 = .ok (.putfield 95, 3) := by decide +kernel
theorem dX2_setRider_71 : decode cX2_setRider 71 = .ok (.return_, 1) := by decide +kernel
set_option maxRecDepth 20000 in
theorem ggX2_offerRider_X3_has : GoodIn wsX2_offerRider wsX3_has := goodIn_r _ [22, 23, 45, 46, 47, 48, 49, 50, 51] (by decide +kernel) (by decide +kernel)
set_option maxRecDepth 20000 in
theorem gX2_offerRider_X3_has : GoodIn wsX2_offerRider (wsV RX2 98 RX3 yX3_has wsX3_has) := goodIn_app (goodIn_of _ (by decide +kernel)) ggX2_offerRider_X3_has
set_option maxRecDepth 20000 in
theorem ggX2_offerRider_X2_arrive : GoodIn wsX2_offerRider wsX2_arrive := goodIn_r _ [28, 2, 8, 9, 1, 29, 30, 31, 32, 33, 34, 35, 36, 37, 38, 39, 40, 41, 42, 43, 44] (by decide +kernel) (by decide +kernel)
set_option maxRecDepth 20000 in
theorem gX2_offerRider_X2_arrive : GoodIn wsX2_offerRider (wsV RX2 104 RX2 yX2_arrive wsX2_arrive) := goodIn_app (goodIn_of _ (by decide +kernel)) ggX2_offerRider_X2_arrive
theorem dX2_offerRider_0 : decode cX2_offerRider 0 = .ok (.aload_n 0, 1) := by decide +kernel
theorem dX2_offerRider_1 : decode cX2_offerRider 1 = .ok (.getfield 31, 3) := by decide +kernel
theorem dX2_offerRider_4 : decode cX2_offerRider 4 = .ok (.ifCond .eq 13, 3) := by decide +kernel
theorem dX2_offerRider_7 : decode cX2_offerRider 7 = .ok (.aload_n 0, 1) := by decide +kernel
theorem dX2_offerRider_8 : decode cX2_offerRider 8 = .ok (.getfield 14, 3) := by decide +kernel
theorem dX2_offerRider_11 : decode cX2_offerRider 11 = .ok (.getfield 95, 3) := by decide +kernel
theorem dX2_offerRider_14 : decode cX2_offerRider 14 = .ok (.goto 4, 3) := by decide +kernel
theorem dX2_offerRider_17 : decode cX2_offerRider 17 = .ok (.iconst 0, 1) := by decide +kernel
theorem dX2_offerRider_18 : decode cX2_offerRider 18 = .ok (.istore_n 2, 1) := by decide +kernel
theorem dX2_offerRider_19 : decode cX2_offerRider 19 = .ok (.aload_n 1, 1) := by decide +kernel
theorem dX2_offerRider_20 : decode cX2_offerRider 20 = .ok (.aload_n 0, 1) := by decide +kernel
theorem dX2_offerRider_21 : decode cX2_offerRider 21 = .ok (.getfield 14, 3) := by decide +kernel
theorem dX2_offerRider_24 : decode cX2_offerRider 24 = .ok (.getfield 86, 3) := by decide +kernel
theorem dX2_offerRider_27 : decode cX2_offerRider 27 = .ok (.invokevirtual 98, 3) := by decide +kernel
theorem dX2_offerRider_30 : decode cX2_offerRider 30 = .ok (.ifCond .ne 9, 3) := by decide +kernel
theorem dX2_offerRider_33 : decode cX2_offerRider 33 = .ok (.aload_n 0, 1) := by decide +kernel
theorem dX2_offerRider_34 : decode cX2_offerRider 34 = .ok (.iload_n 2, 1) := by decide +kernel
theorem dX2_offerRider_35 : decode cX2_offerRider 35 = .ok (.invokevirtual 104, 3) := by decide +kernel
theorem dX2_offerRider_38 : decode cX2_offerRider 38 = .ok (.return_, 1) := by decide +kernel
theorem dX2_offerRider_39 : decode cX2_offerRider 39 = .ok (.aload_n 0, 1) := by decide +kernel
theorem dX2_offerRider_40 : decode cX2_offerRider 40 = .ok (.getfield 14, 3) := by decide +kernel
theorem dX2_offerRider_43 : decode cX2_offerRider 43 = .ok (.getfield 86, 3) := by decide +kernel
theorem dX2_offerRider_46 : decode cX2_offerRider 46 = .ok (.bipush 7, 2) := by decide +kernel
theorem dX2_offerRider_48 : decode cX2_offerRider 48 = .ok (.imul, 1) := by decide +kernel
theorem dX2_offerRider_49 : decode cX2_offerRider 49 = .ok (.aload_n 0, 1) := by decide +kernel
theorem dX2_offerRider_50 : decode cX2_offerRider 50 = .ok (.getfield 14, 3) := by decide +kernel
theorem dX2_offerRider_53 : decode cX2_offerRider 53 = .ok (.getfield 83, 3) := by decide +kernel
theorem dX2_offerRider_56 : decode cX2_offerRider 56 = .ok (.iadd, 1) := by decide +kernel
theorem dX2_offerRider_57 : decode cX2_offerRider 57 = .ok (.iconst 4, 1) := by decide +kernel
theorem dX2_offerRider_58 : decode cX2_offerRider 58 = .ok (.imul, 1) := by decide +kernel
theorem dX2_offerRider_59 : decode cX2_offerRider 59 = .ok (.aload_n 0, 1) := by decide +kernel
theorem dX2_offerRider_60 : decode cX2_offerRider 60 = .ok (.getfield 14, 3) := by decide +kernel
theorem dX2_offerRider_63 : decode cX2_offerRider 63 = .ok (.getfield 80, 3) := by decide +kernel
theorem dX2_offerRider_66 : decode cX2_offerRider 66 = .ok (.iadd, 1) := by decide +kernel
theorem dX2_offerRider_67 : decode cX2_offerRider 67 = .ok (.iconst 3, 1) := by decide +kernel
theorem dX2_offerRider_68 : decode cX2_offerRider 68 = .ok (.imul, 1) := by decide +kernel
theorem dX2_offerRider_69 : decode cX2_offerRider 69 = .ok (.aload_n 0, 1) := by decide +kernel
theorem dX2_offerRider_70 : decode cX2_offerRider 70 = .ok (.getfield 14, 3) := by decide +kernel
theorem dX2_offerRider_73 : decode cX2_offerRider 73 = .ok (.getfield 77, 3) := by decide +kernel
theorem dX2_offerRider_76 : decode cX2_offerRider 76 = .ok (.iadd, 1) := by decide +kernel
theorem dX2_offerRider_77 : decode cX2_offerRider 77 = .ok (.istore_n 3, 1) := by decide +kernel
theorem dX2_offerRider_78 : decode cX2_offerRider 78 = .ok (.aload_n 0, 1) := by decide +kernel
theorem dX2_offerRider_79 : decode cX2_offerRider 79 = .ok (.getfield 14, 3) := by decide +kernel
theorem dX2_offerRider_82 : decode cX2_offerRider 82 = .ok (.getfield 92, 3) := by decide +kernel
theorem dX2_offerRider_85 : decode cX2_offerRider 85 = .ok (.aload_n 0, 1) := by decide +kernel
theorem dX2_offerRider_86 : decode cX2_offerRider 86 = .ok (.getfield 35, 3) := by decide +kernel
theorem dX2_offerRider_89 : decode cX2_offerRider 89 = .ok (.if_icmp .ge 24, 3) := by decide +kernel
theorem dX2_offerRider_92 : decode cX2_offerRider 92 = .ok (.iload_n 3, 1) := by decide +kernel
theorem dX2_offerRider_93 : decode cX2_offerRider 93 = .ok (.ifCond .lt 20, 3) := by decide +kernel
theorem dX2_offerRider_96 : decode cX2_offerRider 96 = .ok (.iload_n 3, 1) := by decide +kernel
theorem dX2_offerRider_97 : decode cX2_offerRider 97 = .ok (.sipush 840, 3) := by decide +kernel
theorem dX2_offerRider_100 : decode cX2_offerRider 100 = .ok (.if_icmp .ge 13, 3) := by decide +kernel
theorem dX2_offerRider_103 : decode cX2_offerRider 103 = .ok (.iload_n 2, 1) := by decide +kernel
theorem dX2_offerRider_104 : decode cX2_offerRider 104 = .ok (.aload_n 0, 1) := by decide +kernel
theorem dX2_offerRider_105 : decode cX2_offerRider 105 = .ok (.getfield 18, 3) := by decide +kernel
theorem dX2_offerRider_108 : decode cX2_offerRider 108 = .ok (.iload_n 3, 1) := by decide +kernel
theorem dX2_offerRider_109 : decode cX2_offerRider 109 = .ok (.iaload, 1) := by decide +kernel
theorem dX2_offerRider_110 : decode cX2_offerRider 110 = .ok (.if_icmp .lt 4, 3) := by decide +kernel
theorem dX2_offerRider_113 : decode cX2_offerRider 113 = .ok (.return_, 1) := by decide +kernel
theorem dX2_offerRider_114 : decode cX2_offerRider 114 = .ok (.aload_n 0, 1) := by decide +kernel
theorem dX2_offerRider_115 : decode cX2_offerRider 115 = .ok (.getfield 14, 3) := by decide +kernel
theorem dX2_offerRider_118 : decode cX2_offerRider 118 = .ok (.getfield 92, 3) := by decide +kernel
theorem dX2_offerRider_121 : decode cX2_offerRider 121 = .ok (.iconst 4, 1) := by decide +kernel
theorem dX2_offerRider_122 : decode cX2_offerRider 122 = .ok (.irem, 1) := by decide +kernel
theorem dX2_offerRider_123 : decode cX2_offerRider 123 = .ok (.istore 4, 2) := by decide +kernel
theorem dX2_offerRider_125 : decode cX2_offerRider 125 = .ok (.iload 4, 2) := by decide +kernel
theorem dX2_offerRider_127 : decode cX2_offerRider 127 = .ok (.sipush 840, 3) := by decide +kernel
theorem dX2_offerRider_130 : decode cX2_offerRider 130 = .ok (.imul, 1) := by decide +kernel
theorem dX2_offerRider_131 : decode cX2_offerRider 131 = .ok (.iload_n 3, 1) := by decide +kernel
theorem dX2_offerRider_132 : decode cX2_offerRider 132 = .ok (.iadd, 1) := by decide +kernel
theorem dX2_offerRider_133 : decode cX2_offerRider 133 = .ok (.istore 5, 2) := by decide +kernel
theorem dX2_offerRider_135 : decode cX2_offerRider 135 = .ok (.aload_n 0, 1) := by decide +kernel
theorem dX2_offerRider_136 : decode cX2_offerRider 136 = .ok (.getfield 25, 3) := by decide +kernel
theorem dX2_offerRider_139 : decode cX2_offerRider 139 = .ok (.iload 5, 2) := by decide +kernel
theorem dX2_offerRider_141 : decode cX2_offerRider 141 = .ok (.iaload, 1) := by decide +kernel
theorem dX2_offerRider_142 : decode cX2_offerRider 142 = .ok (.sipush 1000, 3) := by decide +kernel
theorem dX2_offerRider_145 : decode cX2_offerRider 145 = .ok (.if_icmp .ne 47, 3) := by decide +kernel
theorem dX2_offerRider_148 : decode cX2_offerRider 148 = .ok (.aload_n 0, 1) := by decide +kernel
theorem dX2_offerRider_149 : decode cX2_offerRider 149 = .ok (.getfield 28, 3) := by decide +kernel
theorem dX2_offerRider_152 : decode cX2_offerRider 152 = .ok (.iload 4, 2) := by decide +kernel
theorem dX2_offerRider_154 : decode cX2_offerRider 154 = .ok (.iaload, 1) := by decide +kernel
theorem dX2_offerRider_155 : decode cX2_offerRider 155 = .ok (.sipush 840, 3) := by decide +kernel
theorem dX2_offerRider_158 : decode cX2_offerRider 158 = .ok (.if_icmp .ge 34, 3) := by decide +kernel
theorem dX2_offerRider_161 : decode cX2_offerRider 161 = .ok (.aload_n 0, 1) := by decide +kernel
theorem dX2_offerRider_162 : decode cX2_offerRider 162 = .ok (.getfield 22, 3) := by decide +kernel
theorem dX2_offerRider_165 : decode cX2_offerRider 165 = .ok (.iload 4, 2) := by decide +kernel
theorem dX2_offerRider_167 : decode cX2_offerRider 167 = .ok (.sipush 840, 3) := by decide +kernel
theorem dX2_offerRider_170 : decode cX2_offerRider 170 = .ok (.imul, 1) := by decide +kernel
theorem dX2_offerRider_171 : decode cX2_offerRider 171 = .ok (.aload_n 0, 1) := by decide +kernel
theorem dX2_offerRider_172 : decode cX2_offerRider 172 = .ok (.getfield 28, 3) := by decide +kernel
theorem dX2_offerRider_175 : decode cX2_offerRider 175 = .ok (.iload 4, 2) := by decide +kernel
theorem dX2_offerRider_177 : decode cX2_offerRider 177 = .ok (.iaload, 1) := by decide +kernel
theorem dX2_offerRider_178 : decode cX2_offerRider 178 = .ok (.iadd, 1) := by decide +kernel
theorem dX2_offerRider_179 : decode cX2_offerRider 179 = .ok (.iload_n 3, 1) := by decide +kernel
theorem dX2_offerRider_180 : decode cX2_offerRider 180 = .ok (.iastore, 1) := by decide +kernel
theorem dX2_offerRider_181 : decode cX2_offerRider 181 = .ok (.aload_n 0, 1) := by decide +kernel
theorem dX2_offerRider_182 : decode cX2_offerRider 182 = .ok (.getfield 28, 3) := by decide +kernel
theorem dX2_offerRider_185 : decode cX2_offerRider 185 = .ok (.iload 4, 2) := by decide +kernel
theorem dX2_offerRider_187 : decode cX2_offerRider 187 = .ok (.dup2, 1) := by decide +kernel
theorem dX2_offerRider_188 : decode cX2_offerRider 188 = .ok (.iaload, 1) := by decide +kernel
theorem dX2_offerRider_189 : decode cX2_offerRider 189 = .ok (.iconst 1, 1) := by decide +kernel
theorem dX2_offerRider_190 : decode cX2_offerRider 190 = .ok (.iadd, 1) := by decide +kernel
theorem dX2_offerRider_191 : decode cX2_offerRider 191 = .ok (.iastore, 1) := by decide +kernel
theorem dX2_offerRider_192 : decode cX2_offerRider 192 = .ok (.aload_n 0, 1) := by decide +kernel
theorem dX2_offerRider_193 : decode cX2_offerRider 193 = .ok (.getfield 25, 3) := by decide +kernel
theorem dX2_offerRider_196 : decode cX2_offerRider 196 = .ok (.iload 5, 2) := by decide +kernel
theorem dX2_offerRider_198 : decode cX2_offerRider 198 = .ok (.aload_n 0, 1) := by decide +kernel
theorem dX2_offerRider_199 : decode cX2_offerRider 199 = .ok (.getfield 25, 3) := by decide +kernel
theorem dX2_offerRider_202 : decode cX2_offerRider 202 = .ok (.iload 5, 2) := by decide +kernel
theorem dX2_offerRider_204 : decode cX2_offerRider 204 = .ok (.iaload, 1) := by decide +kernel
theorem dX2_offerRider_205 : decode cX2_offerRider 205 = .ok (.iload_n 2, 1) := by decide +kernel
theorem dX2_offerRider_206 : decode cX2_offerRider 206 = .ok (.invokestatic 48, 3) := by decide +kernel
theorem dX2_offerRider_209 : decode cX2_offerRider 209 = .ok (.iastore, 1) := by decide +kernel
theorem dX2_offerRider_210 : decode cX2_offerRider 210 = .ok (.return_, 1) := by decide +kernel
theorem dX2_arrive_0 : decode cX2_arrive 0 = .ok (.aload_n 0, 1) := by decide +kernel
theorem dX2_arrive_1 : decode cX2_arrive 1 = .ok (.getfield 14, 3) := by decide +kernel
theorem dX2_arrive_4 : decode cX2_arrive 4 = .ok (.getfield 92, 3) := by decide +kernel
theorem dX2_arrive_7 : decode cX2_arrive 7 = .ok (.aload_n 0, 1) := by decide +kernel
theorem dX2_arrive_8 : decode cX2_arrive 8 = .ok (.getfield 35, 3) := by decide +kernel
theorem dX2_arrive_11 : decode cX2_arrive 11 = .ok (.if_icmp .le 4, 3) := by decide +kernel
theorem dX2_arrive_14 : decode cX2_arrive 14 = .ok (.return_, 1) := by decide +kernel
theorem dX2_arrive_15 : decode cX2_arrive 15 = .ok (.aload_n 0, 1) := by decide +kernel
theorem dX2_arrive_16 : decode cX2_arrive 16 = .ok (.getfield 31, 3) := by decide +kernel
theorem dX2_arrive_19 : decode cX2_arrive 19 = .ok (.ifCond .ne 30, 3) := by decide +kernel
theorem dX2_arrive_22 : decode cX2_arrive 22 = .ok (.aload_n 0, 1) := by decide +kernel
theorem dX2_arrive_23 : decode cX2_arrive 23 = .ok (.aload_n 0, 1) := by decide +kernel
theorem dX2_arrive_24 : decode cX2_arrive 24 = .ok (.getfield 14, 3) := by decide +kernel
theorem dX2_arrive_27 : decode cX2_arrive 27 = .ok (.getfield 92, 3) := by decide +kernel
theorem dX2_arrive_30 : decode cX2_arrive 30 = .ok (.putfield 39, 3) := by decide +kernel
theorem dX2_arrive_33 : decode cX2_arrive 33 = .ok (.aload_n 0, 1) := by decide +kernel
theorem dX2_arrive_34 : decode cX2_arrive 34 = .ok (.aload_n 0, 1) := by decide +kernel
theorem dX2_arrive_35 : decode cX2_arrive 35 = .ok (.getfield 14, 3) := by decide +kernel
theorem dX2_arrive_38 : decode cX2_arrive 38 = .ok (.getfield 92, 3) := by decide +kernel
theorem dX2_arrive_41 : decode cX2_arrive 41 = .ok (.iconst 1, 1) := by decide +kernel
theorem dX2_arrive_42 : decode cX2_arrive 42 = .ok (.isub, 1) := by decide +kernel
theorem dX2_arrive_43 : decode cX2_arrive 43 = .ok (.putfield 35, 3) := by decide +kernel
theorem dX2_arrive_46 : decode cX2_arrive 46 = .ok (.goto 25, 3) := by decide +kernel
theorem dX2_arrive_49 : decode cX2_arrive 49 = .ok (.aload_n 0, 1) := by decide +kernel
theorem dX2_arrive_50 : decode cX2_arrive 50 = .ok (.getfield 39, 3) := by decide +kernel
theorem dX2_arrive_53 : decode cX2_arrive 53 = .ok (.bipush (-9), 2) := by decide +kernel
theorem dX2_arrive_55 : decode cX2_arrive 55 = .ok (.if_icmp .eq 11, 3) := by decide +kernel
theorem dX2_arrive_58 : decode cX2_arrive 58 = .ok (.iload_n 1, 1) := by decide +kernel
theorem dX2_arrive_59 : decode cX2_arrive 59 = .ok (.aload_n 0, 1) := by decide +kernel
theorem dX2_arrive_60 : decode cX2_arrive 60 = .ok (.getfield 39, 3) := by decide +kernel
theorem dX2_arrive_63 : decode cX2_arrive 63 = .ok (.if_icmp .ge 8, 3) := by decide +kernel
theorem dX2_arrive_66 : decode cX2_arrive 66 = .ok (.aload_n 0, 1) := by decide +kernel
theorem dX2_arrive_67 : decode cX2_arrive 67 = .ok (.iload_n 1, 1) := by decide +kernel
theorem dX2_arrive_68 : decode cX2_arrive 68 = .ok (.putfield 39, 3) := by decide +kernel
theorem dX2_arrive_71 : decode cX2_arrive 71 = .ok (.return_, 1) := by decide +kernel
theorem dX3_init_0 : decode cX3_init 0 = .ok (.aload_n 0, 1) := by decide +kernel
theorem dX3_init_1 : decode cX3_init 1 = .ok (.invokespecial 3, 3) := by decide +kernel
theorem dX3_init_4 : decode cX3_init 4 = .ok (.aload_n 0, 1) := by decide +kernel
theorem dX3_init_5 : decode cX3_init 5 = .ok (.bipush 10, 2) := by decide +kernel
theorem dX3_init_7 : decode cX3_init 7 = .ok (.newarray .int, 2) := by decide +kernel
theorem dX3_init_9 : decode cX3_init 9 = .ok (.putfield 9, 3) := by decide +kernel
theorem dX3_init_12 : decode cX3_init 12 = .ok (.aload_n 0, 1) := by decide +kernel
theorem dX3_init_13 : decode cX3_init 13 = .ok (.bipush 10, 2) := by decide +kernel
theorem dX3_init_15 : decode cX3_init 15 = .ok (.newarray .int, 2) := by decide +kernel
theorem dX3_init_17 : decode cX3_init 17 = .ok (.putfield 15, 3) := by decide +kernel
theorem dX3_init_20 : decode cX3_init 20 = .ok (.aload_n 0, 1) := by decide +kernel
theorem dX3_init_21 : decode cX3_init 21 = .ok (.bipush 10, 2) := by decide +kernel
theorem dX3_init_23 : decode cX3_init 23 = .ok (.newarray .boolean, 2) := by decide +kernel
theorem dX3_init_25 : decode cX3_init 25 = .ok (.putfield 18, 3) := by decide +kernel
theorem dX3_init_28 : decode cX3_init 28 = .ok (.aload_n 0, 1) := by decide +kernel
theorem dX3_init_29 : decode cX3_init 29 = .ok (.iconst 0, 1) := by decide +kernel
theorem dX3_init_30 : decode cX3_init 30 = .ok (.putfield 22, 3) := by decide +kernel
theorem dX3_init_33 : decode cX3_init 33 = .ok (.aload_n 0, 1) := by decide +kernel
theorem dX3_init_34 : decode cX3_init 34 = .ok (.iconst 0, 1) := by decide +kernel
theorem dX3_init_35 : decode cX3_init 35 = .ok (.putfield 26, 3) := by decide +kernel
theorem dX3_init_38 : decode cX3_init 38 = .ok (.aload_n 0, 1) := by decide +kernel
theorem dX3_init_39 : decode cX3_init 39 = .ok (.iconst 0, 1) := by decide +kernel
theorem dX3_init_40 : decode cX3_init 40 = .ok (.putfield 29, 3) := by decide +kernel
theorem dX3_init_43 : decode cX3_init 43 = .ok (.aload_n 0, 1) := by decide +kernel
theorem dX3_init_44 : decode cX3_init 44 = .ok (.iconst 0, 1) := by decide +kernel
theorem dX3_init_45 : decode cX3_init 45 = .ok (.putfield 32, 3) := by decide +kernel
theorem dX3_init_48 : decode cX3_init 48 = .ok (.return_, 1) := by decide +kernel
theorem dX3_isNone_0 : decode cX3_isNone 0 = .ok (.aload_n 0, 1) := by decide +kernel
theorem dX3_isNone_1 : decode cX3_isNone 1 = .ok (.getfield 22, 3) := by decide +kernel
theorem dX3_isNone_4 : decode cX3_isNone 4 = .ok (.ifCond .ne 7, 3) := by decide +kernel
theorem dX3_isNone_7 : decode cX3_isNone 7 = .ok (.iconst 1, 1) := by decide +kernel
theorem dX3_isNone_8 : decode cX3_isNone 8 = .ok (.goto 4, 3) := by decide +kernel
theorem dX3_isNone_11 : decode cX3_isNone 11 = .ok (.iconst 0, 1) := by decide +kernel
theorem dX3_isNone_12 : decode cX3_isNone 12 = .ok (.ireturn, 1) := by decide +kernel
theorem dX3_has_0 : decode cX3_has 0 = .ok (.iload_n 1, 1) := by decide +kernel
theorem dX3_has_1 : decode cX3_has 1 = .ok (.ifCond .lt 15, 3) := by decide +kernel
theorem dX3_has_4 : decode cX3_has 4 = .ok (.iload_n 1, 1) := by decide +kernel
theorem dX3_has_5 : decode cX3_has 5 = .ok (.aload_n 0, 1) := by decide +kernel
theorem dX3_has_6 : decode cX3_has 6 = .ok (.getfield 22, 3) := by decide +kernel
theorem dX3_has_9 : decode cX3_has 9 = .ok (.if_icmp .ge 7, 3) := by decide +kernel
theorem dX3_has_12 : decode cX3_has 12 = .ok (.iconst 1, 1) := by decide +kernel
theorem dX3_has_13 : decode cX3_has 13 = .ok (.goto 4, 3) := by decide +kernel
theorem dX3_has_16 : decode cX3_has 16 = .ok (.iconst 0, 1) := by decide +kernel
theorem dX3_has_17 : decode cX3_has 17 = .ok (.ireturn, 1) := by decide +kernel
theorem dX3_dragOf_0 : decode cX3_dragOf 0 = .ok (.iload_n 1, 1) := by decide +kernel
theorem dX3_dragOf_1 : decode cX3_dragOf 1 = .ok (.ifCond .lt 11, 3) := by decide +kernel
theorem dX3_dragOf_4 : decode cX3_dragOf 4 = .ok (.iload_n 1, 1) := by decide +kernel
theorem dX3_dragOf_5 : decode cX3_dragOf 5 = .ok (.aload_n 0, 1) := by decide +kernel
theorem dX3_dragOf_6 : decode cX3_dragOf 6 = .ok (.getfield 22, 3) := by decide +kernel
theorem dX3_dragOf_9 : decode cX3_dragOf 9 = .ok (.if_icmp .lt 5, 3) := by decide +kernel
theorem dX3_dragOf_12 : decode cX3_dragOf 12 = .ok (.iconst 0, 1) := by decide +kernel
theorem dX3_dragOf_13 : decode cX3_dragOf 13 = .ok (.ireturn, 1) := by decide +kernel
theorem dX3_dragOf_14 : decode cX3_dragOf 14 = .ok (.aload_n 0, 1) := by decide +kernel
theorem dX3_dragOf_15 : decode cX3_dragOf 15 = .ok (.getfield 9, 3) := by decide +kernel
theorem dX3_dragOf_18 : decode cX3_dragOf 18 = .ok (.iload_n 1, 1) := by decide +kernel
theorem dX3_dragOf_19 : decode cX3_dragOf 19 = .ok (.iaload, 1) := by decide +kernel
theorem dX3_dragOf_20 : decode cX3_dragOf 20 = .ok (.lookupswitch 46 #[(1, 28), (2, 37)], 28) := by decide +kernel
theorem dX3_dragOf_48 : decode cX3_dragOf 48 = .ok (.aload_n 0, 1) := by decide +kernel
theorem dX3_dragOf_49 : decode cX3_dragOf 49 = .ok (.getfield 15, 3) := by decide +kernel
theorem dX3_dragOf_52 : decode cX3_dragOf 52 = .ok (.iload_n 1, 1) := by decide +kernel
theorem dX3_dragOf_53 : decode cX3_dragOf 53 = .ok (.iaload, 1) := by decide +kernel
theorem dX3_dragOf_54 : decode cX3_dragOf 54 = .ok (.iconst 1, 1) := by decide +kernel
theorem dX3_dragOf_55 : decode cX3_dragOf 55 = .ok (.iadd, 1) := by decide +kernel
theorem dX3_dragOf_56 : decode cX3_dragOf 56 = .ok (.ireturn, 1) := by decide +kernel
theorem dX3_dragOf_57 : decode cX3_dragOf 57 = .ok (.aload_n 0, 1) := by decide +kernel
theorem dX3_dragOf_58 : decode cX3_dragOf 58 = .ok (.getfield 15, 3) := by decide +kernel
theorem dX3_dragOf_61 : decode cX3_dragOf 61 = .ok (.iload_n 1, 1) := by decide +kernel
theorem dX3_dragOf_62 : decode cX3_dragOf 62 = .ok (.iaload, 1) := by decide +kernel
theorem dX3_dragOf_63 : decode cX3_dragOf 63 = .ok (.iconst 2, 1) := by decide +kernel
theorem dX3_dragOf_64 : decode cX3_dragOf 64 = .ok (.idiv, 1) := by decide +kernel
theorem dX3_dragOf_65 : decode cX3_dragOf 65 = .ok (.ireturn, 1) := by decide +kernel
theorem dX3_dragOf_66 : decode cX3_dragOf 66 = .ok (.aload_n 0, 1) := by decide +kernel
theorem dX3_dragOf_67 : decode cX3_dragOf 67 = .ok (.getfield 15, 3) := by decide +kernel
theorem dX3_dragOf_70 : decode cX3_dragOf 70 = .ok (.iload_n 1, 1) := by decide +kernel
theorem dX3_dragOf_71 : decode cX3_dragOf 71 = .ok (.iaload, 1) := by decide +kernel
theorem dX3_dragOf_72 : decode cX3_dragOf 72 = .ok (.ireturn, 1) := by decide +kernel
theorem dX3_becomeLike_0 : decode cX3_becomeLike 0 = .ok (.aload_n 1, 1) := by decide +kernel
theorem dX3_becomeLike_1 : decode cX3_becomeLike 1 = .ok (.getfield 9, 3) := by decide +kernel
theorem dX3_becomeLike_4 : decode cX3_becomeLike 4 = .ok (.iconst 0, 1) := by decide +kernel
theorem dX3_becomeLike_5 : decode cX3_becomeLike 5 = .ok (.aload_n 0, 1) := by decide +kernel
theorem dX3_becomeLike_6 : decode cX3_becomeLike 6 = .ok (.getfield 9, 3) := by decide +kernel
theorem dX3_becomeLike_9 : decode cX3_becomeLike 9 = .ok (.iconst 0, 1) := by decide +kernel
theorem dX3_becomeLike_10 : decode cX3_becomeLike 10 = .ok (.bipush 10, 2) := by decide +kernel
theorem dX3_becomeLike_12 : decode cX3_becomeLike 12 = .ok (.invokestatic 35, 3) := by decide +kernel
theorem dX3_becomeLike_15 : decode cX3_becomeLike 15 = .ok (.aload_n 1, 1) := by decide +kernel
theorem dX3_becomeLike_16 : decode cX3_becomeLike 16 = .ok (.getfield 15, 3) := by decide +kernel
theorem dX3_becomeLike_19 : decode cX3_becomeLike 19 = .ok (.iconst 0, 1) := by decide +kernel
theorem dX3_becomeLike_20 : decode cX3_becomeLike 20 = .ok (.aload_n 0, 1) := by decide +kernel
theorem dX3_becomeLike_21 : decode cX3_becomeLike 21 = .ok (.getfield 15, 3) := by decide +kernel
theorem dX3_becomeLike_24 : decode cX3_becomeLike 24 = .ok (.iconst 0, 1) := by decide +kernel
theorem dX3_becomeLike_25 : decode cX3_becomeLike 25 = .ok (.bipush 10, 2) := by decide +kernel
theorem dX3_becomeLike_27 : decode cX3_becomeLike 27 = .ok (.invokestatic 35, 3) := by decide +kernel
theorem dX3_becomeLike_30 : decode cX3_becomeLike 30 = .ok (.aload_n 1, 1) := by decide +kernel
theorem dX3_becomeLike_31 : decode cX3_becomeLike 31 = .ok (.getfield 18, 3) := by decide +kernel
theorem dX3_becomeLike_34 : decode cX3_becomeLike 34 = .ok (.iconst 0, 1) := by decide +kernel
theorem dX3_becomeLike_35 : decode cX3_becomeLike 35 = .ok (.aload_n 0, 1) := by decide +kernel
theorem dX3_becomeLike_36 : decode cX3_becomeLike 36 = .ok (.getfield 18, 3) := by decide +kernel
theorem dX3_becomeLike_39 : decode cX3_becomeLike 39 = .ok (.iconst 0, 1) := by decide +kernel
theorem dX3_becomeLike_40 : decode cX3_becomeLike 40 = .ok (.bipush 10, 2) := by decide +kernel
theorem dX3_becomeLike_42 : decode cX3_becomeLike 42 = .ok (.invokestatic 35, 3) := by decide +kernel
theorem dX3_becomeLike_45 : decode cX3_becomeLike 45 = .ok (.aload_n 0, 1) := by decide +kernel
theorem dX3_becomeLike_46 : decode cX3_becomeLike 46 = .ok (.aload_n 1, 1) := by decide +kernel
theorem dX3_becomeLike_47 : decode cX3_becomeLike 47 = .ok (.getfield 22, 3) := by decide +kernel
theorem dX3_becomeLike_50 : decode cX3_becomeLike 50 = .ok (.putfield 22, 3) := by decide +kernel
theorem dX3_becomeLike_53 : decode cX3_becomeLike 53 = .ok (.aload_n 0, 1) := by decide +kernel
theorem dX3_becomeLike_54 : decode cX3_becomeLike 54 = .ok (.aload_n 1, 1) := by decide +kernel
theorem dX3_becomeLike_55 : decode cX3_becomeLike 55 = .ok (.getfield 26, 3) := by decide +kernel
theorem dX3_becomeLike_58 : decode cX3_becomeLike 58 = .ok (.putfield 26, 3) := by decide +kernel
theorem dX3_becomeLike_61 : decode cX3_becomeLike 61 = .ok (.aload_n 0, 1) := by decide +kernel
theorem dX3_becomeLike_62 : decode cX3_becomeLike 62 = .ok (.aload_n 1, 1) := by decide +kernel
theorem dX3_becomeLike_63 : decode cX3_becomeLike 63 = .ok (.getfield 29, 3) := by decide +kernel
theorem dX3_becomeLike_66 : decode cX3_becomeLike 66 = .ok (.putfield 29, 3) := by decide +kernel
theorem dX3_becomeLike_69 : decode cX3_becomeLike 69 = .ok (.aload_n 0, 1) := by decide +kernel
theorem dX3_becomeLike_70 : decode cX3_becomeLike 70 = .ok (.aload_n 1, 1) := by decide +kernel
theorem dX3_becomeLike_71 : decode cX3_becomeLike 71 = .ok (.getfield 32, 3) := by decide +kernel
theorem dX3_becomeLike_74 : decode cX3_becomeLike 74 = .ok (.putfield 32, 3) := by decide +kernel
theorem dX3_becomeLike_77 : decode cX3_becomeLike 77 = .ok (.return_, 1) := by decide +kernel
set_option maxRecDepth 20000 in
theorem ggX3_readText_X3_readHead : GoodIn wsX3_readText wsX3_readHead := goodIn_r _ [7, 8, 9, 10, 11, 12, 13, 14, 15, 16, 17, 18, 19, 29, 30, 31, 32, 33, 34, 35, 36, 37, 38, 39] (by decide +kernel) (by decide +kernel)
set_option maxRecDepth 20000 in
theorem gX3_readText_X3_readHead : GoodIn wsX3_readText (wsV RX3 41 RX3 yX3_readHead wsX3_readHead) := goodIn_app (goodIn_of _ (by decide +kernel)) ggX3_readText_X3_readHead
set_option maxRecDepth 20000 in
theorem ggX3_readText_X3_readFlag : GoodIn wsX3_readText wsX3_readFlag := goodIn_r _ [23, 1, 24, 25, 2, 13, 14, 15, 16, 17, 18, 19, 26, 27, 6, 28, 29, 30, 31, 32, 33, 34, 35, 36, 37, 38, 39] (by decide +kernel) (by decide +kernel)
set_option maxRecDepth 20000 in
theorem gX3_readText_X3_readFlag : GoodIn wsX3_readText (wsV RX3 45 RX3 yX3_readFlag wsX3_readFlag) := goodIn_app (goodIn_of _ (by decide +kernel)) ggX3_readText_X3_readFlag
set_option maxRecDepth 20000 in
theorem ggX3_readText_X1_at : GoodIn wsX3_readText wsX1_at := goodIn_r _ [17, 18, 19, 36, 37, 38, 39] (by decide +kernel) (by decide +kernel)
set_option maxRecDepth 20000 in
theorem gX3_readText_X1_at : GoodIn wsX3_readText (wsV RX3 49 RX1 yX1_at wsX1_at) := goodIn_app (goodIn_of _ (by decide +kernel)) ggX3_readText_X1_at
theorem dX3_readText_0 : decode cX3_readText 0 = .ok (.aload_n 0, 1) := by decide +kernel
theorem dX3_readText_1 : decode cX3_readText 1 = .ok (.iconst 0, 1) := by decide +kernel
theorem dX3_readText_2 : decode cX3_readText 2 = .ok (.putfield 22, 3) := by decide +kernel
theorem dX3_readText_5 : decode cX3_readText 5 = .ok (.aload_n 0, 1) := by decide +kernel
theorem dX3_readText_6 : decode cX3_readText 6 = .ok (.aload_n 1, 1) := by decide +kernel
theorem dX3_readText_7 : decode cX3_readText 7 = .ok (.iload_n 2, 1) := by decide +kernel
theorem dX3_readText_8 : decode cX3_readText 8 = .ok (.iload_n 3, 1) := by decide +kernel
theorem dX3_readText_9 : decode cX3_readText 9 = .ok (.invokevirtual 41, 3) := by decide +kernel
theorem dX3_readText_12 : decode cX3_readText 12 = .ok (.istore 4, 2) := by decide +kernel
theorem dX3_readText_14 : decode cX3_readText 14 = .ok (.iconst 4, 1) := by decide +kernel
theorem dX3_readText_15 : decode cX3_readText 15 = .ok (.istore 5, 2) := by decide +kernel
theorem dX3_readText_17 : decode cX3_readText 17 = .ok (.iconst 0, 1) := by decide +kernel
theorem dX3_readText_18 : decode cX3_readText 18 = .ok (.istore 6, 2) := by decide +kernel
theorem dX3_readText_20 : decode cX3_readText 20 = .ok (.iload 6, 2) := by decide +kernel
theorem dX3_readText_22 : decode cX3_readText 22 = .ok (.bipush 10, 2) := by decide +kernel
theorem dX3_readText_24 : decode cX3_readText 24 = .ok (.if_icmp .ge 73, 3) := by decide +kernel
theorem dX3_readText_27 : decode cX3_readText 27 = .ok (.iload 4, 2) := by decide +kernel
theorem dX3_readText_29 : decode cX3_readText 29 = .ok (.bipush (-9), 2) := by decide +kernel
theorem dX3_readText_31 : decode cX3_readText 31 = .ok (.if_icmp .ne 66, 3) := by decide +kernel
theorem dX3_readText_34 : decode cX3_readText 34 = .ok (.iload 5, 2) := by decide +kernel
theorem dX3_readText_36 : decode cX3_readText 36 = .ok (.iload_n 3, 1) := by decide +kernel
theorem dX3_readText_37 : decode cX3_readText 37 = .ok (.if_icmp .ge 60, 3) := by decide +kernel
theorem dX3_readText_40 : decode cX3_readText 40 = .ok (.aload_n 0, 1) := by decide +kernel
theorem dX3_readText_41 : decode cX3_readText 41 = .ok (.aload_n 1, 1) := by decide +kernel
theorem dX3_readText_42 : decode cX3_readText 42 = .ok (.iload_n 2, 1) := by decide +kernel
theorem dX3_readText_43 : decode cX3_readText 43 = .ok (.iload_n 3, 1) := by decide +kernel
theorem dX3_readText_44 : decode cX3_readText 44 = .ok (.iload 5, 2) := by decide +kernel
theorem dX3_readText_46 : decode cX3_readText 46 = .ok (.invokevirtual 45, 3) := by decide +kernel
theorem dX3_readText_49 : decode cX3_readText 49 = .ok (.istore 4, 2) := by decide +kernel
theorem dX3_readText_51 : decode cX3_readText 51 = .ok (.iinc 5 2, 3) := by decide +kernel
theorem dX3_readText_54 : decode cX3_readText 54 = .ok (.iload 4, 2) := by decide +kernel
theorem dX3_readText_56 : decode cX3_readText 56 = .ok (.bipush (-9), 2) := by decide +kernel
theorem dX3_readText_58 : decode cX3_readText 58 = .ok (.if_icmp .ne 33, 3) := by decide +kernel
theorem dX3_readText_61 : decode cX3_readText 61 = .ok (.iload 5, 2) := by decide +kernel
theorem dX3_readText_63 : decode cX3_readText 63 = .ok (.iload_n 3, 1) := by decide +kernel
theorem dX3_readText_64 : decode cX3_readText 64 = .ok (.if_icmp .ge 27, 3) := by decide +kernel
theorem dX3_readText_67 : decode cX3_readText 67 = .ok (.aload_n 1, 1) := by decide +kernel
theorem dX3_readText_68 : decode cX3_readText 68 = .ok (.iload_n 2, 1) := by decide +kernel
theorem dX3_readText_69 : decode cX3_readText 69 = .ok (.iload 5, 2) := by decide +kernel
theorem dX3_readText_71 : decode cX3_readText 71 = .ok (.iadd, 1) := by decide +kernel
theorem dX3_readText_72 : decode cX3_readText 72 = .ok (.invokevirtual 49, 3) := by decide +kernel
theorem dX3_readText_75 : decode cX3_readText 75 = .ok (.bipush 35, 2) := by decide +kernel
theorem dX3_readText_77 : decode cX3_readText 77 = .ok (.if_icmp .ne 14, 3) := by decide +kernel
theorem dX3_readText_80 : decode cX3_readText 80 = .ok (.aload_n 0, 1) := by decide +kernel
theorem dX3_readText_81 : decode cX3_readText 81 = .ok (.getfield 18, 3) := by decide +kernel
theorem dX3_readText_84 : decode cX3_readText 84 = .ok (.iload 6, 2) := by decide +kernel
theorem dX3_readText_86 : decode cX3_readText 86 = .ok (.iconst 1, 1) := by decide +kernel
theorem dX3_readText_87 : decode cX3_readText 87 = .ok (.bastore, 1) := by decide +kernel
theorem dX3_readText_88 : decode cX3_readText 88 = .ok (.iinc 5 1, 3) := by decide +kernel
theorem dX3_readText_91 : decode cX3_readText 91 = .ok (.iinc 6 1, 3) := by decide +kernel
theorem dX3_readText_94 : decode cX3_readText 94 = .ok (.goto (-74), 3) := by decide +kernel
theorem dX3_readText_97 : decode cX3_readText 97 = .ok (.iload 4, 2) := by decide +kernel
theorem dX3_readText_99 : decode cX3_readText 99 = .ok (.bipush (-9), 2) := by decide +kernel
theorem dX3_readText_101 : decode cX3_readText 101 = .ok (.if_icmp .eq 6, 3) := by decide +kernel
theorem dX3_readText_104 : decode cX3_readText 104 = .ok (.iload 4, 2) := by decide +kernel
theorem dX3_readText_106 : decode cX3_readText 106 = .ok (.ireturn, 1) := by decide +kernel
theorem dX3_readText_107 : decode cX3_readText 107 = .ok (.iload 5, 2) := by decide +kernel
theorem dX3_readText_109 : decode cX3_readText 109 = .ok (.iload_n 3, 1) := by decide +kernel
theorem dX3_readText_110 : decode cX3_readText 110 = .ok (.if_icmp .ge 6, 3) := by decide +kernel
theorem dX3_readText_113 : decode cX3_readText 113 = .ok (.iload 5, 2) := by decide +kernel
theorem dX3_readText_115 : decode cX3_readText 115 = .ok (.ireturn, 1) := by decide +kernel
theorem dX3_readText_116 : decode cX3_readText 116 = .ok (.aload_n 0, 1) := by decide +kernel
theorem dX3_readText_117 : decode cX3_readText 117 = .ok (.getfield 22, 3) := by decide +kernel
theorem dX3_readText_120 : decode cX3_readText 120 = .ok (.iconst 2, 1) := by decide +kernel
theorem dX3_readText_121 : decode cX3_readText 121 = .ok (.if_icmp .ge 7, 3) := by decide +kernel
theorem dX3_readText_124 : decode cX3_readText 124 = .ok (.iload_n 3, 1) := by decide +kernel
theorem dX3_readText_125 : decode cX3_readText 125 = .ok (.goto 5, 3) := by decide +kernel
theorem dX3_readText_128 : decode cX3_readText 128 = .ok (.bipush (-9), 2) := by decide +kernel
theorem dX3_readText_130 : decode cX3_readText 130 = .ok (.ireturn, 1) := by decide +kernel
set_option maxRecDepth 20000 in
theorem ggX3_readHead_X1_at : GoodIn wsX3_readHead wsX1_at := goodIn_r _ [10, 11, 12, 20, 21, 22, 23] (by decide +kernel) (by decide +kernel)
set_option maxRecDepth 20000 in
theorem gX3_readHead_X1_at : GoodIn wsX3_readHead (wsV RX3 49 RX1 yX1_at wsX1_at) := goodIn_app (goodIn_of _ (by decide +kernel)) ggX3_readHead_X1_at
theorem dX3_readHead_0 : decode cX3_readHead 0 = .ok (.iconst 0, 1) := by decide +kernel
theorem dX3_readHead_1 : decode cX3_readHead 1 = .ok (.istore 4, 2) := by decide +kernel
theorem dX3_readHead_3 : decode cX3_readHead 3 = .ok (.iload 4, 2) := by decide +kernel
theorem dX3_readHead_5 : decode cX3_readHead 5 = .ok (.iconst 4, 1) := by decide +kernel
theorem dX3_readHead_6 : decode cX3_readHead 6 = .ok (.if_icmp .ge 52, 3) := by decide +kernel
theorem dX3_readHead_9 : decode cX3_readHead 9 = .ok (.iload 4, 2) := by decide +kernel
theorem dX3_readHead_11 : decode cX3_readHead 11 = .ok (.iload_n 3, 1) := by decide +kernel
theorem dX3_readHead_12 : decode cX3_readHead 12 = .ok (.if_icmp .lt 5, 3) := by decide +kernel
theorem dX3_readHead_15 : decode cX3_readHead 15 = .ok (.iload_n 3, 1) := by decide +kernel
theorem dX3_readHead_16 : decode cX3_readHead 16 = .ok (.ireturn, 1) := by decide +kernel
theorem dX3_readHead_17 : decode cX3_readHead 17 = .ok (.aload_n 1, 1) := by decide +kernel
theorem dX3_readHead_18 : decode cX3_readHead 18 = .ok (.iload_n 2, 1) := by decide +kernel
theorem dX3_readHead_19 : decode cX3_readHead 19 = .ok (.iload 4, 2) := by decide +kernel
theorem dX3_readHead_21 : decode cX3_readHead 21 = .ok (.iadd, 1) := by decide +kernel
theorem dX3_readHead_22 : decode cX3_readHead 22 = .ok (.invokevirtual 49, 3) := by decide +kernel
theorem dX3_readHead_25 : decode cX3_readHead 25 = .ok (.istore 5, 2) := by decide +kernel
theorem dX3_readHead_27 : decode cX3_readHead 27 = .ok (.iload 5, 2) := by decide +kernel
theorem dX3_readHead_29 : decode cX3_readHead 29 = .ok (.getstatic 55, 3) := by decide +kernel
theorem dX3_readHead_32 : decode cX3_readHead 32 = .ok (.iload 4, 2) := by decide +kernel
theorem dX3_readHead_34 : decode cX3_readHead 34 = .ok (.iaload, 1) := by decide +kernel
theorem dX3_readHead_35 : decode cX3_readHead 35 = .ok (.if_icmp .lt 14, 3) := by decide +kernel
theorem dX3_readHead_38 : decode cX3_readHead 38 = .ok (.iload 5, 2) := by decide +kernel
theorem dX3_readHead_40 : decode cX3_readHead 40 = .ok (.getstatic 58, 3) := by decide +kernel
theorem dX3_readHead_43 : decode cX3_readHead 43 = .ok (.iload 4, 2) := by decide +kernel
theorem dX3_readHead_45 : decode cX3_readHead 45 = .ok (.iaload, 1) := by decide +kernel
theorem dX3_readHead_46 : decode cX3_readHead 46 = .ok (.if_icmp .le 6, 3) := by decide +kernel
theorem dX3_readHead_49 : decode cX3_readHead 49 = .ok (.iload 4, 2) := by decide +kernel
theorem dX3_readHead_51 : decode cX3_readHead 51 = .ok (.ireturn, 1) := by decide +kernel
theorem dX3_readHead_52 : decode cX3_readHead 52 = .ok (.iinc 4 1, 3) := by decide +kernel
theorem dX3_readHead_55 : decode cX3_readHead 55 = .ok (.goto (-52), 3) := by decide +kernel
theorem dX3_readHead_58 : decode cX3_readHead 58 = .ok (.aload_n 0, 1) := by decide +kernel
theorem dX3_readHead_59 : decode cX3_readHead 59 = .ok (.aload_n 1, 1) := by decide +kernel
theorem dX3_readHead_60 : decode cX3_readHead 60 = .ok (.iload_n 2, 1) := by decide +kernel
theorem dX3_readHead_61 : decode cX3_readHead 61 = .ok (.iconst 1, 1) := by decide +kernel
theorem dX3_readHead_62 : decode cX3_readHead 62 = .ok (.iadd, 1) := by decide +kernel
theorem dX3_readHead_63 : decode cX3_readHead 63 = .ok (.invokevirtual 49, 3) := by decide +kernel
theorem dX3_readHead_66 : decode cX3_readHead 66 = .ok (.bipush 48, 2) := by decide +kernel
theorem dX3_readHead_68 : decode cX3_readHead 68 = .ok (.isub, 1) := by decide +kernel
theorem dX3_readHead_69 : decode cX3_readHead 69 = .ok (.putfield 26, 3) := by decide +kernel
theorem dX3_readHead_72 : decode cX3_readHead 72 = .ok (.aload_n 0, 1) := by decide +kernel
theorem dX3_readHead_73 : decode cX3_readHead 73 = .ok (.aload_n 1, 1) := by decide +kernel
theorem dX3_readHead_74 : decode cX3_readHead 74 = .ok (.iload_n 2, 1) := by decide +kernel
theorem dX3_readHead_75 : decode cX3_readHead 75 = .ok (.iconst 2, 1) := by decide +kernel
theorem dX3_readHead_76 : decode cX3_readHead 76 = .ok (.iadd, 1) := by decide +kernel
theorem dX3_readHead_77 : decode cX3_readHead 77 = .ok (.invokevirtual 49, 3) := by decide +kernel
theorem dX3_readHead_80 : decode cX3_readHead 80 = .ok (.bipush 48, 2) := by decide +kernel
theorem dX3_readHead_82 : decode cX3_readHead 82 = .ok (.isub, 1) := by decide +kernel
theorem dX3_readHead_83 : decode cX3_readHead 83 = .ok (.putfield 29, 3) := by decide +kernel
theorem dX3_readHead_86 : decode cX3_readHead 86 = .ok (.aload_n 0, 1) := by decide +kernel
theorem dX3_readHead_87 : decode cX3_readHead 87 = .ok (.aload_n 1, 1) := by decide +kernel
theorem dX3_readHead_88 : decode cX3_readHead 88 = .ok (.iload_n 2, 1) := by decide +kernel
theorem dX3_readHead_89 : decode cX3_readHead 89 = .ok (.iconst 3, 1) := by decide +kernel
theorem dX3_readHead_90 : decode cX3_readHead 90 = .ok (.iadd, 1) := by decide +kernel
theorem dX3_readHead_91 : decode cX3_readHead 91 = .ok (.invokevirtual 49, 3) := by decide +kernel
theorem dX3_readHead_94 : decode cX3_readHead 94 = .ok (.bipush 48, 2) := by decide +kernel
theorem dX3_readHead_96 : decode cX3_readHead 96 = .ok (.isub, 1) := by decide +kernel
theorem dX3_readHead_97 : decode cX3_readHead 97 = .ok (.putfield 32, 3) := by decide +kernel
theorem dX3_readHead_100 : decode cX3_readHead 100 = .ok (.bipush (-9), 2) := by decide +kernel
theorem dX3_readHead_102 : decode cX3_readHead 102 = .ok (.ireturn, 1) := by decide +kernel
set_option maxRecDepth 20000 in
theorem ggX3_readFlag_X1_at : GoodIn wsX3_readFlag wsX1_at := goodIn_r _ [9, 10, 11, 23, 24, 25, 26] (by decide +kernel) (by decide +kernel)
set_option maxRecDepth 20000 in
theorem gX3_readFlag_X1_at : GoodIn wsX3_readFlag (wsV RX3 49 RX1 yX1_at wsX1_at) := goodIn_app (goodIn_of _ (by decide +kernel)) ggX3_readFlag_X1_at
set_option maxRecDepth 20000 in
theorem ggX3_readFlag_X3_kindOfLetter : GoodIn wsX3_readFlag wsX3_kindOfLetter := goodIn_r _ [15] (by decide +kernel) (by decide +kernel)
set_option maxRecDepth 20000 in
theorem gX3_readFlag_X3_kindOfLetter : GoodIn wsX3_readFlag (va_wsS RX3 61 yX3_kindOfLetter wsX3_kindOfLetter) := goodIn_app (goodIn_of _ (by decide +kernel)) ggX3_readFlag_X3_kindOfLetter
theorem dX3_readFlag_0 : decode cX3_readFlag 0 = .ok (.aload_n 1, 1) := by decide +kernel
theorem dX3_readFlag_1 : decode cX3_readFlag 1 = .ok (.iload_n 2, 1) := by decide +kernel
theorem dX3_readFlag_2 : decode cX3_readFlag 2 = .ok (.iload 4, 2) := by decide +kernel
theorem dX3_readFlag_4 : decode cX3_readFlag 4 = .ok (.iadd, 1) := by decide +kernel
theorem dX3_readFlag_5 : decode cX3_readFlag 5 = .ok (.invokevirtual 49, 3) := by decide +kernel
theorem dX3_readFlag_8 : decode cX3_readFlag 8 = .ok (.invokestatic 61, 3) := by decide +kernel
theorem dX3_readFlag_11 : decode cX3_readFlag 11 = .ok (.istore 5, 2) := by decide +kernel
theorem dX3_readFlag_13 : decode cX3_readFlag 13 = .ok (.iload 5, 2) := by decide +kernel
theorem dX3_readFlag_15 : decode cX3_readFlag 15 = .ok (.bipush (-9), 2) := by decide +kernel
theorem dX3_readFlag_17 : decode cX3_readFlag 17 = .ok (.if_icmp .eq 12, 3) := by decide +kernel
theorem dX3_readFlag_20 : decode cX3_readFlag 20 = .ok (.aload_n 0, 1) := by decide +kernel
theorem dX3_readFlag_21 : decode cX3_readFlag 21 = .ok (.getfield 22, 3) := by decide +kernel
theorem dX3_readFlag_24 : decode cX3_readFlag 24 = .ok (.bipush 10, 2) := by decide +kernel
theorem dX3_readFlag_26 : decode cX3_readFlag 26 = .ok (.if_icmp .lt 6, 3) := by decide +kernel
theorem dX3_readFlag_29 : decode cX3_readFlag 29 = .ok (.iload 4, 2) := by decide +kernel
theorem dX3_readFlag_31 : decode cX3_readFlag 31 = .ok (.ireturn, 1) := by decide +kernel
theorem dX3_readFlag_32 : decode cX3_readFlag 32 = .ok (.iload 4, 2) := by decide +kernel
theorem dX3_readFlag_34 : decode cX3_readFlag 34 = .ok (.iconst 1, 1) := by decide +kernel
theorem dX3_readFlag_35 : decode cX3_readFlag 35 = .ok (.iadd, 1) := by decide +kernel
theorem dX3_readFlag_36 : decode cX3_readFlag 36 = .ok (.iload_n 3, 1) := by decide +kernel
theorem dX3_readFlag_37 : decode cX3_readFlag 37 = .ok (.if_icmp .lt 5, 3) := by decide +kernel
theorem dX3_readFlag_40 : decode cX3_readFlag 40 = .ok (.iload_n 3, 1) := by decide +kernel
theorem dX3_readFlag_41 : decode cX3_readFlag 41 = .ok (.ireturn, 1) := by decide +kernel
theorem dX3_readFlag_42 : decode cX3_readFlag 42 = .ok (.aload_n 1, 1) := by decide +kernel
theorem dX3_readFlag_43 : decode cX3_readFlag 43 = .ok (.iload_n 2, 1) := by decide +kernel
theorem dX3_readFlag_44 : decode cX3_readFlag 44 = .ok (.iload 4, 2) := by decide +kernel
theorem dX3_readFlag_46 : decode cX3_readFlag 46 = .ok (.iadd, 1) := by decide +kernel
theorem dX3_readFlag_47 : decode cX3_readFlag 47 = .ok (.iconst 1, 1) := by decide +kernel
theorem dX3_readFlag_48 : decode cX3_readFlag 48 = .ok (.iadd, 1) := by decide +kernel
theorem dX3_readFlag_49 : decode cX3_readFlag 49 = .ok (.invokevirtual 49, 3) := by decide +kernel
theorem dX3_readFlag_52 : decode cX3_readFlag 52 = .ok (.istore 6, 2) := by decide +kernel
theorem dX3_readFlag_54 : decode cX3_readFlag 54 = .ok (.iload 6, 2) := by decide +kernel
theorem dX3_readFlag_56 : decode cX3_readFlag 56 = .ok (.bipush 48, 2) := by decide +kernel
theorem dX3_readFlag_58 : decode cX3_readFlag 58 = .ok (.if_icmp .lt 10, 3) := by decide +kernel
theorem dX3_readFlag_61 : decode cX3_readFlag 61 = .ok (.iload 6, 2) := by decide +kernel
theorem dX3_readFlag_63 : decode cX3_readFlag 63 = .ok (.bipush 52, 2) := by decide +kernel
theorem dX3_readFlag_65 : decode cX3_readFlag 65 = .ok (.if_icmp .le 8, 3) := by decide +kernel
theorem dX3_readFlag_68 : decode cX3_readFlag 68 = .ok (.iload 4, 2) := by decide +kernel
theorem dX3_readFlag_70 : decode cX3_readFlag 70 = .ok (.iconst 1, 1) := by decide +kernel
theorem dX3_readFlag_71 : decode cX3_readFlag 71 = .ok (.iadd, 1) := by decide +kernel
theorem dX3_readFlag_72 : decode cX3_readFlag 72 = .ok (.ireturn, 1) := by decide +kernel
theorem dX3_readFlag_73 : decode cX3_readFlag 73 = .ok (.aload_n 0, 1) := by decide +kernel
theorem dX3_readFlag_74 : decode cX3_readFlag 74 = .ok (.getfield 9, 3) := by decide +kernel
theorem dX3_readFlag_77 : decode cX3_readFlag 77 = .ok (.aload_n 0, 1) := by decide +kernel
theorem dX3_readFlag_78 : decode cX3_readFlag 78 = .ok (.getfield 22, 3) := by decide +kernel
theorem dX3_readFlag_81 : decode cX3_readFlag 81 = .ok (.iload 5, 2) := by decide +kernel
theorem dX3_readFlag_83 : decode cX3_readFlag 83 = .ok (.iastore, 1) := by decide +kernel
theorem dX3_readFlag_84 : decode cX3_readFlag 84 = .ok (.aload_n 0, 1) := by decide +kernel
theorem dX3_readFlag_85 : decode cX3_readFlag 85 = .ok (.getfield 15, 3) := by decide +kernel
theorem dX3_readFlag_88 : decode cX3_readFlag 88 = .ok (.aload_n 0, 1) := by decide +kernel
theorem dX3_readFlag_89 : decode cX3_readFlag 89 = .ok (.getfield 22, 3) := by decide +kernel
theorem dX3_readFlag_92 : decode cX3_readFlag 92 = .ok (.iload 6, 2) := by decide +kernel
theorem dX3_readFlag_94 : decode cX3_readFlag 94 = .ok (.bipush 48, 2) := by decide +kernel
theorem dX3_readFlag_96 : decode cX3_readFlag 96 = .ok (.isub, 1) := by decide +kernel
theorem dX3_readFlag_97 : decode cX3_readFlag 97 = .ok (.iastore, 1) := by decide +kernel
theorem dX3_readFlag_98 : decode cX3_readFlag 98 = .ok (.aload_n 0, 1) := by decide +kernel
theorem dX3_readFlag_99 : decode cX3_readFlag 99 = .ok (.getfield 18, 3) := by decide +kernel
theorem dX3_readFlag_102 : decode cX3_readFlag 102 = .ok (.aload_n 0, 1) := by decide +kernel
theorem dX3_readFlag_103 : decode cX3_readFlag 103 = .ok (.getfield 22, 3) := by decide +kernel
theorem dX3_readFlag_106 : decode cX3_readFlag 106 = .ok (.iconst 0, 1) := by decide +kernel
theorem dX3_readFlag_107 : decode cX3_readFlag 107 = .ok (.bastore, 1) := by decide +kernel
theorem dX3_readFlag_108 : decode cX3_readFlag 108 = .ok (.aload_n 0, 1) := by decide +kernel
theorem dX3_readFlag_109 : decode cX3_readFlag 109 = .ok (.dup, 1) := by decide +kernel
theorem dX3_readFlag_110 : decode cX3_readFlag 110 = .ok (.getfield 22, 3) := by decide +kernel
theorem dX3_readFlag_113 : decode cX3_readFlag 113 = .ok (.iconst 1, 1) := by decide +kernel
theorem dX3_readFlag_114 : decode cX3_readFlag 114 = .ok (.iadd, 1) := by decide +kernel
theorem dX3_readFlag_115 : decode cX3_readFlag 115 = .ok (.putfield 22, 3) := by decide +kernel
theorem dX3_readFlag_118 : decode cX3_readFlag 118 = .ok (.bipush (-9), 2) := by decide +kernel
theorem dX3_readFlag_120 : decode cX3_readFlag 120 = .ok (.ireturn, 1) := by decide +kernel
theorem dX3_kindOfLetter_0 : decode cX3_kindOfLetter 0 = .ok (.iload_n 0, 1) := by decide +kernel
theorem dX3_kindOfLetter_1 : decode cX3_kindOfLetter 1 = .ok (.lookupswitch 41 #[(102, 35), (104, 37), (119, 39)], 35) := by decide +kernel
theorem dX3_kindOfLetter_36 : decode cX3_kindOfLetter 36 = .ok (.iconst 0, 1) := by decide +kernel
theorem dX3_kindOfLetter_37 : decode cX3_kindOfLetter 37 = .ok (.ireturn, 1) := by decide +kernel
theorem dX3_kindOfLetter_38 : decode cX3_kindOfLetter 38 = .ok (.iconst 1, 1) := by decide +kernel
theorem dX3_kindOfLetter_39 : decode cX3_kindOfLetter 39 = .ok (.ireturn, 1) := by decide +kernel
theorem dX3_kindOfLetter_40 : decode cX3_kindOfLetter 40 = .ok (.iconst 2, 1) := by decide +kernel
theorem dX3_kindOfLetter_41 : decode cX3_kindOfLetter 41 = .ok (.ireturn, 1) := by decide +kernel
theorem dX3_kindOfLetter_42 : decode cX3_kindOfLetter 42 = .ok (.bipush (-9), 2) := by decide +kernel
theorem dX3_kindOfLetter_44 : decode cX3_kindOfLetter 44 = .ok (.ireturn, 1) := by decide +kernel
theorem dJ9_max_7cf53_0 : decode cJ9_max_7cf53 0 = .ok (.iload_n 0, 1) := by decide +kernel
theorem dJ9_max_7cf53_1 : decode cJ9_max_7cf53 1 = .ok (.iload_n 1, 1) := by decide +kernel
theorem dJ9_max_7cf53_2 : decode cJ9_max_7cf53 2 = .ok (.if_icmp .lt 7, 3) := by decide +kernel
theorem dJ9_max_7cf53_5 : decode cJ9_max_7cf53 5 = .ok (.iload_n 0, 1) := by decide +kernel
theorem dJ9_max_7cf53_6 : decode cJ9_max_7cf53 6 = .ok (.goto 4, 3) := by decide +kernel
theorem dJ9_max_7cf53_9 : decode cJ9_max_7cf53 9 = .ok (.iload_n 1, 1) := by decide +kernel
theorem dJ9_max_7cf53_10 : decode cJ9_max_7cf53 10 = .ok (.ireturn, 1) := by decide +kernel
theorem dJ9_min_7cf53_0 : decode cJ9_min_7cf53 0 = .ok (.iload_n 0, 1) := by decide +kernel
theorem dJ9_min_7cf53_1 : decode cJ9_min_7cf53 1 = .ok (.iload_n 1, 1) := by decide +kernel
theorem dJ9_min_7cf53_2 : decode cJ9_min_7cf53 2 = .ok (.if_icmp .gt 7, 3) := by decide +kernel
theorem dJ9_min_7cf53_5 : decode cJ9_min_7cf53 5 = .ok (.iload_n 0, 1) := by decide +kernel
theorem dJ9_min_7cf53_6 : decode cJ9_min_7cf53 6 = .ok (.goto 4, 3) := by decide +kernel
theorem dJ9_min_7cf53_9 : decode cJ9_min_7cf53 9 = .ok (.iload_n 1, 1) := by decide +kernel
theorem dJ9_min_7cf53_10 : decode cJ9_min_7cf53 10 = .ok (.ireturn, 1) := by decide +kernel
theorem dJ7_fill_53178_0 : decode cJ7_fill_53178 0 = .ok (.iconst 0, 1) := by decide +kernel
theorem dJ7_fill_53178_1 : decode cJ7_fill_53178 1 = .ok (.istore_n 2, 1) := by decide +kernel
theorem dJ7_fill_53178_2 : decode cJ7_fill_53178 2 = .ok (.aload_n 0, 1) := by decide +kernel
theorem dJ7_fill_53178_3 : decode cJ7_fill_53178 3 = .ok (.arraylength, 1) := by decide +kernel
theorem dJ7_fill_53178_4 : decode cJ7_fill_53178 4 = .ok (.istore_n 3, 1) := by decide +kernel
theorem dJ7_fill_53178_5 : decode cJ7_fill_53178 5 = .ok (.iload_n 2, 1) := by decide +kernel
theorem dJ7_fill_53178_6 : decode cJ7_fill_53178 6 = .ok (.iload_n 3, 1) := by decide +kernel
theorem dJ7_fill_53178_7 : decode cJ7_fill_53178 7 = .ok (.if_icmp .ge 13, 3) := by decide +kernel
theorem dJ7_fill_53178_10 : decode cJ7_fill_53178 10 = .ok (.aload_n 0, 1) := by decide +kernel
theorem dJ7_fill_53178_11 : decode cJ7_fill_53178 11 = .ok (.iload_n 2, 1) := by decide +kernel
theorem dJ7_fill_53178_12 : decode cJ7_fill_53178 12 = .ok (.iload_n 1, 1) := by decide +kernel
theorem dJ7_fill_53178_13 : decode cJ7_fill_53178 13 = .ok (.iastore, 1) := by decide +kernel
theorem dJ7_fill_53178_14 : decode cJ7_fill_53178 14 = .ok (.iinc 2 1, 3) := by decide +kernel
theorem dJ7_fill_53178_17 : decode cJ7_fill_53178 17 = .ok (.goto (-12), 3) := by decide +kernel
theorem dJ7_fill_53178_20 : decode cJ7_fill_53178 20 = .ok (.return_, 1) := by decide +kernel
