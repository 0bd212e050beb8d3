set_option maxRecDepth 20000 in
theorem ggX4_init_X0_init : GoodIn wsX4_init wsX0_init := goodIn_r _ [28, 29, 2, 3, 30, 31, 32, 33, 34, 35, 36, 82, 83, 84, 85, 86, 87, 88] (by decide +kernel) (by decide +kernel)
set_option maxRecDepth 20000 in
theorem gX4_init_X0_init_n19 : GoodIn wsX4_init (wsX0_init) := ggX4_init_X0_init
set_option maxRecDepth 20000 in
theorem ggX4_init_X2_init : GoodIn wsX4_init wsX2_init := goodIn_r _ [39, 40, 2, 3, 41, 7, 8, 42, 14, 43, 44, 45, 46, 47, 48, 49, 27, 28, 29, 30, 31, 32, 33, 34, 35, 36, 50, 51, 52, 53, 82, 83, 84, 85, 86, 87, 88, 89, 90, 91, 92, 93, 94, 95, 96] (by decide +kernel) (by decide +kernel)
set_option maxRecDepth 20000 in
theorem gX4_init_X2_init : GoodIn wsX4_init (wsX2_init) := ggX4_init_X2_init
set_option maxRecDepth 20000 in
theorem ggX4_init_X3_init : GoodIn wsX4_init wsX3_init := goodIn_r _ [55, 56, 2, 3, 14, 57, 58, 59, 60, 61, 62, 63, 64, 97, 98, 99, 100, 101, 102, 103] (by decide +kernel) (by decide +kernel)
set_option maxRecDepth 20000 in
theorem gX4_init_X3_init_n40 : GoodIn wsX4_init (wsX3_init) := ggX4_init_X3_init
set_option maxRecDepth 20000 in
theorem ggX4_init_X1_init : GoodIn wsX4_init wsX1_init := goodIn_r _ [66, 67, 2, 3, 14, 68, 69, 70, 71, 104, 105, 106, 107] (by decide +kernel) (by decide +kernel)
set_option maxRecDepth 20000 in
theorem gX4_init_X1_init_n58 : GoodIn wsX4_init (wsX1_init) := ggX4_init_X1_init
theorem dX4_init_0 : decode cX4_init 0 = .ok (.aload_n 0, 1) := by decide +kernel
theorem dX4_init_1 : decode cX4_init 1 = .ok (.invokespecial 3, 3) := by decide +kernel
theorem dX4_init_4 : decode cX4_init 4 = .ok (.aload_n 0, 1) := by decide +kernel
theorem dX4_init_5 : decode cX4_init 5 = .ok (.iconst 4, 1) := by decide +kernel
theorem dX4_init_6 : decode cX4_init 6 = .ok (.anewarray 11, 3) := by decide +kernel
theorem dX4_init_9 : decode cX4_init 9 = .ok (.putfield 13, 3) := by decide +kernel
theorem dX4_init_12 : decode cX4_init 12 = .ok (.aload_n 0, 1) := by decide +kernel
theorem dX4_init_13 : decode cX4_init 13 = .ok (.new 17, 3) := by decide +kernel
theorem dX4_init_16 : decode cX4_init 16 = .ok (.dup, 1) := by decide +kernel
theorem dX4_init_17 : decode cX4_init 17 = .ok (.invokespecial 19, 3) := by decide +kernel
theorem dX4_init_20 : decode cX4_init 20 = .ok (.putfield 20, 3) := by decide +kernel
theorem dX4_init_23 : decode cX4_init 23 = .ok (.aload_n 0, 1) := by decide +kernel
theorem dX4_init_24 : decode cX4_init 24 = .ok (.new 24, 3) := by decide +kernel
theorem dX4_init_27 : decode cX4_init 27 = .ok (.dup, 1) := by decide +kernel
theorem dX4_init_28 : decode cX4_init 28 = .ok (.invokespecial 26, 3) := by decide +kernel
theorem dX4_init_31 : decode cX4_init 31 = .ok (.putfield 27, 3) := by decide +kernel
theorem dX4_init_34 : decode cX4_init 34 = .ok (.aload_n 0, 1) := by decide +kernel
theorem dX4_init_35 : decode cX4_init 35 = .ok (.bipush 8, 2) := by decide +kernel
theorem dX4_init_37 : decode cX4_init 37 = .ok (.newarray .int, 2) := by decide +kernel
theorem dX4_init_39 : decode cX4_init 39 = .ok (.putfield 31, 3) := by decide +kernel
theorem dX4_init_42 : decode cX4_init 42 = .ok (.aload_n 0, 1) := by decide +kernel
theorem dX4_init_43 : decode cX4_init 43 = .ok (.iconst 4, 1) := by decide +kernel
theorem dX4_init_44 : decode cX4_init 44 = .ok (.newarray .int, 2) := by decide +kernel
theorem dX4_init_46 : decode cX4_init 46 = .ok (.putfield 35, 3) := by decide +kernel
theorem dX4_init_49 : decode cX4_init 49 = .ok (.aload_n 0, 1) := by decide +kernel
theorem dX4_init_50 : decode cX4_init 50 = .ok (.new 38, 3) := by decide +kernel
theorem dX4_init_53 : decode cX4_init 53 = .ok (.dup, 1) := by decide +kernel
theorem dX4_init_54 : decode cX4_init 54 = .ok (.invokespecial 40, 3) := by decide +kernel
theorem dX4_init_57 : decode cX4_init 57 = .ok (.putfield 41, 3) := by decide +kernel
theorem dX4_init_60 : decode cX4_init 60 = .ok (.aload_n 0, 1) := by decide +kernel
theorem dX4_init_61 : decode cX4_init 61 = .ok (.new 38, 3) := by decide +kernel
theorem dX4_init_64 : decode cX4_init 64 = .ok (.dup, 1) := by decide +kernel
theorem dX4_init_65 : decode cX4_init 65 = .ok (.invokespecial 40, 3) := by decide +kernel
theorem dX4_init_68 : decode cX4_init 68 = .ok (.putfield 45, 3) := by decide +kernel
theorem dX4_init_71 : decode cX4_init 71 = .ok (.aload_n 0, 1) := by decide +kernel
theorem dX4_init_72 : decode cX4_init 72 = .ok (.iconst 0, 1) := by decide +kernel
theorem dX4_init_73 : decode cX4_init 73 = .ok (.putfield 48, 3) := by decide +kernel
theorem dX4_init_76 : decode cX4_init 76 = .ok (.aload_n 0, 1) := by decide +kernel
theorem dX4_init_77 : decode cX4_init 77 = .ok (.iconst 0, 1) := by decide +kernel
theorem dX4_init_78 : decode cX4_init 78 = .ok (.putfield 52, 3) := by decide +kernel
theorem dX4_init_81 : decode cX4_init 81 = .ok (.aload_n 0, 1) := by decide +kernel
theorem dX4_init_82 : decode cX4_init 82 = .ok (.iconst 0, 1) := by decide +kernel
theorem dX4_init_83 : decode cX4_init 83 = .ok (.putfield 55, 3) := by decide +kernel
theorem dX4_init_86 : decode cX4_init 86 = .ok (.iconst 0, 1) := by decide +kernel
theorem dX4_init_87 : decode cX4_init 87 = .ok (.istore_n 1, 1) := by decide +kernel
theorem dX4_init_88 : decode cX4_init 88 = .ok (.iload_n 1, 1) := by decide +kernel
theorem dX4_init_89 : decode cX4_init 89 = .ok (.iconst 4, 1) := by decide +kernel
theorem dX4_init_90 : decode cX4_init 90 = .ok (.if_icmp .ge 22, 3) := by decide +kernel
theorem dX4_init_93 : decode cX4_init 93 = .ok (.aload_n 0, 1) := by decide +kernel
theorem dX4_init_94 : decode cX4_init 94 = .ok (.getfield 13, 3) := by decide +kernel
theorem dX4_init_97 : decode cX4_init 97 = .ok (.iload_n 1, 1) := by decide +kernel
theorem dX4_init_98 : decode cX4_init 98 = .ok (.new 11, 3) := by decide +kernel
theorem dX4_init_101 : decode cX4_init 101 = .ok (.dup, 1) := by decide +kernel
theorem dX4_init_102 : decode cX4_init 102 = .ok (.invokespecial 58, 3) := by decide +kernel
theorem dX4_init_105 : decode cX4_init 105 = .ok (.aastore, 1) := by decide +kernel
theorem dX4_init_106 : decode cX4_init 106 = .ok (.iinc 1 1, 3) := by decide +kernel
theorem dX4_init_109 : decode cX4_init 109 = .ok (.goto (-21), 3) := by decide +kernel
theorem dX4_init_112 : decode cX4_init 112 = .ok (.return_, 1) := by decide +kernel
set_option maxRecDepth 20000 in
theorem ggX4_street_X4_isSheet : GoodIn wsX4_street wsX4_isSheet := goodIn_r _ [11] (by decide +kernel) (by decide +kernel)
set_option maxRecDepth 20000 in
theorem gX4_street_X4_isSheet : GoodIn wsX4_street (va_wsS RX4 59 yX4_isSheet wsX4_isSheet) := goodIn_app (goodIn_of _ (by decide +kernel)) ggX4_street_X4_isSheet
set_option maxRecDepth 20000 in
theorem ggX4_street_X4_isLane : GoodIn wsX4_street wsX4_isLane := goodIn_r _ [14] (by decide +kernel) (by decide +kernel)
set_option maxRecDepth 20000 in
theorem gX4_street_X4_isLane : GoodIn wsX4_street (va_wsS RX4 63 yX4_isLane wsX4_isLane) := goodIn_app (goodIn_of _ (by decide +kernel)) ggX4_street_X4_isLane
set_option maxRecDepth 20000 in
theorem ggX4_street_X1_isUnlike : GoodIn wsX4_street wsX1_isUnlike := goodIn_r _ [19, 20, 21, 71, 72, 73, 74] (by decide +kernel) (by decide +kernel)
set_option maxRecDepth 20000 in
theorem gX4_street_X1_isUnlike : GoodIn wsX4_street (wsV RX4 66 RX1 yX1_isUnlike wsX1_isUnlike) := goodIn_app (goodIn_of _ (by decide +kernel)) ggX4_street_X1_isUnlike
set_option maxRecDepth 20000 in
theorem ggX4_street_X4_failed : GoodIn wsX4_street wsX4_failed := goodIn_r _ [25, 1, 61, 62, 63, 64, 65, 66, 67, 68, 69, 70] (by decide +kernel) (by decide +kernel)
set_option maxRecDepth 20000 in
theorem gX4_street_X4_failed : GoodIn wsX4_street (wsV RX4 69 RX4 yX4_failed wsX4_failed) := goodIn_app (goodIn_of _ (by decide +kernel)) ggX4_street_X4_failed
set_option maxRecDepth 20000 in
theorem ggX4_street_X1_holds : GoodIn wsX4_street wsX1_holds := goodIn_r _ [29, 30, 71, 72, 73, 74] (by decide +kernel) (by decide +kernel)
set_option maxRecDepth 20000 in
theorem gX4_street_X1_holds : GoodIn wsX4_street (wsV RX4 77 RX1 yX1_holds wsX1_holds) := goodIn_app (goodIn_of _ (by decide +kernel)) ggX4_street_X1_holds
set_option maxRecDepth 20000 in
theorem ggX4_street_X3_readText : GoodIn wsX4_street wsX3_readText := goodIn_r _ [35, 36, 37, 38, 39, 40, 34, 41, 42, 43, 44, 45, 46, 47, 48, 49, 18, 50, 30, 51, 52, 53, 54, 55, 56, 57, 58, 59, 60, 75, 76, 77, 78, 79, 80, 81, 71, 72, 73, 74] (by decide +kernel) (by decide +kernel)
set_option maxRecDepth 20000 in
theorem gX4_street_X3_readText : GoodIn wsX4_street (wsV RX4 81 RX3 yX3_readText wsX3_readText) := goodIn_app (goodIn_of _ (by decide +kernel)) ggX4_street_X3_readText
theorem dX4_street_0 : decode cX4_street 0 = .ok (.aload_n 0, 1) := by decide +kernel
theorem dX4_street_1 : decode cX4_street 1 = .ok (.iconst 0, 1) := by decide +kernel
theorem dX4_street_2 : decode cX4_street 2 = .ok (.putfield 55, 3) := by decide +kernel
theorem dX4_street_5 : decode cX4_street 5 = .ok (.iload_n 1, 1) := by decide +kernel
theorem dX4_street_6 : decode cX4_street 6 = .ok (.invokestatic 59, 3) := by decide +kernel
theorem dX4_street_9 : decode cX4_street 9 = .ok (.ifCond .ne 5, 3) := by decide +kernel
theorem dX4_street_12 : decode cX4_street 12 = .ok (.iconst (-1), 1) := by decide +kernel
theorem dX4_street_13 : decode cX4_street 13 = .ok (.ireturn, 1) := by decide +kernel
theorem dX4_street_14 : decode cX4_street 14 = .ok (.iload_n 2, 1) := by decide +kernel
theorem dX4_street_15 : decode cX4_street 15 = .ok (.invokestatic 63, 3) := by decide +kernel
theorem dX4_street_18 : decode cX4_street 18 = .ok (.ifCond .ne 6, 3) := by decide +kernel
theorem dX4_street_21 : decode cX4_street 21 = .ok (.bipush (-2), 2) := by decide +kernel
theorem dX4_street_23 : decode cX4_street 23 = .ok (.ireturn, 1) := by decide +kernel
theorem dX4_street_24 : decode cX4_street 24 = .ok (.aload_n 0, 1) := by decide +kernel
theorem dX4_street_25 : decode cX4_street 25 = .ok (.getfield 13, 3) := by decide +kernel
theorem dX4_street_28 : decode cX4_street 28 = .ok (.iload_n 1, 1) := by decide +kernel
theorem dX4_street_29 : decode cX4_street 29 = .ok (.aaload, 1) := by decide +kernel
theorem dX4_street_30 : decode cX4_street 30 = .ok (.astore 5, 2) := by decide +kernel
theorem dX4_street_32 : decode cX4_street 32 = .ok (.aload 5, 2) := by decide +kernel
theorem dX4_street_34 : decode cX4_street 34 = .ok (.iload_n 2, 1) := by decide +kernel
theorem dX4_street_35 : decode cX4_street 35 = .ok (.invokevirtual 66, 3) := by decide +kernel
theorem dX4_street_38 : decode cX4_street 38 = .ok (.ifCond .eq 9, 3) := by decide +kernel
theorem dX4_street_41 : decode cX4_street 41 = .ok (.aload_n 0, 1) := by decide +kernel
theorem dX4_street_42 : decode cX4_street 42 = .ok (.iconst 2, 1) := by decide +kernel
theorem dX4_street_43 : decode cX4_street 43 = .ok (.invokevirtual 69, 3) := by decide +kernel
theorem dX4_street_46 : decode cX4_street 46 = .ok (.ireturn, 1) := by decide +kernel
theorem dX4_street_47 : decode cX4_street 47 = .ok (.aload 5, 2) := by decide +kernel
theorem dX4_street_49 : decode cX4_street 49 = .ok (.getfield 73, 3) := by decide +kernel
theorem dX4_street_52 : decode cX4_street 52 = .ok (.ifCond .ne 9, 3) := by decide +kernel
theorem dX4_street_55 : decode cX4_street 55 = .ok (.aload_n 0, 1) := by decide +kernel
theorem dX4_street_56 : decode cX4_street 56 = .ok (.iconst 1, 1) := by decide +kernel
theorem dX4_street_57 : decode cX4_street 57 = .ok (.invokevirtual 69, 3) := by decide +kernel
theorem dX4_street_60 : decode cX4_street 60 = .ok (.ireturn, 1) := by decide +kernel
theorem dX4_street_61 : decode cX4_street 61 = .ok (.iload 4, 2) := by decide +kernel
theorem dX4_street_63 : decode cX4_street 63 = .ok (.ifCond .ge 9, 3) := by decide +kernel
theorem dX4_street_66 : decode cX4_street 66 = .ok (.aload_n 0, 1) := by decide +kernel
theorem dX4_street_67 : decode cX4_street 67 = .ok (.iconst 4, 1) := by decide +kernel
theorem dX4_street_68 : decode cX4_street 68 = .ok (.invokevirtual 69, 3) := by decide +kernel
theorem dX4_street_71 : decode cX4_street 71 = .ok (.ireturn, 1) := by decide +kernel
theorem dX4_street_72 : decode cX4_street 72 = .ok (.aload 5, 2) := by decide +kernel
theorem dX4_street_74 : decode cX4_street 74 = .ok (.iload_n 3, 1) := by decide +kernel
theorem dX4_street_75 : decode cX4_street 75 = .ok (.iload 4, 2) := by decide +kernel
theorem dX4_street_77 : decode cX4_street 77 = .ok (.invokevirtual 77, 3) := by decide +kernel
theorem dX4_street_80 : decode cX4_street 80 = .ok (.ifCond .ne 9, 3) := by decide +kernel
theorem dX4_street_83 : decode cX4_street 83 = .ok (.aload_n 0, 1) := by decide +kernel
theorem dX4_street_84 : decode cX4_street 84 = .ok (.iconst 3, 1) := by decide +kernel
theorem dX4_street_85 : decode cX4_street 85 = .ok (.invokevirtual 69, 3) := by decide +kernel
theorem dX4_street_88 : decode cX4_street 88 = .ok (.ireturn, 1) := by decide +kernel
theorem dX4_street_89 : decode cX4_street 89 = .ok (.aload_n 0, 1) := by decide +kernel
theorem dX4_street_90 : decode cX4_street 90 = .ok (.getfield 45, 3) := by decide +kernel
theorem dX4_street_93 : decode cX4_street 93 = .ok (.aload 5, 2) := by decide +kernel
theorem dX4_street_95 : decode cX4_street 95 = .ok (.iload_n 3, 1) := by decide +kernel
theorem dX4_street_96 : decode cX4_street 96 = .ok (.iload 4, 2) := by decide +kernel
theorem dX4_street_98 : decode cX4_street 98 = .ok (.invokevirtual 81, 3) := by decide +kernel
theorem dX4_street_101 : decode cX4_street 101 = .ok (.istore 6, 2) := by decide +kernel
theorem dX4_street_103 : decode cX4_street 103 = .ok (.iload 6, 2) := by decide +kernel
theorem dX4_street_105 : decode cX4_street 105 = .ok (.bipush (-9), 2) := by decide +kernel
theorem dX4_street_107 : decode cX4_street 107 = .ok (.if_icmp .eq 9, 3) := by decide +kernel
theorem dX4_street_110 : decode cX4_street 110 = .ok (.bipush (-100), 2) := by decide +kernel
theorem dX4_street_112 : decode cX4_street 112 = .ok (.iload 6, 2) := by decide +kernel
theorem dX4_street_114 : decode cX4_street 114 = .ok (.isub, 1) := by decide +kernel
theorem dX4_street_115 : decode cX4_street 115 = .ok (.ireturn, 1) := by decide +kernel
theorem dX4_street_116 : decode cX4_street 116 = .ok (.aload_n 0, 1) := by decide +kernel
theorem dX4_street_117 : decode cX4_street 117 = .ok (.getfield 41, 3) := by decide +kernel
theorem dX4_street_120 : decode cX4_street 120 = .ok (.astore 7, 2) := by decide +kernel
theorem dX4_street_122 : decode cX4_street 122 = .ok (.aload_n 0, 1) := by decide +kernel
theorem dX4_street_123 : decode cX4_street 123 = .ok (.aload_n 0, 1) := by decide +kernel
theorem dX4_street_124 : decode cX4_street 124 = .ok (.getfield 45, 3) := by decide +kernel
theorem dX4_street_127 : decode cX4_street 127 = .ok (.putfield 41, 3) := by decide +kernel
theorem dX4_street_130 : decode cX4_street 130 = .ok (.aload_n 0, 1) := by decide +kernel
theorem dX4_street_131 : decode cX4_street 131 = .ok (.aload 7, 2) := by decide +kernel
theorem dX4_street_133 : decode cX4_street 133 = .ok (.putfield 45, 3) := by decide +kernel
theorem dX4_street_136 : decode cX4_street 136 = .ok (.aload_n 0, 1) := by decide +kernel
theorem dX4_street_137 : decode cX4_street 137 = .ok (.iconst 0, 1) := by decide +kernel
theorem dX4_street_138 : decode cX4_street 138 = .ok (.putfield 48, 3) := by decide +kernel
theorem dX4_street_141 : decode cX4_street 141 = .ok (.aload_n 0, 1) := by decide +kernel
theorem dX4_street_142 : decode cX4_street 142 = .ok (.getfield 41, 3) := by decide +kernel
theorem dX4_street_145 : decode cX4_street 145 = .ok (.getfield 85, 3) := by decide +kernel
theorem dX4_street_148 : decode cX4_street 148 = .ok (.ireturn, 1) := by decide +kernel
set_option maxRecDepth 20000 in
theorem ggX4_ofFlag_X3_has : GoodIn wsX4_ofFlag wsX3_has := goodIn_r _ [9, 10, 27, 28, 29, 30, 31, 32, 33] (by decide +kernel) (by decide +kernel)
set_option maxRecDepth 20000 in
theorem gX4_ofFlag_X3_has : GoodIn wsX4_ofFlag (wsV RX4 88 RX3 yX3_has wsX3_has) := goodIn_app (goodIn_of _ (by decide +kernel)) ggX4_ofFlag_X3_has
set_option maxRecDepth 20000 in
theorem ggX4_ofFlag_X3_dragOf : GoodIn wsX4_ofFlag wsX3_dragOf := goodIn_r _ [14, 10, 15, 16, 27, 28, 29, 30, 31, 32, 33] (by decide +kernel) (by decide +kernel)
set_option maxRecDepth 20000 in
theorem gX4_ofFlag_X3_dragOf : GoodIn wsX4_ofFlag (wsV RX4 97 RX3 yX3_dragOf wsX3_dragOf) := goodIn_app (goodIn_of _ (by decide +kernel)) ggX4_ofFlag_X3_dragOf
theorem dX4_ofFlag_0 : decode cX4_ofFlag 0 = .ok (.aload_n 0, 1) := by decide +kernel
theorem dX4_ofFlag_1 : decode cX4_ofFlag 1 = .ok (.getfield 41, 3) := by decide +kernel
theorem dX4_ofFlag_4 : decode cX4_ofFlag 4 = .ok (.iload_n 1, 1) := by decide +kernel
theorem dX4_ofFlag_5 : decode cX4_ofFlag 5 = .ok (.invokevirtual 88, 3) := by decide +kernel
theorem dX4_ofFlag_8 : decode cX4_ofFlag 8 = .ok (.ifCond .ne 5, 3) := by decide +kernel
theorem dX4_ofFlag_11 : decode cX4_ofFlag 11 = .ok (.iconst (-1), 1) := by decide +kernel
theorem dX4_ofFlag_12 : decode cX4_ofFlag 12 = .ok (.ireturn, 1) := by decide +kernel
theorem dX4_ofFlag_13 : decode cX4_ofFlag 13 = .ok (.iload_n 2, 1) := by decide +kernel
theorem dX4_ofFlag_14 : decode cX4_ofFlag 14 = .ok (.tableswitch 77 0 3 #[30, 40, 50, 59], 30) := by decide +kernel
theorem dX4_ofFlag_44 : decode cX4_ofFlag 44 = .ok (.aload_n 0, 1) := by decide +kernel
theorem dX4_ofFlag_45 : decode cX4_ofFlag 45 = .ok (.getfield 41, 3) := by decide +kernel
theorem dX4_ofFlag_48 : decode cX4_ofFlag 48 = .ok (.getfield 91, 3) := by decide +kernel
theorem dX4_ofFlag_51 : decode cX4_ofFlag 51 = .ok (.iload_n 1, 1) := by decide +kernel
theorem dX4_ofFlag_52 : decode cX4_ofFlag 52 = .ok (.iaload, 1) := by decide +kernel
theorem dX4_ofFlag_53 : decode cX4_ofFlag 53 = .ok (.ireturn, 1) := by decide +kernel
theorem dX4_ofFlag_54 : decode cX4_ofFlag 54 = .ok (.aload_n 0, 1) := by decide +kernel
theorem dX4_ofFlag_55 : decode cX4_ofFlag 55 = .ok (.getfield 41, 3) := by decide +kernel
theorem dX4_ofFlag_58 : decode cX4_ofFlag 58 = .ok (.getfield 94, 3) := by decide +kernel
theorem dX4_ofFlag_61 : decode cX4_ofFlag 61 = .ok (.iload_n 1, 1) := by decide +kernel
theorem dX4_ofFlag_62 : decode cX4_ofFlag 62 = .ok (.iaload, 1) := by decide +kernel
theorem dX4_ofFlag_63 : decode cX4_ofFlag 63 = .ok (.ireturn, 1) := by decide +kernel
theorem dX4_ofFlag_64 : decode cX4_ofFlag 64 = .ok (.aload_n 0, 1) := by decide +kernel
theorem dX4_ofFlag_65 : decode cX4_ofFlag 65 = .ok (.getfield 41, 3) := by decide +kernel
theorem dX4_ofFlag_68 : decode cX4_ofFlag 68 = .ok (.iload_n 1, 1) := by decide +kernel
theorem dX4_ofFlag_69 : decode cX4_ofFlag 69 = .ok (.invokevirtual 97, 3) := by decide +kernel
theorem dX4_ofFlag_72 : decode cX4_ofFlag 72 = .ok (.ireturn, 1) := by decide +kernel
theorem dX4_ofFlag_73 : decode cX4_ofFlag 73 = .ok (.aload_n 0, 1) := by decide +kernel
theorem dX4_ofFlag_74 : decode cX4_ofFlag 74 = .ok (.getfield 41, 3) := by decide +kernel
theorem dX4_ofFlag_77 : decode cX4_ofFlag 77 = .ok (.getfield 100, 3) := by decide +kernel
theorem dX4_ofFlag_80 : decode cX4_ofFlag 80 = .ok (.iload_n 1, 1) := by decide +kernel
theorem dX4_ofFlag_81 : decode cX4_ofFlag 81 = .ok (.baload, 1) := by decide +kernel
theorem dX4_ofFlag_82 : decode cX4_ofFlag 82 = .ok (.ifCond .eq 7, 3) := by decide +kernel
theorem dX4_ofFlag_85 : decode cX4_ofFlag 85 = .ok (.iconst 1, 1) := by decide +kernel
theorem dX4_ofFlag_86 : decode cX4_ofFlag 86 = .ok (.goto 4, 3) := by decide +kernel
theorem dX4_ofFlag_89 : decode cX4_ofFlag 89 = .ok (.iconst 0, 1) := by decide +kernel
theorem dX4_ofFlag_90 : decode cX4_ofFlag 90 = .ok (.ireturn, 1) := by decide +kernel
theorem dX4_ofFlag_91 : decode cX4_ofFlag 91 = .ok (.bipush (-2), 2) := by decide +kernel
theorem dX4_ofFlag_93 : decode cX4_ofFlag 93 = .ok (.ireturn, 1) := by decide +kernel
set_option maxRecDepth 20000 in
theorem ggX4_strong_X3_isNone : GoodIn wsX4_strong wsX3_isNone := goodIn_r _ [7, 8, 19, 20, 21, 22, 23, 24, 25] (by decide +kernel) (by decide +kernel)
set_option maxRecDepth 20000 in
theorem gX4_strong_X3_isNone : GoodIn wsX4_strong (wsV RX4 104 RX3 yX3_isNone wsX3_isNone) := goodIn_app (goodIn_of _ (by decide +kernel)) ggX4_strong_X3_isNone
theorem dX4_strong_0 : decode cX4_strong 0 = .ok (.iload_n 1, 1) := by decide +kernel
theorem dX4_strong_1 : decode cX4_strong 1 = .ok (.iconst 1, 1) := by decide +kernel
theorem dX4_strong_2 : decode cX4_strong 2 = .ok (.if_icmp .lt 8, 3) := by decide +kernel
theorem dX4_strong_5 : decode cX4_strong 5 = .ok (.iload_n 1, 1) := by decide +kernel
theorem dX4_strong_6 : decode cX4_strong 6 = .ok (.iconst 4, 1) := by decide +kernel
theorem dX4_strong_7 : decode cX4_strong 7 = .ok (.if_icmp .le 6, 3) := by decide +kernel
theorem dX4_strong_10 : decode cX4_strong 10 = .ok (.bipush (-2), 2) := by decide +kernel
theorem dX4_strong_12 : decode cX4_strong 12 = .ok (.ireturn, 1) := by decide +kernel
theorem dX4_strong_13 : decode cX4_strong 13 = .ok (.aload_n 0, 1) := by decide +kernel
theorem dX4_strong_14 : decode cX4_strong 14 = .ok (.getfield 41, 3) := by decide +kernel
theorem dX4_strong_17 : decode cX4_strong 17 = .ok (.invokevirtual 104, 3) := by decide +kernel
theorem dX4_strong_20 : decode cX4_strong 20 = .ok (.ifCond .eq 6, 3) := by decide +kernel
theorem dX4_strong_23 : decode cX4_strong 23 = .ok (.bipush (-3), 2) := by decide +kernel
theorem dX4_strong_25 : decode cX4_strong 25 = .ok (.ireturn, 1) := by decide +kernel
theorem dX4_strong_26 : decode cX4_strong 26 = .ok (.aload_n 0, 1) := by decide +kernel
theorem dX4_strong_27 : decode cX4_strong 27 = .ok (.getfield 41, 3) := by decide +kernel
theorem dX4_strong_30 : decode cX4_strong 30 = .ok (.getfield 108, 3) := by decide +kernel
theorem dX4_strong_33 : decode cX4_strong 33 = .ok (.istore_n 2, 1) := by decide +kernel
theorem dX4_strong_34 : decode cX4_strong 34 = .ok (.aload_n 0, 1) := by decide +kernel
theorem dX4_strong_35 : decode cX4_strong 35 = .ok (.getfield 41, 3) := by decide +kernel
theorem dX4_strong_38 : decode cX4_strong 38 = .ok (.iload_n 1, 1) := by decide +kernel
theorem dX4_strong_39 : decode cX4_strong 39 = .ok (.putfield 108, 3) := by decide +kernel
theorem dX4_strong_42 : decode cX4_strong 42 = .ok (.iload_n 2, 1) := by decide +kernel
theorem dX4_strong_43 : decode cX4_strong 43 = .ok (.ireturn, 1) := by decide +kernel
set_option maxRecDepth 20000 in
theorem ggX4_knee_X3_isNone : GoodIn wsX4_knee wsX3_isNone := goodIn_r _ [7, 8, 19, 20, 21, 22, 23, 24, 25] (by decide +kernel) (by decide +kernel)
set_option maxRecDepth 20000 in
theorem gX4_knee_X3_isNone : GoodIn wsX4_knee (wsV RX4 104 RX3 yX3_isNone wsX3_isNone) := goodIn_app (goodIn_of _ (by decide +kernel)) ggX4_knee_X3_isNone
theorem dX4_knee_0 : decode cX4_knee 0 = .ok (.iload_n 1, 1) := by decide +kernel
theorem dX4_knee_1 : decode cX4_knee 1 = .ok (.iconst 1, 1) := by decide +kernel
theorem dX4_knee_2 : decode cX4_knee 2 = .ok (.if_icmp .lt 8, 3) := by decide +kernel
theorem dX4_knee_5 : decode cX4_knee 5 = .ok (.iload_n 1, 1) := by decide +kernel
theorem dX4_knee_6 : decode cX4_knee 6 = .ok (.iconst 3, 1) := by decide +kernel
theorem dX4_knee_7 : decode cX4_knee 7 = .ok (.if_icmp .le 6, 3) := by decide +kernel
theorem dX4_knee_10 : decode cX4_knee 10 = .ok (.bipush (-2), 2) := by decide +kernel
theorem dX4_knee_12 : decode cX4_knee 12 = .ok (.ireturn, 1) := by decide +kernel
theorem dX4_knee_13 : decode cX4_knee 13 = .ok (.aload_n 0, 1) := by decide +kernel
theorem dX4_knee_14 : decode cX4_knee 14 = .ok (.getfield 41, 3) := by decide +kernel
theorem dX4_knee_17 : decode cX4_knee 17 = .ok (.invokevirtual 104, 3) := by decide +kernel
theorem dX4_knee_20 : decode cX4_knee 20 = .ok (.ifCond .eq 6, 3) := by decide +kernel
theorem dX4_knee_23 : decode cX4_knee 23 = .ok (.bipush (-3), 2) := by decide +kernel
theorem dX4_knee_25 : decode cX4_knee 25 = .ok (.ireturn, 1) := by decide +kernel
theorem dX4_knee_26 : decode cX4_knee 26 = .ok (.aload_n 0, 1) := by decide +kernel
theorem dX4_knee_27 : decode cX4_knee 27 = .ok (.getfield 41, 3) := by decide +kernel
theorem dX4_knee_30 : decode cX4_knee 30 = .ok (.getfield 111, 3) := by decide +kernel
theorem dX4_knee_33 : decode cX4_knee 33 = .ok (.istore_n 2, 1) := by decide +kernel
theorem dX4_knee_34 : decode cX4_knee 34 = .ok (.aload_n 0, 1) := by decide +kernel
theorem dX4_knee_35 : decode cX4_knee 35 = .ok (.getfield 41, 3) := by decide +kernel
theorem dX4_knee_38 : decode cX4_knee 38 = .ok (.iload_n 1, 1) := by decide +kernel
theorem dX4_knee_39 : decode cX4_knee 39 = .ok (.putfield 111, 3) := by decide +kernel
theorem dX4_knee_42 : decode cX4_knee 42 = .ok (.iload_n 2, 1) := by decide +kernel
theorem dX4_knee_43 : decode cX4_knee 43 = .ok (.ireturn, 1) := by decide +kernel
set_option maxRecDepth 20000 in
theorem ggX4_sole_X3_isNone : GoodIn wsX4_sole wsX3_isNone := goodIn_r _ [7, 8, 19, 20, 21, 22, 23, 24, 25] (by decide +kernel) (by decide +kernel)
set_option maxRecDepth 20000 in
theorem gX4_sole_X3_isNone : GoodIn wsX4_sole (wsV RX4 104 RX3 yX3_isNone wsX3_isNone) := goodIn_app (goodIn_of _ (by decide +kernel)) ggX4_sole_X3_isNone
theorem dX4_sole_0 : decode cX4_sole 0 = .ok (.iload_n 1, 1) := by decide +kernel
theorem dX4_sole_1 : decode cX4_sole 1 = .ok (.ifCond .lt 8, 3) := by decide +kernel
theorem dX4_sole_4 : decode cX4_sole 4 = .ok (.iload_n 1, 1) := by decide +kernel
theorem dX4_sole_5 : decode cX4_sole 5 = .ok (.iconst 2, 1) := by decide +kernel
theorem dX4_sole_6 : decode cX4_sole 6 = .ok (.if_icmp .le 6, 3) := by decide +kernel
theorem dX4_sole_9 : decode cX4_sole 9 = .ok (.bipush (-2), 2) := by decide +kernel
theorem dX4_sole_11 : decode cX4_sole 11 = .ok (.ireturn, 1) := by decide +kernel
theorem dX4_sole_12 : decode cX4_sole 12 = .ok (.aload_n 0, 1) := by decide +kernel
theorem dX4_sole_13 : decode cX4_sole 13 = .ok (.getfield 41, 3) := by decide +kernel
theorem dX4_sole_16 : decode cX4_sole 16 = .ok (.invokevirtual 104, 3) := by decide +kernel
theorem dX4_sole_19 : decode cX4_sole 19 = .ok (.ifCond .eq 6, 3) := by decide +kernel
theorem dX4_sole_22 : decode cX4_sole 22 = .ok (.bipush (-3), 2) := by decide +kernel
theorem dX4_sole_24 : decode cX4_sole 24 = .ok (.ireturn, 1) := by decide +kernel
theorem dX4_sole_25 : decode cX4_sole 25 = .ok (.aload_n 0, 1) := by decide +kernel
theorem dX4_sole_26 : decode cX4_sole 26 = .ok (.getfield 41, 3) := by decide +kernel
theorem dX4_sole_29 : decode cX4_sole 29 = .ok (.getfield 114, 3) := by decide +kernel
theorem dX4_sole_32 : decode cX4_sole 32 = .ok (.istore_n 2, 1) := by decide +kernel
theorem dX4_sole_33 : decode cX4_sole 33 = .ok (.aload_n 0, 1) := by decide +kernel
theorem dX4_sole_34 : decode cX4_sole 34 = .ok (.getfield 41, 3) := by decide +kernel
theorem dX4_sole_37 : decode cX4_sole 37 = .ok (.iload_n 1, 1) := by decide +kernel
theorem dX4_sole_38 : decode cX4_sole 38 = .ok (.putfield 114, 3) := by decide +kernel
theorem dX4_sole_41 : decode cX4_sole 41 = .ok (.iload_n 2, 1) := by decide +kernel
theorem dX4_sole_42 : decode cX4_sole 42 = .ok (.ireturn, 1) := by decide +kernel
set_option maxRecDepth 20000 in
theorem ggX4_grating_X3_has : GoodIn wsX4_grating wsX3_has := goodIn_r _ [7, 8, 19, 20, 21, 22, 23, 24, 25] (by decide +kernel) (by decide +kernel)
set_option maxRecDepth 20000 in
theorem gX4_grating_X3_has : GoodIn wsX4_grating (wsV RX4 88 RX3 yX3_has wsX3_has) := goodIn_app (goodIn_of _ (by decide +kernel)) ggX4_grating_X3_has
theorem dX4_grating_0 : decode cX4_grating 0 = .ok (.aload_n 0, 1) := by decide +kernel
theorem dX4_grating_1 : decode cX4_grating 1 = .ok (.getfield 41, 3) := by decide +kernel
theorem dX4_grating_4 : decode cX4_grating 4 = .ok (.iload_n 1, 1) := by decide +kernel
theorem dX4_grating_5 : decode cX4_grating 5 = .ok (.invokevirtual 88, 3) := by decide +kernel
theorem dX4_grating_8 : decode cX4_grating 8 = .ok (.ifCond .ne 5, 3) := by decide +kernel
theorem dX4_grating_11 : decode cX4_grating 11 = .ok (.iconst (-1), 1) := by decide +kernel
theorem dX4_grating_12 : decode cX4_grating 12 = .ok (.ireturn, 1) := by decide +kernel
theorem dX4_grating_13 : decode cX4_grating 13 = .ok (.aload_n 0, 1) := by decide +kernel
theorem dX4_grating_14 : decode cX4_grating 14 = .ok (.getfield 41, 3) := by decide +kernel
theorem dX4_grating_17 : decode cX4_grating 17 = .ok (.getfield 100, 3) := by decide +kernel
theorem dX4_grating_20 : decode cX4_grating 20 = .ok (.iload_n 1, 1) := by decide +kernel
theorem dX4_grating_21 : decode cX4_grating 21 = .ok (.baload, 1) := by decide +kernel
theorem dX4_grating_22 : decode cX4_grating 22 = .ok (.iload_n 2, 1) := by decide +kernel
theorem dX4_grating_23 : decode cX4_grating 23 = .ok (.if_icmp .ne 5, 3) := by decide +kernel
theorem dX4_grating_26 : decode cX4_grating 26 = .ok (.iconst 0, 1) := by decide +kernel
theorem dX4_grating_27 : decode cX4_grating 27 = .ok (.ireturn, 1) := by decide +kernel
theorem dX4_grating_28 : decode cX4_grating 28 = .ok (.aload_n 0, 1) := by decide +kernel
theorem dX4_grating_29 : decode cX4_grating 29 = .ok (.getfield 41, 3) := by decide +kernel
theorem dX4_grating_32 : decode cX4_grating 32 = .ok (.getfield 100, 3) := by decide +kernel
theorem dX4_grating_35 : decode cX4_grating 35 = .ok (.iload_n 1, 1) := by decide +kernel
theorem dX4_grating_36 : decode cX4_grating 36 = .ok (.iload_n 2, 1) := by decide +kernel
theorem dX4_grating_37 : decode cX4_grating 37 = .ok (.bastore, 1) := by decide +kernel
theorem dX4_grating_38 : decode cX4_grating 38 = .ok (.iconst 1, 1) := by decide +kernel
theorem dX4_grating_39 : decode cX4_grating 39 = .ok (.ireturn, 1) := by decide +kernel
set_option maxRecDepth 20000 in
theorem ggX4_way_X4_isSheet : GoodIn wsX4_way wsX4_isSheet := goodIn_r _ [8] (by decide +kernel) (by decide +kernel)
set_option maxRecDepth 20000 in
theorem gX4_way_X4_isSheet : GoodIn wsX4_way (va_wsS RX4 59 yX4_isSheet wsX4_isSheet) := goodIn_app (goodIn_of _ (by decide +kernel)) ggX4_way_X4_isSheet
set_option maxRecDepth 20000 in
theorem ggX4_way_X4_isLane : GoodIn wsX4_way wsX4_isLane := goodIn_r _ [11] (by decide +kernel) (by decide +kernel)
set_option maxRecDepth 20000 in
theorem gX4_way_X4_isLane : GoodIn wsX4_way (va_wsS RX4 63 yX4_isLane wsX4_isLane) := goodIn_app (goodIn_of _ (by decide +kernel)) ggX4_way_X4_isLane
set_option maxRecDepth 20000 in
theorem ggX4_way_X1_isUnlike : GoodIn wsX4_way wsX1_isUnlike := goodIn_r _ [16, 17, 18, 113, 114, 115, 116] (by decide +kernel) (by decide +kernel)
set_option maxRecDepth 20000 in
theorem gX4_way_X1_isUnlike : GoodIn wsX4_way (wsV RX4 66 RX1 yX1_isUnlike wsX1_isUnlike) := goodIn_app (goodIn_of _ (by decide +kernel)) ggX4_way_X1_isUnlike
set_option maxRecDepth 20000 in
theorem ggX4_way_X4_failed : GoodIn wsX4_way wsX4_failed := goodIn_r _ [22, 1, 103, 104, 105, 106, 107, 108, 109, 110, 111, 112] (by decide +kernel) (by decide +kernel)
set_option maxRecDepth 20000 in
theorem gX4_way_X4_failed : GoodIn wsX4_way (wsV RX4 69 RX4 yX4_failed wsX4_failed) := goodIn_app (goodIn_of _ (by decide +kernel)) ggX4_way_X4_failed
set_option maxRecDepth 20000 in
theorem ggX4_way_X1_holds : GoodIn wsX4_way wsX1_holds := goodIn_r _ [26, 27, 113, 114, 115, 116] (by decide +kernel) (by decide +kernel)
set_option maxRecDepth 20000 in
theorem gX4_way_X1_holds : GoodIn wsX4_way (wsV RX4 77 RX1 yX1_holds wsX1_holds) := goodIn_app (goodIn_of _ (by decide +kernel)) ggX4_way_X1_holds
set_option maxRecDepth 20000 in
theorem ggX4_way_X3_isNone : GoodIn wsX4_way wsX3_isNone := goodIn_r _ [32, 33, 117, 118, 119, 120, 121, 122, 123] (by decide +kernel) (by decide +kernel)
set_option maxRecDepth 20000 in
theorem gX4_way_X3_isNone : GoodIn wsX4_way (wsV RX4 104 RX3 yX3_isNone wsX3_isNone) := goodIn_app (goodIn_of _ (by decide +kernel)) ggX4_way_X3_isNone
set_option maxRecDepth 20000 in
theorem ggX4_way_X4_areActs : GoodIn wsX4_way wsX4_areActs := goodIn_r _ [36, 37, 38, 39, 15, 40, 27, 41, 113, 114, 115, 116] (by decide +kernel) (by decide +kernel)
set_option maxRecDepth 20000 in
theorem gX4_way_X4_areActs : GoodIn wsX4_way (va_wsS RX4 117 yX4_areActs wsX4_areActs) := goodIn_app (goodIn_of _ (by decide +kernel)) ggX4_way_X4_areActs
set_option maxRecDepth 20000 in
theorem ggX4_way_X4_ride : GoodIn wsX4_way wsX4_ride := goodIn_r _ [45, 46, 4, 47, 48, 49, 50, 51, 52, 53, 54, 55, 56, 57, 58, 59, 37, 38, 39, 15, 40, 27, 41, 60, 61, 62, 63, 64, 65, 66, 67, 31, 68, 33, 69, 70, 71, 72, 73, 74, 75, 76, 77, 78, 79, 80, 81, 82, 83, 84, 85, 86, 87, 88, 89, 90, 91, 103, 104, 105, 106, 107, 108, 109, 110, 111, 112, 124, 125, 126, 127, 128, 129, 130, 117, 118, 119, 120, 121, 122, 123, 113, 114, 115, 116] (by decide +kernel) (by decide +kernel)
set_option maxRecDepth 20000 in
theorem gX4_way_X4_ride : GoodIn wsX4_way (wsV RX4 121 RX4 yX4_ride wsX4_ride) := goodIn_app (goodIn_of _ (by decide +kernel)) ggX4_way_X4_ride
set_option maxRecDepth 20000 in
theorem ggX4_way_X4_riderTells : GoodIn wsX4_way wsX4_riderTells := goodIn_r _ [95, 46, 96, 97, 98, 99, 100, 101, 102, 103, 104, 105, 106, 107, 108, 109, 110, 111, 112, 124, 125, 126, 127, 128, 129, 130] (by decide +kernel) (by decide +kernel)
set_option maxRecDepth 20000 in
theorem gX4_way_X4_riderTells : GoodIn wsX4_way (wsV RX4 124 RX4 yX4_riderTells wsX4_riderTells) := goodIn_app (goodIn_of _ (by decide +kernel)) ggX4_way_X4_riderTells
theorem dX4_way_0 : decode cX4_way 0 = .ok (.aload_n 0, 1) := by decide +kernel
theorem dX4_way_1 : decode cX4_way 1 = .ok (.iconst 0, 1) := by decide +kernel
theorem dX4_way_2 : decode cX4_way 2 = .ok (.putfield 55, 3) := by decide +kernel
theorem dX4_way_5 : decode cX4_way 5 = .ok (.iload_n 1, 1) := by decide +kernel
theorem dX4_way_6 : decode cX4_way 6 = .ok (.invokestatic 59, 3) := by decide +kernel
theorem dX4_way_9 : decode cX4_way 9 = .ok (.ifCond .ne 5, 3) := by decide +kernel
theorem dX4_way_12 : decode cX4_way 12 = .ok (.iconst (-1), 1) := by decide +kernel
theorem dX4_way_13 : decode cX4_way 13 = .ok (.ireturn, 1) := by decide +kernel
theorem dX4_way_14 : decode cX4_way 14 = .ok (.iload_n 2, 1) := by decide +kernel
theorem dX4_way_15 : decode cX4_way 15 = .ok (.invokestatic 63, 3) := by decide +kernel
theorem dX4_way_18 : decode cX4_way 18 = .ok (.ifCond .eq 27, 3) := by decide +kernel
theorem dX4_way_21 : decode cX4_way 21 = .ok (.iload 4, 2) := by decide +kernel
theorem dX4_way_23 : decode cX4_way 23 = .ok (.ifCond .lt 22, 3) := by decide +kernel
theorem dX4_way_26 : decode cX4_way 26 = .ok (.iload 4, 2) := by decide +kernel
theorem dX4_way_28 : decode cX4_way 28 = .ok (.bipush 24, 2) := by decide +kernel
theorem dX4_way_30 : decode cX4_way 30 = .ok (.if_icmp .gt 15, 3) := by decide +kernel
theorem dX4_way_33 : decode cX4_way 33 = .ok (.iload 5, 2) := by decide +kernel
theorem dX4_way_35 : decode cX4_way 35 = .ok (.ifCond .lt 10, 3) := by decide +kernel
theorem dX4_way_38 : decode cX4_way 38 = .ok (.iload 5, 2) := by decide +kernel
theorem dX4_way_40 : decode cX4_way 40 = .ok (.bipush 7, 2) := by decide +kernel
theorem dX4_way_42 : decode cX4_way 42 = .ok (.if_icmp .le 6, 3) := by decide +kernel
theorem dX4_way_45 : decode cX4_way 45 = .ok (.bipush (-2), 2) := by decide +kernel
theorem dX4_way_47 : decode cX4_way 47 = .ok (.ireturn, 1) := by decide +kernel
theorem dX4_way_48 : decode cX4_way 48 = .ok (.aload_n 0, 1) := by decide +kernel
theorem dX4_way_49 : decode cX4_way 49 = .ok (.getfield 13, 3) := by decide +kernel
theorem dX4_way_52 : decode cX4_way 52 = .ok (.iload_n 1, 1) := by decide +kernel
theorem dX4_way_53 : decode cX4_way 53 = .ok (.aaload, 1) := by decide +kernel
theorem dX4_way_54 : decode cX4_way 54 = .ok (.astore 6, 2) := by decide +kernel
theorem dX4_way_56 : decode cX4_way 56 = .ok (.aload 6, 2) := by decide +kernel
theorem dX4_way_58 : decode cX4_way 58 = .ok (.iload_n 2, 1) := by decide +kernel
theorem dX4_way_59 : decode cX4_way 59 = .ok (.invokevirtual 66, 3) := by decide +kernel
theorem dX4_way_62 : decode cX4_way 62 = .ok (.ifCond .eq 9, 3) := by decide +kernel
theorem dX4_way_65 : decode cX4_way 65 = .ok (.aload_n 0, 1) := by decide +kernel
theorem dX4_way_66 : decode cX4_way 66 = .ok (.iconst 2, 1) := by decide +kernel
theorem dX4_way_67 : decode cX4_way 67 = .ok (.invokevirtual 69, 3) := by decide +kernel
theorem dX4_way_70 : decode cX4_way 70 = .ok (.ireturn, 1) := by decide +kernel
theorem dX4_way_71 : decode cX4_way 71 = .ok (.aload 6, 2) := by decide +kernel
theorem dX4_way_73 : decode cX4_way 73 = .ok (.getfield 73, 3) := by decide +kernel
theorem dX4_way_76 : decode cX4_way 76 = .ok (.ifCond .ne 9, 3) := by decide +kernel
theorem dX4_way_79 : decode cX4_way 79 = .ok (.aload_n 0, 1) := by decide +kernel
theorem dX4_way_80 : decode cX4_way 80 = .ok (.iconst 1, 1) := by decide +kernel
theorem dX4_way_81 : decode cX4_way 81 = .ok (.invokevirtual 69, 3) := by decide +kernel
theorem dX4_way_84 : decode cX4_way 84 = .ok (.ireturn, 1) := by decide +kernel
theorem dX4_way_85 : decode cX4_way 85 = .ok (.aload 6, 2) := by decide +kernel
theorem dX4_way_87 : decode cX4_way 87 = .ok (.iload_n 3, 1) := by decide +kernel
theorem dX4_way_88 : decode cX4_way 88 = .ok (.iload 4, 2) := by decide +kernel
theorem dX4_way_90 : decode cX4_way 90 = .ok (.invokevirtual 77, 3) := by decide +kernel
theorem dX4_way_93 : decode cX4_way 93 = .ok (.ifCond .ne 9, 3) := by decide +kernel
theorem dX4_way_96 : decode cX4_way 96 = .ok (.aload_n 0, 1) := by decide +kernel
theorem dX4_way_97 : decode cX4_way 97 = .ok (.iconst 3, 1) := by decide +kernel
theorem dX4_way_98 : decode cX4_way 98 = .ok (.invokevirtual 69, 3) := by decide +kernel
theorem dX4_way_101 : decode cX4_way 101 = .ok (.ireturn, 1) := by decide +kernel
theorem dX4_way_102 : decode cX4_way 102 = .ok (.aload_n 0, 1) := by decide +kernel
theorem dX4_way_103 : decode cX4_way 103 = .ok (.getfield 41, 3) := by decide +kernel
theorem dX4_way_106 : decode cX4_way 106 = .ok (.invokevirtual 104, 3) := by decide +kernel
theorem dX4_way_109 : decode cX4_way 109 = .ok (.ifCond .eq 6, 3) := by decide +kernel
theorem dX4_way_112 : decode cX4_way 112 = .ok (.bipush (-3), 2) := by decide +kernel
theorem dX4_way_114 : decode cX4_way 114 = .ok (.ireturn, 1) := by decide +kernel
theorem dX4_way_115 : decode cX4_way 115 = .ok (.aload 6, 2) := by decide +kernel
theorem dX4_way_117 : decode cX4_way 117 = .ok (.iload_n 3, 1) := by decide +kernel
theorem dX4_way_118 : decode cX4_way 118 = .ok (.iload 4, 2) := by decide +kernel
theorem dX4_way_120 : decode cX4_way 120 = .ok (.invokestatic 117, 3) := by decide +kernel
theorem dX4_way_123 : decode cX4_way 123 = .ok (.ifCond .ne 6, 3) := by decide +kernel
theorem dX4_way_126 : decode cX4_way 126 = .ok (.bipush (-2), 2) := by decide +kernel
theorem dX4_way_128 : decode cX4_way 128 = .ok (.ireturn, 1) := by decide +kernel
theorem dX4_way_129 : decode cX4_way 129 = .ok (.aload_n 0, 1) := by decide +kernel
theorem dX4_way_130 : decode cX4_way 130 = .ok (.aload 6, 2) := by decide +kernel
theorem dX4_way_132 : decode cX4_way 132 = .ok (.iload_n 3, 1) := by decide +kernel
theorem dX4_way_133 : decode cX4_way 133 = .ok (.iload 4, 2) := by decide +kernel
theorem dX4_way_135 : decode cX4_way 135 = .ok (.invokevirtual 121, 3) := by decide +kernel
theorem dX4_way_138 : decode cX4_way 138 = .ok (.istore 7, 2) := by decide +kernel
theorem dX4_way_140 : decode cX4_way 140 = .ok (.iload 5, 2) := by decide +kernel
theorem dX4_way_142 : decode cX4_way 142 = .ok (.iconst 1, 1) := by decide +kernel
theorem dX4_way_143 : decode cX4_way 143 = .ok (.if_icmp .ne 6, 3) := by decide +kernel
theorem dX4_way_146 : decode cX4_way 146 = .ok (.iload 7, 2) := by decide +kernel
theorem dX4_way_148 : decode cX4_way 148 = .ok (.ireturn, 1) := by decide +kernel
theorem dX4_way_149 : decode cX4_way 149 = .ok (.iload 7, 2) := by decide +kernel
theorem dX4_way_151 : decode cX4_way 151 = .ok (.bipush (-9), 2) := by decide +kernel
theorem dX4_way_153 : decode cX4_way 153 = .ok (.if_icmp .ne 12, 3) := by decide +kernel
theorem dX4_way_156 : decode cX4_way 156 = .ok (.aload_n 0, 1) := by decide +kernel
theorem dX4_way_157 : decode cX4_way 157 = .ok (.iload 5, 2) := by decide +kernel
theorem dX4_way_159 : decode cX4_way 159 = .ok (.invokevirtual 124, 3) := by decide +kernel
theorem dX4_way_162 : decode cX4_way 162 = .ok (.goto 8, 3) := by decide +kernel
theorem dX4_way_165 : decode cX4_way 165 = .ok (.bipush (-100), 2) := by decide +kernel
theorem dX4_way_167 : decode cX4_way 167 = .ok (.iload 7, 2) := by decide +kernel
theorem dX4_way_169 : decode cX4_way 169 = .ok (.isub, 1) := by decide +kernel
theorem dX4_way_170 : decode cX4_way 170 = .ok (.ireturn, 1) := by decide +kernel
set_option maxRecDepth 20000 in
theorem ggX4_areActs_X1_at : GoodIn wsX4_areActs wsX1_at := goodIn_r _ [5, 6, 7, 8, 9, 10, 11] (by decide +kernel) (by decide +kernel)
set_option maxRecDepth 20000 in
theorem gX4_areActs_X1_at : GoodIn wsX4_areActs (wsV RX4 127 RX1 yX1_at wsX1_at) := goodIn_app (goodIn_of _ (by decide +kernel)) ggX4_areActs_X1_at
theorem dX4_areActs_0 : decode cX4_areActs 0 = .ok (.iconst 0, 1) := by decide +kernel
theorem dX4_areActs_1 : decode cX4_areActs 1 = .ok (.istore_n 3, 1) := by decide +kernel
theorem dX4_areActs_2 : decode cX4_areActs 2 = .ok (.iload_n 3, 1) := by decide +kernel
theorem dX4_areActs_3 : decode cX4_areActs 3 = .ok (.iload_n 2, 1) := by decide +kernel
theorem dX4_areActs_4 : decode cX4_areActs 4 = .ok (.if_icmp .ge 31, 3) := by decide +kernel
theorem dX4_areActs_7 : decode cX4_areActs 7 = .ok (.aload_n 0, 1) := by decide +kernel
theorem dX4_areActs_8 : decode cX4_areActs 8 = .ok (.iload_n 1, 1) := by decide +kernel
theorem dX4_areActs_9 : decode cX4_areActs 9 = .ok (.iload_n 3, 1) := by decide +kernel
theorem dX4_areActs_10 : decode cX4_areActs 10 = .ok (.iadd, 1) := by decide +kernel
theorem dX4_areActs_11 : decode cX4_areActs 11 = .ok (.invokevirtual 127, 3) := by decide +kernel
theorem dX4_areActs_14 : decode cX4_areActs 14 = .ok (.istore 4, 2) := by decide +kernel
theorem dX4_areActs_16 : decode cX4_areActs 16 = .ok (.iload 4, 2) := by decide +kernel
theorem dX4_areActs_18 : decode cX4_areActs 18 = .ok (.ifCond .lt 9, 3) := by decide +kernel
theorem dX4_areActs_21 : decode cX4_areActs 21 = .ok (.iload 4, 2) := by decide +kernel
theorem dX4_areActs_23 : decode cX4_areActs 23 = .ok (.iconst 5, 1) := by decide +kernel
theorem dX4_areActs_24 : decode cX4_areActs 24 = .ok (.if_icmp .lt 5, 3) := by decide +kernel
theorem dX4_areActs_27 : decode cX4_areActs 27 = .ok (.iconst 0, 1) := by decide +kernel
theorem dX4_areActs_28 : decode cX4_areActs 28 = .ok (.ireturn, 1) := by decide +kernel
theorem dX4_areActs_29 : decode cX4_areActs 29 = .ok (.iinc 3 1, 3) := by decide +kernel
theorem dX4_areActs_32 : decode cX4_areActs 32 = .ok (.goto (-30), 3) := by decide +kernel
theorem dX4_areActs_35 : decode cX4_areActs 35 = .ok (.iconst 1, 1) := by decide +kernel
theorem dX4_areActs_36 : decode cX4_areActs 36 = .ok (.ireturn, 1) := by decide +kernel
set_option maxRecDepth 20000 in
theorem ggX4_ride_X0_begin : GoodIn wsX4_ride wsX0_begin := goodIn_r _ [7, 8, 9, 10, 11, 12, 13, 14, 15, 67, 68, 69, 70, 71, 72, 73, 74, 75, 76, 77, 78, 79, 80] (by decide +kernel) (by decide +kernel)
set_option maxRecDepth 20000 in
theorem gX4_ride_X0_begin : GoodIn wsX4_ride (wsV RX4 130 RX0 yX0_begin wsX0_begin) := goodIn_app (goodIn_of _ (by decide +kernel)) ggX4_ride_X0_begin
set_option maxRecDepth 20000 in
theorem ggX4_ride_X1_at : GoodIn wsX4_ride wsX1_at := goodIn_r _ [20, 21, 22, 81, 82, 83, 84] (by decide +kernel) (by decide +kernel)
set_option maxRecDepth 20000 in
theorem gX4_ride_X1_at : GoodIn wsX4_ride (wsV RX4 127 RX1 yX1_at wsX1_at) := goodIn_app (goodIn_of _ (by decide +kernel)) ggX4_ride_X1_at
set_option maxRecDepth 20000 in
theorem ggX4_ride_X0_can : GoodIn wsX4_ride wsX0_can := goodIn_r _ [26, 8, 11, 27, 9, 13, 28, 29, 30, 31, 32, 33, 67, 68, 69, 70, 71, 72, 73, 74, 75, 76, 77, 78, 79, 80] (by decide +kernel) (by decide +kernel)
set_option maxRecDepth 20000 in
theorem gX4_ride_X0_can : GoodIn wsX4_ride (wsV RX4 134 RX0 yX0_can wsX0_can) := goodIn_app (goodIn_of _ (by decide +kernel)) ggX4_ride_X0_can
set_option maxRecDepth 20000 in
theorem ggX4_ride_X0_goBy : GoodIn wsX4_ride wsX0_goBy := goodIn_r _ [37, 9, 11, 8, 14, 38, 39, 40, 41, 42, 15, 10, 43, 44, 45, 13, 46, 47, 48, 6, 49, 50, 51, 52, 53, 31, 54, 33, 55, 56, 28, 29, 30, 32, 67, 68, 69, 70, 71, 72, 73, 74, 75, 76, 77, 78, 79, 80] (by decide +kernel) (by decide +kernel)
set_option maxRecDepth 20000 in
theorem gX4_ride_X0_goBy : GoodIn wsX4_ride (wsV RX4 138 RX0 yX0_goBy wsX0_goBy) := goodIn_app (goodIn_of _ (by decide +kernel)) ggX4_ride_X0_goBy
theorem dX4_ride_0 : decode cX4_ride 0 = .ok (.aload_n 0, 1) := by decide +kernel
theorem dX4_ride_1 : decode cX4_ride 1 = .ok (.getfield 20, 3) := by decide +kernel
theorem dX4_ride_4 : decode cX4_ride 4 = .ok (.aload_n 0, 1) := by decide +kernel
theorem dX4_ride_5 : decode cX4_ride 5 = .ok (.getfield 41, 3) := by decide +kernel
theorem dX4_ride_8 : decode cX4_ride 8 = .ok (.invokevirtual 130, 3) := by decide +kernel
theorem dX4_ride_11 : decode cX4_ride 11 = .ok (.iconst 0, 1) := by decide +kernel
theorem dX4_ride_12 : decode cX4_ride 12 = .ok (.istore 4, 2) := by decide +kernel
theorem dX4_ride_14 : decode cX4_ride 14 = .ok (.iload 4, 2) := by decide +kernel
theorem dX4_ride_16 : decode cX4_ride 16 = .ok (.iload_n 3, 1) := by decide +kernel
theorem dX4_ride_17 : decode cX4_ride 17 = .ok (.if_icmp .ge 51, 3) := by decide +kernel
theorem dX4_ride_20 : decode cX4_ride 20 = .ok (.aload_n 1, 1) := by decide +kernel
theorem dX4_ride_21 : decode cX4_ride 21 = .ok (.iload_n 2, 1) := by decide +kernel
theorem dX4_ride_22 : decode cX4_ride 22 = .ok (.iload 4, 2) := by decide +kernel
theorem dX4_ride_24 : decode cX4_ride 24 = .ok (.iadd, 1) := by decide +kernel
theorem dX4_ride_25 : decode cX4_ride 25 = .ok (.invokevirtual 127, 3) := by decide +kernel
theorem dX4_ride_28 : decode cX4_ride 28 = .ok (.istore 5, 2) := by decide +kernel
theorem dX4_ride_30 : decode cX4_ride 30 = .ok (.aload_n 0, 1) := by decide +kernel
theorem dX4_ride_31 : decode cX4_ride 31 = .ok (.getfield 20, 3) := by decide +kernel
theorem dX4_ride_34 : decode cX4_ride 34 = .ok (.aload_n 0, 1) := by decide +kernel
theorem dX4_ride_35 : decode cX4_ride 35 = .ok (.getfield 41, 3) := by decide +kernel
theorem dX4_ride_38 : decode cX4_ride 38 = .ok (.iload 5, 2) := by decide +kernel
theorem dX4_ride_40 : decode cX4_ride 40 = .ok (.invokevirtual 134, 3) := by decide +kernel
theorem dX4_ride_43 : decode cX4_ride 43 = .ok (.ifCond .ne 6, 3) := by decide +kernel
theorem dX4_ride_46 : decode cX4_ride 46 = .ok (.iload 4, 2) := by decide +kernel
theorem dX4_ride_48 : decode cX4_ride 48 = .ok (.ireturn, 1) := by decide +kernel
theorem dX4_ride_49 : decode cX4_ride 49 = .ok (.aload_n 0, 1) := by decide +kernel
theorem dX4_ride_50 : decode cX4_ride 50 = .ok (.getfield 20, 3) := by decide +kernel
theorem dX4_ride_53 : decode cX4_ride 53 = .ok (.aload_n 0, 1) := by decide +kernel
theorem dX4_ride_54 : decode cX4_ride 54 = .ok (.getfield 41, 3) := by decide +kernel
theorem dX4_ride_57 : decode cX4_ride 57 = .ok (.iload 5, 2) := by decide +kernel
theorem dX4_ride_59 : decode cX4_ride 59 = .ok (.invokevirtual 138, 3) := by decide +kernel
theorem dX4_ride_62 : decode cX4_ride 62 = .ok (.iinc 4 1, 3) := by decide +kernel
theorem dX4_ride_65 : decode cX4_ride 65 = .ok (.goto (-51), 3) := by decide +kernel
theorem dX4_ride_68 : decode cX4_ride 68 = .ok (.bipush (-9), 2) := by decide +kernel
theorem dX4_ride_70 : decode cX4_ride 70 = .ok (.ireturn, 1) := by decide +kernel
theorem dX4_riderTells_0 : decode cX4_riderTells 0 = .ok (.iload_n 1, 1) := by decide +kernel
theorem dX4_riderTells_1 : decode cX4_riderTells 1 = .ok (.tableswitch 91 0 6 #[43, 91, 51, 59, 67, 75, 83], 43) := by decide +kernel
theorem dX4_riderTells_44 : decode cX4_riderTells 44 = .ok (.aload_n 0, 1) := by decide +kernel
theorem dX4_riderTells_45 : decode cX4_riderTells 45 = .ok (.getfield 20, 3) := by decide +kernel
theorem dX4_riderTells_48 : decode cX4_riderTells 48 = .ok (.getfield 142, 3) := by decide +kernel
theorem dX4_riderTells_51 : decode cX4_riderTells 51 = .ok (.ireturn, 1) := by decide +kernel
theorem dX4_riderTells_52 : decode cX4_riderTells 52 = .ok (.aload_n 0, 1) := by decide +kernel
theorem dX4_riderTells_53 : decode cX4_riderTells 53 = .ok (.getfield 20, 3) := by decide +kernel
theorem dX4_riderTells_56 : decode cX4_riderTells 56 = .ok (.getfield 145, 3) := by decide +kernel
theorem dX4_riderTells_59 : decode cX4_riderTells 59 = .ok (.ireturn, 1) := by decide +kernel
theorem dX4_riderTells_60 : decode cX4_riderTells 60 = .ok (.aload_n 0, 1) := by decide +kernel
theorem dX4_riderTells_61 : decode cX4_riderTells 61 = .ok (.getfield 20, 3) := by decide +kernel
theorem dX4_riderTells_64 : decode cX4_riderTells 64 = .ok (.getfield 148, 3) := by decide +kernel
theorem dX4_riderTells_67 : decode cX4_riderTells 67 = .ok (.ireturn, 1) := by decide +kernel
theorem dX4_riderTells_68 : decode cX4_riderTells 68 = .ok (.aload_n 0, 1) := by decide +kernel
theorem dX4_riderTells_69 : decode cX4_riderTells 69 = .ok (.getfield 20, 3) := by decide +kernel
theorem dX4_riderTells_72 : decode cX4_riderTells 72 = .ok (.getfield 151, 3) := by decide +kernel
theorem dX4_riderTells_75 : decode cX4_riderTells 75 = .ok (.ireturn, 1) := by decide +kernel
theorem dX4_riderTells_76 : decode cX4_riderTells 76 = .ok (.aload_n 0, 1) := by decide +kernel
theorem dX4_riderTells_77 : decode cX4_riderTells 77 = .ok (.getfield 20, 3) := by decide +kernel
theorem dX4_riderTells_80 : decode cX4_riderTells 80 = .ok (.getfield 154, 3) := by decide +kernel
theorem dX4_riderTells_83 : decode cX4_riderTells 83 = .ok (.ireturn, 1) := by decide +kernel
theorem dX4_riderTells_84 : decode cX4_riderTells 84 = .ok (.aload_n 0, 1) := by decide +kernel
theorem dX4_riderTells_85 : decode cX4_riderTells 85 = .ok (.getfield 20, 3) := by decide +kernel
theorem dX4_riderTells_88 : decode cX4_riderTells 88 = .ok (.getfield 157, 3) := by decide +kernel
theorem dX4_riderTells_91 : decode cX4_riderTells 91 = .ok (.ireturn, 1) := by decide +kernel
theorem dX4_riderTells_92 : decode cX4_riderTells 92 = .ok (.aload_n 0, 1) := by decide +kernel
theorem dX4_riderTells_93 : decode cX4_riderTells 93 = .ok (.getfield 20, 3) := by decide +kernel
theorem dX4_riderTells_96 : decode cX4_riderTells 96 = .ok (.getfield 160, 3) := by decide +kernel
theorem dX4_riderTells_99 : decode cX4_riderTells 99 = .ok (.ireturn, 1) := by decide +kernel
set_option maxRecDepth 20000 in
theorem ggX4_quickest_X3_isNone : GoodIn wsX4_quickest wsX3_isNone := goodIn_r _ [7, 8, 106, 107, 108, 109, 110, 111, 112] (by decide +kernel) (by decide +kernel)
set_option maxRecDepth 20000 in
theorem gX4_quickest_X3_isNone : GoodIn wsX4_quickest (wsV RX4 104 RX3 yX3_isNone wsX3_isNone) := goodIn_app (goodIn_of _ (by decide +kernel)) ggX4_quickest_X3_isNone
set_option maxRecDepth 20000 in
theorem ggX4_quickest_X2_least : GoodIn wsX4_quickest wsX2_least := goodIn_r _ [13, 14, 15, 16, 17, 18, 19, 20, 21, 22, 23, 24, 25, 26, 27, 28, 29, 30, 31, 32, 33, 34, 35, 36, 37, 38, 39, 40, 41, 42, 43, 44, 45, 12, 46, 47, 48, 49, 50, 51, 52, 53, 54, 55, 6, 56, 8, 57, 58, 59, 60, 61, 62, 63, 64, 65, 66, 67, 68, 69, 70, 71, 72, 73, 74, 75, 76, 77, 78, 79, 80, 81, 82, 83, 84, 85, 86, 87, 88, 89, 90, 91, 92, 93, 94, 95, 113, 114, 115, 116, 117, 118, 119, 120, 121, 122, 123, 124, 125, 126, 127, 106, 107, 108, 109, 110, 111, 112] (by decide +kernel) (by decide +kernel)
set_option maxRecDepth 20000 in
theorem gX4_quickest_X2_least : GoodIn wsX4_quickest (wsV RX4 163 RX2 yX2_least wsX2_least) := goodIn_app (goodIn_of _ (by decide +kernel)) ggX4_quickest_X2_least
theorem dX4_quickest_0 : decode cX4_quickest 0 = .ok (.aload_n 0, 1) := by decide +kernel
theorem dX4_quickest_1 : decode cX4_quickest 1 = .ok (.getfield 41, 3) := by decide +kernel
theorem dX4_quickest_4 : decode cX4_quickest 4 = .ok (.invokevirtual 104, 3) := by decide +kernel
theorem dX4_quickest_7 : decode cX4_quickest 7 = .ok (.ifCond .eq 6, 3) := by decide +kernel
theorem dX4_quickest_10 : decode cX4_quickest 10 = .ok (.bipush (-3), 2) := by decide +kernel
theorem dX4_quickest_12 : decode cX4_quickest 12 = .ok (.ireturn, 1) := by decide +kernel
theorem dX4_quickest_13 : decode cX4_quickest 13 = .ok (.aload_n 0, 1) := by decide +kernel
theorem dX4_quickest_14 : decode cX4_quickest 14 = .ok (.getfield 27, 3) := by decide +kernel
theorem dX4_quickest_17 : decode cX4_quickest 17 = .ok (.aload_n 0, 1) := by decide +kernel
theorem dX4_quickest_18 : decode cX4_quickest 18 = .ok (.getfield 41, 3) := by decide +kernel
theorem dX4_quickest_21 : decode cX4_quickest 21 = .ok (.bipush 24, 2) := by decide +kernel
theorem dX4_quickest_23 : decode cX4_quickest 23 = .ok (.iconst 0, 1) := by decide +kernel
theorem dX4_quickest_24 : decode cX4_quickest 24 = .ok (.invokevirtual 163, 3) := by decide +kernel
theorem dX4_quickest_27 : decode cX4_quickest 27 = .ok (.ireturn, 1) := by decide +kernel
set_option maxRecDepth 20000 in
theorem ggX4_lightest_X3_isNone : GoodIn wsX4_lightest wsX3_isNone := goodIn_r _ [7, 8, 106, 107, 108, 109, 110, 111, 112] (by decide +kernel) (by decide +kernel)
set_option maxRecDepth 20000 in
theorem gX4_lightest_X3_isNone : GoodIn wsX4_lightest (wsV RX4 104 RX3 yX3_isNone wsX3_isNone) := goodIn_app (goodIn_of _ (by decide +kernel)) ggX4_lightest_X3_isNone
set_option maxRecDepth 20000 in
theorem ggX4_lightest_X2_least : GoodIn wsX4_lightest wsX2_least := goodIn_r _ [13, 14, 15, 16, 17, 18, 19, 20, 21, 22, 23, 24, 25, 26, 27, 28, 29, 30, 31, 32, 33, 34, 35, 36, 37, 38, 39, 40, 41, 42, 43, 44, 45, 12, 46, 47, 48, 49, 50, 51, 52, 53, 54, 55, 6, 56, 8, 57, 58, 59, 60, 61, 62, 63, 64, 65, 66, 67, 68, 69, 70, 71, 72, 73, 74, 75, 76, 77, 78, 79, 80, 81, 82, 83, 84, 85, 86, 87, 88, 89, 90, 91, 92, 93, 94, 95, 113, 114, 115, 116, 117, 118, 119, 120, 121, 122, 123, 124, 125, 126, 127, 106, 107, 108, 109, 110, 111, 112] (by decide +kernel) (by decide +kernel)
set_option maxRecDepth 20000 in
theorem gX4_lightest_X2_least : GoodIn wsX4_lightest (wsV RX4 163 RX2 yX2_least wsX2_least) := goodIn_app (goodIn_of _ (by decide +kernel)) ggX4_lightest_X2_least
theorem dX4_lightest_0 : decode cX4_lightest 0 = .ok (.iload_n 1, 1) := by decide +kernel
theorem dX4_lightest_1 : decode cX4_lightest 1 = .ok (.ifCond .lt 9, 3) := by decide +kernel
theorem dX4_lightest_4 : decode cX4_lightest 4 = .ok (.iload_n 1, 1) := by decide +kernel
theorem dX4_lightest_5 : decode cX4_lightest 5 = .ok (.bipush 24, 2) := by decide +kernel
theorem dX4_lightest_7 : decode cX4_lightest 7 = .ok (.if_icmp .le 6, 3) := by decide +kernel
theorem dX4_lightest_10 : decode cX4_lightest 10 = .ok (.bipush (-2), 2) := by decide +kernel
theorem dX4_lightest_12 : decode cX4_lightest 12 = .ok (.ireturn, 1) := by decide +kernel
theorem dX4_lightest_13 : decode cX4_lightest 13 = .ok (.aload_n 0, 1) := by decide +kernel
theorem dX4_lightest_14 : decode cX4_lightest 14 = .ok (.getfield 41, 3) := by decide +kernel
theorem dX4_lightest_17 : decode cX4_lightest 17 = .ok (.invokevirtual 104, 3) := by decide +kernel
theorem dX4_lightest_20 : decode cX4_lightest 20 = .ok (.ifCond .eq 6, 3) := by decide +kernel
theorem dX4_lightest_23 : decode cX4_lightest 23 = .ok (.bipush (-3), 2) := by decide +kernel
theorem dX4_lightest_25 : decode cX4_lightest 25 = .ok (.ireturn, 1) := by decide +kernel
theorem dX4_lightest_26 : decode cX4_lightest 26 = .ok (.aload_n 0, 1) := by decide +kernel
theorem dX4_lightest_27 : decode cX4_lightest 27 = .ok (.getfield 27, 3) := by decide +kernel
theorem dX4_lightest_30 : decode cX4_lightest 30 = .ok (.aload_n 0, 1) := by decide +kernel
theorem dX4_lightest_31 : decode cX4_lightest 31 = .ok (.getfield 41, 3) := by decide +kernel
theorem dX4_lightest_34 : decode cX4_lightest 34 = .ok (.iload_n 1, 1) := by decide +kernel
theorem dX4_lightest_35 : decode cX4_lightest 35 = .ok (.iconst 1, 1) := by decide +kernel
theorem dX4_lightest_36 : decode cX4_lightest 36 = .ok (.invokevirtual 163, 3) := by decide +kernel
theorem dX4_lightest_39 : decode cX4_lightest 39 = .ok (.ireturn, 1) := by decide +kernel
set_option maxRecDepth 20000 in
theorem ggX4_cost_X3_has : GoodIn wsX4_cost wsX3_has := goodIn_r _ [10, 11, 118, 119, 120, 121, 122, 123, 124] (by decide +kernel) (by decide +kernel)
set_option maxRecDepth 20000 in
theorem gX4_cost_X3_has : GoodIn wsX4_cost (wsV RX4 88 RX3 yX3_has wsX3_has) := goodIn_app (goodIn_of _ (by decide +kernel)) ggX4_cost_X3_has
set_option maxRecDepth 20000 in
theorem ggX4_cost_X2_least : GoodIn wsX4_cost wsX2_least := goodIn_r _ [16, 17, 18, 19, 20, 21, 22, 23, 24, 25, 26, 27, 28, 29, 30, 31, 32, 33, 34, 35, 36, 37, 38, 39, 40, 41, 42, 43, 44, 45, 46, 47, 48, 15, 49, 50, 51, 52, 53, 54, 55, 56, 7, 8, 9, 10, 11, 57, 58, 59, 60, 61, 62, 63, 64, 65, 66, 67, 68, 69, 70, 71, 72, 73, 74, 75, 76, 77, 78, 79, 80, 81, 82, 83, 84, 85, 86, 87, 88, 89, 90, 91, 92, 93, 94, 95, 125, 126, 127, 128, 129, 130, 131, 132, 133, 134, 135, 136, 137, 138, 139, 118, 119, 120, 121, 122, 123, 124] (by decide +kernel) (by decide +kernel)
set_option maxRecDepth 20000 in
theorem gX4_cost_X2_least : GoodIn wsX4_cost (wsV RX4 163 RX2 yX2_least wsX2_least) := goodIn_app (goodIn_of _ (by decide +kernel)) ggX4_cost_X2_least
set_option maxRecDepth 20000 in
theorem ggX4_cost_X3_becomeLike : GoodIn wsX4_cost wsX3_becomeLike := goodIn_r _ [99, 94, 100, 101, 102, 103, 95, 104, 11, 105, 106, 107, 118, 119, 120, 121, 122, 123, 124] (by decide +kernel) (by decide +kernel)
set_option maxRecDepth 20000 in
theorem gX4_cost_X3_becomeLike : GoodIn wsX4_cost (wsV RX4 167 RX3 yX3_becomeLike wsX3_becomeLike) := goodIn_app (goodIn_of _ (by decide +kernel)) ggX4_cost_X3_becomeLike
theorem dX4_cost_0 : decode cX4_cost 0 = .ok (.aload_n 0, 1) := by decide +kernel
theorem dX4_cost_1 : decode cX4_cost 1 = .ok (.getfield 41, 3) := by decide +kernel
theorem dX4_cost_4 : decode cX4_cost 4 = .ok (.iload_n 1, 1) := by decide +kernel
theorem dX4_cost_5 : decode cX4_cost 5 = .ok (.invokevirtual 88, 3) := by decide +kernel
theorem dX4_cost_8 : decode cX4_cost 8 = .ok (.ifCond .ne 5, 3) := by decide +kernel
theorem dX4_cost_11 : decode cX4_cost 11 = .ok (.iconst (-1), 1) := by decide +kernel
theorem dX4_cost_12 : decode cX4_cost 12 = .ok (.ireturn, 1) := by decide +kernel
theorem dX4_cost_13 : decode cX4_cost 13 = .ok (.aload_n 0, 1) := by decide +kernel
theorem dX4_cost_14 : decode cX4_cost 14 = .ok (.getfield 27, 3) := by decide +kernel
theorem dX4_cost_17 : decode cX4_cost 17 = .ok (.aload_n 0, 1) := by decide +kernel
theorem dX4_cost_18 : decode cX4_cost 18 = .ok (.getfield 41, 3) := by decide +kernel
theorem dX4_cost_21 : decode cX4_cost 21 = .ok (.bipush 24, 2) := by decide +kernel
theorem dX4_cost_23 : decode cX4_cost 23 = .ok (.iconst 0, 1) := by decide +kernel
theorem dX4_cost_24 : decode cX4_cost 24 = .ok (.invokevirtual 163, 3) := by decide +kernel
theorem dX4_cost_27 : decode cX4_cost 27 = .ok (.istore_n 2, 1) := by decide +kernel
theorem dX4_cost_28 : decode cX4_cost 28 = .ok (.iload_n 2, 1) := by decide +kernel
theorem dX4_cost_29 : decode cX4_cost 29 = .ok (.bipush (-9), 2) := by decide +kernel
theorem dX4_cost_31 : decode cX4_cost 31 = .ok (.if_icmp .ne 6, 3) := by decide +kernel
theorem dX4_cost_34 : decode cX4_cost 34 = .ok (.bipush (-9), 2) := by decide +kernel
theorem dX4_cost_36 : decode cX4_cost 36 = .ok (.ireturn, 1) := by decide +kernel
theorem dX4_cost_37 : decode cX4_cost 37 = .ok (.aload_n 0, 1) := by decide +kernel
theorem dX4_cost_38 : decode cX4_cost 38 = .ok (.getfield 45, 3) := by decide +kernel
theorem dX4_cost_41 : decode cX4_cost 41 = .ok (.aload_n 0, 1) := by decide +kernel
theorem dX4_cost_42 : decode cX4_cost 42 = .ok (.getfield 41, 3) := by decide +kernel
theorem dX4_cost_45 : decode cX4_cost 45 = .ok (.invokevirtual 167, 3) := by decide +kernel
theorem dX4_cost_48 : decode cX4_cost 48 = .ok (.aload_n 0, 1) := by decide +kernel
theorem dX4_cost_49 : decode cX4_cost 49 = .ok (.getfield 45, 3) := by decide +kernel
theorem dX4_cost_52 : decode cX4_cost 52 = .ok (.getfield 94, 3) := by decide +kernel
theorem dX4_cost_55 : decode cX4_cost 55 = .ok (.iload_n 1, 1) := by decide +kernel
theorem dX4_cost_56 : decode cX4_cost 56 = .ok (.iconst 0, 1) := by decide +kernel
theorem dX4_cost_57 : decode cX4_cost 57 = .ok (.iastore, 1) := by decide +kernel
theorem dX4_cost_58 : decode cX4_cost 58 = .ok (.aload_n 0, 1) := by decide +kernel
theorem dX4_cost_59 : decode cX4_cost 59 = .ok (.getfield 45, 3) := by decide +kernel
theorem dX4_cost_62 : decode cX4_cost 62 = .ok (.getfield 100, 3) := by decide +kernel
theorem dX4_cost_65 : decode cX4_cost 65 = .ok (.iload_n 1, 1) := by decide +kernel
theorem dX4_cost_66 : decode cX4_cost 66 = .ok (.iconst 0, 1) := by decide +kernel
theorem dX4_cost_67 : decode cX4_cost 67 = .ok (.bastore, 1) := by decide +kernel
theorem dX4_cost_68 : decode cX4_cost 68 = .ok (.aload_n 0, 1) := by decide +kernel
theorem dX4_cost_69 : decode cX4_cost 69 = .ok (.getfield 27, 3) := by decide +kernel
theorem dX4_cost_72 : decode cX4_cost 72 = .ok (.aload_n 0, 1) := by decide +kernel
theorem dX4_cost_73 : decode cX4_cost 73 = .ok (.getfield 45, 3) := by decide +kernel
theorem dX4_cost_76 : decode cX4_cost 76 = .ok (.bipush 24, 2) := by decide +kernel
theorem dX4_cost_78 : decode cX4_cost 78 = .ok (.iconst 0, 1) := by decide +kernel
theorem dX4_cost_79 : decode cX4_cost 79 = .ok (.invokevirtual 163, 3) := by decide +kernel
theorem dX4_cost_82 : decode cX4_cost 82 = .ok (.istore_n 3, 1) := by decide +kernel
theorem dX4_cost_83 : decode cX4_cost 83 = .ok (.iload_n 3, 1) := by decide +kernel
theorem dX4_cost_84 : decode cX4_cost 84 = .ok (.bipush (-9), 2) := by decide +kernel
theorem dX4_cost_86 : decode cX4_cost 86 = .ok (.if_icmp .ne 8, 3) := by decide +kernel
theorem dX4_cost_89 : decode cX4_cost 89 = .ok (.bipush (-9), 2) := by decide +kernel
theorem dX4_cost_91 : decode cX4_cost 91 = .ok (.goto 6, 3) := by decide +kernel
theorem dX4_cost_94 : decode cX4_cost 94 = .ok (.iload_n 2, 1) := by decide +kernel
theorem dX4_cost_95 : decode cX4_cost 95 = .ok (.iload_n 3, 1) := by decide +kernel
theorem dX4_cost_96 : decode cX4_cost 96 = .ok (.isub, 1) := by decide +kernel
theorem dX4_cost_97 : decode cX4_cost 97 = .ok (.ireturn, 1) := by decide +kernel
set_option maxRecDepth 20000 in
theorem ggX4_reading_X3_isNone : GoodIn wsX4_reading wsX3_isNone := goodIn_r _ [8, 9, 20, 21, 22, 23, 24, 25, 26] (by decide +kernel) (by decide +kernel)
set_option maxRecDepth 20000 in
theorem gX4_reading_X3_isNone : GoodIn wsX4_reading (wsV RX4 104 RX3 yX3_isNone wsX3_isNone) := goodIn_app (goodIn_of _ (by decide +kernel)) ggX4_reading_X3_isNone
theorem dX4_reading_0 : decode cX4_reading 0 = .ok (.iload_n 1, 1) := by decide +kernel
theorem dX4_reading_1 : decode cX4_reading 1 = .ok (.bipush (-9), 2) := by decide +kernel
theorem dX4_reading_3 : decode cX4_reading 3 = .ok (.if_icmp .eq 16, 3) := by decide +kernel
theorem dX4_reading_6 : decode cX4_reading 6 = .ok (.iload_n 1, 1) := by decide +kernel
theorem dX4_reading_7 : decode cX4_reading 7 = .ok (.ifCond .lt 9, 3) := by decide +kernel
theorem dX4_reading_10 : decode cX4_reading 10 = .ok (.iload_n 1, 1) := by decide +kernel
theorem dX4_reading_11 : decode cX4_reading 11 = .ok (.bipush 24, 2) := by decide +kernel
theorem dX4_reading_13 : decode cX4_reading 13 = .ok (.if_icmp .le 6, 3) := by decide +kernel
theorem dX4_reading_16 : decode cX4_reading 16 = .ok (.bipush (-2), 2) := by decide +kernel
theorem dX4_reading_18 : decode cX4_reading 18 = .ok (.ireturn, 1) := by decide +kernel
theorem dX4_reading_19 : decode cX4_reading 19 = .ok (.aload_n 0, 1) := by decide +kernel
theorem dX4_reading_20 : decode cX4_reading 20 = .ok (.getfield 41, 3) := by decide +kernel
theorem dX4_reading_23 : decode cX4_reading 23 = .ok (.invokevirtual 104, 3) := by decide +kernel
theorem dX4_reading_26 : decode cX4_reading 26 = .ok (.ifCond .eq 6, 3) := by decide +kernel
theorem dX4_reading_29 : decode cX4_reading 29 = .ok (.bipush (-3), 2) := by decide +kernel
theorem dX4_reading_31 : decode cX4_reading 31 = .ok (.ireturn, 1) := by decide +kernel
theorem dX4_reading_32 : decode cX4_reading 32 = .ok (.aload_n 0, 1) := by decide +kernel
theorem dX4_reading_33 : decode cX4_reading 33 = .ok (.getfield 48, 3) := by decide +kernel
theorem dX4_reading_36 : decode cX4_reading 36 = .ok (.bipush 8, 2) := by decide +kernel
theorem dX4_reading_38 : decode cX4_reading 38 = .ok (.if_icmp .lt 6, 3) := by decide +kernel
theorem dX4_reading_41 : decode cX4_reading 41 = .ok (.bipush (-4), 2) := by decide +kernel
theorem dX4_reading_43 : decode cX4_reading 43 = .ok (.ireturn, 1) := by decide +kernel
theorem dX4_reading_44 : decode cX4_reading 44 = .ok (.aload_n 0, 1) := by decide +kernel
theorem dX4_reading_45 : decode cX4_reading 45 = .ok (.getfield 31, 3) := by decide +kernel
theorem dX4_reading_48 : decode cX4_reading 48 = .ok (.aload_n 0, 1) := by decide +kernel
theorem dX4_reading_49 : decode cX4_reading 49 = .ok (.getfield 48, 3) := by decide +kernel
theorem dX4_reading_52 : decode cX4_reading 52 = .ok (.iload_n 1, 1) := by decide +kernel
theorem dX4_reading_53 : decode cX4_reading 53 = .ok (.iastore, 1) := by decide +kernel
theorem dX4_reading_54 : decode cX4_reading 54 = .ok (.aload_n 0, 1) := by decide +kernel
theorem dX4_reading_55 : decode cX4_reading 55 = .ok (.dup, 1) := by decide +kernel
theorem dX4_reading_56 : decode cX4_reading 56 = .ok (.getfield 48, 3) := by decide +kernel
theorem dX4_reading_59 : decode cX4_reading 59 = .ok (.iconst 1, 1) := by decide +kernel
theorem dX4_reading_60 : decode cX4_reading 60 = .ok (.iadd, 1) := by decide +kernel
theorem dX4_reading_61 : decode cX4_reading 61 = .ok (.putfield 48, 3) := by decide +kernel
theorem dX4_reading_64 : decode cX4_reading 64 = .ok (.aload_n 0, 1) := by decide +kernel
theorem dX4_reading_65 : decode cX4_reading 65 = .ok (.getfield 48, 3) := by decide +kernel
theorem dX4_reading_68 : decode cX4_reading 68 = .ok (.iconst 1, 1) := by decide +kernel
theorem dX4_reading_69 : decode cX4_reading 69 = .ok (.isub, 1) := by decide +kernel
theorem dX4_reading_70 : decode cX4_reading 70 = .ok (.ireturn, 1) := by decide +kernel
theorem dX4_back_0 : decode cX4_back 0 = .ok (.iload_n 1, 1) := by decide +kernel
theorem dX4_back_1 : decode cX4_back 1 = .ok (.ifCond .lt 11, 3) := by decide +kernel
theorem dX4_back_4 : decode cX4_back 4 = .ok (.iload_n 1, 1) := by decide +kernel
theorem dX4_back_5 : decode cX4_back 5 = .ok (.aload_n 0, 1) := by decide +kernel
theorem dX4_back_6 : decode cX4_back 6 = .ok (.getfield 48, 3) := by decide +kernel
theorem dX4_back_9 : decode cX4_back 9 = .ok (.if_icmp .le 6, 3) := by decide +kernel
theorem dX4_back_12 : decode cX4_back 12 = .ok (.bipush (-2), 2) := by decide +kernel
theorem dX4_back_14 : decode cX4_back 14 = .ok (.ireturn, 1) := by decide +kernel
theorem dX4_back_15 : decode cX4_back 15 = .ok (.aload_n 0, 1) := by decide +kernel
theorem dX4_back_16 : decode cX4_back 16 = .ok (.dup, 1) := by decide +kernel
theorem dX4_back_17 : decode cX4_back 17 = .ok (.getfield 48, 3) := by decide +kernel
theorem dX4_back_20 : decode cX4_back 20 = .ok (.iload_n 1, 1) := by decide +kernel
theorem dX4_back_21 : decode cX4_back 21 = .ok (.isub, 1) := by decide +kernel
theorem dX4_back_22 : decode cX4_back 22 = .ok (.putfield 48, 3) := by decide +kernel
theorem dX4_back_25 : decode cX4_back 25 = .ok (.aload_n 0, 1) := by decide +kernel
theorem dX4_back_26 : decode cX4_back 26 = .ok (.getfield 48, 3) := by decide +kernel
theorem dX4_back_29 : decode cX4_back 29 = .ok (.ireturn, 1) := by decide +kernel
set_option maxRecDepth 20000 in
theorem ggX4_smooth_X3_has : GoodIn wsX4_smooth wsX3_has := goodIn_r _ [8, 9, 124, 125, 126, 127, 128, 129, 130] (by decide +kernel) (by decide +kernel)
set_option maxRecDepth 20000 in
theorem gX4_smooth_X3_has : GoodIn wsX4_smooth (wsV RX4 88 RX3 yX3_has wsX3_has) := goodIn_app (goodIn_of _ (by decide +kernel)) ggX4_smooth_X3_has
set_option maxRecDepth 20000 in
theorem ggX4_smooth_X3_becomeLike : GoodIn wsX4_smooth wsX3_becomeLike := goodIn_r _ [13, 14, 15, 16, 17, 18, 19, 20, 9, 21, 22, 23, 124, 125, 126, 127, 128, 129, 130] (by decide +kernel) (by decide +kernel)
set_option maxRecDepth 20000 in
theorem gX4_smooth_X3_becomeLike : GoodIn wsX4_smooth (wsV RX4 167 RX3 yX3_becomeLike wsX3_becomeLike) := goodIn_app (goodIn_of _ (by decide +kernel)) ggX4_smooth_X3_becomeLike
set_option maxRecDepth 20000 in
theorem ggX4_smooth_X4_draftFitsReadings : GoodIn wsX4_smooth wsX4_draftFitsReadings := goodIn_r _ [28, 29, 30, 2, 31, 32, 33, 34, 35, 36, 37, 38, 39, 40, 41, 42, 43, 44, 45, 46, 47, 48, 49, 50, 51, 52, 53, 54, 55, 56, 57, 58, 59, 60, 61, 62, 63, 64, 65, 66, 67, 68, 69, 70, 71, 72, 73, 74, 75, 76, 5, 6, 7, 8, 9, 77, 78, 79, 80, 81, 82, 83, 84, 85, 86, 87, 88, 89, 90, 91, 92, 93, 94, 95, 96, 97, 98, 99, 100, 101, 102, 103, 104, 105, 106, 107, 108, 109, 110, 111, 112, 113, 14, 19, 114, 115, 116, 117, 118, 119, 120, 121, 122, 123, 131, 132, 133, 134, 135, 136, 137, 138, 139, 140, 141, 142, 143, 144, 145, 124, 125, 126, 127, 128, 129, 130] (by decide +kernel) (by decide +kernel)
set_option maxRecDepth 20000 in
theorem gX4_smooth_X4_draftFitsReadings : GoodIn wsX4_smooth (wsV RX4 170 RX4 yX4_draftFitsReadings wsX4_draftFitsReadings) := goodIn_app (goodIn_of _ (by decide +kernel)) ggX4_smooth_X4_draftFitsReadings
theorem dX4_smooth_0 : decode cX4_smooth 0 = .ok (.aload_n 0, 1) := by decide +kernel
theorem dX4_smooth_1 : decode cX4_smooth 1 = .ok (.getfield 41, 3) := by decide +kernel
theorem dX4_smooth_4 : decode cX4_smooth 4 = .ok (.iload_n 1, 1) := by decide +kernel
theorem dX4_smooth_5 : decode cX4_smooth 5 = .ok (.invokevirtual 88, 3) := by decide +kernel
theorem dX4_smooth_8 : decode cX4_smooth 8 = .ok (.ifCond .ne 5, 3) := by decide +kernel
theorem dX4_smooth_11 : decode cX4_smooth 11 = .ok (.iconst (-1), 1) := by decide +kernel
theorem dX4_smooth_12 : decode cX4_smooth 12 = .ok (.ireturn, 1) := by decide +kernel
theorem dX4_smooth_13 : decode cX4_smooth 13 = .ok (.aload_n 0, 1) := by decide +kernel
theorem dX4_smooth_14 : decode cX4_smooth 14 = .ok (.getfield 45, 3) := by decide +kernel
theorem dX4_smooth_17 : decode cX4_smooth 17 = .ok (.aload_n 0, 1) := by decide +kernel
theorem dX4_smooth_18 : decode cX4_smooth 18 = .ok (.getfield 41, 3) := by decide +kernel
theorem dX4_smooth_21 : decode cX4_smooth 21 = .ok (.invokevirtual 167, 3) := by decide +kernel
theorem dX4_smooth_24 : decode cX4_smooth 24 = .ok (.iconst 0, 1) := by decide +kernel
theorem dX4_smooth_25 : decode cX4_smooth 25 = .ok (.istore_n 2, 1) := by decide +kernel
theorem dX4_smooth_26 : decode cX4_smooth 26 = .ok (.iconst 0, 1) := by decide +kernel
theorem dX4_smooth_27 : decode cX4_smooth 27 = .ok (.istore_n 3, 1) := by decide +kernel
theorem dX4_smooth_28 : decode cX4_smooth 28 = .ok (.iload_n 3, 1) := by decide +kernel
theorem dX4_smooth_29 : decode cX4_smooth 29 = .ok (.iconst 4, 1) := by decide +kernel
theorem dX4_smooth_30 : decode cX4_smooth 30 = .ok (.if_icmp .gt 32, 3) := by decide +kernel
theorem dX4_smooth_33 : decode cX4_smooth 33 = .ok (.aload_n 0, 1) := by decide +kernel
theorem dX4_smooth_34 : decode cX4_smooth 34 = .ok (.getfield 45, 3) := by decide +kernel
theorem dX4_smooth_37 : decode cX4_smooth 37 = .ok (.getfield 94, 3) := by decide +kernel
theorem dX4_smooth_40 : decode cX4_smooth 40 = .ok (.iload_n 1, 1) := by decide +kernel
theorem dX4_smooth_41 : decode cX4_smooth 41 = .ok (.iload_n 3, 1) := by decide +kernel
theorem dX4_smooth_42 : decode cX4_smooth 42 = .ok (.iastore, 1) := by decide +kernel
theorem dX4_smooth_43 : decode cX4_smooth 43 = .ok (.aload_n 0, 1) := by decide +kernel
theorem dX4_smooth_44 : decode cX4_smooth 44 = .ok (.invokevirtual 170, 3) := by decide +kernel
theorem dX4_smooth_47 : decode cX4_smooth 47 = .ok (.ifCond .eq 9, 3) := by decide +kernel
theorem dX4_smooth_50 : decode cX4_smooth 50 = .ok (.iload_n 2, 1) := by decide +kernel
theorem dX4_smooth_51 : decode cX4_smooth 51 = .ok (.iconst 1, 1) := by decide +kernel
theorem dX4_smooth_52 : decode cX4_smooth 52 = .ok (.iload_n 3, 1) := by decide +kernel
theorem dX4_smooth_53 : decode cX4_smooth 53 = .ok (.ishl, 1) := by decide +kernel
theorem dX4_smooth_54 : decode cX4_smooth 54 = .ok (.ior, 1) := by decide +kernel
theorem dX4_smooth_55 : decode cX4_smooth 55 = .ok (.istore_n 2, 1) := by decide +kernel
theorem dX4_smooth_56 : decode cX4_smooth 56 = .ok (.iinc 3 1, 3) := by decide +kernel
theorem dX4_smooth_59 : decode cX4_smooth 59 = .ok (.goto (-31), 3) := by decide +kernel
theorem dX4_smooth_62 : decode cX4_smooth 62 = .ok (.iload_n 2, 1) := by decide +kernel
theorem dX4_smooth_63 : decode cX4_smooth 63 = .ok (.ireturn, 1) := by decide +kernel
set_option maxRecDepth 20000 in
theorem ggX4_kinds_X3_has : GoodIn wsX4_kinds wsX3_has := goodIn_r _ [8, 9, 124, 125, 126, 127, 128, 129, 130] (by decide +kernel) (by decide +kernel)
set_option maxRecDepth 20000 in
theorem gX4_kinds_X3_has : GoodIn wsX4_kinds (wsV RX4 88 RX3 yX3_has wsX3_has) := goodIn_app (goodIn_of _ (by decide +kernel)) ggX4_kinds_X3_has
set_option maxRecDepth 20000 in
theorem ggX4_kinds_X3_becomeLike : GoodIn wsX4_kinds wsX3_becomeLike := goodIn_r _ [13, 14, 15, 16, 17, 18, 19, 20, 9, 21, 22, 23, 124, 125, 126, 127, 128, 129, 130] (by decide +kernel) (by decide +kernel)
set_option maxRecDepth 20000 in
theorem gX4_kinds_X3_becomeLike : GoodIn wsX4_kinds (wsV RX4 167 RX3 yX3_becomeLike wsX3_becomeLike) := goodIn_app (goodIn_of _ (by decide +kernel)) ggX4_kinds_X3_becomeLike
set_option maxRecDepth 20000 in
theorem ggX4_kinds_X4_draftFitsReadings : GoodIn wsX4_kinds wsX4_draftFitsReadings := goodIn_r _ [28, 29, 30, 2, 31, 32, 33, 34, 35, 36, 37, 38, 39, 40, 41, 42, 43, 44, 45, 46, 47, 48, 49, 50, 51, 52, 53, 54, 55, 56, 57, 58, 59, 60, 61, 62, 63, 64, 65, 66, 67, 68, 69, 70, 71, 72, 73, 74, 75, 76, 5, 6, 7, 8, 9, 77, 78, 79, 80, 81, 82, 83, 84, 85, 86, 87, 88, 89, 90, 91, 92, 93, 94, 95, 96, 97, 98, 99, 100, 101, 102, 103, 104, 105, 106, 107, 108, 109, 110, 111, 112, 113, 14, 19, 114, 115, 116, 117, 118, 119, 120, 121, 122, 123, 131, 132, 133, 134, 135, 136, 137, 138, 139, 140, 141, 142, 143, 144, 145, 124, 125, 126, 127, 128, 129, 130] (by decide +kernel) (by decide +kernel)
set_option maxRecDepth 20000 in
theorem gX4_kinds_X4_draftFitsReadings : GoodIn wsX4_kinds (wsV RX4 170 RX4 yX4_draftFitsReadings wsX4_draftFitsReadings) := goodIn_app (goodIn_of _ (by decide +kernel)) ggX4_kinds_X4_draftFitsReadings
theorem dX4_kinds_0 : decode cX4_kinds 0 = .ok (.aload_n 0, 1) := by decide +kernel
theorem dX4_kinds_1 : decode cX4_kinds 1 = .ok (.getfield 41, 3) := by decide +kernel
theorem dX4_kinds_4 : decode cX4_kinds 4 = .ok (.iload_n 1, 1) := by decide +kernel
theorem dX4_kinds_5 : decode cX4_kinds 5 = .ok (.invokevirtual 88, 3) := by decide +kernel
theorem dX4_kinds_8 : decode cX4_kinds 8 = .ok (.ifCond .ne 5, 3) := by decide +kernel
theorem dX4_kinds_11 : decode cX4_kinds 11 = .ok (.iconst (-1), 1) := by decide +kernel
theorem dX4_kinds_12 : decode cX4_kinds 12 = .ok (.ireturn, 1) := by decide +kernel
theorem dX4_kinds_13 : decode cX4_kinds 13 = .ok (.aload_n 0, 1) := by decide +kernel
theorem dX4_kinds_14 : decode cX4_kinds 14 = .ok (.getfield 45, 3) := by decide +kernel
theorem dX4_kinds_17 : decode cX4_kinds 17 = .ok (.aload_n 0, 1) := by decide +kernel
theorem dX4_kinds_18 : decode cX4_kinds 18 = .ok (.getfield 41, 3) := by decide +kernel
theorem dX4_kinds_21 : decode cX4_kinds 21 = .ok (.invokevirtual 167, 3) := by decide +kernel
theorem dX4_kinds_24 : decode cX4_kinds 24 = .ok (.iconst 0, 1) := by decide +kernel
theorem dX4_kinds_25 : decode cX4_kinds 25 = .ok (.istore_n 2, 1) := by decide +kernel
theorem dX4_kinds_26 : decode cX4_kinds 26 = .ok (.iconst 0, 1) := by decide +kernel
theorem dX4_kinds_27 : decode cX4_kinds 27 = .ok (.istore_n 3, 1) := by decide +kernel
theorem dX4_kinds_28 : decode cX4_kinds 28 = .ok (.iload_n 3, 1) := by decide +kernel
theorem dX4_kinds_29 : decode cX4_kinds 29 = .ok (.iconst 3, 1) := by decide +kernel
theorem dX4_kinds_30 : decode cX4_kinds 30 = .ok (.if_icmp .ge 32, 3) := by decide +kernel
theorem dX4_kinds_33 : decode cX4_kinds 33 = .ok (.aload_n 0, 1) := by decide +kernel
