theorem dX3_isNone_8 : decode cX3_isNone 8 = .ok (.goto 4, 3) := by decide +kernel
theorem dX3_isNone_11 : decode cX3_isNone 11 = .ok (.iconst 0, 1) := by decide +kernel
theorem dX3_isNone_12 : decode cX3_isNone 12 = .ok (.ireturn, 1) := by decide +kernel
theorem dX3_has_0 : decode cX3_has 0 = .ok (.iload_n 1, 1) := by decide +kernel
theorem dX3_has_1 : decode cX3_has 1 = .ok (.ifCond .lt 15, 3) := by decide +kernel
theorem dX3_has_4 : decode cX3_has 4 = .ok (.iload_n 1, 1) := by decide +kernel
theorem dX3_has_5 : decode cX3_has 5 = .ok (.aload_n 0, 1) := by decide +kernel
theorem dX3_has_6 : decode cX3_has 6 = .ok (.getfield 22, 3) := by decide +kernel
theorem dX3_has_9 : decode cX3_has 9 = .ok (.if_icmp .ge 7, 3) := by decide +kernel
theorem dX3_has_12 : decode cX3_has 12 = .ok (.iconst 1, 1) := by decide +kernel
theorem dX3_has_13 : decode cX3_has 13 = .ok (.goto 4, 3) := by decide +kernel
theorem dX3_has_16 : decode cX3_has 16 = .ok (.iconst 0, 1) := by decide +kernel
theorem dX3_has_17 : decode cX3_has 17 = .ok (.ireturn, 1) := by decide +kernel
theorem dX3_dragOf_0 : decode cX3_dragOf 0 = .ok (.iload_n 1, 1) := by decide +kernel
theorem dX3_dragOf_1 : decode cX3_dragOf 1 = .ok (.ifCond .lt 11, 3) := by decide +kernel
theorem dX3_dragOf_4 : decode cX3_dragOf 4 = .ok (.iload_n 1, 1) := by decide +kernel
theorem dX3_dragOf_5 : decode cX3_dragOf 5 = .ok (.aload_n 0, 1) := by decide +kernel
theorem dX3_dragOf_6 : decode cX3_dragOf 6 = .ok (.getfield 22, 3) := by decide +kernel
theorem dX3_dragOf_9 : decode cX3_dragOf 9 = .ok (.if_icmp .lt 5, 3) := by decide +kernel
theorem dX3_dragOf_12 : decode cX3_dragOf 12 = .ok (.iconst 0, 1) := by decide +kernel
theorem dX3_dragOf_13 : decode cX3_dragOf 13 = .ok (.ireturn, 1) := by decide +kernel
theorem dX3_dragOf_14 : decode cX3_dragOf 14 = .ok (.aload_n 0, 1) := by decide +kernel
theorem dX3_dragOf_15 : decode cX3_dragOf 15 = .ok (.getfield 9, 3) := by decide +kernel
theorem dX3_dragOf_18 : decode cX3_dragOf 18 = .ok (.iload_n 1, 1) := by decide +kernel
theorem dX3_dragOf_19 : decode cX3_dragOf 19 = .ok (.iaload, 1) := by decide +kernel
theorem dX3_dragOf_20 : decode cX3_dragOf 20 = .ok (.lookupswitch 46 #[(1, 28), (2, 37)], 28) := by decide +kernel
theorem dX3_dragOf_48 : decode cX3_dragOf 48 = .ok (.aload_n 0, 1) := by decide +kernel
theorem dX3_dragOf_49 : decode cX3_dragOf 49 = .ok (.getfield 15, 3) := by decide +kernel
theorem dX3_dragOf_52 : decode cX3_dragOf 52 = .ok (.iload_n 1, 1) := by decide +kernel
theorem dX3_dragOf_53 : decode cX3_dragOf 53 = .ok (.iaload, 1) := by decide +kernel
theorem dX3_dragOf_54 : decode cX3_dragOf 54 = .ok (.iconst 1, 1) := by decide +kernel
theorem dX3_dragOf_55 : decode cX3_dragOf 55 = .ok (.iadd, 1) := by decide +kernel
theorem dX3_dragOf_56 : decode cX3_dragOf 56 = .ok (.ireturn, 1) := by decide +kernel
theorem dX3_dragOf_57 : decode cX3_dragOf 57 = .ok (.aload_n 0, 1) := by decide +kernel
theorem dX3_dragOf_58 : decode cX3_dragOf 58 = .ok (.getfield 15, 3) := by decide +kernel
theorem dX3_dragOf_61 : decode cX3_dragOf 61 = .ok (.iload_n 1, 1) := by decide +kernel
theorem dX3_dragOf_62 : decode cX3_dragOf 62 = .ok (.iaload, 1) := by decide +kernel
theorem dX3_dragOf_63 : decode cX3_dragOf 63 = .ok (.iconst 2, 1) := by decide +kernel
theorem dX3_dragOf_64 : decode cX3_dragOf 64 = .ok (.idiv, 1) := by decide +kernel
theorem dX3_dragOf_65 : decode cX3_dragOf 65 = .ok (.ireturn, 1) := by decide +kernel
theorem dX3_dragOf_66 : decode cX3_dragOf 66 = .ok (.aload_n 0, 1) := by decide +kernel
theorem dX3_dragOf_67 : decode cX3_dragOf 67 = .ok (.getfield 15, 3) := by decide +kernel
theorem dX3_dragOf_70 : decode cX3_dragOf 70 = .ok (.iload_n 1, 1) := by decide +kernel
theorem dX3_dragOf_71 : decode cX3_dragOf 71 = .ok (.iaload, 1) := by decide +kernel
theorem dX3_dragOf_72 : decode cX3_dragOf 72 = .ok (.ireturn, 1) := by decide +kernel
set_option maxRecDepth 20000 in
theorem ggX3_readText_X3_readHead : GoodIn wsX3_readText wsX3_readHead := goodIn_r _ [7, 8, 9, 10, 11, 12, 13, 14, 15, 16, 17, 18, 19, 29, 30, 31, 32, 33, 34, 35, 36, 37, 38, 39] (by decide +kernel) (by decide +kernel)
set_option maxRecDepth 20000 in
theorem gX3_readText_X3_readHead : GoodIn wsX3_readText (wsV RX3 41 RX3 yX3_readHead wsX3_readHead) := goodIn_app (goodIn_of _ (by decide +kernel)) ggX3_readText_X3_readHead
set_option maxRecDepth 20000 in
theorem ggX3_readText_X3_readFlag : GoodIn wsX3_readText wsX3_readFlag := goodIn_r _ [23, 1, 24, 25, 2, 13, 14, 15, 16, 17, 18, 19, 26, 27, 6, 28, 29, 30, 31, 32, 33, 34, 35, 36, 37, 38, 39] (by decide +kernel) (by decide +kernel)
set_option maxRecDepth 20000 in
theorem gX3_readText_X3_readFlag : GoodIn wsX3_readText (wsV RX3 45 RX3 yX3_readFlag wsX3_readFlag) := goodIn_app (goodIn_of _ (by decide +kernel)) ggX3_readText_X3_readFlag
set_option maxRecDepth 20000 in
theorem ggX3_readText_X1_at : GoodIn wsX3_readText wsX1_at := goodIn_r _ [17, 18, 19, 36, 37, 38, 39] (by decide +kernel) (by decide +kernel)
set_option maxRecDepth 20000 in
theorem gX3_readText_X1_at : GoodIn wsX3_readText (wsV RX3 49 RX1 yX1_at wsX1_at) := goodIn_app (goodIn_of _ (by decide +kernel)) ggX3_readText_X1_at
theorem dX3_readText_0 : decode cX3_readText 0 = .ok (.aload_n 0, 1) := by decide +kernel
theorem dX3_readText_1 : decode cX3_readText 1 = .ok (.iconst 0, 1) := by decide +kernel
theorem dX3_readText_2 : decode cX3_readText 2 = .ok (.putfield 22, 3) := by decide +kernel
theorem dX3_readText_5 : decode cX3_readText 5 = .ok (.aload_n 0, 1) := by decide +kernel
theorem dX3_readText_6 : decode cX3_readText 6 = .ok (.aload_n 1, 1) := by decide +kernel
theorem dX3_readText_7 : decode cX3_readText 7 = .ok (.iload_n 2, 1) := by decide +kernel
theorem dX3_readText_8 : decode cX3_readText 8 = .ok (.iload_n 3, 1) := by decide +kernel
theorem dX3_readText_9 : decode cX3_readText 9 = .ok (.invokevirtual 41, 3) := by decide +kernel
theorem dX3_readText_12 : decode cX3_readText 12 = .ok (.istore 4, 2) := by decide +kernel
theorem dX3_readText_14 : decode cX3_readText 14 = .ok (.iconst 4, 1) := by decide +kernel
theorem dX3_readText_15 : decode cX3_readText 15 = .ok (.istore 5, 2) := by decide +kernel
theorem dX3_readText_17 : decode cX3_readText 17 = .ok (.iconst 0, 1) := by decide +kernel
theorem dX3_readText_18 : decode cX3_readText 18 = .ok (.istore 6, 2) := by decide +kernel
theorem dX3_readText_20 : decode cX3_readText 20 = .ok (.iload 6, 2) := by decide +kernel
theorem dX3_readText_22 : decode cX3_readText 22 = .ok (.bipush 10, 2) := by decide +kernel
theorem dX3_readText_24 : decode cX3_readText 24 = .ok (.if_icmp .ge 73, 3) := by decide +kernel
theorem dX3_readText_27 : decode cX3_readText 27 = .ok (.iload 4, 2) := by decide +kernel
theorem dX3_readText_29 : decode cX3_readText 29 = .ok (.bipush (-9), 2) := by decide +kernel
theorem dX3_readText_31 : decode cX3_readText 31 = .ok (.if_icmp .ne 66, 3) := by decide +kernel
theorem dX3_readText_34 : decode cX3_readText 34 = .ok (.iload 5, 2) := by decide +kernel
theorem dX3_readText_36 : decode cX3_readText 36 = .ok (.iload_n 3, 1) := by decide +kernel
theorem dX3_readText_37 : decode cX3_readText 37 = .ok (.if_icmp .ge 60, 3) := by decide +kernel
theorem dX3_readText_40 : decode cX3_readText 40 = .ok (.aload_n 0, 1) := by decide +kernel
theorem dX3_readText_41 : decode cX3_readText 41 = .ok (.aload_n 1, 1) := by decide +kernel
theorem dX3_readText_42 : decode cX3_readText 42 = .ok (.iload_n 2, 1) := by decide +kernel
theorem dX3_readText_43 : decode cX3_readText 43 = .ok (.iload_n 3, 1) := by decide +kernel
theorem dX3_readText_44 : decode cX3_readText 44 = .ok (.iload 5, 2) := by decide +kernel
theorem dX3_readText_46 : decode cX3_readText 46 = .ok (.invokevirtual 45, 3) := by decide +kernel
theorem dX3_readText_49 : decode cX3_readText 49 = .ok (.istore 4, 2) := by decide +kernel
theorem dX3_readText_51 : decode cX3_readText 51 = .ok (.iinc 5 2, 3) := by decide +kernel
theorem dX3_readText_54 : decode cX3_readText 54 = .ok (.iload 4, 2) := by decide +kernel
theorem dX3_readText_56 : decode cX3_readText 56 = .ok (.bipush (-9), 2) := by decide +kernel
theorem dX3_readText_58 : decode cX3_readText 58 = .ok (.if_icmp .ne 33, 3) := by decide +kernel
theorem dX3_readText_61 : decode cX3_readText 61 = .ok (.iload 5, 2) := by decide +kernel
theorem dX3_readText_63 : decode cX3_readText 63 = .ok (.iload_n 3, 1) := by decide +kernel
theorem dX3_readText_64 : decode cX3_readText 64 = .ok (.if_icmp .ge 27, 3) := by decide +kernel
theorem dX3_readText_67 : decode cX3_readText 67 = .ok (.aload_n 1, 1) := by decide +kernel
theorem dX3_readText_68 : decode cX3_readText 68 = .ok (.iload_n 2, 1) := by decide +kernel
theorem dX3_readText_69 : decode cX3_readText 69 = .ok (.iload 5, 2) := by decide +kernel
theorem dX3_readText_71 : decode cX3_readText 71 = .ok (.iadd, 1) := by decide +kernel
theorem dX3_readText_72 : decode cX3_readText 72 = .ok (.invokevirtual 49, 3) := by decide +kernel
theorem dX3_readText_75 : decode cX3_readText 75 = .ok (.bipush 35, 2) := by decide +kernel
theorem dX3_readText_77 : decode cX3_readText 77 = .ok (.if_icmp .ne 14, 3) := by decide +kernel
theorem dX3_readText_80 : decode cX3_readText 80 = .ok (.aload_n 0, 1) := by decide +kernel
theorem dX3_readText_81 : decode cX3_readText 81 = .ok (.getfield 18, 3) := by decide +kernel
theorem dX3_readText_84 : decode cX3_readText 84 = .ok (.iload 6, 2) := by decide +kernel
theorem dX3_readText_86 : decode cX3_readText 86 = .ok (.iconst 1, 1) := by decide +kernel
theorem dX3_readText_87 : decode cX3_readText 87 = .ok (.bastore, 1) := by decide +kernel
theorem dX3_readText_88 : decode cX3_readText 88 = .ok (.iinc 5 1, 3) := by decide +kernel
theorem dX3_readText_91 : decode cX3_readText 91 = .ok (.iinc 6 1, 3) := by decide +kernel
theorem dX3_readText_94 : decode cX3_readText 94 = .ok (.goto (-74), 3) := by decide +kernel
theorem dX3_readText_97 : decode cX3_readText 97 = .ok (.iload 4, 2) := by decide +kernel
theorem dX3_readText_99 : decode cX3_readText 99 = .ok (.bipush (-9), 2) := by decide +kernel
theorem dX3_readText_101 : decode cX3_readText 101 = .ok (.if_icmp .eq 6, 3) := by decide +kernel
theorem dX3_readText_104 : decode cX3_readText 104 = .ok (.iload 4, 2) := by decide +kernel
theorem dX3_readText_106 : decode cX3_readText 106 = .ok (.ireturn, 1) := by decide +kernel
theorem dX3_readText_107 : decode cX3_readText 107 = .ok (.iload 5, 2) := by decide +kernel
theorem dX3_readText_109 : decode cX3_readText 109 = .ok (.iload_n 3, 1) := by decide +kernel
theorem dX3_readText_110 : decode cX3_readText 110 = .ok (.if_icmp .ge 6, 3) := by decide +kernel
theorem dX3_readText_113 : decode cX3_readText 113 = .ok (.iload 5, 2) := by decide +kernel
theorem dX3_readText_115 : decode cX3_readText 115 = .ok (.ireturn, 1) := by decide +kernel
theorem dX3_readText_116 : decode cX3_readText 116 = .ok (.aload_n 0, 1) := by decide +kernel
theorem dX3_readText_117 : decode cX3_readText 117 = .ok (.getfield 22, 3) := by decide +kernel
theorem dX3_readText_120 : decode cX3_readText 120 = .ok (.iconst 2, 1) := by decide +kernel
theorem dX3_readText_121 : decode cX3_readText 121 = .ok (.if_icmp .ge 7, 3) := by decide +kernel
theorem dX3_readText_124 : decode cX3_readText 124 = .ok (.iload_n 3, 1) := by decide +kernel
theorem dX3_readText_125 : decode cX3_readText 125 = .ok (.goto 5, 3) := by decide +kernel
theorem dX3_readText_128 : decode cX3_readText 128 = .ok (.bipush (-9), 2) := by decide +kernel
theorem dX3_readText_130 : decode cX3_readText 130 = .ok (.ireturn, 1) := by decide +kernel
set_option maxRecDepth 20000 in
theorem ggX3_readHead_X1_at : GoodIn wsX3_readHead wsX1_at := goodIn_r _ [10, 11, 12, 20, 21, 22, 23] (by decide +kernel) (by decide +kernel)
set_option maxRecDepth 20000 in
theorem gX3_readHead_X1_at : GoodIn wsX3_readHead (wsV RX3 49 RX1 yX1_at wsX1_at) := goodIn_app (goodIn_of _ (by decide +kernel)) ggX3_readHead_X1_at
theorem dX3_readHead_0 : decode cX3_readHead 0 = .ok (.iconst 0, 1) := by decide +kernel
theorem dX3_readHead_1 : decode cX3_readHead 1 = .ok (.istore 4, 2) := by decide +kernel
theorem dX3_readHead_3 : decode cX3_readHead 3 = .ok (.iload 4, 2) := by decide +kernel
theorem dX3_readHead_5 : decode cX3_readHead 5 = .ok (.iconst 4, 1) := by decide +kernel
theorem dX3_readHead_6 : decode cX3_readHead 6 = .ok (.if_icmp .ge 52, 3) := by decide +kernel
theorem dX3_readHead_9 : decode cX3_readHead 9 = .ok (.iload 4, 2) := by decide +kernel
theorem dX3_readHead_11 : decode cX3_readHead 11 = .ok (.iload_n 3, 1) := by decide +kernel
theorem dX3_readHead_12 : decode cX3_readHead 12 = .ok (.if_icmp .lt 5, 3) := by decide +kernel
theorem dX3_readHead_15 : decode cX3_readHead 15 = .ok (.iload_n 3, 1) := by decide +kernel
theorem dX3_readHead_16 : decode cX3_readHead 16 = .ok (.ireturn, 1) := by decide +kernel
theorem dX3_readHead_17 : decode cX3_readHead 17 = .ok (.aload_n 1, 1) := by decide +kernel
theorem dX3_readHead_18 : decode cX3_readHead 18 = .ok (.iload_n 2, 1) := by decide +kernel
theorem dX3_readHead_19 : decode cX3_readHead 19 = .ok (.iload 4, 2) := by decide +kernel
theorem dX3_readHead_21 : decode cX3_readHead 21 = .ok (.iadd, 1) := by decide +kernel
theorem dX3_readHead_22 : decode cX3_readHead 22 = .ok (.invokevirtual 49, 3) := by decide +kernel
theorem dX3_readHead_25 : decode cX3_readHead 25 = .ok (.istore 5, 2) := by decide +kernel
theorem dX3_readHead_27 : decode cX3_readHead 27 = .ok (.iload 5, 2) := by decide +kernel
theorem dX3_readHead_29 : decode cX3_readHead 29 = .ok (.getstatic 55, 3) := by decide +kernel
theorem dX3_readHead_32 : decode cX3_readHead 32 = .ok (.iload 4, 2) := by decide +kernel
theorem dX3_readHead_34 : decode cX3_readHead 34 = .ok (.iaload, 1) := by decide +kernel
theorem dX3_readHead_35 : decode cX3_readHead 35 = .ok (.if_icmp .lt 14, 3) := by decide +kernel
theorem dX3_readHead_38 : decode cX3_readHead 38 = .ok (.iload 5, 2) := by decide +kernel
theorem dX3_readHead_40 : decode cX3_readHead 40 = .ok (.getstatic 58, 3) := by decide +kernel
theorem dX3_readHead_43 : decode cX3_readHead 43 = .ok (.iload 4, 2) := by decide +kernel
theorem dX3_readHead_45 : decode cX3_readHead 45 = .ok (.iaload, 1) := by decide +kernel
theorem dX3_readHead_46 : decode cX3_readHead 46 = .ok (.if_icmp .le 6, 3) := by decide +kernel
theorem dX3_readHead_49 : decode cX3_readHead 49 = .ok (.iload 4, 2) := by decide +kernel
theorem dX3_readHead_51 : decode cX3_readHead 51 = .ok (.ireturn, 1) := by decide +kernel
theorem dX3_readHead_52 : decode cX3_readHead 52 = .ok (.iinc 4 1, 3) := by decide +kernel
theorem dX3_readHead_55 : decode cX3_readHead 55 = .ok (.goto (-52), 3) := by decide +kernel
theorem dX3_readHead_58 : decode cX3_readHead 58 = .ok (.aload_n 0, 1) := by decide +kernel
theorem dX3_readHead_59 : decode cX3_readHead 59 = .ok (.aload_n 1, 1) := by decide +kernel
theorem dX3_readHead_60 : decode cX3_readHead 60 = .ok (.iload_n 2, 1) := by decide +kernel
theorem dX3_readHead_61 : decode cX3_readHead 61 = .ok (.iconst 1, 1) := by decide +kernel
theorem dX3_readHead_62 : decode cX3_readHead 62 = .ok (.iadd, 1) := by decide +kernel
theorem dX3_readHead_63 : decode cX3_readHead 63 = .ok (.invokevirtual 49, 3) := by decide +kernel
theorem dX3_readHead_66 : decode cX3_readHead 66 = .ok (.bipush 48, 2) := by decide +kernel
theorem dX3_readHead_68 : decode cX3_readHead 68 = .ok (.isub, 1) := by decide +kernel
theorem dX3_readHead_69 : decode cX3_readHead 69 = .ok (.putfield 26, 3) := by decide +kernel
theorem dX3_readHead_72 : decode cX3_readHead 72 = .ok (.aload_n 0, 1) := by decide +kernel
theorem dX3_readHead_73 : decode cX3_readHead 73 = .ok (.aload_n 1, 1) := by decide +kernel
theorem dX3_readHead_74 : decode cX3_readHead 74 = .ok (.iload_n 2, 1) := by decide +kernel
theorem dX3_readHead_75 : decode cX3_readHead 75 = .ok (.iconst 2, 1) := by decide +kernel
theorem dX3_readHead_76 : decode cX3_readHead 76 = .ok (.iadd, 1) := by decide +kernel
theorem dX3_readHead_77 : decode cX3_readHead 77 = .ok (.invokevirtual 49, 3) := by decide +kernel
theorem dX3_readHead_80 : decode cX3_readHead 80 = .ok (.bipush 48, 2) := by decide +kernel
theorem dX3_readHead_82 : decode cX3_readHead 82 = .ok (.isub, 1) := by decide +kernel
theorem dX3_readHead_83 : decode cX3_readHead 83 = .ok (.putfield 29, 3) := by decide +kernel
theorem dX3_readHead_86 : decode cX3_readHead 86 = .ok (.aload_n 0, 1) := by decide +kernel
theorem dX3_readHead_87 : decode cX3_readHead 87 = .ok (.aload_n 1, 1) := by decide +kernel
theorem dX3_readHead_88 : decode cX3_readHead 88 = .ok (.iload_n 2, 1) := by decide +kernel
theorem dX3_readHead_89 : decode cX3_readHead 89 = .ok (.iconst 3, 1) := by decide +kernel
theorem dX3_readHead_90 : decode cX3_readHead 90 = .ok (.iadd, 1) := by decide +kernel
theorem dX3_readHead_91 : decode cX3_readHead 91 = .ok (.invokevirtual 49, 3) := by decide +kernel
theorem dX3_readHead_94 : decode cX3_readHead 94 = .ok (.bipush 48, 2) := by decide +kernel
theorem dX3_readHead_96 : decode cX3_readHead 96 = .ok (.isub, 1) := by decide +kernel
theorem dX3_readHead_97 : decode cX3_readHead 97 = .ok (.putfield 32, 3) := by decide +kernel
theorem dX3_readHead_100 : decode cX3_readHead 100 = .ok (.bipush (-9), 2) := by decide +kernel
theorem dX3_readHead_102 : decode cX3_readHead 102 = .ok (.ireturn, 1) := by decide +kernel
set_option maxRecDepth 20000 in
theorem ggX3_readFlag_X1_at : GoodIn wsX3_readFlag wsX1_at := goodIn_r _ [9, 10, 11, 23, 24, 25, 26] (by decide +kernel) (by decide +kernel)
set_option maxRecDepth 20000 in
theorem gX3_readFlag_X1_at : GoodIn wsX3_readFlag (wsV RX3 49 RX1 yX1_at wsX1_at) := goodIn_app (goodIn_of _ (by decide +kernel)) ggX3_readFlag_X1_at
set_option maxRecDepth 20000 in
theorem ggX3_readFlag_X3_kindOfLetter : GoodIn wsX3_readFlag wsX3_kindOfLetter := goodIn_r _ [15] (by decide +kernel) (by decide +kernel)
set_option maxRecDepth 20000 in
theorem gX3_readFlag_X3_kindOfLetter : GoodIn wsX3_readFlag (va_wsS RX3 61 yX3_kindOfLetter wsX3_kindOfLetter) := goodIn_app (goodIn_of _ (by decide +kernel)) ggX3_readFlag_X3_kindOfLetter
theorem dX3_readFlag_0 : decode cX3_readFlag 0 = .ok (.aload_n 1, 1) := by decide +kernel
theorem dX3_readFlag_1 : decode cX3_readFlag 1 = .ok (.iload_n 2, 1) := by decide +kernel
theorem dX3_readFlag_2 : decode cX3_readFlag 2 = .ok (.iload 4, 2) := by decide +kernel
theorem dX3_readFlag_4 : decode cX3_readFlag 4 = .ok (.iadd, 1) := by decide +kernel
theorem dX3_readFlag_5 : decode cX3_readFlag 5 = .ok (.invokevirtual 49, 3) := by decide +kernel
theorem dX3_readFlag_8 : decode cX3_readFlag 8 = .ok (.invokestatic 61, 3) := by decide +kernel
theorem dX3_readFlag_11 : decode cX3_readFlag 11 = .ok (.istore 5, 2) := by decide +kernel
theorem dX3_readFlag_13 : decode cX3_readFlag 13 = .ok (.iload 5, 2) := by decide +kernel
theorem dX3_readFlag_15 : decode cX3_readFlag 15 = .ok (.bipush (-9), 2) := by decide +kernel
theorem dX3_readFlag_17 : decode cX3_readFlag 17 = .ok (.if_icmp .eq 12, 3) := by decide +kernel
theorem dX3_readFlag_20 : decode cX3_readFlag 20 = .ok (.aload_n 0, 1) := by decide +kernel
theorem dX3_readFlag_21 : decode cX3_readFlag 21 = .ok (.getfield 22, 3) := by decide +kernel
theorem dX3_readFlag_24 : decode cX3_readFlag 24 = .ok (.bipush 10, 2) := by decide +kernel
theorem dX3_readFlag_26 : decode cX3_readFlag 26 = .ok (.if_icmp .lt 6, 3) := by decide +kernel
theorem dX3_readFlag_29 : decode cX3_readFlag 29 = .ok (.iload 4, 2) := by decide +kernel
theorem dX3_readFlag_31 : decode cX3_readFlag 31 = .ok (.ireturn, 1) := by decide +kernel
theorem dX3_readFlag_32 : decode cX3_readFlag 32 = .ok (.iload 4, 2) := by decide +kernel
theorem dX3_readFlag_34 : decode cX3_readFlag 34 = .ok (.iconst 1, 1) := by decide +kernel
theorem dX3_readFlag_35 : decode cX3_readFlag 35 = .ok (.iadd, 1) := by decide +kernel
theorem dX3_readFlag_36 : decode cX3_readFlag 36 = .ok (.iload_n 3, 1) := by decide +kernel
theorem dX3_readFlag_37 : decode cX3_readFlag 37 = .ok (.if_icmp .lt 5, 3) := by decide +kernel
theorem dX3_readFlag_40 : decode cX3_readFlag 40 = .ok (.iload_n 3, 1) := by decide +kernel
theorem dX3_readFlag_41 : decode cX3_readFlag 41 = .ok (.ireturn, 1) := by decide +kernel
theorem dX3_readFlag_42 : decode cX3_readFlag 42 = .ok (.aload_n 1, 1) := by decide +kernel
theorem dX3_readFlag_43 : decode cX3_readFlag 43 = .ok (.iload_n 2, 1) := by decide +kernel
theorem dX3_readFlag_44 : decode cX3_readFlag 44 = .ok (.iload 4, 2) := by decide +kernel
theorem dX3_readFlag_46 : decode cX3_readFlag 46 = .ok (.iadd, 1) := by decide +kernel
theorem dX3_readFlag_47 : decode cX3_readFlag 47 = .ok (.iconst 1, 1) := by decide +kernel
theorem dX3_readFlag_48 : decode cX3_readFlag 48 = .ok (.iadd, 1) := by decide +kernel
theorem dX3_readFlag_49 : decode cX3_readFlag 49 = .ok (.invokevirtual 49, 3) := by decide +kernel
theorem dX3_readFlag_52 : decode cX3_readFlag 52 = .ok (.istore 6, 2) := by decide +kernel
theorem dX3_readFlag_54 : decode cX3_readFlag 54 = .ok (.iload 6, 2) := by decide +kernel
theorem dX3_readFlag_56 : decode cX3_readFlag 56 = .ok (.bipush 48, 2) := by decide +kernel
theorem dX3_readFlag_58 : decode cX3_readFlag 58 = .ok (.if_icmp .lt 10, 3) := by decide +kernel
theorem dX3_readFlag_61 : decode cX3_readFlag 61 = .ok (.iload 6, 2) := by decide +kernel
theorem dX3_readFlag_63 : decode cX3_readFlag 63 = .ok (.bipush 52, 2) := by decide +kernel
theorem dX3_readFlag_65 : decode cX3_readFlag 65 = .ok (.if_icmp .le 8, 3) := by decide +kernel
theorem dX3_readFlag_68 : decode cX3_readFlag 68 = .ok (.iload 4, 2) := by decide +kernel
theorem dX3_readFlag_70 : decode cX3_readFlag 70 = .ok (.iconst 1, 1) := by decide +kernel
theorem dX3_readFlag_71 : decode cX3_readFlag 71 = .ok (.iadd, 1) := by decide +kernel
theorem dX3_readFlag_72 : decode cX3_readFlag 72 = .ok (.ireturn, 1) := by decide +kernel
theorem dX3_readFlag_73 : decode cX3_readFlag 73 = .ok (.aload_n 0, 1) := by decide +kernel
theorem dX3_readFlag_74 : decode cX3_readFlag 74 = .ok (.getfield 9, 3) := by decide +kernel
theorem dX3_readFlag_77 : decode cX3_readFlag 77 = .ok (.aload_n 0, 1) := by decide +kernel
theorem dX3_readFlag_78 : decode cX3_readFlag 78 = .ok (.getfield 22, 3) := by decide +kernel
theorem dX3_readFlag_81 : decode cX3_readFlag 81 = .ok (.iload 5, 2) := by decide +kernel
theorem dX3_readFlag_83 : decode cX3_readFlag 83 = .ok (.iastore, 1) := by decide +kernel
theorem dX3_readFlag_84 : decode cX3_readFlag 84 = .ok (.aload_n 0, 1) := by decide +kernel
theorem dX3_readFlag_85 : decode cX3_readFlag 85 = .ok (.getfield 15, 3) := by decide +kernel
theorem dX3_readFlag_88 : decode cX3_readFlag 88 = .ok (.aload_n 0, 1) := by decide +kernel
theorem dX3_readFlag_89 : decode cX3_readFlag 89 = .ok (.getfield 22, 3) := by decide +kernel
theorem dX3_readFlag_92 : decode cX3_readFlag 92 = .ok (.iload 6, 2) := by decide +kernel
theorem dX3_readFlag_94 : decode cX3_readFlag 94 = .ok (.bipush 48, 2) := by decide +kernel
theorem dX3_readFlag_96 : decode cX3_readFlag 96 = .ok (.isub, 1) := by decide +kernel
theorem dX3_readFlag_97 : decode cX3_readFlag 97 = .ok (.iastore, 1) := by decide +kernel
theorem dX3_readFlag_98 : decode cX3_readFlag 98 = .ok (.aload_n 0, 1) := by decide +kernel
theorem dX3_readFlag_99 : decode cX3_readFlag 99 = .ok (.getfield 18, 3) := by decide +kernel
theorem dX3_readFlag_102 : decode cX3_readFlag 102 = .ok (.aload_n 0, 1) := by decide +kernel
theorem dX3_readFlag_103 : decode cX3_readFlag 103 = .ok (.getfield 22, 3) := by decide +kernel
theorem dX3_readFlag_106 : decode cX3_readFlag 106 = .ok (.iconst 0, 1) := by decide +kernel
theorem dX3_readFlag_107 : decode cX3_readFlag 107 = .ok (.bastore, 1) := by decide +kernel
theorem dX3_readFlag_108 : decode cX3_readFlag 108 = .ok (.aload_n 0, 1) := by decide +kernel
theorem dX3_readFlag_109 : decode cX3_readFlag 109 = .ok (.dup, 1) := by decide +kernel
theorem dX3_readFlag_110 : decode cX3_readFlag 110 = .ok (.getfield 22, 3) := by decide +kernel
theorem dX3_readFlag_113 : decode cX3_readFlag 113 = .ok (.iconst 1, 1) := by decide +kernel
theorem dX3_readFlag_114 : decode cX3_readFlag 114 = .ok (.iadd, 1) := by decide +kernel
theorem dX3_readFlag_115 : decode cX3_readFlag 115 = .ok (.putfield 22, 3) := by decide +kernel
theorem dX3_readFlag_118 : decode cX3_readFlag 118 = .ok (.bipush (-9), 2) := by decide +kernel
theorem dX3_readFlag_120 : decode cX3_readFlag 120 = .ok (.ireturn, 1) := by decide +kernel
theorem dX3_kindOfLetter_0 : decode cX3_kindOfLetter 0 = .ok (.iload_n 0, 1) := by decide +kernel
theorem dX3_kindOfLetter_1 : decode cX3_kindOfLetter 1 = .ok (.lookupswitch 41 #[(102, 35), (104, 37), (119, 39)], 35) := by decide +kernel
theorem dX3_kindOfLetter_36 : decode cX3_kindOfLetter 36 = .ok (.iconst 0, 1) := by decide +kernel
theorem dX3_kindOfLetter_37 : decode cX3_kindOfLetter 37 = .ok (.ireturn, 1) := by decide +kernel
theorem dX3_kindOfLetter_38 : decode cX3_kindOfLetter 38 = .ok (.iconst 1, 1) := by decide +kernel
theorem dX3_kindOfLetter_39 : decode cX3_kindOfLetter 39 = .ok (.ireturn, 1) := by decide +kernel
theorem dX3_kindOfLetter_40 : decode cX3_kindOfLetter 40 = .ok (.iconst 2, 1) := by decide +kernel
theorem dX3_kindOfLetter_41 : decode cX3_kindOfLetter 41 = .ok (.ireturn, 1) := by decide +kernel
theorem dX3_kindOfLetter_42 : decode cX3_kindOfLetter 42 = .ok (.bipush (-9), 2) := by decide +kernel
theorem dX3_kindOfLetter_44 : decode cX3_kindOfLetter 44 = .ok (.ireturn, 1) := by decide +kernel
set_option maxRecDepth 20000 in
theorem ggX4_init_X0_init : GoodIn wsX4_init wsX0_init := goodIn_r _ [28, 29, 2, 3, 30, 31, 32, 33, 34, 35, 36, 82, 83, 84, 85, 86, 87, 88] (by decide +kernel) (by decide +kernel)
set_option maxRecDepth 20000 in
theorem gX4_init_X0_init_n19 : GoodIn wsX4_init (wsX0_init) := ggX4_init_X0_init
set_option maxRecDepth 20000 in
theorem ggX4_init_X2_init : GoodIn wsX4_init wsX2_init := goodIn_r _ [39, 40, 2, 3, 41, 7, 8, 42, 14, 43, 44, 45, 46, 47, 48, 49, 27, 28, 29, 30, 31, 32, 33, 34, 35, 36, 50, 51, 52, 53, 82, 83, 84, 85, 86, 87, 88, 89, 90, 91, 92, 93, 94, 95, 96] (by decide +kernel) (by decide +kernel)
set_option maxRecDepth 20000 in
theorem gX4_init_X2_init : GoodIn wsX4_init (wsX2_init) := ggX4_init_X2_init
set_option maxRecDepth 20000 in
theorem ggX4_init_X3_init : GoodIn wsX4_init wsX3_init := goodIn_r _ [55, 56, 2, 3, 14, 57, 58, 59, 60, 61, 62, 63, 64, 97, 98, 99, 100, 101, 102, 103] (by decide +kernel) (by decide +kernel)
set_option maxRecDepth 20000 in
theorem gX4_init_X3_init_n40 : GoodIn wsX4_init (wsX3_init) := ggX4_init_X3_init
set_option maxRecDepth 20000 in
theorem ggX4_init_X1_init : GoodIn wsX4_init wsX1_init := goodIn_r _ [66, 67, 2, 3, 14, 68, 69, 70, 71, 104, 105, 106, 107] (by decide +kernel) (by decide +kernel)
set_option maxRecDepth 20000 in
theorem gX4_init_X1_init_n58 : GoodIn wsX4_init (wsX1_init) := ggX4_init_X1_init
theorem dX4_init_0 : decode cX4_init 0 = .ok (.aload_n 0, 1) := by decide +kernel
theorem dX4_init_1 : decode cX4_init 1 = .ok (.invokespecial 3, 3) := by decide +kernel
theorem dX4_init_4 : decode cX4_init 4 = .ok (.aload_n 0, 1) := by decide +kernel
theorem dX4_init_5 : decode cX4_init 5 = .ok (.iconst 4, 1) := by decide +kernel
theorem dX4_init_6 : decode cX4_init 6 = .ok (.anewarray 11, 3) := by decide +kernel
theorem dX4_init_9 : decode cX4_init 9 = .ok (.putfield 13, 3) := by decide +kernel
theorem dX4_init_12 : decode cX4_init 12 = .ok (.aload_n 0, 1) := by decide +kernel
theorem dX4_init_13 : decode cX4_init 13 = .ok (.new 17, 3) := by decide +kernel
theorem dX4_init_16 : decode cX4_init 16 = .ok (.dup, 1) := by decide +kernel
theorem dX4_init_17 : decode cX4_init 17 = .ok (.invokespecial 19, 3) := by decide +kernel
theorem dX4_init_20 : decode cX4_init 20 = .ok (.putfield 20, 3) := by decide +kernel
theorem dX4_init_23 : decode cX4_init 23 = .ok (.aload_n 0, 1) := by decide +kernel
theorem dX4_init_24 : decode cX4_init 24 = .ok (.new 24, 3) := by decide +kernel
theorem dX4_init_27 : decode cX4_init 27 = .ok (.dup, 1) := by decide +kernel
theorem dX4_init_28 : decode cX4_init 28 = .ok (.invokespecial 26, 3) := by decide +kernel
theorem dX4_init_31 : decode cX4_init 31 = .ok (.putfield 27, 3) := by decide +kernel
theorem dX4_init_34 : decode cX4_init 34 = .ok (.aload_n 0, 1) := by decide +kernel
theorem dX4_init_35 : decode cX4_init 35 = .ok (.bipush 8, 2) := by decide +kernel
theorem dX4_init_37 : decode cX4_init 37 = .ok (.newarray .int, 2) := by decide +kernel
theorem dX4_init_39 : decode cX4_init 39 = .ok (.putfield 31, 3) := by decide +kernel
theorem dX4_init_42 : decode cX4_init 42 = .ok (.aload_n 0, 1) := by decide +kernel
theorem dX4_init_43 : decode cX4_init 43 = .ok (.iconst 4, 1) := by decide +kernel
theorem dX4_init_44 : decode cX4_init 44 = .ok (.newarray .int, 2) := by decide +kernel
theorem dX4_init_46 : decode cX4_init 46 = .ok (.putfield 35, 3) := by decide +kernel
theorem dX4_init_49 : decode cX4_init 49 = .ok (.aload_n 0, 1) := by decide +kernel
theorem dX4_init_50 : decode cX4_init 50 = .ok (.new 38, 3) := by decide +kernel
theorem dX4_init_53 : decode cX4_init 53 = .ok (.dup, 1) := by decide +kernel
theorem dX4_init_54 : decode cX4_init 54 = .ok (.invokespecial 40, 3) := by decide +kernel
theorem dX4_init_57 : decode cX4_init 57 = .ok (.putfield 41, 3) := by decide +kernel
theorem dX4_init_60 : decode cX4_init 60 = .ok (.aload_n 0, 1) := by decide +kernel
theorem dX4_init_61 : decode cX4_init 61 = .ok (.new 38, 3) := by decide +kernel
theorem dX4_init_64 : decode cX4_init 64 = .ok (.dup, 1) := by decide +kernel
theorem dX4_init_65 : decode cX4_init 65 = .ok (.invokespecial 40, 3) := by decide +kernel
theorem dX4_init_68 : decode cX4_init 68 = .ok (.putfield 45, 3) := by decide +kernel
theorem dX4_init_71 : decode cX4_init 71 = .ok (.aload_n 0, 1) := by decide +kernel
theorem dX4_init_72 : decode cX4_init 72 = .ok (.iconst 0, 1) := by decide +kernel
theorem dX4_init_73 : decode cX4_init 73 = .ok (.putfield 48, 3) := by decide +kernel
theorem dX4_init_76 : decode cX4_init 76 = .ok (.aload_n 0, 1) := by decide +kernel
theorem dX4_init_77 : decode cX4_init 77 = .ok (.iconst 0, 1) := by decide +kernel
theorem dX4_init_78 : decode cX4_init 78 = .ok (.putfield 52, 3) := by decide +kernel
theorem dX4_init_81 : decode cX4_init 81 = .ok (.aload_n 0, 1) := by decide +kernel
theorem dX4_init_82 : decode cX4_init 82 = .ok (.iconst 0, 1) := by decide +kernel
theorem dX4_init_83 : decode cX4_init 83 = .ok (.putfield 55, 3) := by decide +kernel
theorem dX4_init_86 : decode cX4_init 86 = .ok (.iconst 0, 1) := by decide +kernel
theorem dX4_init_87 : decode cX4_init 87 = .ok (.istore_n 1, 1) := by decide +kernel
theorem dX4_init_88 : decode cX4_init 88 = .ok (.iload_n 1, 1) := by decide +kernel
theorem dX4_init_89 : decode cX4_init 89 = .ok (.iconst 4, 1) := by decide +kernel
theorem dX4_init_90 : decode cX4_init 90 = .ok (.if_icmp .ge 22, 3) := by decide +kernel
theorem dX4_init_93 : decode cX4_init 93 = .ok (.aload_n 0, 1) := by decide +kernel
theorem dX4_init_94 : decode cX4_init 94 = .ok (.getfield 13, 3) := by decide +kernel
theorem dX4_init_97 : decode cX4_init 97 = .ok (.iload_n 1, 1) := by decide +kernel
theorem dX4_init_98 : decode cX4_init 98 = .ok (.new 11, 3) := by decide +kernel
theorem dX4_init_101 : decode cX4_init 101 = .ok (.dup, 1) := by decide +kernel
theorem dX4_init_102 : decode cX4_init 102 = .ok (.invokespecial 58, 3) := by decide +kernel
theorem dX4_init_105 : decode cX4_init 105 = .ok (.aastore, 1) := by decide +kernel
theorem dX4_init_106 : decode cX4_init 106 = .ok (.iinc 1 1, 3) := by decide +kernel
theorem dX4_init_109 : decode cX4_init 109 = .ok (.goto (-21), 3) := by decide +kernel
theorem dX4_init_112 : decode cX4_init 112 = .ok (.return_, 1) := by decide +kernel
set_option maxRecDepth 20000 in
theorem ggX4_street_X4_isSheet : GoodIn wsX4_street wsX4_isSheet := goodIn_r _ [11] (by decide +kernel) (by decide +kernel)
set_option maxRecDepth 20000 in
theorem gX4_street_X4_isSheet : GoodIn wsX4_street (va_wsS RX4 59 yX4_isSheet wsX4_isSheet) := goodIn_app (goodIn_of _ (by decide +kernel)) ggX4_street_X4_isSheet
set_option maxRecDepth 20000 in
theorem ggX4_street_X4_isLane : GoodIn wsX4_street wsX4_isLane := goodIn_r _ [14] (by decide +kernel) (by decide +kernel)
set_option maxRecDepth 20000 in
theorem gX4_street_X4_isLane : GoodIn wsX4_street (va_wsS RX4 63 yX4_isLane wsX4_isLane) := goodIn_app (goodIn_of _ (by decide +kernel)) ggX4_street_X4_isLane
set_option maxRecDepth 20000 in
theorem ggX4_street_X1_isUnlike : GoodIn wsX4_street wsX1_isUnlike := goodIn_r _ [19, 20, 21, 71, 72, 73, 74] (by decide +kernel) (by decide +kernel)
set_option maxRecDepth 20000 in
theorem gX4_street_X1_isUnlike : GoodIn wsX4_street (wsV RX4 66 RX1 yX1_isUnlike wsX1_isUnlike) := goodIn_app (goodIn_of _ (by decide +kernel)) ggX4_street_X1_isUnlike
set_option maxRecDepth 20000 in
theorem ggX4_street_X4_failed : GoodIn wsX4_street wsX4_failed := goodIn_r _ [25, 1, 61, 62, 63, 64, 65, 66, 67, 68, 69, 70] (by decide +kernel) (by decide +kernel)
set_option maxRecDepth 20000 in
theorem gX4_street_X4_failed : GoodIn wsX4_street (wsV RX4 69 RX4 yX4_failed wsX4_failed) := goodIn_app (goodIn_of _ (by decide +kernel)) ggX4_street_X4_failed
set_option maxRecDepth 20000 in
theorem ggX4_street_X1_holds : GoodIn wsX4_street wsX1_holds := goodIn_r _ [29, 30, 71, 72, 73, 74] (by decide +kernel) (by decide +kernel)
set_option maxRecDepth 20000 in
theorem gX4_street_X1_holds : GoodIn wsX4_street (wsV RX4 77 RX1 yX1_holds wsX1_holds) := goodIn_app (goodIn_of _ (by decide +kernel)) ggX4_street_X1_holds
set_option maxRecDepth 20000 in
theorem ggX4_street_X3_readText : GoodIn wsX4_street wsX3_readText := goodIn_r _ [35, 36, 37, 38, 39, 40, 34, 41, 42, 43, 44, 45, 46, 47, 48, 49, 18, 50, 30, 51, 52, 53, 54, 55, 56, 57, 58, 59, 60, 75, 76, 77, 78, 79, 80, 81, 71, 72, 73, 74] (by decide +kernel) (by decide +kernel)
set_option maxRecDepth 20000 in
theorem gX4_street_X3_readText : GoodIn wsX4_street (wsV RX4 81 RX3 yX3_readText wsX3_readText) := goodIn_app (goodIn_of _ (by decide +kernel)) ggX4_street_X3_readText
theorem dX4_street_0 : decode cX4_street 0 = .ok (.aload_n 0, 1) := by decide +kernel
theorem dX4_street_1 : decode cX4_street 1 = .ok (.iconst 0, 1) := by decide +kernel
theorem dX4_street_2 : decode cX4_street 2 = .ok (.putfield 55, 3) := by decide +kernel
theorem dX4_street_5 : decode cX4_street 5 = .ok (.iload_n 1, 1) := by decide +kernel
theorem dX4_street_6 : decode cX4_street 6 = .ok (.invokestatic 59, 3) := by decide +kernel
theorem dX4_street_9 : decode cX4_street 9 = .ok (.ifCond .ne 5, 3) := by decide +kernel
theorem dX4_street_12 : decode cX4_street 12 = .ok (.iconst (-1), 1) := by decide +kernel
theorem dX4_street_13 : decode cX4_street 13 = .ok (.ireturn, 1) := by decide +kernel
theorem dX4_street_14 : decode cX4_street 14 = .ok (.iload_n 2, 1) := by decide +kernel
theorem dX4_street_15 : decode cX4_street 15 = .ok (.invokestatic 63, 3) := by decide +kernel
theorem dX4_street_18 : decode cX4_street 18 = .ok (.ifCond .ne 6, 3) := by decide +kernel
theorem dX4_street_21 : decode cX4_street 21 = .ok (.bipush (-2), 2) := by decide +kernel
theorem dX4_street_23 : decode cX4_street 23 = .ok (.ireturn, 1) := by decide +kernel
theorem dX4_street_24 : decode cX4_street 24 = .ok (.aload_n 0, 1) := by decide +kernel
theorem dX4_street_25 : decode cX4_street 25 = .ok (.getfield 13, 3) := by decide +kernel
theorem dX4_street_28 : decode cX4_street 28 = .ok (.iload_n 1, 1) := by decide +kernel
theorem dX4_street_29 : decode cX4_street 29 = .ok (.aaload, 1) := by decide +kernel
theorem dX4_street_30 : decode cX4_street 30 = .ok (.astore 5, 2) := by decide +kernel
theorem dX4_street_32 : decode cX4_street 32 = .ok (.aload 5, 2) := by decide +kernel
theorem dX4_street_34 : decode cX4_street 34 = .ok (.iload_n 2, 1) := by decide +kernel
theorem dX4_street_35 : decode cX4_street 35 = .ok (.invokevirtual 66, 3) := by decide +kernel
theorem dX4_street_38 : decode cX4_street 38 = .ok (.ifCond .eq 9, 3) := by decide +kernel
theorem dX4_street_41 : decode cX4_street 41 = .ok (.aload_n 0, 1) := by decide +kernel
theorem dX4_street_42 : decode cX4_street 42 = .ok (.iconst 2, 1) := by decide +kernel
theorem dX4_street_43 : decode cX4_street 43 = .ok (.invokevirtual 69, 3) := by decide +kernel
theorem dX4_street_46 : decode cX4_street 46 = .ok (.ireturn, 1) := by decide +kernel
theorem dX4_street_47 : decode cX4_street 47 = .ok (.aload 5, 2) := by decide +kernel
theorem dX4_street_49 : decode cX4_street 49 = .ok (.getfield 73, 3) := by decide +kernel
theorem dX4_street_52 : decode cX4_street 52 = .ok (.ifCond .ne 9, 3) := by decide +kernel
theorem dX4_street_55 : decode cX4_street 55 = .ok (.aload_n 0, 1) := by decide +kernel
theorem dX4_street_56 : decode cX4_street 56 = .ok (.iconst 1, 1) := by decide +kernel
theorem dX4_street_57 : decode cX4_street 57 = .ok (.invokevirtual 69, 3) := by decide +kernel
theorem dX4_street_60 : decode cX4_street 60 = .ok (.ireturn, 1) := by decide +kernel
theorem dX4_street_61 : decode cX4_street 61 = .ok (.iload 4, 2) := by decide +kernel
theorem dX4_street_63 : decode cX4_street 63 = .ok (.ifCond .ge 9, 3) := by decide +kernel
theorem dX4_street_66 : decode cX4_street 66 = .ok (.aload_n 0, 1) := by decide +kernel
theorem dX4_street_67 : decode cX4_street 67 = .ok (.iconst 4, 1) := by decide +kernel
theorem dX4_street_68 : decode cX4_street 68 = .ok (.invokevirtual 69, 3) := by decide +kernel
theorem dX4_street_71 : decode cX4_street 71 = .ok (.ireturn, 1) := by decide +kernel
theorem dX4_street_72 : decode cX4_street 72 = .ok (.aload 5, 2) := by decide +kernel
theorem dX4_street_74 : decode cX4_street 74 = .ok (.iload_n 3, 1) := by decide +kernel
theorem dX4_street_75 : decode cX4_street 75 = .ok (.iload 4, 2) := by decide +kernel
theorem dX4_street_77 : decode cX4_street 77 = .ok (.invokevirtual 77, 3) := by decide +kernel
theorem dX4_street_80 : decode cX4_street 80 = .ok (.ifCond .ne 9, 3) := by decide +kernel
theorem dX4_street_83 : decode cX4_street 83 = .ok (.aload_n 0, 1) := by decide +kernel
theorem dX4_street_84 : decode cX4_street 84 = .ok (.iconst 3, 1) := by decide +kernel
theorem dX4_street_85 : decode cX4_street 85 = .ok (.invokevirtual 69, 3) := by decide +kernel
theorem dX4_street_88 : decode cX4_street 88 = .ok (.ireturn, 1) := by decide +kernel
theorem dX4_street_89 : decode cX4_street 89 = .ok (.aload_n 0, 1) := by decide +kernel
theorem dX4_street_90 : decode cX4_street 90 = .ok (.getfield 45, 3) := by decide +kernel
theorem dX4_street_93 : decode cX4_street 93 = .ok (.aload 5, 2) := by decide +kernel
theorem dX4_street_95 : decode cX4_street 95 = .ok (.iload_n 3, 1) := by decide +kernel
theorem dX4_street_96 : decode cX4_street 96 = .ok (.iload 4, 2) := by decide +kernel
theorem dX4_street_98 : decode cX4_street 98 = .ok (.invokevirtual 81, 3) := by decide +kernel
theorem dX4_street_101 : decode cX4_street 101 = .ok (.istore 6, 2) := by decide +kernel
theorem dX4_street_103 : decode cX4_street 103 = .ok (.iload 6, 2) := by decide +kernel
theorem dX4_street_105 : decode cX4_street 105 = .ok (.bipush (-9), 2) := by decide +kernel
theorem dX4_street_107 : decode cX4_street 107 = .ok (.if_icmp .eq 9, 3) := by decide +kernel
theorem dX4_street_110 : decode cX4_street 110 = .ok (.bipush (-100), 2) := by decide +kernel
theorem dX4_street_112 : decode cX4_street 112 = .ok (.iload 6, 2) := by decide +kernel
theorem dX4_street_114 : decode cX4_street 114 = .ok (.isub, 1) := by decide +kernel
theorem dX4_street_115 : decode cX4_street 115 = .ok (.ireturn, 1) := by decide +kernel
theorem dX4_street_116 : decode cX4_street 116 = .ok (.aload_n 0, 1) := by decide +kernel
theorem dX4_street_117 : decode cX4_street 117 = .ok (.getfield 41, 3) := by decide +kernel
theorem dX4_street_120 : decode cX4_street 120 = .ok (.astore 7, 2) := by decide +kernel
theorem dX4_street_122 : decode cX4_street 122 = .ok (.aload_n 0, 1) := by decide +kernel
theorem dX4_street_123 : decode cX4_street 123 = .ok (.aload_n 0, 1) := by decide +kernel
theorem dX4_street_124 : decode cX4_street 124 = .ok (.getfield 45, 3) := by decide +kernel
theorem dX4_street_127 : decode cX4_street 127 = .ok (.putfield 41, 3) := by decide +kernel
theorem dX4_street_130 : decode cX4_street 130 = .ok (.aload_n 0, 1) := by decide +kernel
theorem dX4_street_131 : decode cX4_street 131 = .ok (.aload 7, 2) := by decide +kernel
theorem dX4_street_133 : decode cX4_street 133 = .ok (.putfield 45, 3) := by decide +kernel
theorem dX4_street_136 : decode cX4_street 136 = .ok (.aload_n 0, 1) := by decide +kernel
theorem dX4_street_137 : decode cX4_street 137 = .ok (.iconst 0, 1) := by decide +kernel
theorem dX4_street_138 : decode cX4_street 138 = .ok (.putfield 48, 3) := by decide +kernel
theorem dX4_street_141 : decode cX4_street 141 = .ok (.aload_n 0, 1) := by decide +kernel
theorem dX4_street_142 : decode cX4_street 142 = .ok (.getfield 41, 3) := by decide +kernel
theorem dX4_street_145 : decode cX4_street 145 = .ok (.getfield 85, 3) := by decide +kernel
