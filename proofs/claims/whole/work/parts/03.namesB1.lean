theorem dX4_kinds_34 : decode cX4_kinds 34 = .ok (.getfield 45, 3) := by decide +kernel
theorem dX4_kinds_37 : decode cX4_kinds 37 = .ok (.getfield 91, 3) := by decide +kernel
theorem dX4_kinds_40 : decode cX4_kinds 40 = .ok (.iload_n 1, 1) := by decide +kernel
theorem dX4_kinds_41 : decode cX4_kinds 41 = .ok (.iload_n 3, 1) := by decide +kernel
theorem dX4_kinds_42 : decode cX4_kinds 42 = .ok (.iastore, 1) := by decide +kernel
theorem dX4_kinds_43 : decode cX4_kinds 43 = .ok (.aload_n 0, 1) := by decide +kernel
theorem dX4_kinds_44 : decode cX4_kinds 44 = .ok (.invokevirtual 170, 3) := by decide +kernel
theorem dX4_kinds_47 : decode cX4_kinds 47 = .ok (.ifCond .eq 9, 3) := by decide +kernel
theorem dX4_kinds_50 : decode cX4_kinds 50 = .ok (.iload_n 2, 1) := by decide +kernel
theorem dX4_kinds_51 : decode cX4_kinds 51 = .ok (.iconst 1, 1) := by decide +kernel
theorem dX4_kinds_52 : decode cX4_kinds 52 = .ok (.iload_n 3, 1) := by decide +kernel
theorem dX4_kinds_53 : decode cX4_kinds 53 = .ok (.ishl, 1) := by decide +kernel
theorem dX4_kinds_54 : decode cX4_kinds 54 = .ok (.ior, 1) := by decide +kernel
theorem dX4_kinds_55 : decode cX4_kinds 55 = .ok (.istore_n 2, 1) := by decide +kernel
theorem dX4_kinds_56 : decode cX4_kinds 56 = .ok (.iinc 3 1, 3) := by decide +kernel
theorem dX4_kinds_59 : decode cX4_kinds 59 = .ok (.goto (-31), 3) := by decide +kernel
theorem dX4_kinds_62 : decode cX4_kinds 62 = .ok (.iload_n 2, 1) := by decide +kernel
theorem dX4_kinds_63 : decode cX4_kinds 63 = .ok (.ireturn, 1) := by decide +kernel
set_option maxRecDepth 20000 in
theorem ggX4_strengths_X3_isNone : GoodIn wsX4_strengths wsX3_isNone := goodIn_r _ [8, 9, 127, 128, 129, 130, 131, 132, 133] (by decide +kernel) (by decide +kernel)
set_option maxRecDepth 20000 in
theorem gX4_strengths_X3_isNone : GoodIn wsX4_strengths (wsV RX4 104 RX3 yX3_isNone wsX3_isNone) := goodIn_app (goodIn_of _ (by decide +kernel)) ggX4_strengths_X3_isNone
set_option maxRecDepth 20000 in
theorem ggX4_strengths_X3_becomeLike : GoodIn wsX4_strengths wsX3_becomeLike := goodIn_r _ [13, 14, 15, 16, 17, 18, 19, 20, 9, 21, 22, 23, 127, 128, 129, 130, 131, 132, 133] (by decide +kernel) (by decide +kernel)
set_option maxRecDepth 20000 in
theorem gX4_strengths_X3_becomeLike : GoodIn wsX4_strengths (wsV RX4 167 RX3 yX3_becomeLike wsX3_becomeLike) := goodIn_app (goodIn_of _ (by decide +kernel)) ggX4_strengths_X3_becomeLike
set_option maxRecDepth 20000 in
theorem ggX4_strengths_X4_draftFitsReadings : GoodIn wsX4_strengths wsX4_draftFitsReadings := goodIn_r _ [28, 29, 30, 2, 31, 32, 33, 34, 35, 36, 37, 38, 39, 40, 41, 42, 43, 44, 45, 46, 47, 48, 49, 50, 51, 52, 53, 54, 55, 56, 57, 58, 59, 60, 61, 62, 63, 64, 65, 66, 67, 68, 69, 70, 71, 72, 73, 74, 75, 76, 77, 78, 7, 79, 9, 80, 81, 82, 83, 84, 85, 86, 87, 88, 89, 90, 91, 92, 93, 94, 95, 96, 97, 98, 99, 100, 101, 102, 103, 104, 105, 106, 107, 108, 109, 110, 111, 112, 113, 114, 115, 116, 14, 19, 117, 118, 119, 120, 121, 122, 123, 124, 125, 126, 134, 135, 136, 137, 138, 139, 140, 141, 142, 143, 144, 145, 146, 147, 148, 127, 128, 129, 130, 131, 132, 133] (by decide +kernel) (by decide +kernel)
set_option maxRecDepth 20000 in
theorem gX4_strengths_X4_draftFitsReadings : GoodIn wsX4_strengths (wsV RX4 170 RX4 yX4_draftFitsReadings wsX4_draftFitsReadings) := goodIn_app (goodIn_of _ (by decide +kernel)) ggX4_strengths_X4_draftFitsReadings
theorem dX4_strengths_0 : decode cX4_strengths 0 = .ok (.aload_n 0, 1) := by decide +kernel
theorem dX4_strengths_1 : decode cX4_strengths 1 = .ok (.getfield 41, 3) := by decide +kernel
theorem dX4_strengths_4 : decode cX4_strengths 4 = .ok (.invokevirtual 104, 3) := by decide +kernel
theorem dX4_strengths_7 : decode cX4_strengths 7 = .ok (.ifCond .eq 6, 3) := by decide +kernel
theorem dX4_strengths_10 : decode cX4_strengths 10 = .ok (.bipush (-3), 2) := by decide +kernel
theorem dX4_strengths_12 : decode cX4_strengths 12 = .ok (.ireturn, 1) := by decide +kernel
theorem dX4_strengths_13 : decode cX4_strengths 13 = .ok (.aload_n 0, 1) := by decide +kernel
theorem dX4_strengths_14 : decode cX4_strengths 14 = .ok (.getfield 45, 3) := by decide +kernel
theorem dX4_strengths_17 : decode cX4_strengths 17 = .ok (.aload_n 0, 1) := by decide +kernel
theorem dX4_strengths_18 : decode cX4_strengths 18 = .ok (.getfield 41, 3) := by decide +kernel
theorem dX4_strengths_21 : decode cX4_strengths 21 = .ok (.invokevirtual 167, 3) := by decide +kernel
theorem dX4_strengths_24 : decode cX4_strengths 24 = .ok (.iconst 0, 1) := by decide +kernel
theorem dX4_strengths_25 : decode cX4_strengths 25 = .ok (.istore_n 1, 1) := by decide +kernel
theorem dX4_strengths_26 : decode cX4_strengths 26 = .ok (.iconst 1, 1) := by decide +kernel
theorem dX4_strengths_27 : decode cX4_strengths 27 = .ok (.istore_n 2, 1) := by decide +kernel
theorem dX4_strengths_28 : decode cX4_strengths 28 = .ok (.iload_n 2, 1) := by decide +kernel
theorem dX4_strengths_29 : decode cX4_strengths 29 = .ok (.iconst 4, 1) := by decide +kernel
theorem dX4_strengths_30 : decode cX4_strengths 30 = .ok (.if_icmp .gt 30, 3) := by decide +kernel
theorem dX4_strengths_33 : decode cX4_strengths 33 = .ok (.aload_n 0, 1) := by decide +kernel
theorem dX4_strengths_34 : decode cX4_strengths 34 = .ok (.getfield 45, 3) := by decide +kernel
theorem dX4_strengths_37 : decode cX4_strengths 37 = .ok (.iload_n 2, 1) := by decide +kernel
theorem dX4_strengths_38 : decode cX4_strengths 38 = .ok (.putfield 108, 3) := by decide +kernel
theorem dX4_strengths_41 : decode cX4_strengths 41 = .ok (.aload_n 0, 1) := by decide +kernel
theorem dX4_strengths_42 : decode cX4_strengths 42 = .ok (.invokevirtual 170, 3) := by decide +kernel
theorem dX4_strengths_45 : decode cX4_strengths 45 = .ok (.ifCond .eq 9, 3) := by decide +kernel
theorem dX4_strengths_48 : decode cX4_strengths 48 = .ok (.iload_n 1, 1) := by decide +kernel
theorem dX4_strengths_49 : decode cX4_strengths 49 = .ok (.iconst 1, 1) := by decide +kernel
theorem dX4_strengths_50 : decode cX4_strengths 50 = .ok (.iload_n 2, 1) := by decide +kernel
theorem dX4_strengths_51 : decode cX4_strengths 51 = .ok (.ishl, 1) := by decide +kernel
theorem dX4_strengths_52 : decode cX4_strengths 52 = .ok (.ior, 1) := by decide +kernel
theorem dX4_strengths_53 : decode cX4_strengths 53 = .ok (.istore_n 1, 1) := by decide +kernel
theorem dX4_strengths_54 : decode cX4_strengths 54 = .ok (.iinc 2 1, 3) := by decide +kernel
theorem dX4_strengths_57 : decode cX4_strengths 57 = .ok (.goto (-29), 3) := by decide +kernel
theorem dX4_strengths_60 : decode cX4_strengths 60 = .ok (.iload_n 1, 1) := by decide +kernel
theorem dX4_strengths_61 : decode cX4_strengths 61 = .ok (.ireturn, 1) := by decide +kernel
set_option maxRecDepth 20000 in
theorem ggX4_knees_X3_isNone : GoodIn wsX4_knees wsX3_isNone := goodIn_r _ [8, 9, 127, 128, 129, 130, 131, 132, 133] (by decide +kernel) (by decide +kernel)
set_option maxRecDepth 20000 in
theorem gX4_knees_X3_isNone : GoodIn wsX4_knees (wsV RX4 104 RX3 yX3_isNone wsX3_isNone) := goodIn_app (goodIn_of _ (by decide +kernel)) ggX4_knees_X3_isNone
set_option maxRecDepth 20000 in
theorem ggX4_knees_X3_becomeLike : GoodIn wsX4_knees wsX3_becomeLike := goodIn_r _ [13, 14, 15, 16, 17, 18, 19, 20, 9, 21, 22, 23, 127, 128, 129, 130, 131, 132, 133] (by decide +kernel) (by decide +kernel)
set_option maxRecDepth 20000 in
theorem gX4_knees_X3_becomeLike : GoodIn wsX4_knees (wsV RX4 167 RX3 yX3_becomeLike wsX3_becomeLike) := goodIn_app (goodIn_of _ (by decide +kernel)) ggX4_knees_X3_becomeLike
set_option maxRecDepth 20000 in
theorem ggX4_knees_X4_draftFitsReadings : GoodIn wsX4_knees wsX4_draftFitsReadings := goodIn_r _ [28, 29, 30, 2, 31, 32, 33, 34, 35, 36, 37, 38, 39, 40, 41, 42, 43, 44, 45, 46, 47, 48, 49, 50, 51, 52, 53, 54, 55, 56, 57, 58, 59, 60, 61, 62, 63, 64, 65, 66, 67, 68, 69, 70, 71, 72, 73, 74, 75, 76, 77, 78, 7, 79, 9, 80, 81, 82, 83, 84, 85, 86, 87, 88, 89, 90, 91, 92, 93, 94, 95, 96, 97, 98, 99, 100, 101, 102, 103, 104, 105, 106, 107, 108, 109, 110, 111, 112, 113, 114, 115, 116, 14, 19, 117, 118, 119, 120, 121, 122, 123, 124, 125, 126, 134, 135, 136, 137, 138, 139, 140, 141, 142, 143, 144, 145, 146, 147, 148, 127, 128, 129, 130, 131, 132, 133] (by decide +kernel) (by decide +kernel)
set_option maxRecDepth 20000 in
theorem gX4_knees_X4_draftFitsReadings : GoodIn wsX4_knees (wsV RX4 170 RX4 yX4_draftFitsReadings wsX4_draftFitsReadings) := goodIn_app (goodIn_of _ (by decide +kernel)) ggX4_knees_X4_draftFitsReadings
theorem dX4_knees_0 : decode cX4_knees 0 = .ok (.aload_n 0, 1) := by decide +kernel
theorem dX4_knees_1 : decode cX4_knees 1 = .ok (.getfield 41, 3) := by decide +kernel
theorem dX4_knees_4 : decode cX4_knees 4 = .ok (.invokevirtual 104, 3) := by decide +kernel
theorem dX4_knees_7 : decode cX4_knees 7 = .ok (.ifCond .eq 6, 3) := by decide +kernel
theorem dX4_knees_10 : decode cX4_knees 10 = .ok (.bipush (-3), 2) := by decide +kernel
theorem dX4_knees_12 : decode cX4_knees 12 = .ok (.ireturn, 1) := by decide +kernel
theorem dX4_knees_13 : decode cX4_knees 13 = .ok (.aload_n 0, 1) := by decide +kernel
theorem dX4_knees_14 : decode cX4_knees 14 = .ok (.getfield 45, 3) := by decide +kernel
theorem dX4_knees_17 : decode cX4_knees 17 = .ok (.aload_n 0, 1) := by decide +kernel
theorem dX4_knees_18 : decode cX4_knees 18 = .ok (.getfield 41, 3) := by decide +kernel
theorem dX4_knees_21 : decode cX4_knees 21 = .ok (.invokevirtual 167, 3) := by decide +kernel
theorem dX4_knees_24 : decode cX4_knees 24 = .ok (.iconst 0, 1) := by decide +kernel
theorem dX4_knees_25 : decode cX4_knees 25 = .ok (.istore_n 1, 1) := by decide +kernel
theorem dX4_knees_26 : decode cX4_knees 26 = .ok (.iconst 1, 1) := by decide +kernel
theorem dX4_knees_27 : decode cX4_knees 27 = .ok (.istore_n 2, 1) := by decide +kernel
theorem dX4_knees_28 : decode cX4_knees 28 = .ok (.iload_n 2, 1) := by decide +kernel
theorem dX4_knees_29 : decode cX4_knees 29 = .ok (.iconst 3, 1) := by decide +kernel
theorem dX4_knees_30 : decode cX4_knees 30 = .ok (.if_icmp .gt 30, 3) := by decide +kernel
theorem dX4_knees_33 : decode cX4_knees 33 = .ok (.aload_n 0, 1) := by decide +kernel
theorem dX4_knees_34 : decode cX4_knees 34 = .ok (.getfield 45, 3) := by decide +kernel
theorem dX4_knees_37 : decode cX4_knees 37 = .ok (.iload_n 2, 1) := by decide +kernel
theorem dX4_knees_38 : decode cX4_knees 38 = .ok (.putfield 111, 3) := by decide +kernel
theorem dX4_knees_41 : decode cX4_knees 41 = .ok (.aload_n 0, 1) := by decide +kernel
theorem dX4_knees_42 : decode cX4_knees 42 = .ok (.invokevirtual 170, 3) := by decide +kernel
theorem dX4_knees_45 : decode cX4_knees 45 = .ok (.ifCond .eq 9, 3) := by decide +kernel
theorem dX4_knees_48 : decode cX4_knees 48 = .ok (.iload_n 1, 1) := by decide +kernel
theorem dX4_knees_49 : decode cX4_knees 49 = .ok (.iconst 1, 1) := by decide +kernel
theorem dX4_knees_50 : decode cX4_knees 50 = .ok (.iload_n 2, 1) := by decide +kernel
theorem dX4_knees_51 : decode cX4_knees 51 = .ok (.ishl, 1) := by decide +kernel
theorem dX4_knees_52 : decode cX4_knees 52 = .ok (.ior, 1) := by decide +kernel
theorem dX4_knees_53 : decode cX4_knees 53 = .ok (.istore_n 1, 1) := by decide +kernel
theorem dX4_knees_54 : decode cX4_knees 54 = .ok (.iinc 2 1, 3) := by decide +kernel
theorem dX4_knees_57 : decode cX4_knees 57 = .ok (.goto (-29), 3) := by decide +kernel
theorem dX4_knees_60 : decode cX4_knees 60 = .ok (.iload_n 1, 1) := by decide +kernel
theorem dX4_knees_61 : decode cX4_knees 61 = .ok (.ireturn, 1) := by decide +kernel
set_option maxRecDepth 20000 in
theorem ggX4_odds_X3_isNone : GoodIn wsX4_odds wsX3_isNone := goodIn_r _ [8, 9, 132, 133, 134, 135, 136, 137, 138] (by decide +kernel) (by decide +kernel)
set_option maxRecDepth 20000 in
theorem gX4_odds_X3_isNone : GoodIn wsX4_odds (wsV RX4 104 RX3 yX3_isNone wsX3_isNone) := goodIn_app (goodIn_of _ (by decide +kernel)) ggX4_odds_X3_isNone
set_option maxRecDepth 20000 in
theorem ggX4_odds_X4_findOpenFlags : GoodIn wsX4_odds wsX4_findOpenFlags := goodIn_r _ [14, 2, 15, 16, 17, 122, 123, 124, 125, 126, 127, 128, 129, 130, 131, 132, 133, 134, 135, 136, 137, 138] (by decide +kernel) (by decide +kernel)
set_option maxRecDepth 20000 in
theorem gX4_odds_X4_findOpenFlags : GoodIn wsX4_odds (wsV RX4 175 RX4 yX4_findOpenFlags wsX4_findOpenFlags) := goodIn_app (goodIn_of _ (by decide +kernel)) ggX4_odds_X4_findOpenFlags
set_option maxRecDepth 20000 in
theorem ggX4_odds_X3_becomeLike : GoodIn wsX4_odds wsX3_becomeLike := goodIn_r _ [21, 22, 23, 24, 25, 26, 27, 28, 9, 29, 30, 31, 132, 133, 134, 135, 136, 137, 138] (by decide +kernel) (by decide +kernel)
set_option maxRecDepth 20000 in
theorem gX4_odds_X3_becomeLike : GoodIn wsX4_odds (wsV RX4 167 RX3 yX3_becomeLike wsX3_becomeLike) := goodIn_app (goodIn_of _ (by decide +kernel)) ggX4_odds_X3_becomeLike
set_option maxRecDepth 20000 in
theorem ggX4_odds_X4_waysWithin : GoodIn wsX4_odds wsX4_waysWithin := goodIn_r _ [35, 3, 16, 17, 36, 37, 38, 39, 40, 41, 42, 43, 44, 45, 46, 47, 48, 49, 50, 51, 52, 53, 54, 55, 56, 57, 58, 59, 60, 61, 62, 63, 64, 65, 66, 67, 68, 69, 70, 71, 72, 73, 74, 75, 76, 77, 78, 79, 80, 81, 82, 83, 7, 84, 9, 85, 86, 87, 88, 89, 90, 91, 92, 93, 94, 95, 96, 97, 98, 99, 100, 101, 102, 103, 104, 105, 106, 107, 108, 109, 110, 111, 112, 113, 114, 115, 116, 117, 118, 119, 120, 121, 22, 27, 122, 123, 124, 125, 126, 127, 128, 129, 130, 131, 132, 133, 134, 135, 136, 137, 138, 139, 140, 141, 142, 143, 144, 145, 146, 147, 148, 149, 150, 151, 152, 153] (by decide +kernel) (by decide +kernel)
set_option maxRecDepth 20000 in
theorem gX4_odds_X4_waysWithin : GoodIn wsX4_odds (wsV RX4 179 RX4 yX4_waysWithin wsX4_waysWithin) := goodIn_app (goodIn_of _ (by decide +kernel)) ggX4_odds_X4_waysWithin
theorem dX4_odds_0 : decode cX4_odds 0 = .ok (.iload_n 1, 1) := by decide +kernel
theorem dX4_odds_1 : decode cX4_odds 1 = .ok (.ifCond .lt 18, 3) := by decide +kernel
theorem dX4_odds_4 : decode cX4_odds 4 = .ok (.iload_n 1, 1) := by decide +kernel
theorem dX4_odds_5 : decode cX4_odds 5 = .ok (.bipush 24, 2) := by decide +kernel
theorem dX4_odds_7 : decode cX4_odds 7 = .ok (.if_icmp .gt 12, 3) := by decide +kernel
theorem dX4_odds_10 : decode cX4_odds 10 = .ok (.iload_n 2, 1) := by decide +kernel
theorem dX4_odds_11 : decode cX4_odds 11 = .ok (.ifCond .lt 8, 3) := by decide +kernel
theorem dX4_odds_14 : decode cX4_odds 14 = .ok (.iload_n 2, 1) := by decide +kernel
theorem dX4_odds_15 : decode cX4_odds 15 = .ok (.iconst 1, 1) := by decide +kernel
theorem dX4_odds_16 : decode cX4_odds 16 = .ok (.if_icmp .le 7, 3) := by decide +kernel
theorem dX4_odds_19 : decode cX4_odds 19 = .ok (.ldc2_w 173, 3) := by decide +kernel
theorem dX4_odds_22 : decode cX4_odds 22 = .ok (.lreturn, 1) := by decide +kernel
theorem dX4_odds_23 : decode cX4_odds 23 = .ok (.aload_n 0, 1) := by decide +kernel
theorem dX4_odds_24 : decode cX4_odds 24 = .ok (.getfield 41, 3) := by decide +kernel
theorem dX4_odds_27 : decode cX4_odds 27 = .ok (.invokevirtual 104, 3) := by decide +kernel
theorem dX4_odds_30 : decode cX4_odds 30 = .ok (.ifCond .eq 7, 3) := by decide +kernel
theorem dX4_odds_33 : decode cX4_odds 33 = .ok (.ldc2_w 173, 3) := by decide +kernel
theorem dX4_odds_36 : decode cX4_odds 36 = .ok (.lreturn, 1) := by decide +kernel
theorem dX4_odds_37 : decode cX4_odds 37 = .ok (.aload_n 0, 1) := by decide +kernel
theorem dX4_odds_38 : decode cX4_odds 38 = .ok (.invokevirtual 175, 3) := by decide +kernel
theorem dX4_odds_41 : decode cX4_odds 41 = .ok (.istore_n 3, 1) := by decide +kernel
theorem dX4_odds_42 : decode cX4_odds 42 = .ok (.iload_n 3, 1) := by decide +kernel
theorem dX4_odds_43 : decode cX4_odds 43 = .ok (.iconst 4, 1) := by decide +kernel
theorem dX4_odds_44 : decode cX4_odds 44 = .ok (.if_icmp .le 7, 3) := by decide +kernel
theorem dX4_odds_47 : decode cX4_odds 47 = .ok (.ldc2_w 173, 3) := by decide +kernel
theorem dX4_odds_50 : decode cX4_odds 50 = .ok (.lreturn, 1) := by decide +kernel
theorem dX4_odds_51 : decode cX4_odds 51 = .ok (.aload_n 0, 1) := by decide +kernel
theorem dX4_odds_52 : decode cX4_odds 52 = .ok (.getfield 45, 3) := by decide +kernel
theorem dX4_odds_55 : decode cX4_odds 55 = .ok (.aload_n 0, 1) := by decide +kernel
theorem dX4_odds_56 : decode cX4_odds 56 = .ok (.getfield 41, 3) := by decide +kernel
theorem dX4_odds_59 : decode cX4_odds 59 = .ok (.invokevirtual 167, 3) := by decide +kernel
theorem dX4_odds_62 : decode cX4_odds 62 = .ok (.aload_n 0, 1) := by decide +kernel
theorem dX4_odds_63 : decode cX4_odds 63 = .ok (.iload_n 3, 1) := by decide +kernel
theorem dX4_odds_64 : decode cX4_odds 64 = .ok (.iload_n 1, 1) := by decide +kernel
theorem dX4_odds_65 : decode cX4_odds 65 = .ok (.invokevirtual 179, 3) := by decide +kernel
theorem dX4_odds_68 : decode cX4_odds 68 = .ok (.istore 4, 2) := by decide +kernel
theorem dX4_odds_70 : decode cX4_odds 70 = .ok (.iconst 1, 1) := by decide +kernel
theorem dX4_odds_71 : decode cX4_odds 71 = .ok (.iload_n 3, 1) := by decide +kernel
theorem dX4_odds_72 : decode cX4_odds 72 = .ok (.ishl, 1) := by decide +kernel
theorem dX4_odds_73 : decode cX4_odds 73 = .ok (.istore 5, 2) := by decide +kernel
theorem dX4_odds_75 : decode cX4_odds 75 = .ok (.iconst 0, 1) := by decide +kernel
theorem dX4_odds_76 : decode cX4_odds 76 = .ok (.istore 6, 2) := by decide +kernel
theorem dX4_odds_78 : decode cX4_odds 78 = .ok (.iload 6, 2) := by decide +kernel
theorem dX4_odds_80 : decode cX4_odds 80 = .ok (.iload_n 3, 1) := by decide +kernel
theorem dX4_odds_81 : decode cX4_odds 81 = .ok (.if_icmp .ge 28, 3) := by decide +kernel
theorem dX4_odds_84 : decode cX4_odds 84 = .ok (.iload 4, 2) := by decide +kernel
theorem dX4_odds_86 : decode cX4_odds 86 = .ok (.iconst 2, 1) := by decide +kernel
theorem dX4_odds_87 : decode cX4_odds 87 = .ok (.irem, 1) := by decide +kernel
theorem dX4_odds_88 : decode cX4_odds 88 = .ok (.ifCond .ne 21, 3) := by decide +kernel
theorem dX4_odds_91 : decode cX4_odds 91 = .ok (.iload 4, 2) := by decide +kernel
theorem dX4_odds_93 : decode cX4_odds 93 = .ok (.iconst 2, 1) := by decide +kernel
theorem dX4_odds_94 : decode cX4_odds 94 = .ok (.idiv, 1) := by decide +kernel
theorem dX4_odds_95 : decode cX4_odds 95 = .ok (.istore 4, 2) := by decide +kernel
theorem dX4_odds_97 : decode cX4_odds 97 = .ok (.iload 5, 2) := by decide +kernel
theorem dX4_odds_99 : decode cX4_odds 99 = .ok (.iconst 2, 1) := by decide +kernel
theorem dX4_odds_100 : decode cX4_odds 100 = .ok (.idiv, 1) := by decide +kernel
theorem dX4_odds_101 : decode cX4_odds 101 = .ok (.istore 5, 2) := by decide +kernel
theorem dX4_odds_103 : decode cX4_odds 103 = .ok (.iinc 6 1, 3) := by decide +kernel
theorem dX4_odds_106 : decode cX4_odds 106 = .ok (.goto (-28), 3) := by decide +kernel
theorem dX4_odds_109 : decode cX4_odds 109 = .ok (.iload_n 2, 1) := by decide +kernel
theorem dX4_odds_110 : decode cX4_odds 110 = .ok (.ifCond .ne 9, 3) := by decide +kernel
theorem dX4_odds_113 : decode cX4_odds 113 = .ok (.iload 4, 2) := by decide +kernel
theorem dX4_odds_115 : decode cX4_odds 115 = .ok (.i2l, 1) := by decide +kernel
theorem dX4_odds_116 : decode cX4_odds 116 = .ok (.goto 6, 3) := by decide +kernel
theorem dX4_odds_119 : decode cX4_odds 119 = .ok (.iload 5, 2) := by decide +kernel
theorem dX4_odds_121 : decode cX4_odds 121 = .ok (.i2l, 1) := by decide +kernel
theorem dX4_odds_122 : decode cX4_odds 122 = .ok (.lreturn, 1) := by decide +kernel
set_option maxRecDepth 20000 in
theorem ggX4_draftFitsReadings_X2_least : GoodIn wsX4_draftFitsReadings wsX2_least := goodIn_r _ [9, 10, 11, 12, 13, 14, 15, 16, 17, 18, 19, 20, 21, 22, 23, 24, 25, 26, 27, 28, 29, 30, 31, 32, 33, 34, 35, 36, 37, 38, 39, 40, 41, 8, 42, 43, 44, 45, 46, 47, 48, 49, 50, 51, 52, 53, 54, 55, 56, 57, 58, 59, 60, 61, 62, 63, 64, 65, 66, 67, 68, 69, 70, 71, 72, 73, 74, 75, 76, 77, 78, 79, 80, 81, 82, 83, 84, 85, 86, 87, 88, 89, 90, 91, 92, 93, 104, 105, 106, 107, 108, 109, 110, 111, 112, 113, 114, 115, 116, 117, 118, 119, 120, 121, 122, 123, 124, 125] (by decide +kernel) (by decide +kernel)
set_option maxRecDepth 20000 in
theorem gX4_draftFitsReadings_X2_least : GoodIn wsX4_draftFitsReadings (wsV RX4 163 RX2 yX2_least wsX2_least) := goodIn_app (goodIn_of _ (by decide +kernel)) ggX4_draftFitsReadings_X2_least
theorem dX4_draftFitsReadings_0 : decode cX4_draftFitsReadings 0 = .ok (.aload_n 0, 1) := by decide +kernel
theorem dX4_draftFitsReadings_1 : decode cX4_draftFitsReadings 1 = .ok (.getfield 48, 3) := by decide +kernel
theorem dX4_draftFitsReadings_4 : decode cX4_draftFitsReadings 4 = .ok (.ifCond .ne 5, 3) := by decide +kernel
theorem dX4_draftFitsReadings_7 : decode cX4_draftFitsReadings 7 = .ok (.iconst 1, 1) := by decide +kernel
theorem dX4_draftFitsReadings_8 : decode cX4_draftFitsReadings 8 = .ok (.ireturn, 1) := by decide +kernel
theorem dX4_draftFitsReadings_9 : decode cX4_draftFitsReadings 9 = .ok (.aload_n 0, 1) := by decide +kernel
theorem dX4_draftFitsReadings_10 : decode cX4_draftFitsReadings 10 = .ok (.getfield 27, 3) := by decide +kernel
theorem dX4_draftFitsReadings_13 : decode cX4_draftFitsReadings 13 = .ok (.aload_n 0, 1) := by decide +kernel
theorem dX4_draftFitsReadings_14 : decode cX4_draftFitsReadings 14 = .ok (.getfield 45, 3) := by decide +kernel
theorem dX4_draftFitsReadings_17 : decode cX4_draftFitsReadings 17 = .ok (.bipush 24, 2) := by decide +kernel
theorem dX4_draftFitsReadings_19 : decode cX4_draftFitsReadings 19 = .ok (.iconst 0, 1) := by decide +kernel
theorem dX4_draftFitsReadings_20 : decode cX4_draftFitsReadings 20 = .ok (.invokevirtual 163, 3) := by decide +kernel
theorem dX4_draftFitsReadings_23 : decode cX4_draftFitsReadings 23 = .ok (.istore_n 1, 1) := by decide +kernel
theorem dX4_draftFitsReadings_24 : decode cX4_draftFitsReadings 24 = .ok (.iconst 0, 1) := by decide +kernel
theorem dX4_draftFitsReadings_25 : decode cX4_draftFitsReadings 25 = .ok (.istore_n 2, 1) := by decide +kernel
theorem dX4_draftFitsReadings_26 : decode cX4_draftFitsReadings 26 = .ok (.iload_n 2, 1) := by decide +kernel
theorem dX4_draftFitsReadings_27 : decode cX4_draftFitsReadings 27 = .ok (.aload_n 0, 1) := by decide +kernel
theorem dX4_draftFitsReadings_28 : decode cX4_draftFitsReadings 28 = .ok (.getfield 48, 3) := by decide +kernel
theorem dX4_draftFitsReadings_31 : decode cX4_draftFitsReadings 31 = .ok (.if_icmp .ge 21, 3) := by decide +kernel
theorem dX4_draftFitsReadings_34 : decode cX4_draftFitsReadings 34 = .ok (.aload_n 0, 1) := by decide +kernel
theorem dX4_draftFitsReadings_35 : decode cX4_draftFitsReadings 35 = .ok (.getfield 31, 3) := by decide +kernel
theorem dX4_draftFitsReadings_38 : decode cX4_draftFitsReadings 38 = .ok (.iload_n 2, 1) := by decide +kernel
theorem dX4_draftFitsReadings_39 : decode cX4_draftFitsReadings 39 = .ok (.iaload, 1) := by decide +kernel
theorem dX4_draftFitsReadings_40 : decode cX4_draftFitsReadings 40 = .ok (.iload_n 1, 1) := by decide +kernel
theorem dX4_draftFitsReadings_41 : decode cX4_draftFitsReadings 41 = .ok (.if_icmp .eq 5, 3) := by decide +kernel
theorem dX4_draftFitsReadings_44 : decode cX4_draftFitsReadings 44 = .ok (.iconst 0, 1) := by decide +kernel
theorem dX4_draftFitsReadings_45 : decode cX4_draftFitsReadings 45 = .ok (.ireturn, 1) := by decide +kernel
theorem dX4_draftFitsReadings_46 : decode cX4_draftFitsReadings 46 = .ok (.iinc 2 1, 3) := by decide +kernel
theorem dX4_draftFitsReadings_49 : decode cX4_draftFitsReadings 49 = .ok (.goto (-23), 3) := by decide +kernel
theorem dX4_draftFitsReadings_52 : decode cX4_draftFitsReadings 52 = .ok (.iconst 1, 1) := by decide +kernel
theorem dX4_draftFitsReadings_53 : decode cX4_draftFitsReadings 53 = .ok (.ireturn, 1) := by decide +kernel
theorem dX4_findOpenFlags_0 : decode cX4_findOpenFlags 0 = .ok (.iconst 0, 1) := by decide +kernel
theorem dX4_findOpenFlags_1 : decode cX4_findOpenFlags 1 = .ok (.istore_n 1, 1) := by decide +kernel
theorem dX4_findOpenFlags_2 : decode cX4_findOpenFlags 2 = .ok (.iconst 0, 1) := by decide +kernel
theorem dX4_findOpenFlags_3 : decode cX4_findOpenFlags 3 = .ok (.istore_n 2, 1) := by decide +kernel
theorem dX4_findOpenFlags_4 : decode cX4_findOpenFlags 4 = .ok (.iload_n 2, 1) := by decide +kernel
theorem dX4_findOpenFlags_5 : decode cX4_findOpenFlags 5 = .ok (.aload_n 0, 1) := by decide +kernel
theorem dX4_findOpenFlags_6 : decode cX4_findOpenFlags 6 = .ok (.getfield 41, 3) := by decide +kernel
theorem dX4_findOpenFlags_9 : decode cX4_findOpenFlags 9 = .ok (.getfield 85, 3) := by decide +kernel
theorem dX4_findOpenFlags_12 : decode cX4_findOpenFlags 12 = .ok (.if_icmp .ge 37, 3) := by decide +kernel
theorem dX4_findOpenFlags_15 : decode cX4_findOpenFlags 15 = .ok (.aload_n 0, 1) := by decide +kernel
theorem dX4_findOpenFlags_16 : decode cX4_findOpenFlags 16 = .ok (.getfield 41, 3) := by decide +kernel
theorem dX4_findOpenFlags_19 : decode cX4_findOpenFlags 19 = .ok (.getfield 91, 3) := by decide +kernel
theorem dX4_findOpenFlags_22 : decode cX4_findOpenFlags 22 = .ok (.iload_n 2, 1) := by decide +kernel
theorem dX4_findOpenFlags_23 : decode cX4_findOpenFlags 23 = .ok (.iaload, 1) := by decide +kernel
theorem dX4_findOpenFlags_24 : decode cX4_findOpenFlags 24 = .ok (.iconst 1, 1) := by decide +kernel
theorem dX4_findOpenFlags_25 : decode cX4_findOpenFlags 25 = .ok (.if_icmp .eq 18, 3) := by decide +kernel
theorem dX4_findOpenFlags_28 : decode cX4_findOpenFlags 28 = .ok (.iload_n 1, 1) := by decide +kernel
theorem dX4_findOpenFlags_29 : decode cX4_findOpenFlags 29 = .ok (.iconst 4, 1) := by decide +kernel
theorem dX4_findOpenFlags_30 : decode cX4_findOpenFlags 30 = .ok (.if_icmp .ge 10, 3) := by decide +kernel
theorem dX4_findOpenFlags_33 : decode cX4_findOpenFlags 33 = .ok (.aload_n 0, 1) := by decide +kernel
theorem dX4_findOpenFlags_34 : decode cX4_findOpenFlags 34 = .ok (.getfield 35, 3) := by decide +kernel
theorem dX4_findOpenFlags_37 : decode cX4_findOpenFlags 37 = .ok (.iload_n 1, 1) := by decide +kernel
theorem dX4_findOpenFlags_38 : decode cX4_findOpenFlags 38 = .ok (.iload_n 2, 1) := by decide +kernel
theorem dX4_findOpenFlags_39 : decode cX4_findOpenFlags 39 = .ok (.iastore, 1) := by decide +kernel
theorem dX4_findOpenFlags_40 : decode cX4_findOpenFlags 40 = .ok (.iinc 1 1, 3) := by decide +kernel
theorem dX4_findOpenFlags_43 : decode cX4_findOpenFlags 43 = .ok (.iinc 2 1, 3) := by decide +kernel
theorem dX4_findOpenFlags_46 : decode cX4_findOpenFlags 46 = .ok (.goto (-42), 3) := by decide +kernel
theorem dX4_findOpenFlags_49 : decode cX4_findOpenFlags 49 = .ok (.iload_n 1, 1) := by decide +kernel
theorem dX4_findOpenFlags_50 : decode cX4_findOpenFlags 50 = .ok (.ireturn, 1) := by decide +kernel
set_option maxRecDepth 20000 in
theorem ggX4_waysWithin_X2_least : GoodIn wsX4_waysWithin wsX2_least := goodIn_r _ [9, 10, 11, 12, 13, 14, 15, 16, 17, 18, 19, 20, 21, 22, 23, 24, 25, 26, 27, 28, 29, 30, 31, 32, 33, 34, 35, 36, 37, 38, 39, 40, 41, 8, 42, 43, 44, 45, 46, 47, 48, 49, 50, 51, 52, 53, 54, 55, 56, 57, 58, 59, 60, 61, 62, 63, 64, 65, 66, 67, 68, 69, 70, 71, 72, 73, 74, 75, 76, 77, 78, 79, 80, 81, 82, 83, 84, 85, 86, 87, 88, 89, 90, 91, 92, 93, 111, 112, 113, 114, 115, 116, 117, 118, 119, 120, 121, 122, 123, 124, 125, 104, 105, 106, 107, 108, 109, 110] (by decide +kernel) (by decide +kernel)
set_option maxRecDepth 20000 in
theorem gX4_waysWithin_X2_least : GoodIn wsX4_waysWithin (wsV RX4 163 RX2 yX2_least wsX2_least) := goodIn_app (goodIn_of _ (by decide +kernel)) ggX4_waysWithin_X2_least
theorem dX4_waysWithin_0 : decode cX4_waysWithin 0 = .ok (.iconst 0, 1) := by decide +kernel
theorem dX4_waysWithin_1 : decode cX4_waysWithin 1 = .ok (.istore_n 3, 1) := by decide +kernel
theorem dX4_waysWithin_2 : decode cX4_waysWithin 2 = .ok (.iconst 0, 1) := by decide +kernel
theorem dX4_waysWithin_3 : decode cX4_waysWithin 3 = .ok (.istore 4, 2) := by decide +kernel
theorem dX4_waysWithin_5 : decode cX4_waysWithin 5 = .ok (.iload 4, 2) := by decide +kernel
theorem dX4_waysWithin_7 : decode cX4_waysWithin 7 = .ok (.iconst 1, 1) := by decide +kernel
theorem dX4_waysWithin_8 : decode cX4_waysWithin 8 = .ok (.iload_n 1, 1) := by decide +kernel
theorem dX4_waysWithin_9 : decode cX4_waysWithin 9 = .ok (.ishl, 1) := by decide +kernel
theorem dX4_waysWithin_10 : decode cX4_waysWithin 10 = .ok (.if_icmp .ge 76, 3) := by decide +kernel
theorem dX4_waysWithin_13 : decode cX4_waysWithin 13 = .ok (.iconst 0, 1) := by decide +kernel
theorem dX4_waysWithin_14 : decode cX4_waysWithin 14 = .ok (.istore 5, 2) := by decide +kernel
theorem dX4_waysWithin_16 : decode cX4_waysWithin 16 = .ok (.iload 5, 2) := by decide +kernel
theorem dX4_waysWithin_18 : decode cX4_waysWithin 18 = .ok (.iload_n 1, 1) := by decide +kernel
theorem dX4_waysWithin_19 : decode cX4_waysWithin 19 = .ok (.if_icmp .ge 40, 3) := by decide +kernel
theorem dX4_waysWithin_22 : decode cX4_waysWithin 22 = .ok (.aload_n 0, 1) := by decide +kernel
theorem dX4_waysWithin_23 : decode cX4_waysWithin 23 = .ok (.getfield 45, 3) := by decide +kernel
theorem dX4_waysWithin_26 : decode cX4_waysWithin 26 = .ok (.getfield 91, 3) := by decide +kernel
theorem dX4_waysWithin_29 : decode cX4_waysWithin 29 = .ok (.aload_n 0, 1) := by decide +kernel
theorem dX4_waysWithin_30 : decode cX4_waysWithin 30 = .ok (.getfield 35, 3) := by decide +kernel
theorem dX4_waysWithin_33 : decode cX4_waysWithin 33 = .ok (.iload 5, 2) := by decide +kernel
theorem dX4_waysWithin_35 : decode cX4_waysWithin 35 = .ok (.iaload, 1) := by decide +kernel
theorem dX4_waysWithin_36 : decode cX4_waysWithin 36 = .ok (.iload 4, 2) := by decide +kernel
theorem dX4_waysWithin_38 : decode cX4_waysWithin 38 = .ok (.iload 5, 2) := by decide +kernel
theorem dX4_waysWithin_40 : decode cX4_waysWithin 40 = .ok (.ishr, 1) := by decide +kernel
theorem dX4_waysWithin_41 : decode cX4_waysWithin 41 = .ok (.iconst 1, 1) := by decide +kernel
theorem dX4_waysWithin_42 : decode cX4_waysWithin 42 = .ok (.iand, 1) := by decide +kernel
theorem dX4_waysWithin_43 : decode cX4_waysWithin 43 = .ok (.iconst 1, 1) := by decide +kernel
theorem dX4_waysWithin_44 : decode cX4_waysWithin 44 = .ok (.if_icmp .ne 7, 3) := by decide +kernel
theorem dX4_waysWithin_47 : decode cX4_waysWithin 47 = .ok (.iconst 2, 1) := by decide +kernel
theorem dX4_waysWithin_48 : decode cX4_waysWithin 48 = .ok (.goto 4, 3) := by decide +kernel
theorem dX4_waysWithin_51 : decode cX4_waysWithin 51 = .ok (.iconst 0, 1) := by decide +kernel
theorem dX4_waysWithin_52 : decode cX4_waysWithin 52 = .ok (.iastore, 1) := by decide +kernel
theorem dX4_waysWithin_53 : decode cX4_waysWithin 53 = .ok (.iinc 5 1, 3) := by decide +kernel
theorem dX4_waysWithin_56 : decode cX4_waysWithin 56 = .ok (.goto (-40), 3) := by decide +kernel
theorem dX4_waysWithin_59 : decode cX4_waysWithin 59 = .ok (.aload_n 0, 1) := by decide +kernel
theorem dX4_waysWithin_60 : decode cX4_waysWithin 60 = .ok (.getfield 27, 3) := by decide +kernel
theorem dX4_waysWithin_63 : decode cX4_waysWithin 63 = .ok (.aload_n 0, 1) := by decide +kernel
theorem dX4_waysWithin_64 : decode cX4_waysWithin 64 = .ok (.getfield 45, 3) := by decide +kernel
theorem dX4_waysWithin_67 : decode cX4_waysWithin 67 = .ok (.iload_n 2, 1) := by decide +kernel
theorem dX4_waysWithin_68 : decode cX4_waysWithin 68 = .ok (.iconst 0, 1) := by decide +kernel
theorem dX4_waysWithin_69 : decode cX4_waysWithin 69 = .ok (.invokevirtual 163, 3) := by decide +kernel
theorem dX4_waysWithin_72 : decode cX4_waysWithin 72 = .ok (.bipush (-9), 2) := by decide +kernel
theorem dX4_waysWithin_74 : decode cX4_waysWithin 74 = .ok (.if_icmp .eq 6, 3) := by decide +kernel
theorem dX4_waysWithin_77 : decode cX4_waysWithin 77 = .ok (.iinc 3 1, 3) := by decide +kernel
theorem dX4_waysWithin_80 : decode cX4_waysWithin 80 = .ok (.iinc 4 1, 3) := by decide +kernel
theorem dX4_waysWithin_83 : decode cX4_waysWithin 83 = .ok (.goto (-78), 3) := by decide +kernel
theorem dX4_waysWithin_86 : decode cX4_waysWithin 86 = .ok (.iload_n 3, 1) := by decide +kernel
theorem dX4_waysWithin_87 : decode cX4_waysWithin 87 = .ok (.ireturn, 1) := by decide +kernel
set_option maxRecDepth 20000 in
theorem ggX4_sheet_X4_isSheet : GoodIn wsX4_sheet wsX4_isSheet := goodIn_r _ [6] (by decide +kernel) (by decide +kernel)
set_option maxRecDepth 20000 in
theorem gX4_sheet_X4_isSheet : GoodIn wsX4_sheet (va_wsS RX4 59 yX4_isSheet wsX4_isSheet) := goodIn_app (goodIn_of _ (by decide +kernel)) ggX4_sheet_X4_isSheet
set_option maxRecDepth 20000 in
theorem ggX4_sheet_X4_isLane : GoodIn wsX4_sheet wsX4_isLane := goodIn_r _ [9] (by decide +kernel) (by decide +kernel)
set_option maxRecDepth 20000 in
theorem gX4_sheet_X4_isLane : GoodIn wsX4_sheet (va_wsS RX4 63 yX4_isLane wsX4_isLane) := goodIn_app (goodIn_of _ (by decide +kernel)) ggX4_sheet_X4_isLane
set_option maxRecDepth 20000 in
theorem ggX4_sheet_X4_failed : GoodIn wsX4_sheet wsX4_failed := goodIn_r _ [13, 1, 34, 35, 36, 37, 38, 39, 40, 41, 42, 43] (by decide +kernel) (by decide +kernel)
set_option maxRecDepth 20000 in
theorem gX4_sheet_X4_failed : GoodIn wsX4_sheet (wsV RX4 69 RX4 yX4_failed wsX4_failed) := goodIn_app (goodIn_of _ (by decide +kernel)) ggX4_sheet_X4_failed
set_option maxRecDepth 20000 in
theorem ggX4_sheet_X1_becomeNew : GoodIn wsX4_sheet wsX1_becomeNew := goodIn_r _ [18, 19, 20, 21, 22, 23, 24, 25, 26, 27, 28, 29, 30, 31, 32, 33, 44, 45, 46, 47] (by decide +kernel) (by decide +kernel)
set_option maxRecDepth 20000 in
theorem gX4_sheet_X1_becomeNew : GoodIn wsX4_sheet (wsV RX4 183 RX1 yX1_becomeNew wsX1_becomeNew) := goodIn_app (goodIn_of _ (by decide +kernel)) ggX4_sheet_X1_becomeNew
theorem dX4_sheet_0 : decode cX4_sheet 0 = .ok (.aload_n 0, 1) := by decide +kernel
theorem dX4_sheet_1 : decode cX4_sheet 1 = .ok (.iconst 0, 1) := by decide +kernel
theorem dX4_sheet_2 : decode cX4_sheet 2 = .ok (.putfield 55, 3) := by decide +kernel
theorem dX4_sheet_5 : decode cX4_sheet 5 = .ok (.iload_n 1, 1) := by decide +kernel
theorem dX4_sheet_6 : decode cX4_sheet 6 = .ok (.invokestatic 59, 3) := by decide +kernel
theorem dX4_sheet_9 : decode cX4_sheet 9 = .ok (.ifCond .ne 5, 3) := by decide +kernel
theorem dX4_sheet_12 : decode cX4_sheet 12 = .ok (.iconst (-1), 1) := by decide +kernel
theorem dX4_sheet_13 : decode cX4_sheet 13 = .ok (.ireturn, 1) := by decide +kernel
theorem dX4_sheet_14 : decode cX4_sheet 14 = .ok (.iload_n 2, 1) := by decide +kernel
theorem dX4_sheet_15 : decode cX4_sheet 15 = .ok (.invokestatic 63, 3) := by decide +kernel
theorem dX4_sheet_18 : decode cX4_sheet 18 = .ok (.ifCond .eq 9, 3) := by decide +kernel
theorem dX4_sheet_21 : decode cX4_sheet 21 = .ok (.iload_n 3, 1) := by decide +kernel
theorem dX4_sheet_22 : decode cX4_sheet 22 = .ok (.bipush 60, 2) := by decide +kernel
theorem dX4_sheet_24 : decode cX4_sheet 24 = .ok (.if_icmp .le 6, 3) := by decide +kernel
theorem dX4_sheet_27 : decode cX4_sheet 27 = .ok (.bipush (-2), 2) := by decide +kernel
theorem dX4_sheet_29 : decode cX4_sheet 29 = .ok (.ireturn, 1) := by decide +kernel
theorem dX4_sheet_30 : decode cX4_sheet 30 = .ok (.iload_n 3, 1) := by decide +kernel
theorem dX4_sheet_31 : decode cX4_sheet 31 = .ok (.ifCond .ge 9, 3) := by decide +kernel
theorem dX4_sheet_34 : decode cX4_sheet 34 = .ok (.aload_n 0, 1) := by decide +kernel
theorem dX4_sheet_35 : decode cX4_sheet 35 = .ok (.iconst 4, 1) := by decide +kernel
theorem dX4_sheet_36 : decode cX4_sheet 36 = .ok (.invokevirtual 69, 3) := by decide +kernel
theorem dX4_sheet_39 : decode cX4_sheet 39 = .ok (.ireturn, 1) := by decide +kernel
theorem dX4_sheet_40 : decode cX4_sheet 40 = .ok (.aload_n 0, 1) := by decide +kernel
theorem dX4_sheet_41 : decode cX4_sheet 41 = .ok (.getfield 13, 3) := by decide +kernel
theorem dX4_sheet_44 : decode cX4_sheet 44 = .ok (.iload_n 1, 1) := by decide +kernel
theorem dX4_sheet_45 : decode cX4_sheet 45 = .ok (.aaload, 1) := by decide +kernel
theorem dX4_sheet_46 : decode cX4_sheet 46 = .ok (.iload_n 2, 1) := by decide +kernel
theorem dX4_sheet_47 : decode cX4_sheet 47 = .ok (.iload_n 3, 1) := by decide +kernel
theorem dX4_sheet_48 : decode cX4_sheet 48 = .ok (.invokevirtual 183, 3) := by decide +kernel
theorem dX4_sheet_51 : decode cX4_sheet 51 = .ok (.iconst 1, 1) := by decide +kernel
theorem dX4_sheet_52 : decode cX4_sheet 52 = .ok (.ireturn, 1) := by decide +kernel
set_option maxRecDepth 20000 in
theorem ggX4_lose_X4_isSheet : GoodIn wsX4_lose wsX4_isSheet := goodIn_r _ [6] (by decide +kernel) (by decide +kernel)
set_option maxRecDepth 20000 in
theorem gX4_lose_X4_isSheet : GoodIn wsX4_lose (va_wsS RX4 59 yX4_isSheet wsX4_isSheet) := goodIn_app (goodIn_of _ (by decide +kernel)) ggX4_lose_X4_isSheet
theorem dX4_lose_0 : decode cX4_lose 0 = .ok (.iload_n 1, 1) := by decide +kernel
theorem dX4_lose_1 : decode cX4_lose 1 = .ok (.invokestatic 59, 3) := by decide +kernel
theorem dX4_lose_4 : decode cX4_lose 4 = .ok (.ifCond .ne 5, 3) := by decide +kernel
theorem dX4_lose_7 : decode cX4_lose 7 = .ok (.iconst (-1), 1) := by decide +kernel
theorem dX4_lose_8 : decode cX4_lose 8 = .ok (.ireturn, 1) := by decide +kernel
theorem dX4_lose_9 : decode cX4_lose 9 = .ok (.aload_n 0, 1) := by decide +kernel
theorem dX4_lose_10 : decode cX4_lose 10 = .ok (.getfield 13, 3) := by decide +kernel
theorem dX4_lose_13 : decode cX4_lose 13 = .ok (.iload_n 1, 1) := by decide +kernel
theorem dX4_lose_14 : decode cX4_lose 14 = .ok (.aaload, 1) := by decide +kernel
theorem dX4_lose_15 : decode cX4_lose 15 = .ok (.getfield 73, 3) := by decide +kernel
theorem dX4_lose_18 : decode cX4_lose 18 = .ok (.ifCond .ne 5, 3) := by decide +kernel
theorem dX4_lose_21 : decode cX4_lose 21 = .ok (.iconst 0, 1) := by decide +kernel
theorem dX4_lose_22 : decode cX4_lose 22 = .ok (.ireturn, 1) := by decide +kernel
theorem dX4_lose_23 : decode cX4_lose 23 = .ok (.aload_n 0, 1) := by decide +kernel
theorem dX4_lose_24 : decode cX4_lose 24 = .ok (.getfield 13, 3) := by decide +kernel
theorem dX4_lose_27 : decode cX4_lose 27 = .ok (.iload_n 1, 1) := by decide +kernel
theorem dX4_lose_28 : decode cX4_lose 28 = .ok (.aaload, 1) := by decide +kernel
theorem dX4_lose_29 : decode cX4_lose 29 = .ok (.iconst 0, 1) := by decide +kernel
theorem dX4_lose_30 : decode cX4_lose 30 = .ok (.putfield 73, 3) := by decide +kernel
theorem dX4_lose_33 : decode cX4_lose 33 = .ok (.iconst 1, 1) := by decide +kernel
theorem dX4_lose_34 : decode cX4_lose 34 = .ok (.ireturn, 1) := by decide +kernel
set_option maxRecDepth 20000 in
theorem ggX4_put_X4_isSheet : GoodIn wsX4_put wsX4_isSheet := goodIn_r _ [7] (by decide +kernel) (by decide +kernel)
set_option maxRecDepth 20000 in
theorem gX4_put_X4_isSheet : GoodIn wsX4_put (va_wsS RX4 59 yX4_isSheet wsX4_isSheet) := goodIn_app (goodIn_of _ (by decide +kernel)) ggX4_put_X4_isSheet
set_option maxRecDepth 20000 in
theorem ggX4_put_X4_failed : GoodIn wsX4_put wsX4_failed := goodIn_r _ [11, 1, 28, 29, 30, 31, 32, 33, 34, 35, 36, 37] (by decide +kernel) (by decide +kernel)
set_option maxRecDepth 20000 in
theorem gX4_put_X4_failed : GoodIn wsX4_put (wsV RX4 69 RX4 yX4_failed wsX4_failed) := goodIn_app (goodIn_of _ (by decide +kernel)) ggX4_put_X4_failed
set_option maxRecDepth 20000 in
theorem ggX4_put_X1_holds : GoodIn wsX4_put wsX1_holds := goodIn_r _ [16, 17, 38, 39, 40, 41] (by decide +kernel) (by decide +kernel)
set_option maxRecDepth 20000 in
theorem gX4_put_X1_holds : GoodIn wsX4_put (wsV RX4 77 RX1 yX1_holds wsX1_holds) := goodIn_app (goodIn_of _ (by decide +kernel)) ggX4_put_X1_holds
set_option maxRecDepth 20000 in
theorem ggX4_put_X1_keep : GoodIn wsX4_put wsX1_keep := goodIn_r _ [21, 17, 22, 23, 24, 25, 15, 26, 27, 38, 39, 40, 41] (by decide +kernel) (by decide +kernel)
set_option maxRecDepth 20000 in
theorem gX4_put_X1_keep : GoodIn wsX4_put (wsV RX4 187 RX1 yX1_keep wsX1_keep) := goodIn_app (goodIn_of _ (by decide +kernel)) ggX4_put_X1_keep
theorem dX4_put_0 : decode cX4_put 0 = .ok (.aload_n 0, 1) := by decide +kernel
theorem dX4_put_1 : decode cX4_put 1 = .ok (.iconst 0, 1) := by decide +kernel
theorem dX4_put_2 : decode cX4_put 2 = .ok (.putfield 55, 3) := by decide +kernel
theorem dX4_put_5 : decode cX4_put 5 = .ok (.iload_n 1, 1) := by decide +kernel
theorem dX4_put_6 : decode cX4_put 6 = .ok (.invokestatic 59, 3) := by decide +kernel
theorem dX4_put_9 : decode cX4_put 9 = .ok (.ifCond .ne 5, 3) := by decide +kernel
theorem dX4_put_12 : decode cX4_put 12 = .ok (.iconst (-1), 1) := by decide +kernel
theorem dX4_put_13 : decode cX4_put 13 = .ok (.ireturn, 1) := by decide +kernel
theorem dX4_put_14 : decode cX4_put 14 = .ok (.aload_n 0, 1) := by decide +kernel
theorem dX4_put_15 : decode cX4_put 15 = .ok (.getfield 13, 3) := by decide +kernel
theorem dX4_put_18 : decode cX4_put 18 = .ok (.iload_n 1, 1) := by decide +kernel
theorem dX4_put_19 : decode cX4_put 19 = .ok (.aaload, 1) := by decide +kernel
theorem dX4_put_20 : decode cX4_put 20 = .ok (.astore 4, 2) := by decide +kernel
theorem dX4_put_22 : decode cX4_put 22 = .ok (.aload 4, 2) := by decide +kernel
theorem dX4_put_24 : decode cX4_put 24 = .ok (.getfield 73, 3) := by decide +kernel
theorem dX4_put_27 : decode cX4_put 27 = .ok (.ifCond .ne 9, 3) := by decide +kernel
theorem dX4_put_30 : decode cX4_put 30 = .ok (.aload_n 0, 1) := by decide +kernel
theorem dX4_put_31 : decode cX4_put 31 = .ok (.iconst 1, 1) := by decide +kernel
theorem dX4_put_32 : decode cX4_put 32 = .ok (.invokevirtual 69, 3) := by decide +kernel
theorem dX4_put_35 : decode cX4_put 35 = .ok (.ireturn, 1) := by decide +kernel
theorem dX4_put_36 : decode cX4_put 36 = .ok (.aload 4, 2) := by decide +kernel
theorem dX4_put_38 : decode cX4_put 38 = .ok (.iload_n 2, 1) := by decide +kernel
theorem dX4_put_39 : decode cX4_put 39 = .ok (.iconst 1, 1) := by decide +kernel
theorem dX4_put_40 : decode cX4_put 40 = .ok (.invokevirtual 77, 3) := by decide +kernel
theorem dX4_put_43 : decode cX4_put 43 = .ok (.ifCond .ne 9, 3) := by decide +kernel
theorem dX4_put_46 : decode cX4_put 46 = .ok (.aload_n 0, 1) := by decide +kernel
theorem dX4_put_47 : decode cX4_put 47 = .ok (.iconst 3, 1) := by decide +kernel
theorem dX4_put_48 : decode cX4_put 48 = .ok (.invokevirtual 69, 3) := by decide +kernel
theorem dX4_put_51 : decode cX4_put 51 = .ok (.ireturn, 1) := by decide +kernel
theorem dX4_put_52 : decode cX4_put 52 = .ok (.aload 4, 2) := by decide +kernel
theorem dX4_put_54 : decode cX4_put 54 = .ok (.iload_n 2, 1) := by decide +kernel
theorem dX4_put_55 : decode cX4_put 55 = .ok (.iload_n 3, 1) := by decide +kernel
theorem dX4_put_56 : decode cX4_put 56 = .ok (.invokevirtual 187, 3) := by decide +kernel
theorem dX4_put_59 : decode cX4_put 59 = .ok (.iconst 1, 1) := by decide +kernel
theorem dX4_put_60 : decode cX4_put 60 = .ok (.ireturn, 1) := by decide +kernel
set_option maxRecDepth 20000 in
theorem ggX4_cell_X4_isSheet : GoodIn wsX4_cell wsX4_isSheet := goodIn_r _ [8] (by decide +kernel) (by decide +kernel)
set_option maxRecDepth 20000 in
theorem gX4_cell_X4_isSheet : GoodIn wsX4_cell (va_wsS RX4 59 yX4_isSheet wsX4_isSheet) := goodIn_app (goodIn_of _ (by decide +kernel)) ggX4_cell_X4_isSheet
set_option maxRecDepth 20000 in
theorem ggX4_cell_X4_isLane : GoodIn wsX4_cell wsX4_isLane := goodIn_r _ [11] (by decide +kernel) (by decide +kernel)
set_option maxRecDepth 20000 in
theorem gX4_cell_X4_isLane : GoodIn wsX4_cell (va_wsS RX4 63 yX4_isLane wsX4_isLane) := goodIn_app (goodIn_of _ (by decide +kernel)) ggX4_cell_X4_isLane
set_option maxRecDepth 20000 in
theorem ggX4_cell_X1_isUnlike : GoodIn wsX4_cell wsX1_isUnlike := goodIn_r _ [16, 17, 18, 43, 44, 45, 46] (by decide +kernel) (by decide +kernel)
set_option maxRecDepth 20000 in
theorem gX4_cell_X1_isUnlike : GoodIn wsX4_cell (wsV RX4 66 RX1 yX1_isUnlike wsX1_isUnlike) := goodIn_app (goodIn_of _ (by decide +kernel)) ggX4_cell_X1_isUnlike
set_option maxRecDepth 20000 in
theorem ggX4_cell_X4_lost : GoodIn wsX4_cell wsX4_lost := goodIn_r _ [22, 1, 2, 33, 34, 35, 36, 37, 38, 39, 40, 41, 42] (by decide +kernel) (by decide +kernel)
set_option maxRecDepth 20000 in
theorem gX4_cell_X4_lost : GoodIn wsX4_cell (wsV RX4 190 RX4 yX4_lost wsX4_lost) := goodIn_app (goodIn_of _ (by decide +kernel)) ggX4_cell_X4_lost
set_option maxRecDepth 20000 in
theorem ggX4_cell_X1_holds : GoodIn wsX4_cell wsX1_holds := goodIn_r _ [26, 27, 43, 44, 45, 46] (by decide +kernel) (by decide +kernel)
set_option maxRecDepth 20000 in
theorem gX4_cell_X1_holds : GoodIn wsX4_cell (wsV RX4 77 RX1 yX1_holds wsX1_holds) := goodIn_app (goodIn_of _ (by decide +kernel)) ggX4_cell_X1_holds
set_option maxRecDepth 20000 in
theorem ggX4_cell_X1_at : GoodIn wsX4_cell wsX1_at := goodIn_r _ [31, 27, 32, 43, 44, 45, 46] (by decide +kernel) (by decide +kernel)
set_option maxRecDepth 20000 in
theorem gX4_cell_X1_at : GoodIn wsX4_cell (wsV RX4 127 RX1 yX1_at wsX1_at) := goodIn_app (goodIn_of _ (by decide +kernel)) ggX4_cell_X1_at
theorem dX4_cell_0 : decode cX4_cell 0 = .ok (.aload_n 0, 1) := by decide +kernel
theorem dX4_cell_1 : decode cX4_cell 1 = .ok (.iconst 0, 1) := by decide +kernel
theorem dX4_cell_2 : decode cX4_cell 2 = .ok (.putfield 55, 3) := by decide +kernel
theorem dX4_cell_5 : decode cX4_cell 5 = .ok (.iload_n 1, 1) := by decide +kernel
theorem dX4_cell_6 : decode cX4_cell 6 = .ok (.invokestatic 59, 3) := by decide +kernel
theorem dX4_cell_9 : decode cX4_cell 9 = .ok (.ifCond .eq 10, 3) := by decide +kernel
theorem dX4_cell_12 : decode cX4_cell 12 = .ok (.iload_n 3, 1) := by decide +kernel
theorem dX4_cell_13 : decode cX4_cell 13 = .ok (.invokestatic 63, 3) := by decide +kernel
theorem dX4_cell_16 : decode cX4_cell 16 = .ok (.ifCond .ne 7, 3) := by decide +kernel
theorem dX4_cell_19 : decode cX4_cell 19 = .ok (.ldc2_w 173, 3) := by decide +kernel
theorem dX4_cell_22 : decode cX4_cell 22 = .ok (.lreturn, 1) := by decide +kernel
theorem dX4_cell_23 : decode cX4_cell 23 = .ok (.aload_n 0, 1) := by decide +kernel
theorem dX4_cell_24 : decode cX4_cell 24 = .ok (.getfield 13, 3) := by decide +kernel
theorem dX4_cell_27 : decode cX4_cell 27 = .ok (.iload_n 1, 1) := by decide +kernel
theorem dX4_cell_28 : decode cX4_cell 28 = .ok (.aaload, 1) := by decide +kernel
theorem dX4_cell_29 : decode cX4_cell 29 = .ok (.astore 4, 2) := by decide +kernel
theorem dX4_cell_31 : decode cX4_cell 31 = .ok (.aload 4, 2) := by decide +kernel
theorem dX4_cell_33 : decode cX4_cell 33 = .ok (.iload_n 3, 1) := by decide +kernel
theorem dX4_cell_34 : decode cX4_cell 34 = .ok (.invokevirtual 66, 3) := by decide +kernel
theorem dX4_cell_37 : decode cX4_cell 37 = .ok (.ifCond .eq 9, 3) := by decide +kernel
theorem dX4_cell_40 : decode cX4_cell 40 = .ok (.aload_n 0, 1) := by decide +kernel
theorem dX4_cell_41 : decode cX4_cell 41 = .ok (.iconst 2, 1) := by decide +kernel
theorem dX4_cell_42 : decode cX4_cell 42 = .ok (.invokevirtual 190, 3) := by decide +kernel
theorem dX4_cell_45 : decode cX4_cell 45 = .ok (.lreturn, 1) := by decide +kernel
theorem dX4_cell_46 : decode cX4_cell 46 = .ok (.aload 4, 2) := by decide +kernel
theorem dX4_cell_48 : decode cX4_cell 48 = .ok (.getfield 73, 3) := by decide +kernel
theorem dX4_cell_51 : decode cX4_cell 51 = .ok (.ifCond .ne 9, 3) := by decide +kernel
theorem dX4_cell_54 : decode cX4_cell 54 = .ok (.aload_n 0, 1) := by decide +kernel
theorem dX4_cell_55 : decode cX4_cell 55 = .ok (.iconst 1, 1) := by decide +kernel
theorem dX4_cell_56 : decode cX4_cell 56 = .ok (.invokevirtual 190, 3) := by decide +kernel
theorem dX4_cell_59 : decode cX4_cell 59 = .ok (.lreturn, 1) := by decide +kernel
theorem dX4_cell_60 : decode cX4_cell 60 = .ok (.aload 4, 2) := by decide +kernel
theorem dX4_cell_62 : decode cX4_cell 62 = .ok (.iload_n 2, 1) := by decide +kernel
theorem dX4_cell_63 : decode cX4_cell 63 = .ok (.iconst 1, 1) := by decide +kernel
theorem dX4_cell_64 : decode cX4_cell 64 = .ok (.invokevirtual 77, 3) := by decide +kernel
theorem dX4_cell_67 : decode cX4_cell 67 = .ok (.ifCond .ne 9, 3) := by decide +kernel
theorem dX4_cell_70 : decode cX4_cell 70 = .ok (.aload_n 0, 1) := by decide +kernel
theorem dX4_cell_71 : decode cX4_cell 71 = .ok (.iconst 3, 1) := by decide +kernel
theorem dX4_cell_72 : decode cX4_cell 72 = .ok (.invokevirtual 190, 3) := by decide +kernel
theorem dX4_cell_75 : decode cX4_cell 75 = .ok (.lreturn, 1) := by decide +kernel
theorem dX4_cell_76 : decode cX4_cell 76 = .ok (.aload 4, 2) := by decide +kernel
theorem dX4_cell_78 : decode cX4_cell 78 = .ok (.iload_n 2, 1) := by decide +kernel
theorem dX4_cell_79 : decode cX4_cell 79 = .ok (.invokevirtual 127, 3) := by decide +kernel
theorem dX4_cell_82 : decode cX4_cell 82 = .ok (.i2l, 1) := by decide +kernel
theorem dX4_cell_83 : decode cX4_cell 83 = .ok (.lreturn, 1) := by decide +kernel
set_option maxRecDepth 20000 in
theorem ggX4_copy_X4_isSheet : GoodIn wsX4_copy wsX4_isSheet := goodIn_r _ [13] (by decide +kernel) (by decide +kernel)
set_option maxRecDepth 20000 in
theorem gX4_copy_X4_isSheet : GoodIn wsX4_copy (va_wsS RX4 59 yX4_isSheet wsX4_isSheet) := goodIn_app (goodIn_of _ (by decide +kernel)) ggX4_copy_X4_isSheet
set_option maxRecDepth 20000 in
theorem ggX4_copy_X4_failed : GoodIn wsX4_copy wsX4_failed := goodIn_r _ [17, 1, 30, 31, 32, 33, 34, 35, 36, 37, 38, 39] (by decide +kernel) (by decide +kernel)
set_option maxRecDepth 20000 in
theorem gX4_copy_X4_failed : GoodIn wsX4_copy (wsV RX4 69 RX4 yX4_failed wsX4_failed) := goodIn_app (goodIn_of _ (by decide +kernel)) ggX4_copy_X4_failed
set_option maxRecDepth 20000 in
theorem ggX4_copy_X1_isUnlike : GoodIn wsX4_copy wsX1_isUnlike := goodIn_r _ [22, 23, 24, 40, 41, 42, 43] (by decide +kernel) (by decide +kernel)
set_option maxRecDepth 20000 in
theorem gX4_copy_X1_isUnlike : GoodIn wsX4_copy (wsV RX4 66 RX1 yX1_isUnlike wsX1_isUnlike) := goodIn_app (goodIn_of _ (by decide +kernel)) ggX4_copy_X1_isUnlike
set_option maxRecDepth 20000 in
theorem ggX4_copy_X1_holds : GoodIn wsX4_copy wsX1_holds := goodIn_r _ [28, 29, 40, 41, 42, 43] (by decide +kernel) (by decide +kernel)
set_option maxRecDepth 20000 in
theorem gX4_copy_X1_holds : GoodIn wsX4_copy (wsV RX4 77 RX1 yX1_holds wsX1_holds) := goodIn_app (goodIn_of _ (by decide +kernel)) ggX4_copy_X1_holds
theorem dX4_copy_0 : decode cX4_copy 0 = .ok (.aload_n 0, 1) := by decide +kernel
theorem dX4_copy_1 : decode cX4_copy 1 = .ok (.iconst 0, 1) := by decide +kernel
theorem dX4_copy_2 : decode cX4_copy 2 = .ok (.putfield 55, 3) := by decide +kernel
theorem dX4_copy_5 : decode cX4_copy 5 = .ok (.iload_n 1, 1) := by decide +kernel
theorem dX4_copy_6 : decode cX4_copy 6 = .ok (.invokestatic 59, 3) := by decide +kernel
theorem dX4_copy_9 : decode cX4_copy 9 = .ok (.ifCond .eq 10, 3) := by decide +kernel
theorem dX4_copy_12 : decode cX4_copy 12 = .ok (.iload_n 3, 1) := by decide +kernel
theorem dX4_copy_13 : decode cX4_copy 13 = .ok (.invokestatic 59, 3) := by decide +kernel
theorem dX4_copy_16 : decode cX4_copy 16 = .ok (.ifCond .ne 5, 3) := by decide +kernel
theorem dX4_copy_19 : decode cX4_copy 19 = .ok (.iconst (-1), 1) := by decide +kernel
theorem dX4_copy_20 : decode cX4_copy 20 = .ok (.ireturn, 1) := by decide +kernel
theorem dX4_copy_21 : decode cX4_copy 21 = .ok (.aload_n 0, 1) := by decide +kernel
theorem dX4_copy_22 : decode cX4_copy 22 = .ok (.getfield 13, 3) := by decide +kernel
theorem dX4_copy_25 : decode cX4_copy 25 = .ok (.iload_n 1, 1) := by decide +kernel
theorem dX4_copy_26 : decode cX4_copy 26 = .ok (.aaload, 1) := by decide +kernel
theorem dX4_copy_27 : decode cX4_copy 27 = .ok (.astore 6, 2) := by decide +kernel
theorem dX4_copy_29 : decode cX4_copy 29 = .ok (.aload_n 0, 1) := by decide +kernel
theorem dX4_copy_30 : decode cX4_copy 30 = .ok (.getfield 13, 3) := by decide +kernel
theorem dX4_copy_33 : decode cX4_copy 33 = .ok (.iload_n 3, 1) := by decide +kernel
theorem dX4_copy_34 : decode cX4_copy 34 = .ok (.aaload, 1) := by decide +kernel
theorem dX4_copy_35 : decode cX4_copy 35 = .ok (.astore 7, 2) := by decide +kernel
theorem dX4_copy_37 : decode cX4_copy 37 = .ok (.aload 6, 2) := by decide +kernel
theorem dX4_copy_39 : decode cX4_copy 39 = .ok (.getfield 73, 3) := by decide +kernel
theorem dX4_copy_42 : decode cX4_copy 42 = .ok (.ifCond .eq 11, 3) := by decide +kernel
theorem dX4_copy_45 : decode cX4_copy 45 = .ok (.aload 7, 2) := by decide +kernel
theorem dX4_copy_47 : decode cX4_copy 47 = .ok (.getfield 73, 3) := by decide +kernel
theorem dX4_copy_50 : decode cX4_copy 50 = .ok (.ifCond .ne 9, 3) := by decide +kernel
theorem dX4_copy_53 : decode cX4_copy 53 = .ok (.aload_n 0, 1) := by decide +kernel
theorem dX4_copy_54 : decode cX4_copy 54 = .ok (.iconst 1, 1) := by decide +kernel
theorem dX4_copy_55 : decode cX4_copy 55 = .ok (.invokevirtual 69, 3) := by decide +kernel
theorem dX4_copy_58 : decode cX4_copy 58 = .ok (.ireturn, 1) := by decide +kernel
theorem dX4_copy_59 : decode cX4_copy 59 = .ok (.aload 7, 2) := by decide +kernel
theorem dX4_copy_61 : decode cX4_copy 61 = .ok (.aload 6, 2) := by decide +kernel
theorem dX4_copy_63 : decode cX4_copy 63 = .ok (.getfield 194, 3) := by decide +kernel
theorem dX4_copy_66 : decode cX4_copy 66 = .ok (.invokevirtual 66, 3) := by decide +kernel
theorem dX4_copy_69 : decode cX4_copy 69 = .ok (.ifCond .eq 9, 3) := by decide +kernel
theorem dX4_copy_72 : decode cX4_copy 72 = .ok (.aload_n 0, 1) := by decide +kernel
theorem dX4_copy_73 : decode cX4_copy 73 = .ok (.iconst 2, 1) := by decide +kernel
theorem dX4_copy_74 : decode cX4_copy 74 = .ok (.invokevirtual 69, 3) := by decide +kernel
theorem dX4_copy_77 : decode cX4_copy 77 = .ok (.ireturn, 1) := by decide +kernel
theorem dX4_copy_78 : decode cX4_copy 78 = .ok (.aload 6, 2) := by decide +kernel
theorem dX4_copy_80 : decode cX4_copy 80 = .ok (.iload_n 2, 1) := by decide +kernel
theorem dX4_copy_81 : decode cX4_copy 81 = .ok (.iload 5, 2) := by decide +kernel
theorem dX4_copy_83 : decode cX4_copy 83 = .ok (.invokevirtual 77, 3) := by decide +kernel
theorem dX4_copy_86 : decode cX4_copy 86 = .ok (.ifCond .eq 15, 3) := by decide +kernel
theorem dX4_copy_89 : decode cX4_copy 89 = .ok (.aload 7, 2) := by decide +kernel
theorem dX4_copy_91 : decode cX4_copy 91 = .ok (.iload 4, 2) := by decide +kernel
theorem dX4_copy_93 : decode cX4_copy 93 = .ok (.iload 5, 2) := by decide +kernel
theorem dX4_copy_95 : decode cX4_copy 95 = .ok (.invokevirtual 77, 3) := by decide +kernel
theorem dX4_copy_98 : decode cX4_copy 98 = .ok (.ifCond .ne 9, 3) := by decide +kernel
theorem dX4_copy_101 : decode cX4_copy 101 = .ok (.aload_n 0, 1) := by decide +kernel
theorem dX4_copy_102 : decode cX4_copy 102 = .ok (.iconst 3, 1) := by decide +kernel
theorem dX4_copy_103 : decode cX4_copy 103 = .ok (.invokevirtual 69, 3) := by decide +kernel
theorem dX4_copy_106 : decode cX4_copy 106 = .ok (.ireturn, 1) := by decide +kernel
theorem dX4_copy_107 : decode cX4_copy 107 = .ok (.aload 6, 2) := by decide +kernel
theorem dX4_copy_109 : decode cX4_copy 109 = .ok (.getfield 197, 3) := by decide +kernel
theorem dX4_copy_112 : decode cX4_copy 112 = .ok (.iload_n 2, 1) := by decide +kernel
theorem dX4_copy_113 : decode cX4_copy 113 = .ok (.aload 7, 2) := by decide +kernel
theorem dX4_copy_115 : decode cX4_copy 115 = .ok (.getfield 197, 3) := by decide +kernel
theorem dX4_copy_118 : decode cX4_copy 118 = .ok (.iload 4, 2) := by decide +kernel
theorem dX4_copy_120 : decode cX4_copy 120 = .ok (.iload 5, 2) := by decide +kernel
theorem dX4_copy_122 : decode cX4_copy 122 = .ok (.invokestatic 200, 3) := by decide +kernel
theorem dX4_copy_125 : decode cX4_copy 125 = .ok (.iload 5, 2) := by decide +kernel
theorem dX4_copy_127 : decode cX4_copy 127 = .ok (.ireturn, 1) := by decide +kernel
set_option maxRecDepth 20000 in
theorem ggX4_tell_X3_has : GoodIn wsX4_tell wsX3_has := goodIn_r _ [7, 8, 38, 39, 40, 41, 42, 43, 44] (by decide +kernel) (by decide +kernel)
set_option maxRecDepth 20000 in
theorem gX4_tell_X3_has : GoodIn wsX4_tell (wsV RX4 88 RX3 yX3_has wsX3_has) := goodIn_app (goodIn_of _ (by decide +kernel)) ggX4_tell_X3_has
set_option maxRecDepth 20000 in
theorem ggX4_tell_X4_wetTold : GoodIn wsX4_tell wsX4_wetTold := goodIn_r _ [13, 14, 15, 16, 12, 17, 18, 19, 20, 21, 22, 23, 24, 25, 26, 1, 27, 3, 4, 5, 6, 7, 8, 28, 29, 30, 31, 32, 33, 34, 35, 36, 37, 38, 39, 40, 41, 42, 43, 44] (by decide +kernel) (by decide +kernel)
set_option maxRecDepth 20000 in
theorem gX4_tell_X4_wetTold : GoodIn wsX4_tell (wsV RX4 206 RX4 yX4_wetTold wsX4_wetTold) := goodIn_app (goodIn_of _ (by decide +kernel)) ggX4_tell_X4_wetTold
set_option maxRecDepth 20000 in
theorem ggX4_tell_X4_hillTold : GoodIn wsX4_tell wsX4_hillTold := goodIn_r _ [22, 14, 15, 16, 12, 17, 18, 23, 24, 25, 26, 1, 27, 3, 4, 5, 6, 7, 8, 28, 29, 30, 31, 32, 33, 34, 35, 36, 37, 38, 39, 40, 41, 42, 43, 44] (by decide +kernel) (by decide +kernel)
set_option maxRecDepth 20000 in
theorem gX4_tell_X4_hillTold : GoodIn wsX4_tell (wsV RX4 209 RX4 yX4_hillTold wsX4_hillTold) := goodIn_app (goodIn_of _ (by decide +kernel)) ggX4_tell_X4_hillTold
set_option maxRecDepth 20000 in
theorem ggX4_tell_X4_flagTold : GoodIn wsX4_tell wsX4_flagTold := goodIn_r _ [26, 1, 27, 14, 15, 16, 12, 17, 18, 3, 4, 5, 6, 7, 8, 28, 29, 30, 31, 32, 33, 34, 35, 36, 37, 38, 39, 40, 41, 42, 43, 44] (by decide +kernel) (by decide +kernel)
set_option maxRecDepth 20000 in
theorem gX4_tell_X4_flagTold : GoodIn wsX4_tell (wsV RX4 212 RX4 yX4_flagTold wsX4_flagTold) := goodIn_app (goodIn_of _ (by decide +kernel)) ggX4_tell_X4_flagTold
theorem dX4_tell_0 : decode cX4_tell 0 = .ok (.aload_n 0, 1) := by decide +kernel
theorem dX4_tell_1 : decode cX4_tell 1 = .ok (.getfield 41, 3) := by decide +kernel
theorem dX4_tell_4 : decode cX4_tell 4 = .ok (.iload_n 1, 1) := by decide +kernel
theorem dX4_tell_5 : decode cX4_tell 5 = .ok (.invokevirtual 88, 3) := by decide +kernel
theorem dX4_tell_8 : decode cX4_tell 8 = .ok (.ifCond .ne 5, 3) := by decide +kernel
theorem dX4_tell_11 : decode cX4_tell 11 = .ok (.iconst (-1), 1) := by decide +kernel
theorem dX4_tell_12 : decode cX4_tell 12 = .ok (.ireturn, 1) := by decide +kernel
theorem dX4_tell_13 : decode cX4_tell 13 = .ok (.aload_n 0, 1) := by decide +kernel
theorem dX4_tell_14 : decode cX4_tell 14 = .ok (.getfield 41, 3) := by decide +kernel
theorem dX4_tell_17 : decode cX4_tell 17 = .ok (.getfield 91, 3) := by decide +kernel
theorem dX4_tell_20 : decode cX4_tell 20 = .ok (.iload_n 1, 1) := by decide +kernel
theorem dX4_tell_21 : decode cX4_tell 21 = .ok (.iaload, 1) := by decide +kernel
theorem dX4_tell_22 : decode cX4_tell 22 = .ok (.lookupswitch 38 #[(1, 32), (2, 26)], 26) := by decide +kernel
theorem dX4_tell_48 : decode cX4_tell 48 = .ok (.aload_n 0, 1) := by decide +kernel
theorem dX4_tell_49 : decode cX4_tell 49 = .ok (.iload_n 1, 1) := by decide +kernel
theorem dX4_tell_50 : decode cX4_tell 50 = .ok (.invokevirtual 206, 3) := by decide +kernel
theorem dX4_tell_53 : decode cX4_tell 53 = .ok (.ireturn, 1) := by decide +kernel
theorem dX4_tell_54 : decode cX4_tell 54 = .ok (.aload_n 0, 1) := by decide +kernel
theorem dX4_tell_55 : decode cX4_tell 55 = .ok (.iload_n 1, 1) := by decide +kernel
theorem dX4_tell_56 : decode cX4_tell 56 = .ok (.invokevirtual 209, 3) := by decide +kernel
theorem dX4_tell_59 : decode cX4_tell 59 = .ok (.ireturn, 1) := by decide +kernel
theorem dX4_tell_60 : decode cX4_tell 60 = .ok (.aload_n 0, 1) := by decide +kernel
theorem dX4_tell_61 : decode cX4_tell 61 = .ok (.iload_n 1, 1) := by decide +kernel
theorem dX4_tell_62 : decode cX4_tell 62 = .ok (.invokevirtual 212, 3) := by decide +kernel
theorem dX4_tell_65 : decode cX4_tell 65 = .ok (.ireturn, 1) := by decide +kernel
set_option maxRecDepth 20000 in
theorem ggX4_rattle_X3_has : GoodIn wsX4_rattle wsX3_has := goodIn_r _ [7, 8, 25, 26, 27, 28, 29, 30, 31] (by decide +kernel) (by decide +kernel)
set_option maxRecDepth 20000 in
theorem gX4_rattle_X3_has : GoodIn wsX4_rattle (wsV RX4 88 RX3 yX3_has wsX3_has) := goodIn_app (goodIn_of _ (by decide +kernel)) ggX4_rattle_X3_has
set_option maxRecDepth 20000 in
theorem ggX4_rattle_X4_leaveTrace : GoodIn wsX4_rattle wsX4_leaveTrace := goodIn_r _ [13, 14, 15, 16, 17, 18, 19, 20, 21, 22, 23, 24] (by decide +kernel) (by decide +kernel)
set_option maxRecDepth 20000 in
theorem gX4_rattle_X4_leaveTrace : GoodIn wsX4_rattle (wsV RX4 215 RX4 yX4_leaveTrace wsX4_leaveTrace) := goodIn_app (goodIn_of _ (by decide +kernel)) ggX4_rattle_X4_leaveTrace
theorem dX4_rattle_0 : decode cX4_rattle 0 = .ok (.aload_n 0, 1) := by decide +kernel
theorem dX4_rattle_1 : decode cX4_rattle 1 = .ok (.getfield 41, 3) := by decide +kernel
theorem dX4_rattle_4 : decode cX4_rattle 4 = .ok (.iload_n 1, 1) := by decide +kernel
theorem dX4_rattle_5 : decode cX4_rattle 5 = .ok (.invokevirtual 88, 3) := by decide +kernel
theorem dX4_rattle_8 : decode cX4_rattle 8 = .ok (.ifCond .ne 5, 3) := by decide +kernel
theorem dX4_rattle_11 : decode cX4_rattle 11 = .ok (.iconst (-1), 1) := by decide +kernel
theorem dX4_rattle_12 : decode cX4_rattle 12 = .ok (.ireturn, 1) := by decide +kernel
theorem dX4_rattle_13 : decode cX4_rattle 13 = .ok (.aload_n 0, 1) := by decide +kernel
theorem dX4_rattle_14 : decode cX4_rattle 14 = .ok (.getfield 41, 3) := by decide +kernel
theorem dX4_rattle_17 : decode cX4_rattle 17 = .ok (.getfield 91, 3) := by decide +kernel
theorem dX4_rattle_20 : decode cX4_rattle 20 = .ok (.iload_n 1, 1) := by decide +kernel
theorem dX4_rattle_21 : decode cX4_rattle 21 = .ok (.iaload, 1) := by decide +kernel
theorem dX4_rattle_22 : decode cX4_rattle 22 = .ok (.iconst 2, 1) := by decide +kernel
theorem dX4_rattle_23 : decode cX4_rattle 23 = .ok (.if_icmp .ne 11, 3) := by decide +kernel
theorem dX4_rattle_26 : decode cX4_rattle 26 = .ok (.aload_n 0, 1) := by decide +kernel
theorem dX4_rattle_27 : decode cX4_rattle 27 = .ok (.iconst 5, 1) := by decide +kernel
theorem dX4_rattle_28 : decode cX4_rattle 28 = .ok (.invokevirtual 215, 3) := by decide +kernel
theorem dX4_rattle_31 : decode cX4_rattle 31 = .ok (.bipush 40, 2) := by decide +kernel
theorem dX4_rattle_33 : decode cX4_rattle 33 = .ok (.ireturn, 1) := by decide +kernel
theorem dX4_rattle_34 : decode cX4_rattle 34 = .ok (.aload_n 0, 1) := by decide +kernel
theorem dX4_rattle_35 : decode cX4_rattle 35 = .ok (.iconst 4, 1) := by decide +kernel
theorem dX4_rattle_36 : decode cX4_rattle 36 = .ok (.invokevirtual 215, 3) := by decide +kernel
theorem dX4_rattle_39 : decode cX4_rattle 39 = .ok (.iload_n 1, 1) := by decide +kernel
theorem dX4_rattle_40 : decode cX4_rattle 40 = .ok (.ireturn, 1) := by decide +kernel
set_option maxRecDepth 20000 in
theorem ggX4_as_X3_has : GoodIn wsX4_as wsX3_has := goodIn_r _ [8, 9, 25, 26, 27, 28, 29, 30, 31] (by decide +kernel) (by decide +kernel)
set_option maxRecDepth 20000 in
theorem gX4_as_X3_has : GoodIn wsX4_as (wsV RX4 88 RX3 yX3_has wsX3_has) := goodIn_app (goodIn_of _ (by decide +kernel)) ggX4_as_X3_has
set_option maxRecDepth 20000 in
theorem ggX4_as_X4_failed : GoodIn wsX4_as wsX4_failed := goodIn_r _ [14, 1, 15, 16, 17, 18, 19, 20, 21, 22, 23, 24] (by decide +kernel) (by decide +kernel)
set_option maxRecDepth 20000 in
theorem gX4_as_X4_failed : GoodIn wsX4_as (wsV RX4 69 RX4 yX4_failed wsX4_failed) := goodIn_app (goodIn_of _ (by decide +kernel)) ggX4_as_X4_failed
theorem dX4_as_0 : decode cX4_as 0 = .ok (.aload_n 0, 1) := by decide +kernel
theorem dX4_as_1 : decode cX4_as 1 = .ok (.iconst 0, 1) := by decide +kernel
theorem dX4_as_2 : decode cX4_as 2 = .ok (.putfield 55, 3) := by decide +kernel
theorem dX4_as_5 : decode cX4_as 5 = .ok (.aload_n 0, 1) := by decide +kernel
theorem dX4_as_6 : decode cX4_as 6 = .ok (.getfield 41, 3) := by decide +kernel
theorem dX4_as_9 : decode cX4_as 9 = .ok (.iload_n 1, 1) := by decide +kernel
theorem dX4_as_10 : decode cX4_as 10 = .ok (.invokevirtual 88, 3) := by decide +kernel
theorem dX4_as_13 : decode cX4_as 13 = .ok (.ifCond .ne 5, 3) := by decide +kernel
theorem dX4_as_16 : decode cX4_as 16 = .ok (.iconst (-1), 1) := by decide +kernel
theorem dX4_as_17 : decode cX4_as 17 = .ok (.ireturn, 1) := by decide +kernel
theorem dX4_as_18 : decode cX4_as 18 = .ok (.iload_n 2, 1) := by decide +kernel
theorem dX4_as_19 : decode cX4_as 19 = .ok (.ifCond .lt 8, 3) := by decide +kernel
theorem dX4_as_22 : decode cX4_as 22 = .ok (.iload_n 2, 1) := by decide +kernel
theorem dX4_as_23 : decode cX4_as 23 = .ok (.iconst 3, 1) := by decide +kernel
theorem dX4_as_24 : decode cX4_as 24 = .ok (.if_icmp .lt 6, 3) := by decide +kernel
theorem dX4_as_27 : decode cX4_as 27 = .ok (.bipush (-2), 2) := by decide +kernel
theorem dX4_as_29 : decode cX4_as 29 = .ok (.ireturn, 1) := by decide +kernel
theorem dX4_as_30 : decode cX4_as 30 = .ok (.iload_n 2, 1) := by decide +kernel
theorem dX4_as_31 : decode cX4_as 31 = .ok (.aload_n 0, 1) := by decide +kernel
theorem dX4_as_32 : decode cX4_as 32 = .ok (.getfield 41, 3) := by decide +kernel
theorem dX4_as_35 : decode cX4_as 35 = .ok (.getfield 91, 3) := by decide +kernel
theorem dX4_as_38 : decode cX4_as 38 = .ok (.iload_n 1, 1) := by decide +kernel
theorem dX4_as_39 : decode cX4_as 39 = .ok (.iaload, 1) := by decide +kernel
theorem dX4_as_40 : decode cX4_as 40 = .ok (.if_icmp .gt 7, 3) := by decide +kernel
theorem dX4_as_43 : decode cX4_as 43 = .ok (.iconst 1, 1) := by decide +kernel
theorem dX4_as_44 : decode cX4_as 44 = .ok (.goto 8, 3) := by decide +kernel
theorem dX4_as_47 : decode cX4_as 47 = .ok (.aload_n 0, 1) := by decide +kernel
theorem dX4_as_48 : decode cX4_as 48 = .ok (.iconst 2, 1) := by decide +kernel
theorem dX4_as_49 : decode cX4_as 49 = .ok (.invokevirtual 69, 3) := by decide +kernel
theorem dX4_as_52 : decode cX4_as 52 = .ok (.ireturn, 1) := by decide +kernel
theorem dX4_trace_0 : decode cX4_trace 0 = .ok (.aload_n 0, 1) := by decide +kernel
theorem dX4_trace_1 : decode cX4_trace 1 = .ok (.getfield 52, 3) := by decide +kernel
theorem dX4_trace_4 : decode cX4_trace 4 = .ok (.ireturn, 1) := by decide +kernel
theorem dX4_fault_0 : decode cX4_fault 0 = .ok (.aload_n 0, 1) := by decide +kernel
theorem dX4_fault_1 : decode cX4_fault 1 = .ok (.getfield 55, 3) := by decide +kernel
theorem dX4_fault_4 : decode cX4_fault 4 = .ok (.ireturn, 1) := by decide +kernel
theorem dX4_many_0 : decode cX4_many 0 = .ok (.iload_n 1, 1) := by decide +kernel
theorem dX4_many_1 : decode cX4_many 1 = .ok (.tableswitch 72 0 4 #[35, 43, 51, 59, 67], 35) := by decide +kernel
theorem dX4_many_36 : decode cX4_many 36 = .ok (.aload_n 0, 1) := by decide +kernel
theorem dX4_many_37 : decode cX4_many 37 = .ok (.getfield 41, 3) := by decide +kernel
theorem dX4_many_40 : decode cX4_many 40 = .ok (.getfield 85, 3) := by decide +kernel
theorem dX4_many_43 : decode cX4_many 43 = .ok (.ireturn, 1) := by decide +kernel
theorem dX4_many_44 : decode cX4_many 44 = .ok (.aload_n 0, 1) := by decide +kernel
theorem dX4_many_45 : decode cX4_many 45 = .ok (.getfield 41, 3) := by decide +kernel
theorem dX4_many_48 : decode cX4_many 48 = .ok (.getfield 108, 3) := by decide +kernel
theorem dX4_many_51 : decode cX4_many 51 = .ok (.ireturn, 1) := by decide +kernel
theorem dX4_many_52 : decode cX4_many 52 = .ok (.aload_n 0, 1) := by decide +kernel
theorem dX4_many_53 : decode cX4_many 53 = .ok (.getfield 41, 3) := by decide +kernel
theorem dX4_many_56 : decode cX4_many 56 = .ok (.getfield 111, 3) := by decide +kernel
theorem dX4_many_59 : decode cX4_many 59 = .ok (.ireturn, 1) := by decide +kernel
theorem dX4_many_60 : decode cX4_many 60 = .ok (.aload_n 0, 1) := by decide +kernel
theorem dX4_many_61 : decode cX4_many 61 = .ok (.getfield 41, 3) := by decide +kernel
theorem dX4_many_64 : decode cX4_many 64 = .ok (.getfield 114, 3) := by decide +kernel
theorem dX4_many_67 : decode cX4_many 67 = .ok (.ireturn, 1) := by decide +kernel
theorem dX4_many_68 : decode cX4_many 68 = .ok (.aload_n 0, 1) := by decide +kernel
theorem dX4_many_69 : decode cX4_many 69 = .ok (.getfield 48, 3) := by decide +kernel
theorem dX4_many_72 : decode cX4_many 72 = .ok (.ireturn, 1) := by decide +kernel
theorem dX4_many_73 : decode cX4_many 73 = .ok (.bipush (-2), 2) := by decide +kernel
theorem dX4_many_75 : decode cX4_many 75 = .ok (.ireturn, 1) := by decide +kernel
set_option maxRecDepth 20000 in
theorem ggX4_flagTold_X4_leaveTrace : GoodIn wsX4_flagTold wsX4_leaveTrace := goodIn_r _ [7, 8, 15, 16, 17, 18, 19, 20, 21, 22, 23, 24] (by decide +kernel) (by decide +kernel)
set_option maxRecDepth 20000 in
theorem gX4_flagTold_X4_leaveTrace : GoodIn wsX4_flagTold (wsV RX4 215 RX4 yX4_leaveTrace wsX4_leaveTrace) := goodIn_app (goodIn_of _ (by decide +kernel)) ggX4_flagTold_X4_leaveTrace
set_option maxRecDepth 20000 in
theorem ggX4_flagTold_X3_has : GoodIn wsX4_flagTold wsX3_has := goodIn_r _ [13, 14, 25, 26, 27, 28, 29, 30, 31] (by decide +kernel) (by decide +kernel)
set_option maxRecDepth 20000 in
theorem gX4_flagTold_X3_has : GoodIn wsX4_flagTold (wsV RX4 88 RX3 yX3_has wsX3_has) := goodIn_app (goodIn_of _ (by decide +kernel)) ggX4_flagTold_X3_has
theorem dX4_flagTold_0 : decode cX4_flagTold 0 = .ok (.aload_n 0, 1) := by decide +kernel
theorem dX4_flagTold_1 : decode cX4_flagTold 1 = .ok (.iconst 1, 1) := by decide +kernel
theorem dX4_flagTold_2 : decode cX4_flagTold 2 = .ok (.invokevirtual 215, 3) := by decide +kernel
theorem dX4_flagTold_5 : decode cX4_flagTold 5 = .ok (.aload_n 0, 1) := by decide +kernel
theorem dX4_flagTold_6 : decode cX4_flagTold 6 = .ok (.getfield 41, 3) := by decide +kernel
theorem dX4_flagTold_9 : decode cX4_flagTold 9 = .ok (.iload_n 1, 1) := by decide +kernel
theorem dX4_flagTold_10 : decode cX4_flagTold 10 = .ok (.invokevirtual 88, 3) := by decide +kernel
theorem dX4_flagTold_13 : decode cX4_flagTold 13 = .ok (.ifCond .eq 15, 3) := by decide +kernel
theorem dX4_flagTold_16 : decode cX4_flagTold 16 = .ok (.aload_n 0, 1) := by decide +kernel
theorem dX4_flagTold_17 : decode cX4_flagTold 17 = .ok (.getfield 41, 3) := by decide +kernel
theorem dX4_flagTold_20 : decode cX4_flagTold 20 = .ok (.getfield 94, 3) := by decide +kernel
theorem dX4_flagTold_23 : decode cX4_flagTold 23 = .ok (.iload_n 1, 1) := by decide +kernel
theorem dX4_flagTold_24 : decode cX4_flagTold 24 = .ok (.iaload, 1) := by decide +kernel
theorem dX4_flagTold_25 : decode cX4_flagTold 25 = .ok (.goto 4, 3) := by decide +kernel
theorem dX4_flagTold_28 : decode cX4_flagTold 28 = .ok (.iconst 0, 1) := by decide +kernel
theorem dX4_flagTold_29 : decode cX4_flagTold 29 = .ok (.ireturn, 1) := by decide +kernel
set_option maxRecDepth 20000 in
theorem ggX4_hillTold_X4_leaveTrace : GoodIn wsX4_hillTold wsX4_leaveTrace := goodIn_r _ [5, 6, 19, 20, 21, 22, 23, 24, 25, 26, 27, 28] (by decide +kernel) (by decide +kernel)
set_option maxRecDepth 20000 in
theorem gX4_hillTold_X4_leaveTrace : GoodIn wsX4_hillTold (wsV RX4 215 RX4 yX4_leaveTrace wsX4_leaveTrace) := goodIn_app (goodIn_of _ (by decide +kernel)) ggX4_hillTold_X4_leaveTrace
set_option maxRecDepth 20000 in
theorem ggX4_hillTold_X4_flagTold : GoodIn wsX4_hillTold wsX4_flagTold := goodIn_r _ [10, 11, 12, 1, 2, 3, 4, 5, 6, 13, 14, 15, 16, 17, 18, 19, 20, 21, 22, 23, 24, 25, 26, 27, 28, 29, 30, 31, 32, 33, 34, 35] (by decide +kernel) (by decide +kernel)
set_option maxRecDepth 20000 in
theorem gX4_hillTold_X4_flagTold : GoodIn wsX4_hillTold (wsV RX4 212 RX4 yX4_flagTold wsX4_flagTold) := goodIn_app (goodIn_of _ (by decide +kernel)) ggX4_hillTold_X4_flagTold
theorem dX4_hillTold_0 : decode cX4_hillTold 0 = .ok (.aload_n 0, 1) := by decide +kernel
theorem dX4_hillTold_1 : decode cX4_hillTold 1 = .ok (.iconst 2, 1) := by decide +kernel
theorem dX4_hillTold_2 : decode cX4_hillTold 2 = .ok (.invokevirtual 215, 3) := by decide +kernel
theorem dX4_hillTold_5 : decode cX4_hillTold 5 = .ok (.aload_n 0, 1) := by decide +kernel
theorem dX4_hillTold_6 : decode cX4_hillTold 6 = .ok (.iload_n 1, 1) := by decide +kernel
theorem dX4_hillTold_7 : decode cX4_hillTold 7 = .ok (.invokevirtual 212, 3) := by decide +kernel
theorem dX4_hillTold_10 : decode cX4_hillTold 10 = .ok (.bipush 100, 2) := by decide +kernel
theorem dX4_hillTold_12 : decode cX4_hillTold 12 = .ok (.iadd, 1) := by decide +kernel
theorem dX4_hillTold_13 : decode cX4_hillTold 13 = .ok (.ireturn, 1) := by decide +kernel
set_option maxRecDepth 20000 in
theorem ggX4_wetTold_X4_leaveTrace : GoodIn wsX4_wetTold wsX4_leaveTrace := goodIn_r _ [5, 6, 23, 24, 25, 26, 27, 28, 29, 30, 31, 32] (by decide +kernel) (by decide +kernel)
set_option maxRecDepth 20000 in
theorem gX4_wetTold_X4_leaveTrace : GoodIn wsX4_wetTold (wsV RX4 215 RX4 yX4_leaveTrace wsX4_leaveTrace) := goodIn_app (goodIn_of _ (by decide +kernel)) ggX4_wetTold_X4_leaveTrace
set_option maxRecDepth 20000 in
theorem ggX4_wetTold_X4_hillTold : GoodIn wsX4_wetTold wsX4_hillTold := goodIn_r _ [10, 1, 2, 3, 4, 5, 6, 11, 12, 13, 14, 15, 16, 17, 18, 19, 20, 21, 22, 23, 24, 25, 26, 27, 28, 29, 30, 31, 32, 33, 34, 35, 36, 37, 38, 39] (by decide +kernel) (by decide +kernel)
set_option maxRecDepth 20000 in
theorem gX4_wetTold_X4_hillTold : GoodIn wsX4_wetTold (wsV RX4 209 RX4 yX4_hillTold wsX4_hillTold) := goodIn_app (goodIn_of _ (by decide +kernel)) ggX4_wetTold_X4_hillTold
set_option maxRecDepth 20000 in
theorem ggX4_wetTold_X4_flagTold : GoodIn wsX4_wetTold wsX4_flagTold := goodIn_r _ [14, 15, 16, 1, 2, 3, 4, 5, 6, 17, 18, 19, 20, 21, 22, 23, 24, 25, 26, 27, 28, 29, 30, 31, 32, 33, 34, 35, 36, 37, 38, 39] (by decide +kernel) (by decide +kernel)
set_option maxRecDepth 20000 in
theorem gX4_wetTold_X4_flagTold : GoodIn wsX4_wetTold (wsV RX4 212 RX4 yX4_flagTold wsX4_flagTold) := goodIn_app (goodIn_of _ (by decide +kernel)) ggX4_wetTold_X4_flagTold
theorem dX4_wetTold_0 : decode cX4_wetTold 0 = .ok (.aload_n 0, 1) := by decide +kernel
theorem dX4_wetTold_1 : decode cX4_wetTold 1 = .ok (.iconst 3, 1) := by decide +kernel
theorem dX4_wetTold_2 : decode cX4_wetTold 2 = .ok (.invokevirtual 215, 3) := by decide +kernel
theorem dX4_wetTold_5 : decode cX4_wetTold 5 = .ok (.aload_n 0, 1) := by decide +kernel
theorem dX4_wetTold_6 : decode cX4_wetTold 6 = .ok (.iload_n 1, 1) := by decide +kernel
theorem dX4_wetTold_7 : decode cX4_wetTold 7 = .ok (.invokevirtual 209, 3) := by decide +kernel
theorem dX4_wetTold_10 : decode cX4_wetTold 10 = .ok (.istore_n 2, 1) := by decide +kernel
theorem dX4_wetTold_11 : decode cX4_wetTold 11 = .ok (.iload_n 2, 1) := by decide +kernel
theorem dX4_wetTold_12 : decode cX4_wetTold 12 = .ok (.aload_n 0, 1) := by decide +kernel
theorem dX4_wetTold_13 : decode cX4_wetTold 13 = .ok (.iload_n 1, 1) := by decide +kernel
theorem dX4_wetTold_14 : decode cX4_wetTold 14 = .ok (.invokevirtual 212, 3) := by decide +kernel
theorem dX4_wetTold_17 : decode cX4_wetTold 17 = .ok (.iadd, 1) := by decide +kernel
theorem dX4_wetTold_18 : decode cX4_wetTold 18 = .ok (.ireturn, 1) := by decide +kernel
theorem dX4_leaveTrace_0 : decode cX4_leaveTrace 0 = .ok (.aload_n 0, 1) := by decide +kernel
theorem dX4_leaveTrace_1 : decode cX4_leaveTrace 1 = .ok (.bipush 31, 2) := by decide +kernel
theorem dX4_leaveTrace_3 : decode cX4_leaveTrace 3 = .ok (.aload_n 0, 1) := by decide +kernel
theorem dX4_leaveTrace_4 : decode cX4_leaveTrace 4 = .ok (.getfield 52, 3) := by decide +kernel
theorem dX4_leaveTrace_7 : decode cX4_leaveTrace 7 = .ok (.imul, 1) := by decide +kernel
theorem dX4_leaveTrace_8 : decode cX4_leaveTrace 8 = .ok (.iload_n 1, 1) := by decide +kernel
theorem dX4_leaveTrace_9 : decode cX4_leaveTrace 9 = .ok (.iadd, 1) := by decide +kernel
theorem dX4_leaveTrace_10 : decode cX4_leaveTrace 10 = .ok (.putfield 52, 3) := by decide +kernel
theorem dX4_leaveTrace_13 : decode cX4_leaveTrace 13 = .ok (.return_, 1) := by decide +kernel
theorem dX4_failed_0 : decode cX4_failed 0 = .ok (.aload_n 0, 1) := by decide +kernel
theorem dX4_failed_1 : decode cX4_failed 1 = .ok (.iload_n 1, 1) := by decide +kernel
theorem dX4_failed_2 : decode cX4_failed 2 = .ok (.putfield 55, 3) := by decide +kernel
theorem dX4_failed_5 : decode cX4_failed 5 = .ok (.bipush (-10), 2) := by decide +kernel
theorem dX4_failed_7 : decode cX4_failed 7 = .ok (.iload_n 1, 1) := by decide +kernel
theorem dX4_failed_8 : decode cX4_failed 8 = .ok (.isub, 1) := by decide +kernel
theorem dX4_failed_9 : decode cX4_failed 9 = .ok (.ireturn, 1) := by decide +kernel
theorem dX4_lost_0 : decode cX4_lost 0 = .ok (.aload_n 0, 1) := by decide +kernel
theorem dX4_lost_1 : decode cX4_lost 1 = .ok (.iload_n 1, 1) := by decide +kernel
theorem dX4_lost_2 : decode cX4_lost 2 = .ok (.putfield 55, 3) := by decide +kernel
theorem dX4_lost_5 : decode cX4_lost 5 = .ok (.ldc2_w 173, 3) := by decide +kernel
theorem dX4_lost_8 : decode cX4_lost 8 = .ok (.lreturn, 1) := by decide +kernel
theorem dX4_isSheet_0 : decode cX4_isSheet 0 = .ok (.iload_n 0, 1) := by decide +kernel
theorem dX4_isSheet_1 : decode cX4_isSheet 1 = .ok (.ifCond .lt 12, 3) := by decide +kernel
theorem dX4_isSheet_4 : decode cX4_isSheet 4 = .ok (.iload_n 0, 1) := by decide +kernel
theorem dX4_isSheet_5 : decode cX4_isSheet 5 = .ok (.iconst 4, 1) := by decide +kernel
theorem dX4_isSheet_6 : decode cX4_isSheet 6 = .ok (.if_icmp .ge 7, 3) := by decide +kernel
theorem dX4_isSheet_9 : decode cX4_isSheet 9 = .ok (.iconst 1, 1) := by decide +kernel
theorem dX4_isSheet_10 : decode cX4_isSheet 10 = .ok (.goto 4, 3) := by decide +kernel
theorem dX4_isSheet_13 : decode cX4_isSheet 13 = .ok (.iconst 0, 1) := by decide +kernel
theorem dX4_isSheet_14 : decode cX4_isSheet 14 = .ok (.ireturn, 1) := by decide +kernel
theorem dX4_isLane_0 : decode cX4_isLane 0 = .ok (.iload_n 0, 1) := by decide +kernel
theorem dX4_isLane_1 : decode cX4_isLane 1 = .ok (.ifCond .lt 12, 3) := by decide +kernel
theorem dX4_isLane_4 : decode cX4_isLane 4 = .ok (.iload_n 0, 1) := by decide +kernel
theorem dX4_isLane_5 : decode cX4_isLane 5 = .ok (.iconst 3, 1) := by decide +kernel
theorem dX4_isLane_6 : decode cX4_isLane 6 = .ok (.if_icmp .ge 7, 3) := by decide +kernel
theorem dX4_isLane_9 : decode cX4_isLane 9 = .ok (.iconst 1, 1) := by decide +kernel
theorem dX4_isLane_10 : decode cX4_isLane 10 = .ok (.goto 4, 3) := by decide +kernel
theorem dX4_isLane_13 : decode cX4_isLane 13 = .ok (.iconst 0, 1) := by decide +kernel
theorem dX4_isLane_14 : decode cX4_isLane 14 = .ok (.ireturn, 1) := by decide +kernel
