theorem dX4_street_148 : decode cX4_street 148 = .ok (.ireturn, 1) := by decide +kernel
set_option maxRecDepth 20000 in
theorem ggX4_ofFlag_X3_has : GoodIn wsX4_ofFlag wsX3_has := goodIn_r _ [9, 10, 27, 28, 29, 30, 31, 32, 33] (by decide +kernel) (by decide +kernel)
set_option maxRecDepth 20000 in
theorem gX4_ofFlag_X3_has : GoodIn wsX4_ofFlag (wsV RX4 88 RX3 yX3_has wsX3_has) := goodIn_app (goodIn_of _ (by decide +kernel)) ggX4_ofFlag_X3_has
set_option maxRecDepth 20000 in
theorem ggX4_ofFlag_X3_dragOf : GoodIn wsX4_ofFlag wsX3_dragOf := goodIn_r _ [14, 10, 15, 16, 27, 28, 29, 30, 31, 32, 33] (by decide +kernel) (by decide +kernel)
set_option maxRecDepth 20000 in
theorem gX4_ofFlag_X3_dragOf : GoodIn wsX4_ofFlag (wsV RX4 97 RX3 yX3_dragOf wsX3_dragOf) := goodIn_app (goodIn_of _ (by decide +kernel)) ggX4_ofFlag_X3_dragOf
theorem dX4_ofFlag_0 : decode cX4_ofFlag 0 = .ok (.aload_n 0, 1) := by decide +kernel
theorem dX4_ofFlag_1 : decode cX4_ofFlag 1 = .ok (.getfield 41, 3) := by decide +kernel
theorem dX4_ofFlag_4 : decode cX4_ofFlag 4 = .ok (.iload_n 1, 1) := by decide +kernel
theorem dX4_ofFlag_5 : decode cX4_ofFlag 5 = .ok (.invokevirtual 88, 3) := by decide +kernel
theorem dX4_ofFlag_8 : decode cX4_ofFlag 8 = .ok (.ifCond .ne 5, 3) := by decide +kernel
theorem dX4_ofFlag_11 : decode cX4_ofFlag 11 = .ok (.iconst (-1), 1) := by decide +kernel
theorem dX4_ofFlag_12 : decode cX4_ofFlag 12 = .ok (.ireturn, 1) := by decide +kernel
theorem dX4_ofFlag_13 : decode cX4_ofFlag 13 = .ok (.iload_n 2, 1) := by decide +kernel
theorem dX4_ofFlag_14 : decode cX4_ofFlag 14 = .ok (.tableswitch 77 0 3 #[30, 40, 50, 59], 30) := by decide +kernel
theorem dX4_ofFlag_44 : decode cX4_ofFlag 44 = .ok (.aload_n 0, 1) := by decide +kernel
theorem dX4_ofFlag_45 : decode cX4_ofFlag 45 = .ok (.getfield 41, 3) := by decide +kernel
theorem dX4_ofFlag_48 : decode cX4_ofFlag 48 = .ok (.getfield 91, 3) := by decide +kernel
theorem dX4_ofFlag_51 : decode cX4_ofFlag 51 = .ok (.iload_n 1, 1) := by decide +kernel
theorem dX4_ofFlag_52 : decode cX4_ofFlag 52 = .ok (.iaload, 1) := by decide +kernel
theorem dX4_ofFlag_53 : decode cX4_ofFlag 53 = .ok (.ireturn, 1) := by decide +kernel
theorem dX4_ofFlag_54 : decode cX4_ofFlag 54 = .ok (.aload_n 0, 1) := by decide +kernel
theorem dX4_ofFlag_55 : decode cX4_ofFlag 55 = .ok (.getfield 41, 3) := by decide +kernel
theorem dX4_ofFlag_58 : decode cX4_ofFlag 58 = .ok (.getfield 94, 3) := by decide +kernel
theorem dX4_ofFlag_61 : decode cX4_ofFlag 61 = .ok (.iload_n 1, 1) := by decide +kernel
theorem dX4_ofFlag_62 : decode cX4_ofFlag 62 = .ok (.iaload, 1) := by decide +kernel
theorem dX4_ofFlag_63 : decode cX4_ofFlag 63 = .ok (.ireturn, 1) := by decide +kernel
theorem dX4_ofFlag_64 : decode cX4_ofFlag 64 = .ok (.aload_n 0, 1) := by decide +kernel
theorem dX4_ofFlag_65 : decode cX4_ofFlag 65 = .ok (.getfield 41, 3) := by decide +kernel
theorem dX4_ofFlag_68 : decode cX4_ofFlag 68 = .ok (.iload_n 1, 1) := by decide +kernel
theorem dX4_ofFlag_69 : decode cX4_ofFlag 69 = .ok (.invokevirtual 97, 3) := by decide +kernel
theorem dX4_ofFlag_72 : decode cX4_ofFlag 72 = .ok (.ireturn, 1) := by decide +kernel
theorem dX4_ofFlag_73 : decode cX4_ofFlag 73 = .ok (.aload_n 0, 1) := by decide +kernel
theorem dX4_ofFlag_74 : decode cX4_ofFlag 74 = .ok (.getfield 41, 3) := by decide +kernel
theorem dX4_ofFlag_77 : decode cX4_ofFlag 77 = .ok (.getfield 100, 3) := by decide +kernel
theorem dX4_ofFlag_80 : decode cX4_ofFlag 80 = .ok (.iload_n 1, 1) := by decide +kernel
theorem dX4_ofFlag_81 : decode cX4_ofFlag 81 = .ok (.baload, 1) := by decide +kernel
theorem dX4_ofFlag_82 : decode cX4_ofFlag 82 = .ok (.ifCond .eq 7, 3) := by decide +kernel
theorem dX4_ofFlag_85 : decode cX4_ofFlag 85 = .ok (.iconst 1, 1) := by decide +kernel
theorem dX4_ofFlag_86 : decode cX4_ofFlag 86 = .ok (.goto 4, 3) := by decide +kernel
theorem dX4_ofFlag_89 : decode cX4_ofFlag 89 = .ok (.iconst 0, 1) := by decide +kernel
theorem dX4_ofFlag_90 : decode cX4_ofFlag 90 = .ok (.ireturn, 1) := by decide +kernel
theorem dX4_ofFlag_91 : decode cX4_ofFlag 91 = .ok (.bipush (-2), 2) := by decide +kernel
theorem dX4_ofFlag_93 : decode cX4_ofFlag 93 = .ok (.ireturn, 1) := by decide +kernel
set_option maxRecDepth 20000 in
theorem ggX4_strong_X3_isNone : GoodIn wsX4_strong wsX3_isNone := goodIn_r _ [7, 8, 19, 20, 21, 22, 23, 24, 25] (by decide +kernel) (by decide +kernel)
set_option maxRecDepth 20000 in
theorem gX4_strong_X3_isNone : GoodIn wsX4_strong (wsV RX4 104 RX3 yX3_isNone wsX3_isNone) := goodIn_app (goodIn_of _ (by decide +kernel)) ggX4_strong_X3_isNone
theorem dX4_strong_0 : decode cX4_strong 0 = .ok (.iload_n 1, 1) := by decide +kernel
theorem dX4_strong_1 : decode cX4_strong 1 = .ok (.iconst 1, 1) := by decide +kernel
theorem dX4_strong_2 : decode cX4_strong 2 = .ok (.if_icmp .lt 8, 3) := by decide +kernel
theorem dX4_strong_5 : decode cX4_strong 5 = .ok (.iload_n 1, 1) := by decide +kernel
theorem dX4_strong_6 : decode cX4_strong 6 = .ok (.iconst 4, 1) := by decide +kernel
theorem dX4_strong_7 : decode cX4_strong 7 = .ok (.if_icmp .le 6, 3) := by decide +kernel
theorem dX4_strong_10 : decode cX4_strong 10 = .ok (.bipush (-2), 2) := by decide +kernel
theorem dX4_strong_12 : decode cX4_strong 12 = .ok (.ireturn, 1) := by decide +kernel
theorem dX4_strong_13 : decode cX4_strong 13 = .ok (.aload_n 0, 1) := by decide +kernel
theorem dX4_strong_14 : decode cX4_strong 14 = .ok (.getfield 41, 3) := by decide +kernel
theorem dX4_strong_17 : decode cX4_strong 17 = .ok (.invokevirtual 104, 3) := by decide +kernel
theorem dX4_strong_20 : decode cX4_strong 20 = .ok (.ifCond .eq 6, 3) := by decide +kernel
theorem dX4_strong_23 : decode cX4_strong 23 = .ok (.bipush (-3), 2) := by decide +kernel
theorem dX4_strong_25 : decode cX4_strong 25 = .ok (.ireturn, 1) := by decide +kernel
theorem dX4_strong_26 : decode cX4_strong 26 = .ok (.aload_n 0, 1) := by decide +kernel
theorem dX4_strong_27 : decode cX4_strong 27 = .ok (.getfield 41, 3) := by decide +kernel
theorem dX4_strong_30 : decode cX4_strong 30 = .ok (.getfield 108, 3) := by decide +kernel
theorem dX4_strong_33 : decode cX4_strong 33 = .ok (.istore_n 2, 1) := by decide +kernel
theorem dX4_strong_34 : decode cX4_strong 34 = .ok (.aload_n 0, 1) := by decide +kernel
theorem dX4_strong_35 : decode cX4_strong 35 = .ok (.getfield 41, 3) := by decide +kernel
theorem dX4_strong_38 : decode cX4_strong 38 = .ok (.iload_n 1, 1) := by decide +kernel
theorem dX4_strong_39 : decode cX4_strong 39 = .ok (.putfield 108, 3) := by decide +kernel
theorem dX4_strong_42 : decode cX4_strong 42 = .ok (.iload_n 2, 1) := by decide +kernel
theorem dX4_strong_43 : decode cX4_strong 43 = .ok (.ireturn, 1) := by decide +kernel
set_option maxRecDepth 20000 in
theorem ggX4_knee_X3_isNone : GoodIn wsX4_knee wsX3_isNone := goodIn_r _ [7, 8, 19, 20, 21, 22, 23, 24, 25] (by decide +kernel) (by decide +kernel)
set_option maxRecDepth 20000 in
theorem gX4_knee_X3_isNone : GoodIn wsX4_knee (wsV RX4 104 RX3 yX3_isNone wsX3_isNone) := goodIn_app (goodIn_of _ (by decide +kernel)) ggX4_knee_X3_isNone
theorem dX4_knee_0 : decode cX4_knee 0 = .ok (.iload_n 1, 1) := by decide +kernel
theorem dX4_knee_1 : decode cX4_knee 1 = .ok (.iconst 1, 1) := by decide +kernel
theorem dX4_knee_2 : decode cX4_knee 2 = .ok (.if_icmp .lt 8, 3) := by decide +kernel
theorem dX4_knee_5 : decode cX4_knee 5 = .ok (.iload_n 1, 1) := by decide +kernel
theorem dX4_knee_6 : decode cX4_knee 6 = .ok (.iconst 3, 1) := by decide +kernel
theorem dX4_knee_7 : decode cX4_knee 7 = .ok (.if_icmp .le 6, 3) := by decide +kernel
theorem dX4_knee_10 : decode cX4_knee 10 = .ok (.bipush (-2), 2) := by decide +kernel
theorem dX4_knee_12 : decode cX4_knee 12 = .ok (.ireturn, 1) := by decide +kernel
theorem dX4_knee_13 : decode cX4_knee 13 = .ok (.aload_n 0, 1) := by decide +kernel
theorem dX4_knee_14 : decode cX4_knee 14 = .ok (.getfield 41, 3) := by decide +kernel
theorem dX4_knee_17 : decode cX4_knee 17 = .ok (.invokevirtual 104, 3) := by decide +kernel
theorem dX4_knee_20 : decode cX4_knee 20 = .ok (.ifCond .eq 6, 3) := by decide +kernel
theorem dX4_knee_23 : decode cX4_knee 23 = .ok (.bipush (-3), 2) := by decide +kernel
theorem dX4_knee_25 : decode cX4_knee 25 = .ok (.ireturn, 1) := by decide +kernel
theorem dX4_knee_26 : decode cX4_knee 26 = .ok (.aload_n 0, 1) := by decide +kernel
theorem dX4_knee_27 : decode cX4_knee 27 = .ok (.getfield 41, 3) := by decide +kernel
theorem dX4_knee_30 : decode cX4_knee 30 = .ok (.getfield 111, 3) := by decide +kernel
theorem dX4_knee_33 : decode cX4_knee 33 = .ok (.istore_n 2, 1) := by decide +kernel
theorem dX4_knee_34 : decode cX4_knee 34 = .ok (.aload_n 0, 1) := by decide +kernel
theorem dX4_knee_35 : decode cX4_knee 35 = .ok (.getfield 41, 3) := by decide +kernel
theorem dX4_knee_38 : decode cX4_knee 38 = .ok (.iload_n 1, 1) := by decide +kernel
theorem dX4_knee_39 : decode cX4_knee 39 = .ok (.putfield 111, 3) := by decide +kernel
theorem dX4_knee_42 : decode cX4_knee 42 = .ok (.iload_n 2, 1) := by decide +kernel
theorem dX4_knee_43 : decode cX4_knee 43 = .ok (.ireturn, 1) := by decide +kernel
set_option maxRecDepth 20000 in
theorem ggX4_sole_X3_isNone : GoodIn wsX4_sole wsX3_isNone := goodIn_r _ [7, 8, 19, 20, 21, 22, 23, 24, 25] (by decide +kernel) (by decide +kernel)
set_option maxRecDepth 20000 in
theorem gX4_sole_X3_isNone : GoodIn wsX4_sole (wsV RX4 104 RX3 yX3_isNone wsX3_isNone) := goodIn_app (goodIn_of _ (by decide +kernel)) ggX4_sole_X3_isNone
theorem dX4_sole_0 : decode cX4_sole 0 = .ok (.iload_n 1, 1) := by decide +kernel
theorem dX4_sole_1 : decode cX4_sole 1 = .ok (.ifCond .lt 8, 3) := by decide +kernel
theorem dX4_sole_4 : decode cX4_sole 4 = .ok (.iload_n 1, 1) := by decide +kernel
theorem dX4_sole_5 : decode cX4_sole 5 = .ok (.iconst 2, 1) := by decide +kernel
theorem dX4_sole_6 : decode cX4_sole 6 = .ok (.if_icmp .le 6, 3) := by decide +kernel
theorem dX4_sole_9 : decode cX4_sole 9 = .ok (.bipush (-2), 2) := by decide +kernel
theorem dX4_sole_11 : decode cX4_sole 11 = .ok (.ireturn, 1) := by decide +kernel
theorem dX4_sole_12 : decode cX4_sole 12 = .ok (.aload_n 0, 1) := by decide +kernel
theorem dX4_sole_13 : decode cX4_sole 13 = .ok (.getfield 41, 3) := by decide +kernel
theorem dX4_sole_16 : decode cX4_sole 16 = .ok (.invokevirtual 104, 3) := by decide +kernel
theorem dX4_sole_19 : decode cX4_sole 19 = .ok (.ifCond .eq 6, 3) := by decide +kernel
theorem dX4_sole_22 : decode cX4_sole 22 = .ok (.bipush (-3), 2) := by decide +kernel
theorem dX4_sole_24 : decode cX4_sole 24 = .ok (.ireturn, 1) := by decide +kernel
theorem dX4_sole_25 : decode cX4_sole 25 = .ok (.aload_n 0, 1) := by decide +kernel
theorem dX4_sole_26 : decode cX4_sole 26 = .ok (.getfield 41, 3) := by decide +kernel
theorem dX4_sole_29 : decode cX4_sole 29 = .ok (.getfield 114, 3) := by decide +kernel
theorem dX4_sole_32 : decode cX4_sole 32 = .ok (.istore_n 2, 1) := by decide +kernel
theorem dX4_sole_33 : decode cX4_sole 33 = .ok (.aload_n 0, 1) := by decide +kernel
theorem dX4_sole_34 : decode cX4_sole 34 = .ok (.getfield 41, 3) := by decide +kernel
theorem dX4_sole_37 : decode cX4_sole 37 = .ok (.iload_n 1, 1) := by decide +kernel
theorem dX4_sole_38 : decode cX4_sole 38 = .ok (.putfield 114, 3) := by decide +kernel
theorem dX4_sole_41 : decode cX4_sole 41 = .ok (.iload_n 2, 1) := by decide +kernel
theorem dX4_sole_42 : decode cX4_sole 42 = .ok (.ireturn, 1) := by decide +kernel
set_option maxRecDepth 20000 in
theorem ggX4_grating_X3_has : GoodIn wsX4_grating wsX3_has := goodIn_r _ [7, 8, 19, 20, 21, 22, 23, 24, 25] (by decide +kernel) (by decide +kernel)
set_option maxRecDepth 20000 in
theorem gX4_grating_X3_has : GoodIn wsX4_grating (wsV RX4 88 RX3 yX3_has wsX3_has) := goodIn_app (goodIn_of _ (by decide +kernel)) ggX4_grating_X3_has
theorem dX4_grating_0 : decode cX4_grating 0 = .ok (.aload_n 0, 1) := by decide +kernel
theorem dX4_grating_1 : decode cX4_grating 1 = .ok (.getfield 41, 3) := by decide +kernel
theorem dX4_grating_4 : decode cX4_grating 4 = .ok (.iload_n 1, 1) := by decide +kernel
theorem dX4_grating_5 : decode cX4_grating 5 = .ok (.invokevirtual 88, 3) := by decide +kernel
theorem dX4_grating_8 : decode cX4_grating 8 = .ok (.ifCond .ne 5, 3) := by decide +kernel
theorem dX4_grating_11 : decode cX4_grating 11 = .ok (.iconst (-1), 1) := by decide +kernel
theorem dX4_grating_12 : decode cX4_grating 12 = .ok (.ireturn, 1) := by decide +kernel
theorem dX4_grating_13 : decode cX4_grating 13 = .ok (.aload_n 0, 1) := by decide +kernel
theorem dX4_grating_14 : decode cX4_grating 14 = .ok (.getfield 41, 3) := by decide +kernel
theorem dX4_grating_17 : decode cX4_grating 17 = .ok (.getfield 100, 3) := by decide +kernel
theorem dX4_grating_20 : decode cX4_grating 20 = .ok (.iload_n 1, 1) := by decide +kernel
theorem dX4_grating_21 : decode cX4_grating 21 = .ok (.baload, 1) := by decide +kernel
theorem dX4_grating_22 : decode cX4_grating 22 = .ok (.iload_n 2, 1) := by decide +kernel
theorem dX4_grating_23 : decode cX4_grating 23 = .ok (.if_icmp .ne 5, 3) := by decide +kernel
theorem dX4_grating_26 : decode cX4_grating 26 = .ok (.iconst 0, 1) := by decide +kernel
theorem dX4_grating_27 : decode cX4_grating 27 = .ok (.ireturn, 1) := by decide +kernel
theorem dX4_grating_28 : decode cX4_grating 28 = .ok (.aload_n 0, 1) := by decide +kernel
theorem dX4_grating_29 : decode cX4_grating 29 = .ok (.getfield 41, 3) := by decide +kernel
theorem dX4_grating_32 : decode cX4_grating 32 = .ok (.getfield 100, 3) := by decide +kernel
theorem dX4_grating_35 : decode cX4_grating 35 = .ok (.iload_n 1, 1) := by decide +kernel
theorem dX4_grating_36 : decode cX4_grating 36 = .ok (.iload_n 2, 1) := by decide +kernel
theorem dX4_grating_37 : decode cX4_grating 37 = .ok (.bastore, 1) := by decide +kernel
theorem dX4_grating_38 : decode cX4_grating 38 = .ok (.iconst 1, 1) := by decide +kernel
theorem dX4_grating_39 : decode cX4_grating 39 = .ok (.ireturn, 1) := by decide +kernel
set_option maxRecDepth 20000 in
theorem ggX4_way_X4_isSheet : GoodIn wsX4_way wsX4_isSheet := goodIn_r _ [8] (by decide +kernel) (by decide +kernel)
set_option maxRecDepth 20000 in
theorem gX4_way_X4_isSheet : GoodIn wsX4_way (va_wsS RX4 59 yX4_isSheet wsX4_isSheet) := goodIn_app (goodIn_of _ (by decide +kernel)) ggX4_way_X4_isSheet
set_option maxRecDepth 20000 in
theorem ggX4_way_X4_isLane : GoodIn wsX4_way wsX4_isLane := goodIn_r _ [11] (by decide +kernel) (by decide +kernel)
set_option maxRecDepth 20000 in
theorem gX4_way_X4_isLane : GoodIn wsX4_way (va_wsS RX4 63 yX4_isLane wsX4_isLane) := goodIn_app (goodIn_of _ (by decide +kernel)) ggX4_way_X4_isLane
set_option maxRecDepth 20000 in
theorem ggX4_way_X1_isUnlike : GoodIn wsX4_way wsX1_isUnlike := goodIn_r _ [16, 17, 18, 113, 114, 115, 116] (by decide +kernel) (by decide +kernel)
set_option maxRecDepth 20000 in
theorem gX4_way_X1_isUnlike : GoodIn wsX4_way (wsV RX4 66 RX1 yX1_isUnlike wsX1_isUnlike) := goodIn_app (goodIn_of _ (by decide +kernel)) ggX4_way_X1_isUnlike
set_option maxRecDepth 20000 in
theorem ggX4_way_X4_failed : GoodIn wsX4_way wsX4_failed := goodIn_r _ [22, 1, 103, 104, 105, 106, 107, 108, 109, 110, 111, 112] (by decide +kernel) (by decide +kernel)
set_option maxRecDepth 20000 in
theorem gX4_way_X4_failed : GoodIn wsX4_way (wsV RX4 69 RX4 yX4_failed wsX4_failed) := goodIn_app (goodIn_of _ (by decide +kernel)) ggX4_way_X4_failed
set_option maxRecDepth 20000 in
theorem ggX4_way_X1_holds : GoodIn wsX4_way wsX1_holds := goodIn_r _ [26, 27, 113, 114, 115, 116] (by decide +kernel) (by decide +kernel)
set_option maxRecDepth 20000 in
theorem gX4_way_X1_holds : GoodIn wsX4_way (wsV RX4 77 RX1 yX1_holds wsX1_holds) := goodIn_app (goodIn_of _ (by decide +kernel)) ggX4_way_X1_holds
set_option maxRecDepth 20000 in
theorem ggX4_way_X3_isNone : GoodIn wsX4_way wsX3_isNone := goodIn_r _ [32, 33, 117, 118, 119, 120, 121, 122, 123] (by decide +kernel) (by decide +kernel)
set_option maxRecDepth 20000 in
theorem gX4_way_X3_isNone : GoodIn wsX4_way (wsV RX4 104 RX3 yX3_isNone wsX3_isNone) := goodIn_app (goodIn_of _ (by decide +kernel)) ggX4_way_X3_isNone
set_option maxRecDepth 20000 in
theorem ggX4_way_X4_areActs : GoodIn wsX4_way wsX4_areActs := goodIn_r _ [36, 37, 38, 39, 15, 40, 27, 41, 113, 114, 115, 116] (by decide +kernel) (by decide +kernel)
set_option maxRecDepth 20000 in
theorem gX4_way_X4_areActs : GoodIn wsX4_way (va_wsS RX4 117 yX4_areActs wsX4_areActs) := goodIn_app (goodIn_of _ (by decide +kernel)) ggX4_way_X4_areActs
set_option maxRecDepth 20000 in
theorem ggX4_way_X4_ride : GoodIn wsX4_way wsX4_ride := goodIn_r _ [45, 46, 4, 47, 48, 49, 50, 51, 52, 53, 54, 55, 56, 57, 58, 59, 37, 38, 39, 15, 40, 27, 41, 60, 61, 62, 63, 64, 65, 66, 67, 31, 68, 33, 69, 70, 71, 72, 73, 74, 75, 76, 77, 78, 79, 80, 81, 82, 83, 84, 85, 86, 87, 88, 89, 90, 91, 103, 104, 105, 106, 107, 108, 109, 110, 111, 112, 124, 125, 126, 127, 128, 129, 130, 117, 118, 119, 120, 121, 122, 123, 113, 114, 115, 116] (by decide +kernel) (by decide +kernel)
set_option maxRecDepth 20000 in
theorem gX4_way_X4_ride : GoodIn wsX4_way (wsV RX4 121 RX4 yX4_ride wsX4_ride) := goodIn_app (goodIn_of _ (by decide +kernel)) ggX4_way_X4_ride
set_option maxRecDepth 20000 in
theorem ggX4_way_X4_riderTells : GoodIn wsX4_way wsX4_riderTells := goodIn_r _ [95, 46, 96, 97, 98, 99, 100, 101, 102, 103, 104, 105, 106, 107, 108, 109, 110, 111, 112, 124, 125, 126, 127, 128, 129, 130] (by decide +kernel) (by decide +kernel)
set_option maxRecDepth 20000 in
theorem gX4_way_X4_riderTells : GoodIn wsX4_way (wsV RX4 124 RX4 yX4_riderTells wsX4_riderTells) := goodIn_app (goodIn_of _ (by decide +kernel)) ggX4_way_X4_riderTells
theorem dX4_way_0 : decode cX4_way 0 = .ok (.aload_n 0, 1) := by decide +kernel
theorem dX4_way_1 : decode cX4_way 1 = .ok (.iconst 0, 1) := by decide +kernel
theorem dX4_way_2 : decode cX4_way 2 = .ok (.putfield 55, 3) := by decide +kernel
theorem dX4_way_5 : decode cX4_way 5 = .ok (.iload_n 1, 1) := by decide +kernel
theorem dX4_way_6 : decode cX4_way 6 = .ok (.invokestatic 59, 3) := by decide +kernel
theorem dX4_way_9 : decode cX4_way 9 = .ok (.ifCond .ne 5, 3) := by decide +kernel
theorem dX4_way_12 : decode cX4_way 12 = .ok (.iconst (-1), 1) := by decide +kernel
theorem dX4_way_13 : decode cX4_way 13 = .ok (.ireturn, 1) := by decide +kernel
theorem dX4_way_14 : decode cX4_way 14 = .ok (.iload_n 2, 1) := by decide +kernel
theorem dX4_way_15 : decode cX4_way 15 = .ok (.invokestatic 63, 3) := by decide +kernel
theorem dX4_way_18 : decode cX4_way 18 = .ok (.ifCond .eq 27, 3) := by decide +kernel
theorem dX4_way_21 : decode cX4_way 21 = .ok (.iload 4, 2) := by decide +kernel
theorem dX4_way_23 : decode cX4_way 23 = .ok (.ifCond .lt 22, 3) := by decide +kernel
theorem dX4_way_26 : decode cX4_way 26 = .ok (.iload 4, 2) := by decide +kernel
theorem dX4_way_28 : decode cX4_way 28 = .ok (.bipush 24, 2) := by decide +kernel
theorem dX4_way_30 : decode cX4_way 30 = .ok (.if_icmp .gt 15, 3) := by decide +kernel
theorem dX4_way_33 : decode cX4_way 33 = .ok (.iload 5, 2) := by decide +kernel
theorem dX4_way_35 : decode cX4_way 35 = .ok (.ifCond .lt 10, 3) := by decide +kernel
theorem dX4_way_38 : decode cX4_way 38 = .ok (.iload 5, 2) := by decide +kernel
theorem dX4_way_40 : decode cX4_way 40 = .ok (.bipush 7, 2) := by decide +kernel
theorem dX4_way_42 : decode cX4_way 42 = .ok (.if_icmp .le 6, 3) := by decide +kernel
theorem dX4_way_45 : decode cX4_way 45 = .ok (.bipush (-2), 2) := by decide +kernel
theorem dX4_way_47 : decode cX4_way 47 = .ok (.ireturn, 1) := by decide +kernel
theorem dX4_way_48 : decode cX4_way 48 = .ok (.aload_n 0, 1) := by decide +kernel
theorem dX4_way_49 : decode cX4_way 49 = .ok (.getfield 13, 3) := by decide +kernel
theorem dX4_way_52 : decode cX4_way 52 = .ok (.iload_n 1, 1) := by decide +kernel
theorem dX4_way_53 : decode cX4_way 53 = .ok (.aaload, 1) := by decide +kernel
theorem dX4_way_54 : decode cX4_way 54 = .ok (.astore 6, 2) := by decide +kernel
theorem dX4_way_56 : decode cX4_way 56 = .ok (.aload 6, 2) := by decide +kernel
theorem dX4_way_58 : decode cX4_way 58 = .ok (.iload_n 2, 1) := by decide +kernel
theorem dX4_way_59 : decode cX4_way 59 = .ok (.invokevirtual 66, 3) := by decide +kernel
theorem dX4_way_62 : decode cX4_way 62 = .ok (.ifCond .eq 9, 3) := by decide +kernel
theorem dX4_way_65 : decode cX4_way 65 = .ok (.aload_n 0, 1) := by decide +kernel
theorem dX4_way_66 : decode cX4_way 66 = .ok (.iconst 2, 1) := by decide +kernel
theorem dX4_way_67 : decode cX4_way 67 = .ok (.invokevirtual 69, 3) := by decide +kernel
theorem dX4_way_70 : decode cX4_way 70 = .ok (.ireturn, 1) := by decide +kernel
theorem dX4_way_71 : decode cX4_way 71 = .ok (.aload 6, 2) := by decide +kernel
theorem dX4_way_73 : decode cX4_way 73 = .ok (.getfield 73, 3) := by decide +kernel
theorem dX4_way_76 : decode cX4_way 76 = .ok (.ifCond .ne 9, 3) := by decide +kernel
theorem dX4_way_79 : decode cX4_way 79 = .ok (.aload_n 0, 1) := by decide +kernel
theorem dX4_way_80 : decode cX4_way 80 = .ok (.iconst 1, 1) := by decide +kernel
theorem dX4_way_81 : decode cX4_way 81 = .ok (.invokevirtual 69, 3) := by decide +kernel
theorem dX4_way_84 : decode cX4_way 84 = .ok (.ireturn, 1) := by decide +kernel
theorem dX4_way_85 : decode cX4_way 85 = .ok (.aload 6, 2) := by decide +kernel
theorem dX4_way_87 : decode cX4_way 87 = .ok (.iload_n 3, 1) := by decide +kernel
theorem dX4_way_88 : decode cX4_way 88 = .ok (.iload 4, 2) := by decide +kernel
theorem dX4_way_90 : decode cX4_way 90 = .ok (.invokevirtual 77, 3) := by decide +kernel
theorem dX4_way_93 : decode cX4_way 93 = .ok (.ifCond .ne 9, 3) := by decide +kernel
theorem dX4_way_96 : decode cX4_way 96 = .ok (.aload_n 0, 1) := by decide +kernel
theorem dX4_way_97 : decode cX4_way 97 = .ok (.iconst 3, 1) := by decide +kernel
theorem dX4_way_98 : decode cX4_way 98 = .ok (.invokevirtual 69, 3) := by decide +kernel
theorem dX4_way_101 : decode cX4_way 101 = .ok (.ireturn, 1) := by decide +kernel
theorem dX4_way_102 : decode cX4_way 102 = .ok (.aload_n 0, 1) := by decide +kernel
theorem dX4_way_103 : decode cX4_way 103 = .ok (.getfield 41, 3) := by decide +kernel
theorem dX4_way_106 : decode cX4_way 106 = .ok (.invokevirtual 104, 3) := by decide +kernel
theorem dX4_way_109 : decode cX4_way 109 = .ok (.ifCond .eq 6, 3) := by decide +kernel
theorem dX4_way_112 : decode cX4_way 112 = .ok (.bipush (-3), 2) := by decide +kernel
theorem dX4_way_114 : decode cX4_way 114 = .ok (.ireturn, 1) := by decide +kernel
theorem dX4_way_115 : decode cX4_way 115 = .ok (.aload 6, 2) := by decide +kernel
theorem dX4_way_117 : decode cX4_way 117 = .ok (.iload_n 3, 1) := by decide +kernel
theorem dX4_way_118 : decode cX4_way 118 = .ok (.iload 4, 2) := by decide +kernel
theorem dX4_way_120 : decode cX4_way 120 = .ok (.invokestatic 117, 3) := by decide +kernel
theorem dX4_way_123 : decode cX4_way 123 = .ok (.ifCond .ne 6, 3) := by decide +kernel
theorem dX4_way_126 : decode cX4_way 126 = .ok (.bipush (-2), 2) := by decide +kernel
theorem dX4_way_128 : decode cX4_way 128 = .ok (.ireturn, 1) := by decide +kernel
theorem dX4_way_129 : decode cX4_way 129 = .ok (.aload_n 0, 1) := by decide +kernel
theorem dX4_way_130 : decode cX4_way 130 = .ok (.aload 6, 2) := by decide +kernel
theorem dX4_way_132 : decode cX4_way 132 = .ok (.iload_n 3, 1) := by decide +kernel
theorem dX4_way_133 : decode cX4_way 133 = .ok (.iload 4, 2) := by decide +kernel
theorem dX4_way_135 : decode cX4_way 135 = .ok (.invokevirtual 121, 3) := by decide +kernel
theorem dX4_way_138 : decode cX4_way 138 = .ok (.istore 7, 2) := by decide +kernel
theorem dX4_way_140 : decode cX4_way 140 = .ok (.iload 5, 2) := by decide +kernel
theorem dX4_way_142 : decode cX4_way 142 = .ok (.iconst 1, 1) := by decide +kernel
theorem dX4_way_143 : decode cX4_way 143 = .ok (.if_icmp .ne 6, 3) := by decide +kernel
theorem dX4_way_146 : decode cX4_way 146 = .ok (.iload 7, 2) := by decide +kernel
theorem dX4_way_148 : decode cX4_way 148 = .ok (.ireturn, 1) := by decide +kernel
theorem dX4_way_149 : decode cX4_way 149 = .ok (.iload 7, 2) := by decide +kernel
theorem dX4_way_151 : decode cX4_way 151 = .ok (.bipush (-9), 2) := by decide +kernel
theorem dX4_way_153 : decode cX4_way 153 = .ok (.if_icmp .ne 12, 3) := by decide +kernel
theorem dX4_way_156 : decode cX4_way 156 = .ok (.aload_n 0, 1) := by decide +kernel
theorem dX4_way_157 : decode cX4_way 157 = .ok (.iload 5, 2) := by decide +kernel
theorem dX4_way_159 : decode cX4_way 159 = .ok (.invokevirtual 124, 3) := by decide +kernel
theorem dX4_way_162 : decode cX4_way 162 = .ok (.goto 8, 3) := by decide +kernel
theorem dX4_way_165 : decode cX4_way 165 = .ok (.bipush (-100), 2) := by decide +kernel
theorem dX4_way_167 : decode cX4_way 167 = .ok (.iload 7, 2) := by decide +kernel
theorem dX4_way_169 : decode cX4_way 169 = .ok (.isub, 1) := by decide +kernel
theorem dX4_way_170 : decode cX4_way 170 = .ok (.ireturn, 1) := by decide +kernel
set_option maxRecDepth 20000 in
theorem ggX4_areActs_X1_at : GoodIn wsX4_areActs wsX1_at := goodIn_r _ [5, 6, 7, 8, 9, 10, 11] (by decide +kernel) (by decide +kernel)
set_option maxRecDepth 20000 in
theorem gX4_areActs_X1_at : GoodIn wsX4_areActs (wsV RX4 127 RX1 yX1_at wsX1_at) := goodIn_app (goodIn_of _ (by decide +kernel)) ggX4_areActs_X1_at
theorem dX4_areActs_0 : decode cX4_areActs 0 = .ok (.iconst 0, 1) := by decide +kernel
theorem dX4_areActs_1 : decode cX4_areActs 1 = .ok (.istore_n 3, 1) := by decide +kernel
theorem dX4_areActs_2 : decode cX4_areActs 2 = .ok (.iload_n 3, 1) := by decide +kernel
theorem dX4_areActs_3 : decode cX4_areActs 3 = .ok (.iload_n 2, 1) := by decide +kernel
theorem dX4_areActs_4 : decode cX4_areActs 4 = .ok (.if_icmp .ge 31, 3) := by decide +kernel
theorem dX4_areActs_7 : decode cX4_areActs 7 = .ok (.aload_n 0, 1) := by decide +kernel
theorem dX4_areActs_8 : decode cX4_areActs 8 = .ok (.iload_n 1, 1) := by decide +kernel
theorem dX4_areActs_9 : decode cX4_areActs 9 = .ok (.iload_n 3, 1) := by decide +kernel
theorem dX4_areActs_10 : decode cX4_areActs 10 = .ok (.iadd, 1) := by decide +kernel
theorem dX4_areActs_11 : decode cX4_areActs 11 = .ok (.invokevirtual 127, 3) := by decide +kernel
theorem dX4_areActs_14 : decode cX4_areActs 14 = .ok (.istore 4, 2) := by decide +kernel
theorem dX4_areActs_16 : decode cX4_areActs 16 = .ok (.iload 4, 2) := by decide +kernel
theorem dX4_areActs_18 : decode cX4_areActs 18 = .ok (.ifCond .lt 9, 3) := by decide +kernel
theorem dX4_areActs_21 : decode cX4_areActs 21 = .ok (.iload 4, 2) := by decide +kernel
theorem dX4_areActs_23 : decode cX4_areActs 23 = .ok (.iconst 5, 1) := by decide +kernel
theorem dX4_areActs_24 : decode cX4_areActs 24 = .ok (.if_icmp .lt 5, 3) := by decide +kernel
theorem dX4_areActs_27 : decode cX4_areActs 27 = .ok (.iconst 0, 1) := by decide +kernel
theorem dX4_areActs_28 : decode cX4_areActs 28 = .ok (.ireturn, 1) := by decide +kernel
theorem dX4_areActs_29 : decode cX4_areActs 29 = .ok (.iinc 3 1, 3) := by decide +kernel
theorem dX4_areActs_32 : decode cX4_areActs 32 = .ok (.goto (-30), 3) := by decide +kernel
theorem dX4_areActs_35 : decode cX4_areActs 35 = .ok (.iconst 1, 1) := by decide +kernel
theorem dX4_areActs_36 : decode cX4_areActs 36 = .ok (.ireturn, 1) := by decide +kernel
set_option maxRecDepth 20000 in
theorem ggX4_ride_X0_begin : GoodIn wsX4_ride wsX0_begin := goodIn_r _ [7, 8, 9, 10, 11, 12, 13, 14, 15, 67, 68, 69, 70, 71, 72, 73, 74, 75, 76, 77, 78, 79, 80] (by decide +kernel) (by decide +kernel)
set_option maxRecDepth 20000 in
theorem gX4_ride_X0_begin : GoodIn wsX4_ride (wsV RX4 130 RX0 yX0_begin wsX0_begin) := goodIn_app (goodIn_of _ (by decide +kernel)) ggX4_ride_X0_begin
set_option maxRecDepth 20000 in
theorem ggX4_ride_X1_at : GoodIn wsX4_ride wsX1_at := goodIn_r _ [20, 21, 22, 81, 82, 83, 84] (by decide +kernel) (by decide +kernel)
set_option maxRecDepth 20000 in
theorem gX4_ride_X1_at : GoodIn wsX4_ride (wsV RX4 127 RX1 yX1_at wsX1_at) := goodIn_app (goodIn_of _ (by decide +kernel)) ggX4_ride_X1_at
set_option maxRecDepth 20000 in
theorem ggX4_ride_X0_can : GoodIn wsX4_ride wsX0_can := goodIn_r _ [26, 8, 11, 27, 9, 13, 28, 29, 30, 31, 32, 33, 67, 68, 69, 70, 71, 72, 73, 74, 75, 76, 77, 78, 79, 80] (by decide +kernel) (by decide +kernel)
set_option maxRecDepth 20000 in
theorem gX4_ride_X0_can : GoodIn wsX4_ride (wsV RX4 134 RX0 yX0_can wsX0_can) := goodIn_app (goodIn_of _ (by decide +kernel)) ggX4_ride_X0_can
set_option maxRecDepth 20000 in
theorem ggX4_ride_X0_goBy : GoodIn wsX4_ride wsX0_goBy := goodIn_r _ [37, 9, 11, 8, 14, 38, 39, 40, 41, 42, 15, 10, 43, 44, 45, 13, 46, 47, 48, 6, 49, 50, 51, 52, 53, 31, 54, 33, 55, 56, 28, 29, 30, 32, 67, 68, 69, 70, 71, 72, 73, 74, 75, 76, 77, 78, 79, 80] (by decide +kernel) (by decide +kernel)
set_option maxRecDepth 20000 in
theorem gX4_ride_X0_goBy : GoodIn wsX4_ride (wsV RX4 138 RX0 yX0_goBy wsX0_goBy) := goodIn_app (goodIn_of _ (by decide +kernel)) ggX4_ride_X0_goBy
theorem dX4_ride_0 : decode cX4_ride 0 = .ok (.aload_n 0, 1) := by decide +kernel
theorem dX4_ride_1 : decode cX4_ride 1 = .ok (.getfield 20, 3) := by decide +kernel
theorem dX4_ride_4 : decode cX4_ride 4 = .ok (.aload_n 0, 1) := by decide +kernel
theorem dX4_ride_5 : decode cX4_ride 5 = .ok (.getfield 41, 3) := by decide +kernel
theorem dX4_ride_8 : decode cX4_ride 8 = .ok (.invokevirtual 130, 3) := by decide +kernel
theorem dX4_ride_11 : decode cX4_ride 11 = .ok (.iconst 0, 1) := by decide +kernel
theorem dX4_ride_12 : decode cX4_ride 12 = .ok (.istore 4, 2) := by decide +kernel
theorem dX4_ride_14 : decode cX4_ride 14 = .ok (.iload 4, 2) := by decide +kernel
theorem dX4_ride_16 : decode cX4_ride 16 = .ok (.iload_n 3, 1) := by decide +kernel
theorem dX4_ride_17 : decode cX4_ride 17 = .ok (.if_icmp .ge 51, 3) := by decide +kernel
theorem dX4_ride_20 : decode cX4_ride 20 = .ok (.aload_n 1, 1) := by decide +kernel
theorem dX4_ride_21 : decode cX4_ride 21 = .ok (.iload_n 2, 1) := by decide +kernel
theorem dX4_ride_22 : decode cX4_ride 22 = .ok (.iload 4, 2) := by decide +kernel
theorem dX4_ride_24 : decode cX4_ride 24 = .ok (.iadd, 1) := by decide +kernel
theorem dX4_ride_25 : decode cX4_ride 25 = .ok (.invokevirtual 127, 3) := by decide +kernel
theorem dX4_ride_28 : decode cX4_ride 28 = .ok (.istore 5, 2) := by decide +kernel
theorem dX4_ride_30 : decode cX4_ride 30 = .ok (.aload_n 0, 1) := by decide +kernel
theorem dX4_ride_31 : decode cX4_ride 31 = .ok (.getfield 20, 3) := by decide +kernel
theorem dX4_ride_34 : decode cX4_ride 34 = .ok (.aload_n 0, 1) := by decide +kernel
theorem dX4_ride_35 : decode cX4_ride 35 = .ok (.getfield 41, 3) := by decide +kernel
theorem dX4_ride_38 : decode cX4_ride 38 = .ok (.iload 5, 2) := by decide +kernel
theorem dX4_ride_40 : decode cX4_ride 40 = .ok (.invokevirtual 134, 3) := by decide +kernel
theorem dX4_ride_43 : decode cX4_ride 43 = .ok (.ifCond .ne 6, 3) := by decide +kernel
theorem dX4_ride_46 : decode cX4_ride 46 = .ok (.iload 4, 2) := by decide +kernel
theorem dX4_ride_48 : decode cX4_ride 48 = .ok (.ireturn, 1) := by decide +kernel
theorem dX4_ride_49 : decode cX4_ride 49 = .ok (.aload_n 0, 1) := by decide +kernel
theorem dX4_ride_50 : decode cX4_ride 50 = .ok (.getfield 20, 3) := by decide +kernel
theorem dX4_ride_53 : decode cX4_ride 53 = .ok (.aload_n 0, 1) := by decide +kernel
theorem dX4_ride_54 : decode cX4_ride 54 = .ok (.getfield 41, 3) := by decide +kernel
theorem dX4_ride_57 : decode cX4_ride 57 = .ok (.iload 5, 2) := by decide +kernel
theorem dX4_ride_59 : decode cX4_ride 59 = .ok (.invokevirtual 138, 3) := by decide +kernel
theorem dX4_ride_62 : decode cX4_ride 62 = .ok (.iinc 4 1, 3) := by decide +kernel
theorem dX4_ride_65 : decode cX4_ride 65 = .ok (.goto (-51), 3) := by decide +kernel
theorem dX4_ride_68 : decode cX4_ride 68 = .ok (.bipush (-9), 2) := by decide +kernel
theorem dX4_ride_70 : decode cX4_ride 70 = .ok (.ireturn, 1) := by decide +kernel
theorem dX4_riderTells_0 : decode cX4_riderTells 0 = .ok (.iload_n 1, 1) := by decide +kernel
theorem dX4_riderTells_1 : decode cX4_riderTells 1 = .ok (.tableswitch 91 0 6 #[43, 91, 51, 59, 67, 75, 83], 43) := by decide +kernel
theorem dX4_riderTells_44 : decode cX4_riderTells 44 = .ok (.aload_n 0, 1) := by decide +kernel
theorem dX4_riderTells_45 : decode cX4_riderTells 45 = .ok (.getfield 20, 3) := by decide +kernel
theorem dX4_riderTells_48 : decode cX4_riderTells 48 = .ok (.getfield 142, 3) := by decide +kernel
theorem dX4_riderTells_51 : decode cX4_riderTells 51 = .ok (.ireturn, 1) := by decide +kernel
theorem dX4_riderTells_52 : decode cX4_riderTells 52 = .ok (.aload_n 0, 1) := by decide +kernel
theorem dX4_riderTells_53 : decode cX4_riderTells 53 = .ok (.getfield 20, 3) := by decide +kernel
theorem dX4_riderTells_56 : decode cX4_riderTells 56 = .ok (.getfield 145, 3) := by decide +kernel
theorem dX4_riderTells_59 : decode cX4_riderTells 59 = .ok (.ireturn, 1) := by decide +kernel
theorem dX4_riderTells_60 : decode cX4_riderTells 60 = .ok (.aload_n 0, 1) := by decide +kernel
theorem dX4_riderTells_61 : decode cX4_riderTells 61 = .ok (.getfield 20, 3) := by decide +kernel
theorem dX4_riderTells_64 : decode cX4_riderTells 64 = .ok (.getfield 148, 3) := by decide +kernel
theorem dX4_riderTells_67 : decode cX4_riderTells 67 = .ok (.ireturn, 1) := by decide +kernel
theorem dX4_riderTells_68 : decode cX4_riderTells 68 = .ok (.aload_n 0, 1) := by decide +kernel
theorem dX4_riderTells_69 : decode cX4_riderTells 69 = .ok (.getfield 20, 3) := by decide +kernel
theorem dX4_riderTells_72 : decode cX4_riderTells 72 = .ok (.getfield 151, 3) := by decide +kernel
theorem dX4_riderTells_75 : decode cX4_riderTells 75 = .ok (.ireturn, 1) := by decide +kernel
theorem dX4_riderTells_76 : decode cX4_riderTells 76 = .ok (.aload_n 0, 1) := by decide +kernel
theorem dX4_riderTells_77 : decode cX4_riderTells 77 = .ok (.getfield 20, 3) := by decide +kernel
theorem dX4_riderTells_80 : decode cX4_riderTells 80 = .ok (.getfield 154, 3) := by decide +kernel
theorem dX4_riderTells_83 : decode cX4_riderTells 83 = .ok (.ireturn, 1) := by decide +kernel
theorem dX4_riderTells_84 : decode cX4_riderTells 84 = .ok (.aload_n 0, 1) := by decide +kernel
theorem dX4_riderTells_85 : decode cX4_riderTells 85 = .ok (.getfield 20, 3) := by decide +kernel
theorem dX4_riderTells_88 : decode cX4_riderTells 88 = .ok (.getfield 157, 3) := by decide +kernel
theorem dX4_riderTells_91 : decode cX4_riderTells 91 = .ok (.ireturn, 1) := by decide +kernel
theorem dX4_riderTells_92 : decode cX4_riderTells 92 = .ok (.aload_n 0, 1) := by decide +kernel
theorem dX4_riderTells_93 : decode cX4_riderTells 93 = .ok (.getfield 20, 3) := by decide +kernel
theorem dX4_riderTells_96 : decode cX4_riderTells 96 = .ok (.getfield 160, 3) := by decide +kernel
theorem dX4_riderTells_99 : decode cX4_riderTells 99 = .ok (.ireturn, 1) := by decide +kernel
set_option maxRecDepth 20000 in
theorem ggX4_sheet_X4_isSheet : GoodIn wsX4_sheet wsX4_isSheet := goodIn_r _ [6] (by decide +kernel) (by decide +kernel)
set_option maxRecDepth 20000 in
theorem gX4_sheet_X4_isSheet : GoodIn wsX4_sheet (va_wsS RX4 59 yX4_isSheet wsX4_isSheet) := goodIn_app (goodIn_of _ (by decide +kernel)) ggX4_sheet_X4_isSheet
set_option maxRecDepth 20000 in
theorem ggX4_sheet_X4_isLane : GoodIn wsX4_sheet wsX4_isLane := goodIn_r _ [9] (by decide +kernel) (by decide +kernel)
set_option maxRecDepth 20000 in
theorem gX4_sheet_X4_isLane : GoodIn wsX4_sheet (va_wsS RX4 63 yX4_isLane wsX4_isLane) := goodIn_app (goodIn_of _ (by decide +kernel)) ggX4_sheet_X4_isLane
set_option maxRecDepth 20000 in
theorem ggX4_sheet_X4_failed : GoodIn wsX4_sheet wsX4_failed := goodIn_r _ [13, 1, 34, 35, 36, 37, 38, 39, 40, 41, 42, 43] (by decide +kernel) (by decide +kernel)
set_option maxRecDepth 20000 in
theorem gX4_sheet_X4_failed : GoodIn wsX4_sheet (wsV RX4 69 RX4 yX4_failed wsX4_failed) := goodIn_app (goodIn_of _ (by decide +kernel)) ggX4_sheet_X4_failed
set_option maxRecDepth 20000 in
theorem ggX4_sheet_X1_becomeNew : GoodIn wsX4_sheet wsX1_becomeNew := goodIn_r _ [18, 19, 20, 21, 22, 23, 24, 25, 26, 27, 28, 29, 30, 31, 32, 33, 44, 45, 46, 47] (by decide +kernel) (by decide +kernel)
set_option maxRecDepth 20000 in
theorem gX4_sheet_X1_becomeNew : GoodIn wsX4_sheet (wsV RX4 183 RX1 yX1_becomeNew wsX1_becomeNew) := goodIn_app (goodIn_of _ (by decide +kernel)) ggX4_sheet_X1_becomeNew
theorem dX4_sheet_0 : decode cX4_sheet 0 = .ok (.aload_n 0, 1) := by decide +kernel
theorem dX4_sheet_1 : decode cX4_sheet 1 = .ok (.iconst 0, 1) := by decide +kernel
theorem dX4_sheet_2 : decode cX4_sheet 2 = .ok (.putfield 55, 3) := by decide +kernel
theorem dX4_sheet_5 : decode cX4_sheet 5 = .ok (.iload_n 1, 1) := by decide +kernel
theorem dX4_sheet_6 : decode cX4_sheet 6 = .ok (.invokestatic 59, 3) := by decide +kernel
theorem dX4_sheet_9 : decode cX4_sheet 9 = .ok (.ifCond .ne 5, 3) := by decide +kernel
theorem dX4_sheet_12 : decode cX4_sheet 12 = .ok (.iconst (-1), 1) := by decide +kernel
theorem dX4_sheet_13 : decode cX4_sheet 13 = .ok (.ireturn, 1) := by decide +kernel
theorem dX4_sheet_14 : decode cX4_sheet 14 = .ok (.iload_n 2, 1) := by decide +kernel
theorem dX4_sheet_15 : decode cX4_sheet 15 = .ok (.invokestatic 63, 3) := by decide +kernel
theorem dX4_sheet_18 : decode cX4_sheet 18 = .ok (.ifCond .eq 9, 3) := by decide +kernel
theorem dX4_sheet_21 : decode cX4_sheet 21 = .ok (.iload_n 3, 1) := by decide +kernel
theorem dX4_sheet_22 : decode cX4_sheet 22 = .ok (.bipush 60, 2) := by decide +kernel
theorem dX4_sheet_24 : decode cX4_sheet 24 = .ok (.if_icmp .le 6, 3) := by decide +kernel
theorem dX4_sheet_27 : decode cX4_sheet 27 = .ok (.bipush (-2), 2) := by decide +kernel
theorem dX4_sheet_29 : decode cX4_sheet 29 = .ok (.ireturn, 1) := by decide +kernel
theorem dX4_sheet_30 : decode cX4_sheet 30 = .ok (.iload_n 3, 1) := by decide +kernel
theorem dX4_sheet_31 : decode cX4_sheet 31 = .ok (.ifCond .ge 9, 3) := by decide +kernel
theorem dX4_sheet_34 : decode cX4_sheet 34 = .ok (.aload_n 0, 1) := by decide +kernel
theorem dX4_sheet_35 : decode cX4_sheet 35 = .ok (.iconst 4, 1) := by decide +kernel
theorem dX4_sheet_36 : decode cX4_sheet 36 = .ok (.invokevirtual 69, 3) := by decide +kernel
theorem dX4_sheet_39 : decode cX4_sheet 39 = .ok (.ireturn, 1) := by decide +kernel
theorem dX4_sheet_40 : decode cX4_sheet 40 = .ok (.aload_n 0, 1) := by decide +kernel
theorem dX4_sheet_41 : decode cX4_sheet 41 = .ok (.getfield 13, 3) := by decide +kernel
theorem dX4_sheet_44 : decode cX4_sheet 44 = .ok (.iload_n 1, 1) := by decide +kernel
theorem dX4_sheet_45 : decode cX4_sheet 45 = .ok (.aaload, 1) := by decide +kernel
theorem dX4_sheet_46 : decode cX4_sheet 46 = .ok (.iload_n 2, 1) := by decide +kernel
theorem dX4_sheet_47 : decode cX4_sheet 47 = .ok (.iload_n 3, 1) := by decide +kernel
theorem dX4_sheet_48 : decode cX4_sheet 48 = .ok (.invokevirtual 183, 3) := by decide +kernel
theorem dX4_sheet_51 : decode cX4_sheet 51 = .ok (.iconst 1, 1) := by decide +kernel
theorem dX4_sheet_52 : decode cX4_sheet 52 = .ok (.ireturn, 1) := by decide +kernel
set_option maxRecDepth 20000 in
theorem ggX4_put_X4_isSheet : GoodIn wsX4_put wsX4_isSheet := goodIn_r _ [7] (by decide +kernel) (by decide +kernel)
set_option maxRecDepth 20000 in
theorem gX4_put_X4_isSheet : GoodIn wsX4_put (va_wsS RX4 59 yX4_isSheet wsX4_isSheet) := goodIn_app (goodIn_of _ (by decide +kernel)) ggX4_put_X4_isSheet
set_option maxRecDepth 20000 in
theorem ggX4_put_X4_failed : GoodIn wsX4_put wsX4_failed := goodIn_r _ [11, 1, 28, 29, 30, 31, 32, 33, 34, 35, 36, 37] (by decide +kernel) (by decide +kernel)
set_option maxRecDepth 20000 in
theorem gX4_put_X4_failed : GoodIn wsX4_put (wsV RX4 69 RX4 yX4_failed wsX4_failed) := goodIn_app (goodIn_of _ (by decide +kernel)) ggX4_put_X4_failed
set_option maxRecDepth 20000 in
theorem ggX4_put_X1_holds : GoodIn wsX4_put wsX1_holds := goodIn_r _ [16, 17, 38, 39, 40, 41] (by decide +kernel) (by decide +kernel)
set_option maxRecDepth 20000 in
theorem gX4_put_X1_holds : GoodIn wsX4_put (wsV RX4 77 RX1 yX1_holds wsX1_holds) := goodIn_app (goodIn_of _ (by decide +kernel)) ggX4_put_X1_holds
set_option maxRecDepth 20000 in
theorem ggX4_put_X1_keep : GoodIn wsX4_put wsX1_keep := goodIn_r _ [21, 17, 22, 23, 24, 25, 15, 26, 27, 38, 39, 40, 41] (by decide +kernel) (by decide +kernel)
set_option maxRecDepth 20000 in
theorem gX4_put_X1_keep : GoodIn wsX4_put (wsV RX4 187 RX1 yX1_keep wsX1_keep) := goodIn_app (goodIn_of _ (by decide +kernel)) ggX4_put_X1_keep
theorem dX4_put_0 : decode cX4_put 0 = .ok (.aload_n 0, 1) := by decide +kernel
theorem dX4_put_1 : decode cX4_put 1 = .ok (.iconst 0, 1) := by decide +kernel
theorem dX4_put_2 : decode cX4_put 2 = .ok (.putfield 55, 3) := by decide +kernel
theorem dX4_put_5 : decode cX4_put 5 = .ok (.iload_n 1, 1) := by decide +kernel
theorem dX4_put_6 : decode cX4_put 6 = .ok (.invokestatic 59, 3) := by decide +kernel
theorem dX4_put_9 : decode cX4_put 9 = .ok (.ifCond .ne 5, 3) := by decide +kernel
theorem dX4_put_12 : decode cX4_put 12 = .ok (.iconst (-1), 1) := by decide +kernel
theorem dX4_put_13 : decode cX4_put 13 = .ok (.ireturn, 1) := by decide +kernel
theorem dX4_put_14 : decode cX4_put 14 = .ok (.aload_n 0, 1) := by decide +kernel
theorem dX4_put_15 : decode cX4_put 15 = .ok (.getfield 13, 3) := by decide +kernel
theorem dX4_put_18 : decode cX4_put 18 = .ok (.iload_n 1, 1) := by decide +kernel
theorem dX4_put_19 : decode cX4_put 19 = .ok (.aaload, 1) := by decide +kernel
theorem dX4_put_20 : decode cX4_put 20 = .ok (.astore 4, 2) := by decide +kernel
theorem dX4_put_22 : decode cX4_put 22 = .ok (.aload 4, 2) := by decide +kernel
theorem dX4_put_24 : decode cX4_put 24 = .ok (.getfield 73, 3) := by decide +kernel
theorem dX4_put_27 : decode cX4_put 27 = .ok (.ifCond .ne 9, 3) := by decide +kernel
theorem dX4_put_30 : decode cX4_put 30 = .ok (.aload_n 0, 1) := by decide +kernel
theorem dX4_put_31 : decode cX4_put 31 = .ok (.iconst 1, 1) := by decide +kernel
theorem dX4_put_32 : decode cX4_put 32 = .ok (.invokevirtual 69, 3) := by decide +kernel
theorem dX4_put_35 : decode cX4_put 35 = .ok (.ireturn, 1) := by decide +kernel
theorem dX4_put_36 : decode cX4_put 36 = .ok (.aload 4, 2) := by decide +kernel
theorem dX4_put_38 : decode cX4_put 38 = .ok (.iload_n 2, 1) := by decide +kernel
theorem dX4_put_39 : decode cX4_put 39 = .ok (.iconst 1, 1) := by decide +kernel
theorem dX4_put_40 : decode cX4_put 40 = .ok (.invokevirtual 77, 3) := by decide +kernel
theorem dX4_put_43 : decode cX4_put 43 = .ok (.ifCond .ne 9, 3) := by decide +kernel
