theorem dX0_init_0 : decode cX0_init 0 = .ok (.aload_n 0, 1) := by decide +kernel
theorem dX0_init_1 : decode cX0_init 1 = .ok (.invokespecial 3, 3) := by decide +kernel
theorem dX0_init_4 : decode cX0_init 4 = .ok (.aload_n 0, 1) := by decide +kernel
theorem dX0_init_5 : decode cX0_init 5 = .ok (.bipush 8, 2) := by decide +kernel
theorem dX0_init_7 : decode cX0_init 7 = .ok (.newarray .int, 2) := by decide +kernel
theorem dX0_init_9 : decode cX0_init 9 = .ok (.putfield 9, 3) := by decide +kernel
theorem dX0_init_12 : decode cX0_init 12 = .ok (.return_, 1) := by decide +kernel
theorem dX0_tell_0 : decode cX0_tell 0 = .ok (.aload_n 0, 1) := by decide +kernel
theorem dX0_tell_1 : decode cX0_tell 1 = .ok (.iconst 1, 1) := by decide +kernel
theorem dX0_tell_2 : decode cX0_tell 2 = .ok (.putfield 15, 3) := by decide +kernel
theorem dX0_tell_5 : decode cX0_tell 5 = .ok (.aload_n 0, 1) := by decide +kernel
theorem dX0_tell_6 : decode cX0_tell 6 = .ok (.iload_n 1, 1) := by decide +kernel
theorem dX0_tell_7 : decode cX0_tell 7 = .ok (.putfield 19, 3) := by decide +kernel
theorem dX0_tell_10 : decode cX0_tell 10 = .ok (.aload_n 0, 1) := by decide +kernel
theorem dX0_tell_11 : decode cX0_tell 11 = .ok (.iload_n 2, 1) := by decide +kernel
theorem dX0_tell_12 : decode cX0_tell 12 = .ok (.putfield 23, 3) := by decide +kernel
theorem dX0_tell_15 : decode cX0_tell 15 = .ok (.aload_n 0, 1) := by decide +kernel
theorem dX0_tell_16 : decode cX0_tell 16 = .ok (.iload_n 3, 1) := by decide +kernel
theorem dX0_tell_17 : decode cX0_tell 17 = .ok (.putfield 26, 3) := by decide +kernel
theorem dX0_tell_20 : decode cX0_tell 20 = .ok (.return_, 1) := by decide +kernel
theorem dX0_isSlot_0 : decode cX0_isSlot 0 = .ok (.aload_n 0, 1) := by decide +kernel
theorem dX0_isSlot_1 : decode cX0_isSlot 1 = .ok (.getfield 26, 3) := by decide +kernel
theorem dX0_isSlot_4 : decode cX0_isSlot 4 = .ok (.ifCond .ne 7, 3) := by decide +kernel
theorem dX0_isSlot_7 : decode cX0_isSlot 7 = .ok (.iconst 1, 1) := by decide +kernel
theorem dX0_isSlot_8 : decode cX0_isSlot 8 = .ok (.goto 4, 3) := by decide +kernel
theorem dX0_isSlot_11 : decode cX0_isSlot 11 = .ok (.iconst 0, 1) := by decide +kernel
theorem dX0_isSlot_12 : decode cX0_isSlot 12 = .ok (.ireturn, 1) := by decide +kernel
set_option maxRecDepth 20000 in
theorem ggX0_put_X0_isSlot : GoodIn wsX0_put wsX0_isSlot := goodIn_r _ [11, 4, 17, 18, 19, 20, 21, 22, 23, 24, 25, 26] (by decide +kernel) (by decide +kernel)
set_option maxRecDepth 20000 in
theorem gX0_put_X0_isSlot : GoodIn wsX0_put (wsV RX0 29 RX0 yX0_isSlot wsX0_isSlot) := goodIn_app (goodIn_of _ (by decide +kernel)) ggX0_put_X0_isSlot
set_option maxRecDepth 20000 in
theorem ggX0_put_X0_spotOf : GoodIn wsX0_put wsX0_spotOf := goodIn_r _ [15, 16, 17, 18, 19, 20, 21, 22, 23, 24, 25, 26] (by decide +kernel) (by decide +kernel)
set_option maxRecDepth 20000 in
theorem gX0_put_X0_spotOf : GoodIn wsX0_put (wsV RX0 39 RX0 yX0_spotOf wsX0_spotOf) := goodIn_app (goodIn_of _ (by decide +kernel)) ggX0_put_X0_spotOf
theorem dX0_put_0 : decode cX0_put 0 = .ok (.aload_n 0, 1) := by decide +kernel
theorem dX0_put_1 : decode cX0_put 1 = .ok (.invokevirtual 29, 3) := by decide +kernel
theorem dX0_put_4 : decode cX0_put 4 = .ok (.ifCond .eq 23, 3) := by decide +kernel
theorem dX0_put_7 : decode cX0_put 7 = .ok (.aload_n 0, 1) := by decide +kernel
theorem dX0_put_8 : decode cX0_put 8 = .ok (.getfield 9, 3) := by decide +kernel
theorem dX0_put_11 : decode cX0_put 11 = .ok (.iconst 0, 1) := by decide +kernel
theorem dX0_put_12 : decode cX0_put 12 = .ok (.iload_n 1, 1) := by decide +kernel
theorem dX0_put_13 : decode cX0_put 13 = .ok (.iastore, 1) := by decide +kernel
theorem dX0_put_14 : decode cX0_put 14 = .ok (.aload_n 0, 1) := by decide +kernel
theorem dX0_put_15 : decode cX0_put 15 = .ok (.iconst 1, 1) := by decide +kernel
theorem dX0_put_16 : decode cX0_put 16 = .ok (.putfield 33, 3) := by decide +kernel
theorem dX0_put_19 : decode cX0_put 19 = .ok (.aload_n 0, 1) := by decide +kernel
theorem dX0_put_20 : decode cX0_put 20 = .ok (.iload_n 2, 1) := by decide +kernel
theorem dX0_put_21 : decode cX0_put 21 = .ok (.putfield 36, 3) := by decide +kernel
theorem dX0_put_24 : decode cX0_put 24 = .ok (.goto 53, 3) := by decide +kernel
theorem dX0_put_27 : decode cX0_put 27 = .ok (.aload_n 0, 1) := by decide +kernel
theorem dX0_put_28 : decode cX0_put 28 = .ok (.getfield 33, 3) := by decide +kernel
theorem dX0_put_31 : decode cX0_put 31 = .ok (.aload_n 0, 1) := by decide +kernel
theorem dX0_put_32 : decode cX0_put 32 = .ok (.getfield 26, 3) := by decide +kernel
theorem dX0_put_35 : decode cX0_put 35 = .ok (.if_icmp .ge 30, 3) := by decide +kernel
theorem dX0_put_38 : decode cX0_put 38 = .ok (.aload_n 0, 1) := by decide +kernel
theorem dX0_put_39 : decode cX0_put 39 = .ok (.getfield 9, 3) := by decide +kernel
theorem dX0_put_42 : decode cX0_put 42 = .ok (.aload_n 0, 1) := by decide +kernel
theorem dX0_put_43 : decode cX0_put 43 = .ok (.aload_n 0, 1) := by decide +kernel
theorem dX0_put_44 : decode cX0_put 44 = .ok (.getfield 33, 3) := by decide +kernel
theorem dX0_put_47 : decode cX0_put 47 = .ok (.invokevirtual 39, 3) := by decide +kernel
theorem dX0_put_50 : decode cX0_put 50 = .ok (.iload_n 1, 1) := by decide +kernel
theorem dX0_put_51 : decode cX0_put 51 = .ok (.iastore, 1) := by decide +kernel
theorem dX0_put_52 : decode cX0_put 52 = .ok (.aload_n 0, 1) := by decide +kernel
theorem dX0_put_53 : decode cX0_put 53 = .ok (.dup, 1) := by decide +kernel
theorem dX0_put_54 : decode cX0_put 54 = .ok (.getfield 33, 3) := by decide +kernel
theorem dX0_put_57 : decode cX0_put 57 = .ok (.iconst 1, 1) := by decide +kernel
theorem dX0_put_58 : decode cX0_put 58 = .ok (.iadd, 1) := by decide +kernel
theorem dX0_put_59 : decode cX0_put 59 = .ok (.putfield 33, 3) := by decide +kernel
theorem dX0_put_62 : decode cX0_put 62 = .ok (.goto 15, 3) := by decide +kernel
theorem dX0_put_65 : decode cX0_put 65 = .ok (.aload_n 0, 1) := by decide +kernel
theorem dX0_put_66 : decode cX0_put 66 = .ok (.dup, 1) := by decide +kernel
theorem dX0_put_67 : decode cX0_put 67 = .ok (.getfield 43, 3) := by decide +kernel
theorem dX0_put_70 : decode cX0_put 70 = .ok (.iconst 1, 1) := by decide +kernel
theorem dX0_put_71 : decode cX0_put 71 = .ok (.iadd, 1) := by decide +kernel
theorem dX0_put_72 : decode cX0_put 72 = .ok (.putfield 43, 3) := by decide +kernel
theorem dX0_put_75 : decode cX0_put 75 = .ok (.iconst 0, 1) := by decide +kernel
theorem dX0_put_76 : decode cX0_put 76 = .ok (.ireturn, 1) := by decide +kernel
theorem dX0_put_77 : decode cX0_put 77 = .ok (.aload_n 0, 1) := by decide +kernel
theorem dX0_put_78 : decode cX0_put 78 = .ok (.dup, 1) := by decide +kernel
theorem dX0_put_79 : decode cX0_put 79 = .ok (.getfield 46, 3) := by decide +kernel
theorem dX0_put_82 : decode cX0_put 82 = .ok (.iconst 1, 1) := by decide +kernel
theorem dX0_put_83 : decode cX0_put 83 = .ok (.iadd, 1) := by decide +kernel
theorem dX0_put_84 : decode cX0_put 84 = .ok (.putfield 46, 3) := by decide +kernel
theorem dX0_put_87 : decode cX0_put 87 = .ok (.iconst 1, 1) := by decide +kernel
theorem dX0_put_88 : decode cX0_put 88 = .ok (.ireturn, 1) := by decide +kernel
set_option maxRecDepth 20000 in
theorem ggX0_dropTaken_X0_isSlot : GoodIn wsX0_dropTaken wsX0_isSlot := goodIn_r _ [7, 8, 13, 14, 15, 16, 17, 18, 19, 20, 21, 22] (by decide +kernel) (by decide +kernel)
set_option maxRecDepth 20000 in
theorem gX0_dropTaken_X0_isSlot : GoodIn wsX0_dropTaken (wsV RX0 29 RX0 yX0_isSlot wsX0_isSlot) := goodIn_app (goodIn_of _ (by decide +kernel)) ggX0_dropTaken_X0_isSlot
set_option maxRecDepth 20000 in
theorem ggX0_dropTaken_X0_spotOf : GoodIn wsX0_dropTaken wsX0_spotOf := goodIn_r _ [12, 2, 13, 14, 15, 16, 17, 18, 19, 20, 21, 22] (by decide +kernel) (by decide +kernel)
set_option maxRecDepth 20000 in
theorem gX0_dropTaken_X0_spotOf : GoodIn wsX0_dropTaken (wsV RX0 39 RX0 yX0_spotOf wsX0_spotOf) := goodIn_app (goodIn_of _ (by decide +kernel)) ggX0_dropTaken_X0_spotOf
theorem dX0_dropTaken_0 : decode cX0_dropTaken 0 = .ok (.aload_n 0, 1) := by decide +kernel
theorem dX0_dropTaken_1 : decode cX0_dropTaken 1 = .ok (.invokevirtual 29, 3) := by decide +kernel
theorem dX0_dropTaken_4 : decode cX0_dropTaken 4 = .ok (.ifCond .ne 29, 3) := by decide +kernel
theorem dX0_dropTaken_7 : decode cX0_dropTaken 7 = .ok (.aload_n 0, 1) := by decide +kernel
theorem dX0_dropTaken_8 : decode cX0_dropTaken 8 = .ok (.getfield 33, 3) := by decide +kernel
theorem dX0_dropTaken_11 : decode cX0_dropTaken 11 = .ok (.ifCond .le 22, 3) := by decide +kernel
theorem dX0_dropTaken_14 : decode cX0_dropTaken 14 = .ok (.aload_n 0, 1) := by decide +kernel
theorem dX0_dropTaken_15 : decode cX0_dropTaken 15 = .ok (.aload_n 0, 1) := by decide +kernel
theorem dX0_dropTaken_16 : decode cX0_dropTaken 16 = .ok (.iconst 1, 1) := by decide +kernel
theorem dX0_dropTaken_17 : decode cX0_dropTaken 17 = .ok (.invokevirtual 39, 3) := by decide +kernel
theorem dX0_dropTaken_20 : decode cX0_dropTaken 20 = .ok (.putfield 49, 3) := by decide +kernel
theorem dX0_dropTaken_23 : decode cX0_dropTaken 23 = .ok (.aload_n 0, 1) := by decide +kernel
theorem dX0_dropTaken_24 : decode cX0_dropTaken 24 = .ok (.dup, 1) := by decide +kernel
theorem dX0_dropTaken_25 : decode cX0_dropTaken 25 = .ok (.getfield 33, 3) := by decide +kernel
theorem dX0_dropTaken_28 : decode cX0_dropTaken 28 = .ok (.iconst 1, 1) := by decide +kernel
theorem dX0_dropTaken_29 : decode cX0_dropTaken 29 = .ok (.isub, 1) := by decide +kernel
theorem dX0_dropTaken_30 : decode cX0_dropTaken 30 = .ok (.putfield 33, 3) := by decide +kernel
theorem dX0_dropTaken_33 : decode cX0_dropTaken 33 = .ok (.return_, 1) := by decide +kernel
set_option maxRecDepth 20000 in
theorem ggX0_wordAt_X0_spotOf : GoodIn wsX0_wordAt wsX0_spotOf := goodIn_r _ [7, 8, 9, 10, 11, 12, 13, 14, 15, 16, 17, 18] (by decide +kernel) (by decide +kernel)
set_option maxRecDepth 20000 in
theorem gX0_wordAt_X0_spotOf : GoodIn wsX0_wordAt (wsV RX0 39 RX0 yX0_spotOf wsX0_spotOf) := goodIn_app (goodIn_of _ (by decide +kernel)) ggX0_wordAt_X0_spotOf
theorem dX0_wordAt_0 : decode cX0_wordAt 0 = .ok (.iload_n 1, 1) := by decide +kernel
theorem dX0_wordAt_1 : decode cX0_wordAt 1 = .ok (.ifCond .lt 24, 3) := by decide +kernel
theorem dX0_wordAt_4 : decode cX0_wordAt 4 = .ok (.iload_n 1, 1) := by decide +kernel
theorem dX0_wordAt_5 : decode cX0_wordAt 5 = .ok (.aload_n 0, 1) := by decide +kernel
theorem dX0_wordAt_6 : decode cX0_wordAt 6 = .ok (.getfield 33, 3) := by decide +kernel
theorem dX0_wordAt_9 : decode cX0_wordAt 9 = .ok (.if_icmp .ge 16, 3) := by decide +kernel
theorem dX0_wordAt_12 : decode cX0_wordAt 12 = .ok (.aload_n 0, 1) := by decide +kernel
theorem dX0_wordAt_13 : decode cX0_wordAt 13 = .ok (.getfield 9, 3) := by decide +kernel
theorem dX0_wordAt_16 : decode cX0_wordAt 16 = .ok (.aload_n 0, 1) := by decide +kernel
theorem dX0_wordAt_17 : decode cX0_wordAt 17 = .ok (.iload_n 1, 1) := by decide +kernel
theorem dX0_wordAt_18 : decode cX0_wordAt 18 = .ok (.invokevirtual 39, 3) := by decide +kernel
theorem dX0_wordAt_21 : decode cX0_wordAt 21 = .ok (.iaload, 1) := by decide +kernel
theorem dX0_wordAt_22 : decode cX0_wordAt 22 = .ok (.goto 4, 3) := by decide +kernel
theorem dX0_wordAt_25 : decode cX0_wordAt 25 = .ok (.iconst 0, 1) := by decide +kernel
theorem dX0_wordAt_26 : decode cX0_wordAt 26 = .ok (.ireturn, 1) := by decide +kernel
theorem dX0_spotOf_0 : decode cX0_spotOf 0 = .ok (.aload_n 0, 1) := by decide +kernel
theorem dX0_spotOf_1 : decode cX0_spotOf 1 = .ok (.getfield 49, 3) := by decide +kernel
theorem dX0_spotOf_4 : decode cX0_spotOf 4 = .ok (.iload_n 1, 1) := by decide +kernel
theorem dX0_spotOf_5 : decode cX0_spotOf 5 = .ok (.iadd, 1) := by decide +kernel
theorem dX0_spotOf_6 : decode cX0_spotOf 6 = .ok (.bipush 7, 2) := by decide +kernel
theorem dX0_spotOf_8 : decode cX0_spotOf 8 = .ok (.iand, 1) := by decide +kernel
theorem dX0_spotOf_9 : decode cX0_spotOf 9 = .ok (.ireturn, 1) := by decide +kernel
set_option maxRecDepth 20000 in
theorem ggX0_age_X0_isSlot : GoodIn wsX0_age wsX0_isSlot := goodIn_r _ [12, 13, 14, 15, 16, 17, 18, 19, 20, 21, 22, 23] (by decide +kernel) (by decide +kernel)
set_option maxRecDepth 20000 in
theorem gX0_age_X0_isSlot : GoodIn wsX0_age (wsV RX0 29 RX0 yX0_isSlot wsX0_isSlot) := goodIn_app (goodIn_of _ (by decide +kernel)) ggX0_age_X0_isSlot
theorem dX0_age_0 : decode cX0_age 0 = .ok (.aload_n 0, 1) := by decide +kernel
theorem dX0_age_1 : decode cX0_age 1 = .ok (.invokevirtual 29, 3) := by decide +kernel
theorem dX0_age_4 : decode cX0_age 4 = .ok (.ifCond .eq 24, 3) := by decide +kernel
theorem dX0_age_7 : decode cX0_age 7 = .ok (.aload_n 0, 1) := by decide +kernel
theorem dX0_age_8 : decode cX0_age 8 = .ok (.getfield 33, 3) := by decide +kernel
theorem dX0_age_11 : decode cX0_age 11 = .ok (.ifCond .le 17, 3) := by decide +kernel
theorem dX0_age_14 : decode cX0_age 14 = .ok (.iload_n 1, 1) := by decide +kernel
theorem dX0_age_15 : decode cX0_age 15 = .ok (.aload_n 0, 1) := by decide +kernel
theorem dX0_age_16 : decode cX0_age 16 = .ok (.getfield 36, 3) := by decide +kernel
theorem dX0_age_19 : decode cX0_age 19 = .ok (.isub, 1) := by decide +kernel
theorem dX0_age_20 : decode cX0_age 20 = .ok (.ldc 52, 2) := by decide +kernel
theorem dX0_age_22 : decode cX0_age 22 = .ok (.invokestatic 53, 3) := by decide +kernel
theorem dX0_age_25 : decode cX0_age 25 = .ok (.goto 4, 3) := by decide +kernel
theorem dX0_age_28 : decode cX0_age 28 = .ok (.iconst 0, 1) := by decide +kernel
theorem dX0_age_29 : decode cX0_age 29 = .ok (.ireturn, 1) := by decide +kernel
set_option maxRecDepth 20000 in
theorem ggX0_report_X0_wordAt : GoodIn wsX0_report wsX0_wordAt := goodIn_r _ [8, 1, 9, 10, 11, 12, 7, 13, 14, 30, 31, 32, 33, 34, 35, 36, 37, 38, 39] (by decide +kernel) (by decide +kernel)
set_option maxRecDepth 20000 in
theorem gX0_report_X0_wordAt : GoodIn wsX0_report (wsV RX0 59 RX0 yX0_wordAt wsX0_wordAt) := goodIn_app (goodIn_of _ (by decide +kernel)) ggX0_report_X0_wordAt
set_option maxRecDepth 20000 in
theorem ggX0_report_X0_age : GoodIn wsX0_report wsX0_age := goodIn_r _ [18, 1, 19, 20, 21, 22, 23, 24, 25, 26, 27, 7, 28, 29, 30, 31, 32, 33, 34, 35, 36, 37, 38, 39] (by decide +kernel) (by decide +kernel)
set_option maxRecDepth 20000 in
theorem gX0_report_X0_age : GoodIn wsX0_report (wsV RX0 62 RX0 yX0_age wsX0_age) := goodIn_app (goodIn_of _ (by decide +kernel)) ggX0_report_X0_age
theorem dX0_report_0 : decode cX0_report 0 = .ok (.iload_n 1, 1) := by decide +kernel
theorem dX0_report_1 : decode cX0_report 1 = .ok (.tableswitch 53 0 3 #[31, 36, 42, 48], 31) := by decide +kernel
theorem dX0_report_32 : decode cX0_report 32 = .ok (.aload_n 0, 1) := by decide +kernel
theorem dX0_report_33 : decode cX0_report 33 = .ok (.getfield 33, 3) := by decide +kernel
theorem dX0_report_36 : decode cX0_report 36 = .ok (.ireturn, 1) := by decide +kernel
theorem dX0_report_37 : decode cX0_report 37 = .ok (.aload_n 0, 1) := by decide +kernel
theorem dX0_report_38 : decode cX0_report 38 = .ok (.iconst 0, 1) := by decide +kernel
theorem dX0_report_39 : decode cX0_report 39 = .ok (.invokevirtual 59, 3) := by decide +kernel
theorem dX0_report_42 : decode cX0_report 42 = .ok (.ireturn, 1) := by decide +kernel
theorem dX0_report_43 : decode cX0_report 43 = .ok (.aload_n 0, 1) := by decide +kernel
theorem dX0_report_44 : decode cX0_report 44 = .ok (.iload_n 2, 1) := by decide +kernel
theorem dX0_report_45 : decode cX0_report 45 = .ok (.invokevirtual 62, 3) := by decide +kernel
theorem dX0_report_48 : decode cX0_report 48 = .ok (.ireturn, 1) := by decide +kernel
theorem dX0_report_49 : decode cX0_report 49 = .ok (.aload_n 0, 1) := by decide +kernel
theorem dX0_report_50 : decode cX0_report 50 = .ok (.getfield 46, 3) := by decide +kernel
theorem dX0_report_53 : decode cX0_report 53 = .ok (.ireturn, 1) := by decide +kernel
theorem dX0_report_54 : decode cX0_report 54 = .ok (.aload_n 0, 1) := by decide +kernel
theorem dX0_report_55 : decode cX0_report 55 = .ok (.getfield 43, 3) := by decide +kernel
theorem dX0_report_58 : decode cX0_report 58 = .ok (.ireturn, 1) := by decide +kernel
theorem dX1_init_0 : decode cX1_init 0 = .ok (.aload_n 0, 1) := by decide +kernel
theorem dX1_init_1 : decode cX1_init 1 = .ok (.invokespecial 3, 3) := by decide +kernel
theorem dX1_init_4 : decode cX1_init 4 = .ok (.aload_n 0, 1) := by decide +kernel
theorem dX1_init_5 : decode cX1_init 5 = .ok (.iconst 4, 1) := by decide +kernel
theorem dX1_init_6 : decode cX1_init 6 = .ok (.newarray .int, 2) := by decide +kernel
theorem dX1_init_8 : decode cX1_init 8 = .ok (.putfield 9, 3) := by decide +kernel
theorem dX1_init_11 : decode cX1_init 11 = .ok (.return_, 1) := by decide +kernel
theorem dX1_tell_0 : decode cX1_tell 0 = .ok (.aload_n 0, 1) := by decide +kernel
theorem dX1_tell_1 : decode cX1_tell 1 = .ok (.iconst 1, 1) := by decide +kernel
theorem dX1_tell_2 : decode cX1_tell 2 = .ok (.putfield 15, 3) := by decide +kernel
theorem dX1_tell_5 : decode cX1_tell 5 = .ok (.aload_n 0, 1) := by decide +kernel
theorem dX1_tell_6 : decode cX1_tell 6 = .ok (.iload_n 1, 1) := by decide +kernel
theorem dX1_tell_7 : decode cX1_tell 7 = .ok (.putfield 19, 3) := by decide +kernel
theorem dX1_tell_10 : decode cX1_tell 10 = .ok (.aload_n 0, 1) := by decide +kernel
theorem dX1_tell_11 : decode cX1_tell 11 = .ok (.iload_n 2, 1) := by decide +kernel
theorem dX1_tell_12 : decode cX1_tell 12 = .ok (.putfield 22, 3) := by decide +kernel
theorem dX1_tell_15 : decode cX1_tell 15 = .ok (.aload_n 0, 1) := by decide +kernel
theorem dX1_tell_16 : decode cX1_tell 16 = .ok (.iload_n 3, 1) := by decide +kernel
theorem dX1_tell_17 : decode cX1_tell 17 = .ok (.putfield 25, 3) := by decide +kernel
theorem dX1_tell_20 : decode cX1_tell 20 = .ok (.aload_n 0, 1) := by decide +kernel
theorem dX1_tell_21 : decode cX1_tell 21 = .ok (.iload_n 3, 1) := by decide +kernel
theorem dX1_tell_22 : decode cX1_tell 22 = .ok (.putfield 28, 3) := by decide +kernel
theorem dX1_tell_25 : decode cX1_tell 25 = .ok (.aload_n 0, 1) := by decide +kernel
theorem dX1_tell_26 : decode cX1_tell 26 = .ok (.iload 4, 2) := by decide +kernel
theorem dX1_tell_28 : decode cX1_tell 28 = .ok (.putfield 31, 3) := by decide +kernel
theorem dX1_tell_31 : decode cX1_tell 31 = .ok (.return_, 1) := by decide +kernel
theorem dX1_isTold_0 : decode cX1_isTold 0 = .ok (.aload_n 0, 1) := by decide +kernel
theorem dX1_isTold_1 : decode cX1_isTold 1 = .ok (.getfield 15, 3) := by decide +kernel
theorem dX1_isTold_4 : decode cX1_isTold 4 = .ok (.ifCond .eq 7, 3) := by decide +kernel
theorem dX1_isTold_7 : decode cX1_isTold 7 = .ok (.iconst 1, 1) := by decide +kernel
theorem dX1_isTold_8 : decode cX1_isTold 8 = .ok (.goto 4, 3) := by decide +kernel
theorem dX1_isTold_11 : decode cX1_isTold 11 = .ok (.iconst 0, 1) := by decide +kernel
theorem dX1_isTold_12 : decode cX1_isTold 12 = .ok (.ireturn, 1) := by decide +kernel
theorem dX1_holds_0 : decode cX1_holds 0 = .ok (.iload_n 1, 1) := by decide +kernel
theorem dX1_holds_1 : decode cX1_holds 1 = .ok (.ifCond .lt 15, 3) := by decide +kernel
theorem dX1_holds_4 : decode cX1_holds 4 = .ok (.iload_n 1, 1) := by decide +kernel
theorem dX1_holds_5 : decode cX1_holds 5 = .ok (.aload_n 0, 1) := by decide +kernel
theorem dX1_holds_6 : decode cX1_holds 6 = .ok (.getfield 22, 3) := by decide +kernel
theorem dX1_holds_9 : decode cX1_holds 9 = .ok (.if_icmp .ge 7, 3) := by decide +kernel
theorem dX1_holds_12 : decode cX1_holds 12 = .ok (.iconst 1, 1) := by decide +kernel
theorem dX1_holds_13 : decode cX1_holds 13 = .ok (.goto 4, 3) := by decide +kernel
theorem dX1_holds_16 : decode cX1_holds 16 = .ok (.iconst 0, 1) := by decide +kernel
theorem dX1_holds_17 : decode cX1_holds 17 = .ok (.ireturn, 1) := by decide +kernel
set_option maxRecDepth 20000 in
theorem ggX1_meets_X1_isTold : GoodIn wsX1_meets wsX1_isTold := goodIn_r _ [7, 8, 9, 10, 11, 12, 13, 14, 15, 16, 17, 18] (by decide +kernel) (by decide +kernel)
set_option maxRecDepth 20000 in
theorem gX1_meets_X1_isTold : GoodIn wsX1_meets (wsV RX1 34 RX1 yX1_isTold wsX1_isTold) := goodIn_app (goodIn_of _ (by decide +kernel)) ggX1_meets_X1_isTold
theorem dX1_meets_0 : decode cX1_meets 0 = .ok (.aload_n 0, 1) := by decide +kernel
theorem dX1_meets_1 : decode cX1_meets 1 = .ok (.invokevirtual 34, 3) := by decide +kernel
theorem dX1_meets_4 : decode cX1_meets 4 = .ok (.ifCond .eq 30, 3) := by decide +kernel
theorem dX1_meets_7 : decode cX1_meets 7 = .ok (.iload_n 1, 1) := by decide +kernel
theorem dX1_meets_8 : decode cX1_meets 8 = .ok (.aload_n 0, 1) := by decide +kernel
theorem dX1_meets_9 : decode cX1_meets 9 = .ok (.getfield 19, 3) := by decide +kernel
theorem dX1_meets_12 : decode cX1_meets 12 = .ok (.aload_n 0, 1) := by decide +kernel
theorem dX1_meets_13 : decode cX1_meets 13 = .ok (.getfield 22, 3) := by decide +kernel
theorem dX1_meets_16 : decode cX1_meets 16 = .ok (.iadd, 1) := by decide +kernel
theorem dX1_meets_17 : decode cX1_meets 17 = .ok (.if_icmp .ge 17, 3) := by decide +kernel
theorem dX1_meets_20 : decode cX1_meets 20 = .ok (.aload_n 0, 1) := by decide +kernel
theorem dX1_meets_21 : decode cX1_meets 21 = .ok (.getfield 19, 3) := by decide +kernel
theorem dX1_meets_24 : decode cX1_meets 24 = .ok (.iload_n 1, 1) := by decide +kernel
theorem dX1_meets_25 : decode cX1_meets 25 = .ok (.iload_n 2, 1) := by decide +kernel
theorem dX1_meets_26 : decode cX1_meets 26 = .ok (.iadd, 1) := by decide +kernel
theorem dX1_meets_27 : decode cX1_meets 27 = .ok (.if_icmp .ge 7, 3) := by decide +kernel
theorem dX1_meets_30 : decode cX1_meets 30 = .ok (.iconst 1, 1) := by decide +kernel
theorem dX1_meets_31 : decode cX1_meets 31 = .ok (.goto 4, 3) := by decide +kernel
theorem dX1_meets_34 : decode cX1_meets 34 = .ok (.iconst 0, 1) := by decide +kernel
theorem dX1_meets_35 : decode cX1_meets 35 = .ok (.ireturn, 1) := by decide +kernel
theorem dX1_jumpIf_0 : decode cX1_jumpIf 0 = .ok (.iload_n 1, 1) := by decide +kernel
theorem dX1_jumpIf_1 : decode cX1_jumpIf 1 = .ok (.ifCond .eq 13, 3) := by decide +kernel
theorem dX1_jumpIf_4 : decode cX1_jumpIf 4 = .ok (.aload_n 0, 1) := by decide +kernel
theorem dX1_jumpIf_5 : decode cX1_jumpIf 5 = .ok (.dup, 1) := by decide +kernel
theorem dX1_jumpIf_6 : decode cX1_jumpIf 6 = .ok (.getfield 28, 3) := by decide +kernel
theorem dX1_jumpIf_9 : decode cX1_jumpIf 9 = .ok (.iload_n 2, 1) := by decide +kernel
theorem dX1_jumpIf_10 : decode cX1_jumpIf 10 = .ok (.iadd, 1) := by decide +kernel
theorem dX1_jumpIf_11 : decode cX1_jumpIf 11 = .ok (.putfield 28, 3) := by decide +kernel
theorem dX1_jumpIf_14 : decode cX1_jumpIf 14 = .ok (.return_, 1) := by decide +kernel
set_option maxRecDepth 20000 in
theorem ggX1_restartAfter_J7_fill_53178 : GoodIn wsX1_restartAfter wsJ7_fill_53178 := goodIn_r _ [11] (by decide +kernel) (by decide +kernel)
set_option maxRecDepth 20000 in
theorem gX1_restartAfter_J7_fill_53178 : GoodIn wsX1_restartAfter (va_wsS RX1 44 yJ7_fill_53178 wsJ7_fill_53178) := goodIn_app (goodIn_of _ (by decide +kernel)) ggX1_restartAfter_J7_fill_53178
theorem dX1_restartAfter_0 : decode cX1_restartAfter 0 = .ok (.aload_n 0, 1) := by decide +kernel
theorem dX1_restartAfter_1 : decode cX1_restartAfter 1 = .ok (.iload_n 1, 1) := by decide +kernel
theorem dX1_restartAfter_2 : decode cX1_restartAfter 2 = .ok (.putfield 38, 3) := by decide +kernel
theorem dX1_restartAfter_5 : decode cX1_restartAfter 5 = .ok (.aload_n 0, 1) := by decide +kernel
theorem dX1_restartAfter_6 : decode cX1_restartAfter 6 = .ok (.dup, 1) := by decide +kernel
theorem dX1_restartAfter_7 : decode cX1_restartAfter 7 = .ok (.getfield 41, 3) := by decide +kernel
theorem dX1_restartAfter_10 : decode cX1_restartAfter 10 = .ok (.iconst 1, 1) := by decide +kernel
theorem dX1_restartAfter_11 : decode cX1_restartAfter 11 = .ok (.iadd, 1) := by decide +kernel
theorem dX1_restartAfter_12 : decode cX1_restartAfter 12 = .ok (.putfield 41, 3) := by decide +kernel
theorem dX1_restartAfter_15 : decode cX1_restartAfter 15 = .ok (.aload_n 0, 1) := by decide +kernel
theorem dX1_restartAfter_16 : decode cX1_restartAfter 16 = .ok (.getfield 31, 3) := by decide +kernel
theorem dX1_restartAfter_19 : decode cX1_restartAfter 19 = .ok (.ifCond .ne 10, 3) := by decide +kernel
theorem dX1_restartAfter_22 : decode cX1_restartAfter 22 = .ok (.aload_n 0, 1) := by decide +kernel
theorem dX1_restartAfter_23 : decode cX1_restartAfter 23 = .ok (.iconst 3, 1) := by decide +kernel
theorem dX1_restartAfter_24 : decode cX1_restartAfter 24 = .ok (.putfield 15, 3) := by decide +kernel
theorem dX1_restartAfter_27 : decode cX1_restartAfter 27 = .ok (.iconst 0, 1) := by decide +kernel
theorem dX1_restartAfter_28 : decode cX1_restartAfter 28 = .ok (.ireturn, 1) := by decide +kernel
theorem dX1_restartAfter_29 : decode cX1_restartAfter 29 = .ok (.aload_n 0, 1) := by decide +kernel
theorem dX1_restartAfter_30 : decode cX1_restartAfter 30 = .ok (.dup, 1) := by decide +kernel
theorem dX1_restartAfter_31 : decode cX1_restartAfter 31 = .ok (.getfield 31, 3) := by decide +kernel
theorem dX1_restartAfter_34 : decode cX1_restartAfter 34 = .ok (.iconst 1, 1) := by decide +kernel
theorem dX1_restartAfter_35 : decode cX1_restartAfter 35 = .ok (.isub, 1) := by decide +kernel
theorem dX1_restartAfter_36 : decode cX1_restartAfter 36 = .ok (.putfield 31, 3) := by decide +kernel
theorem dX1_restartAfter_39 : decode cX1_restartAfter 39 = .ok (.aload_n 0, 1) := by decide +kernel
theorem dX1_restartAfter_40 : decode cX1_restartAfter 40 = .ok (.getfield 9, 3) := by decide +kernel
theorem dX1_restartAfter_43 : decode cX1_restartAfter 43 = .ok (.iconst 0, 1) := by decide +kernel
theorem dX1_restartAfter_44 : decode cX1_restartAfter 44 = .ok (.invokestatic 44, 3) := by decide +kernel
theorem dX1_restartAfter_47 : decode cX1_restartAfter 47 = .ok (.aload_n 0, 1) := by decide +kernel
theorem dX1_restartAfter_48 : decode cX1_restartAfter 48 = .ok (.aload_n 0, 1) := by decide +kernel
theorem dX1_restartAfter_49 : decode cX1_restartAfter 49 = .ok (.getfield 25, 3) := by decide +kernel
theorem dX1_restartAfter_52 : decode cX1_restartAfter 52 = .ok (.putfield 28, 3) := by decide +kernel
theorem dX1_restartAfter_55 : decode cX1_restartAfter 55 = .ok (.iconst 1, 1) := by decide +kernel
theorem dX1_restartAfter_56 : decode cX1_restartAfter 56 = .ok (.ireturn, 1) := by decide +kernel
theorem dX1_report_0 : decode cX1_report 0 = .ok (.iload_n 1, 1) := by decide +kernel
theorem dX1_report_1 : decode cX1_report 1 = .ok (.tableswitch 85 0 9 #[55, 60, 85, 85, 85, 85, 65, 70, 75, 80], 55) := by decide +kernel
theorem dX1_report_56 : decode cX1_report 56 = .ok (.aload_n 0, 1) := by decide +kernel
theorem dX1_report_57 : decode cX1_report 57 = .ok (.getfield 15, 3) := by decide +kernel
theorem dX1_report_60 : decode cX1_report 60 = .ok (.ireturn, 1) := by decide +kernel
theorem dX1_report_61 : decode cX1_report 61 = .ok (.aload_n 0, 1) := by decide +kernel
theorem dX1_report_62 : decode cX1_report 62 = .ok (.getfield 28, 3) := by decide +kernel
theorem dX1_report_65 : decode cX1_report 65 = .ok (.ireturn, 1) := by decide +kernel
theorem dX1_report_66 : decode cX1_report 66 = .ok (.aload_n 0, 1) := by decide +kernel
theorem dX1_report_67 : decode cX1_report 67 = .ok (.getfield 50, 3) := by decide +kernel
theorem dX1_report_70 : decode cX1_report 70 = .ok (.ireturn, 1) := by decide +kernel
theorem dX1_report_71 : decode cX1_report 71 = .ok (.aload_n 0, 1) := by decide +kernel
theorem dX1_report_72 : decode cX1_report 72 = .ok (.getfield 31, 3) := by decide +kernel
theorem dX1_report_75 : decode cX1_report 75 = .ok (.ireturn, 1) := by decide +kernel
theorem dX1_report_76 : decode cX1_report 76 = .ok (.aload_n 0, 1) := by decide +kernel
theorem dX1_report_77 : decode cX1_report 77 = .ok (.getfield 38, 3) := by decide +kernel
theorem dX1_report_80 : decode cX1_report 80 = .ok (.ireturn, 1) := by decide +kernel
theorem dX1_report_81 : decode cX1_report 81 = .ok (.aload_n 0, 1) := by decide +kernel
theorem dX1_report_82 : decode cX1_report 82 = .ok (.getfield 41, 3) := by decide +kernel
theorem dX1_report_85 : decode cX1_report 85 = .ok (.ireturn, 1) := by decide +kernel
theorem dX1_report_86 : decode cX1_report 86 = .ok (.iload_n 1, 1) := by decide +kernel
theorem dX1_report_87 : decode cX1_report 87 = .ok (.iconst 2, 1) := by decide +kernel
theorem dX1_report_88 : decode cX1_report 88 = .ok (.if_icmp .lt 19, 3) := by decide +kernel
theorem dX1_report_91 : decode cX1_report 91 = .ok (.iload_n 1, 1) := by decide +kernel
theorem dX1_report_92 : decode cX1_report 92 = .ok (.iconst 5, 1) := by decide +kernel
theorem dX1_report_93 : decode cX1_report 93 = .ok (.if_icmp .gt 14, 3) := by decide +kernel
theorem dX1_report_96 : decode cX1_report 96 = .ok (.aload_n 0, 1) := by decide +kernel
theorem dX1_report_97 : decode cX1_report 97 = .ok (.getfield 9, 3) := by decide +kernel
theorem dX1_report_100 : decode cX1_report 100 = .ok (.iload_n 1, 1) := by decide +kernel
theorem dX1_report_101 : decode cX1_report 101 = .ok (.iconst 2, 1) := by decide +kernel
theorem dX1_report_102 : decode cX1_report 102 = .ok (.isub, 1) := by decide +kernel
theorem dX1_report_103 : decode cX1_report 103 = .ok (.iaload, 1) := by decide +kernel
theorem dX1_report_104 : decode cX1_report 104 = .ok (.goto 4, 3) := by decide +kernel
theorem dX1_report_107 : decode cX1_report 107 = .ok (.iconst 0, 1) := by decide +kernel
theorem dX1_report_108 : decode cX1_report 108 = .ok (.ireturn, 1) := by decide +kernel
set_option maxRecDepth 20000 in
theorem ggX2_init_X1_init : GoodIn wsX2_init wsX1_init := goodIn_r _ [17, 18, 2, 3, 4, 19, 36, 37, 38, 39, 40, 41, 42, 43, 44, 45] (by decide +kernel) (by decide +kernel)
set_option maxRecDepth 20000 in
theorem gX2_init_X1_init_n19 : GoodIn wsX2_init (wsX1_init) := ggX2_init_X1_init
set_option maxRecDepth 20000 in
theorem ggX2_init_X0_init : GoodIn wsX2_init wsX0_init := goodIn_r _ [21, 22, 2, 3, 4, 23, 46, 47, 48, 49, 50, 51, 52, 53, 54, 55] (by decide +kernel) (by decide +kernel)
set_option maxRecDepth 20000 in
theorem gX2_init_X0_init_n26 : GoodIn wsX2_init (wsX0_init) := ggX2_init_X0_init
theorem dX2_init_0 : decode cX2_init 0 = .ok (.aload_n 0, 1) := by decide +kernel
theorem dX2_init_1 : decode cX2_init 1 = .ok (.invokespecial 1, 3) := by decide +kernel
theorem dX2_init_4 : decode cX2_init 4 = .ok (.aload_n 0, 1) := by decide +kernel
theorem dX2_init_5 : decode cX2_init 5 = .ok (.sipush 512, 3) := by decide +kernel
theorem dX2_init_8 : decode cX2_init 8 = .ok (.newarray .int, 2) := by decide +kernel
theorem dX2_init_10 : decode cX2_init 10 = .ok (.putfield 9, 3) := by decide +kernel
theorem dX2_init_13 : decode cX2_init 13 = .ok (.aload_n 0, 1) := by decide +kernel
theorem dX2_init_14 : decode cX2_init 14 = .ok (.bipush 6, 2) := by decide +kernel
theorem dX2_init_16 : decode cX2_init 16 = .ok (.anewarray 13, 3) := by decide +kernel
theorem dX2_init_19 : decode cX2_init 19 = .ok (.putfield 15, 3) := by decide +kernel
theorem dX2_init_22 : decode cX2_init 22 = .ok (.iconst 0, 1) := by decide +kernel
theorem dX2_init_23 : decode cX2_init 23 = .ok (.istore_n 1, 1) := by decide +kernel
theorem dX2_init_24 : decode cX2_init 24 = .ok (.iload_n 1, 1) := by decide +kernel
theorem dX2_init_25 : decode cX2_init 25 = .ok (.bipush 6, 2) := by decide +kernel
theorem dX2_init_27 : decode cX2_init 27 = .ok (.if_icmp .ge 22, 3) := by decide +kernel
theorem dX2_init_30 : decode cX2_init 30 = .ok (.aload_n 0, 1) := by decide +kernel
theorem dX2_init_31 : decode cX2_init 31 = .ok (.getfield 15, 3) := by decide +kernel
theorem dX2_init_34 : decode cX2_init 34 = .ok (.iload_n 1, 1) := by decide +kernel
theorem dX2_init_35 : decode cX2_init 35 = .ok (.new 13, 3) := by decide +kernel
theorem dX2_init_38 : decode cX2_init 38 = .ok (.dup, 1) := by decide +kernel
theorem dX2_init_39 : decode cX2_init 39 = .ok (.invokespecial 19, 3) := by decide +kernel
theorem dX2_init_42 : decode cX2_init 42 = .ok (.aastore, 1) := by decide +kernel
theorem dX2_init_43 : decode cX2_init 43 = .ok (.iinc 1 1, 3) := by decide +kernel
theorem dX2_init_46 : decode cX2_init 46 = .ok (.goto (-22), 3) := by decide +kernel
theorem dX2_init_49 : decode cX2_init 49 = .ok (.aload_n 0, 1) := by decide +kernel
theorem dX2_init_50 : decode cX2_init 50 = .ok (.bipush 8, 2) := by decide +kernel
theorem dX2_init_52 : decode cX2_init 52 = .ok (.anewarray 20, 3) := by decide +kernel
theorem dX2_init_55 : decode cX2_init 55 = .ok (.putfield 22, 3) := by decide +kernel
theorem dX2_init_58 : decode cX2_init 58 = .ok (.iconst 0, 1) := by decide +kernel
theorem dX2_init_59 : decode cX2_init 59 = .ok (.istore_n 1, 1) := by decide +kernel
theorem dX2_init_60 : decode cX2_init 60 = .ok (.iload_n 1, 1) := by decide +kernel
theorem dX2_init_61 : decode cX2_init 61 = .ok (.bipush 8, 2) := by decide +kernel
theorem dX2_init_63 : decode cX2_init 63 = .ok (.if_icmp .ge 22, 3) := by decide +kernel
theorem dX2_init_66 : decode cX2_init 66 = .ok (.aload_n 0, 1) := by decide +kernel
theorem dX2_init_67 : decode cX2_init 67 = .ok (.getfield 22, 3) := by decide +kernel
theorem dX2_init_70 : decode cX2_init 70 = .ok (.iload_n 1, 1) := by decide +kernel
theorem dX2_init_71 : decode cX2_init 71 = .ok (.new 20, 3) := by decide +kernel
theorem dX2_init_74 : decode cX2_init 74 = .ok (.dup, 1) := by decide +kernel
theorem dX2_init_75 : decode cX2_init 75 = .ok (.invokespecial 26, 3) := by decide +kernel
theorem dX2_init_78 : decode cX2_init 78 = .ok (.aastore, 1) := by decide +kernel
theorem dX2_init_79 : decode cX2_init 79 = .ok (.iinc 1 1, 3) := by decide +kernel
theorem dX2_init_82 : decode cX2_init 82 = .ok (.goto (-22), 3) := by decide +kernel
theorem dX2_init_85 : decode cX2_init 85 = .ok (.aload_n 0, 1) := by decide +kernel
theorem dX2_init_86 : decode cX2_init 86 = .ok (.bipush 12, 2) := by decide +kernel
theorem dX2_init_88 : decode cX2_init 88 = .ok (.newarray .int, 2) := by decide +kernel
theorem dX2_init_90 : decode cX2_init 90 = .ok (.putfield 27, 3) := by decide +kernel
theorem dX2_init_93 : decode cX2_init 93 = .ok (.aload_n 0, 1) := by decide +kernel
theorem dX2_init_94 : decode cX2_init 94 = .ok (.bipush 12, 2) := by decide +kernel
theorem dX2_init_96 : decode cX2_init 96 = .ok (.newarray .int, 2) := by decide +kernel
theorem dX2_init_98 : decode cX2_init 98 = .ok (.putfield 30, 3) := by decide +kernel
theorem dX2_init_101 : decode cX2_init 101 = .ok (.return_, 1) := by decide +kernel
set_option maxRecDepth 20000 in
theorem ggX2_partition_X2_refuseIfSealed : GoodIn wsX2_partition wsX2_refuseIfSealed := goodIn_ca (goodIn_r _ [8, 9, 10, 11, 36, 37, 38, 39, 40, 41, 42, 43, 44, 45, 46, 47] (by decide +kernel) (by decide +kernel)) (goodIn_sub (fun _ h => List.mem_cons_of_mem _ (List.mem_append_right _ h)) (by decide +kernel))
set_option maxRecDepth 20000 in
theorem gX2_partition_X2_refuseIfSealed : GoodIn wsX2_partition (wsV RX2 33 RX2 yX2_refuseIfSealed wsX2_refuseIfSealed) := goodIn_app (goodIn_of _ (by decide +kernel)) ggX2_partition_X2_refuseIfSealed
set_option maxRecDepth 20000 in
theorem ggX2_partition_X1_isTold : GoodIn wsX2_partition wsX1_isTold := goodIn_r _ [15, 16, 48, 49, 50, 51, 52, 53, 54, 55, 56, 57] (by decide +kernel) (by decide +kernel)
set_option maxRecDepth 20000 in
theorem gX2_partition_X1_isTold_n36 : GoodIn wsX2_partition (wsX1_isTold) := ggX2_partition_X1_isTold
set_option maxRecDepth 20000 in
theorem ggX2_partition_X2_isInMemory : GoodIn wsX2_partition wsX2_isInMemory := goodIn_r _ [19] (by decide +kernel) (by decide +kernel)
set_option maxRecDepth 20000 in
theorem gX2_partition_X2_isInMemory : GoodIn wsX2_partition (va_wsS RX2 47 yX2_isInMemory wsX2_isInMemory) := goodIn_app (goodIn_of _ (by decide +kernel)) ggX2_partition_X2_isInMemory
set_option maxRecDepth 20000 in
theorem ggX2_partition_X2_sharesWord : GoodIn wsX2_partition wsX2_sharesWord := goodIn_r _ [23, 3, 24, 13, 25, 26, 27, 28, 29, 12, 14, 15, 16, 36, 37, 38, 39, 40, 41, 42, 43, 44, 45, 46, 47, 48, 49, 50, 51, 52, 53, 54, 55, 56, 57] (by decide +kernel) (by decide +kernel)
set_option maxRecDepth 20000 in
theorem gX2_partition_X2_sharesWord : GoodIn wsX2_partition (wsV RX2 51 RX2 yX2_sharesWord wsX2_sharesWord) := goodIn_app (goodIn_of _ (by decide +kernel)) ggX2_partition_X2_sharesWord
set_option maxRecDepth 20000 in
theorem ggX2_partition_X1_tell : GoodIn wsX2_partition wsX1_tell := goodIn_r _ [32, 16, 27, 28, 33, 34, 35, 48, 49, 50, 51, 52, 53, 54, 55, 56, 57] (by decide +kernel) (by decide +kernel)
set_option maxRecDepth 20000 in
theorem gX2_partition_X1_tell_n58 : GoodIn wsX2_partition (wsX1_tell) := ggX2_partition_X1_tell
theorem dX2_partition_0 : decode cX2_partition 0 = .ok (.aload_n 0, 1) := by decide +kernel
theorem dX2_partition_1 : decode cX2_partition 1 = .ok (.invokevirtual 33, 3) := by decide +kernel
theorem dX2_partition_4 : decode cX2_partition 4 = .ok (.iload_n 1, 1) := by decide +kernel
theorem dX2_partition_5 : decode cX2_partition 5 = .ok (.ifCond .lt 21, 3) := by decide +kernel
theorem dX2_partition_8 : decode cX2_partition 8 = .ok (.iload_n 1, 1) := by decide +kernel
theorem dX2_partition_9 : decode cX2_partition 9 = .ok (.bipush 6, 2) := by decide +kernel
theorem dX2_partition_11 : decode cX2_partition 11 = .ok (.if_icmp .ge 15, 3) := by decide +kernel
theorem dX2_partition_14 : decode cX2_partition 14 = .ok (.aload_n 0, 1) := by decide +kernel
theorem dX2_partition_15 : decode cX2_partition 15 = .ok (.getfield 15, 3) := by decide +kernel
theorem dX2_partition_18 : decode cX2_partition 18 = .ok (.iload_n 1, 1) := by decide +kernel
theorem dX2_partition_19 : decode cX2_partition 19 = .ok (.aaload, 1) := by decide +kernel
theorem dX2_partition_20 : decode cX2_partition 20 = .ok (.invokevirtual 36, 3) := by decide +kernel
theorem dX2_partition_23 : decode cX2_partition 23 = .ok (.ifCond .eq 13, 3) := by decide +kernel
theorem dX2_partition_26 : decode cX2_partition 26 = .ok (.new 40, 3) := by decide +kernel
theorem dX2_partition_29 : decode cX2_partition 29 = .ok (.dup, 1) := by decide +kernel
theorem dX2_partition_30 : decode cX2_partition 30 = .ok (.ldc 42, 2) := by decide +kernel
theorem dX2_partition_32 : decode cX2_partition 32 = .ok (.invokespecial 44, 3) := by decide +kernel
theorem dX2_partition_35 : decode cX2_partition 35 = .ok (.athrow, 1) := by decide +kernel
theorem dX2_partition_36 : decode cX2_partition 36 = .ok (.iload_n 2, 1) := by decide +kernel
theorem dX2_partition_37 : decode cX2_partition 37 = .ok (.iload_n 3, 1) := by decide +kernel
theorem dX2_partition_38 : decode cX2_partition 38 = .ok (.invokestatic 47, 3) := by decide +kernel
theorem dX2_partition_41 : decode cX2_partition 41 = .ok (.ifCond .eq 12, 3) := by decide +kernel
theorem dX2_partition_44 : decode cX2_partition 44 = .ok (.aload_n 0, 1) := by decide +kernel
theorem dX2_partition_45 : decode cX2_partition 45 = .ok (.iload_n 2, 1) := by decide +kernel
theorem dX2_partition_46 : decode cX2_partition 46 = .ok (.iload_n 3, 1) := by decide +kernel
theorem dX2_partition_47 : decode cX2_partition 47 = .ok (.invokevirtual 51, 3) := by decide +kernel
theorem dX2_partition_50 : decode cX2_partition 50 = .ok (.ifCond .eq 13, 3) := by decide +kernel
theorem dX2_partition_53 : decode cX2_partition 53 = .ok (.new 40, 3) := by decide +kernel
theorem dX2_partition_56 : decode cX2_partition 56 = .ok (.dup, 1) := by decide +kernel
theorem dX2_partition_57 : decode cX2_partition 57 = .ok (.ldc 54, 2) := by decide +kernel
theorem dX2_partition_59 : decode cX2_partition 59 = .ok (.invokespecial 44, 3) := by decide +kernel
theorem dX2_partition_62 : decode cX2_partition 62 = .ok (.athrow, 1) := by decide +kernel
theorem dX2_partition_63 : decode cX2_partition 63 = .ok (.iload 4, 2) := by decide +kernel
theorem dX2_partition_65 : decode cX2_partition 65 = .ok (.ifCond .lt 21, 3) := by decide +kernel
theorem dX2_partition_68 : decode cX2_partition 68 = .ok (.iload 4, 2) := by decide +kernel
theorem dX2_partition_70 : decode cX2_partition 70 = .ok (.iload_n 3, 1) := by decide +kernel
theorem dX2_partition_71 : decode cX2_partition 71 = .ok (.if_icmp .ge 15, 3) := by decide +kernel
theorem dX2_partition_74 : decode cX2_partition 74 = .ok (.iload 5, 2) := by decide +kernel
theorem dX2_partition_76 : decode cX2_partition 76 = .ok (.ifCond .lt 10, 3) := by decide +kernel
theorem dX2_partition_79 : decode cX2_partition 79 = .ok (.iload 5, 2) := by decide +kernel
theorem dX2_partition_81 : decode cX2_partition 81 = .ok (.bipush 100, 2) := by decide +kernel
theorem dX2_partition_83 : decode cX2_partition 83 = .ok (.if_icmp .le 13, 3) := by decide +kernel
theorem dX2_partition_86 : decode cX2_partition 86 = .ok (.new 40, 3) := by decide +kernel
theorem dX2_partition_89 : decode cX2_partition 89 = .ok (.dup, 1) := by decide +kernel
theorem dX2_partition_90 : decode cX2_partition 90 = .ok (.ldc 56, 2) := by decide +kernel
theorem dX2_partition_92 : decode cX2_partition 92 = .ok (.invokespecial 44, 3) := by decide +kernel
theorem dX2_partition_95 : decode cX2_partition 95 = .ok (.athrow, 1) := by decide +kernel
theorem dX2_partition_96 : decode cX2_partition 96 = .ok (.aload_n 0, 1) := by decide +kernel
theorem dX2_partition_97 : decode cX2_partition 97 = .ok (.getfield 15, 3) := by decide +kernel
theorem dX2_partition_100 : decode cX2_partition 100 = .ok (.iload_n 1, 1) := by decide +kernel
theorem dX2_partition_101 : decode cX2_partition 101 = .ok (.aaload, 1) := by decide +kernel
theorem dX2_partition_102 : decode cX2_partition 102 = .ok (.iload_n 2, 1) := by decide +kernel
theorem dX2_partition_103 : decode cX2_partition 103 = .ok (.iload_n 3, 1) := by decide +kernel
theorem dX2_partition_104 : decode cX2_partition 104 = .ok (.iload 4, 2) := by decide +kernel
theorem dX2_partition_106 : decode cX2_partition 106 = .ok (.iload 5, 2) := by decide +kernel
theorem dX2_partition_108 : decode cX2_partition 108 = .ok (.invokevirtual 58, 3) := by decide +kernel
theorem dX2_partition_111 : decode cX2_partition 111 = .ok (.return_, 1) := by decide +kernel
set_option maxRecDepth 20000 in
theorem ggX2_window_X2_refuseIfSealed : GoodIn wsX2_window wsX2_refuseIfSealed := goodIn_ca (goodIn_r _ [11, 12, 13, 14, 25, 26, 27, 28, 29, 30, 31, 32, 33, 34, 35, 36] (by decide +kernel) (by decide +kernel)) (goodIn_sub (fun _ h => List.mem_cons_of_mem _ (List.mem_append_right _ h)) (by decide +kernel))
set_option maxRecDepth 20000 in
theorem gX2_window_X2_refuseIfSealed : GoodIn wsX2_window (wsV RX2 33 RX2 yX2_refuseIfSealed wsX2_refuseIfSealed) := goodIn_app (goodIn_of _ (by decide +kernel)) ggX2_window_X2_refuseIfSealed
set_option maxRecDepth 20000 in
theorem ggX2_window_X2_refuseUnlessTold : GoodIn wsX2_window wsX2_refuseUnlessTold := goodIn_ca (goodIn_r _ [18, 1, 2, 19, 20, 21, 22, 23, 24, 25, 26, 27, 28, 29, 30, 31, 32, 33, 34, 35, 36, 37, 38, 39, 40, 41, 42, 43, 44, 45, 46] (by decide +kernel) (by decide +kernel)) (goodIn_sub (fun _ h => List.mem_cons_of_mem _ (List.mem_append_left _ (List.mem_append_right _ h))) (by decide +kernel))
set_option maxRecDepth 20000 in
theorem gX2_window_X2_refuseUnlessTold : GoodIn wsX2_window (wsV RX2 62 RX2 yX2_refuseUnlessTold wsX2_refuseUnlessTold) := goodIn_app (goodIn_of _ (by decide +kernel)) ggX2_window_X2_refuseUnlessTold
theorem dX2_window_0 : decode cX2_window 0 = .ok (.aload_n 0, 1) := by decide +kernel
theorem dX2_window_1 : decode cX2_window 1 = .ok (.invokevirtual 33, 3) := by decide +kernel
theorem dX2_window_4 : decode cX2_window 4 = .ok (.iload_n 1, 1) := by decide +kernel
theorem dX2_window_5 : decode cX2_window 5 = .ok (.iconst (-1), 1) := by decide +kernel
theorem dX2_window_6 : decode cX2_window 6 = .ok (.if_icmp .eq 8, 3) := by decide +kernel
theorem dX2_window_9 : decode cX2_window 9 = .ok (.aload_n 0, 1) := by decide +kernel
theorem dX2_window_10 : decode cX2_window 10 = .ok (.iload_n 1, 1) := by decide +kernel
theorem dX2_window_11 : decode cX2_window 11 = .ok (.invokevirtual 62, 3) := by decide +kernel
theorem dX2_window_14 : decode cX2_window 14 = .ok (.iload_n 2, 1) := by decide +kernel
theorem dX2_window_15 : decode cX2_window 15 = .ok (.iconst 1, 1) := by decide +kernel
theorem dX2_window_16 : decode cX2_window 16 = .ok (.if_icmp .lt 18, 3) := by decide +kernel
theorem dX2_window_19 : decode cX2_window 19 = .ok (.iload_n 2, 1) := by decide +kernel
theorem dX2_window_20 : decode cX2_window 20 = .ok (.bipush 100, 2) := by decide +kernel
theorem dX2_window_22 : decode cX2_window 22 = .ok (.if_icmp .gt 12, 3) := by decide +kernel
theorem dX2_window_25 : decode cX2_window 25 = .ok (.aload_n 0, 1) := by decide +kernel
theorem dX2_window_26 : decode cX2_window 26 = .ok (.getfield 66, 3) := by decide +kernel
theorem dX2_window_29 : decode cX2_window 29 = .ok (.bipush 12, 2) := by decide +kernel
theorem dX2_window_31 : decode cX2_window 31 = .ok (.if_icmp .lt 13, 3) := by decide +kernel
theorem dX2_window_34 : decode cX2_window 34 = .ok (.new 40, 3) := by decide +kernel
theorem dX2_window_37 : decode cX2_window 37 = .ok (.dup, 1) := by decide +kernel
theorem dX2_window_38 : decode cX2_window 38 = .ok (.ldc 70, 2) := by decide +kernel
theorem dX2_window_40 : decode cX2_window 40 = .ok (.invokespecial 44, 3) := by decide +kernel
theorem dX2_window_43 : decode cX2_window 43 = .ok (.athrow, 1) := by decide +kernel
theorem dX2_window_44 : decode cX2_window 44 = .ok (.aload_n 0, 1) := by decide +kernel
theorem dX2_window_45 : decode cX2_window 45 = .ok (.getfield 27, 3) := by decide +kernel
theorem dX2_window_48 : decode cX2_window 48 = .ok (.aload_n 0, 1) := by decide +kernel
theorem dX2_window_49 : decode cX2_window 49 = .ok (.getfield 66, 3) := by decide +kernel
theorem dX2_window_52 : decode cX2_window 52 = .ok (.iload_n 1, 1) := by decide +kernel
theorem dX2_window_53 : decode cX2_window 53 = .ok (.iastore, 1) := by decide +kernel
theorem dX2_window_54 : decode cX2_window 54 = .ok (.aload_n 0, 1) := by decide +kernel
theorem dX2_window_55 : decode cX2_window 55 = .ok (.getfield 30, 3) := by decide +kernel
theorem dX2_window_58 : decode cX2_window 58 = .ok (.aload_n 0, 1) := by decide +kernel
theorem dX2_window_59 : decode cX2_window 59 = .ok (.getfield 66, 3) := by decide +kernel
theorem dX2_window_62 : decode cX2_window 62 = .ok (.iload_n 2, 1) := by decide +kernel
theorem dX2_window_63 : decode cX2_window 63 = .ok (.iastore, 1) := by decide +kernel
theorem dX2_window_64 : decode cX2_window 64 = .ok (.aload_n 0, 1) := by decide +kernel
theorem dX2_window_65 : decode cX2_window 65 = .ok (.dup, 1) := by decide +kernel
theorem dX2_window_66 : decode cX2_window 66 = .ok (.getfield 66, 3) := by decide +kernel
theorem dX2_window_69 : decode cX2_window 69 = .ok (.iconst 1, 1) := by decide +kernel
theorem dX2_window_70 : decode cX2_window 70 = .ok (.iadd, 1) := by decide +kernel
theorem dX2_window_71 : decode cX2_window 71 = .ok (.putfield 66, 3) := by decide +kernel
theorem dX2_window_74 : decode cX2_window 74 = .ok (.aload_n 0, 1) := by decide +kernel
theorem dX2_window_75 : decode cX2_window 75 = .ok (.dup, 1) := by decide +kernel
theorem dX2_window_76 : decode cX2_window 76 = .ok (.getfield 72, 3) := by decide +kernel
theorem dX2_window_79 : decode cX2_window 79 = .ok (.iload_n 2, 1) := by decide +kernel
theorem dX2_window_80 : decode cX2_window 80 = .ok (.iadd, 1) := by decide +kernel
theorem dX2_window_81 : decode cX2_window 81 = .ok (.putfield 72, 3) := by decide +kernel
theorem dX2_window_84 : decode cX2_window 84 = .ok (.aload_n 0, 1) := by decide +kernel
theorem dX2_window_85 : decode cX2_window 85 = .ok (.getfield 66, 3) := by decide +kernel
theorem dX2_window_88 : decode cX2_window 88 = .ok (.ireturn, 1) := by decide +kernel
set_option maxRecDepth 20000 in
theorem ggX2_channel_X2_refuseIfSealed : GoodIn wsX2_channel wsX2_refuseIfSealed := goodIn_ca (goodIn_r _ [8, 9, 10, 11, 30, 31, 32, 33, 34, 35, 36, 37, 38, 39, 40, 41] (by decide +kernel) (by decide +kernel)) (goodIn_sub (fun _ h => List.mem_cons_of_mem _ (List.mem_append_right _ h)) (by decide +kernel))
set_option maxRecDepth 20000 in
theorem gX2_channel_X2_refuseIfSealed : GoodIn wsX2_channel (wsV RX2 33 RX2 yX2_refuseIfSealed wsX2_refuseIfSealed) := goodIn_app (goodIn_of _ (by decide +kernel)) ggX2_channel_X2_refuseIfSealed
set_option maxRecDepth 20000 in
theorem ggX2_channel_X2_refuseUnlessTold : GoodIn wsX2_channel wsX2_refuseUnlessTold := goodIn_ca (goodIn_r _ [15, 1, 2, 16, 17, 18, 19, 20, 21, 30, 31, 32, 33, 34, 35, 36, 37, 38, 39, 40, 41, 52, 53, 54, 55, 56, 57, 58, 59, 60, 61] (by decide +kernel) (by decide +kernel)) (goodIn_sub (fun _ h => List.mem_cons_of_mem _ (List.mem_append_left _ (List.mem_append_right _ h))) (by decide +kernel))
set_option maxRecDepth 20000 in
theorem gX2_channel_X2_refuseUnlessTold : GoodIn wsX2_channel (wsV RX2 62 RX2 yX2_refuseUnlessTold wsX2_refuseUnlessTold) := goodIn_app (goodIn_of _ (by decide +kernel)) ggX2_channel_X2_refuseUnlessTold
set_option maxRecDepth 20000 in
theorem ggX2_channel_X0_tell : GoodIn wsX2_channel wsX0_tell := goodIn_r _ [25, 26, 27, 28, 29, 42, 43, 44, 45, 46, 47, 48, 49, 50, 51] (by decide +kernel) (by decide +kernel)
set_option maxRecDepth 20000 in
theorem gX2_channel_X0_tell_n82 : GoodIn wsX2_channel (wsX0_tell) := ggX2_channel_X0_tell
theorem dX2_channel_0 : decode cX2_channel 0 = .ok (.aload_n 0, 1) := by decide +kernel
theorem dX2_channel_1 : decode cX2_channel 1 = .ok (.invokevirtual 33, 3) := by decide +kernel
theorem dX2_channel_4 : decode cX2_channel 4 = .ok (.iload_n 1, 1) := by decide +kernel
theorem dX2_channel_5 : decode cX2_channel 5 = .ok (.ifCond .lt 21, 3) := by decide +kernel
theorem dX2_channel_8 : decode cX2_channel 8 = .ok (.iload_n 1, 1) := by decide +kernel
theorem dX2_channel_9 : decode cX2_channel 9 = .ok (.bipush 8, 2) := by decide +kernel
theorem dX2_channel_11 : decode cX2_channel 11 = .ok (.if_icmp .ge 15, 3) := by decide +kernel
theorem dX2_channel_14 : decode cX2_channel 14 = .ok (.aload_n 0, 1) := by decide +kernel
theorem dX2_channel_15 : decode cX2_channel 15 = .ok (.getfield 22, 3) := by decide +kernel
theorem dX2_channel_18 : decode cX2_channel 18 = .ok (.iload_n 1, 1) := by decide +kernel
theorem dX2_channel_19 : decode cX2_channel 19 = .ok (.aaload, 1) := by decide +kernel
theorem dX2_channel_20 : decode cX2_channel 20 = .ok (.getfield 75, 3) := by decide +kernel
theorem dX2_channel_23 : decode cX2_channel 23 = .ok (.ifCond .eq 13, 3) := by decide +kernel
theorem dX2_channel_26 : decode cX2_channel 26 = .ok (.new 40, 3) := by decide +kernel
theorem dX2_channel_29 : decode cX2_channel 29 = .ok (.dup, 1) := by decide +kernel
theorem dX2_channel_30 : decode cX2_channel 30 = .ok (.ldc 78, 2) := by decide +kernel
theorem dX2_channel_32 : decode cX2_channel 32 = .ok (.invokespecial 44, 3) := by decide +kernel
theorem dX2_channel_35 : decode cX2_channel 35 = .ok (.athrow, 1) := by decide +kernel
theorem dX2_channel_36 : decode cX2_channel 36 = .ok (.aload_n 0, 1) := by decide +kernel
theorem dX2_channel_37 : decode cX2_channel 37 = .ok (.iload_n 2, 1) := by decide +kernel
theorem dX2_channel_38 : decode cX2_channel 38 = .ok (.invokevirtual 62, 3) := by decide +kernel
theorem dX2_channel_41 : decode cX2_channel 41 = .ok (.aload_n 0, 1) := by decide +kernel
theorem dX2_channel_42 : decode cX2_channel 42 = .ok (.iload_n 3, 1) := by decide +kernel
theorem dX2_channel_43 : decode cX2_channel 43 = .ok (.invokevirtual 62, 3) := by decide +kernel
theorem dX2_channel_46 : decode cX2_channel 46 = .ok (.iload_n 2, 1) := by decide +kernel
theorem dX2_channel_47 : decode cX2_channel 47 = .ok (.iload_n 3, 1) := by decide +kernel
theorem dX2_channel_48 : decode cX2_channel 48 = .ok (.if_icmp .eq 15, 3) := by decide +kernel
theorem dX2_channel_51 : decode cX2_channel 51 = .ok (.iload 4, 2) := by decide +kernel
theorem dX2_channel_53 : decode cX2_channel 53 = .ok (.ifCond .lt 10, 3) := by decide +kernel
theorem dX2_channel_56 : decode cX2_channel 56 = .ok (.iload 4, 2) := by decide +kernel
theorem dX2_channel_58 : decode cX2_channel 58 = .ok (.bipush 8, 2) := by decide +kernel
theorem dX2_channel_60 : decode cX2_channel 60 = .ok (.if_icmp .le 13, 3) := by decide +kernel
theorem dX2_channel_63 : decode cX2_channel 63 = .ok (.new 40, 3) := by decide +kernel
theorem dX2_channel_66 : decode cX2_channel 66 = .ok (.dup, 1) := by decide +kernel
theorem dX2_channel_67 : decode cX2_channel 67 = .ok (.ldc 80, 2) := by decide +kernel
theorem dX2_channel_69 : decode cX2_channel 69 = .ok (.invokespecial 44, 3) := by decide +kernel
theorem dX2_channel_72 : decode cX2_channel 72 = .ok (.athrow, 1) := by decide +kernel
theorem dX2_channel_73 : decode cX2_channel 73 = .ok (.aload_n 0, 1) := by decide +kernel
theorem dX2_channel_74 : decode cX2_channel 74 = .ok (.getfield 22, 3) := by decide +kernel
theorem dX2_channel_77 : decode cX2_channel 77 = .ok (.iload_n 1, 1) := by decide +kernel
theorem dX2_channel_78 : decode cX2_channel 78 = .ok (.aaload, 1) := by decide +kernel
theorem dX2_channel_79 : decode cX2_channel 79 = .ok (.iload_n 2, 1) := by decide +kernel
theorem dX2_channel_80 : decode cX2_channel 80 = .ok (.iload_n 3, 1) := by decide +kernel
theorem dX2_channel_81 : decode cX2_channel 81 = .ok (.iload 4, 2) := by decide +kernel
theorem dX2_channel_83 : decode cX2_channel 83 = .ok (.invokevirtual 82, 3) := by decide +kernel
theorem dX2_channel_86 : decode cX2_channel 86 = .ok (.return_, 1) := by decide +kernel
set_option maxRecDepth 20000 in
theorem ggX2_poke_X2_refuseIfSealed : GoodIn wsX2_poke wsX2_refuseIfSealed := goodIn_ca (goodIn_r _ [6, 7, 8, 9, 32, 33, 34, 35, 36, 37, 38, 39, 40, 41, 42, 43] (by decide +kernel) (by decide +kernel)) (goodIn_sub (fun _ h => List.mem_cons_of_mem _ (List.mem_append_left _ (List.mem_append_left _ (List.mem_append_right _ h)))) (by decide +kernel))
set_option maxRecDepth 20000 in
theorem gX2_poke_X2_refuseIfSealed : GoodIn wsX2_poke (wsV RX2 33 RX2 yX2_refuseIfSealed wsX2_refuseIfSealed) := goodIn_app (goodIn_of _ (by decide +kernel)) ggX2_poke_X2_refuseIfSealed
set_option maxRecDepth 20000 in
theorem ggX2_poke_X2_addressOf : GoodIn wsX2_poke wsX2_addressOf := goodIn_ca (goodIn_ca (goodIn_r _ [13, 14, 15, 16, 17, 18, 19, 5, 20, 21, 22, 23, 24, 25, 26, 27, 28, 29, 30, 31, 32, 33, 34, 35, 36, 37, 38, 39, 40, 41, 42, 43, 44, 45, 46, 47, 48, 49, 50, 51, 52, 53] (by decide +kernel) (by decide +kernel)) (goodIn_sub (fun _ h => List.mem_cons_of_mem _ (List.mem_append_left _ (List.mem_append_right _ h))) (by decide +kernel))) (goodIn_sub (fun _ h => List.mem_cons_of_mem _ (List.mem_append_right _ h)) (by decide +kernel))
set_option maxRecDepth 20000 in
theorem gX2_poke_X2_addressOf : GoodIn wsX2_poke (wsV RX2 85 RX2 yX2_addressOf wsX2_addressOf) := goodIn_app (goodIn_of _ (by decide +kernel)) ggX2_poke_X2_addressOf
theorem dX2_poke_0 : decode cX2_poke 0 = .ok (.aload_n 0, 1) := by decide +kernel
theorem dX2_poke_1 : decode cX2_poke 1 = .ok (.invokevirtual 33, 3) := by decide +kernel
theorem dX2_poke_4 : decode cX2_poke 4 = .ok (.aload_n 0, 1) := by decide +kernel
theorem dX2_poke_5 : decode cX2_poke 5 = .ok (.iload_n 1, 1) := by decide +kernel
theorem dX2_poke_6 : decode cX2_poke 6 = .ok (.iload_n 2, 1) := by decide +kernel
theorem dX2_poke_7 : decode cX2_poke 7 = .ok (.invokevirtual 85, 3) := by decide +kernel
theorem dX2_poke_10 : decode cX2_poke 10 = .ok (.istore 4, 2) := by decide +kernel
theorem dX2_poke_12 : decode cX2_poke 12 = .ok (.aload_n 0, 1) := by decide +kernel
theorem dX2_poke_13 : decode cX2_poke 13 = .ok (.getfield 9, 3) := by decide +kernel
theorem dX2_poke_16 : decode cX2_poke 16 = .ok (.iload 4, 2) := by decide +kernel
theorem dX2_poke_18 : decode cX2_poke 18 = .ok (.iaload, 1) := by decide +kernel
theorem dX2_poke_19 : decode cX2_poke 19 = .ok (.istore 5, 2) := by decide +kernel
theorem dX2_poke_21 : decode cX2_poke 21 = .ok (.aload_n 0, 1) := by decide +kernel
theorem dX2_poke_22 : decode cX2_poke 22 = .ok (.getfield 9, 3) := by decide +kernel
theorem dX2_poke_25 : decode cX2_poke 25 = .ok (.iload 4, 2) := by decide +kernel
theorem dX2_poke_27 : decode cX2_poke 27 = .ok (.iload_n 3, 1) := by decide +kernel
theorem dX2_poke_28 : decode cX2_poke 28 = .ok (.iastore, 1) := by decide +kernel
theorem dX2_poke_29 : decode cX2_poke 29 = .ok (.iload 5, 2) := by decide +kernel
theorem dX2_poke_31 : decode cX2_poke 31 = .ok (.ireturn, 1) := by decide +kernel
set_option maxRecDepth 20000 in
theorem ggX2_peek_X2_addressOf : GoodIn wsX2_peek wsX2_addressOf := goodIn_ca (goodIn_ca (goodIn_r _ [6, 7, 8, 9, 10, 11, 12, 5, 13, 14, 15, 16, 17, 18, 19, 20, 21, 22, 23, 24, 25, 26, 27, 28, 29, 30, 31, 32, 33, 34, 35, 36, 37, 38, 39, 40, 41, 42, 43, 44, 45, 46] (by decide +kernel) (by decide +kernel)) (goodIn_sub (fun _ h => List.mem_cons_of_mem _ (List.mem_append_left _ (List.mem_append_right _ h))) (by decide +kernel))) (goodIn_sub (fun _ h => List.mem_cons_of_mem _ (List.mem_append_right _ h)) (by decide +kernel))
set_option maxRecDepth 20000 in
theorem gX2_peek_X2_addressOf : GoodIn wsX2_peek (wsV RX2 85 RX2 yX2_addressOf wsX2_addressOf) := goodIn_app (goodIn_of _ (by decide +kernel)) ggX2_peek_X2_addressOf
theorem dX2_peek_0 : decode cX2_peek 0 = .ok (.aload_n 0, 1) := by decide +kernel
theorem dX2_peek_1 : decode cX2_peek 1 = .ok (.getfield 9, 3) := by decide +kernel
theorem dX2_peek_4 : decode cX2_peek 4 = .ok (.aload_n 0, 1) := by decide +kernel
theorem dX2_peek_5 : decode cX2_peek 5 = .ok (.iload_n 1, 1) := by decide +kernel
theorem dX2_peek_6 : decode cX2_peek 6 = .ok (.iload_n 2, 1) := by decide +kernel
theorem dX2_peek_7 : decode cX2_peek 7 = .ok (.invokevirtual 85, 3) := by decide +kernel
theorem dX2_peek_10 : decode cX2_peek 10 = .ok (.iaload, 1) := by decide +kernel
theorem dX2_peek_11 : decode cX2_peek 11 = .ok (.ireturn, 1) := by decide +kernel
set_option maxRecDepth 20000 in
theorem ggX2_seal_X2_refuseIfSealed : GoodIn wsX2_seal wsX2_refuseIfSealed := goodIn_ca (goodIn_r _ [10, 1, 2, 4, 11, 12, 13, 14, 15, 16, 17, 18, 19, 20, 21, 22] (by decide +kernel) (by decide +kernel)) (goodIn_sub (fun _ h => List.mem_cons_of_mem _ (List.mem_append_right _ h)) (by decide +kernel))
set_option maxRecDepth 20000 in
theorem gX2_seal_X2_refuseIfSealed : GoodIn wsX2_seal (wsV RX2 33 RX2 yX2_refuseIfSealed wsX2_refuseIfSealed) := goodIn_app (goodIn_of _ (by decide +kernel)) ggX2_seal_X2_refuseIfSealed
theorem dX2_seal_0 : decode cX2_seal 0 = .ok (.aload_n 0, 1) := by decide +kernel
theorem dX2_seal_1 : decode cX2_seal 1 = .ok (.invokevirtual 33, 3) := by decide +kernel
theorem dX2_seal_4 : decode cX2_seal 4 = .ok (.aload_n 0, 1) := by decide +kernel
theorem dX2_seal_5 : decode cX2_seal 5 = .ok (.getfield 66, 3) := by decide +kernel
theorem dX2_seal_8 : decode cX2_seal 8 = .ok (.ifCond .ne 13, 3) := by decide +kernel
theorem dX2_seal_11 : decode cX2_seal 11 = .ok (.new 89, 3) := by decide +kernel
theorem dX2_seal_14 : decode cX2_seal 14 = .ok (.dup, 1) := by decide +kernel
theorem dX2_seal_15 : decode cX2_seal 15 = .ok (.ldc 91, 2) := by decide +kernel
theorem dX2_seal_17 : decode cX2_seal 17 = .ok (.invokespecial 93, 3) := by decide +kernel
theorem dX2_seal_20 : decode cX2_seal 20 = .ok (.athrow, 1) := by decide +kernel
theorem dX2_seal_21 : decode cX2_seal 21 = .ok (.aload_n 0, 1) := by decide +kernel
theorem dX2_seal_22 : decode cX2_seal 22 = .ok (.iconst 1, 1) := by decide +kernel
theorem dX2_seal_23 : decode cX2_seal 23 = .ok (.putfield 94, 3) := by decide +kernel
theorem dX2_seal_26 : decode cX2_seal 26 = .ok (.aload_n 0, 1) := by decide +kernel
theorem dX2_seal_27 : decode cX2_seal 27 = .ok (.getfield 72, 3) := by decide +kernel
theorem dX2_seal_30 : decode cX2_seal 30 = .ok (.ireturn, 1) := by decide +kernel
set_option maxRecDepth 20000 in
theorem ggX2_step_X2_goOneTick : GoodIn wsX2_step wsX2_goOneTick := goodIn_r _ [10, 11, 12, 13, 14, 15, 16, 17, 18, 9, 19, 20, 21, 22, 23, 24, 25, 26, 27, 28, 29, 30, 31, 32, 33, 34, 35, 36, 37, 38, 39, 40, 41, 42, 43, 44, 45, 46, 47, 48, 49, 50, 51, 52, 53, 54, 55, 56, 57, 58, 59, 60, 61, 62, 63, 64, 65, 66, 67, 68, 69, 70, 71, 72, 73, 74, 75, 76, 77, 78, 79, 80, 81, 82, 83, 84, 85, 86, 87, 88, 89, 90, 91, 92, 93, 94, 95, 96, 97, 98, 99, 100, 101, 102, 103, 104, 105, 106, 107, 108, 109, 110, 111, 112, 113, 114, 115, 116, 117, 118, 119, 120, 121, 122, 123, 124, 125, 126, 127, 128, 129, 130, 131, 132, 133, 134, 135, 136, 137, 138, 139, 140, 141, 142] (by decide +kernel) (by decide +kernel)
set_option maxRecDepth 20000 in
theorem gX2_step_X2_goOneTick : GoodIn wsX2_step (wsV RX2 101 RX2 yX2_goOneTick wsX2_goOneTick) := goodIn_app (goodIn_of _ (by decide +kernel)) ggX2_step_X2_goOneTick
theorem dX2_step_0 : decode cX2_step 0 = .ok (.aload_n 0, 1) := by decide +kernel
theorem dX2_step_1 : decode cX2_step 1 = .ok (.getfield 94, 3) := by decide +kernel
theorem dX2_step_4 : decode cX2_step 4 = .ok (.ifCond .ne 13, 3) := by decide +kernel
theorem dX2_step_7 : decode cX2_step 7 = .ok (.new 89, 3) := by decide +kernel
theorem dX2_step_10 : decode cX2_step 10 = .ok (.dup, 1) := by decide +kernel
theorem dX2_step_11 : decode cX2_step 11 = .ok (.ldc 97, 2) := by decide +kernel
theorem dX2_step_13 : decode cX2_step 13 = .ok (.invokespecial 93, 3) := by decide +kernel
theorem dX2_step_16 : decode cX2_step 16 = .ok (.athrow, 1) := by decide +kernel
theorem dX2_step_17 : decode cX2_step 17 = .ok (.iload_n 1, 1) := by decide +kernel
theorem dX2_step_18 : decode cX2_step 18 = .ok (.ifCond .lt 10, 3) := by decide +kernel
theorem dX2_step_21 : decode cX2_step 21 = .ok (.iload_n 1, 1) := by decide +kernel
theorem dX2_step_22 : decode cX2_step 22 = .ok (.sipush 5000, 3) := by decide +kernel
theorem dX2_step_25 : decode cX2_step 25 = .ok (.if_icmp .le 13, 3) := by decide +kernel
theorem dX2_step_28 : decode cX2_step 28 = .ok (.new 40, 3) := by decide +kernel
theorem dX2_step_31 : decode cX2_step 31 = .ok (.dup, 1) := by decide +kernel
theorem dX2_step_32 : decode cX2_step 32 = .ok (.ldc 99, 2) := by decide +kernel
theorem dX2_step_34 : decode cX2_step 34 = .ok (.invokespecial 44, 3) := by decide +kernel
theorem dX2_step_37 : decode cX2_step 37 = .ok (.athrow, 1) := by decide +kernel
theorem dX2_step_38 : decode cX2_step 38 = .ok (.iconst 0, 1) := by decide +kernel
theorem dX2_step_39 : decode cX2_step 39 = .ok (.istore_n 2, 1) := by decide +kernel
theorem dX2_step_40 : decode cX2_step 40 = .ok (.iconst 0, 1) := by decide +kernel
theorem dX2_step_41 : decode cX2_step 41 = .ok (.istore_n 3, 1) := by decide +kernel
theorem dX2_step_42 : decode cX2_step 42 = .ok (.iload_n 3, 1) := by decide +kernel
theorem dX2_step_43 : decode cX2_step 43 = .ok (.iload_n 1, 1) := by decide +kernel
theorem dX2_step_44 : decode cX2_step 44 = .ok (.if_icmp .ge 19, 3) := by decide +kernel
theorem dX2_step_47 : decode cX2_step 47 = .ok (.aload_n 0, 1) := by decide +kernel
theorem dX2_step_48 : decode cX2_step 48 = .ok (.invokevirtual 101, 3) := by decide +kernel
theorem dX2_step_51 : decode cX2_step 51 = .ok (.ifCond .eq 6, 3) := by decide +kernel
theorem dX2_step_54 : decode cX2_step 54 = .ok (.iinc 2 1, 3) := by decide +kernel
theorem dX2_step_57 : decode cX2_step 57 = .ok (.iinc 3 1, 3) := by decide +kernel
theorem dX2_step_60 : decode cX2_step 60 = .ok (.goto (-18), 3) := by decide +kernel
theorem dX2_step_63 : decode cX2_step 63 = .ok (.iload_n 2, 1) := by decide +kernel
theorem dX2_step_64 : decode cX2_step 64 = .ok (.ireturn, 1) := by decide +kernel
set_option maxRecDepth 20000 in
theorem ggX2_told_X1_report : GoodIn wsX2_told wsX1_report := goodIn_r _ [7, 8, 9, 10, 11, 12, 13, 14, 27, 28, 29, 30, 31, 32, 33, 34, 35, 36] (by decide +kernel) (by decide +kernel)
set_option maxRecDepth 20000 in
theorem gX2_told_X1_report_n106 : GoodIn wsX2_told (wsX1_report) := ggX2_told_X1_report
theorem dX2_told_0 : decode cX2_told 0 = .ok (.iload_n 1, 1) := by decide +kernel
theorem dX2_told_1 : decode cX2_told 1 = .ok (.ifCond .lt 19, 3) := by decide +kernel
theorem dX2_told_4 : decode cX2_told 4 = .ok (.iload_n 1, 1) := by decide +kernel
theorem dX2_told_5 : decode cX2_told 5 = .ok (.bipush 6, 2) := by decide +kernel
theorem dX2_told_7 : decode cX2_told 7 = .ok (.if_icmp .ge 13, 3) := by decide +kernel
theorem dX2_told_10 : decode cX2_told 10 = .ok (.iload_n 2, 1) := by decide +kernel
theorem dX2_told_11 : decode cX2_told 11 = .ok (.ifCond .lt 9, 3) := by decide +kernel
theorem dX2_told_14 : decode cX2_told 14 = .ok (.iload_n 2, 1) := by decide +kernel
theorem dX2_told_15 : decode cX2_told 15 = .ok (.bipush 9, 2) := by decide +kernel
theorem dX2_told_17 : decode cX2_told 17 = .ok (.if_icmp .le 13, 3) := by decide +kernel
theorem dX2_told_20 : decode cX2_told 20 = .ok (.new 40, 3) := by decide +kernel
theorem dX2_told_23 : decode cX2_told 23 = .ok (.dup, 1) := by decide +kernel
theorem dX2_told_24 : decode cX2_told 24 = .ok (.ldc 104, 2) := by decide +kernel
theorem dX2_told_26 : decode cX2_told 26 = .ok (.invokespecial 44, 3) := by decide +kernel
theorem dX2_told_29 : decode cX2_told 29 = .ok (.athrow, 1) := by decide +kernel
theorem dX2_told_30 : decode cX2_told 30 = .ok (.aload_n 0, 1) := by decide +kernel
theorem dX2_told_31 : decode cX2_told 31 = .ok (.getfield 15, 3) := by decide +kernel
theorem dX2_told_34 : decode cX2_told 34 = .ok (.iload_n 1, 1) := by decide +kernel
theorem dX2_told_35 : decode cX2_told 35 = .ok (.aaload, 1) := by decide +kernel
theorem dX2_told_36 : decode cX2_told 36 = .ok (.iload_n 2, 1) := by decide +kernel
theorem dX2_told_37 : decode cX2_told 37 = .ok (.invokevirtual 106, 3) := by decide +kernel
theorem dX2_told_40 : decode cX2_told 40 = .ok (.ireturn, 1) := by decide +kernel
set_option maxRecDepth 20000 in
theorem ggX2_has_X2_isChannel : GoodIn wsX2_has wsX2_isChannel := goodIn_r _ [9, 3, 42, 43, 44, 45, 46, 47, 48, 49, 50, 51, 52, 53, 54, 55, 56, 57, 58, 59, 60, 61, 62, 63] (by decide +kernel) (by decide +kernel)
set_option maxRecDepth 20000 in
theorem gX2_has_X2_isChannel : GoodIn wsX2_has (wsV RX2 110 RX2 yX2_isChannel wsX2_isChannel) := goodIn_app (goodIn_of _ (by decide +kernel)) ggX2_has_X2_isChannel
set_option maxRecDepth 20000 in
theorem ggX2_has_X0_report : GoodIn wsX2_has wsX0_report := goodIn_r _ [13, 14, 15, 16, 17, 18, 19, 11, 20, 21, 22, 23, 24, 25, 26, 27, 28, 29, 30, 31, 32, 33, 34, 35, 36, 37, 38, 39, 40, 41, 54, 55, 56, 57, 58, 59, 60, 61, 62, 63] (by decide +kernel) (by decide +kernel)
set_option maxRecDepth 20000 in
theorem gX2_has_X0_report_n119 : GoodIn wsX2_has (wsX0_report) := ggX2_has_X0_report
theorem dX2_has_0 : decode cX2_has 0 = .ok (.aload_n 0, 1) := by decide +kernel
theorem dX2_has_1 : decode cX2_has 1 = .ok (.iload_n 1, 1) := by decide +kernel
theorem dX2_has_2 : decode cX2_has 2 = .ok (.invokevirtual 110, 3) := by decide +kernel
theorem dX2_has_5 : decode cX2_has 5 = .ok (.ifCond .eq 12, 3) := by decide +kernel
theorem dX2_has_8 : decode cX2_has 8 = .ok (.iload_n 2, 1) := by decide +kernel
theorem dX2_has_9 : decode cX2_has 9 = .ok (.ifCond .lt 8, 3) := by decide +kernel
theorem dX2_has_12 : decode cX2_has 12 = .ok (.iload_n 2, 1) := by decide +kernel
theorem dX2_has_13 : decode cX2_has 13 = .ok (.iconst 4, 1) := by decide +kernel
theorem dX2_has_14 : decode cX2_has 14 = .ok (.if_icmp .le 13, 3) := by decide +kernel
theorem dX2_has_17 : decode cX2_has 17 = .ok (.new 40, 3) := by decide +kernel
theorem dX2_has_20 : decode cX2_has 20 = .ok (.dup, 1) := by decide +kernel
theorem dX2_has_21 : decode cX2_has 21 = .ok (.ldc 114, 2) := by decide +kernel
theorem dX2_has_23 : decode cX2_has 23 = .ok (.invokespecial 44, 3) := by decide +kernel
theorem dX2_has_26 : decode cX2_has 26 = .ok (.athrow, 1) := by decide +kernel
theorem dX2_has_27 : decode cX2_has 27 = .ok (.aload_n 0, 1) := by decide +kernel
theorem dX2_has_28 : decode cX2_has 28 = .ok (.getfield 22, 3) := by decide +kernel
theorem dX2_has_31 : decode cX2_has 31 = .ok (.iload_n 1, 1) := by decide +kernel
theorem dX2_has_32 : decode cX2_has 32 = .ok (.aaload, 1) := by decide +kernel
theorem dX2_has_33 : decode cX2_has 33 = .ok (.iload_n 2, 1) := by decide +kernel
theorem dX2_has_34 : decode cX2_has 34 = .ok (.aload_n 0, 1) := by decide +kernel
theorem dX2_has_35 : decode cX2_has 35 = .ok (.getfield 116, 3) := by decide +kernel
theorem dX2_has_38 : decode cX2_has 38 = .ok (.invokevirtual 119, 3) := by decide +kernel
theorem dX2_has_41 : decode cX2_has 41 = .ok (.ireturn, 1) := by decide +kernel
set_option maxRecDepth 20000 in
theorem ggX2_queued_X2_isChannel : GoodIn wsX2_queued wsX2_isChannel := goodIn_r _ [8, 3, 24, 25, 26, 27, 28, 29, 30, 31, 32, 33, 34, 35, 36, 37, 38, 39, 40, 41, 42, 43, 44, 45] (by decide +kernel) (by decide +kernel)
set_option maxRecDepth 20000 in
theorem gX2_queued_X2_isChannel : GoodIn wsX2_queued (wsV RX2 110 RX2 yX2_isChannel wsX2_isChannel) := goodIn_app (goodIn_of _ (by decide +kernel)) ggX2_queued_X2_isChannel
set_option maxRecDepth 20000 in
theorem ggX2_queued_X0_isSlot : GoodIn wsX2_queued wsX0_isSlot := goodIn_r _ [12, 13, 36, 37, 38, 39, 40, 41, 42, 43, 44, 45] (by decide +kernel) (by decide +kernel)
set_option maxRecDepth 20000 in
theorem gX2_queued_X0_isSlot_n123 : GoodIn wsX2_queued (wsX0_isSlot) := ggX2_queued_X0_isSlot
set_option maxRecDepth 20000 in
theorem ggX2_queued_X0_wordAt : GoodIn wsX2_queued wsX0_wordAt := goodIn_r _ [16, 17, 18, 19, 20, 21, 10, 22, 23, 36, 37, 38, 39, 40, 41, 42, 43, 44, 45] (by decide +kernel) (by decide +kernel)
set_option maxRecDepth 20000 in
theorem gX2_queued_X0_wordAt_n126 : GoodIn wsX2_queued (wsX0_wordAt) := ggX2_queued_X0_wordAt
theorem dX2_queued_0 : decode cX2_queued 0 = .ok (.aload_n 0, 1) := by decide +kernel
theorem dX2_queued_1 : decode cX2_queued 1 = .ok (.iload_n 1, 1) := by decide +kernel
theorem dX2_queued_2 : decode cX2_queued 2 = .ok (.invokevirtual 110, 3) := by decide +kernel
theorem dX2_queued_5 : decode cX2_queued 5 = .ok (.ifCond .ne 13, 3) := by decide +kernel
theorem dX2_queued_8 : decode cX2_queued 8 = .ok (.new 40, 3) := by decide +kernel
theorem dX2_queued_11 : decode cX2_queued 11 = .ok (.dup, 1) := by decide +kernel
theorem dX2_queued_12 : decode cX2_queued 12 = .ok (.ldc 121, 2) := by decide +kernel
theorem dX2_queued_14 : decode cX2_queued 14 = .ok (.invokespecial 44, 3) := by decide +kernel
theorem dX2_queued_17 : decode cX2_queued 17 = .ok (.athrow, 1) := by decide +kernel
theorem dX2_queued_18 : decode cX2_queued 18 = .ok (.aload_n 0, 1) := by decide +kernel
theorem dX2_queued_19 : decode cX2_queued 19 = .ok (.getfield 22, 3) := by decide +kernel
theorem dX2_queued_22 : decode cX2_queued 22 = .ok (.iload_n 1, 1) := by decide +kernel
theorem dX2_queued_23 : decode cX2_queued 23 = .ok (.aaload, 1) := by decide +kernel
theorem dX2_queued_24 : decode cX2_queued 24 = .ok (.invokevirtual 123, 3) := by decide +kernel
theorem dX2_queued_27 : decode cX2_queued 27 = .ok (.ifCond .eq 7, 3) := by decide +kernel
theorem dX2_queued_30 : decode cX2_queued 30 = .ok (.iconst 0, 1) := by decide +kernel
theorem dX2_queued_31 : decode cX2_queued 31 = .ok (.goto 13, 3) := by decide +kernel
theorem dX2_queued_34 : decode cX2_queued 34 = .ok (.aload_n 0, 1) := by decide +kernel
theorem dX2_queued_35 : decode cX2_queued 35 = .ok (.getfield 22, 3) := by decide +kernel
theorem dX2_queued_38 : decode cX2_queued 38 = .ok (.iload_n 1, 1) := by decide +kernel
theorem dX2_queued_39 : decode cX2_queued 39 = .ok (.aaload, 1) := by decide +kernel
theorem dX2_queued_40 : decode cX2_queued 40 = .ok (.iload_n 2, 1) := by decide +kernel
theorem dX2_queued_41 : decode cX2_queued 41 = .ok (.invokevirtual 126, 3) := by decide +kernel
theorem dX2_queued_44 : decode cX2_queued 44 = .ok (.ireturn, 1) := by decide +kernel
theorem dX2_current_0 : decode cX2_current 0 = .ok (.aload_n 0, 1) := by decide +kernel
theorem dX2_current_1 : decode cX2_current 1 = .ok (.getfield 94, 3) := by decide +kernel
theorem dX2_current_4 : decode cX2_current 4 = .ok (.ifCond .eq 15, 3) := by decide +kernel
theorem dX2_current_7 : decode cX2_current 7 = .ok (.aload_n 0, 1) := by decide +kernel
theorem dX2_current_8 : decode cX2_current 8 = .ok (.getfield 27, 3) := by decide +kernel
theorem dX2_current_11 : decode cX2_current 11 = .ok (.aload_n 0, 1) := by decide +kernel
theorem dX2_current_12 : decode cX2_current 12 = .ok (.getfield 129, 3) := by decide +kernel
theorem dX2_current_15 : decode cX2_current 15 = .ok (.iaload, 1) := by decide +kernel
theorem dX2_current_16 : decode cX2_current 16 = .ok (.goto 4, 3) := by decide +kernel
theorem dX2_current_19 : decode cX2_current 19 = .ok (.iconst (-1), 1) := by decide +kernel
theorem dX2_current_20 : decode cX2_current 20 = .ok (.ireturn, 1) := by decide +kernel
theorem dX2_ticks_0 : decode cX2_ticks 0 = .ok (.aload_n 0, 1) := by decide +kernel
theorem dX2_ticks_1 : decode cX2_ticks 1 = .ok (.getfield 116, 3) := by decide +kernel
theorem dX2_ticks_4 : decode cX2_ticks 4 = .ok (.ireturn, 1) := by decide +kernel
theorem dX2_refuseIfSealed_0 : decode cX2_refuseIfSealed 0 = .ok (.aload_n 0, 1) := by decide +kernel
theorem dX2_refuseIfSealed_1 : decode cX2_refuseIfSealed 1 = .ok (.getfield 94, 3) := by decide +kernel
theorem dX2_refuseIfSealed_4 : decode cX2_refuseIfSealed 4 = .ok (.ifCond .eq 13, 3) := by decide +kernel
theorem dX2_refuseIfSealed_7 : decode cX2_refuseIfSealed 7 = .ok (.new 89, 3) := by decide +kernel
theorem dX2_refuseIfSealed_10 : decode cX2_refuseIfSealed 10 = .ok (.dup, 1) := by decide +kernel
theorem dX2_refuseIfSealed_11 : decode cX2_refuseIfSealed 11 = .ok (.ldc 132, 2) := by decide +kernel
theorem dX2_refuseIfSealed_13 : decode cX2_refuseIfSealed 13 = .ok (.invokespecial 93, 3) := by decide +kernel
theorem dX2_refuseIfSealed_16 : decode cX2_refuseIfSealed 16 = .ok (.athrow, 1) := by decide +kernel
theorem dX2_refuseIfSealed_17 : decode cX2_refuseIfSealed 17 = .ok (.return_, 1) := by decide +kernel
set_option maxRecDepth 20000 in
theorem ggX2_refuseUnlessTold_X1_isTold : GoodIn wsX2_refuseUnlessTold wsX1_isTold := goodIn_r _ [7, 8, 21, 22, 23, 24, 25, 26, 27, 28, 29, 30] (by decide +kernel) (by decide +kernel)
set_option maxRecDepth 20000 in
theorem gX2_refuseUnlessTold_X1_isTold_n36 : GoodIn wsX2_refuseUnlessTold (wsX1_isTold) := ggX2_refuseUnlessTold_X1_isTold
theorem dX2_refuseUnlessTold_0 : decode cX2_refuseUnlessTold 0 = .ok (.iload_n 1, 1) := by decide +kernel
theorem dX2_refuseUnlessTold_1 : decode cX2_refuseUnlessTold 1 = .ok (.ifCond .lt 21, 3) := by decide +kernel
theorem dX2_refuseUnlessTold_4 : decode cX2_refuseUnlessTold 4 = .ok (.iload_n 1, 1) := by decide +kernel
theorem dX2_refuseUnlessTold_5 : decode cX2_refuseUnlessTold 5 = .ok (.bipush 6, 2) := by decide +kernel
theorem dX2_refuseUnlessTold_7 : decode cX2_refuseUnlessTold 7 = .ok (.if_icmp .ge 15, 3) := by decide +kernel
theorem dX2_refuseUnlessTold_10 : decode cX2_refuseUnlessTold 10 = .ok (.aload_n 0, 1) := by decide +kernel
theorem dX2_refuseUnlessTold_11 : decode cX2_refuseUnlessTold 11 = .ok (.getfield 15, 3) := by decide +kernel
theorem dX2_refuseUnlessTold_14 : decode cX2_refuseUnlessTold 14 = .ok (.iload_n 1, 1) := by decide +kernel
theorem dX2_refuseUnlessTold_15 : decode cX2_refuseUnlessTold 15 = .ok (.aaload, 1) := by decide +kernel
theorem dX2_refuseUnlessTold_16 : decode cX2_refuseUnlessTold 16 = .ok (.invokevirtual 36, 3) := by decide +kernel
theorem dX2_refuseUnlessTold_19 : decode cX2_refuseUnlessTold 19 = .ok (.ifCond .ne 13, 3) := by decide +kernel
theorem dX2_refuseUnlessTold_22 : decode cX2_refuseUnlessTold 22 = .ok (.new 40, 3) := by decide +kernel
theorem dX2_refuseUnlessTold_25 : decode cX2_refuseUnlessTold 25 = .ok (.dup, 1) := by decide +kernel
theorem dX2_refuseUnlessTold_26 : decode cX2_refuseUnlessTold 26 = .ok (.ldc 133, 2) := by decide +kernel
theorem dX2_refuseUnlessTold_28 : decode cX2_refuseUnlessTold 28 = .ok (.invokespecial 44, 3) := by decide +kernel
theorem dX2_refuseUnlessTold_31 : decode cX2_refuseUnlessTold 31 = .ok (.athrow, 1) := by decide +kernel
theorem dX2_refuseUnlessTold_32 : decode cX2_refuseUnlessTold 32 = .ok (.return_, 1) := by decide +kernel
theorem dX2_isChannel_0 : decode cX2_isChannel 0 = .ok (.iload_n 1, 1) := by decide +kernel
theorem dX2_isChannel_1 : decode cX2_isChannel 1 = .ok (.ifCond .lt 25, 3) := by decide +kernel
theorem dX2_isChannel_4 : decode cX2_isChannel 4 = .ok (.iload_n 1, 1) := by decide +kernel
theorem dX2_isChannel_5 : decode cX2_isChannel 5 = .ok (.bipush 8, 2) := by decide +kernel
theorem dX2_isChannel_7 : decode cX2_isChannel 7 = .ok (.if_icmp .ge 19, 3) := by decide +kernel
theorem dX2_isChannel_10 : decode cX2_isChannel 10 = .ok (.aload_n 0, 1) := by decide +kernel
theorem dX2_isChannel_11 : decode cX2_isChannel 11 = .ok (.getfield 22, 3) := by decide +kernel
theorem dX2_isChannel_14 : decode cX2_isChannel 14 = .ok (.iload_n 1, 1) := by decide +kernel
theorem dX2_isChannel_15 : decode cX2_isChannel 15 = .ok (.aaload, 1) := by decide +kernel
theorem dX2_isChannel_16 : decode cX2_isChannel 16 = .ok (.getfield 75, 3) := by decide +kernel
theorem dX2_isChannel_19 : decode cX2_isChannel 19 = .ok (.ifCond .eq 7, 3) := by decide +kernel
theorem dX2_isChannel_22 : decode cX2_isChannel 22 = .ok (.iconst 1, 1) := by decide +kernel
theorem dX2_isChannel_23 : decode cX2_isChannel 23 = .ok (.goto 4, 3) := by decide +kernel
theorem dX2_isChannel_26 : decode cX2_isChannel 26 = .ok (.iconst 0, 1) := by decide +kernel
theorem dX2_isChannel_27 : decode cX2_isChannel 27 = .ok (.ireturn, 1) := by decide +kernel
theorem dX2_isInMemory_0 : decode cX2_isInMemory 0 = .ok (.iload_n 0, 1) := by decide +kernel
theorem dX2_isInMemory_1 : decode cX2_isInMemory 1 = .ok (.ifCond .lt 28, 3) := by decide +kernel
theorem dX2_isInMemory_4 : decode cX2_isInMemory 4 = .ok (.iload_n 0, 1) := by decide +kernel
theorem dX2_isInMemory_5 : decode cX2_isInMemory 5 = .ok (.sipush 512, 3) := by decide +kernel
theorem dX2_isInMemory_8 : decode cX2_isInMemory 8 = .ok (.if_icmp .ge 21, 3) := by decide +kernel
theorem dX2_isInMemory_11 : decode cX2_isInMemory 11 = .ok (.iload_n 1, 1) := by decide +kernel
theorem dX2_isInMemory_12 : decode cX2_isInMemory 12 = .ok (.iconst 1, 1) := by decide +kernel
theorem dX2_isInMemory_13 : decode cX2_isInMemory 13 = .ok (.if_icmp .lt 16, 3) := by decide +kernel
theorem dX2_isInMemory_16 : decode cX2_isInMemory 16 = .ok (.iload_n 1, 1) := by decide +kernel
theorem dX2_isInMemory_17 : decode cX2_isInMemory 17 = .ok (.sipush 512, 3) := by decide +kernel
theorem dX2_isInMemory_20 : decode cX2_isInMemory 20 = .ok (.iload_n 0, 1) := by decide +kernel
theorem dX2_isInMemory_21 : decode cX2_isInMemory 21 = .ok (.isub, 1) := by decide +kernel
theorem dX2_isInMemory_22 : decode cX2_isInMemory 22 = .ok (.if_icmp .gt 7, 3) := by decide +kernel
theorem dX2_isInMemory_25 : decode cX2_isInMemory 25 = .ok (.iconst 1, 1) := by decide +kernel
theorem dX2_isInMemory_26 : decode cX2_isInMemory 26 = .ok (.goto 4, 3) := by decide +kernel
theorem dX2_isInMemory_29 : decode cX2_isInMemory 29 = .ok (.iconst 0, 1) := by decide +kernel
theorem dX2_isInMemory_30 : decode cX2_isInMemory 30 = .ok (.ireturn, 1) := by decide +kernel
set_option maxRecDepth 20000 in
theorem ggX2_sharesWord_X1_meets : GoodIn wsX2_sharesWord wsX1_meets := goodIn_r _ [5, 6, 7, 8, 9, 10, 3, 11, 12, 25, 26, 27, 28, 29, 30, 31, 32, 33, 34] (by decide +kernel) (by decide +kernel)
set_option maxRecDepth 20000 in
theorem gX2_sharesWord_X1_meets_n135 : GoodIn wsX2_sharesWord (wsX1_meets) := ggX2_sharesWord_X1_meets
theorem dX2_sharesWord_0 : decode cX2_sharesWord 0 = .ok (.iconst 0, 1) := by decide +kernel
theorem dX2_sharesWord_1 : decode cX2_sharesWord 1 = .ok (.istore_n 3, 1) := by decide +kernel
theorem dX2_sharesWord_2 : decode cX2_sharesWord 2 = .ok (.iload_n 3, 1) := by decide +kernel
theorem dX2_sharesWord_3 : decode cX2_sharesWord 3 = .ok (.bipush 6, 2) := by decide +kernel
theorem dX2_sharesWord_5 : decode cX2_sharesWord 5 = .ok (.if_icmp .ge 25, 3) := by decide +kernel
theorem dX2_sharesWord_8 : decode cX2_sharesWord 8 = .ok (.aload_n 0, 1) := by decide +kernel
theorem dX2_sharesWord_9 : decode cX2_sharesWord 9 = .ok (.getfield 15, 3) := by decide +kernel
theorem dX2_sharesWord_12 : decode cX2_sharesWord 12 = .ok (.iload_n 3, 1) := by decide +kernel
theorem dX2_sharesWord_13 : decode cX2_sharesWord 13 = .ok (.aaload, 1) := by decide +kernel
theorem dX2_sharesWord_14 : decode cX2_sharesWord 14 = .ok (.iload_n 1, 1) := by decide +kernel
theorem dX2_sharesWord_15 : decode cX2_sharesWord 15 = .ok (.iload_n 2, 1) := by decide +kernel
theorem dX2_sharesWord_16 : decode cX2_sharesWord 16 = .ok (.invokevirtual 135, 3) := by decide +kernel
theorem dX2_sharesWord_19 : decode cX2_sharesWord 19 = .ok (.ifCond .eq 5, 3) := by decide +kernel
theorem dX2_sharesWord_22 : decode cX2_sharesWord 22 = .ok (.iconst 1, 1) := by decide +kernel
theorem dX2_sharesWord_23 : decode cX2_sharesWord 23 = .ok (.ireturn, 1) := by decide +kernel
theorem dX2_sharesWord_24 : decode cX2_sharesWord 24 = .ok (.iinc 3 1, 3) := by decide +kernel
theorem dX2_sharesWord_27 : decode cX2_sharesWord 27 = .ok (.goto (-25), 3) := by decide +kernel
theorem dX2_sharesWord_30 : decode cX2_sharesWord 30 = .ok (.iconst 0, 1) := by decide +kernel
theorem dX2_sharesWord_31 : decode cX2_sharesWord 31 = .ok (.ireturn, 1) := by decide +kernel
set_option maxRecDepth 20000 in
theorem ggX2_addressOf_X2_refuseUnlessTold : GoodIn wsX2_addressOf wsX2_refuseUnlessTold := goodIn_ca (goodIn_r _ [8, 9, 10, 3, 11, 12, 13, 14, 15, 20, 21, 22, 23, 24, 25, 26, 27, 28, 29, 30, 31, 32, 33, 34, 35, 36, 37, 38, 39, 40, 41] (by decide +kernel) (by decide +kernel)) (goodIn_sub (fun _ h => List.mem_cons_of_mem _ (List.mem_append_right _ h)) (by decide +kernel))
set_option maxRecDepth 20000 in
theorem gX2_addressOf_X2_refuseUnlessTold : GoodIn wsX2_addressOf (wsV RX2 62 RX2 yX2_refuseUnlessTold wsX2_refuseUnlessTold) := goodIn_app (goodIn_of _ (by decide +kernel)) ggX2_addressOf_X2_refuseUnlessTold
set_option maxRecDepth 20000 in
theorem ggX2_addressOf_X1_holds : GoodIn wsX2_addressOf wsX1_holds := goodIn_r _ [18, 19, 32, 33, 34, 35, 36, 37, 38, 39, 40, 41] (by decide +kernel) (by decide +kernel)
set_option maxRecDepth 20000 in
theorem gX2_addressOf_X1_holds_n138 : GoodIn wsX2_addressOf (wsX1_holds) := ggX2_addressOf_X1_holds
theorem dX2_addressOf_0 : decode cX2_addressOf 0 = .ok (.aload_n 0, 1) := by decide +kernel
theorem dX2_addressOf_1 : decode cX2_addressOf 1 = .ok (.iload_n 1, 1) := by decide +kernel
theorem dX2_addressOf_2 : decode cX2_addressOf 2 = .ok (.invokevirtual 62, 3) := by decide +kernel
theorem dX2_addressOf_5 : decode cX2_addressOf 5 = .ok (.aload_n 0, 1) := by decide +kernel
theorem dX2_addressOf_6 : decode cX2_addressOf 6 = .ok (.getfield 15, 3) := by decide +kernel
theorem dX2_addressOf_9 : decode cX2_addressOf 9 = .ok (.iload_n 1, 1) := by decide +kernel
theorem dX2_addressOf_10 : decode cX2_addressOf 10 = .ok (.aaload, 1) := by decide +kernel
theorem dX2_addressOf_11 : decode cX2_addressOf 11 = .ok (.iload_n 2, 1) := by decide +kernel
theorem dX2_addressOf_12 : decode cX2_addressOf 12 = .ok (.invokevirtual 138, 3) := by decide +kernel
theorem dX2_addressOf_15 : decode cX2_addressOf 15 = .ok (.ifCond .ne 13, 3) := by decide +kernel
theorem dX2_addressOf_18 : decode cX2_addressOf 18 = .ok (.new 141, 3) := by decide +kernel
theorem dX2_addressOf_21 : decode cX2_addressOf 21 = .ok (.dup, 1) := by decide +kernel
theorem dX2_addressOf_22 : decode cX2_addressOf 22 = .ok (.ldc 143, 2) := by decide +kernel
theorem dX2_addressOf_24 : decode cX2_addressOf 24 = .ok (.invokespecial 145, 3) := by decide +kernel
theorem dX2_addressOf_27 : decode cX2_addressOf 27 = .ok (.athrow, 1) := by decide +kernel
theorem dX2_addressOf_28 : decode cX2_addressOf 28 = .ok (.aload_n 0, 1) := by decide +kernel
theorem dX2_addressOf_29 : decode cX2_addressOf 29 = .ok (.getfield 15, 3) := by decide +kernel
theorem dX2_addressOf_32 : decode cX2_addressOf 32 = .ok (.iload_n 1, 1) := by decide +kernel
theorem dX2_addressOf_33 : decode cX2_addressOf 33 = .ok (.aaload, 1) := by decide +kernel
theorem dX2_addressOf_34 : decode cX2_addressOf 34 = .ok (.getfield 146, 3) := by decide +kernel
theorem dX2_addressOf_37 : decode cX2_addressOf 37 = .ok (.iload_n 2, 1) := by decide +kernel
theorem dX2_addressOf_38 : decode cX2_addressOf 38 = .ok (.iadd, 1) := by decide +kernel
theorem dX2_addressOf_39 : decode cX2_addressOf 39 = .ok (.ireturn, 1) := by decide +kernel
set_option maxRecDepth 20000 in
theorem ggX2_goOneTick_X2_runInstruction : GoodIn wsX2_goOneTick wsX2_runInstruction := goodIn_r _ [10, 5, 11, 4, 12, 13, 14, 15, 16, 17, 18, 19, 9, 20, 21, 22, 23, 24, 25, 26, 27, 28, 29, 30, 31, 32, 33, 34, 35, 36, 37, 1, 38, 39, 40, 41, 42, 43, 44, 45, 46, 47, 48, 49, 50, 51, 52, 53, 54, 55, 56, 57, 58, 59, 60, 61, 62, 63, 64, 65, 66, 67, 68, 69, 70, 71, 72, 73, 74, 75, 76, 77, 78, 79, 80, 81, 82, 83, 84, 85, 86, 87, 88, 89, 90, 91, 92, 93, 94, 102, 103, 104, 105, 106, 107, 108, 109, 110, 111, 112, 113, 114, 115, 116, 117, 118, 119, 120, 121, 122, 123, 124, 125, 126, 127, 128, 129, 130, 131, 132, 133] (by decide +kernel) (by decide +kernel)
set_option maxRecDepth 20000 in
theorem gX2_goOneTick_X2_runInstruction : GoodIn wsX2_goOneTick (wsV RX2 155 RX2 yX2_runInstruction wsX2_runInstruction) := goodIn_app (goodIn_of _ (by decide +kernel)) ggX2_goOneTick_X2_runInstruction
set_option maxRecDepth 20000 in
theorem ggX2_goOneTick_X2_moveWindowOn : GoodIn wsX2_goOneTick wsX2_moveWindowOn := goodIn_r _ [98, 99, 100, 3, 4, 101, 102, 103, 104, 105, 106, 107, 108, 109, 110, 111, 112, 113] (by decide +kernel) (by decide +kernel)
set_option maxRecDepth 20000 in
theorem gX2_goOneTick_X2_moveWindowOn : GoodIn wsX2_goOneTick (wsV RX2 158 RX2 yX2_moveWindowOn wsX2_moveWindowOn) := goodIn_app (goodIn_of _ (by decide +kernel)) ggX2_goOneTick_X2_moveWindowOn
theorem dX2_goOneTick_0 : decode cX2_goOneTick 0 = .ok (.aload_n 0, 1) := by decide +kernel
theorem dX2_goOneTick_1 : decode cX2_goOneTick 1 = .ok (.dup, 1) := by decide +kernel
theorem dX2_goOneTick_2 : decode cX2_goOneTick 2 = .ok (.getfield 116, 3) := by decide +kernel
theorem dX2_goOneTick_5 : decode cX2_goOneTick 5 = .ok (.iconst 1, 1) := by decide +kernel
theorem dX2_goOneTick_6 : decode cX2_goOneTick 6 = .ok (.iadd, 1) := by decide +kernel
theorem dX2_goOneTick_7 : decode cX2_goOneTick 7 = .ok (.putfield 116, 3) := by decide +kernel
theorem dX2_goOneTick_10 : decode cX2_goOneTick 10 = .ok (.aload_n 0, 1) := by decide +kernel
theorem dX2_goOneTick_11 : decode cX2_goOneTick 11 = .ok (.getfield 27, 3) := by decide +kernel
theorem dX2_goOneTick_14 : decode cX2_goOneTick 14 = .ok (.aload_n 0, 1) := by decide +kernel
theorem dX2_goOneTick_15 : decode cX2_goOneTick 15 = .ok (.getfield 129, 3) := by decide +kernel
theorem dX2_goOneTick_18 : decode cX2_goOneTick 18 = .ok (.iaload, 1) := by decide +kernel
theorem dX2_goOneTick_19 : decode cX2_goOneTick 19 = .ok (.istore_n 1, 1) := by decide +kernel
theorem dX2_goOneTick_20 : decode cX2_goOneTick 20 = .ok (.iload_n 1, 1) := by decide +kernel
theorem dX2_goOneTick_21 : decode cX2_goOneTick 21 = .ok (.iconst (-1), 1) := by decide +kernel
theorem dX2_goOneTick_22 : decode cX2_goOneTick 22 = .ok (.if_icmp .eq 27, 3) := by decide +kernel
theorem dX2_goOneTick_25 : decode cX2_goOneTick 25 = .ok (.aload_n 0, 1) := by decide +kernel
theorem dX2_goOneTick_26 : decode cX2_goOneTick 26 = .ok (.getfield 149, 3) := by decide +kernel
theorem dX2_goOneTick_29 : decode cX2_goOneTick 29 = .ok (.ifCond .ne 20, 3) := by decide +kernel
theorem dX2_goOneTick_32 : decode cX2_goOneTick 32 = .ok (.aload_n 0, 1) := by decide +kernel
theorem dX2_goOneTick_33 : decode cX2_goOneTick 33 = .ok (.getfield 15, 3) := by decide +kernel
theorem dX2_goOneTick_36 : decode cX2_goOneTick 36 = .ok (.iload_n 1, 1) := by decide +kernel
theorem dX2_goOneTick_37 : decode cX2_goOneTick 37 = .ok (.aaload, 1) := by decide +kernel
theorem dX2_goOneTick_38 : decode cX2_goOneTick 38 = .ok (.getfield 152, 3) := by decide +kernel
theorem dX2_goOneTick_41 : decode cX2_goOneTick 41 = .ok (.iconst 1, 1) := by decide +kernel
theorem dX2_goOneTick_42 : decode cX2_goOneTick 42 = .ok (.if_icmp .ne 7, 3) := by decide +kernel
theorem dX2_goOneTick_45 : decode cX2_goOneTick 45 = .ok (.iconst 1, 1) := by decide +kernel
theorem dX2_goOneTick_46 : decode cX2_goOneTick 46 = .ok (.goto 4, 3) := by decide +kernel
theorem dX2_goOneTick_49 : decode cX2_goOneTick 49 = .ok (.iconst 0, 1) := by decide +kernel
theorem dX2_goOneTick_50 : decode cX2_goOneTick 50 = .ok (.istore_n 2, 1) := by decide +kernel
theorem dX2_goOneTick_51 : decode cX2_goOneTick 51 = .ok (.iload_n 2, 1) := by decide +kernel
theorem dX2_goOneTick_52 : decode cX2_goOneTick 52 = .ok (.ifCond .eq 8, 3) := by decide +kernel
theorem dX2_goOneTick_55 : decode cX2_goOneTick 55 = .ok (.aload_n 0, 1) := by decide +kernel
theorem dX2_goOneTick_56 : decode cX2_goOneTick 56 = .ok (.iload_n 1, 1) := by decide +kernel
theorem dX2_goOneTick_57 : decode cX2_goOneTick 57 = .ok (.invokevirtual 155, 3) := by decide +kernel
theorem dX2_goOneTick_60 : decode cX2_goOneTick 60 = .ok (.aload_n 0, 1) := by decide +kernel
theorem dX2_goOneTick_61 : decode cX2_goOneTick 61 = .ok (.invokevirtual 158, 3) := by decide +kernel
theorem dX2_goOneTick_64 : decode cX2_goOneTick 64 = .ok (.iload_n 2, 1) := by decide +kernel
theorem dX2_goOneTick_65 : decode cX2_goOneTick 65 = .ok (.ireturn, 1) := by decide +kernel
theorem dX2_moveWindowOn_0 : decode cX2_moveWindowOn 0 = .ok (.aload_n 0, 1) := by decide +kernel
theorem dX2_moveWindowOn_1 : decode cX2_moveWindowOn 1 = .ok (.dup, 1) := by decide +kernel
theorem dX2_moveWindowOn_2 : decode cX2_moveWindowOn 2 = .ok (.getfield 161, 3) := by decide +kernel
theorem dX2_moveWindowOn_5 : decode cX2_moveWindowOn 5 = .ok (.iconst 1, 1) := by decide +kernel
theorem dX2_moveWindowOn_6 : decode cX2_moveWindowOn 6 = .ok (.iadd, 1) := by decide +kernel
theorem dX2_moveWindowOn_7 : decode cX2_moveWindowOn 7 = .ok (.putfield 161, 3) := by decide +kernel
theorem dX2_moveWindowOn_10 : decode cX2_moveWindowOn 10 = .ok (.aload_n 0, 1) := by decide +kernel
theorem dX2_moveWindowOn_11 : decode cX2_moveWindowOn 11 = .ok (.getfield 161, 3) := by decide +kernel
theorem dX2_moveWindowOn_14 : decode cX2_moveWindowOn 14 = .ok (.aload_n 0, 1) := by decide +kernel
theorem dX2_moveWindowOn_15 : decode cX2_moveWindowOn 15 = .ok (.getfield 30, 3) := by decide +kernel
theorem dX2_moveWindowOn_18 : decode cX2_moveWindowOn 18 = .ok (.aload_n 0, 1) := by decide +kernel
theorem dX2_moveWindowOn_19 : decode cX2_moveWindowOn 19 = .ok (.getfield 129, 3) := by decide +kernel
theorem dX2_moveWindowOn_22 : decode cX2_moveWindowOn 22 = .ok (.iaload, 1) := by decide +kernel
theorem dX2_moveWindowOn_23 : decode cX2_moveWindowOn 23 = .ok (.if_icmp .ge 4, 3) := by decide +kernel
theorem dX2_moveWindowOn_26 : decode cX2_moveWindowOn 26 = .ok (.return_, 1) := by decide +kernel
theorem dX2_moveWindowOn_27 : decode cX2_moveWindowOn 27 = .ok (.aload_n 0, 1) := by decide +kernel
theorem dX2_moveWindowOn_28 : decode cX2_moveWindowOn 28 = .ok (.iconst 0, 1) := by decide +kernel
theorem dX2_moveWindowOn_29 : decode cX2_moveWindowOn 29 = .ok (.putfield 161, 3) := by decide +kernel
theorem dX2_moveWindowOn_32 : decode cX2_moveWindowOn 32 = .ok (.aload_n 0, 1) := by decide +kernel
theorem dX2_moveWindowOn_33 : decode cX2_moveWindowOn 33 = .ok (.iconst 0, 1) := by decide +kernel
theorem dX2_moveWindowOn_34 : decode cX2_moveWindowOn 34 = .ok (.putfield 149, 3) := by decide +kernel
theorem dX2_moveWindowOn_37 : decode cX2_moveWindowOn 37 = .ok (.aload_n 0, 1) := by decide +kernel
theorem dX2_moveWindowOn_38 : decode cX2_moveWindowOn 38 = .ok (.dup, 1) := by decide +kernel
theorem dX2_moveWindowOn_39 : decode cX2_moveWindowOn 39 = .ok (.getfield 129, 3) := by decide +kernel
theorem dX2_moveWindowOn_42 : decode cX2_moveWindowOn 42 = .ok (.iconst 1, 1) := by decide +kernel
theorem dX2_moveWindowOn_43 : decode cX2_moveWindowOn 43 = .ok (.iadd, 1) := by decide +kernel
theorem dX2_moveWindowOn_44 : decode cX2_moveWindowOn 44 = .ok (.putfield 129, 3) := by decide +kernel
theorem dX2_moveWindowOn_47 : decode cX2_moveWindowOn 47 = .ok (.aload_n 0, 1) := by decide +kernel
theorem dX2_moveWindowOn_48 : decode cX2_moveWindowOn 48 = .ok (.getfield 129, 3) := by decide +kernel
theorem dX2_moveWindowOn_51 : decode cX2_moveWindowOn 51 = .ok (.aload_n 0, 1) := by decide +kernel
theorem dX2_moveWindowOn_52 : decode cX2_moveWindowOn 52 = .ok (.getfield 66, 3) := by decide +kernel
theorem dX2_moveWindowOn_55 : decode cX2_moveWindowOn 55 = .ok (.if_icmp .lt 8, 3) := by decide +kernel
theorem dX2_moveWindowOn_58 : decode cX2_moveWindowOn 58 = .ok (.aload_n 0, 1) := by decide +kernel
theorem dX2_moveWindowOn_59 : decode cX2_moveWindowOn 59 = .ok (.iconst 0, 1) := by decide +kernel
theorem dX2_moveWindowOn_60 : decode cX2_moveWindowOn 60 = .ok (.putfield 129, 3) := by decide +kernel
theorem dX2_moveWindowOn_63 : decode cX2_moveWindowOn 63 = .ok (.return_, 1) := by decide +kernel
set_option maxRecDepth 20000 in
theorem ggX2_runInstruction_X1_holds : GoodIn wsX2_runInstruction wsX1_holds := goodIn_r _ [7, 8, 101, 102, 103, 104, 105, 106, 107, 108, 109, 110] (by decide +kernel) (by decide +kernel)
set_option maxRecDepth 20000 in
theorem gX2_runInstruction_X1_holds_n138 : GoodIn wsX2_runInstruction (wsX1_holds) := ggX2_runInstruction_X1_holds
set_option maxRecDepth 20000 in
theorem ggX2_runInstruction_X2_perform : GoodIn wsX2_runInstruction wsX2_perform := goodIn_r _ [13, 1, 3, 14, 15, 16, 12, 17, 2, 4, 5, 6, 7, 8, 18, 19, 20, 21, 22, 23, 24, 25, 26, 27, 28, 29, 30, 31, 32, 33, 34, 35, 36, 37, 38, 39, 40, 41, 42, 43, 44, 45, 46, 47, 48, 49, 50, 51, 52, 53, 54, 55, 56, 57, 58, 59, 60, 61, 62, 63, 64, 65, 66, 67, 68, 69, 70, 71, 72, 73, 74, 75, 89, 90, 91, 92, 93, 94, 95, 96, 97, 98, 99, 100, 101, 102, 103, 104, 105, 106, 107, 108, 109, 110, 111, 112, 113, 114, 115, 116, 117, 118, 119, 120] (by decide +kernel) (by decide +kernel)
set_option maxRecDepth 20000 in
theorem gX2_runInstruction_X2_perform : GoodIn wsX2_runInstruction (wsV RX2 167 RX2 yX2_perform wsX2_perform) := goodIn_app (goodIn_of _ (by decide +kernel)) ggX2_runInstruction_X2_perform
set_option maxRecDepth 20000 in
theorem ggX2_runInstruction_X1_restartAfter : GoodIn wsX2_runInstruction wsX1_restartAfter := goodIn_r _ [78, 79, 80, 81, 82, 83, 84, 25, 85, 86, 87, 88, 101, 102, 103, 104, 105, 106, 107, 108, 109, 110] (by decide +kernel) (by decide +kernel)
set_option maxRecDepth 20000 in
theorem gX2_runInstruction_X1_restartAfter_n173 : GoodIn wsX2_runInstruction (wsX1_restartAfter) := ggX2_runInstruction_X1_restartAfter
theorem dX2_runInstruction_0 : decode cX2_runInstruction 0 = .ok (.aload_n 0, 1) := by decide +kernel
theorem dX2_runInstruction_1 : decode cX2_runInstruction 1 = .ok (.getfield 15, 3) := by decide +kernel
theorem dX2_runInstruction_4 : decode cX2_runInstruction 4 = .ok (.iload_n 1, 1) := by decide +kernel
theorem dX2_runInstruction_5 : decode cX2_runInstruction 5 = .ok (.aaload, 1) := by decide +kernel
theorem dX2_runInstruction_6 : decode cX2_runInstruction 6 = .ok (.astore_n 2, 1) := by decide +kernel
theorem dX2_runInstruction_7 : decode cX2_runInstruction 7 = .ok (.aload_n 2, 1) := by decide +kernel
theorem dX2_runInstruction_8 : decode cX2_runInstruction 8 = .ok (.getfield 164, 3) := by decide +kernel
theorem dX2_runInstruction_11 : decode cX2_runInstruction 11 = .ok (.istore_n 3, 1) := by decide +kernel
theorem dX2_runInstruction_12 : decode cX2_runInstruction 12 = .ok (.iconst 1, 1) := by decide +kernel
theorem dX2_runInstruction_13 : decode cX2_runInstruction 13 = .ok (.istore 4, 2) := by decide +kernel
theorem dX2_runInstruction_15 : decode cX2_runInstruction 15 = .ok (.aload_n 2, 1) := by decide +kernel
theorem dX2_runInstruction_16 : decode cX2_runInstruction 16 = .ok (.iload_n 3, 1) := by decide +kernel
theorem dX2_runInstruction_17 : decode cX2_runInstruction 17 = .ok (.invokevirtual 138, 3) := by decide +kernel
theorem dX2_runInstruction_20 : decode cX2_runInstruction 20 = .ok (.ifCond .eq 28, 3) := by decide +kernel
theorem dX2_runInstruction_23 : decode cX2_runInstruction 23 = .ok (.aload_n 2, 1) := by decide +kernel
theorem dX2_runInstruction_24 : decode cX2_runInstruction 24 = .ok (.iload_n 3, 1) := by decide +kernel
theorem dX2_runInstruction_25 : decode cX2_runInstruction 25 = .ok (.iconst 1, 1) := by decide +kernel
theorem dX2_runInstruction_26 : decode cX2_runInstruction 26 = .ok (.iadd, 1) := by decide +kernel
theorem dX2_runInstruction_27 : decode cX2_runInstruction 27 = .ok (.putfield 164, 3) := by decide +kernel
theorem dX2_runInstruction_30 : decode cX2_runInstruction 30 = .ok (.aload_n 0, 1) := by decide +kernel
theorem dX2_runInstruction_31 : decode cX2_runInstruction 31 = .ok (.iload_n 1, 1) := by decide +kernel
theorem dX2_runInstruction_32 : decode cX2_runInstruction 32 = .ok (.aload_n 0, 1) := by decide +kernel
theorem dX2_runInstruction_33 : decode cX2_runInstruction 33 = .ok (.getfield 9, 3) := by decide +kernel
theorem dX2_runInstruction_36 : decode cX2_runInstruction 36 = .ok (.aload_n 2, 1) := by decide +kernel
theorem dX2_runInstruction_37 : decode cX2_runInstruction 37 = .ok (.getfield 146, 3) := by decide +kernel
theorem dX2_runInstruction_40 : decode cX2_runInstruction 40 = .ok (.iload_n 3, 1) := by decide +kernel
theorem dX2_runInstruction_41 : decode cX2_runInstruction 41 = .ok (.iadd, 1) := by decide +kernel
theorem dX2_runInstruction_42 : decode cX2_runInstruction 42 = .ok (.iaload, 1) := by decide +kernel
theorem dX2_runInstruction_43 : decode cX2_runInstruction 43 = .ok (.invokevirtual 167, 3) := by decide +kernel
theorem dX2_runInstruction_46 : decode cX2_runInstruction 46 = .ok (.istore 4, 2) := by decide +kernel
theorem dX2_runInstruction_48 : decode cX2_runInstruction 48 = .ok (.iload 4, 2) := by decide +kernel
theorem dX2_runInstruction_50 : decode cX2_runInstruction 50 = .ok (.ifCond .ne 14, 3) := by decide +kernel
theorem dX2_runInstruction_53 : decode cX2_runInstruction 53 = .ok (.aload_n 2, 1) := by decide +kernel
theorem dX2_runInstruction_54 : decode cX2_runInstruction 54 = .ok (.dup, 1) := by decide +kernel
theorem dX2_runInstruction_55 : decode cX2_runInstruction 55 = .ok (.getfield 170, 3) := by decide +kernel
theorem dX2_runInstruction_58 : decode cX2_runInstruction 58 = .ok (.iconst 1, 1) := by decide +kernel
theorem dX2_runInstruction_59 : decode cX2_runInstruction 59 = .ok (.iadd, 1) := by decide +kernel
theorem dX2_runInstruction_60 : decode cX2_runInstruction 60 = .ok (.putfield 170, 3) := by decide +kernel
theorem dX2_runInstruction_63 : decode cX2_runInstruction 63 = .ok (.return_, 1) := by decide +kernel
theorem dX2_runInstruction_64 : decode cX2_runInstruction 64 = .ok (.aload_n 2, 1) := by decide +kernel
theorem dX2_runInstruction_65 : decode cX2_runInstruction 65 = .ok (.iload_n 3, 1) := by decide +kernel
theorem dX2_runInstruction_66 : decode cX2_runInstruction 66 = .ok (.putfield 164, 3) := by decide +kernel
theorem dX2_runInstruction_69 : decode cX2_runInstruction 69 = .ok (.aload_n 2, 1) := by decide +kernel
theorem dX2_runInstruction_70 : decode cX2_runInstruction 70 = .ok (.iload 4, 2) := by decide +kernel
theorem dX2_runInstruction_72 : decode cX2_runInstruction 72 = .ok (.invokevirtual 173, 3) := by decide +kernel
theorem dX2_runInstruction_75 : decode cX2_runInstruction 75 = .ok (.ifCond .eq 8, 3) := by decide +kernel
theorem dX2_runInstruction_78 : decode cX2_runInstruction 78 = .ok (.aload_n 0, 1) := by decide +kernel
theorem dX2_runInstruction_79 : decode cX2_runInstruction 79 = .ok (.iconst 1, 1) := by decide +kernel
theorem dX2_runInstruction_80 : decode cX2_runInstruction 80 = .ok (.putfield 149, 3) := by decide +kernel
theorem dX2_runInstruction_83 : decode cX2_runInstruction 83 = .ok (.return_, 1) := by decide +kernel
set_option maxRecDepth 20000 in
theorem ggX2_perform_X2_load : GoodIn wsX2_perform wsX2_load := goodIn_r _ [7, 8, 9, 10, 11, 12, 13, 84, 85, 86, 87, 88, 89, 90, 91, 92, 93, 72, 73, 74, 75, 76, 77, 78, 79, 80, 81, 82, 83] (by decide +kernel) (by decide +kernel)
set_option maxRecDepth 20000 in
theorem gX2_perform_X2_load : GoodIn wsX2_perform (wsV RX2 179 RX2 yX2_load wsX2_load) := goodIn_app (goodIn_of _ (by decide +kernel)) ggX2_perform_X2_load
set_option maxRecDepth 20000 in
theorem ggX2_perform_X2_store : GoodIn wsX2_perform wsX2_store := goodIn_r _ [17, 8, 9, 10, 11, 12, 13, 72, 73, 74, 75, 76, 77, 78, 79, 80, 81, 82, 83, 84, 85, 86, 87, 88, 89, 90, 91, 92, 93] (by decide +kernel) (by decide +kernel)
set_option maxRecDepth 20000 in
theorem gX2_perform_X2_store : GoodIn wsX2_perform (wsV RX2 183 RX2 yX2_store wsX2_store) := goodIn_app (goodIn_of _ (by decide +kernel)) ggX2_perform_X2_store
set_option maxRecDepth 20000 in
theorem ggX2_perform_X1_jumpIf : GoodIn wsX2_perform wsX1_jumpIf := goodIn_r _ [20, 21, 84, 85, 86, 87, 88, 89, 90, 91, 92, 93] (by decide +kernel) (by decide +kernel)
set_option maxRecDepth 20000 in
theorem gX2_perform_X1_jumpIf_n186 : GoodIn wsX2_perform (wsX1_jumpIf) := ggX2_perform_X1_jumpIf
set_option maxRecDepth 20000 in
theorem ggX2_perform_X2_send : GoodIn wsX2_perform wsX2_send := goodIn_r _ [25, 26, 1, 27, 28, 29, 30, 6, 31, 32, 33, 34, 35, 36, 37, 38, 39, 40, 41, 42, 43, 44, 45, 46, 47, 48, 49, 50, 72, 73, 74, 75, 76, 77, 78, 79, 80, 81, 82, 83, 94, 95, 96, 97, 98, 99, 100, 101, 102, 103, 84, 85, 86, 87, 88, 89, 90, 91, 92, 93] (by decide +kernel) (by decide +kernel)
set_option maxRecDepth 20000 in
theorem gX2_perform_X2_send : GoodIn wsX2_perform (wsV RX2 190 RX2 yX2_send wsX2_send) := goodIn_app (goodIn_of _ (by decide +kernel)) ggX2_perform_X2_send
set_option maxRecDepth 20000 in
theorem ggX2_perform_X2_take : GoodIn wsX2_perform wsX2_take := goodIn_r _ [54, 26, 1, 27, 28, 29, 30, 6, 31, 55, 33, 56, 57, 37, 36, 46, 47, 48, 49, 50, 43, 44, 45, 39, 58, 59, 60, 38, 61, 62, 63, 64, 65, 42, 66, 67, 68, 72, 73, 74, 75, 76, 77, 78, 79, 80, 81, 82, 83, 94, 95, 96, 97, 98, 99, 100, 101, 102, 103, 84, 85, 86, 87, 88, 89, 90, 91, 92, 93] (by decide +kernel) (by decide +kernel)
set_option maxRecDepth 20000 in
theorem gX2_perform_X2_take : GoodIn wsX2_perform (wsV RX2 194 RX2 yX2_take wsX2_take) := goodIn_app (goodIn_of _ (by decide +kernel)) ggX2_perform_X2_take
set_option maxRecDepth 20000 in
theorem ggX2_perform_X2_computed : GoodIn wsX2_perform wsX2_computed := goodIn_r _ [71] (by decide +kernel) (by decide +kernel)
set_option maxRecDepth 20000 in
theorem gX2_perform_X2_computed : GoodIn wsX2_perform (va_wsS RX2 197 yX2_computed wsX2_computed) := goodIn_app (goodIn_of _ (by decide +kernel)) ggX2_perform_X2_computed
theorem dX2_perform_0 : decode cX2_perform 0 = .ok (.aload_n 0, 1) := by decide +kernel
theorem dX2_perform_1 : decode cX2_perform 1 = .ok (.getfield 15, 3) := by decide +kernel
theorem dX2_perform_4 : decode cX2_perform 4 = .ok (.iload_n 1, 1) := by decide +kernel
theorem dX2_perform_5 : decode cX2_perform 5 = .ok (.aaload, 1) := by decide +kernel
theorem dX2_perform_6 : decode cX2_perform 6 = .ok (.astore_n 3, 1) := by decide +kernel
theorem dX2_perform_7 : decode cX2_perform 7 = .ok (.aload_n 3, 1) := by decide +kernel
theorem dX2_perform_8 : decode cX2_perform 8 = .ok (.getfield 176, 3) := by decide +kernel
theorem dX2_perform_11 : decode cX2_perform 11 = .ok (.astore 4, 2) := by decide +kernel
theorem dX2_perform_13 : decode cX2_perform 13 = .ok (.iload_n 2, 1) := by decide +kernel
theorem dX2_perform_14 : decode cX2_perform 14 = .ok (.iconst 4, 1) := by decide +kernel
theorem dX2_perform_15 : decode cX2_perform 15 = .ok (.ishr, 1) := by decide +kernel
theorem dX2_perform_16 : decode cX2_perform 16 = .ok (.iconst 3, 1) := by decide +kernel
theorem dX2_perform_17 : decode cX2_perform 17 = .ok (.iand, 1) := by decide +kernel
theorem dX2_perform_18 : decode cX2_perform 18 = .ok (.istore 5, 2) := by decide +kernel
theorem dX2_perform_20 : decode cX2_perform 20 = .ok (.iload_n 2, 1) := by decide +kernel
theorem dX2_perform_21 : decode cX2_perform 21 = .ok (.bipush 6, 2) := by decide +kernel
theorem dX2_perform_23 : decode cX2_perform 23 = .ok (.ishr, 1) := by decide +kernel
theorem dX2_perform_24 : decode cX2_perform 24 = .ok (.iconst 3, 1) := by decide +kernel
theorem dX2_perform_25 : decode cX2_perform 25 = .ok (.iand, 1) := by decide +kernel
theorem dX2_perform_26 : decode cX2_perform 26 = .ok (.istore 6, 2) := by decide +kernel
theorem dX2_perform_28 : decode cX2_perform 28 = .ok (.iload_n 2, 1) := by decide +kernel
theorem dX2_perform_29 : decode cX2_perform 29 = .ok (.bipush 8, 2) := by decide +kernel
theorem dX2_perform_31 : decode cX2_perform 31 = .ok (.ishr, 1) := by decide +kernel
theorem dX2_perform_32 : decode cX2_perform 32 = .ok (.istore 7, 2) := by decide +kernel
theorem dX2_perform_34 : decode cX2_perform 34 = .ok (.iload_n 2, 1) := by decide +kernel
theorem dX2_perform_35 : decode cX2_perform 35 = .ok (.bipush 15, 2) := by decide +kernel
theorem dX2_perform_37 : decode cX2_perform 37 = .ok (.iand, 1) := by decide +kernel
theorem dX2_perform_38 : decode cX2_perform 38 = .ok (.tableswitch 214 0 15 #[78, 214, 214, 214, 214, 214, 85, 101, 117, 138, 159, 170, 182, 194, 201, 212], 78) := by decide +kernel
theorem dX2_perform_116 : decode cX2_perform 116 = .ok (.aload_n 3, 1) := by decide +kernel
theorem dX2_perform_117 : decode cX2_perform 117 = .ok (.iconst 2, 1) := by decide +kernel
theorem dX2_perform_118 : decode cX2_perform 118 = .ok (.putfield 152, 3) := by decide +kernel
theorem dX2_perform_121 : decode cX2_perform 121 = .ok (.iconst 0, 1) := by decide +kernel
theorem dX2_perform_122 : decode cX2_perform 122 = .ok (.ireturn, 1) := by decide +kernel
theorem dX2_perform_123 : decode cX2_perform 123 = .ok (.aload_n 0, 1) := by decide +kernel
theorem dX2_perform_124 : decode cX2_perform 124 = .ok (.aload_n 3, 1) := by decide +kernel
theorem dX2_perform_125 : decode cX2_perform 125 = .ok (.iload 5, 2) := by decide +kernel
theorem dX2_perform_127 : decode cX2_perform 127 = .ok (.aload 4, 2) := by decide +kernel
theorem dX2_perform_129 : decode cX2_perform 129 = .ok (.iload 6, 2) := by decide +kernel
theorem dX2_perform_131 : decode cX2_perform 131 = .ok (.iaload, 1) := by decide +kernel
theorem dX2_perform_132 : decode cX2_perform 132 = .ok (.iload 7, 2) := by decide +kernel
theorem dX2_perform_134 : decode cX2_perform 134 = .ok (.iadd, 1) := by decide +kernel
theorem dX2_perform_135 : decode cX2_perform 135 = .ok (.invokevirtual 179, 3) := by decide +kernel
theorem dX2_perform_138 : decode cX2_perform 138 = .ok (.ireturn, 1) := by decide +kernel
theorem dX2_perform_139 : decode cX2_perform 139 = .ok (.aload_n 0, 1) := by decide +kernel
theorem dX2_perform_140 : decode cX2_perform 140 = .ok (.aload_n 3, 1) := by decide +kernel
theorem dX2_perform_141 : decode cX2_perform 141 = .ok (.iload 5, 2) := by decide +kernel
theorem dX2_perform_143 : decode cX2_perform 143 = .ok (.aload 4, 2) := by decide +kernel
theorem dX2_perform_145 : decode cX2_perform 145 = .ok (.iload 6, 2) := by decide +kernel
theorem dX2_perform_147 : decode cX2_perform 147 = .ok (.iaload, 1) := by decide +kernel
theorem dX2_perform_148 : decode cX2_perform 148 = .ok (.iload 7, 2) := by decide +kernel
theorem dX2_perform_150 : decode cX2_perform 150 = .ok (.iadd, 1) := by decide +kernel
theorem dX2_perform_151 : decode cX2_perform 151 = .ok (.invokevirtual 183, 3) := by decide +kernel
theorem dX2_perform_154 : decode cX2_perform 154 = .ok (.ireturn, 1) := by decide +kernel
theorem dX2_perform_155 : decode cX2_perform 155 = .ok (.aload_n 3, 1) := by decide +kernel
theorem dX2_perform_156 : decode cX2_perform 156 = .ok (.aload 4, 2) := by decide +kernel
theorem dX2_perform_158 : decode cX2_perform 158 = .ok (.iload 5, 2) := by decide +kernel
theorem dX2_perform_160 : decode cX2_perform 160 = .ok (.iaload, 1) := by decide +kernel
theorem dX2_perform_161 : decode cX2_perform 161 = .ok (.ifCond .ne 7, 3) := by decide +kernel
theorem dX2_perform_164 : decode cX2_perform 164 = .ok (.iconst 1, 1) := by decide +kernel
theorem dX2_perform_165 : decode cX2_perform 165 = .ok (.goto 4, 3) := by decide +kernel
theorem dX2_perform_168 : decode cX2_perform 168 = .ok (.iconst 0, 1) := by decide +kernel
theorem dX2_perform_169 : decode cX2_perform 169 = .ok (.iload 7, 2) := by decide +kernel
theorem dX2_perform_171 : decode cX2_perform 171 = .ok (.invokevirtual 186, 3) := by decide +kernel
theorem dX2_perform_174 : decode cX2_perform 174 = .ok (.iconst 0, 1) := by decide +kernel
theorem dX2_perform_175 : decode cX2_perform 175 = .ok (.ireturn, 1) := by decide +kernel
theorem dX2_perform_176 : decode cX2_perform 176 = .ok (.aload_n 3, 1) := by decide +kernel
theorem dX2_perform_177 : decode cX2_perform 177 = .ok (.aload 4, 2) := by decide +kernel
theorem dX2_perform_179 : decode cX2_perform 179 = .ok (.iload 5, 2) := by decide +kernel
theorem dX2_perform_181 : decode cX2_perform 181 = .ok (.iaload, 1) := by decide +kernel
theorem dX2_perform_182 : decode cX2_perform 182 = .ok (.ifCond .ge 7, 3) := by decide +kernel
theorem dX2_perform_185 : decode cX2_perform 185 = .ok (.iconst 1, 1) := by decide +kernel
theorem dX2_perform_186 : decode cX2_perform 186 = .ok (.goto 4, 3) := by decide +kernel
theorem dX2_perform_189 : decode cX2_perform 189 = .ok (.iconst 0, 1) := by decide +kernel
theorem dX2_perform_190 : decode cX2_perform 190 = .ok (.iload 7, 2) := by decide +kernel
theorem dX2_perform_192 : decode cX2_perform 192 = .ok (.invokevirtual 186, 3) := by decide +kernel
theorem dX2_perform_195 : decode cX2_perform 195 = .ok (.iconst 0, 1) := by decide +kernel
theorem dX2_perform_196 : decode cX2_perform 196 = .ok (.ireturn, 1) := by decide +kernel
theorem dX2_perform_197 : decode cX2_perform 197 = .ok (.aload_n 3, 1) := by decide +kernel
theorem dX2_perform_198 : decode cX2_perform 198 = .ok (.aload 4, 2) := by decide +kernel
theorem dX2_perform_200 : decode cX2_perform 200 = .ok (.iload 5, 2) := by decide +kernel
theorem dX2_perform_202 : decode cX2_perform 202 = .ok (.iaload, 1) := by decide +kernel
theorem dX2_perform_203 : decode cX2_perform 203 = .ok (.putfield 164, 3) := by decide +kernel
theorem dX2_perform_206 : decode cX2_perform 206 = .ok (.iconst 0, 1) := by decide +kernel
theorem dX2_perform_207 : decode cX2_perform 207 = .ok (.ireturn, 1) := by decide +kernel
theorem dX2_perform_208 : decode cX2_perform 208 = .ok (.aload_n 0, 1) := by decide +kernel
theorem dX2_perform_209 : decode cX2_perform 209 = .ok (.iload_n 1, 1) := by decide +kernel
theorem dX2_perform_210 : decode cX2_perform 210 = .ok (.iload 5, 2) := by decide +kernel
theorem dX2_perform_212 : decode cX2_perform 212 = .ok (.iload 6, 2) := by decide +kernel
theorem dX2_perform_214 : decode cX2_perform 214 = .ok (.iload 7, 2) := by decide +kernel
theorem dX2_perform_216 : decode cX2_perform 216 = .ok (.invokevirtual 190, 3) := by decide +kernel
theorem dX2_perform_219 : decode cX2_perform 219 = .ok (.ireturn, 1) := by decide +kernel
theorem dX2_perform_220 : decode cX2_perform 220 = .ok (.aload_n 0, 1) := by decide +kernel
theorem dX2_perform_221 : decode cX2_perform 221 = .ok (.iload_n 1, 1) := by decide +kernel
theorem dX2_perform_222 : decode cX2_perform 222 = .ok (.iload 5, 2) := by decide +kernel
theorem dX2_perform_224 : decode cX2_perform 224 = .ok (.iload 6, 2) := by decide +kernel
theorem dX2_perform_226 : decode cX2_perform 226 = .ok (.iload 7, 2) := by decide +kernel
theorem dX2_perform_228 : decode cX2_perform 228 = .ok (.invokevirtual 194, 3) := by decide +kernel
theorem dX2_perform_231 : decode cX2_perform 231 = .ok (.ireturn, 1) := by decide +kernel
theorem dX2_perform_232 : decode cX2_perform 232 = .ok (.aload_n 0, 1) := by decide +kernel
theorem dX2_perform_233 : decode cX2_perform 233 = .ok (.iconst 1, 1) := by decide +kernel
theorem dX2_perform_234 : decode cX2_perform 234 = .ok (.putfield 149, 3) := by decide +kernel
theorem dX2_perform_237 : decode cX2_perform 237 = .ok (.iconst 0, 1) := by decide +kernel
theorem dX2_perform_238 : decode cX2_perform 238 = .ok (.ireturn, 1) := by decide +kernel
theorem dX2_perform_239 : decode cX2_perform 239 = .ok (.aload 4, 2) := by decide +kernel
theorem dX2_perform_241 : decode cX2_perform 241 = .ok (.iload 5, 2) := by decide +kernel
theorem dX2_perform_243 : decode cX2_perform 243 = .ok (.aload_n 3, 1) := by decide +kernel
theorem dX2_perform_244 : decode cX2_perform 244 = .ok (.getfield 170, 3) := by decide +kernel
theorem dX2_perform_247 : decode cX2_perform 247 = .ok (.iastore, 1) := by decide +kernel
theorem dX2_perform_248 : decode cX2_perform 248 = .ok (.iconst 0, 1) := by decide +kernel
theorem dX2_perform_249 : decode cX2_perform 249 = .ok (.ireturn, 1) := by decide +kernel
theorem dX2_perform_250 : decode cX2_perform 250 = .ok (.iconst 4, 1) := by decide +kernel
theorem dX2_perform_251 : decode cX2_perform 251 = .ok (.ireturn, 1) := by decide +kernel
theorem dX2_perform_252 : decode cX2_perform 252 = .ok (.aload 4, 2) := by decide +kernel
theorem dX2_perform_254 : decode cX2_perform 254 = .ok (.iload 5, 2) := by decide +kernel
theorem dX2_perform_256 : decode cX2_perform 256 = .ok (.iload_n 2, 1) := by decide +kernel
theorem dX2_perform_257 : decode cX2_perform 257 = .ok (.bipush 15, 2) := by decide +kernel
theorem dX2_perform_259 : decode cX2_perform 259 = .ok (.iand, 1) := by decide +kernel
theorem dX2_perform_260 : decode cX2_perform 260 = .ok (.aload 4, 2) := by decide +kernel
theorem dX2_perform_262 : decode cX2_perform 262 = .ok (.iload 5, 2) := by decide +kernel
theorem dX2_perform_264 : decode cX2_perform 264 = .ok (.iaload, 1) := by decide +kernel
theorem dX2_perform_265 : decode cX2_perform 265 = .ok (.aload 4, 2) := by decide +kernel
theorem dX2_perform_267 : decode cX2_perform 267 = .ok (.iload 6, 2) := by decide +kernel
theorem dX2_perform_269 : decode cX2_perform 269 = .ok (.iaload, 1) := by decide +kernel
theorem dX2_perform_270 : decode cX2_perform 270 = .ok (.iload 7, 2) := by decide +kernel
theorem dX2_perform_272 : decode cX2_perform 272 = .ok (.invokestatic 197, 3) := by decide +kernel
theorem dX2_perform_275 : decode cX2_perform 275 = .ok (.iastore, 1) := by decide +kernel
theorem dX2_perform_276 : decode cX2_perform 276 = .ok (.iconst 0, 1) := by decide +kernel
theorem dX2_perform_277 : decode cX2_perform 277 = .ok (.ireturn, 1) := by decide +kernel
theorem dX2_computed_0 : decode cX2_computed 0 = .ok (.iload_n 0, 1) := by decide +kernel
theorem dX2_computed_1 : decode cX2_computed 1 = .ok (.tableswitch 45 1 4 #[31, 33, 37, 41], 31) := by decide +kernel
theorem dX2_computed_32 : decode cX2_computed 32 = .ok (.iload_n 3, 1) := by decide +kernel
theorem dX2_computed_33 : decode cX2_computed 33 = .ok (.ireturn, 1) := by decide +kernel
theorem dX2_computed_34 : decode cX2_computed 34 = .ok (.iload_n 1, 1) := by decide +kernel
theorem dX2_computed_35 : decode cX2_computed 35 = .ok (.iload_n 2, 1) := by decide +kernel
theorem dX2_computed_36 : decode cX2_computed 36 = .ok (.iadd, 1) := by decide +kernel
theorem dX2_computed_37 : decode cX2_computed 37 = .ok (.ireturn, 1) := by decide +kernel
theorem dX2_computed_38 : decode cX2_computed 38 = .ok (.iload_n 1, 1) := by decide +kernel
theorem dX2_computed_39 : decode cX2_computed 39 = .ok (.iload_n 2, 1) := by decide +kernel
theorem dX2_computed_40 : decode cX2_computed 40 = .ok (.isub, 1) := by decide +kernel
theorem dX2_computed_41 : decode cX2_computed 41 = .ok (.ireturn, 1) := by decide +kernel
theorem dX2_computed_42 : decode cX2_computed 42 = .ok (.iload_n 1, 1) := by decide +kernel
theorem dX2_computed_43 : decode cX2_computed 43 = .ok (.iload_n 2, 1) := by decide +kernel
theorem dX2_computed_44 : decode cX2_computed 44 = .ok (.imul, 1) := by decide +kernel
theorem dX2_computed_45 : decode cX2_computed 45 = .ok (.ireturn, 1) := by decide +kernel
theorem dX2_computed_46 : decode cX2_computed 46 = .ok (.iload_n 1, 1) := by decide +kernel
theorem dX2_computed_47 : decode cX2_computed 47 = .ok (.iload_n 2, 1) := by decide +kernel
theorem dX2_computed_48 : decode cX2_computed 48 = .ok (.ixor, 1) := by decide +kernel
theorem dX2_computed_49 : decode cX2_computed 49 = .ok (.ireturn, 1) := by decide +kernel
set_option maxRecDepth 20000 in
theorem ggX2_load_X1_holds : GoodIn wsX2_load wsX1_holds := goodIn_r _ [5, 6, 7, 8, 9, 10, 11, 12, 13, 14, 15, 16] (by decide +kernel) (by decide +kernel)
set_option maxRecDepth 20000 in
theorem gX2_load_X1_holds_n138 : GoodIn wsX2_load (wsX1_holds) := ggX2_load_X1_holds
theorem dX2_load_0 : decode cX2_load 0 = .ok (.aload_n 1, 1) := by decide +kernel
theorem dX2_load_1 : decode cX2_load 1 = .ok (.iload_n 3, 1) := by decide +kernel
theorem dX2_load_2 : decode cX2_load 2 = .ok (.invokevirtual 138, 3) := by decide +kernel
theorem dX2_load_5 : decode cX2_load 5 = .ok (.ifCond .ne 5, 3) := by decide +kernel
theorem dX2_load_8 : decode cX2_load 8 = .ok (.iconst 2, 1) := by decide +kernel
theorem dX2_load_9 : decode cX2_load 9 = .ok (.ireturn, 1) := by decide +kernel
theorem dX2_load_10 : decode cX2_load 10 = .ok (.aload_n 1, 1) := by decide +kernel
theorem dX2_load_11 : decode cX2_load 11 = .ok (.getfield 176, 3) := by decide +kernel
theorem dX2_load_14 : decode cX2_load 14 = .ok (.iload_n 2, 1) := by decide +kernel
theorem dX2_load_15 : decode cX2_load 15 = .ok (.aload_n 0, 1) := by decide +kernel
theorem dX2_load_16 : decode cX2_load 16 = .ok (.getfield 9, 3) := by decide +kernel
theorem dX2_load_19 : decode cX2_load 19 = .ok (.aload_n 1, 1) := by decide +kernel
theorem dX2_load_20 : decode cX2_load 20 = .ok (.getfield 146, 3) := by decide +kernel
theorem dX2_load_23 : decode cX2_load 23 = .ok (.iload_n 3, 1) := by decide +kernel
theorem dX2_load_24 : decode cX2_load 24 = .ok (.iadd, 1) := by decide +kernel
theorem dX2_load_25 : decode cX2_load 25 = .ok (.iaload, 1) := by decide +kernel
theorem dX2_load_26 : decode cX2_load 26 = .ok (.iastore, 1) := by decide +kernel
theorem dX2_load_27 : decode cX2_load 27 = .ok (.iconst 0, 1) := by decide +kernel
theorem dX2_load_28 : decode cX2_load 28 = .ok (.ireturn, 1) := by decide +kernel
set_option maxRecDepth 20000 in
theorem ggX2_store_X1_holds : GoodIn wsX2_store wsX1_holds := goodIn_r _ [5, 6, 19, 20, 21, 22, 23, 24, 25, 26, 27, 28] (by decide +kernel) (by decide +kernel)
set_option maxRecDepth 20000 in
theorem gX2_store_X1_holds_n138 : GoodIn wsX2_store (wsX1_holds) := ggX2_store_X1_holds
theorem dX2_store_0 : decode cX2_store 0 = .ok (.aload_n 1, 1) := by decide +kernel
theorem dX2_store_1 : decode cX2_store 1 = .ok (.iload_n 3, 1) := by decide +kernel
theorem dX2_store_2 : decode cX2_store 2 = .ok (.invokevirtual 138, 3) := by decide +kernel
theorem dX2_store_5 : decode cX2_store 5 = .ok (.ifCond .ne 5, 3) := by decide +kernel
theorem dX2_store_8 : decode cX2_store 8 = .ok (.iconst 2, 1) := by decide +kernel
theorem dX2_store_9 : decode cX2_store 9 = .ok (.ireturn, 1) := by decide +kernel
theorem dX2_store_10 : decode cX2_store 10 = .ok (.aload_n 0, 1) := by decide +kernel
theorem dX2_store_11 : decode cX2_store 11 = .ok (.getfield 9, 3) := by decide +kernel
theorem dX2_store_14 : decode cX2_store 14 = .ok (.aload_n 1, 1) := by decide +kernel
theorem dX2_store_15 : decode cX2_store 15 = .ok (.getfield 146, 3) := by decide +kernel
theorem dX2_store_18 : decode cX2_store 18 = .ok (.iload_n 3, 1) := by decide +kernel
theorem dX2_store_19 : decode cX2_store 19 = .ok (.iadd, 1) := by decide +kernel
theorem dX2_store_20 : decode cX2_store 20 = .ok (.aload_n 1, 1) := by decide +kernel
theorem dX2_store_21 : decode cX2_store 21 = .ok (.getfield 176, 3) := by decide +kernel
theorem dX2_store_24 : decode cX2_store 24 = .ok (.iload_n 2, 1) := by decide +kernel
theorem dX2_store_25 : decode cX2_store 25 = .ok (.iaload, 1) := by decide +kernel
theorem dX2_store_26 : decode cX2_store 26 = .ok (.iastore, 1) := by decide +kernel
theorem dX2_store_27 : decode cX2_store 27 = .ok (.iconst 0, 1) := by decide +kernel
theorem dX2_store_28 : decode cX2_store 28 = .ok (.ireturn, 1) := by decide +kernel
set_option maxRecDepth 20000 in
theorem ggX2_send_X2_isChannel : GoodIn wsX2_send wsX2_isChannel := goodIn_r _ [8, 1, 28, 29, 30, 31, 32, 33, 34, 35, 36, 37, 38, 39, 40, 41, 42, 43, 44, 45, 46, 47, 48, 49] (by decide +kernel) (by decide +kernel)
set_option maxRecDepth 20000 in
theorem gX2_send_X2_isChannel : GoodIn wsX2_send (wsV RX2 110 RX2 yX2_isChannel wsX2_isChannel) := goodIn_app (goodIn_of _ (by decide +kernel)) ggX2_send_X2_isChannel
set_option maxRecDepth 20000 in
theorem ggX2_send_X0_put : GoodIn wsX2_send wsX0_put := goodIn_r _ [12, 13, 14, 15, 16, 17, 18, 19, 20, 21, 10, 22, 23, 24, 25, 26, 27, 40, 41, 42, 43, 44, 45, 46, 47, 48, 49] (by decide +kernel) (by decide +kernel)
set_option maxRecDepth 20000 in
theorem gX2_send_X0_put_n203 : GoodIn wsX2_send (wsX0_put) := ggX2_send_X0_put
theorem dX2_send_0 : decode cX2_send 0 = .ok (.aload_n 0, 1) := by decide +kernel
theorem dX2_send_1 : decode cX2_send 1 = .ok (.iload 4, 2) := by decide +kernel
theorem dX2_send_3 : decode cX2_send 3 = .ok (.invokevirtual 110, 3) := by decide +kernel
theorem dX2_send_6 : decode cX2_send 6 = .ok (.ifCond .eq 17, 3) := by decide +kernel
theorem dX2_send_9 : decode cX2_send 9 = .ok (.aload_n 0, 1) := by decide +kernel
theorem dX2_send_10 : decode cX2_send 10 = .ok (.getfield 22, 3) := by decide +kernel
theorem dX2_send_13 : decode cX2_send 13 = .ok (.iload 4, 2) := by decide +kernel
theorem dX2_send_15 : decode cX2_send 15 = .ok (.aaload, 1) := by decide +kernel
theorem dX2_send_16 : decode cX2_send 16 = .ok (.getfield 200, 3) := by decide +kernel
theorem dX2_send_19 : decode cX2_send 19 = .ok (.iload_n 1, 1) := by decide +kernel
theorem dX2_send_20 : decode cX2_send 20 = .ok (.if_icmp .eq 5, 3) := by decide +kernel
theorem dX2_send_23 : decode cX2_send 23 = .ok (.iconst 3, 1) := by decide +kernel
theorem dX2_send_24 : decode cX2_send 24 = .ok (.ireturn, 1) := by decide +kernel
theorem dX2_send_25 : decode cX2_send 25 = .ok (.aload_n 0, 1) := by decide +kernel
theorem dX2_send_26 : decode cX2_send 26 = .ok (.getfield 15, 3) := by decide +kernel
theorem dX2_send_29 : decode cX2_send 29 = .ok (.iload_n 1, 1) := by decide +kernel
theorem dX2_send_30 : decode cX2_send 30 = .ok (.aaload, 1) := by decide +kernel
theorem dX2_send_31 : decode cX2_send 31 = .ok (.getfield 176, 3) := by decide +kernel
theorem dX2_send_34 : decode cX2_send 34 = .ok (.astore 5, 2) := by decide +kernel
theorem dX2_send_36 : decode cX2_send 36 = .ok (.aload 5, 2) := by decide +kernel
theorem dX2_send_38 : decode cX2_send 38 = .ok (.iload_n 3, 1) := by decide +kernel
theorem dX2_send_39 : decode cX2_send 39 = .ok (.aload_n 0, 1) := by decide +kernel
theorem dX2_send_40 : decode cX2_send 40 = .ok (.getfield 22, 3) := by decide +kernel
theorem dX2_send_43 : decode cX2_send 43 = .ok (.iload 4, 2) := by decide +kernel
theorem dX2_send_45 : decode cX2_send 45 = .ok (.aaload, 1) := by decide +kernel
theorem dX2_send_46 : decode cX2_send 46 = .ok (.aload 5, 2) := by decide +kernel
theorem dX2_send_48 : decode cX2_send 48 = .ok (.iload_n 2, 1) := by decide +kernel
theorem dX2_send_49 : decode cX2_send 49 = .ok (.iaload, 1) := by decide +kernel
theorem dX2_send_50 : decode cX2_send 50 = .ok (.aload_n 0, 1) := by decide +kernel
theorem dX2_send_51 : decode cX2_send 51 = .ok (.getfield 116, 3) := by decide +kernel
theorem dX2_send_54 : decode cX2_send 54 = .ok (.invokevirtual 203, 3) := by decide +kernel
theorem dX2_send_57 : decode cX2_send 57 = .ok (.ifCond .eq 7, 3) := by decide +kernel
theorem dX2_send_60 : decode cX2_send 60 = .ok (.iconst 1, 1) := by decide +kernel
theorem dX2_send_61 : decode cX2_send 61 = .ok (.goto 4, 3) := by decide +kernel
theorem dX2_send_64 : decode cX2_send 64 = .ok (.iconst 0, 1) := by decide +kernel
theorem dX2_send_65 : decode cX2_send 65 = .ok (.iastore, 1) := by decide +kernel
theorem dX2_send_66 : decode cX2_send 66 = .ok (.iconst 0, 1) := by decide +kernel
theorem dX2_send_67 : decode cX2_send 67 = .ok (.ireturn, 1) := by decide +kernel
set_option maxRecDepth 20000 in
theorem ggX2_take_X2_isChannel : GoodIn wsX2_take wsX2_isChannel := goodIn_r _ [8, 1, 37, 38, 39, 40, 41, 42, 43, 44, 45, 46, 47, 48, 49, 50, 51, 52, 53, 54, 55, 56, 57, 58] (by decide +kernel) (by decide +kernel)
set_option maxRecDepth 20000 in
theorem gX2_take_X2_isChannel : GoodIn wsX2_take (wsV RX2 110 RX2 yX2_isChannel wsX2_isChannel) := goodIn_app (goodIn_of _ (by decide +kernel)) ggX2_take_X2_isChannel
set_option maxRecDepth 20000 in
theorem ggX2_take_X0_wordAt : GoodIn wsX2_take wsX0_wordAt := goodIn_r _ [12, 13, 14, 15, 16, 17, 10, 18, 19, 49, 50, 51, 52, 53, 54, 55, 56, 57, 58] (by decide +kernel) (by decide +kernel)
set_option maxRecDepth 20000 in
theorem gX2_take_X0_wordAt_n126 : GoodIn wsX2_take (wsX0_wordAt) := ggX2_take_X0_wordAt
set_option maxRecDepth 20000 in
theorem ggX2_take_X0_isSlot : GoodIn wsX2_take wsX0_isSlot := goodIn_r _ [22, 23, 49, 50, 51, 52, 53, 54, 55, 56, 57, 58] (by decide +kernel) (by decide +kernel)
set_option maxRecDepth 20000 in
theorem gX2_take_X0_isSlot_n123 : GoodIn wsX2_take (wsX0_isSlot) := ggX2_take_X0_isSlot
set_option maxRecDepth 20000 in
theorem ggX2_take_X0_age : GoodIn wsX2_take wsX0_age := goodIn_r _ [26, 13, 27, 28, 29, 30, 31, 32, 33, 20, 21, 10, 22, 23, 49, 50, 51, 52, 53, 54, 55, 56, 57, 58] (by decide +kernel) (by decide +kernel)
set_option maxRecDepth 20000 in
theorem gX2_take_X0_age_n212 : GoodIn wsX2_take (wsX0_age) := ggX2_take_X0_age
set_option maxRecDepth 20000 in
theorem ggX2_take_X0_dropTaken : GoodIn wsX2_take wsX0_dropTaken := goodIn_r _ [36, 13, 19, 33, 20, 21, 10, 22, 23, 15, 16, 17, 18, 49, 50, 51, 52, 53, 54, 55, 56, 57, 58] (by decide +kernel) (by decide +kernel)
set_option maxRecDepth 20000 in
theorem gX2_take_X0_dropTaken_n215 : GoodIn wsX2_take (wsX0_dropTaken) := ggX2_take_X0_dropTaken
theorem dX2_take_0 : decode cX2_take 0 = .ok (.aload_n 0, 1) := by decide +kernel
theorem dX2_take_1 : decode cX2_take 1 = .ok (.iload 4, 2) := by decide +kernel
theorem dX2_take_3 : decode cX2_take 3 = .ok (.invokevirtual 110, 3) := by decide +kernel
theorem dX2_take_6 : decode cX2_take 6 = .ok (.ifCond .eq 17, 3) := by decide +kernel
theorem dX2_take_9 : decode cX2_take 9 = .ok (.aload_n 0, 1) := by decide +kernel
theorem dX2_take_10 : decode cX2_take 10 = .ok (.getfield 22, 3) := by decide +kernel
theorem dX2_take_13 : decode cX2_take 13 = .ok (.iload 4, 2) := by decide +kernel
theorem dX2_take_15 : decode cX2_take 15 = .ok (.aaload, 1) := by decide +kernel
theorem dX2_take_16 : decode cX2_take 16 = .ok (.getfield 206, 3) := by decide +kernel
theorem dX2_take_19 : decode cX2_take 19 = .ok (.iload_n 1, 1) := by decide +kernel
theorem dX2_take_20 : decode cX2_take 20 = .ok (.if_icmp .eq 5, 3) := by decide +kernel
theorem dX2_take_23 : decode cX2_take 23 = .ok (.iconst 3, 1) := by decide +kernel
theorem dX2_take_24 : decode cX2_take 24 = .ok (.ireturn, 1) := by decide +kernel
theorem dX2_take_25 : decode cX2_take 25 = .ok (.aload_n 0, 1) := by decide +kernel
theorem dX2_take_26 : decode cX2_take 26 = .ok (.getfield 22, 3) := by decide +kernel
theorem dX2_take_29 : decode cX2_take 29 = .ok (.iload 4, 2) := by decide +kernel
theorem dX2_take_31 : decode cX2_take 31 = .ok (.aaload, 1) := by decide +kernel
theorem dX2_take_32 : decode cX2_take 32 = .ok (.astore 5, 2) := by decide +kernel
theorem dX2_take_34 : decode cX2_take 34 = .ok (.aload_n 0, 1) := by decide +kernel
theorem dX2_take_35 : decode cX2_take 35 = .ok (.getfield 15, 3) := by decide +kernel
theorem dX2_take_38 : decode cX2_take 38 = .ok (.iload_n 1, 1) := by decide +kernel
theorem dX2_take_39 : decode cX2_take 39 = .ok (.aaload, 1) := by decide +kernel
theorem dX2_take_40 : decode cX2_take 40 = .ok (.getfield 176, 3) := by decide +kernel
theorem dX2_take_43 : decode cX2_take 43 = .ok (.astore 6, 2) := by decide +kernel
theorem dX2_take_45 : decode cX2_take 45 = .ok (.aload 5, 2) := by decide +kernel
theorem dX2_take_47 : decode cX2_take 47 = .ok (.getfield 209, 3) := by decide +kernel
theorem dX2_take_50 : decode cX2_take 50 = .ok (.ifCond .ne 10, 3) := by decide +kernel
theorem dX2_take_53 : decode cX2_take 53 = .ok (.aload 6, 2) := by decide +kernel
theorem dX2_take_55 : decode cX2_take 55 = .ok (.iload_n 3, 1) := by decide +kernel
theorem dX2_take_56 : decode cX2_take 56 = .ok (.iconst 0, 1) := by decide +kernel
theorem dX2_take_57 : decode cX2_take 57 = .ok (.iastore, 1) := by decide +kernel
theorem dX2_take_58 : decode cX2_take 58 = .ok (.iconst 0, 1) := by decide +kernel
theorem dX2_take_59 : decode cX2_take 59 = .ok (.ireturn, 1) := by decide +kernel
theorem dX2_take_60 : decode cX2_take 60 = .ok (.aload 6, 2) := by decide +kernel
theorem dX2_take_62 : decode cX2_take 62 = .ok (.iload_n 2, 1) := by decide +kernel
theorem dX2_take_63 : decode cX2_take 63 = .ok (.aload 5, 2) := by decide +kernel
theorem dX2_take_65 : decode cX2_take 65 = .ok (.iconst 0, 1) := by decide +kernel
theorem dX2_take_66 : decode cX2_take 66 = .ok (.invokevirtual 126, 3) := by decide +kernel
theorem dX2_take_69 : decode cX2_take 69 = .ok (.iastore, 1) := by decide +kernel
theorem dX2_take_70 : decode cX2_take 70 = .ok (.aload 6, 2) := by decide +kernel
theorem dX2_take_72 : decode cX2_take 72 = .ok (.iload_n 3, 1) := by decide +kernel
theorem dX2_take_73 : decode cX2_take 73 = .ok (.aload 5, 2) := by decide +kernel
theorem dX2_take_75 : decode cX2_take 75 = .ok (.invokevirtual 123, 3) := by decide +kernel
theorem dX2_take_78 : decode cX2_take 78 = .ok (.ifCond .eq 17, 3) := by decide +kernel
theorem dX2_take_81 : decode cX2_take 81 = .ok (.aload 5, 2) := by decide +kernel
theorem dX2_take_83 : decode cX2_take 83 = .ok (.aload_n 0, 1) := by decide +kernel
theorem dX2_take_84 : decode cX2_take 84 = .ok (.getfield 116, 3) := by decide +kernel
theorem dX2_take_87 : decode cX2_take 87 = .ok (.invokevirtual 212, 3) := by decide +kernel
theorem dX2_take_90 : decode cX2_take 90 = .ok (.iconst 1, 1) := by decide +kernel
theorem dX2_take_91 : decode cX2_take 91 = .ok (.iadd, 1) := by decide +kernel
theorem dX2_take_92 : decode cX2_take 92 = .ok (.goto 4, 3) := by decide +kernel
theorem dX2_take_95 : decode cX2_take 95 = .ok (.iconst 1, 1) := by decide +kernel
theorem dX2_take_96 : decode cX2_take 96 = .ok (.iastore, 1) := by decide +kernel
theorem dX2_take_97 : decode cX2_take 97 = .ok (.aload 5, 2) := by decide +kernel
theorem dX2_take_99 : decode cX2_take 99 = .ok (.invokevirtual 215, 3) := by decide +kernel
theorem dX2_take_102 : decode cX2_take 102 = .ok (.iconst 0, 1) := by decide +kernel
theorem dX2_take_103 : decode cX2_take 103 = .ok (.ireturn, 1) := by decide +kernel
theorem dJ9_min_7cf53_0 : decode cJ9_min_7cf53 0 = .ok (.iload_n 0, 1) := by decide +kernel
theorem dJ9_min_7cf53_1 : decode cJ9_min_7cf53 1 = .ok (.iload_n 1, 1) := by decide +kernel
theorem dJ9_min_7cf53_2 : decode cJ9_min_7cf53 2 = .ok (.if_icmp .gt 7, 3) := by decide +kernel
theorem dJ9_min_7cf53_5 : decode cJ9_min_7cf53 5 = .ok (.iload_n 0, 1) := by decide +kernel
theorem dJ9_min_7cf53_6 : decode cJ9_min_7cf53 6 = .ok (.goto 4, 3) := by decide +kernel
theorem dJ9_min_7cf53_9 : decode cJ9_min_7cf53 9 = .ok (.iload_n 1, 1) := by decide +kernel
theorem dJ9_min_7cf53_10 : decode cJ9_min_7cf53 10 = .ok (.ireturn, 1) := by decide +kernel
theorem dJ7_fill_53178_0 : decode cJ7_fill_53178 0 = .ok (.iconst 0, 1) := by decide +kernel
theorem dJ7_fill_53178_1 : decode cJ7_fill_53178 1 = .ok (.istore_n 2, 1) := by decide +kernel
theorem dJ7_fill_53178_2 : decode cJ7_fill_53178 2 = .ok (.aload_n 0, 1) := by decide +kernel
theorem dJ7_fill_53178_3 : decode cJ7_fill_53178 3 = .ok (.arraylength, 1) := by decide +kernel
theorem dJ7_fill_53178_4 : decode cJ7_fill_53178 4 = .ok (.istore_n 3, 1) := by decide +kernel
theorem dJ7_fill_53178_5 : decode cJ7_fill_53178 5 = .ok (.iload_n 2, 1) := by decide +kernel
theorem dJ7_fill_53178_6 : decode cJ7_fill_53178 6 = .ok (.iload_n 3, 1) := by decide +kernel
theorem dJ7_fill_53178_7 : decode cJ7_fill_53178 7 = .ok (.if_icmp .ge 13, 3) := by decide +kernel
theorem dJ7_fill_53178_10 : decode cJ7_fill_53178 10 = .ok (.aload_n 0, 1) := by decide +kernel
theorem dJ7_fill_53178_11 : decode cJ7_fill_53178 11 = .ok (.iload_n 2, 1) := by decide +kernel
theorem dJ7_fill_53178_12 : decode cJ7_fill_53178 12 = .ok (.iload_n 1, 1) := by decide +kernel
theorem dJ7_fill_53178_13 : decode cJ7_fill_53178 13 = .ok (.iastore, 1) := by decide +kernel
theorem dJ7_fill_53178_14 : decode cJ7_fill_53178 14 = .ok (.iinc 2 1, 3) := by decide +kernel
theorem dJ7_fill_53178_17 : decode cJ7_fill_53178 17 = .ok (.goto (-12), 3) := by decide +kernel
theorem dJ7_fill_53178_20 : decode cJ7_fill_53178 20 = .ok (.return_, 1) := by decide +kernel
