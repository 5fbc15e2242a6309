theorem dX6_endTick_51 : decode cX6_endTick 51 = .ok (.iconst 0, 1) := by decide +kernel
theorem dX6_endTick_52 : decode cX6_endTick 52 = .ok (.istore_n 2, 1) := by decide +kernel
theorem dX6_endTick_53 : decode cX6_endTick 53 = .ok (.iload_n 2, 1) := by decide +kernel
theorem dX6_endTick_54 : decode cX6_endTick 54 = .ok (.bipush 6, 2) := by decide +kernel
theorem dX6_endTick_56 : decode cX6_endTick 56 = .ok (.if_icmp .ge 19, 3) := by decide +kernel
theorem dX6_endTick_59 : decode cX6_endTick 59 = .ok (.aload_n 0, 1) := by decide +kernel
theorem dX6_endTick_60 : decode cX6_endTick 60 = .ok (.getfield 23, 3) := by decide +kernel
theorem dX6_endTick_63 : decode cX6_endTick 63 = .ok (.iload_n 2, 1) := by decide +kernel
theorem dX6_endTick_64 : decode cX6_endTick 64 = .ok (.aaload, 1) := by decide +kernel
theorem dX6_endTick_65 : decode cX6_endTick 65 = .ok (.iload_n 1, 1) := by decide +kernel
theorem dX6_endTick_66 : decode cX6_endTick 66 = .ok (.invokestatic 284, 3) := by decide +kernel
theorem dX6_endTick_69 : decode cX6_endTick 69 = .ok (.iinc 2 1, 3) := by decide +kernel
theorem dX6_endTick_72 : decode cX6_endTick 72 = .ok (.goto (-19), 3) := by decide +kernel
theorem dX6_endTick_75 : decode cX6_endTick 75 = .ok (.return_, 1) := by decide +kernel
set_option maxRecDepth 20000 in
theorem ggX6_settle_X6_letStand : GoodIn wsX6_settle wsX6_letStand := goodIn_r _ [4, 40, 41, 42, 43, 44, 45, 46, 47, 48, 49, 50, 51, 52, 53, 54, 55, 56] (by decide +kernel) (by decide +kernel)
set_option maxRecDepth 20000 in
theorem gX6_settle_X6_letStand : GoodIn wsX6_settle (va_wsS RX6 288 yX6_letStand wsX6_letStand) := goodIn_app (goodIn_of _ (by decide +kernel)) ggX6_settle_X6_letStand
set_option maxRecDepth 20000 in
theorem ggX6_settle_X6_judge : GoodIn wsX6_settle wsX6_judge := goodIn_r _ [8, 9, 10, 11, 12, 13, 14, 15, 16, 17, 18, 19, 20, 21, 22, 23, 24, 25, 3, 26, 27, 28, 29, 30, 31, 32, 33, 34, 35, 36, 37, 38, 39, 1, 2, 4, 40, 41, 42, 43, 44, 45, 46, 47, 48, 49, 50, 51, 52, 53, 54, 55, 56, 57, 58, 59, 60, 61, 62, 63, 64, 65, 66, 67, 68, 69, 70] (by decide +kernel) (by decide +kernel)
set_option maxRecDepth 20000 in
theorem gX6_settle_X6_judge : GoodIn wsX6_settle (wsV RX6 196 RX6 yX6_judge wsX6_judge) := goodIn_app (goodIn_of _ (by decide +kernel)) ggX6_settle_X6_judge
theorem dX6_settle_0 : decode cX6_settle 0 = .ok (.aload_n 1, 1) := by decide +kernel
theorem dX6_settle_1 : decode cX6_settle 1 = .ok (.getfield 166, 3) := by decide +kernel
theorem dX6_settle_4 : decode cX6_settle 4 = .ok (.astore_n 2, 1) := by decide +kernel
theorem dX6_settle_5 : decode cX6_settle 5 = .ok (.aload_n 2, 1) := by decide +kernel
theorem dX6_settle_6 : decode cX6_settle 6 = .ok (.ifnonnull 10, 3) := by decide +kernel
theorem dX6_settle_9 : decode cX6_settle 9 = .ok (.aload_n 1, 1) := by decide +kernel
theorem dX6_settle_10 : decode cX6_settle 10 = .ok (.invokestatic 288, 3) := by decide +kernel
theorem dX6_settle_13 : decode cX6_settle 13 = .ok (.goto 9, 3) := by decide +kernel
theorem dX6_settle_16 : decode cX6_settle 16 = .ok (.aload_n 0, 1) := by decide +kernel
theorem dX6_settle_17 : decode cX6_settle 17 = .ok (.aload_n 1, 1) := by decide +kernel
theorem dX6_settle_18 : decode cX6_settle 18 = .ok (.aload_n 2, 1) := by decide +kernel
theorem dX6_settle_19 : decode cX6_settle 19 = .ok (.invokevirtual 196, 3) := by decide +kernel
theorem dX6_settle_22 : decode cX6_settle 22 = .ok (.return_, 1) := by decide +kernel
theorem dX6_closeWindows_0 : decode cX6_closeWindows 0 = .ok (.iconst 0, 1) := by decide +kernel
theorem dX6_closeWindows_1 : decode cX6_closeWindows 1 = .ok (.istore_n 2, 1) := by decide +kernel
theorem dX6_closeWindows_2 : decode cX6_closeWindows 2 = .ok (.iload_n 2, 1) := by decide +kernel
theorem dX6_closeWindows_3 : decode cX6_closeWindows 3 = .ok (.bipush 12, 2) := by decide +kernel
theorem dX6_closeWindows_5 : decode cX6_closeWindows 5 = .ok (.if_icmp .ge 48, 3) := by decide +kernel
theorem dX6_closeWindows_8 : decode cX6_closeWindows 8 = .ok (.aload_n 0, 1) := by decide +kernel
theorem dX6_closeWindows_9 : decode cX6_closeWindows 9 = .ok (.getfield 138, 3) := by decide +kernel
theorem dX6_closeWindows_12 : decode cX6_closeWindows 12 = .ok (.iload_n 2, 1) := by decide +kernel
theorem dX6_closeWindows_13 : decode cX6_closeWindows 13 = .ok (.aaload, 1) := by decide +kernel
theorem dX6_closeWindows_14 : decode cX6_closeWindows 14 = .ok (.astore_n 3, 1) := by decide +kernel
theorem dX6_closeWindows_15 : decode cX6_closeWindows 15 = .ok (.aload_n 3, 1) := by decide +kernel
theorem dX6_closeWindows_16 : decode cX6_closeWindows 16 = .ok (.ifnull 31, 3) := by decide +kernel
theorem dX6_closeWindows_19 : decode cX6_closeWindows 19 = .ok (.aload_n 3, 1) := by decide +kernel
theorem dX6_closeWindows_20 : decode cX6_closeWindows 20 = .ok (.getfield 291, 3) := by decide +kernel
theorem dX6_closeWindows_23 : decode cX6_closeWindows 23 = .ok (.iload_n 1, 1) := by decide +kernel
theorem dX6_closeWindows_24 : decode cX6_closeWindows 24 = .ok (.if_icmp .gt 23, 3) := by decide +kernel
theorem dX6_closeWindows_27 : decode cX6_closeWindows 27 = .ok (.aload_n 0, 1) := by decide +kernel
theorem dX6_closeWindows_28 : decode cX6_closeWindows 28 = .ok (.dup, 1) := by decide +kernel
theorem dX6_closeWindows_29 : decode cX6_closeWindows 29 = .ok (.getfield 142, 3) := by decide +kernel
theorem dX6_closeWindows_32 : decode cX6_closeWindows 32 = .ok (.aload_n 3, 1) := by decide +kernel
theorem dX6_closeWindows_33 : decode cX6_closeWindows 33 = .ok (.getfield 249, 3) := by decide +kernel
theorem dX6_closeWindows_36 : decode cX6_closeWindows 36 = .ok (.iadd, 1) := by decide +kernel
theorem dX6_closeWindows_37 : decode cX6_closeWindows 37 = .ok (.putfield 142, 3) := by decide +kernel
theorem dX6_closeWindows_40 : decode cX6_closeWindows 40 = .ok (.aload_n 0, 1) := by decide +kernel
theorem dX6_closeWindows_41 : decode cX6_closeWindows 41 = .ok (.getfield 138, 3) := by decide +kernel
theorem dX6_closeWindows_44 : decode cX6_closeWindows 44 = .ok (.iload_n 2, 1) := by decide +kernel
theorem dX6_closeWindows_45 : decode cX6_closeWindows 45 = .ok (.aconst_null, 1) := by decide +kernel
theorem dX6_closeWindows_46 : decode cX6_closeWindows 46 = .ok (.aastore, 1) := by decide +kernel
theorem dX6_closeWindows_47 : decode cX6_closeWindows 47 = .ok (.iinc 2 1, 3) := by decide +kernel
theorem dX6_closeWindows_50 : decode cX6_closeWindows 50 = .ok (.goto (-48), 3) := by decide +kernel
theorem dX6_closeWindows_53 : decode cX6_closeWindows 53 = .ok (.return_, 1) := by decide +kernel
set_option maxRecDepth 20000 in
theorem ggX6_judge_X1_refutes : GoodIn wsX6_judge wsX1_refutes := goodIn_r _ [4, 5, 6, 7, 8, 9, 10, 11, 12, 2, 13, 14, 53, 54, 55, 56] (by decide +kernel) (by decide +kernel)
set_option maxRecDepth 20000 in
theorem gX6_judge_X1_refutes_n294 : GoodIn wsX6_judge (wsX1_refutes) := ggX6_judge_X1_refutes
set_option maxRecDepth 20000 in
theorem ggX6_judge_X6_payBack : GoodIn wsX6_judge wsX6_payBack := goodIn_r _ [19, 20, 57, 58, 59, 60, 61, 62, 63, 64, 65, 66, 36, 37, 38, 39, 40, 41, 42, 43, 44, 45, 53, 54, 55, 56] (by decide +kernel) (by decide +kernel)
set_option maxRecDepth 20000 in
theorem gX6_judge_X6_payBack : GoodIn wsX6_judge (wsV RX6 298 RX6 yX6_payBack wsX6_payBack) := goodIn_app (goodIn_of _ (by decide +kernel)) ggX6_judge_X6_payBack
set_option maxRecDepth 20000 in
theorem ggX6_judge_X6_shareCut : GoodIn wsX6_judge wsX6_shareCut := goodIn_r _ [24, 25, 26, 8, 27, 28, 29, 30, 31, 18, 32, 20, 36, 37, 38, 39, 40, 41, 42, 43, 44, 45, 46, 47, 48, 49, 50, 51, 52, 53, 54, 55, 56, 65, 66, 57, 58, 59, 60, 61, 62, 63, 64] (by decide +kernel) (by decide +kernel)
set_option maxRecDepth 20000 in
theorem gX6_judge_X6_shareCut : GoodIn wsX6_judge (wsV RX6 301 RX6 yX6_shareCut wsX6_shareCut) := goodIn_app (goodIn_of _ (by decide +kernel)) ggX6_judge_X6_shareCut
set_option maxRecDepth 20000 in
theorem ggX6_judge_X6_letStand : GoodIn wsX6_judge wsX6_letStand := goodIn_r _ [35, 36, 37, 38, 39, 40, 41, 42, 43, 44, 45, 46, 47, 48, 49, 50, 51, 52] (by decide +kernel) (by decide +kernel)
set_option maxRecDepth 20000 in
theorem gX6_judge_X6_letStand : GoodIn wsX6_judge (va_wsS RX6 288 yX6_letStand wsX6_letStand) := goodIn_app (goodIn_of _ (by decide +kernel)) ggX6_judge_X6_letStand
theorem dX6_judge_0 : decode cX6_judge 0 = .ok (.aload_n 2, 1) := by decide +kernel
theorem dX6_judge_1 : decode cX6_judge 1 = .ok (.aload_n 1, 1) := by decide +kernel
theorem dX6_judge_2 : decode cX6_judge 2 = .ok (.getfield 227, 3) := by decide +kernel
theorem dX6_judge_5 : decode cX6_judge 5 = .ok (.invokevirtual 294, 3) := by decide +kernel
theorem dX6_judge_8 : decode cX6_judge 8 = .ok (.ifCond .eq 23, 3) := by decide +kernel
theorem dX6_judge_11 : decode cX6_judge 11 = .ok (.aload_n 1, 1) := by decide +kernel
theorem dX6_judge_12 : decode cX6_judge 12 = .ok (.iconst 3, 1) := by decide +kernel
theorem dX6_judge_13 : decode cX6_judge 13 = .ok (.putfield 124, 3) := by decide +kernel
theorem dX6_judge_16 : decode cX6_judge 16 = .ok (.aload_n 0, 1) := by decide +kernel
theorem dX6_judge_17 : decode cX6_judge 17 = .ok (.aload_n 1, 1) := by decide +kernel
theorem dX6_judge_18 : decode cX6_judge 18 = .ok (.aload_n 2, 1) := by decide +kernel
theorem dX6_judge_19 : decode cX6_judge 19 = .ok (.invokevirtual 298, 3) := by decide +kernel
theorem dX6_judge_22 : decode cX6_judge 22 = .ok (.aload_n 0, 1) := by decide +kernel
theorem dX6_judge_23 : decode cX6_judge 23 = .ok (.aload_n 1, 1) := by decide +kernel
theorem dX6_judge_24 : decode cX6_judge 24 = .ok (.aload_n 2, 1) := by decide +kernel
theorem dX6_judge_25 : decode cX6_judge 25 = .ok (.invokevirtual 301, 3) := by decide +kernel
theorem dX6_judge_28 : decode cX6_judge 28 = .ok (.goto 20, 3) := by decide +kernel
theorem dX6_judge_31 : decode cX6_judge 31 = .ok (.aload_n 1, 1) := by decide +kernel
theorem dX6_judge_32 : decode cX6_judge 32 = .ok (.getfield 170, 3) := by decide +kernel
theorem dX6_judge_35 : decode cX6_judge 35 = .ok (.dup, 1) := by decide +kernel
theorem dX6_judge_36 : decode cX6_judge 36 = .ok (.getfield 98, 3) := by decide +kernel
theorem dX6_judge_39 : decode cX6_judge 39 = .ok (.iconst 4, 1) := by decide +kernel
theorem dX6_judge_40 : decode cX6_judge 40 = .ok (.iadd, 1) := by decide +kernel
theorem dX6_judge_41 : decode cX6_judge 41 = .ok (.putfield 98, 3) := by decide +kernel
theorem dX6_judge_44 : decode cX6_judge 44 = .ok (.aload_n 1, 1) := by decide +kernel
theorem dX6_judge_45 : decode cX6_judge 45 = .ok (.invokestatic 288, 3) := by decide +kernel
theorem dX6_judge_48 : decode cX6_judge 48 = .ok (.return_, 1) := by decide +kernel
theorem dX6_letStand_0 : decode cX6_letStand 0 = .ok (.aload_n 0, 1) := by decide +kernel
theorem dX6_letStand_1 : decode cX6_letStand 1 = .ok (.iconst 2, 1) := by decide +kernel
theorem dX6_letStand_2 : decode cX6_letStand 2 = .ok (.putfield 124, 3) := by decide +kernel
theorem dX6_letStand_5 : decode cX6_letStand 5 = .ok (.aload_n 0, 1) := by decide +kernel
theorem dX6_letStand_6 : decode cX6_letStand 6 = .ok (.getfield 170, 3) := by decide +kernel
theorem dX6_letStand_9 : decode cX6_letStand 9 = .ok (.dup, 1) := by decide +kernel
theorem dX6_letStand_10 : decode cX6_letStand 10 = .ok (.getfield 98, 3) := by decide +kernel
theorem dX6_letStand_13 : decode cX6_letStand 13 = .ok (.aload_n 0, 1) := by decide +kernel
theorem dX6_letStand_14 : decode cX6_letStand 14 = .ok (.getfield 212, 3) := by decide +kernel
theorem dX6_letStand_17 : decode cX6_letStand 17 = .ok (.iadd, 1) := by decide +kernel
theorem dX6_letStand_18 : decode cX6_letStand 18 = .ok (.putfield 98, 3) := by decide +kernel
theorem dX6_letStand_21 : decode cX6_letStand 21 = .ok (.aload_n 0, 1) := by decide +kernel
theorem dX6_letStand_22 : decode cX6_letStand 22 = .ok (.iconst 0, 1) := by decide +kernel
theorem dX6_letStand_23 : decode cX6_letStand 23 = .ok (.putfield 212, 3) := by decide +kernel
theorem dX6_letStand_26 : decode cX6_letStand 26 = .ok (.return_, 1) := by decide +kernel
theorem dX6_payBack_0 : decode cX6_payBack 0 = .ok (.iconst 0, 1) := by decide +kernel
theorem dX6_payBack_1 : decode cX6_payBack 1 = .ok (.istore_n 3, 1) := by decide +kernel
theorem dX6_payBack_2 : decode cX6_payBack 2 = .ok (.iload_n 3, 1) := by decide +kernel
theorem dX6_payBack_3 : decode cX6_payBack 3 = .ok (.bipush 6, 2) := by decide +kernel
theorem dX6_payBack_5 : decode cX6_payBack 5 = .ok (.if_icmp .ge 29, 3) := by decide +kernel
theorem dX6_payBack_8 : decode cX6_payBack 8 = .ok (.aload_n 0, 1) := by decide +kernel
theorem dX6_payBack_9 : decode cX6_payBack 9 = .ok (.getfield 23, 3) := by decide +kernel
theorem dX6_payBack_12 : decode cX6_payBack 12 = .ok (.iload_n 3, 1) := by decide +kernel
theorem dX6_payBack_13 : decode cX6_payBack 13 = .ok (.aaload, 1) := by decide +kernel
theorem dX6_payBack_14 : decode cX6_payBack 14 = .ok (.dup, 1) := by decide +kernel
theorem dX6_payBack_15 : decode cX6_payBack 15 = .ok (.getfield 142, 3) := by decide +kernel
theorem dX6_payBack_18 : decode cX6_payBack 18 = .ok (.aload_n 1, 1) := by decide +kernel
theorem dX6_payBack_19 : decode cX6_payBack 19 = .ok (.getfield 271, 3) := by decide +kernel
theorem dX6_payBack_22 : decode cX6_payBack 22 = .ok (.iload_n 3, 1) := by decide +kernel
theorem dX6_payBack_23 : decode cX6_payBack 23 = .ok (.iaload, 1) := by decide +kernel
theorem dX6_payBack_24 : decode cX6_payBack 24 = .ok (.iadd, 1) := by decide +kernel
theorem dX6_payBack_25 : decode cX6_payBack 25 = .ok (.putfield 142, 3) := by decide +kernel
theorem dX6_payBack_28 : decode cX6_payBack 28 = .ok (.iinc 3 1, 3) := by decide +kernel
theorem dX6_payBack_31 : decode cX6_payBack 31 = .ok (.goto (-29), 3) := by decide +kernel
theorem dX6_payBack_34 : decode cX6_payBack 34 = .ok (.aload_n 1, 1) := by decide +kernel
theorem dX6_payBack_35 : decode cX6_payBack 35 = .ok (.iconst 0, 1) := by decide +kernel
theorem dX6_payBack_36 : decode cX6_payBack 36 = .ok (.putfield 212, 3) := by decide +kernel
theorem dX6_payBack_39 : decode cX6_payBack 39 = .ok (.aload_n 2, 1) := by decide +kernel
theorem dX6_payBack_40 : decode cX6_payBack 40 = .ok (.getfield 304, 3) := by decide +kernel
theorem dX6_payBack_43 : decode cX6_payBack 43 = .ok (.dup, 1) := by decide +kernel
theorem dX6_payBack_44 : decode cX6_payBack 44 = .ok (.getfield 142, 3) := by decide +kernel
theorem dX6_payBack_47 : decode cX6_payBack 47 = .ok (.iconst 4, 1) := by decide +kernel
theorem dX6_payBack_48 : decode cX6_payBack 48 = .ok (.iadd, 1) := by decide +kernel
theorem dX6_payBack_49 : decode cX6_payBack 49 = .ok (.putfield 142, 3) := by decide +kernel
theorem dX6_payBack_52 : decode cX6_payBack 52 = .ok (.return_, 1) := by decide +kernel
set_option maxRecDepth 20000 in
theorem ggX6_shareCut_X6_payUsers : GoodIn wsX6_shareCut wsX6_payUsers := goodIn_r _ [10, 11, 12, 13, 14, 15, 16, 17, 18, 19, 20, 21, 35, 36, 37, 38, 39, 40, 41, 42, 33, 34] (by decide +kernel) (by decide +kernel)
set_option maxRecDepth 20000 in
theorem gX6_shareCut_X6_payUsers : GoodIn wsX6_shareCut (wsV RX6 311 RX6 yX6_payUsers wsX6_payUsers) := goodIn_app (goodIn_of _ (by decide +kernel)) ggX6_shareCut_X6_payUsers
theorem dX6_shareCut_0 : decode cX6_shareCut 0 = .ok (.aload_n 1, 1) := by decide +kernel
theorem dX6_shareCut_1 : decode cX6_shareCut 1 = .ok (.getfield 170, 3) := by decide +kernel
theorem dX6_shareCut_4 : decode cX6_shareCut 4 = .ok (.astore_n 3, 1) := by decide +kernel
theorem dX6_shareCut_5 : decode cX6_shareCut 5 = .ok (.aload_n 3, 1) := by decide +kernel
theorem dX6_shareCut_6 : decode cX6_shareCut 6 = .ok (.getfield 106, 3) := by decide +kernel
theorem dX6_shareCut_9 : decode cX6_shareCut 9 = .ok (.iconst 4, 1) := by decide +kernel
theorem dX6_shareCut_10 : decode cX6_shareCut 10 = .ok (.aload_n 3, 1) := by decide +kernel
theorem dX6_shareCut_11 : decode cX6_shareCut 11 = .ok (.getfield 90, 3) := by decide +kernel
theorem dX6_shareCut_14 : decode cX6_shareCut 14 = .ok (.imul, 1) := by decide +kernel
theorem dX6_shareCut_15 : decode cX6_shareCut 15 = .ok (.aload_n 1, 1) := by decide +kernel
theorem dX6_shareCut_16 : decode cX6_shareCut 16 = .ok (.getfield 209, 3) := by decide +kernel
theorem dX6_shareCut_19 : decode cX6_shareCut 19 = .ok (.iconst 1, 1) := by decide +kernel
theorem dX6_shareCut_20 : decode cX6_shareCut 20 = .ok (.iadd, 1) := by decide +kernel
theorem dX6_shareCut_21 : decode cX6_shareCut 21 = .ok (.imul, 1) := by decide +kernel
theorem dX6_shareCut_22 : decode cX6_shareCut 22 = .ok (.invokestatic 308, 3) := by decide +kernel
theorem dX6_shareCut_25 : decode cX6_shareCut 25 = .ok (.istore 4, 2) := by decide +kernel
theorem dX6_shareCut_27 : decode cX6_shareCut 27 = .ok (.aload_n 3, 1) := by decide +kernel
theorem dX6_shareCut_28 : decode cX6_shareCut 28 = .ok (.dup, 1) := by decide +kernel
theorem dX6_shareCut_29 : decode cX6_shareCut 29 = .ok (.getfield 106, 3) := by decide +kernel
theorem dX6_shareCut_32 : decode cX6_shareCut 32 = .ok (.iload 4, 2) := by decide +kernel
theorem dX6_shareCut_34 : decode cX6_shareCut 34 = .ok (.isub, 1) := by decide +kernel
theorem dX6_shareCut_35 : decode cX6_shareCut 35 = .ok (.putfield 106, 3) := by decide +kernel
theorem dX6_shareCut_38 : decode cX6_shareCut 38 = .ok (.aload_n 1, 1) := by decide +kernel
theorem dX6_shareCut_39 : decode cX6_shareCut 39 = .ok (.iload 4, 2) := by decide +kernel
theorem dX6_shareCut_41 : decode cX6_shareCut 41 = .ok (.putfield 243, 3) := by decide +kernel
theorem dX6_shareCut_44 : decode cX6_shareCut 44 = .ok (.iload 4, 2) := by decide +kernel
theorem dX6_shareCut_46 : decode cX6_shareCut 46 = .ok (.iconst 4, 1) := by decide +kernel
theorem dX6_shareCut_47 : decode cX6_shareCut 47 = .ok (.idiv, 1) := by decide +kernel
theorem dX6_shareCut_48 : decode cX6_shareCut 48 = .ok (.istore 5, 2) := by decide +kernel
theorem dX6_shareCut_50 : decode cX6_shareCut 50 = .ok (.aload_n 2, 1) := by decide +kernel
theorem dX6_shareCut_51 : decode cX6_shareCut 51 = .ok (.getfield 304, 3) := by decide +kernel
theorem dX6_shareCut_54 : decode cX6_shareCut 54 = .ok (.dup, 1) := by decide +kernel
theorem dX6_shareCut_55 : decode cX6_shareCut 55 = .ok (.getfield 142, 3) := by decide +kernel
theorem dX6_shareCut_58 : decode cX6_shareCut 58 = .ok (.iload 5, 2) := by decide +kernel
theorem dX6_shareCut_60 : decode cX6_shareCut 60 = .ok (.iadd, 1) := by decide +kernel
theorem dX6_shareCut_61 : decode cX6_shareCut 61 = .ok (.putfield 142, 3) := by decide +kernel
theorem dX6_shareCut_64 : decode cX6_shareCut 64 = .ok (.aload_n 0, 1) := by decide +kernel
theorem dX6_shareCut_65 : decode cX6_shareCut 65 = .ok (.dup, 1) := by decide +kernel
theorem dX6_shareCut_66 : decode cX6_shareCut 66 = .ok (.getfield 37, 3) := by decide +kernel
theorem dX6_shareCut_69 : decode cX6_shareCut 69 = .ok (.iload 4, 2) := by decide +kernel
theorem dX6_shareCut_71 : decode cX6_shareCut 71 = .ok (.iload 5, 2) := by decide +kernel
theorem dX6_shareCut_73 : decode cX6_shareCut 73 = .ok (.isub, 1) := by decide +kernel
theorem dX6_shareCut_74 : decode cX6_shareCut 74 = .ok (.aload_n 0, 1) := by decide +kernel
theorem dX6_shareCut_75 : decode cX6_shareCut 75 = .ok (.aload_n 1, 1) := by decide +kernel
theorem dX6_shareCut_76 : decode cX6_shareCut 76 = .ok (.iload 4, 2) := by decide +kernel
theorem dX6_shareCut_78 : decode cX6_shareCut 78 = .ok (.iconst 2, 1) := by decide +kernel
theorem dX6_shareCut_79 : decode cX6_shareCut 79 = .ok (.idiv, 1) := by decide +kernel
theorem dX6_shareCut_80 : decode cX6_shareCut 80 = .ok (.invokevirtual 311, 3) := by decide +kernel
theorem dX6_shareCut_83 : decode cX6_shareCut 83 = .ok (.isub, 1) := by decide +kernel
theorem dX6_shareCut_84 : decode cX6_shareCut 84 = .ok (.iadd, 1) := by decide +kernel
theorem dX6_shareCut_85 : decode cX6_shareCut 85 = .ok (.putfield 37, 3) := by decide +kernel
theorem dX6_shareCut_88 : decode cX6_shareCut 88 = .ok (.return_, 1) := by decide +kernel
theorem dX6_payUsers_0 : decode cX6_payUsers 0 = .ok (.aload_n 1, 1) := by decide +kernel
theorem dX6_payUsers_1 : decode cX6_payUsers 1 = .ok (.getfield 209, 3) := by decide +kernel
theorem dX6_payUsers_4 : decode cX6_payUsers 4 = .ok (.ifCond .ne 5, 3) := by decide +kernel
theorem dX6_payUsers_7 : decode cX6_payUsers 7 = .ok (.iconst 0, 1) := by decide +kernel
theorem dX6_payUsers_8 : decode cX6_payUsers 8 = .ok (.ireturn, 1) := by decide +kernel
theorem dX6_payUsers_9 : decode cX6_payUsers 9 = .ok (.iload_n 2, 1) := by decide +kernel
theorem dX6_payUsers_10 : decode cX6_payUsers 10 = .ok (.aload_n 1, 1) := by decide +kernel
theorem dX6_payUsers_11 : decode cX6_payUsers 11 = .ok (.getfield 209, 3) := by decide +kernel
theorem dX6_payUsers_14 : decode cX6_payUsers 14 = .ok (.idiv, 1) := by decide +kernel
theorem dX6_payUsers_15 : decode cX6_payUsers 15 = .ok (.istore_n 3, 1) := by decide +kernel
theorem dX6_payUsers_16 : decode cX6_payUsers 16 = .ok (.iconst 0, 1) := by decide +kernel
theorem dX6_payUsers_17 : decode cX6_payUsers 17 = .ok (.istore 4, 2) := by decide +kernel
theorem dX6_payUsers_19 : decode cX6_payUsers 19 = .ok (.iload 4, 2) := by decide +kernel
theorem dX6_payUsers_21 : decode cX6_payUsers 21 = .ok (.bipush 6, 2) := by decide +kernel
theorem dX6_payUsers_23 : decode cX6_payUsers 23 = .ok (.if_icmp .ge 35, 3) := by decide +kernel
theorem dX6_payUsers_26 : decode cX6_payUsers 26 = .ok (.aload_n 1, 1) := by decide +kernel
theorem dX6_payUsers_27 : decode cX6_payUsers 27 = .ok (.getfield 271, 3) := by decide +kernel
theorem dX6_payUsers_30 : decode cX6_payUsers 30 = .ok (.iload 4, 2) := by decide +kernel
theorem dX6_payUsers_32 : decode cX6_payUsers 32 = .ok (.iaload, 1) := by decide +kernel
theorem dX6_payUsers_33 : decode cX6_payUsers 33 = .ok (.ifCond .le 19, 3) := by decide +kernel
theorem dX6_payUsers_36 : decode cX6_payUsers 36 = .ok (.aload_n 0, 1) := by decide +kernel
theorem dX6_payUsers_37 : decode cX6_payUsers 37 = .ok (.getfield 23, 3) := by decide +kernel
theorem dX6_payUsers_40 : decode cX6_payUsers 40 = .ok (.iload 4, 2) := by decide +kernel
theorem dX6_payUsers_42 : decode cX6_payUsers 42 = .ok (.aaload, 1) := by decide +kernel
theorem dX6_payUsers_43 : decode cX6_payUsers 43 = .ok (.dup, 1) := by decide +kernel
theorem dX6_payUsers_44 : decode cX6_payUsers 44 = .ok (.getfield 142, 3) := by decide +kernel
theorem dX6_payUsers_47 : decode cX6_payUsers 47 = .ok (.iload_n 3, 1) := by decide +kernel
theorem dX6_payUsers_48 : decode cX6_payUsers 48 = .ok (.iadd, 1) := by decide +kernel
theorem dX6_payUsers_49 : decode cX6_payUsers 49 = .ok (.putfield 142, 3) := by decide +kernel
theorem dX6_payUsers_52 : decode cX6_payUsers 52 = .ok (.iinc 4 1, 3) := by decide +kernel
theorem dX6_payUsers_55 : decode cX6_payUsers 55 = .ok (.goto (-36), 3) := by decide +kernel
theorem dX6_payUsers_58 : decode cX6_payUsers 58 = .ok (.iload_n 3, 1) := by decide +kernel
theorem dX6_payUsers_59 : decode cX6_payUsers 59 = .ok (.aload_n 1, 1) := by decide +kernel
theorem dX6_payUsers_60 : decode cX6_payUsers 60 = .ok (.getfield 209, 3) := by decide +kernel
theorem dX6_payUsers_63 : decode cX6_payUsers 63 = .ok (.imul, 1) := by decide +kernel
theorem dX6_payUsers_64 : decode cX6_payUsers 64 = .ok (.ireturn, 1) := by decide +kernel
theorem dX6_areNeighbours_0 : decode cX6_areNeighbours 0 = .ok (.iload_n 0, 1) := by decide +kernel
theorem dX6_areNeighbours_1 : decode cX6_areNeighbours 1 = .ok (.iconst 4, 1) := by decide +kernel
theorem dX6_areNeighbours_2 : decode cX6_areNeighbours 2 = .ok (.idiv, 1) := by decide +kernel
theorem dX6_areNeighbours_3 : decode cX6_areNeighbours 3 = .ok (.iload_n 1, 1) := by decide +kernel
theorem dX6_areNeighbours_4 : decode cX6_areNeighbours 4 = .ok (.iconst 4, 1) := by decide +kernel
theorem dX6_areNeighbours_5 : decode cX6_areNeighbours 5 = .ok (.idiv, 1) := by decide +kernel
theorem dX6_areNeighbours_6 : decode cX6_areNeighbours 6 = .ok (.isub, 1) := by decide +kernel
theorem dX6_areNeighbours_7 : decode cX6_areNeighbours 7 = .ok (.invokestatic 315, 3) := by decide +kernel
theorem dX6_areNeighbours_10 : decode cX6_areNeighbours 10 = .ok (.istore_n 2, 1) := by decide +kernel
theorem dX6_areNeighbours_11 : decode cX6_areNeighbours 11 = .ok (.iload_n 0, 1) := by decide +kernel
theorem dX6_areNeighbours_12 : decode cX6_areNeighbours 12 = .ok (.iconst 4, 1) := by decide +kernel
theorem dX6_areNeighbours_13 : decode cX6_areNeighbours 13 = .ok (.irem, 1) := by decide +kernel
theorem dX6_areNeighbours_14 : decode cX6_areNeighbours 14 = .ok (.iload_n 1, 1) := by decide +kernel
theorem dX6_areNeighbours_15 : decode cX6_areNeighbours 15 = .ok (.iconst 4, 1) := by decide +kernel
theorem dX6_areNeighbours_16 : decode cX6_areNeighbours 16 = .ok (.irem, 1) := by decide +kernel
theorem dX6_areNeighbours_17 : decode cX6_areNeighbours 17 = .ok (.isub, 1) := by decide +kernel
theorem dX6_areNeighbours_18 : decode cX6_areNeighbours 18 = .ok (.invokestatic 315, 3) := by decide +kernel
theorem dX6_areNeighbours_21 : decode cX6_areNeighbours 21 = .ok (.istore_n 3, 1) := by decide +kernel
theorem dX6_areNeighbours_22 : decode cX6_areNeighbours 22 = .ok (.iload_n 2, 1) := by decide +kernel
theorem dX6_areNeighbours_23 : decode cX6_areNeighbours 23 = .ok (.iload_n 3, 1) := by decide +kernel
theorem dX6_areNeighbours_24 : decode cX6_areNeighbours 24 = .ok (.iadd, 1) := by decide +kernel
theorem dX6_areNeighbours_25 : decode cX6_areNeighbours 25 = .ok (.iconst 1, 1) := by decide +kernel
theorem dX6_areNeighbours_26 : decode cX6_areNeighbours 26 = .ok (.if_icmp .ne 7, 3) := by decide +kernel
theorem dX6_areNeighbours_29 : decode cX6_areNeighbours 29 = .ok (.iconst 1, 1) := by decide +kernel
theorem dX6_areNeighbours_30 : decode cX6_areNeighbours 30 = .ok (.goto 4, 3) := by decide +kernel
theorem dX6_areNeighbours_33 : decode cX6_areNeighbours 33 = .ok (.iconst 0, 1) := by decide +kernel
theorem dX6_areNeighbours_34 : decode cX6_areNeighbours 34 = .ok (.ireturn, 1) := by decide +kernel
set_option maxRecDepth 20000 in
theorem ggX6_countNeighbours_X6_areNeighbours : GoodIn wsX6_countNeighbours wsX6_areNeighbours := goodIn_r _ [4, 5, 6, 7, 8] (by decide +kernel) (by decide +kernel)
set_option maxRecDepth 20000 in
theorem gX6_countNeighbours_X6_areNeighbours : GoodIn wsX6_countNeighbours (va_wsS RX6 179 yX6_areNeighbours wsX6_areNeighbours) := goodIn_app (goodIn_of _ (by decide +kernel)) ggX6_countNeighbours_X6_areNeighbours
theorem dX6_countNeighbours_0 : decode cX6_countNeighbours 0 = .ok (.iconst 0, 1) := by decide +kernel
theorem dX6_countNeighbours_1 : decode cX6_countNeighbours 1 = .ok (.istore_n 1, 1) := by decide +kernel
theorem dX6_countNeighbours_2 : decode cX6_countNeighbours 2 = .ok (.iconst 0, 1) := by decide +kernel
theorem dX6_countNeighbours_3 : decode cX6_countNeighbours 3 = .ok (.istore_n 2, 1) := by decide +kernel
theorem dX6_countNeighbours_4 : decode cX6_countNeighbours 4 = .ok (.iload_n 2, 1) := by decide +kernel
theorem dX6_countNeighbours_5 : decode cX6_countNeighbours 5 = .ok (.bipush 12, 2) := by decide +kernel
theorem dX6_countNeighbours_7 : decode cX6_countNeighbours 7 = .ok (.if_icmp .ge 20, 3) := by decide +kernel
theorem dX6_countNeighbours_10 : decode cX6_countNeighbours 10 = .ok (.iload_n 0, 1) := by decide +kernel
theorem dX6_countNeighbours_11 : decode cX6_countNeighbours 11 = .ok (.iload_n 2, 1) := by decide +kernel
theorem dX6_countNeighbours_12 : decode cX6_countNeighbours 12 = .ok (.invokestatic 179, 3) := by decide +kernel
theorem dX6_countNeighbours_15 : decode cX6_countNeighbours 15 = .ok (.ifCond .eq 6, 3) := by decide +kernel
theorem dX6_countNeighbours_18 : decode cX6_countNeighbours 18 = .ok (.iinc 1 1, 3) := by decide +kernel
theorem dX6_countNeighbours_21 : decode cX6_countNeighbours 21 = .ok (.iinc 2 1, 3) := by decide +kernel
theorem dX6_countNeighbours_24 : decode cX6_countNeighbours 24 = .ok (.goto (-20), 3) := by decide +kernel
theorem dX6_countNeighbours_27 : decode cX6_countNeighbours 27 = .ok (.iload_n 1, 1) := by decide +kernel
theorem dX6_countNeighbours_28 : decode cX6_countNeighbours 28 = .ok (.ireturn, 1) := by decide +kernel
theorem dX6_weightOf_0 : decode cX6_weightOf 0 = .ok (.iload_n 0, 1) := by decide +kernel
theorem dX6_weightOf_1 : decode cX6_weightOf 1 = .ok (.iconst 2, 1) := by decide +kernel
theorem dX6_weightOf_2 : decode cX6_weightOf 2 = .ok (.if_icmp .ne 5, 3) := by decide +kernel
theorem dX6_weightOf_5 : decode cX6_weightOf 5 = .ok (.iconst 1, 1) := by decide +kernel
theorem dX6_weightOf_6 : decode cX6_weightOf 6 = .ok (.ireturn, 1) := by decide +kernel
theorem dX6_weightOf_7 : decode cX6_weightOf 7 = .ok (.iload_n 0, 1) := by decide +kernel
theorem dX6_weightOf_8 : decode cX6_weightOf 8 = .ok (.iconst 3, 1) := by decide +kernel
theorem dX6_weightOf_9 : decode cX6_weightOf 9 = .ok (.if_icmp .ne 8, 3) := by decide +kernel
theorem dX6_weightOf_12 : decode cX6_weightOf 12 = .ok (.bipush (-3), 2) := by decide +kernel
theorem dX6_weightOf_14 : decode cX6_weightOf 14 = .ok (.goto 4, 3) := by decide +kernel
theorem dX6_weightOf_17 : decode cX6_weightOf 17 = .ok (.iconst 0, 1) := by decide +kernel
theorem dX6_weightOf_18 : decode cX6_weightOf 18 = .ok (.ireturn, 1) := by decide +kernel
theorem dX6_signOf_0 : decode cX6_signOf 0 = .ok (.iload_n 0, 1) := by decide +kernel
theorem dX6_signOf_1 : decode cX6_signOf 1 = .ok (.tableswitch 43 0 3 #[31, 34, 37, 40], 31) := by decide +kernel
theorem dX6_signOf_32 : decode cX6_signOf 32 = .ok (.bipush 46, 2) := by decide +kernel
theorem dX6_signOf_34 : decode cX6_signOf 34 = .ok (.ireturn, 1) := by decide +kernel
theorem dX6_signOf_35 : decode cX6_signOf 35 = .ok (.bipush 63, 2) := by decide +kernel
theorem dX6_signOf_37 : decode cX6_signOf 37 = .ok (.ireturn, 1) := by decide +kernel
theorem dX6_signOf_38 : decode cX6_signOf 38 = .ok (.bipush 43, 2) := by decide +kernel
theorem dX6_signOf_40 : decode cX6_signOf 40 = .ok (.ireturn, 1) := by decide +kernel
theorem dX6_signOf_41 : decode cX6_signOf 41 = .ok (.bipush 45, 2) := by decide +kernel
theorem dX6_signOf_43 : decode cX6_signOf 43 = .ok (.ireturn, 1) := by decide +kernel
theorem dX6_signOf_44 : decode cX6_signOf 44 = .ok (.bipush 120, 2) := by decide +kernel
theorem dX6_signOf_46 : decode cX6_signOf 46 = .ok (.ireturn, 1) := by decide +kernel
theorem dX7_init_0 : decode cX7_init 0 = .ok (.aload_n 0, 1) := by decide +kernel
theorem dX7_init_1 : decode cX7_init 1 = .ok (.invokespecial 1, 3) := by decide +kernel
theorem dX7_init_4 : decode cX7_init 4 = .ok (.aload_n 0, 1) := by decide +kernel
theorem dX7_init_5 : decode cX7_init 5 = .ok (.bipush 6, 2) := by decide +kernel
theorem dX7_init_7 : decode cX7_init 7 = .ok (.newarray .int, 2) := by decide +kernel
theorem dX7_init_9 : decode cX7_init 9 = .ok (.putfield 7, 3) := by decide +kernel
theorem dX7_init_12 : decode cX7_init 12 = .ok (.aload_n 0, 1) := by decide +kernel
theorem dX7_init_13 : decode cX7_init 13 = .ok (.bipush 6, 2) := by decide +kernel
theorem dX7_init_15 : decode cX7_init 15 = .ok (.newarray .int, 2) := by decide +kernel
theorem dX7_init_17 : decode cX7_init 17 = .ok (.putfield 13, 3) := by decide +kernel
theorem dX7_init_20 : decode cX7_init 20 = .ok (.aload_n 0, 1) := by decide +kernel
theorem dX7_init_21 : decode cX7_init 21 = .ok (.bipush 6, 2) := by decide +kernel
theorem dX7_init_23 : decode cX7_init 23 = .ok (.newarray .int, 2) := by decide +kernel
theorem dX7_init_25 : decode cX7_init 25 = .ok (.putfield 16, 3) := by decide +kernel
theorem dX7_init_28 : decode cX7_init 28 = .ok (.aload_n 0, 1) := by decide +kernel
theorem dX7_init_29 : decode cX7_init 29 = .ok (.bipush 6, 2) := by decide +kernel
theorem dX7_init_31 : decode cX7_init 31 = .ok (.newarray .int, 2) := by decide +kernel
theorem dX7_init_33 : decode cX7_init 33 = .ok (.putfield 19, 3) := by decide +kernel
theorem dX7_init_36 : decode cX7_init 36 = .ok (.aload_n 0, 1) := by decide +kernel
theorem dX7_init_37 : decode cX7_init 37 = .ok (.bipush 12, 2) := by decide +kernel
theorem dX7_init_39 : decode cX7_init 39 = .ok (.newarray .int, 2) := by decide +kernel
theorem dX7_init_41 : decode cX7_init 41 = .ok (.putfield 22, 3) := by decide +kernel
theorem dX7_init_44 : decode cX7_init 44 = .ok (.aload_n 0, 1) := by decide +kernel
theorem dX7_init_45 : decode cX7_init 45 = .ok (.bipush 12, 2) := by decide +kernel
theorem dX7_init_47 : decode cX7_init 47 = .ok (.newarray .int, 2) := by decide +kernel
theorem dX7_init_49 : decode cX7_init 49 = .ok (.putfield 25, 3) := by decide +kernel
theorem dX7_init_52 : decode cX7_init 52 = .ok (.aload_n 0, 1) := by decide +kernel
theorem dX7_init_53 : decode cX7_init 53 = .ok (.bipush 12, 2) := by decide +kernel
theorem dX7_init_55 : decode cX7_init 55 = .ok (.newarray .int, 2) := by decide +kernel
theorem dX7_init_57 : decode cX7_init 57 = .ok (.putfield 28, 3) := by decide +kernel
theorem dX7_init_60 : decode cX7_init 60 = .ok (.aload_n 0, 1) := by decide +kernel
theorem dX7_init_61 : decode cX7_init 61 = .ok (.bipush 12, 2) := by decide +kernel
theorem dX7_init_63 : decode cX7_init 63 = .ok (.newarray .int, 2) := by decide +kernel
theorem dX7_init_65 : decode cX7_init 65 = .ok (.putfield 31, 3) := by decide +kernel
theorem dX7_init_68 : decode cX7_init 68 = .ok (.aload_n 0, 1) := by decide +kernel
theorem dX7_init_69 : decode cX7_init 69 = .ok (.bipush 12, 2) := by decide +kernel
theorem dX7_init_71 : decode cX7_init 71 = .ok (.newarray .int, 2) := by decide +kernel
theorem dX7_init_73 : decode cX7_init 73 = .ok (.putfield 34, 3) := by decide +kernel
theorem dX7_init_76 : decode cX7_init 76 = .ok (.aload_n 0, 1) := by decide +kernel
theorem dX7_init_77 : decode cX7_init 77 = .ok (.bipush 6, 2) := by decide +kernel
theorem dX7_init_79 : decode cX7_init 79 = .ok (.newarray .int, 2) := by decide +kernel
theorem dX7_init_81 : decode cX7_init 81 = .ok (.putfield 37, 3) := by decide +kernel
theorem dX7_init_84 : decode cX7_init 84 = .ok (.aload_n 0, 1) := by decide +kernel
theorem dX7_init_85 : decode cX7_init 85 = .ok (.bipush 72, 2) := by decide +kernel
theorem dX7_init_87 : decode cX7_init 87 = .ok (.newarray .boolean, 2) := by decide +kernel
theorem dX7_init_89 : decode cX7_init 89 = .ok (.putfield 40, 3) := by decide +kernel
theorem dX7_init_92 : decode cX7_init 92 = .ok (.aload_n 0, 1) := by decide +kernel
theorem dX7_init_93 : decode cX7_init 93 = .ok (.bipush 72, 2) := by decide +kernel
theorem dX7_init_95 : decode cX7_init 95 = .ok (.newarray .int, 2) := by decide +kernel
theorem dX7_init_97 : decode cX7_init 97 = .ok (.putfield 44, 3) := by decide +kernel
theorem dX7_init_100 : decode cX7_init 100 = .ok (.aload_n 0, 1) := by decide +kernel
theorem dX7_init_101 : decode cX7_init 101 = .ok (.bipush 72, 2) := by decide +kernel
theorem dX7_init_103 : decode cX7_init 103 = .ok (.newarray .int, 2) := by decide +kernel
theorem dX7_init_105 : decode cX7_init 105 = .ok (.putfield 47, 3) := by decide +kernel
theorem dX7_init_108 : decode cX7_init 108 = .ok (.aload_n 0, 1) := by decide +kernel
theorem dX7_init_109 : decode cX7_init 109 = .ok (.bipush 72, 2) := by decide +kernel
theorem dX7_init_111 : decode cX7_init 111 = .ok (.newarray .int, 2) := by decide +kernel
theorem dX7_init_113 : decode cX7_init 113 = .ok (.putfield 50, 3) := by decide +kernel
theorem dX7_init_116 : decode cX7_init 116 = .ok (.aload_n 0, 1) := by decide +kernel
theorem dX7_init_117 : decode cX7_init 117 = .ok (.bipush 80, 2) := by decide +kernel
theorem dX7_init_119 : decode cX7_init 119 = .ok (.newarray .int, 2) := by decide +kernel
theorem dX7_init_121 : decode cX7_init 121 = .ok (.putfield 53, 3) := by decide +kernel
theorem dX7_init_124 : decode cX7_init 124 = .ok (.aload_n 0, 1) := by decide +kernel
theorem dX7_init_125 : decode cX7_init 125 = .ok (.bipush 80, 2) := by decide +kernel
theorem dX7_init_127 : decode cX7_init 127 = .ok (.newarray .int, 2) := by decide +kernel
theorem dX7_init_129 : decode cX7_init 129 = .ok (.putfield 56, 3) := by decide +kernel
theorem dX7_init_132 : decode cX7_init 132 = .ok (.aload_n 0, 1) := by decide +kernel
theorem dX7_init_133 : decode cX7_init 133 = .ok (.bipush 80, 2) := by decide +kernel
theorem dX7_init_135 : decode cX7_init 135 = .ok (.newarray .int, 2) := by decide +kernel
theorem dX7_init_137 : decode cX7_init 137 = .ok (.putfield 59, 3) := by decide +kernel
theorem dX7_init_140 : decode cX7_init 140 = .ok (.aload_n 0, 1) := by decide +kernel
theorem dX7_init_141 : decode cX7_init 141 = .ok (.bipush 80, 2) := by decide +kernel
theorem dX7_init_143 : decode cX7_init 143 = .ok (.newarray .int, 2) := by decide +kernel
theorem dX7_init_145 : decode cX7_init 145 = .ok (.putfield 62, 3) := by decide +kernel
theorem dX7_init_148 : decode cX7_init 148 = .ok (.aload_n 0, 1) := by decide +kernel
theorem dX7_init_149 : decode cX7_init 149 = .ok (.bipush 80, 2) := by decide +kernel
theorem dX7_init_151 : decode cX7_init 151 = .ok (.newarray .int, 2) := by decide +kernel
theorem dX7_init_153 : decode cX7_init 153 = .ok (.putfield 65, 3) := by decide +kernel
theorem dX7_init_156 : decode cX7_init 156 = .ok (.aload_n 0, 1) := by decide +kernel
theorem dX7_init_157 : decode cX7_init 157 = .ok (.bipush 80, 2) := by decide +kernel
theorem dX7_init_159 : decode cX7_init 159 = .ok (.newarray .int, 2) := by decide +kernel
theorem dX7_init_161 : decode cX7_init 161 = .ok (.putfield 68, 3) := by decide +kernel
theorem dX7_init_164 : decode cX7_init 164 = .ok (.aload_n 0, 1) := by decide +kernel
theorem dX7_init_165 : decode cX7_init 165 = .ok (.sipush 480, 3) := by decide +kernel
theorem dX7_init_168 : decode cX7_init 168 = .ok (.newarray .int, 2) := by decide +kernel
theorem dX7_init_170 : decode cX7_init 170 = .ok (.putfield 71, 3) := by decide +kernel
theorem dX7_init_173 : decode cX7_init 173 = .ok (.aload_n 0, 1) := by decide +kernel
theorem dX7_init_174 : decode cX7_init 174 = .ok (.bipush 80, 2) := by decide +kernel
theorem dX7_init_176 : decode cX7_init 176 = .ok (.newarray .int, 2) := by decide +kernel
theorem dX7_init_178 : decode cX7_init 178 = .ok (.putfield 74, 3) := by decide +kernel
theorem dX7_init_181 : decode cX7_init 181 = .ok (.aload_n 0, 1) := by decide +kernel
theorem dX7_init_182 : decode cX7_init 182 = .ok (.sipush 960, 3) := by decide +kernel
theorem dX7_init_185 : decode cX7_init 185 = .ok (.newarray .int, 2) := by decide +kernel
theorem dX7_init_187 : decode cX7_init 187 = .ok (.putfield 77, 3) := by decide +kernel
theorem dX7_init_190 : decode cX7_init 190 = .ok (.iconst 0, 1) := by decide +kernel
theorem dX7_init_191 : decode cX7_init 191 = .ok (.istore_n 1, 1) := by decide +kernel
theorem dX7_init_192 : decode cX7_init 192 = .ok (.iload_n 1, 1) := by decide +kernel
theorem dX7_init_193 : decode cX7_init 193 = .ok (.bipush 12, 2) := by decide +kernel
theorem dX7_init_195 : decode cX7_init 195 = .ok (.if_icmp .ge 41, 3) := by decide +kernel
theorem dX7_init_198 : decode cX7_init 198 = .ok (.aload_n 0, 1) := by decide +kernel
theorem dX7_init_199 : decode cX7_init 199 = .ok (.getfield 22, 3) := by decide +kernel
theorem dX7_init_202 : decode cX7_init 202 = .ok (.iload_n 1, 1) := by decide +kernel
theorem dX7_init_203 : decode cX7_init 203 = .ok (.iload_n 1, 1) := by decide +kernel
theorem dX7_init_204 : decode cX7_init 204 = .ok (.bipush 6, 2) := by decide +kernel
theorem dX7_init_206 : decode cX7_init 206 = .ok (.irem, 1) := by decide +kernel
theorem dX7_init_207 : decode cX7_init 207 = .ok (.iastore, 1) := by decide +kernel
theorem dX7_init_208 : decode cX7_init 208 = .ok (.aload_n 0, 1) := by decide +kernel
theorem dX7_init_209 : decode cX7_init 209 = .ok (.getfield 25, 3) := by decide +kernel
theorem dX7_init_212 : decode cX7_init 212 = .ok (.iload_n 1, 1) := by decide +kernel
theorem dX7_init_213 : decode cX7_init 213 = .ok (.bipush 100, 2) := by decide +kernel
theorem dX7_init_215 : decode cX7_init 215 = .ok (.iastore, 1) := by decide +kernel
theorem dX7_init_216 : decode cX7_init 216 = .ok (.aload_n 0, 1) := by decide +kernel
theorem dX7_init_217 : decode cX7_init 217 = .ok (.getfield 31, 3) := by decide +kernel
theorem dX7_init_220 : decode cX7_init 220 = .ok (.iload_n 1, 1) := by decide +kernel
theorem dX7_init_221 : decode cX7_init 221 = .ok (.iconst 1, 1) := by decide +kernel
theorem dX7_init_222 : decode cX7_init 222 = .ok (.iastore, 1) := by decide +kernel
theorem dX7_init_223 : decode cX7_init 223 = .ok (.aload_n 0, 1) := by decide +kernel
theorem dX7_init_224 : decode cX7_init 224 = .ok (.getfield 34, 3) := by decide +kernel
theorem dX7_init_227 : decode cX7_init 227 = .ok (.iload_n 1, 1) := by decide +kernel
theorem dX7_init_228 : decode cX7_init 228 = .ok (.iconst (-1), 1) := by decide +kernel
theorem dX7_init_229 : decode cX7_init 229 = .ok (.iastore, 1) := by decide +kernel
theorem dX7_init_230 : decode cX7_init 230 = .ok (.iinc 1 1, 3) := by decide +kernel
theorem dX7_init_233 : decode cX7_init 233 = .ok (.goto (-41), 3) := by decide +kernel
theorem dX7_init_236 : decode cX7_init 236 = .ok (.iconst 0, 1) := by decide +kernel
theorem dX7_init_237 : decode cX7_init 237 = .ok (.istore_n 1, 1) := by decide +kernel
theorem dX7_init_238 : decode cX7_init 238 = .ok (.iload_n 1, 1) := by decide +kernel
theorem dX7_init_239 : decode cX7_init 239 = .ok (.bipush 6, 2) := by decide +kernel
theorem dX7_init_241 : decode cX7_init 241 = .ok (.if_icmp .ge 18, 3) := by decide +kernel
theorem dX7_init_244 : decode cX7_init 244 = .ok (.aload_n 0, 1) := by decide +kernel
theorem dX7_init_245 : decode cX7_init 245 = .ok (.getfield 37, 3) := by decide +kernel
theorem dX7_init_248 : decode cX7_init 248 = .ok (.iload_n 1, 1) := by decide +kernel
theorem dX7_init_249 : decode cX7_init 249 = .ok (.sipush 200, 3) := by decide +kernel
theorem dX7_init_252 : decode cX7_init 252 = .ok (.iastore, 1) := by decide +kernel
theorem dX7_init_253 : decode cX7_init 253 = .ok (.iinc 1 1, 3) := by decide +kernel
theorem dX7_init_256 : decode cX7_init 256 = .ok (.goto (-18), 3) := by decide +kernel
theorem dX7_init_259 : decode cX7_init 259 = .ok (.iconst 0, 1) := by decide +kernel
theorem dX7_init_260 : decode cX7_init 260 = .ok (.istore_n 1, 1) := by decide +kernel
theorem dX7_init_261 : decode cX7_init 261 = .ok (.iload_n 1, 1) := by decide +kernel
theorem dX7_init_262 : decode cX7_init 262 = .ok (.sipush 960, 3) := by decide +kernel
theorem dX7_init_265 : decode cX7_init 265 = .ok (.if_icmp .ge 16, 3) := by decide +kernel
theorem dX7_init_268 : decode cX7_init 268 = .ok (.aload_n 0, 1) := by decide +kernel
theorem dX7_init_269 : decode cX7_init 269 = .ok (.getfield 77, 3) := by decide +kernel
theorem dX7_init_272 : decode cX7_init 272 = .ok (.iload_n 1, 1) := by decide +kernel
theorem dX7_init_273 : decode cX7_init 273 = .ok (.iconst (-1), 1) := by decide +kernel
theorem dX7_init_274 : decode cX7_init 274 = .ok (.iastore, 1) := by decide +kernel
theorem dX7_init_275 : decode cX7_init 275 = .ok (.iinc 1 1, 3) := by decide +kernel
theorem dX7_init_278 : decode cX7_init 278 = .ok (.goto (-17), 3) := by decide +kernel
theorem dX7_init_281 : decode cX7_init 281 = .ok (.return_, 1) := by decide +kernel
theorem dX7_thrown_0 : decode cX7_thrown 0 = .ok (.aload_n 0, 1) := by decide +kernel
theorem dX7_thrown_1 : decode cX7_thrown 1 = .ok (.getfield 80, 3) := by decide +kernel
theorem dX7_thrown_4 : decode cX7_thrown 4 = .ok (.ireturn, 1) := by decide +kernel
theorem dX7_can_0 : decode cX7_can 0 = .ok (.aload_n 0, 1) := by decide +kernel
theorem dX7_can_1 : decode cX7_can 1 = .ok (.iload_n 1, 1) := by decide +kernel
theorem dX7_can_2 : decode cX7_can 2 = .ok (.putfield 80, 3) := by decide +kernel
theorem dX7_can_5 : decode cX7_can 5 = .ok (.iload_n 1, 1) := by decide +kernel
theorem dX7_can_6 : decode cX7_can 6 = .ok (.ifCond .ne 7, 3) := by decide +kernel
theorem dX7_can_9 : decode cX7_can 9 = .ok (.iconst 1, 1) := by decide +kernel
theorem dX7_can_10 : decode cX7_can 10 = .ok (.goto 4, 3) := by decide +kernel
theorem dX7_can_13 : decode cX7_can 13 = .ok (.iconst 0, 1) := by decide +kernel
theorem dX7_can_14 : decode cX7_can 14 = .ok (.ireturn, 1) := by decide +kernel
theorem dX7_isIn_0 : decode cX7_isIn 0 = .ok (.iload_n 0, 1) := by decide +kernel
theorem dX7_isIn_1 : decode cX7_isIn 1 = .ok (.iload_n 1, 1) := by decide +kernel
theorem dX7_isIn_2 : decode cX7_isIn 2 = .ok (.if_icmp .lt 12, 3) := by decide +kernel
theorem dX7_isIn_5 : decode cX7_isIn 5 = .ok (.iload_n 0, 1) := by decide +kernel
theorem dX7_isIn_6 : decode cX7_isIn 6 = .ok (.iload_n 2, 1) := by decide +kernel
theorem dX7_isIn_7 : decode cX7_isIn 7 = .ok (.if_icmp .gt 7, 3) := by decide +kernel
theorem dX7_isIn_10 : decode cX7_isIn 10 = .ok (.iconst 1, 1) := by decide +kernel
theorem dX7_isIn_11 : decode cX7_isIn 11 = .ok (.goto 4, 3) := by decide +kernel
theorem dX7_isIn_14 : decode cX7_isIn 14 = .ok (.iconst 0, 1) := by decide +kernel
theorem dX7_isIn_15 : decode cX7_isIn 15 = .ok (.ireturn, 1) := by decide +kernel
set_option maxRecDepth 20000 in
theorem ggX7_isSensor_X7_isIn : GoodIn wsX7_isSensor wsX7_isIn := goodIn_r _ [4] (by decide +kernel) (by decide +kernel)
set_option maxRecDepth 20000 in
theorem gX7_isSensor_X7_isIn : GoodIn wsX7_isSensor (va_wsS RX7 84 yX7_isIn wsX7_isIn) := goodIn_app (goodIn_of _ (by decide +kernel)) ggX7_isSensor_X7_isIn
theorem dX7_isSensor_0 : decode cX7_isSensor 0 = .ok (.iload_n 0, 1) := by decide +kernel
theorem dX7_isSensor_1 : decode cX7_isSensor 1 = .ok (.iconst 0, 1) := by decide +kernel
theorem dX7_isSensor_2 : decode cX7_isSensor 2 = .ok (.bipush 11, 2) := by decide +kernel
theorem dX7_isSensor_4 : decode cX7_isSensor 4 = .ok (.invokestatic 84, 3) := by decide +kernel
theorem dX7_isSensor_7 : decode cX7_isSensor 7 = .ok (.ireturn, 1) := by decide +kernel
set_option maxRecDepth 20000 in
theorem ggX7_isRepeater_X7_isIn : GoodIn wsX7_isRepeater wsX7_isIn := goodIn_r _ [4] (by decide +kernel) (by decide +kernel)
set_option maxRecDepth 20000 in
theorem gX7_isRepeater_X7_isIn : GoodIn wsX7_isRepeater (va_wsS RX7 84 yX7_isIn wsX7_isIn) := goodIn_app (goodIn_of _ (by decide +kernel)) ggX7_isRepeater_X7_isIn
theorem dX7_isRepeater_0 : decode cX7_isRepeater 0 = .ok (.iload_n 0, 1) := by decide +kernel
theorem dX7_isRepeater_1 : decode cX7_isRepeater 1 = .ok (.iconst 0, 1) := by decide +kernel
theorem dX7_isRepeater_2 : decode cX7_isRepeater 2 = .ok (.iconst 5, 1) := by decide +kernel
theorem dX7_isRepeater_3 : decode cX7_isRepeater 3 = .ok (.invokestatic 84, 3) := by decide +kernel
theorem dX7_isRepeater_6 : decode cX7_isRepeater 6 = .ok (.ireturn, 1) := by decide +kernel
set_option maxRecDepth 20000 in
theorem ggX7_isBuyer_X7_isIn : GoodIn wsX7_isBuyer wsX7_isIn := goodIn_r _ [4] (by decide +kernel) (by decide +kernel)
set_option maxRecDepth 20000 in
theorem gX7_isBuyer_X7_isIn : GoodIn wsX7_isBuyer (va_wsS RX7 84 yX7_isIn wsX7_isIn) := goodIn_app (goodIn_of _ (by decide +kernel)) ggX7_isBuyer_X7_isIn
theorem dX7_isBuyer_0 : decode cX7_isBuyer 0 = .ok (.iload_n 0, 1) := by decide +kernel
theorem dX7_isBuyer_1 : decode cX7_isBuyer 1 = .ok (.iconst 0, 1) := by decide +kernel
theorem dX7_isBuyer_2 : decode cX7_isBuyer 2 = .ok (.iconst 5, 1) := by decide +kernel
theorem dX7_isBuyer_3 : decode cX7_isBuyer 3 = .ok (.invokestatic 84, 3) := by decide +kernel
theorem dX7_isBuyer_6 : decode cX7_isBuyer 6 = .ok (.ireturn, 1) := by decide +kernel
set_option maxRecDepth 20000 in
theorem ggX7_isReading_X7_isIn : GoodIn wsX7_isReading wsX7_isIn := goodIn_r _ [5] (by decide +kernel) (by decide +kernel)
set_option maxRecDepth 20000 in
theorem gX7_isReading_X7_isIn : GoodIn wsX7_isReading (va_wsS RX7 84 yX7_isIn wsX7_isIn) := goodIn_app (goodIn_of _ (by decide +kernel)) ggX7_isReading_X7_isIn
theorem dX7_isReading_0 : decode cX7_isReading 0 = .ok (.iload_n 1, 1) := by decide +kernel
theorem dX7_isReading_1 : decode cX7_isReading 1 = .ok (.iconst 0, 1) := by decide +kernel
theorem dX7_isReading_2 : decode cX7_isReading 2 = .ok (.aload_n 0, 1) := by decide +kernel
theorem dX7_isReading_3 : decode cX7_isReading 3 = .ok (.getfield 88, 3) := by decide +kernel
theorem dX7_isReading_6 : decode cX7_isReading 6 = .ok (.iconst 1, 1) := by decide +kernel
theorem dX7_isReading_7 : decode cX7_isReading 7 = .ok (.isub, 1) := by decide +kernel
theorem dX7_isReading_8 : decode cX7_isReading 8 = .ok (.invokestatic 84, 3) := by decide +kernel
theorem dX7_isReading_11 : decode cX7_isReading 11 = .ok (.ireturn, 1) := by decide +kernel
set_option maxRecDepth 20000 in
theorem ggX7_isValue_X7_isIn : GoodIn wsX7_isValue wsX7_isIn := goodIn_r _ [4] (by decide +kernel) (by decide +kernel)
set_option maxRecDepth 20000 in
theorem gX7_isValue_X7_isIn : GoodIn wsX7_isValue (va_wsS RX7 84 yX7_isIn wsX7_isIn) := goodIn_app (goodIn_of _ (by decide +kernel)) ggX7_isValue_X7_isIn
theorem dX7_isValue_0 : decode cX7_isValue 0 = .ok (.iload_n 0, 1) := by decide +kernel
theorem dX7_isValue_1 : decode cX7_isValue 1 = .ok (.iconst 0, 1) := by decide +kernel
theorem dX7_isValue_2 : decode cX7_isValue 2 = .ok (.bipush 99, 2) := by decide +kernel
theorem dX7_isValue_4 : decode cX7_isValue 4 = .ok (.invokestatic 84, 3) := by decide +kernel
theorem dX7_isValue_7 : decode cX7_isValue 7 = .ok (.ireturn, 1) := by decide +kernel
theorem dX7_apart_0 : decode cX7_apart 0 = .ok (.iload_n 0, 1) := by decide +kernel
theorem dX7_apart_1 : decode cX7_apart 1 = .ok (.iload_n 1, 1) := by decide +kernel
theorem dX7_apart_2 : decode cX7_apart 2 = .ok (.if_icmp .ge 9, 3) := by decide +kernel
theorem dX7_apart_5 : decode cX7_apart 5 = .ok (.iload_n 1, 1) := by decide +kernel
theorem dX7_apart_6 : decode cX7_apart 6 = .ok (.iload_n 0, 1) := by decide +kernel
theorem dX7_apart_7 : decode cX7_apart 7 = .ok (.isub, 1) := by decide +kernel
theorem dX7_apart_8 : decode cX7_apart 8 = .ok (.goto 6, 3) := by decide +kernel
theorem dX7_apart_11 : decode cX7_apart 11 = .ok (.iload_n 0, 1) := by decide +kernel
theorem dX7_apart_12 : decode cX7_apart 12 = .ok (.iload_n 1, 1) := by decide +kernel
theorem dX7_apart_13 : decode cX7_apart 13 = .ok (.isub, 1) := by decide +kernel
theorem dX7_apart_14 : decode cX7_apart 14 = .ok (.ireturn, 1) := by decide +kernel
set_option maxRecDepth 20000 in
theorem ggX7_areNeighbours_X7_apart : GoodIn wsX7_areNeighbours wsX7_apart := goodIn_r _ [4] (by decide +kernel) (by decide +kernel)
set_option maxRecDepth 20000 in
theorem gX7_areNeighbours_X7_apart : GoodIn wsX7_areNeighbours (va_wsS RX7 91 yX7_apart wsX7_apart) := goodIn_app (goodIn_of _ (by decide +kernel)) ggX7_areNeighbours_X7_apart
theorem dX7_areNeighbours_0 : decode cX7_areNeighbours 0 = .ok (.iload_n 0, 1) := by decide +kernel
theorem dX7_areNeighbours_1 : decode cX7_areNeighbours 1 = .ok (.iconst 4, 1) := by decide +kernel
theorem dX7_areNeighbours_2 : decode cX7_areNeighbours 2 = .ok (.idiv, 1) := by decide +kernel
theorem dX7_areNeighbours_3 : decode cX7_areNeighbours 3 = .ok (.iload_n 1, 1) := by decide +kernel
theorem dX7_areNeighbours_4 : decode cX7_areNeighbours 4 = .ok (.iconst 4, 1) := by decide +kernel
theorem dX7_areNeighbours_5 : decode cX7_areNeighbours 5 = .ok (.idiv, 1) := by decide +kernel
theorem dX7_areNeighbours_6 : decode cX7_areNeighbours 6 = .ok (.invokestatic 91, 3) := by decide +kernel
theorem dX7_areNeighbours_9 : decode cX7_areNeighbours 9 = .ok (.istore_n 2, 1) := by decide +kernel
theorem dX7_areNeighbours_10 : decode cX7_areNeighbours 10 = .ok (.iload_n 0, 1) := by decide +kernel
theorem dX7_areNeighbours_11 : decode cX7_areNeighbours 11 = .ok (.iconst 4, 1) := by decide +kernel
theorem dX7_areNeighbours_12 : decode cX7_areNeighbours 12 = .ok (.irem, 1) := by decide +kernel
theorem dX7_areNeighbours_13 : decode cX7_areNeighbours 13 = .ok (.iload_n 1, 1) := by decide +kernel
theorem dX7_areNeighbours_14 : decode cX7_areNeighbours 14 = .ok (.iconst 4, 1) := by decide +kernel
theorem dX7_areNeighbours_15 : decode cX7_areNeighbours 15 = .ok (.irem, 1) := by decide +kernel
theorem dX7_areNeighbours_16 : decode cX7_areNeighbours 16 = .ok (.invokestatic 91, 3) := by decide +kernel
theorem dX7_areNeighbours_19 : decode cX7_areNeighbours 19 = .ok (.istore_n 3, 1) := by decide +kernel
theorem dX7_areNeighbours_20 : decode cX7_areNeighbours 20 = .ok (.iload_n 2, 1) := by decide +kernel
theorem dX7_areNeighbours_21 : decode cX7_areNeighbours 21 = .ok (.iload_n 3, 1) := by decide +kernel
theorem dX7_areNeighbours_22 : decode cX7_areNeighbours 22 = .ok (.iadd, 1) := by decide +kernel
theorem dX7_areNeighbours_23 : decode cX7_areNeighbours 23 = .ok (.iconst 1, 1) := by decide +kernel
theorem dX7_areNeighbours_24 : decode cX7_areNeighbours 24 = .ok (.if_icmp .ne 7, 3) := by decide +kernel
theorem dX7_areNeighbours_27 : decode cX7_areNeighbours 27 = .ok (.iconst 1, 1) := by decide +kernel
theorem dX7_areNeighbours_28 : decode cX7_areNeighbours 28 = .ok (.goto 4, 3) := by decide +kernel
theorem dX7_areNeighbours_31 : decode cX7_areNeighbours 31 = .ok (.iconst 0, 1) := by decide +kernel
theorem dX7_areNeighbours_32 : decode cX7_areNeighbours 32 = .ok (.ireturn, 1) := by decide +kernel
set_option maxRecDepth 20000 in
theorem ggX7_neighboursOf_X7_areNeighbours : GoodIn wsX7_neighboursOf wsX7_areNeighbours := goodIn_r _ [4, 5, 6, 3, 7] (by decide +kernel) (by decide +kernel)
set_option maxRecDepth 20000 in
theorem gX7_neighboursOf_X7_areNeighbours : GoodIn wsX7_neighboursOf (va_wsS RX7 95 yX7_areNeighbours wsX7_areNeighbours) := goodIn_app (goodIn_of _ (by decide +kernel)) ggX7_neighboursOf_X7_areNeighbours
theorem dX7_neighboursOf_0 : decode cX7_neighboursOf 0 = .ok (.iconst 0, 1) := by decide +kernel
theorem dX7_neighboursOf_1 : decode cX7_neighboursOf 1 = .ok (.istore_n 1, 1) := by decide +kernel
theorem dX7_neighboursOf_2 : decode cX7_neighboursOf 2 = .ok (.iconst 0, 1) := by decide +kernel
theorem dX7_neighboursOf_3 : decode cX7_neighboursOf 3 = .ok (.istore_n 2, 1) := by decide +kernel
theorem dX7_neighboursOf_4 : decode cX7_neighboursOf 4 = .ok (.iload_n 2, 1) := by decide +kernel
theorem dX7_neighboursOf_5 : decode cX7_neighboursOf 5 = .ok (.bipush 12, 2) := by decide +kernel
theorem dX7_neighboursOf_7 : decode cX7_neighboursOf 7 = .ok (.if_icmp .ge 25, 3) := by decide +kernel
theorem dX7_neighboursOf_10 : decode cX7_neighboursOf 10 = .ok (.iload_n 1, 1) := by decide +kernel
theorem dX7_neighboursOf_11 : decode cX7_neighboursOf 11 = .ok (.iload_n 0, 1) := by decide +kernel
theorem dX7_neighboursOf_12 : decode cX7_neighboursOf 12 = .ok (.iload_n 2, 1) := by decide +kernel
theorem dX7_neighboursOf_13 : decode cX7_neighboursOf 13 = .ok (.invokestatic 95, 3) := by decide +kernel
theorem dX7_neighboursOf_16 : decode cX7_neighboursOf 16 = .ok (.ifCond .eq 7, 3) := by decide +kernel
theorem dX7_neighboursOf_19 : decode cX7_neighboursOf 19 = .ok (.iconst 1, 1) := by decide +kernel
theorem dX7_neighboursOf_20 : decode cX7_neighboursOf 20 = .ok (.goto 4, 3) := by decide +kernel
theorem dX7_neighboursOf_23 : decode cX7_neighboursOf 23 = .ok (.iconst 0, 1) := by decide +kernel
theorem dX7_neighboursOf_24 : decode cX7_neighboursOf 24 = .ok (.iadd, 1) := by decide +kernel
theorem dX7_neighboursOf_25 : decode cX7_neighboursOf 25 = .ok (.istore_n 1, 1) := by decide +kernel
theorem dX7_neighboursOf_26 : decode cX7_neighboursOf 26 = .ok (.iinc 2 1, 3) := by decide +kernel
theorem dX7_neighboursOf_29 : decode cX7_neighboursOf 29 = .ok (.goto (-25), 3) := by decide +kernel
theorem dX7_neighboursOf_32 : decode cX7_neighboursOf 32 = .ok (.iload_n 1, 1) := by decide +kernel
theorem dX7_neighboursOf_33 : decode cX7_neighboursOf 33 = .ok (.ireturn, 1) := by decide +kernel
set_option maxRecDepth 20000 in
theorem ggX7_hang_X7_isIn : GoodIn wsX7_hang wsX7_isIn := goodIn_r _ [5] (by decide +kernel) (by decide +kernel)
set_option maxRecDepth 20000 in
theorem gX7_hang_X7_isIn : GoodIn wsX7_hang (va_wsS RX7 84 yX7_isIn wsX7_isIn) := goodIn_app (goodIn_of _ (by decide +kernel)) ggX7_hang_X7_isIn
set_option maxRecDepth 20000 in
theorem ggX7_hang_X7_can : GoodIn wsX7_hang wsX7_can := goodIn_r _ [9, 10, 11, 12, 13, 14, 15, 16, 17, 18, 19, 20, 21, 22, 23, 24, 25, 26, 27, 28, 29, 30, 31, 32, 33, 34, 35, 36, 37] (by decide +kernel) (by decide +kernel)
set_option maxRecDepth 20000 in
theorem gX7_hang_X7_can : GoodIn wsX7_hang (wsV RX7 99 RX7 yX7_can wsX7_can) := goodIn_app (goodIn_of _ (by decide +kernel)) ggX7_hang_X7_can
theorem dX7_hang_0 : decode cX7_hang 0 = .ok (.aload_n 0, 1) := by decide +kernel
theorem dX7_hang_1 : decode cX7_hang 1 = .ok (.iload_n 1, 1) := by decide +kernel
theorem dX7_hang_2 : decode cX7_hang 2 = .ok (.iconst 1, 1) := by decide +kernel
theorem dX7_hang_3 : decode cX7_hang 3 = .ok (.iconst 5, 1) := by decide +kernel
theorem dX7_hang_4 : decode cX7_hang 4 = .ok (.invokestatic 84, 3) := by decide +kernel
theorem dX7_hang_7 : decode cX7_hang 7 = .ok (.ifCond .eq 18, 3) := by decide +kernel
theorem dX7_hang_10 : decode cX7_hang 10 = .ok (.iload_n 2, 1) := by decide +kernel
theorem dX7_hang_11 : decode cX7_hang 11 = .ok (.iconst 0, 1) := by decide +kernel
theorem dX7_hang_12 : decode cX7_hang 12 = .ok (.iload_n 1, 1) := by decide +kernel
theorem dX7_hang_13 : decode cX7_hang 13 = .ok (.iconst 1, 1) := by decide +kernel
theorem dX7_hang_14 : decode cX7_hang 14 = .ok (.isub, 1) := by decide +kernel
theorem dX7_hang_15 : decode cX7_hang 15 = .ok (.invokestatic 84, 3) := by decide +kernel
theorem dX7_hang_18 : decode cX7_hang 18 = .ok (.ifCond .eq 7, 3) := by decide +kernel
theorem dX7_hang_21 : decode cX7_hang 21 = .ok (.iconst 0, 1) := by decide +kernel
theorem dX7_hang_22 : decode cX7_hang 22 = .ok (.goto 4, 3) := by decide +kernel
theorem dX7_hang_25 : decode cX7_hang 25 = .ok (.iconst 1, 1) := by decide +kernel
theorem dX7_hang_26 : decode cX7_hang 26 = .ok (.invokevirtual 99, 3) := by decide +kernel
theorem dX7_hang_29 : decode cX7_hang 29 = .ok (.ifCond .ne 5, 3) := by decide +kernel
theorem dX7_hang_32 : decode cX7_hang 32 = .ok (.iconst 0, 1) := by decide +kernel
theorem dX7_hang_33 : decode cX7_hang 33 = .ok (.ireturn, 1) := by decide +kernel
theorem dX7_hang_34 : decode cX7_hang 34 = .ok (.aload_n 0, 1) := by decide +kernel
theorem dX7_hang_35 : decode cX7_hang 35 = .ok (.getfield 7, 3) := by decide +kernel
theorem dX7_hang_38 : decode cX7_hang 38 = .ok (.iload_n 1, 1) := by decide +kernel
theorem dX7_hang_39 : decode cX7_hang 39 = .ok (.iaload, 1) := by decide +kernel
theorem dX7_hang_40 : decode cX7_hang 40 = .ok (.istore_n 3, 1) := by decide +kernel
theorem dX7_hang_41 : decode cX7_hang 41 = .ok (.aload_n 0, 1) := by decide +kernel
theorem dX7_hang_42 : decode cX7_hang 42 = .ok (.getfield 7, 3) := by decide +kernel
theorem dX7_hang_45 : decode cX7_hang 45 = .ok (.iload_n 1, 1) := by decide +kernel
theorem dX7_hang_46 : decode cX7_hang 46 = .ok (.iload_n 2, 1) := by decide +kernel
theorem dX7_hang_47 : decode cX7_hang 47 = .ok (.iastore, 1) := by decide +kernel
theorem dX7_hang_48 : decode cX7_hang 48 = .ok (.iload_n 3, 1) := by decide +kernel
theorem dX7_hang_49 : decode cX7_hang 49 = .ok (.ireturn, 1) := by decide +kernel
set_option maxRecDepth 20000 in
theorem ggX7_attach_X7_isSensor : GoodIn wsX7_attach wsX7_isSensor := goodIn_r _ [5, 6, 7, 4, 8] (by decide +kernel) (by decide +kernel)
set_option maxRecDepth 20000 in
theorem gX7_attach_X7_isSensor : GoodIn wsX7_attach (va_wsS RX7 103 yX7_isSensor wsX7_isSensor) := goodIn_app (goodIn_of _ (by decide +kernel)) ggX7_attach_X7_isSensor
set_option maxRecDepth 20000 in
theorem ggX7_attach_X7_isRepeater : GoodIn wsX7_attach wsX7_isRepeater := goodIn_r _ [11, 6, 7, 4, 8] (by decide +kernel) (by decide +kernel)
set_option maxRecDepth 20000 in
theorem gX7_attach_X7_isRepeater : GoodIn wsX7_attach (va_wsS RX7 106 yX7_isRepeater wsX7_isRepeater) := goodIn_app (goodIn_of _ (by decide +kernel)) ggX7_attach_X7_isRepeater
set_option maxRecDepth 20000 in
theorem ggX7_attach_X7_can : GoodIn wsX7_attach wsX7_can := goodIn_r _ [15, 16, 17, 18, 19, 20, 21, 22, 23, 24, 25, 26, 27, 28, 29, 30, 31, 32, 33, 34, 35, 36, 37, 38, 39, 40, 41, 42, 43] (by decide +kernel) (by decide +kernel)
set_option maxRecDepth 20000 in
theorem gX7_attach_X7_can : GoodIn wsX7_attach (wsV RX7 99 RX7 yX7_can wsX7_can) := goodIn_app (goodIn_of _ (by decide +kernel)) ggX7_attach_X7_can
theorem dX7_attach_0 : decode cX7_attach 0 = .ok (.aload_n 0, 1) := by decide +kernel
theorem dX7_attach_1 : decode cX7_attach 1 = .ok (.iload_n 1, 1) := by decide +kernel
theorem dX7_attach_2 : decode cX7_attach 2 = .ok (.invokestatic 103, 3) := by decide +kernel
theorem dX7_attach_5 : decode cX7_attach 5 = .ok (.ifCond .eq 14, 3) := by decide +kernel
theorem dX7_attach_8 : decode cX7_attach 8 = .ok (.iload_n 2, 1) := by decide +kernel
theorem dX7_attach_9 : decode cX7_attach 9 = .ok (.invokestatic 106, 3) := by decide +kernel
theorem dX7_attach_12 : decode cX7_attach 12 = .ok (.ifCond .eq 7, 3) := by decide +kernel
theorem dX7_attach_15 : decode cX7_attach 15 = .ok (.iconst 0, 1) := by decide +kernel
theorem dX7_attach_16 : decode cX7_attach 16 = .ok (.goto 4, 3) := by decide +kernel
theorem dX7_attach_19 : decode cX7_attach 19 = .ok (.iconst 1, 1) := by decide +kernel
theorem dX7_attach_20 : decode cX7_attach 20 = .ok (.invokevirtual 99, 3) := by decide +kernel
theorem dX7_attach_23 : decode cX7_attach 23 = .ok (.ifCond .ne 5, 3) := by decide +kernel
theorem dX7_attach_26 : decode cX7_attach 26 = .ok (.iconst 0, 1) := by decide +kernel
theorem dX7_attach_27 : decode cX7_attach 27 = .ok (.ireturn, 1) := by decide +kernel
theorem dX7_attach_28 : decode cX7_attach 28 = .ok (.aload_n 0, 1) := by decide +kernel
theorem dX7_attach_29 : decode cX7_attach 29 = .ok (.getfield 22, 3) := by decide +kernel
theorem dX7_attach_32 : decode cX7_attach 32 = .ok (.iload_n 1, 1) := by decide +kernel
theorem dX7_attach_33 : decode cX7_attach 33 = .ok (.iaload, 1) := by decide +kernel
theorem dX7_attach_34 : decode cX7_attach 34 = .ok (.istore_n 3, 1) := by decide +kernel
theorem dX7_attach_35 : decode cX7_attach 35 = .ok (.aload_n 0, 1) := by decide +kernel
theorem dX7_attach_36 : decode cX7_attach 36 = .ok (.getfield 22, 3) := by decide +kernel
theorem dX7_attach_39 : decode cX7_attach 39 = .ok (.iload_n 1, 1) := by decide +kernel
theorem dX7_attach_40 : decode cX7_attach 40 = .ok (.iload_n 2, 1) := by decide +kernel
theorem dX7_attach_41 : decode cX7_attach 41 = .ok (.iastore, 1) := by decide +kernel
theorem dX7_attach_42 : decode cX7_attach 42 = .ok (.iload_n 3, 1) := by decide +kernel
theorem dX7_attach_43 : decode cX7_attach 43 = .ok (.ireturn, 1) := by decide +kernel
set_option maxRecDepth 20000 in
theorem ggX7_setLoss_X7_isRepeater : GoodIn wsX7_setLoss wsX7_isRepeater := goodIn_r _ [7, 8, 9, 6, 10] (by decide +kernel) (by decide +kernel)
set_option maxRecDepth 20000 in
theorem gX7_setLoss_X7_isRepeater : GoodIn wsX7_setLoss (va_wsS RX7 106 yX7_isRepeater wsX7_isRepeater) := goodIn_app (goodIn_of _ (by decide +kernel)) ggX7_setLoss_X7_isRepeater
set_option maxRecDepth 20000 in
theorem ggX7_setLoss_X7_isIn : GoodIn wsX7_setLoss wsX7_isIn := goodIn_r _ [10] (by decide +kernel) (by decide +kernel)
set_option maxRecDepth 20000 in
theorem gX7_setLoss_X7_isIn : GoodIn wsX7_setLoss (va_wsS RX7 84 yX7_isIn wsX7_isIn) := goodIn_app (goodIn_of _ (by decide +kernel)) ggX7_setLoss_X7_isIn
set_option maxRecDepth 20000 in
theorem ggX7_setLoss_X7_can : GoodIn wsX7_setLoss wsX7_can := goodIn_r _ [14, 15, 16, 17, 18, 19, 20, 21, 22, 23, 24, 25, 26, 27, 28, 29, 30, 31, 32, 33, 34, 35, 36, 37, 38, 39, 40, 41, 42] (by decide +kernel) (by decide +kernel)
set_option maxRecDepth 20000 in
theorem gX7_setLoss_X7_can : GoodIn wsX7_setLoss (wsV RX7 99 RX7 yX7_can wsX7_can) := goodIn_app (goodIn_of _ (by decide +kernel)) ggX7_setLoss_X7_can
theorem dX7_setLoss_0 : decode cX7_setLoss 0 = .ok (.aload_n 0, 1) := by decide +kernel
theorem dX7_setLoss_1 : decode cX7_setLoss 1 = .ok (.iload_n 1, 1) := by decide +kernel
theorem dX7_setLoss_2 : decode cX7_setLoss 2 = .ok (.invokestatic 106, 3) := by decide +kernel
theorem dX7_setLoss_5 : decode cX7_setLoss 5 = .ok (.ifCond .ne 7, 3) := by decide +kernel
theorem dX7_setLoss_8 : decode cX7_setLoss 8 = .ok (.iconst 1, 1) := by decide +kernel
theorem dX7_setLoss_9 : decode cX7_setLoss 9 = .ok (.goto 22, 3) := by decide +kernel
theorem dX7_setLoss_12 : decode cX7_setLoss 12 = .ok (.iload_n 2, 1) := by decide +kernel
theorem dX7_setLoss_13 : decode cX7_setLoss 13 = .ok (.ifCond .eq 13, 3) := by decide +kernel
theorem dX7_setLoss_16 : decode cX7_setLoss 16 = .ok (.iload_n 2, 1) := by decide +kernel
theorem dX7_setLoss_17 : decode cX7_setLoss 17 = .ok (.iconst 2, 1) := by decide +kernel
theorem dX7_setLoss_18 : decode cX7_setLoss 18 = .ok (.bipush 9, 2) := by decide +kernel
theorem dX7_setLoss_20 : decode cX7_setLoss 20 = .ok (.invokestatic 84, 3) := by decide +kernel
theorem dX7_setLoss_23 : decode cX7_setLoss 23 = .ok (.ifCond .eq 7, 3) := by decide +kernel
theorem dX7_setLoss_26 : decode cX7_setLoss 26 = .ok (.iconst 0, 1) := by decide +kernel
theorem dX7_setLoss_27 : decode cX7_setLoss 27 = .ok (.goto 4, 3) := by decide +kernel
theorem dX7_setLoss_30 : decode cX7_setLoss 30 = .ok (.iconst 2, 1) := by decide +kernel
theorem dX7_setLoss_31 : decode cX7_setLoss 31 = .ok (.invokevirtual 99, 3) := by decide +kernel
theorem dX7_setLoss_34 : decode cX7_setLoss 34 = .ok (.ifCond .ne 5, 3) := by decide +kernel
theorem dX7_setLoss_37 : decode cX7_setLoss 37 = .ok (.iconst 0, 1) := by decide +kernel
theorem dX7_setLoss_38 : decode cX7_setLoss 38 = .ok (.ireturn, 1) := by decide +kernel
theorem dX7_setLoss_39 : decode cX7_setLoss 39 = .ok (.aload_n 0, 1) := by decide +kernel
theorem dX7_setLoss_40 : decode cX7_setLoss 40 = .ok (.getfield 19, 3) := by decide +kernel
theorem dX7_setLoss_43 : decode cX7_setLoss 43 = .ok (.iload_n 1, 1) := by decide +kernel
theorem dX7_setLoss_44 : decode cX7_setLoss 44 = .ok (.iaload, 1) := by decide +kernel
theorem dX7_setLoss_45 : decode cX7_setLoss 45 = .ok (.istore_n 3, 1) := by decide +kernel
theorem dX7_setLoss_46 : decode cX7_setLoss 46 = .ok (.aload_n 0, 1) := by decide +kernel
theorem dX7_setLoss_47 : decode cX7_setLoss 47 = .ok (.getfield 13, 3) := by decide +kernel
theorem dX7_setLoss_50 : decode cX7_setLoss 50 = .ok (.iload_n 1, 1) := by decide +kernel
theorem dX7_setLoss_51 : decode cX7_setLoss 51 = .ok (.iload_n 2, 1) := by decide +kernel
theorem dX7_setLoss_52 : decode cX7_setLoss 52 = .ok (.iastore, 1) := by decide +kernel
theorem dX7_setLoss_53 : decode cX7_setLoss 53 = .ok (.aload_n 0, 1) := by decide +kernel
theorem dX7_setLoss_54 : decode cX7_setLoss 54 = .ok (.getfield 16, 3) := by decide +kernel
theorem dX7_setLoss_57 : decode cX7_setLoss 57 = .ok (.iload_n 1, 1) := by decide +kernel
theorem dX7_setLoss_58 : decode cX7_setLoss 58 = .ok (.iconst 0, 1) := by decide +kernel
theorem dX7_setLoss_59 : decode cX7_setLoss 59 = .ok (.iastore, 1) := by decide +kernel
theorem dX7_setLoss_60 : decode cX7_setLoss 60 = .ok (.aload_n 0, 1) := by decide +kernel
theorem dX7_setLoss_61 : decode cX7_setLoss 61 = .ok (.getfield 19, 3) := by decide +kernel
theorem dX7_setLoss_64 : decode cX7_setLoss 64 = .ok (.iload_n 1, 1) := by decide +kernel
theorem dX7_setLoss_65 : decode cX7_setLoss 65 = .ok (.iconst 0, 1) := by decide +kernel
theorem dX7_setLoss_66 : decode cX7_setLoss 66 = .ok (.iastore, 1) := by decide +kernel
theorem dX7_setLoss_67 : decode cX7_setLoss 67 = .ok (.iload_n 3, 1) := by decide +kernel
theorem dX7_setLoss_68 : decode cX7_setLoss 68 = .ok (.ireturn, 1) := by decide +kernel
set_option maxRecDepth 20000 in
theorem ggX7_setPrice_X7_isSensor : GoodIn wsX7_setPrice wsX7_isSensor := goodIn_r _ [5, 6, 7, 4, 8] (by decide +kernel) (by decide +kernel)
set_option maxRecDepth 20000 in
theorem gX7_setPrice_X7_isSensor : GoodIn wsX7_setPrice (va_wsS RX7 103 yX7_isSensor wsX7_isSensor) := goodIn_app (goodIn_of _ (by decide +kernel)) ggX7_setPrice_X7_isSensor
set_option maxRecDepth 20000 in
theorem ggX7_setPrice_X7_isIn : GoodIn wsX7_setPrice wsX7_isIn := goodIn_r _ [8] (by decide +kernel) (by decide +kernel)
set_option maxRecDepth 20000 in
theorem gX7_setPrice_X7_isIn : GoodIn wsX7_setPrice (va_wsS RX7 84 yX7_isIn wsX7_isIn) := goodIn_app (goodIn_of _ (by decide +kernel)) ggX7_setPrice_X7_isIn
set_option maxRecDepth 20000 in
theorem ggX7_setPrice_X7_can : GoodIn wsX7_setPrice wsX7_can := goodIn_r _ [12, 13, 14, 15, 16, 17, 18, 19, 20, 21, 22, 23, 24, 25, 26, 27, 28, 29, 30, 31, 32, 33, 34, 35, 36, 37, 38, 39, 40] (by decide +kernel) (by decide +kernel)
set_option maxRecDepth 20000 in
theorem gX7_setPrice_X7_can : GoodIn wsX7_setPrice (wsV RX7 99 RX7 yX7_can wsX7_can) := goodIn_app (goodIn_of _ (by decide +kernel)) ggX7_setPrice_X7_can
theorem dX7_setPrice_0 : decode cX7_setPrice 0 = .ok (.aload_n 0, 1) := by decide +kernel
theorem dX7_setPrice_1 : decode cX7_setPrice 1 = .ok (.iload_n 1, 1) := by decide +kernel
theorem dX7_setPrice_2 : decode cX7_setPrice 2 = .ok (.invokestatic 103, 3) := by decide +kernel
theorem dX7_setPrice_5 : decode cX7_setPrice 5 = .ok (.ifCond .ne 7, 3) := by decide +kernel
theorem dX7_setPrice_8 : decode cX7_setPrice 8 = .ok (.iconst 1, 1) := by decide +kernel
theorem dX7_setPrice_9 : decode cX7_setPrice 9 = .ok (.goto 18, 3) := by decide +kernel
theorem dX7_setPrice_12 : decode cX7_setPrice 12 = .ok (.iload_n 2, 1) := by decide +kernel
theorem dX7_setPrice_13 : decode cX7_setPrice 13 = .ok (.iconst 1, 1) := by decide +kernel
theorem dX7_setPrice_14 : decode cX7_setPrice 14 = .ok (.bipush 20, 2) := by decide +kernel
theorem dX7_setPrice_16 : decode cX7_setPrice 16 = .ok (.invokestatic 84, 3) := by decide +kernel
theorem dX7_setPrice_19 : decode cX7_setPrice 19 = .ok (.ifCond .eq 7, 3) := by decide +kernel
theorem dX7_setPrice_22 : decode cX7_setPrice 22 = .ok (.iconst 0, 1) := by decide +kernel
theorem dX7_setPrice_23 : decode cX7_setPrice 23 = .ok (.goto 4, 3) := by decide +kernel
theorem dX7_setPrice_26 : decode cX7_setPrice 26 = .ok (.iconst 2, 1) := by decide +kernel
theorem dX7_setPrice_27 : decode cX7_setPrice 27 = .ok (.invokevirtual 99, 3) := by decide +kernel
theorem dX7_setPrice_30 : decode cX7_setPrice 30 = .ok (.ifCond .ne 5, 3) := by decide +kernel
theorem dX7_setPrice_33 : decode cX7_setPrice 33 = .ok (.iconst 0, 1) := by decide +kernel
theorem dX7_setPrice_34 : decode cX7_setPrice 34 = .ok (.ireturn, 1) := by decide +kernel
theorem dX7_setPrice_35 : decode cX7_setPrice 35 = .ok (.aload_n 0, 1) := by decide +kernel
theorem dX7_setPrice_36 : decode cX7_setPrice 36 = .ok (.getfield 31, 3) := by decide +kernel
theorem dX7_setPrice_39 : decode cX7_setPrice 39 = .ok (.iload_n 1, 1) := by decide +kernel
theorem dX7_setPrice_40 : decode cX7_setPrice 40 = .ok (.iaload, 1) := by decide +kernel
theorem dX7_setPrice_41 : decode cX7_setPrice 41 = .ok (.istore_n 3, 1) := by decide +kernel
theorem dX7_setPrice_42 : decode cX7_setPrice 42 = .ok (.aload_n 0, 1) := by decide +kernel
theorem dX7_setPrice_43 : decode cX7_setPrice 43 = .ok (.getfield 31, 3) := by decide +kernel
theorem dX7_setPrice_46 : decode cX7_setPrice 46 = .ok (.iload_n 1, 1) := by decide +kernel
theorem dX7_setPrice_47 : decode cX7_setPrice 47 = .ok (.iload_n 2, 1) := by decide +kernel
theorem dX7_setPrice_48 : decode cX7_setPrice 48 = .ok (.iastore, 1) := by decide +kernel
theorem dX7_setPrice_49 : decode cX7_setPrice 49 = .ok (.iload_n 3, 1) := by decide +kernel
theorem dX7_setPrice_50 : decode cX7_setPrice 50 = .ok (.ireturn, 1) := by decide +kernel
set_option maxRecDepth 20000 in
theorem ggX7_topUp_X7_isSensor : GoodIn wsX7_topUp wsX7_isSensor := goodIn_r _ [6, 7, 8, 5, 9] (by decide +kernel) (by decide +kernel)
set_option maxRecDepth 20000 in
theorem gX7_topUp_X7_isSensor : GoodIn wsX7_topUp (va_wsS RX7 103 yX7_isSensor wsX7_isSensor) := goodIn_app (goodIn_of _ (by decide +kernel)) ggX7_topUp_X7_isSensor
set_option maxRecDepth 20000 in
theorem ggX7_topUp_X7_can : GoodIn wsX7_topUp wsX7_can := goodIn_r _ [13, 14, 15, 16, 17, 18, 19, 20, 21, 22, 23, 24, 25, 26, 27, 28, 29, 30, 31, 32, 33, 34, 35, 36, 37, 38, 39, 40, 41] (by decide +kernel) (by decide +kernel)
set_option maxRecDepth 20000 in
theorem gX7_topUp_X7_can : GoodIn wsX7_topUp (wsV RX7 99 RX7 yX7_can wsX7_can) := goodIn_app (goodIn_of _ (by decide +kernel)) ggX7_topUp_X7_can
theorem dX7_topUp_0 : decode cX7_topUp 0 = .ok (.aload_n 0, 1) := by decide +kernel
theorem dX7_topUp_1 : decode cX7_topUp 1 = .ok (.iload_n 1, 1) := by decide +kernel
theorem dX7_topUp_2 : decode cX7_topUp 2 = .ok (.invokestatic 103, 3) := by decide +kernel
theorem dX7_topUp_5 : decode cX7_topUp 5 = .ok (.ifCond .ne 7, 3) := by decide +kernel
theorem dX7_topUp_8 : decode cX7_topUp 8 = .ok (.iconst 1, 1) := by decide +kernel
theorem dX7_topUp_9 : decode cX7_topUp 9 = .ok (.goto 27, 3) := by decide +kernel
theorem dX7_topUp_12 : decode cX7_topUp 12 = .ok (.iload_n 2, 1) := by decide +kernel
theorem dX7_topUp_13 : decode cX7_topUp 13 = .ok (.iconst 1, 1) := by decide +kernel
theorem dX7_topUp_14 : decode cX7_topUp 14 = .ok (.if_icmp .ge 7, 3) := by decide +kernel
theorem dX7_topUp_17 : decode cX7_topUp 17 = .ok (.iconst 2, 1) := by decide +kernel
theorem dX7_topUp_18 : decode cX7_topUp 18 = .ok (.goto 18, 3) := by decide +kernel
theorem dX7_topUp_21 : decode cX7_topUp 21 = .ok (.aload_n 0, 1) := by decide +kernel
theorem dX7_topUp_22 : decode cX7_topUp 22 = .ok (.getfield 28, 3) := by decide +kernel
theorem dX7_topUp_25 : decode cX7_topUp 25 = .ok (.iload_n 1, 1) := by decide +kernel
theorem dX7_topUp_26 : decode cX7_topUp 26 = .ok (.iaload, 1) := by decide +kernel
theorem dX7_topUp_27 : decode cX7_topUp 27 = .ok (.iload_n 2, 1) := by decide +kernel
theorem dX7_topUp_28 : decode cX7_topUp 28 = .ok (.if_icmp .ge 7, 3) := by decide +kernel
theorem dX7_topUp_31 : decode cX7_topUp 31 = .ok (.iconst 3, 1) := by decide +kernel
theorem dX7_topUp_32 : decode cX7_topUp 32 = .ok (.goto 4, 3) := by decide +kernel
theorem dX7_topUp_35 : decode cX7_topUp 35 = .ok (.iconst 0, 1) := by decide +kernel
theorem dX7_topUp_36 : decode cX7_topUp 36 = .ok (.invokevirtual 99, 3) := by decide +kernel
theorem dX7_topUp_39 : decode cX7_topUp 39 = .ok (.ifCond .ne 5, 3) := by decide +kernel
theorem dX7_topUp_42 : decode cX7_topUp 42 = .ok (.iconst 0, 1) := by decide +kernel
theorem dX7_topUp_43 : decode cX7_topUp 43 = .ok (.ireturn, 1) := by decide +kernel
theorem dX7_topUp_44 : decode cX7_topUp 44 = .ok (.aload_n 0, 1) := by decide +kernel
theorem dX7_topUp_45 : decode cX7_topUp 45 = .ok (.getfield 28, 3) := by decide +kernel
theorem dX7_topUp_48 : decode cX7_topUp 48 = .ok (.iload_n 1, 1) := by decide +kernel
theorem dX7_topUp_49 : decode cX7_topUp 49 = .ok (.dup2, 1) := by decide +kernel
theorem dX7_topUp_50 : decode cX7_topUp 50 = .ok (.iaload, 1) := by decide +kernel
theorem dX7_topUp_51 : decode cX7_topUp 51 = .ok (.iload_n 2, 1) := by decide +kernel
theorem dX7_topUp_52 : decode cX7_topUp 52 = .ok (.isub, 1) := by decide +kernel
theorem dX7_topUp_53 : decode cX7_topUp 53 = .ok (.iastore, 1) := by decide +kernel
theorem dX7_topUp_54 : decode cX7_topUp 54 = .ok (.aload_n 0, 1) := by decide +kernel
theorem dX7_topUp_55 : decode cX7_topUp 55 = .ok (.getfield 25, 3) := by decide +kernel
theorem dX7_topUp_58 : decode cX7_topUp 58 = .ok (.iload_n 1, 1) := by decide +kernel
theorem dX7_topUp_59 : decode cX7_topUp 59 = .ok (.dup2, 1) := by decide +kernel
theorem dX7_topUp_60 : decode cX7_topUp 60 = .ok (.iaload, 1) := by decide +kernel
theorem dX7_topUp_61 : decode cX7_topUp 61 = .ok (.iload_n 2, 1) := by decide +kernel
theorem dX7_topUp_62 : decode cX7_topUp 62 = .ok (.iadd, 1) := by decide +kernel
theorem dX7_topUp_63 : decode cX7_topUp 63 = .ok (.iastore, 1) := by decide +kernel
theorem dX7_topUp_64 : decode cX7_topUp 64 = .ok (.aload_n 0, 1) := by decide +kernel
theorem dX7_topUp_65 : decode cX7_topUp 65 = .ok (.getfield 25, 3) := by decide +kernel
theorem dX7_topUp_68 : decode cX7_topUp 68 = .ok (.iload_n 1, 1) := by decide +kernel
theorem dX7_topUp_69 : decode cX7_topUp 69 = .ok (.iaload, 1) := by decide +kernel
theorem dX7_topUp_70 : decode cX7_topUp 70 = .ok (.ireturn, 1) := by decide +kernel
theorem dX7_goes_0 : decode cX7_goes 0 = .ok (.iload_n 1, 1) := by decide +kernel
theorem dX7_goes_1 : decode cX7_goes 1 = .ok (.istore_n 2, 1) := by decide +kernel
theorem dX7_goes_2 : decode cX7_goes 2 = .ok (.iload_n 2, 1) := by decide +kernel
theorem dX7_goes_3 : decode cX7_goes 3 = .ok (.iconst (-1), 1) := by decide +kernel
theorem dX7_goes_4 : decode cX7_goes 4 = .ok (.if_icmp .eq 68, 3) := by decide +kernel
theorem dX7_goes_7 : decode cX7_goes 7 = .ok (.aload_n 0, 1) := by decide +kernel
theorem dX7_goes_8 : decode cX7_goes 8 = .ok (.getfield 16, 3) := by decide +kernel
theorem dX7_goes_11 : decode cX7_goes 11 = .ok (.iload_n 2, 1) := by decide +kernel
theorem dX7_goes_12 : decode cX7_goes 12 = .ok (.dup2, 1) := by decide +kernel
theorem dX7_goes_13 : decode cX7_goes 13 = .ok (.iaload, 1) := by decide +kernel
theorem dX7_goes_14 : decode cX7_goes 14 = .ok (.iconst 1, 1) := by decide +kernel
theorem dX7_goes_15 : decode cX7_goes 15 = .ok (.iadd, 1) := by decide +kernel
theorem dX7_goes_16 : decode cX7_goes 16 = .ok (.iastore, 1) := by decide +kernel
theorem dX7_goes_17 : decode cX7_goes 17 = .ok (.aload_n 0, 1) := by decide +kernel
theorem dX7_goes_18 : decode cX7_goes 18 = .ok (.getfield 13, 3) := by decide +kernel
theorem dX7_goes_21 : decode cX7_goes 21 = .ok (.iload_n 2, 1) := by decide +kernel
theorem dX7_goes_22 : decode cX7_goes 22 = .ok (.iaload, 1) := by decide +kernel
theorem dX7_goes_23 : decode cX7_goes 23 = .ok (.ifCond .le 31, 3) := by decide +kernel
theorem dX7_goes_26 : decode cX7_goes 26 = .ok (.aload_n 0, 1) := by decide +kernel
theorem dX7_goes_27 : decode cX7_goes 27 = .ok (.getfield 16, 3) := by decide +kernel
theorem dX7_goes_30 : decode cX7_goes 30 = .ok (.iload_n 2, 1) := by decide +kernel
theorem dX7_goes_31 : decode cX7_goes 31 = .ok (.iaload, 1) := by decide +kernel
theorem dX7_goes_32 : decode cX7_goes 32 = .ok (.aload_n 0, 1) := by decide +kernel
theorem dX7_goes_33 : decode cX7_goes 33 = .ok (.getfield 13, 3) := by decide +kernel
theorem dX7_goes_36 : decode cX7_goes 36 = .ok (.iload_n 2, 1) := by decide +kernel
theorem dX7_goes_37 : decode cX7_goes 37 = .ok (.iaload, 1) := by decide +kernel
theorem dX7_goes_38 : decode cX7_goes 38 = .ok (.irem, 1) := by decide +kernel
theorem dX7_goes_39 : decode cX7_goes 39 = .ok (.ifCond .ne 15, 3) := by decide +kernel
theorem dX7_goes_42 : decode cX7_goes 42 = .ok (.aload_n 0, 1) := by decide +kernel
theorem dX7_goes_43 : decode cX7_goes 43 = .ok (.getfield 19, 3) := by decide +kernel
theorem dX7_goes_46 : decode cX7_goes 46 = .ok (.iload_n 2, 1) := by decide +kernel
theorem dX7_goes_47 : decode cX7_goes 47 = .ok (.dup2, 1) := by decide +kernel
theorem dX7_goes_48 : decode cX7_goes 48 = .ok (.iaload, 1) := by decide +kernel
theorem dX7_goes_49 : decode cX7_goes 49 = .ok (.iconst 1, 1) := by decide +kernel
theorem dX7_goes_50 : decode cX7_goes 50 = .ok (.iadd, 1) := by decide +kernel
theorem dX7_goes_51 : decode cX7_goes 51 = .ok (.iastore, 1) := by decide +kernel
theorem dX7_goes_52 : decode cX7_goes 52 = .ok (.iconst 0, 1) := by decide +kernel
theorem dX7_goes_53 : decode cX7_goes 53 = .ok (.ireturn, 1) := by decide +kernel
theorem dX7_goes_54 : decode cX7_goes 54 = .ok (.iload_n 2, 1) := by decide +kernel
theorem dX7_goes_55 : decode cX7_goes 55 = .ok (.ifCond .ne 7, 3) := by decide +kernel
theorem dX7_goes_58 : decode cX7_goes 58 = .ok (.iconst (-1), 1) := by decide +kernel
theorem dX7_goes_59 : decode cX7_goes 59 = .ok (.goto 9, 3) := by decide +kernel
theorem dX7_goes_62 : decode cX7_goes 62 = .ok (.aload_n 0, 1) := by decide +kernel
theorem dX7_goes_63 : decode cX7_goes 63 = .ok (.getfield 7, 3) := by decide +kernel
theorem dX7_goes_66 : decode cX7_goes 66 = .ok (.iload_n 2, 1) := by decide +kernel
theorem dX7_goes_67 : decode cX7_goes 67 = .ok (.iaload, 1) := by decide +kernel
theorem dX7_goes_68 : decode cX7_goes 68 = .ok (.istore_n 2, 1) := by decide +kernel
theorem dX7_goes_69 : decode cX7_goes 69 = .ok (.goto (-67), 3) := by decide +kernel
theorem dX7_goes_72 : decode cX7_goes 72 = .ok (.iconst 1, 1) := by decide +kernel
theorem dX7_goes_73 : decode cX7_goes 73 = .ok (.ireturn, 1) := by decide +kernel
set_option maxRecDepth 20000 in
theorem ggX7_tell_X7_isSensor : GoodIn wsX7_tell wsX7_isSensor := goodIn_r _ [19, 20, 21, 18, 22] (by decide +kernel) (by decide +kernel)
set_option maxRecDepth 20000 in
theorem gX7_tell_X7_isSensor : GoodIn wsX7_tell (va_wsS RX7 103 yX7_isSensor wsX7_isSensor) := goodIn_app (goodIn_of _ (by decide +kernel)) ggX7_tell_X7_isSensor
set_option maxRecDepth 20000 in
theorem ggX7_tell_X7_isValue : GoodIn wsX7_tell wsX7_isValue := goodIn_r _ [25, 20, 21, 18, 22] (by decide +kernel) (by decide +kernel)
set_option maxRecDepth 20000 in
theorem gX7_tell_X7_isValue : GoodIn wsX7_tell (va_wsS RX7 112 yX7_isValue wsX7_isValue) := goodIn_app (goodIn_of _ (by decide +kernel)) ggX7_tell_X7_isValue
set_option maxRecDepth 20000 in
theorem ggX7_tell_X7_can : GoodIn wsX7_tell wsX7_can := goodIn_r _ [29, 30, 39, 40, 41, 42, 43, 44, 45, 46, 47, 48, 49, 50, 51, 52, 53, 54, 55, 56, 57, 58, 59, 60, 61, 62, 63, 64, 65] (by decide +kernel) (by decide +kernel)
set_option maxRecDepth 20000 in
theorem gX7_tell_X7_can : GoodIn wsX7_tell (wsV RX7 99 RX7 yX7_can wsX7_can) := goodIn_app (goodIn_of _ (by decide +kernel)) ggX7_tell_X7_can
set_option maxRecDepth 20000 in
theorem ggX7_tell_X7_goes : GoodIn wsX7_tell wsX7_goes := goodIn_r _ [34, 35, 36, 37, 38, 39, 40, 41, 42, 43, 44, 45, 46, 47, 48, 49, 50, 51, 52, 53, 54, 55, 56, 57, 58, 59, 60, 61, 62, 63, 64, 65] (by decide +kernel) (by decide +kernel)
set_option maxRecDepth 20000 in
theorem gX7_tell_X7_goes : GoodIn wsX7_tell (wsV RX7 115 RX7 yX7_goes wsX7_goes) := goodIn_app (goodIn_of _ (by decide +kernel)) ggX7_tell_X7_goes
theorem dX7_tell_0 : decode cX7_tell 0 = .ok (.iload_n 1, 1) := by decide +kernel
theorem dX7_tell_1 : decode cX7_tell 1 = .ok (.invokestatic 103, 3) := by decide +kernel
theorem dX7_tell_4 : decode cX7_tell 4 = .ok (.istore_n 3, 1) := by decide +kernel
theorem dX7_tell_5 : decode cX7_tell 5 = .ok (.iload_n 3, 1) := by decide +kernel
theorem dX7_tell_6 : decode cX7_tell 6 = .ok (.ifCond .eq 40, 3) := by decide +kernel
theorem dX7_tell_9 : decode cX7_tell 9 = .ok (.aload_n 0, 1) := by decide +kernel
theorem dX7_tell_10 : decode cX7_tell 10 = .ok (.getfield 25, 3) := by decide +kernel
theorem dX7_tell_13 : decode cX7_tell 13 = .ok (.iload_n 1, 1) := by decide +kernel
theorem dX7_tell_14 : decode cX7_tell 14 = .ok (.iaload, 1) := by decide +kernel
theorem dX7_tell_15 : decode cX7_tell 15 = .ok (.bipush 20, 2) := by decide +kernel
theorem dX7_tell_17 : decode cX7_tell 17 = .ok (.if_icmp .lt 25, 3) := by decide +kernel
theorem dX7_tell_20 : decode cX7_tell 20 = .ok (.aload_n 0, 1) := by decide +kernel
theorem dX7_tell_21 : decode cX7_tell 21 = .ok (.getfield 34, 3) := by decide +kernel
theorem dX7_tell_24 : decode cX7_tell 24 = .ok (.iload_n 1, 1) := by decide +kernel
theorem dX7_tell_25 : decode cX7_tell 25 = .ok (.iaload, 1) := by decide +kernel
theorem dX7_tell_26 : decode cX7_tell 26 = .ok (.aload_n 0, 1) := by decide +kernel
theorem dX7_tell_27 : decode cX7_tell 27 = .ok (.getfield 109, 3) := by decide +kernel
theorem dX7_tell_30 : decode cX7_tell 30 = .ok (.if_icmp .eq 12, 3) := by decide +kernel
theorem dX7_tell_33 : decode cX7_tell 33 = .ok (.aload_n 0, 1) := by decide +kernel
theorem dX7_tell_34 : decode cX7_tell 34 = .ok (.getfield 88, 3) := by decide +kernel
theorem dX7_tell_37 : decode cX7_tell 37 = .ok (.bipush 80, 2) := by decide +kernel
theorem dX7_tell_39 : decode cX7_tell 39 = .ok (.if_icmp .ne 7, 3) := by decide +kernel
theorem dX7_tell_42 : decode cX7_tell 42 = .ok (.iconst 1, 1) := by decide +kernel
theorem dX7_tell_43 : decode cX7_tell 43 = .ok (.goto 4, 3) := by decide +kernel
theorem dX7_tell_46 : decode cX7_tell 46 = .ok (.iconst 0, 1) := by decide +kernel
theorem dX7_tell_47 : decode cX7_tell 47 = .ok (.istore 4, 2) := by decide +kernel
theorem dX7_tell_49 : decode cX7_tell 49 = .ok (.aload_n 0, 1) := by decide +kernel
theorem dX7_tell_50 : decode cX7_tell 50 = .ok (.iload_n 3, 1) := by decide +kernel
theorem dX7_tell_51 : decode cX7_tell 51 = .ok (.ifCond .ne 7, 3) := by decide +kernel
theorem dX7_tell_54 : decode cX7_tell 54 = .ok (.iconst 1, 1) := by decide +kernel
theorem dX7_tell_55 : decode cX7_tell 55 = .ok (.goto 24, 3) := by decide +kernel
theorem dX7_tell_58 : decode cX7_tell 58 = .ok (.iload_n 2, 1) := by decide +kernel
theorem dX7_tell_59 : decode cX7_tell 59 = .ok (.invokestatic 112, 3) := by decide +kernel
theorem dX7_tell_62 : decode cX7_tell 62 = .ok (.ifCond .ne 7, 3) := by decide +kernel
theorem dX7_tell_65 : decode cX7_tell 65 = .ok (.iconst 2, 1) := by decide +kernel
theorem dX7_tell_66 : decode cX7_tell 66 = .ok (.goto 13, 3) := by decide +kernel
theorem dX7_tell_69 : decode cX7_tell 69 = .ok (.iload 4, 2) := by decide +kernel
theorem dX7_tell_71 : decode cX7_tell 71 = .ok (.ifCond .eq 7, 3) := by decide +kernel
theorem dX7_tell_74 : decode cX7_tell 74 = .ok (.iconst 3, 1) := by decide +kernel
theorem dX7_tell_75 : decode cX7_tell 75 = .ok (.goto 4, 3) := by decide +kernel
theorem dX7_tell_78 : decode cX7_tell 78 = .ok (.iconst 0, 1) := by decide +kernel
theorem dX7_tell_79 : decode cX7_tell 79 = .ok (.invokevirtual 99, 3) := by decide +kernel
theorem dX7_tell_82 : decode cX7_tell 82 = .ok (.ifCond .ne 5, 3) := by decide +kernel
theorem dX7_tell_85 : decode cX7_tell 85 = .ok (.iconst 0, 1) := by decide +kernel
theorem dX7_tell_86 : decode cX7_tell 86 = .ok (.ireturn, 1) := by decide +kernel
theorem dX7_tell_87 : decode cX7_tell 87 = .ok (.aload_n 0, 1) := by decide +kernel
theorem dX7_tell_88 : decode cX7_tell 88 = .ok (.getfield 88, 3) := by decide +kernel
theorem dX7_tell_91 : decode cX7_tell 91 = .ok (.istore 5, 2) := by decide +kernel
theorem dX7_tell_93 : decode cX7_tell 93 = .ok (.aload_n 0, 1) := by decide +kernel
theorem dX7_tell_94 : decode cX7_tell 94 = .ok (.dup, 1) := by decide +kernel
theorem dX7_tell_95 : decode cX7_tell 95 = .ok (.getfield 88, 3) := by decide +kernel
theorem dX7_tell_98 : decode cX7_tell 98 = .ok (.iconst 1, 1) := by decide +kernel
theorem dX7_tell_99 : decode cX7_tell 99 = .ok (.iadd, 1) := by decide +kernel
theorem dX7_tell_100 : decode cX7_tell 100 = .ok (.putfield 88, 3) := by decide +kernel
theorem dX7_tell_103 : decode cX7_tell 103 = .ok (.aload_n 0, 1) := by decide +kernel
theorem dX7_tell_104 : decode cX7_tell 104 = .ok (.getfield 53, 3) := by decide +kernel
theorem dX7_tell_107 : decode cX7_tell 107 = .ok (.iload 5, 2) := by decide +kernel
theorem dX7_tell_109 : decode cX7_tell 109 = .ok (.iload_n 1, 1) := by decide +kernel
theorem dX7_tell_110 : decode cX7_tell 110 = .ok (.iastore, 1) := by decide +kernel
theorem dX7_tell_111 : decode cX7_tell 111 = .ok (.aload_n 0, 1) := by decide +kernel
theorem dX7_tell_112 : decode cX7_tell 112 = .ok (.getfield 56, 3) := by decide +kernel
theorem dX7_tell_115 : decode cX7_tell 115 = .ok (.iload 5, 2) := by decide +kernel
theorem dX7_tell_117 : decode cX7_tell 117 = .ok (.iload_n 2, 1) := by decide +kernel
theorem dX7_tell_118 : decode cX7_tell 118 = .ok (.iastore, 1) := by decide +kernel
theorem dX7_tell_119 : decode cX7_tell 119 = .ok (.aload_n 0, 1) := by decide +kernel
theorem dX7_tell_120 : decode cX7_tell 120 = .ok (.getfield 65, 3) := by decide +kernel
theorem dX7_tell_123 : decode cX7_tell 123 = .ok (.iload 5, 2) := by decide +kernel
theorem dX7_tell_125 : decode cX7_tell 125 = .ok (.aload_n 0, 1) := by decide +kernel
theorem dX7_tell_126 : decode cX7_tell 126 = .ok (.getfield 109, 3) := by decide +kernel
theorem dX7_tell_129 : decode cX7_tell 129 = .ok (.iastore, 1) := by decide +kernel
theorem dX7_tell_130 : decode cX7_tell 130 = .ok (.aload_n 0, 1) := by decide +kernel
theorem dX7_tell_131 : decode cX7_tell 131 = .ok (.getfield 34, 3) := by decide +kernel
theorem dX7_tell_134 : decode cX7_tell 134 = .ok (.iload_n 1, 1) := by decide +kernel
theorem dX7_tell_135 : decode cX7_tell 135 = .ok (.aload_n 0, 1) := by decide +kernel
theorem dX7_tell_136 : decode cX7_tell 136 = .ok (.getfield 109, 3) := by decide +kernel
theorem dX7_tell_139 : decode cX7_tell 139 = .ok (.iastore, 1) := by decide +kernel
theorem dX7_tell_140 : decode cX7_tell 140 = .ok (.iconst 0, 1) := by decide +kernel
theorem dX7_tell_141 : decode cX7_tell 141 = .ok (.istore 6, 2) := by decide +kernel
theorem dX7_tell_143 : decode cX7_tell 143 = .ok (.iload 6, 2) := by decide +kernel
theorem dX7_tell_145 : decode cX7_tell 145 = .ok (.iconst 4, 1) := by decide +kernel
theorem dX7_tell_146 : decode cX7_tell 146 = .ok (.if_icmp .ge 37, 3) := by decide +kernel
theorem dX7_tell_149 : decode cX7_tell 149 = .ok (.aload_n 0, 1) := by decide +kernel
theorem dX7_tell_150 : decode cX7_tell 150 = .ok (.getfield 62, 3) := by decide +kernel
theorem dX7_tell_153 : decode cX7_tell 153 = .ok (.iload 5, 2) := by decide +kernel
theorem dX7_tell_155 : decode cX7_tell 155 = .ok (.dup2, 1) := by decide +kernel
theorem dX7_tell_156 : decode cX7_tell 156 = .ok (.iaload, 1) := by decide +kernel
theorem dX7_tell_157 : decode cX7_tell 157 = .ok (.aload_n 0, 1) := by decide +kernel
theorem dX7_tell_158 : decode cX7_tell 158 = .ok (.aload_n 0, 1) := by decide +kernel
theorem dX7_tell_159 : decode cX7_tell 159 = .ok (.getfield 22, 3) := by decide +kernel
theorem dX7_tell_162 : decode cX7_tell 162 = .ok (.iload_n 1, 1) := by decide +kernel
theorem dX7_tell_163 : decode cX7_tell 163 = .ok (.iaload, 1) := by decide +kernel
theorem dX7_tell_164 : decode cX7_tell 164 = .ok (.invokevirtual 115, 3) := by decide +kernel
theorem dX7_tell_167 : decode cX7_tell 167 = .ok (.ifCond .eq 7, 3) := by decide +kernel
theorem dX7_tell_170 : decode cX7_tell 170 = .ok (.iconst 1, 1) := by decide +kernel
theorem dX7_tell_171 : decode cX7_tell 171 = .ok (.goto 4, 3) := by decide +kernel
theorem dX7_tell_174 : decode cX7_tell 174 = .ok (.iconst 0, 1) := by decide +kernel
theorem dX7_tell_175 : decode cX7_tell 175 = .ok (.iadd, 1) := by decide +kernel
theorem dX7_tell_176 : decode cX7_tell 176 = .ok (.iastore, 1) := by decide +kernel
theorem dX7_tell_177 : decode cX7_tell 177 = .ok (.iinc 6 1, 3) := by decide +kernel
theorem dX7_tell_180 : decode cX7_tell 180 = .ok (.goto (-37), 3) := by decide +kernel
theorem dX7_tell_183 : decode cX7_tell 183 = .ok (.aload_n 0, 1) := by decide +kernel
theorem dX7_tell_184 : decode cX7_tell 184 = .ok (.getfield 59, 3) := by decide +kernel
theorem dX7_tell_187 : decode cX7_tell 187 = .ok (.iload 5, 2) := by decide +kernel
theorem dX7_tell_189 : decode cX7_tell 189 = .ok (.aload_n 0, 1) := by decide +kernel
theorem dX7_tell_190 : decode cX7_tell 190 = .ok (.getfield 62, 3) := by decide +kernel
theorem dX7_tell_193 : decode cX7_tell 193 = .ok (.iload 5, 2) := by decide +kernel
theorem dX7_tell_195 : decode cX7_tell 195 = .ok (.iaload, 1) := by decide +kernel
theorem dX7_tell_196 : decode cX7_tell 196 = .ok (.iconst 2, 1) := by decide +kernel
theorem dX7_tell_197 : decode cX7_tell 197 = .ok (.if_icmp .le 7, 3) := by decide +kernel
theorem dX7_tell_200 : decode cX7_tell 200 = .ok (.iconst 0, 1) := by decide +kernel
theorem dX7_tell_201 : decode cX7_tell 201 = .ok (.goto 4, 3) := by decide +kernel
theorem dX7_tell_204 : decode cX7_tell 204 = .ok (.iconst 4, 1) := by decide +kernel
theorem dX7_tell_205 : decode cX7_tell 205 = .ok (.iastore, 1) := by decide +kernel
theorem dX7_tell_206 : decode cX7_tell 206 = .ok (.iconst 0, 1) := by decide +kernel
theorem dX7_tell_207 : decode cX7_tell 207 = .ok (.istore 6, 2) := by decide +kernel
theorem dX7_tell_209 : decode cX7_tell 209 = .ok (.iload 6, 2) := by decide +kernel
theorem dX7_tell_211 : decode cX7_tell 211 = .ok (.bipush 6, 2) := by decide +kernel
theorem dX7_tell_213 : decode cX7_tell 213 = .ok (.if_icmp .ge 89, 3) := by decide +kernel
theorem dX7_tell_216 : decode cX7_tell 216 = .ok (.aload_n 0, 1) := by decide +kernel
theorem dX7_tell_217 : decode cX7_tell 217 = .ok (.getfield 59, 3) := by decide +kernel
theorem dX7_tell_220 : decode cX7_tell 220 = .ok (.iload 5, 2) := by decide +kernel
theorem dX7_tell_222 : decode cX7_tell 222 = .ok (.iaload, 1) := by decide +kernel
theorem dX7_tell_223 : decode cX7_tell 223 = .ok (.ifCond .ne 79, 3) := by decide +kernel
theorem dX7_tell_226 : decode cX7_tell 226 = .ok (.bipush 12, 2) := by decide +kernel
theorem dX7_tell_228 : decode cX7_tell 228 = .ok (.iload 6, 2) := by decide +kernel
theorem dX7_tell_230 : decode cX7_tell 230 = .ok (.imul, 1) := by decide +kernel
theorem dX7_tell_231 : decode cX7_tell 231 = .ok (.iload_n 1, 1) := by decide +kernel
theorem dX7_tell_232 : decode cX7_tell 232 = .ok (.iadd, 1) := by decide +kernel
theorem dX7_tell_233 : decode cX7_tell 233 = .ok (.istore 7, 2) := by decide +kernel
theorem dX7_tell_235 : decode cX7_tell 235 = .ok (.aload_n 0, 1) := by decide +kernel
theorem dX7_tell_236 : decode cX7_tell 236 = .ok (.getfield 40, 3) := by decide +kernel
theorem dX7_tell_239 : decode cX7_tell 239 = .ok (.iload 7, 2) := by decide +kernel
theorem dX7_tell_241 : decode cX7_tell 241 = .ok (.baload, 1) := by decide +kernel
theorem dX7_tell_242 : decode cX7_tell 242 = .ok (.ifCond .eq 54, 3) := by decide +kernel
theorem dX7_tell_245 : decode cX7_tell 245 = .ok (.aload_n 0, 1) := by decide +kernel
theorem dX7_tell_246 : decode cX7_tell 246 = .ok (.getfield 50, 3) := by decide +kernel
theorem dX7_tell_249 : decode cX7_tell 249 = .ok (.iload 7, 2) := by decide +kernel
theorem dX7_tell_251 : decode cX7_tell 251 = .ok (.dup2, 1) := by decide +kernel
theorem dX7_tell_252 : decode cX7_tell 252 = .ok (.iaload, 1) := by decide +kernel
theorem dX7_tell_253 : decode cX7_tell 253 = .ok (.aload_n 0, 1) := by decide +kernel
theorem dX7_tell_254 : decode cX7_tell 254 = .ok (.getfield 47, 3) := by decide +kernel
theorem dX7_tell_257 : decode cX7_tell 257 = .ok (.iload 7, 2) := by decide +kernel
theorem dX7_tell_259 : decode cX7_tell 259 = .ok (.iaload, 1) := by decide +kernel
theorem dX7_tell_260 : decode cX7_tell 260 = .ok (.isub, 1) := by decide +kernel
theorem dX7_tell_261 : decode cX7_tell 261 = .ok (.iastore, 1) := by decide +kernel
theorem dX7_tell_262 : decode cX7_tell 262 = .ok (.aload_n 0, 1) := by decide +kernel
theorem dX7_tell_263 : decode cX7_tell 263 = .ok (.getfield 71, 3) := by decide +kernel
theorem dX7_tell_266 : decode cX7_tell 266 = .ok (.bipush 6, 2) := by decide +kernel
theorem dX7_tell_268 : decode cX7_tell 268 = .ok (.iload 5, 2) := by decide +kernel
theorem dX7_tell_270 : decode cX7_tell 270 = .ok (.imul, 1) := by decide +kernel
theorem dX7_tell_271 : decode cX7_tell 271 = .ok (.iload 6, 2) := by decide +kernel
theorem dX7_tell_273 : decode cX7_tell 273 = .ok (.iadd, 1) := by decide +kernel
theorem dX7_tell_274 : decode cX7_tell 274 = .ok (.aload_n 0, 1) := by decide +kernel
theorem dX7_tell_275 : decode cX7_tell 275 = .ok (.getfield 47, 3) := by decide +kernel
theorem dX7_tell_278 : decode cX7_tell 278 = .ok (.iload 7, 2) := by decide +kernel
theorem dX7_tell_280 : decode cX7_tell 280 = .ok (.iaload, 1) := by decide +kernel
theorem dX7_tell_281 : decode cX7_tell 281 = .ok (.iastore, 1) := by decide +kernel
theorem dX7_tell_282 : decode cX7_tell 282 = .ok (.aload_n 0, 1) := by decide +kernel
theorem dX7_tell_283 : decode cX7_tell 283 = .ok (.getfield 74, 3) := by decide +kernel
theorem dX7_tell_286 : decode cX7_tell 286 = .ok (.iload 5, 2) := by decide +kernel
theorem dX7_tell_288 : decode cX7_tell 288 = .ok (.dup2, 1) := by decide +kernel
theorem dX7_tell_289 : decode cX7_tell 289 = .ok (.iaload, 1) := by decide +kernel
theorem dX7_tell_290 : decode cX7_tell 290 = .ok (.iconst 1, 1) := by decide +kernel
theorem dX7_tell_291 : decode cX7_tell 291 = .ok (.iload 6, 2) := by decide +kernel
theorem dX7_tell_293 : decode cX7_tell 293 = .ok (.ishl, 1) := by decide +kernel
theorem dX7_tell_294 : decode cX7_tell 294 = .ok (.ior, 1) := by decide +kernel
theorem dX7_tell_295 : decode cX7_tell 295 = .ok (.iastore, 1) := by decide +kernel
theorem dX7_tell_296 : decode cX7_tell 296 = .ok (.iinc 6 1, 3) := by decide +kernel
theorem dX7_tell_299 : decode cX7_tell 299 = .ok (.goto (-90), 3) := by decide +kernel
theorem dX7_tell_302 : decode cX7_tell 302 = .ok (.iload 5, 2) := by decide +kernel
theorem dX7_tell_304 : decode cX7_tell 304 = .ok (.ireturn, 1) := by decide +kernel
set_option maxRecDepth 20000 in
theorem ggX7_open_X7_isBuyer : GoodIn wsX7_open wsX7_isBuyer := goodIn_r _ [11, 12, 13, 10, 14] (by decide +kernel) (by decide +kernel)
set_option maxRecDepth 20000 in
theorem gX7_open_X7_isBuyer : GoodIn wsX7_open (va_wsS RX7 118 yX7_isBuyer wsX7_isBuyer) := goodIn_app (goodIn_of _ (by decide +kernel)) ggX7_open_X7_isBuyer
set_option maxRecDepth 20000 in
theorem ggX7_open_X7_isSensor : GoodIn wsX7_open wsX7_isSensor := goodIn_r _ [17, 12, 13, 10, 14] (by decide +kernel) (by decide +kernel)
set_option maxRecDepth 20000 in
theorem gX7_open_X7_isSensor : GoodIn wsX7_open (va_wsS RX7 103 yX7_isSensor wsX7_isSensor) := goodIn_app (goodIn_of _ (by decide +kernel)) ggX7_open_X7_isSensor
set_option maxRecDepth 20000 in
theorem ggX7_open_X7_isIn : GoodIn wsX7_open wsX7_isIn := goodIn_r _ [14] (by decide +kernel) (by decide +kernel)
set_option maxRecDepth 20000 in
theorem gX7_open_X7_isIn : GoodIn wsX7_open (va_wsS RX7 84 yX7_isIn wsX7_isIn) := goodIn_app (goodIn_of _ (by decide +kernel)) ggX7_open_X7_isIn
set_option maxRecDepth 20000 in
theorem ggX7_open_X7_can : GoodIn wsX7_open wsX7_can := goodIn_r _ [21, 22, 23, 24, 25, 26, 27, 28, 29, 30, 31, 32, 33, 34, 35, 36, 37, 38, 39, 40, 41, 42, 43, 44, 45, 46, 47, 48, 49] (by decide +kernel) (by decide +kernel)
set_option maxRecDepth 20000 in
theorem gX7_open_X7_can : GoodIn wsX7_open (wsV RX7 99 RX7 yX7_can wsX7_can) := goodIn_app (goodIn_of _ (by decide +kernel)) ggX7_open_X7_can
theorem dX7_open_0 : decode cX7_open 0 = .ok (.iload_n 1, 1) := by decide +kernel
theorem dX7_open_1 : decode cX7_open 1 = .ok (.invokestatic 118, 3) := by decide +kernel
theorem dX7_open_4 : decode cX7_open 4 = .ok (.ifCond .eq 14, 3) := by decide +kernel
theorem dX7_open_7 : decode cX7_open 7 = .ok (.iload_n 2, 1) := by decide +kernel
theorem dX7_open_8 : decode cX7_open 8 = .ok (.invokestatic 103, 3) := by decide +kernel
theorem dX7_open_11 : decode cX7_open 11 = .ok (.ifCond .eq 7, 3) := by decide +kernel
theorem dX7_open_14 : decode cX7_open 14 = .ok (.iconst 1, 1) := by decide +kernel
theorem dX7_open_15 : decode cX7_open 15 = .ok (.goto 4, 3) := by decide +kernel
theorem dX7_open_18 : decode cX7_open 18 = .ok (.iconst 0, 1) := by decide +kernel
theorem dX7_open_19 : decode cX7_open 19 = .ok (.istore 4, 2) := by decide +kernel
theorem dX7_open_21 : decode cX7_open 21 = .ok (.iload_n 3, 1) := by decide +kernel
theorem dX7_open_22 : decode cX7_open 22 = .ok (.iconst 1, 1) := by decide +kernel
theorem dX7_open_23 : decode cX7_open 23 = .ok (.bipush 20, 2) := by decide +kernel
theorem dX7_open_25 : decode cX7_open 25 = .ok (.invokestatic 84, 3) := by decide +kernel
theorem dX7_open_28 : decode cX7_open 28 = .ok (.istore 5, 2) := by decide +kernel
theorem dX7_open_30 : decode cX7_open 30 = .ok (.aload_n 0, 1) := by decide +kernel
theorem dX7_open_31 : decode cX7_open 31 = .ok (.iload 4, 2) := by decide +kernel
theorem dX7_open_33 : decode cX7_open 33 = .ok (.ifCond .ne 7, 3) := by decide +kernel
theorem dX7_open_36 : decode cX7_open 36 = .ok (.iconst 1, 1) := by decide +kernel
theorem dX7_open_37 : decode cX7_open 37 = .ok (.goto 48, 3) := by decide +kernel
theorem dX7_open_40 : decode cX7_open 40 = .ok (.iload 5, 2) := by decide +kernel
theorem dX7_open_42 : decode cX7_open 42 = .ok (.ifCond .ne 7, 3) := by decide +kernel
theorem dX7_open_45 : decode cX7_open 45 = .ok (.iconst 2, 1) := by decide +kernel
theorem dX7_open_46 : decode cX7_open 46 = .ok (.goto 39, 3) := by decide +kernel
theorem dX7_open_49 : decode cX7_open 49 = .ok (.aload_n 0, 1) := by decide +kernel
theorem dX7_open_50 : decode cX7_open 50 = .ok (.getfield 40, 3) := by decide +kernel
theorem dX7_open_53 : decode cX7_open 53 = .ok (.bipush 12, 2) := by decide +kernel
theorem dX7_open_55 : decode cX7_open 55 = .ok (.iload_n 1, 1) := by decide +kernel
theorem dX7_open_56 : decode cX7_open 56 = .ok (.imul, 1) := by decide +kernel
theorem dX7_open_57 : decode cX7_open 57 = .ok (.iload_n 2, 1) := by decide +kernel
theorem dX7_open_58 : decode cX7_open 58 = .ok (.iadd, 1) := by decide +kernel
theorem dX7_open_59 : decode cX7_open 59 = .ok (.baload, 1) := by decide +kernel
theorem dX7_open_60 : decode cX7_open 60 = .ok (.ifCond .ne 20, 3) := by decide +kernel
theorem dX7_open_63 : decode cX7_open 63 = .ok (.aload_n 0, 1) := by decide +kernel
theorem dX7_open_64 : decode cX7_open 64 = .ok (.getfield 37, 3) := by decide +kernel
theorem dX7_open_67 : decode cX7_open 67 = .ok (.iload_n 1, 1) := by decide +kernel
theorem dX7_open_68 : decode cX7_open 68 = .ok (.iaload, 1) := by decide +kernel
theorem dX7_open_69 : decode cX7_open 69 = .ok (.iload_n 3, 1) := by decide +kernel
theorem dX7_open_70 : decode cX7_open 70 = .ok (.aload_n 0, 1) := by decide +kernel
theorem dX7_open_71 : decode cX7_open 71 = .ok (.getfield 31, 3) := by decide +kernel
theorem dX7_open_74 : decode cX7_open 74 = .ok (.iload_n 2, 1) := by decide +kernel
theorem dX7_open_75 : decode cX7_open 75 = .ok (.iaload, 1) := by decide +kernel
theorem dX7_open_76 : decode cX7_open 76 = .ok (.imul, 1) := by decide +kernel
theorem dX7_open_77 : decode cX7_open 77 = .ok (.if_icmp .ge 7, 3) := by decide +kernel
theorem dX7_open_80 : decode cX7_open 80 = .ok (.iconst 3, 1) := by decide +kernel
theorem dX7_open_81 : decode cX7_open 81 = .ok (.goto 4, 3) := by decide +kernel
theorem dX7_open_84 : decode cX7_open 84 = .ok (.iconst 0, 1) := by decide +kernel
theorem dX7_open_85 : decode cX7_open 85 = .ok (.invokevirtual 99, 3) := by decide +kernel
theorem dX7_open_88 : decode cX7_open 88 = .ok (.ifCond .ne 5, 3) := by decide +kernel
theorem dX7_open_91 : decode cX7_open 91 = .ok (.iconst 0, 1) := by decide +kernel
theorem dX7_open_92 : decode cX7_open 92 = .ok (.ireturn, 1) := by decide +kernel
theorem dX7_open_93 : decode cX7_open 93 = .ok (.bipush 12, 2) := by decide +kernel
theorem dX7_open_95 : decode cX7_open 95 = .ok (.iload_n 1, 1) := by decide +kernel
theorem dX7_open_96 : decode cX7_open 96 = .ok (.imul, 1) := by decide +kernel
theorem dX7_open_97 : decode cX7_open 97 = .ok (.iload_n 2, 1) := by decide +kernel
theorem dX7_open_98 : decode cX7_open 98 = .ok (.iadd, 1) := by decide +kernel
theorem dX7_open_99 : decode cX7_open 99 = .ok (.istore 6, 2) := by decide +kernel
theorem dX7_open_101 : decode cX7_open 101 = .ok (.aload_n 0, 1) := by decide +kernel
theorem dX7_open_102 : decode cX7_open 102 = .ok (.getfield 40, 3) := by decide +kernel
theorem dX7_open_105 : decode cX7_open 105 = .ok (.iload 6, 2) := by decide +kernel
theorem dX7_open_107 : decode cX7_open 107 = .ok (.iconst 1, 1) := by decide +kernel
theorem dX7_open_108 : decode cX7_open 108 = .ok (.bastore, 1) := by decide +kernel
theorem dX7_open_109 : decode cX7_open 109 = .ok (.aload_n 0, 1) := by decide +kernel
theorem dX7_open_110 : decode cX7_open 110 = .ok (.getfield 44, 3) := by decide +kernel
theorem dX7_open_113 : decode cX7_open 113 = .ok (.iload 6, 2) := by decide +kernel
theorem dX7_open_115 : decode cX7_open 115 = .ok (.aload_n 0, 1) := by decide +kernel
theorem dX7_open_116 : decode cX7_open 116 = .ok (.getfield 109, 3) := by decide +kernel
theorem dX7_open_119 : decode cX7_open 119 = .ok (.iload_n 3, 1) := by decide +kernel
theorem dX7_open_120 : decode cX7_open 120 = .ok (.iadd, 1) := by decide +kernel
theorem dX7_open_121 : decode cX7_open 121 = .ok (.iconst 1, 1) := by decide +kernel
theorem dX7_open_122 : decode cX7_open 122 = .ok (.isub, 1) := by decide +kernel
theorem dX7_open_123 : decode cX7_open 123 = .ok (.iastore, 1) := by decide +kernel
theorem dX7_open_124 : decode cX7_open 124 = .ok (.aload_n 0, 1) := by decide +kernel
theorem dX7_open_125 : decode cX7_open 125 = .ok (.getfield 47, 3) := by decide +kernel
theorem dX7_open_128 : decode cX7_open 128 = .ok (.iload 6, 2) := by decide +kernel
theorem dX7_open_130 : decode cX7_open 130 = .ok (.aload_n 0, 1) := by decide +kernel
theorem dX7_open_131 : decode cX7_open 131 = .ok (.getfield 31, 3) := by decide +kernel
theorem dX7_open_134 : decode cX7_open 134 = .ok (.iload_n 2, 1) := by decide +kernel
theorem dX7_open_135 : decode cX7_open 135 = .ok (.iaload, 1) := by decide +kernel
theorem dX7_open_136 : decode cX7_open 136 = .ok (.iastore, 1) := by decide +kernel
theorem dX7_open_137 : decode cX7_open 137 = .ok (.aload_n 0, 1) := by decide +kernel
theorem dX7_open_138 : decode cX7_open 138 = .ok (.getfield 50, 3) := by decide +kernel
theorem dX7_open_141 : decode cX7_open 141 = .ok (.iload 6, 2) := by decide +kernel
theorem dX7_open_143 : decode cX7_open 143 = .ok (.iload_n 3, 1) := by decide +kernel
theorem dX7_open_144 : decode cX7_open 144 = .ok (.aload_n 0, 1) := by decide +kernel
theorem dX7_open_145 : decode cX7_open 145 = .ok (.getfield 31, 3) := by decide +kernel
theorem dX7_open_148 : decode cX7_open 148 = .ok (.iload_n 2, 1) := by decide +kernel
theorem dX7_open_149 : decode cX7_open 149 = .ok (.iaload, 1) := by decide +kernel
theorem dX7_open_150 : decode cX7_open 150 = .ok (.imul, 1) := by decide +kernel
theorem dX7_open_151 : decode cX7_open 151 = .ok (.iastore, 1) := by decide +kernel
theorem dX7_open_152 : decode cX7_open 152 = .ok (.aload_n 0, 1) := by decide +kernel
theorem dX7_open_153 : decode cX7_open 153 = .ok (.getfield 37, 3) := by decide +kernel
theorem dX7_open_156 : decode cX7_open 156 = .ok (.iload_n 1, 1) := by decide +kernel
theorem dX7_open_157 : decode cX7_open 157 = .ok (.dup2, 1) := by decide +kernel
theorem dX7_open_158 : decode cX7_open 158 = .ok (.iaload, 1) := by decide +kernel
theorem dX7_open_159 : decode cX7_open 159 = .ok (.iload_n 3, 1) := by decide +kernel
theorem dX7_open_160 : decode cX7_open 160 = .ok (.aload_n 0, 1) := by decide +kernel
theorem dX7_open_161 : decode cX7_open 161 = .ok (.getfield 31, 3) := by decide +kernel
theorem dX7_open_164 : decode cX7_open 164 = .ok (.iload_n 2, 1) := by decide +kernel
theorem dX7_open_165 : decode cX7_open 165 = .ok (.iaload, 1) := by decide +kernel
theorem dX7_open_166 : decode cX7_open 166 = .ok (.imul, 1) := by decide +kernel
theorem dX7_open_167 : decode cX7_open 167 = .ok (.isub, 1) := by decide +kernel
theorem dX7_open_168 : decode cX7_open 168 = .ok (.iastore, 1) := by decide +kernel
theorem dX7_open_169 : decode cX7_open 169 = .ok (.aload_n 0, 1) := by decide +kernel
theorem dX7_open_170 : decode cX7_open 170 = .ok (.getfield 44, 3) := by decide +kernel
theorem dX7_open_173 : decode cX7_open 173 = .ok (.iload 6, 2) := by decide +kernel
theorem dX7_open_175 : decode cX7_open 175 = .ok (.iaload, 1) := by decide +kernel
theorem dX7_open_176 : decode cX7_open 176 = .ok (.ireturn, 1) := by decide +kernel
set_option maxRecDepth 20000 in
theorem ggX7_challenge_X7_isBuyer : GoodIn wsX7_challenge wsX7_isBuyer := goodIn_r _ [10, 11, 12, 9, 13] (by decide +kernel) (by decide +kernel)
set_option maxRecDepth 20000 in
theorem gX7_challenge_X7_isBuyer : GoodIn wsX7_challenge (va_wsS RX7 118 yX7_isBuyer wsX7_isBuyer) := goodIn_app (goodIn_of _ (by decide +kernel)) ggX7_challenge_X7_isBuyer
set_option maxRecDepth 20000 in
theorem ggX7_challenge_X7_isReading : GoodIn wsX7_challenge wsX7_isReading := goodIn_r _ [17, 18, 11, 12, 9, 13, 33, 34, 35, 36, 37, 38, 39, 40, 41, 42, 43, 44, 45, 46, 47, 48, 49, 50, 51, 52, 53, 54, 55, 56, 57, 58, 59] (by decide +kernel) (by decide +kernel)
set_option maxRecDepth 20000 in
theorem gX7_challenge_X7_isReading : GoodIn wsX7_challenge (wsV RX7 121 RX7 yX7_isReading wsX7_isReading) := goodIn_app (goodIn_of _ (by decide +kernel)) ggX7_challenge_X7_isReading
set_option maxRecDepth 20000 in
theorem ggX7_challenge_X7_can : GoodIn wsX7_challenge wsX7_can := goodIn_r _ [22, 23, 33, 34, 35, 36, 37, 38, 39, 40, 41, 42, 43, 44, 45, 46, 47, 48, 49, 50, 51, 52, 53, 54, 55, 56, 57, 58, 59] (by decide +kernel) (by decide +kernel)
set_option maxRecDepth 20000 in
theorem gX7_challenge_X7_can : GoodIn wsX7_challenge (wsV RX7 99 RX7 yX7_can wsX7_can) := goodIn_app (goodIn_of _ (by decide +kernel)) ggX7_challenge_X7_can
set_option maxRecDepth 20000 in
theorem ggX7_challenge_X7_neighboursOf : GoodIn wsX7_challenge wsX7_neighboursOf := goodIn_r _ [26, 27, 28, 9, 29, 30, 31, 32] (by decide +kernel) (by decide +kernel)
set_option maxRecDepth 20000 in
theorem gX7_challenge_X7_neighboursOf : GoodIn wsX7_challenge (va_wsS RX7 124 yX7_neighboursOf wsX7_neighboursOf) := goodIn_app (goodIn_of _ (by decide +kernel)) ggX7_challenge_X7_neighboursOf
theorem dX7_challenge_0 : decode cX7_challenge 0 = .ok (.iload_n 1, 1) := by decide +kernel
theorem dX7_challenge_1 : decode cX7_challenge 1 = .ok (.invokestatic 118, 3) := by decide +kernel
theorem dX7_challenge_4 : decode cX7_challenge 4 = .ok (.ifCond .eq 15, 3) := by decide +kernel
theorem dX7_challenge_7 : decode cX7_challenge 7 = .ok (.aload_n 0, 1) := by decide +kernel
theorem dX7_challenge_8 : decode cX7_challenge 8 = .ok (.iload_n 2, 1) := by decide +kernel
theorem dX7_challenge_9 : decode cX7_challenge 9 = .ok (.invokevirtual 121, 3) := by decide +kernel
theorem dX7_challenge_12 : decode cX7_challenge 12 = .ok (.ifCond .eq 7, 3) := by decide +kernel
theorem dX7_challenge_15 : decode cX7_challenge 15 = .ok (.iconst 1, 1) := by decide +kernel
theorem dX7_challenge_16 : decode cX7_challenge 16 = .ok (.goto 4, 3) := by decide +kernel
theorem dX7_challenge_19 : decode cX7_challenge 19 = .ok (.iconst 0, 1) := by decide +kernel
theorem dX7_challenge_20 : decode cX7_challenge 20 = .ok (.istore_n 3, 1) := by decide +kernel
theorem dX7_challenge_21 : decode cX7_challenge 21 = .ok (.aload_n 0, 1) := by decide +kernel
theorem dX7_challenge_22 : decode cX7_challenge 22 = .ok (.iload_n 3, 1) := by decide +kernel
theorem dX7_challenge_23 : decode cX7_challenge 23 = .ok (.ifCond .ne 7, 3) := by decide +kernel
theorem dX7_challenge_26 : decode cX7_challenge 26 = .ok (.iconst 1, 1) := by decide +kernel
theorem dX7_challenge_27 : decode cX7_challenge 27 = .ok (.goto 27, 3) := by decide +kernel
theorem dX7_challenge_30 : decode cX7_challenge 30 = .ok (.aload_n 0, 1) := by decide +kernel
theorem dX7_challenge_31 : decode cX7_challenge 31 = .ok (.getfield 59, 3) := by decide +kernel
theorem dX7_challenge_34 : decode cX7_challenge 34 = .ok (.iload_n 2, 1) := by decide +kernel
theorem dX7_challenge_35 : decode cX7_challenge 35 = .ok (.iaload, 1) := by decide +kernel
theorem dX7_challenge_36 : decode cX7_challenge 36 = .ok (.ifCond .ne 13, 3) := by decide +kernel
theorem dX7_challenge_39 : decode cX7_challenge 39 = .ok (.aload_n 0, 1) := by decide +kernel
theorem dX7_challenge_40 : decode cX7_challenge 40 = .ok (.getfield 37, 3) := by decide +kernel
theorem dX7_challenge_43 : decode cX7_challenge 43 = .ok (.iload_n 1, 1) := by decide +kernel
theorem dX7_challenge_44 : decode cX7_challenge 44 = .ok (.iaload, 1) := by decide +kernel
theorem dX7_challenge_45 : decode cX7_challenge 45 = .ok (.iconst 4, 1) := by decide +kernel
theorem dX7_challenge_46 : decode cX7_challenge 46 = .ok (.if_icmp .ge 7, 3) := by decide +kernel
theorem dX7_challenge_49 : decode cX7_challenge 49 = .ok (.iconst 2, 1) := by decide +kernel
theorem dX7_challenge_50 : decode cX7_challenge 50 = .ok (.goto 4, 3) := by decide +kernel
theorem dX7_challenge_53 : decode cX7_challenge 53 = .ok (.iconst 0, 1) := by decide +kernel
theorem dX7_challenge_54 : decode cX7_challenge 54 = .ok (.invokevirtual 99, 3) := by decide +kernel
theorem dX7_challenge_57 : decode cX7_challenge 57 = .ok (.ifCond .ne 5, 3) := by decide +kernel
theorem dX7_challenge_60 : decode cX7_challenge 60 = .ok (.iconst 0, 1) := by decide +kernel
theorem dX7_challenge_61 : decode cX7_challenge 61 = .ok (.ireturn, 1) := by decide +kernel
theorem dX7_challenge_62 : decode cX7_challenge 62 = .ok (.aload_n 0, 1) := by decide +kernel
theorem dX7_challenge_63 : decode cX7_challenge 63 = .ok (.getfield 37, 3) := by decide +kernel
theorem dX7_challenge_66 : decode cX7_challenge 66 = .ok (.iload_n 1, 1) := by decide +kernel
theorem dX7_challenge_67 : decode cX7_challenge 67 = .ok (.dup2, 1) := by decide +kernel
theorem dX7_challenge_68 : decode cX7_challenge 68 = .ok (.iaload, 1) := by decide +kernel
theorem dX7_challenge_69 : decode cX7_challenge 69 = .ok (.iconst 4, 1) := by decide +kernel
theorem dX7_challenge_70 : decode cX7_challenge 70 = .ok (.isub, 1) := by decide +kernel
theorem dX7_challenge_71 : decode cX7_challenge 71 = .ok (.iastore, 1) := by decide +kernel
theorem dX7_challenge_72 : decode cX7_challenge 72 = .ok (.aload_n 0, 1) := by decide +kernel
theorem dX7_challenge_73 : decode cX7_challenge 73 = .ok (.getfield 59, 3) := by decide +kernel
theorem dX7_challenge_76 : decode cX7_challenge 76 = .ok (.iload_n 2, 1) := by decide +kernel
theorem dX7_challenge_77 : decode cX7_challenge 77 = .ok (.iconst 1, 1) := by decide +kernel
theorem dX7_challenge_78 : decode cX7_challenge 78 = .ok (.iastore, 1) := by decide +kernel
theorem dX7_challenge_79 : decode cX7_challenge 79 = .ok (.aload_n 0, 1) := by decide +kernel
theorem dX7_challenge_80 : decode cX7_challenge 80 = .ok (.getfield 68, 3) := by decide +kernel
theorem dX7_challenge_83 : decode cX7_challenge 83 = .ok (.iload_n 2, 1) := by decide +kernel
theorem dX7_challenge_84 : decode cX7_challenge 84 = .ok (.iload_n 1, 1) := by decide +kernel
theorem dX7_challenge_85 : decode cX7_challenge 85 = .ok (.iastore, 1) := by decide +kernel
theorem dX7_challenge_86 : decode cX7_challenge 86 = .ok (.aload_n 0, 1) := by decide +kernel
theorem dX7_challenge_87 : decode cX7_challenge 87 = .ok (.getfield 65, 3) := by decide +kernel
theorem dX7_challenge_90 : decode cX7_challenge 90 = .ok (.iload_n 2, 1) := by decide +kernel
theorem dX7_challenge_91 : decode cX7_challenge 91 = .ok (.aload_n 0, 1) := by decide +kernel
theorem dX7_challenge_92 : decode cX7_challenge 92 = .ok (.getfield 109, 3) := by decide +kernel
theorem dX7_challenge_95 : decode cX7_challenge 95 = .ok (.iastore, 1) := by decide +kernel
theorem dX7_challenge_96 : decode cX7_challenge 96 = .ok (.aload_n 0, 1) := by decide +kernel
theorem dX7_challenge_97 : decode cX7_challenge 97 = .ok (.getfield 53, 3) := by decide +kernel
theorem dX7_challenge_100 : decode cX7_challenge 100 = .ok (.iload_n 2, 1) := by decide +kernel
theorem dX7_challenge_101 : decode cX7_challenge 101 = .ok (.iaload, 1) := by decide +kernel
theorem dX7_challenge_102 : decode cX7_challenge 102 = .ok (.invokestatic 124, 3) := by decide +kernel
theorem dX7_challenge_105 : decode cX7_challenge 105 = .ok (.ireturn, 1) := by decide +kernel
theorem dX7_samplesFor_0 : decode cX7_samplesFor 0 = .ok (.iconst 0, 1) := by decide +kernel
theorem dX7_samplesFor_1 : decode cX7_samplesFor 1 = .ok (.istore_n 2, 1) := by decide +kernel
theorem dX7_samplesFor_2 : decode cX7_samplesFor 2 = .ok (.bipush 12, 2) := by decide +kernel
theorem dX7_samplesFor_4 : decode cX7_samplesFor 4 = .ok (.iload_n 1, 1) := by decide +kernel
theorem dX7_samplesFor_5 : decode cX7_samplesFor 5 = .ok (.imul, 1) := by decide +kernel
theorem dX7_samplesFor_6 : decode cX7_samplesFor 6 = .ok (.istore_n 3, 1) := by decide +kernel
theorem dX7_samplesFor_7 : decode cX7_samplesFor 7 = .ok (.iload_n 3, 1) := by decide +kernel
theorem dX7_samplesFor_8 : decode cX7_samplesFor 8 = .ok (.bipush 12, 2) := by decide +kernel
theorem dX7_samplesFor_10 : decode cX7_samplesFor 10 = .ok (.iload_n 1, 1) := by decide +kernel
theorem dX7_samplesFor_11 : decode cX7_samplesFor 11 = .ok (.imul, 1) := by decide +kernel
theorem dX7_samplesFor_12 : decode cX7_samplesFor 12 = .ok (.bipush 12, 2) := by decide +kernel
theorem dX7_samplesFor_14 : decode cX7_samplesFor 14 = .ok (.iadd, 1) := by decide +kernel
theorem dX7_samplesFor_15 : decode cX7_samplesFor 15 = .ok (.if_icmp .ge 27, 3) := by decide +kernel
theorem dX7_samplesFor_18 : decode cX7_samplesFor 18 = .ok (.iload_n 2, 1) := by decide +kernel
theorem dX7_samplesFor_19 : decode cX7_samplesFor 19 = .ok (.aload_n 0, 1) := by decide +kernel
theorem dX7_samplesFor_20 : decode cX7_samplesFor 20 = .ok (.getfield 77, 3) := by decide +kernel
theorem dX7_samplesFor_23 : decode cX7_samplesFor 23 = .ok (.iload_n 3, 1) := by decide +kernel
theorem dX7_samplesFor_24 : decode cX7_samplesFor 24 = .ok (.iaload, 1) := by decide +kernel
theorem dX7_samplesFor_25 : decode cX7_samplesFor 25 = .ok (.iconst (-1), 1) := by decide +kernel
theorem dX7_samplesFor_26 : decode cX7_samplesFor 26 = .ok (.if_icmp .ne 7, 3) := by decide +kernel
theorem dX7_samplesFor_29 : decode cX7_samplesFor 29 = .ok (.iconst 0, 1) := by decide +kernel
theorem dX7_samplesFor_30 : decode cX7_samplesFor 30 = .ok (.goto 4, 3) := by decide +kernel
theorem dX7_samplesFor_33 : decode cX7_samplesFor 33 = .ok (.iconst 1, 1) := by decide +kernel
theorem dX7_samplesFor_34 : decode cX7_samplesFor 34 = .ok (.iadd, 1) := by decide +kernel
theorem dX7_samplesFor_35 : decode cX7_samplesFor 35 = .ok (.istore_n 2, 1) := by decide +kernel
theorem dX7_samplesFor_36 : decode cX7_samplesFor 36 = .ok (.iinc 3 1, 3) := by decide +kernel
theorem dX7_samplesFor_39 : decode cX7_samplesFor 39 = .ok (.goto (-32), 3) := by decide +kernel
theorem dX7_samplesFor_42 : decode cX7_samplesFor 42 = .ok (.iload_n 2, 1) := by decide +kernel
theorem dX7_samplesFor_43 : decode cX7_samplesFor 43 = .ok (.ireturn, 1) := by decide +kernel
set_option maxRecDepth 20000 in
theorem ggX7_middleOf_X7_samplesFor : GoodIn wsX7_middleOf wsX7_samplesFor := goodIn_r _ [6, 1, 7, 8, 9, 10, 11, 12, 13, 14, 15, 16, 17, 18, 19, 20, 21, 22, 23, 24, 25, 26, 27, 28, 29, 30, 31, 32, 33] (by decide +kernel) (by decide +kernel)
set_option maxRecDepth 20000 in
theorem gX7_middleOf_X7_samplesFor : GoodIn wsX7_middleOf (wsV RX7 128 RX7 yX7_samplesFor wsX7_samplesFor) := goodIn_app (goodIn_of _ (by decide +kernel)) ggX7_middleOf_X7_samplesFor
