theorem dX1_init_26 : decode cX1_init 26 = .ok (.return_, 1) := by decide +kernel
theorem dX1_hasSampleOf_0 : decode cX1_hasSampleOf 0 = .ok (.aload_n 0, 1) := by decide +kernel
theorem dX1_hasSampleOf_1 : decode cX1_hasSampleOf 1 = .ok (.getfield 19, 3) := by decide +kernel
theorem dX1_hasSampleOf_4 : decode cX1_hasSampleOf 4 = .ok (.aload_n 1, 1) := by decide +kernel
theorem dX1_hasSampleOf_5 : decode cX1_hasSampleOf 5 = .ok (.getfield 26, 3) := by decide +kernel
theorem dX1_hasSampleOf_8 : decode cX1_hasSampleOf 8 = .ok (.ishr, 1) := by decide +kernel
theorem dX1_hasSampleOf_9 : decode cX1_hasSampleOf 9 = .ok (.iconst 1, 1) := by decide +kernel
theorem dX1_hasSampleOf_10 : decode cX1_hasSampleOf 10 = .ok (.iand, 1) := by decide +kernel
theorem dX1_hasSampleOf_11 : decode cX1_hasSampleOf 11 = .ok (.ifCond .eq 7, 3) := by decide +kernel
theorem dX1_hasSampleOf_14 : decode cX1_hasSampleOf 14 = .ok (.iconst 1, 1) := by decide +kernel
theorem dX1_hasSampleOf_15 : decode cX1_hasSampleOf 15 = .ok (.goto 4, 3) := by decide +kernel
theorem dX1_hasSampleOf_18 : decode cX1_hasSampleOf 18 = .ok (.iconst 0, 1) := by decide +kernel
theorem dX1_hasSampleOf_19 : decode cX1_hasSampleOf 19 = .ok (.ireturn, 1) := by decide +kernel
theorem dX1_addSample_0 : decode cX1_addSample 0 = .ok (.aload_n 0, 1) := by decide +kernel
theorem dX1_addSample_1 : decode cX1_addSample 1 = .ok (.getfield 15, 3) := by decide +kernel
theorem dX1_addSample_4 : decode cX1_addSample 4 = .ok (.aload_n 0, 1) := by decide +kernel
theorem dX1_addSample_5 : decode cX1_addSample 5 = .ok (.getfield 9, 3) := by decide +kernel
theorem dX1_addSample_8 : decode cX1_addSample 8 = .ok (.arraylength, 1) := by decide +kernel
theorem dX1_addSample_9 : decode cX1_addSample 9 = .ok (.if_icmp .lt 4, 3) := by decide +kernel
theorem dX1_addSample_12 : decode cX1_addSample 12 = .ok (.return_, 1) := by decide +kernel
theorem dX1_addSample_13 : decode cX1_addSample 13 = .ok (.aload_n 0, 1) := by decide +kernel
theorem dX1_addSample_14 : decode cX1_addSample 14 = .ok (.getfield 15, 3) := by decide +kernel
theorem dX1_addSample_17 : decode cX1_addSample 17 = .ok (.istore_n 3, 1) := by decide +kernel
theorem dX1_addSample_18 : decode cX1_addSample 18 = .ok (.iload_n 3, 1) := by decide +kernel
theorem dX1_addSample_19 : decode cX1_addSample 19 = .ok (.ifCond .le 35, 3) := by decide +kernel
theorem dX1_addSample_22 : decode cX1_addSample 22 = .ok (.aload_n 0, 1) := by decide +kernel
theorem dX1_addSample_23 : decode cX1_addSample 23 = .ok (.getfield 9, 3) := by decide +kernel
theorem dX1_addSample_26 : decode cX1_addSample 26 = .ok (.iload_n 3, 1) := by decide +kernel
theorem dX1_addSample_27 : decode cX1_addSample 27 = .ok (.iconst 1, 1) := by decide +kernel
theorem dX1_addSample_28 : decode cX1_addSample 28 = .ok (.isub, 1) := by decide +kernel
theorem dX1_addSample_29 : decode cX1_addSample 29 = .ok (.iaload, 1) := by decide +kernel
theorem dX1_addSample_30 : decode cX1_addSample 30 = .ok (.iload_n 2, 1) := by decide +kernel
theorem dX1_addSample_31 : decode cX1_addSample 31 = .ok (.if_icmp .le 23, 3) := by decide +kernel
theorem dX1_addSample_34 : decode cX1_addSample 34 = .ok (.aload_n 0, 1) := by decide +kernel
theorem dX1_addSample_35 : decode cX1_addSample 35 = .ok (.getfield 9, 3) := by decide +kernel
theorem dX1_addSample_38 : decode cX1_addSample 38 = .ok (.iload_n 3, 1) := by decide +kernel
theorem dX1_addSample_39 : decode cX1_addSample 39 = .ok (.aload_n 0, 1) := by decide +kernel
theorem dX1_addSample_40 : decode cX1_addSample 40 = .ok (.getfield 9, 3) := by decide +kernel
theorem dX1_addSample_43 : decode cX1_addSample 43 = .ok (.iload_n 3, 1) := by decide +kernel
theorem dX1_addSample_44 : decode cX1_addSample 44 = .ok (.iconst 1, 1) := by decide +kernel
theorem dX1_addSample_45 : decode cX1_addSample 45 = .ok (.isub, 1) := by decide +kernel
theorem dX1_addSample_46 : decode cX1_addSample 46 = .ok (.iaload, 1) := by decide +kernel
theorem dX1_addSample_47 : decode cX1_addSample 47 = .ok (.iastore, 1) := by decide +kernel
theorem dX1_addSample_48 : decode cX1_addSample 48 = .ok (.iinc 3 (-1), 3) := by decide +kernel
theorem dX1_addSample_51 : decode cX1_addSample 51 = .ok (.goto (-33), 3) := by decide +kernel
theorem dX1_addSample_54 : decode cX1_addSample 54 = .ok (.aload_n 0, 1) := by decide +kernel
theorem dX1_addSample_55 : decode cX1_addSample 55 = .ok (.getfield 9, 3) := by decide +kernel
theorem dX1_addSample_58 : decode cX1_addSample 58 = .ok (.iload_n 3, 1) := by decide +kernel
theorem dX1_addSample_59 : decode cX1_addSample 59 = .ok (.iload_n 2, 1) := by decide +kernel
theorem dX1_addSample_60 : decode cX1_addSample 60 = .ok (.iastore, 1) := by decide +kernel
theorem dX1_addSample_61 : decode cX1_addSample 61 = .ok (.aload_n 0, 1) := by decide +kernel
theorem dX1_addSample_62 : decode cX1_addSample 62 = .ok (.dup, 1) := by decide +kernel
theorem dX1_addSample_63 : decode cX1_addSample 63 = .ok (.getfield 15, 3) := by decide +kernel
theorem dX1_addSample_66 : decode cX1_addSample 66 = .ok (.iconst 1, 1) := by decide +kernel
theorem dX1_addSample_67 : decode cX1_addSample 67 = .ok (.iadd, 1) := by decide +kernel
theorem dX1_addSample_68 : decode cX1_addSample 68 = .ok (.putfield 15, 3) := by decide +kernel
theorem dX1_addSample_71 : decode cX1_addSample 71 = .ok (.aload_n 0, 1) := by decide +kernel
theorem dX1_addSample_72 : decode cX1_addSample 72 = .ok (.dup, 1) := by decide +kernel
theorem dX1_addSample_73 : decode cX1_addSample 73 = .ok (.getfield 19, 3) := by decide +kernel
theorem dX1_addSample_76 : decode cX1_addSample 76 = .ok (.iconst 1, 1) := by decide +kernel
theorem dX1_addSample_77 : decode cX1_addSample 77 = .ok (.aload_n 1, 1) := by decide +kernel
theorem dX1_addSample_78 : decode cX1_addSample 78 = .ok (.getfield 26, 3) := by decide +kernel
theorem dX1_addSample_81 : decode cX1_addSample 81 = .ok (.ishl, 1) := by decide +kernel
theorem dX1_addSample_82 : decode cX1_addSample 82 = .ok (.ior, 1) := by decide +kernel
theorem dX1_addSample_83 : decode cX1_addSample 83 = .ok (.putfield 19, 3) := by decide +kernel
theorem dX1_addSample_86 : decode cX1_addSample 86 = .ok (.return_, 1) := by decide +kernel
theorem dX1_findMiddle_0 : decode cX1_findMiddle 0 = .ok (.aload_n 0, 1) := by decide +kernel
theorem dX1_findMiddle_1 : decode cX1_findMiddle 1 = .ok (.getfield 15, 3) := by decide +kernel
theorem dX1_findMiddle_4 : decode cX1_findMiddle 4 = .ok (.ifCond .ne 7, 3) := by decide +kernel
theorem dX1_findMiddle_7 : decode cX1_findMiddle 7 = .ok (.iconst (-1), 1) := by decide +kernel
theorem dX1_findMiddle_8 : decode cX1_findMiddle 8 = .ok (.goto 16, 3) := by decide +kernel
theorem dX1_findMiddle_11 : decode cX1_findMiddle 11 = .ok (.aload_n 0, 1) := by decide +kernel
theorem dX1_findMiddle_12 : decode cX1_findMiddle 12 = .ok (.getfield 9, 3) := by decide +kernel
theorem dX1_findMiddle_15 : decode cX1_findMiddle 15 = .ok (.aload_n 0, 1) := by decide +kernel
theorem dX1_findMiddle_16 : decode cX1_findMiddle 16 = .ok (.getfield 15, 3) := by decide +kernel
theorem dX1_findMiddle_19 : decode cX1_findMiddle 19 = .ok (.iconst 1, 1) := by decide +kernel
theorem dX1_findMiddle_20 : decode cX1_findMiddle 20 = .ok (.isub, 1) := by decide +kernel
theorem dX1_findMiddle_21 : decode cX1_findMiddle 21 = .ok (.iconst 2, 1) := by decide +kernel
theorem dX1_findMiddle_22 : decode cX1_findMiddle 22 = .ok (.idiv, 1) := by decide +kernel
theorem dX1_findMiddle_23 : decode cX1_findMiddle 23 = .ok (.iaload, 1) := by decide +kernel
theorem dX1_findMiddle_24 : decode cX1_findMiddle 24 = .ok (.ireturn, 1) := by decide +kernel
set_option maxRecDepth 20000 in
theorem ggX1_refutes_X1_findMiddle : GoodIn wsX1_refutes wsX1_findMiddle := goodIn_r _ [10, 1, 11, 12, 13, 14, 15] (by decide +kernel) (by decide +kernel)
set_option maxRecDepth 20000 in
theorem gX1_refutes_X1_findMiddle : GoodIn wsX1_refutes (wsV RX1 31 RX1 yX1_findMiddle wsX1_findMiddle) := goodIn_app (goodIn_of _ (by decide +kernel)) ggX1_refutes_X1_findMiddle
theorem dX1_refutes_0 : decode cX1_refutes 0 = .ok (.aload_n 0, 1) := by decide +kernel
theorem dX1_refutes_1 : decode cX1_refutes 1 = .ok (.getfield 15, 3) := by decide +kernel
theorem dX1_refutes_4 : decode cX1_refutes 4 = .ok (.ifCond .le 20, 3) := by decide +kernel
theorem dX1_refutes_7 : decode cX1_refutes 7 = .ok (.iload_n 1, 1) := by decide +kernel
theorem dX1_refutes_8 : decode cX1_refutes 8 = .ok (.aload_n 0, 1) := by decide +kernel
theorem dX1_refutes_9 : decode cX1_refutes 9 = .ok (.invokevirtual 31, 3) := by decide +kernel
theorem dX1_refutes_12 : decode cX1_refutes 12 = .ok (.isub, 1) := by decide +kernel
theorem dX1_refutes_13 : decode cX1_refutes 13 = .ok (.invokestatic 35, 3) := by decide +kernel
theorem dX1_refutes_16 : decode cX1_refutes 16 = .ok (.iconst 5, 1) := by decide +kernel
theorem dX1_refutes_17 : decode cX1_refutes 17 = .ok (.if_icmp .le 7, 3) := by decide +kernel
theorem dX1_refutes_20 : decode cX1_refutes 20 = .ok (.iconst 1, 1) := by decide +kernel
theorem dX1_refutes_21 : decode cX1_refutes 21 = .ok (.goto 4, 3) := by decide +kernel
theorem dX1_refutes_24 : decode cX1_refutes 24 = .ok (.iconst 0, 1) := by decide +kernel
theorem dX1_refutes_25 : decode cX1_refutes 25 = .ok (.ireturn, 1) := by decide +kernel
theorem dX2_init_0 : decode cX2_init 0 = .ok (.aload_n 0, 1) := by decide +kernel
theorem dX2_init_1 : decode cX2_init 1 = .ok (.invokespecial 3, 3) := by decide +kernel
theorem dX2_init_4 : decode cX2_init 4 = .ok (.aload_n 0, 1) := by decide +kernel
theorem dX2_init_5 : decode cX2_init 5 = .ok (.iconst (-1), 1) := by decide +kernel
theorem dX2_init_6 : decode cX2_init 6 = .ok (.putfield 9, 3) := by decide +kernel
theorem dX2_init_9 : decode cX2_init 9 = .ok (.aload_n 0, 1) := by decide +kernel
theorem dX2_init_10 : decode cX2_init 10 = .ok (.bipush 6, 2) := by decide +kernel
theorem dX2_init_12 : decode cX2_init 12 = .ok (.newarray .int, 2) := by decide +kernel
theorem dX2_init_14 : decode cX2_init 14 = .ok (.putfield 15, 3) := by decide +kernel
theorem dX2_init_17 : decode cX2_init 17 = .ok (.aload_n 0, 1) := by decide +kernel
theorem dX2_init_18 : decode cX2_init 18 = .ok (.iconst 0, 1) := by decide +kernel
theorem dX2_init_19 : decode cX2_init 19 = .ok (.putfield 19, 3) := by decide +kernel
theorem dX2_init_22 : decode cX2_init 22 = .ok (.aload_n 0, 1) := by decide +kernel
theorem dX2_init_23 : decode cX2_init 23 = .ok (.iconst 0, 1) := by decide +kernel
theorem dX2_init_24 : decode cX2_init 24 = .ok (.putfield 22, 3) := by decide +kernel
theorem dX2_init_27 : decode cX2_init 27 = .ok (.aload_n 0, 1) := by decide +kernel
theorem dX2_init_28 : decode cX2_init 28 = .ok (.iconst 0, 1) := by decide +kernel
theorem dX2_init_29 : decode cX2_init 29 = .ok (.putfield 25, 3) := by decide +kernel
theorem dX2_init_32 : decode cX2_init 32 = .ok (.aload_n 0, 1) := by decide +kernel
theorem dX2_init_33 : decode cX2_init 33 = .ok (.aconst_null, 1) := by decide +kernel
theorem dX2_init_34 : decode cX2_init 34 = .ok (.putfield 28, 3) := by decide +kernel
theorem dX2_init_37 : decode cX2_init 37 = .ok (.aload_n 0, 1) := by decide +kernel
theorem dX2_init_38 : decode cX2_init 38 = .ok (.aload_n 1, 1) := by decide +kernel
theorem dX2_init_39 : decode cX2_init 39 = .ok (.putfield 32, 3) := by decide +kernel
theorem dX2_init_42 : decode cX2_init 42 = .ok (.aload_n 0, 1) := by decide +kernel
theorem dX2_init_43 : decode cX2_init 43 = .ok (.iload_n 2, 1) := by decide +kernel
theorem dX2_init_44 : decode cX2_init 44 = .ok (.putfield 36, 3) := by decide +kernel
theorem dX2_init_47 : decode cX2_init 47 = .ok (.aload_n 0, 1) := by decide +kernel
theorem dX2_init_48 : decode cX2_init 48 = .ok (.iload_n 3, 1) := by decide +kernel
theorem dX2_init_49 : decode cX2_init 49 = .ok (.putfield 39, 3) := by decide +kernel
theorem dX2_init_52 : decode cX2_init 52 = .ok (.aload_n 0, 1) := by decide +kernel
theorem dX2_init_53 : decode cX2_init 53 = .ok (.iload_n 3, 1) := by decide +kernel
theorem dX2_init_54 : decode cX2_init 54 = .ok (.iconst 3, 1) := by decide +kernel
theorem dX2_init_55 : decode cX2_init 55 = .ok (.if_icmp .lt 7, 3) := by decide +kernel
theorem dX2_init_58 : decode cX2_init 58 = .ok (.iconst 0, 1) := by decide +kernel
theorem dX2_init_59 : decode cX2_init 59 = .ok (.goto 4, 3) := by decide +kernel
theorem dX2_init_62 : decode cX2_init 62 = .ok (.iconst 4, 1) := by decide +kernel
theorem dX2_init_63 : decode cX2_init 63 = .ok (.putfield 42, 3) := by decide +kernel
theorem dX2_init_66 : decode cX2_init 66 = .ok (.return_, 1) := by decide +kernel
theorem dX2_isOpen_0 : decode cX2_isOpen 0 = .ok (.aload_n 0, 1) := by decide +kernel
theorem dX2_isOpen_1 : decode cX2_isOpen 1 = .ok (.getfield 42, 3) := by decide +kernel
theorem dX2_isOpen_4 : decode cX2_isOpen 4 = .ok (.ifCond .eq 11, 3) := by decide +kernel
theorem dX2_isOpen_7 : decode cX2_isOpen 7 = .ok (.aload_n 0, 1) := by decide +kernel
theorem dX2_isOpen_8 : decode cX2_isOpen 8 = .ok (.getfield 42, 3) := by decide +kernel
theorem dX2_isOpen_11 : decode cX2_isOpen 11 = .ok (.iconst 1, 1) := by decide +kernel
theorem dX2_isOpen_12 : decode cX2_isOpen 12 = .ok (.if_icmp .ne 7, 3) := by decide +kernel
theorem dX2_isOpen_15 : decode cX2_isOpen 15 = .ok (.iconst 1, 1) := by decide +kernel
theorem dX2_isOpen_16 : decode cX2_isOpen 16 = .ok (.goto 4, 3) := by decide +kernel
theorem dX2_isOpen_19 : decode cX2_isOpen 19 = .ok (.iconst 0, 1) := by decide +kernel
theorem dX2_isOpen_20 : decode cX2_isOpen 20 = .ok (.ireturn, 1) := by decide +kernel
theorem dX3_init_0 : decode cX3_init 0 = .ok (.aload_n 0, 1) := by decide +kernel
theorem dX3_init_1 : decode cX3_init 1 = .ok (.invokespecial 1, 3) := by decide +kernel
theorem dX3_init_4 : decode cX3_init 4 = .ok (.aload_n 0, 1) := by decide +kernel
theorem dX3_init_5 : decode cX3_init 5 = .ok (.iconst 0, 1) := by decide +kernel
theorem dX3_init_6 : decode cX3_init 6 = .ok (.putfield 7, 3) := by decide +kernel
theorem dX3_init_9 : decode cX3_init 9 = .ok (.aload_n 0, 1) := by decide +kernel
theorem dX3_init_10 : decode cX3_init 10 = .ok (.iconst 0, 1) := by decide +kernel
theorem dX3_init_11 : decode cX3_init 11 = .ok (.putfield 13, 3) := by decide +kernel
theorem dX3_init_14 : decode cX3_init 14 = .ok (.aload_n 0, 1) := by decide +kernel
theorem dX3_init_15 : decode cX3_init 15 = .ok (.iload_n 1, 1) := by decide +kernel
theorem dX3_init_16 : decode cX3_init 16 = .ok (.putfield 16, 3) := by decide +kernel
theorem dX3_init_19 : decode cX3_init 19 = .ok (.aload_n 0, 1) := by decide +kernel
theorem dX3_init_20 : decode cX3_init 20 = .ok (.aload_n 2, 1) := by decide +kernel
theorem dX3_init_21 : decode cX3_init 21 = .ok (.putfield 19, 3) := by decide +kernel
theorem dX3_init_24 : decode cX3_init 24 = .ok (.return_, 1) := by decide +kernel
theorem dX3_losesNext_0 : decode cX3_losesNext 0 = .ok (.aload_n 0, 1) := by decide +kernel
theorem dX3_losesNext_1 : decode cX3_losesNext 1 = .ok (.dup, 1) := by decide +kernel
theorem dX3_losesNext_2 : decode cX3_losesNext 2 = .ok (.getfield 13, 3) := by decide +kernel
theorem dX3_losesNext_5 : decode cX3_losesNext 5 = .ok (.iconst 1, 1) := by decide +kernel
theorem dX3_losesNext_6 : decode cX3_losesNext 6 = .ok (.iadd, 1) := by decide +kernel
theorem dX3_losesNext_7 : decode cX3_losesNext 7 = .ok (.putfield 13, 3) := by decide +kernel
theorem dX3_losesNext_10 : decode cX3_losesNext 10 = .ok (.aload_n 0, 1) := by decide +kernel
theorem dX3_losesNext_11 : decode cX3_losesNext 11 = .ok (.getfield 7, 3) := by decide +kernel
theorem dX3_losesNext_14 : decode cX3_losesNext 14 = .ok (.ifCond .le 19, 3) := by decide +kernel
theorem dX3_losesNext_17 : decode cX3_losesNext 17 = .ok (.aload_n 0, 1) := by decide +kernel
theorem dX3_losesNext_18 : decode cX3_losesNext 18 = .ok (.getfield 13, 3) := by decide +kernel
theorem dX3_losesNext_21 : decode cX3_losesNext 21 = .ok (.aload_n 0, 1) := by decide +kernel
theorem dX3_losesNext_22 : decode cX3_losesNext 22 = .ok (.getfield 7, 3) := by decide +kernel
theorem dX3_losesNext_25 : decode cX3_losesNext 25 = .ok (.irem, 1) := by decide +kernel
theorem dX3_losesNext_26 : decode cX3_losesNext 26 = .ok (.ifCond .ne 7, 3) := by decide +kernel
theorem dX3_losesNext_29 : decode cX3_losesNext 29 = .ok (.iconst 1, 1) := by decide +kernel
theorem dX3_losesNext_30 : decode cX3_losesNext 30 = .ok (.goto 4, 3) := by decide +kernel
theorem dX3_losesNext_33 : decode cX3_losesNext 33 = .ok (.iconst 0, 1) := by decide +kernel
theorem dX3_losesNext_34 : decode cX3_losesNext 34 = .ok (.ireturn, 1) := by decide +kernel
theorem dX3_countLost_0 : decode cX3_countLost 0 = .ok (.aload_n 0, 1) := by decide +kernel
theorem dX3_countLost_1 : decode cX3_countLost 1 = .ok (.getfield 7, 3) := by decide +kernel
theorem dX3_countLost_4 : decode cX3_countLost 4 = .ok (.ifCond .le 15, 3) := by decide +kernel
theorem dX3_countLost_7 : decode cX3_countLost 7 = .ok (.aload_n 0, 1) := by decide +kernel
theorem dX3_countLost_8 : decode cX3_countLost 8 = .ok (.getfield 13, 3) := by decide +kernel
theorem dX3_countLost_11 : decode cX3_countLost 11 = .ok (.aload_n 0, 1) := by decide +kernel
theorem dX3_countLost_12 : decode cX3_countLost 12 = .ok (.getfield 7, 3) := by decide +kernel
theorem dX3_countLost_15 : decode cX3_countLost 15 = .ok (.idiv, 1) := by decide +kernel
theorem dX3_countLost_16 : decode cX3_countLost 16 = .ok (.goto 4, 3) := by decide +kernel
theorem dX3_countLost_19 : decode cX3_countLost 19 = .ok (.iconst 0, 1) := by decide +kernel
theorem dX3_countLost_20 : decode cX3_countLost 20 = .ok (.ireturn, 1) := by decide +kernel
theorem dX4_init_0 : decode cX4_init 0 = .ok (.aload_n 0, 1) := by decide +kernel
theorem dX4_init_1 : decode cX4_init 1 = .ok (.invokespecial 3, 3) := by decide +kernel
theorem dX4_init_4 : decode cX4_init 4 = .ok (.aload_n 0, 1) := by decide +kernel
theorem dX4_init_5 : decode cX4_init 5 = .ok (.iconst 1, 1) := by decide +kernel
theorem dX4_init_6 : decode cX4_init 6 = .ok (.putfield 9, 3) := by decide +kernel
theorem dX4_init_9 : decode cX4_init 9 = .ok (.aload_n 0, 1) := by decide +kernel
theorem dX4_init_10 : decode cX4_init 10 = .ok (.bipush 100, 2) := by decide +kernel
theorem dX4_init_12 : decode cX4_init 12 = .ok (.putfield 15, 3) := by decide +kernel
theorem dX4_init_15 : decode cX4_init 15 = .ok (.aload_n 0, 1) := by decide +kernel
theorem dX4_init_16 : decode cX4_init 16 = .ok (.iconst 0, 1) := by decide +kernel
theorem dX4_init_17 : decode cX4_init 17 = .ok (.putfield 18, 3) := by decide +kernel
theorem dX4_init_20 : decode cX4_init 20 = .ok (.aload_n 0, 1) := by decide +kernel
theorem dX4_init_21 : decode cX4_init 21 = .ok (.iconst 0, 1) := by decide +kernel
theorem dX4_init_22 : decode cX4_init 22 = .ok (.putfield 21, 3) := by decide +kernel
theorem dX4_init_25 : decode cX4_init 25 = .ok (.aload_n 0, 1) := by decide +kernel
theorem dX4_init_26 : decode cX4_init 26 = .ok (.iconst (-1), 1) := by decide +kernel
theorem dX4_init_27 : decode cX4_init 27 = .ok (.putfield 24, 3) := by decide +kernel
theorem dX4_init_30 : decode cX4_init 30 = .ok (.aload_n 0, 1) := by decide +kernel
theorem dX4_init_31 : decode cX4_init 31 = .ok (.iload_n 1, 1) := by decide +kernel
theorem dX4_init_32 : decode cX4_init 32 = .ok (.putfield 27, 3) := by decide +kernel
theorem dX4_init_35 : decode cX4_init 35 = .ok (.aload_n 0, 1) := by decide +kernel
theorem dX4_init_36 : decode cX4_init 36 = .ok (.aload_n 2, 1) := by decide +kernel
theorem dX4_init_37 : decode cX4_init 37 = .ok (.putfield 30, 3) := by decide +kernel
theorem dX4_init_40 : decode cX4_init 40 = .ok (.return_, 1) := by decide +kernel
theorem dX5_init_0 : decode cX5_init 0 = .ok (.aload_n 0, 1) := by decide +kernel
theorem dX5_init_1 : decode cX5_init 1 = .ok (.invokespecial 1, 3) := by decide +kernel
theorem dX5_init_4 : decode cX5_init 4 = .ok (.aload_n 0, 1) := by decide +kernel
theorem dX5_init_5 : decode cX5_init 5 = .ok (.iload_n 1, 1) := by decide +kernel
theorem dX5_init_6 : decode cX5_init 6 = .ok (.putfield 7, 3) := by decide +kernel
theorem dX5_init_9 : decode cX5_init 9 = .ok (.aload_n 0, 1) := by decide +kernel
theorem dX5_init_10 : decode cX5_init 10 = .ok (.iload_n 2, 1) := by decide +kernel
theorem dX5_init_11 : decode cX5_init 11 = .ok (.putfield 13, 3) := by decide +kernel
theorem dX5_init_14 : decode cX5_init 14 = .ok (.aload_n 0, 1) := by decide +kernel
theorem dX5_init_15 : decode cX5_init 15 = .ok (.iload_n 3, 1) := by decide +kernel
theorem dX5_init_16 : decode cX5_init 16 = .ok (.putfield 16, 3) := by decide +kernel
theorem dX5_init_19 : decode cX5_init 19 = .ok (.return_, 1) := by decide +kernel
set_option maxRecDepth 20000 in
theorem ggX6_init_X3_init : GoodIn wsX6_init wsX3_init := goodIn_r _ [23, 24, 2, 3, 25, 26, 27, 28, 53, 54, 55, 56] (by decide +kernel) (by decide +kernel)
set_option maxRecDepth 20000 in
theorem gX6_init_X3_init_n46 : GoodIn wsX6_init (wsX3_init) := ggX6_init_X3_init
set_option maxRecDepth 20000 in
theorem ggX6_init_X4_init : GoodIn wsX6_init wsX4_init := goodIn_r _ [30, 31, 2, 3, 32, 33, 34, 35, 36, 37, 38, 57, 58, 59, 60, 61, 62, 63] (by decide +kernel) (by decide +kernel)
set_option maxRecDepth 20000 in
theorem gX6_init_X4_init_n49 : GoodIn wsX6_init (wsX4_init) := ggX6_init_X4_init
set_option maxRecDepth 20000 in
theorem ggX6_init_X0_init : GoodIn wsX6_init wsX0_init := goodIn_r _ [40, 41, 2, 3, 42, 43, 44, 64, 65] (by decide +kernel) (by decide +kernel)
set_option maxRecDepth 20000 in
theorem gX6_init_X0_init_n50 : GoodIn wsX6_init (wsX0_init) := ggX6_init_X0_init
theorem dX6_init_0 : decode cX6_init 0 = .ok (.aload_n 0, 1) := by decide +kernel
theorem dX6_init_1 : decode cX6_init 1 = .ok (.invokespecial 1, 3) := by decide +kernel
theorem dX6_init_4 : decode cX6_init 4 = .ok (.aload_n 0, 1) := by decide +kernel
theorem dX6_init_5 : decode cX6_init 5 = .ok (.bipush 6, 2) := by decide +kernel
theorem dX6_init_7 : decode cX6_init 7 = .ok (.anewarray 9, 3) := by decide +kernel
theorem dX6_init_10 : decode cX6_init 10 = .ok (.putfield 11, 3) := by decide +kernel
theorem dX6_init_13 : decode cX6_init 13 = .ok (.aload_n 0, 1) := by decide +kernel
theorem dX6_init_14 : decode cX6_init 14 = .ok (.bipush 12, 2) := by decide +kernel
theorem dX6_init_16 : decode cX6_init 16 = .ok (.anewarray 15, 3) := by decide +kernel
theorem dX6_init_19 : decode cX6_init 19 = .ok (.putfield 17, 3) := by decide +kernel
theorem dX6_init_22 : decode cX6_init 22 = .ok (.aload_n 0, 1) := by decide +kernel
theorem dX6_init_23 : decode cX6_init 23 = .ok (.bipush 6, 2) := by decide +kernel
theorem dX6_init_25 : decode cX6_init 25 = .ok (.anewarray 21, 3) := by decide +kernel
theorem dX6_init_28 : decode cX6_init 28 = .ok (.putfield 23, 3) := by decide +kernel
theorem dX6_init_31 : decode cX6_init 31 = .ok (.aload_n 0, 1) := by decide +kernel
theorem dX6_init_32 : decode cX6_init 32 = .ok (.bipush 80, 2) := by decide +kernel
theorem dX6_init_34 : decode cX6_init 34 = .ok (.anewarray 27, 3) := by decide +kernel
theorem dX6_init_37 : decode cX6_init 37 = .ok (.putfield 29, 3) := by decide +kernel
theorem dX6_init_40 : decode cX6_init 40 = .ok (.aload_n 0, 1) := by decide +kernel
theorem dX6_init_41 : decode cX6_init 41 = .ok (.iconst 0, 1) := by decide +kernel
theorem dX6_init_42 : decode cX6_init 42 = .ok (.putfield 33, 3) := by decide +kernel
theorem dX6_init_45 : decode cX6_init 45 = .ok (.aload_n 0, 1) := by decide +kernel
theorem dX6_init_46 : decode cX6_init 46 = .ok (.iconst 0, 1) := by decide +kernel
theorem dX6_init_47 : decode cX6_init 47 = .ok (.putfield 37, 3) := by decide +kernel
theorem dX6_init_50 : decode cX6_init 50 = .ok (.aload_n 0, 1) := by decide +kernel
theorem dX6_init_51 : decode cX6_init 51 = .ok (.iconst 0, 1) := by decide +kernel
theorem dX6_init_52 : decode cX6_init 52 = .ok (.putfield 40, 3) := by decide +kernel
theorem dX6_init_55 : decode cX6_init 55 = .ok (.aload_n 0, 1) := by decide +kernel
theorem dX6_init_56 : decode cX6_init 56 = .ok (.iconst (-1), 1) := by decide +kernel
theorem dX6_init_57 : decode cX6_init 57 = .ok (.putfield 43, 3) := by decide +kernel
theorem dX6_init_60 : decode cX6_init 60 = .ok (.new 9, 3) := by decide +kernel
theorem dX6_init_63 : decode cX6_init 63 = .ok (.dup, 1) := by decide +kernel
theorem dX6_init_64 : decode cX6_init 64 = .ok (.iconst 0, 1) := by decide +kernel
theorem dX6_init_65 : decode cX6_init 65 = .ok (.aconst_null, 1) := by decide +kernel
theorem dX6_init_66 : decode cX6_init 66 = .ok (.invokespecial 46, 3) := by decide +kernel
theorem dX6_init_69 : decode cX6_init 69 = .ok (.astore_n 1, 1) := by decide +kernel
theorem dX6_init_70 : decode cX6_init 70 = .ok (.aload_n 0, 1) := by decide +kernel
theorem dX6_init_71 : decode cX6_init 71 = .ok (.getfield 11, 3) := by decide +kernel
theorem dX6_init_74 : decode cX6_init 74 = .ok (.iconst 0, 1) := by decide +kernel
theorem dX6_init_75 : decode cX6_init 75 = .ok (.aload_n 1, 1) := by decide +kernel
theorem dX6_init_76 : decode cX6_init 76 = .ok (.aastore, 1) := by decide +kernel
theorem dX6_init_77 : decode cX6_init 77 = .ok (.iconst 1, 1) := by decide +kernel
theorem dX6_init_78 : decode cX6_init 78 = .ok (.istore_n 2, 1) := by decide +kernel
theorem dX6_init_79 : decode cX6_init 79 = .ok (.iload_n 2, 1) := by decide +kernel
theorem dX6_init_80 : decode cX6_init 80 = .ok (.bipush 6, 2) := by decide +kernel
theorem dX6_init_82 : decode cX6_init 82 = .ok (.if_icmp .ge 24, 3) := by decide +kernel
theorem dX6_init_85 : decode cX6_init 85 = .ok (.aload_n 0, 1) := by decide +kernel
theorem dX6_init_86 : decode cX6_init 86 = .ok (.getfield 11, 3) := by decide +kernel
theorem dX6_init_89 : decode cX6_init 89 = .ok (.iload_n 2, 1) := by decide +kernel
theorem dX6_init_90 : decode cX6_init 90 = .ok (.new 9, 3) := by decide +kernel
theorem dX6_init_93 : decode cX6_init 93 = .ok (.dup, 1) := by decide +kernel
theorem dX6_init_94 : decode cX6_init 94 = .ok (.iload_n 2, 1) := by decide +kernel
theorem dX6_init_95 : decode cX6_init 95 = .ok (.aload_n 1, 1) := by decide +kernel
theorem dX6_init_96 : decode cX6_init 96 = .ok (.invokespecial 46, 3) := by decide +kernel
theorem dX6_init_99 : decode cX6_init 99 = .ok (.aastore, 1) := by decide +kernel
theorem dX6_init_100 : decode cX6_init 100 = .ok (.iinc 2 1, 3) := by decide +kernel
theorem dX6_init_103 : decode cX6_init 103 = .ok (.goto (-24), 3) := by decide +kernel
theorem dX6_init_106 : decode cX6_init 106 = .ok (.iconst 0, 1) := by decide +kernel
theorem dX6_init_107 : decode cX6_init 107 = .ok (.istore_n 2, 1) := by decide +kernel
theorem dX6_init_108 : decode cX6_init 108 = .ok (.iload_n 2, 1) := by decide +kernel
theorem dX6_init_109 : decode cX6_init 109 = .ok (.bipush 12, 2) := by decide +kernel
theorem dX6_init_111 : decode cX6_init 111 = .ok (.if_icmp .ge 32, 3) := by decide +kernel
theorem dX6_init_114 : decode cX6_init 114 = .ok (.aload_n 0, 1) := by decide +kernel
theorem dX6_init_115 : decode cX6_init 115 = .ok (.getfield 17, 3) := by decide +kernel
theorem dX6_init_118 : decode cX6_init 118 = .ok (.iload_n 2, 1) := by decide +kernel
theorem dX6_init_119 : decode cX6_init 119 = .ok (.new 15, 3) := by decide +kernel
theorem dX6_init_122 : decode cX6_init 122 = .ok (.dup, 1) := by decide +kernel
theorem dX6_init_123 : decode cX6_init 123 = .ok (.iload_n 2, 1) := by decide +kernel
theorem dX6_init_124 : decode cX6_init 124 = .ok (.aload_n 0, 1) := by decide +kernel
theorem dX6_init_125 : decode cX6_init 125 = .ok (.getfield 11, 3) := by decide +kernel
theorem dX6_init_128 : decode cX6_init 128 = .ok (.iload_n 2, 1) := by decide +kernel
theorem dX6_init_129 : decode cX6_init 129 = .ok (.bipush 6, 2) := by decide +kernel
theorem dX6_init_131 : decode cX6_init 131 = .ok (.irem, 1) := by decide +kernel
theorem dX6_init_132 : decode cX6_init 132 = .ok (.aaload, 1) := by decide +kernel
theorem dX6_init_133 : decode cX6_init 133 = .ok (.invokespecial 49, 3) := by decide +kernel
theorem dX6_init_136 : decode cX6_init 136 = .ok (.aastore, 1) := by decide +kernel
theorem dX6_init_137 : decode cX6_init 137 = .ok (.iinc 2 1, 3) := by decide +kernel
theorem dX6_init_140 : decode cX6_init 140 = .ok (.goto (-32), 3) := by decide +kernel
theorem dX6_init_143 : decode cX6_init 143 = .ok (.iconst 0, 1) := by decide +kernel
theorem dX6_init_144 : decode cX6_init 144 = .ok (.istore_n 2, 1) := by decide +kernel
theorem dX6_init_145 : decode cX6_init 145 = .ok (.iload_n 2, 1) := by decide +kernel
theorem dX6_init_146 : decode cX6_init 146 = .ok (.bipush 6, 2) := by decide +kernel
theorem dX6_init_148 : decode cX6_init 148 = .ok (.if_icmp .ge 22, 3) := by decide +kernel
theorem dX6_init_151 : decode cX6_init 151 = .ok (.aload_n 0, 1) := by decide +kernel
theorem dX6_init_152 : decode cX6_init 152 = .ok (.getfield 23, 3) := by decide +kernel
theorem dX6_init_155 : decode cX6_init 155 = .ok (.iload_n 2, 1) := by decide +kernel
theorem dX6_init_156 : decode cX6_init 156 = .ok (.new 21, 3) := by decide +kernel
theorem dX6_init_159 : decode cX6_init 159 = .ok (.dup, 1) := by decide +kernel
theorem dX6_init_160 : decode cX6_init 160 = .ok (.invokespecial 50, 3) := by decide +kernel
theorem dX6_init_163 : decode cX6_init 163 = .ok (.aastore, 1) := by decide +kernel
theorem dX6_init_164 : decode cX6_init 164 = .ok (.iinc 2 1, 3) := by decide +kernel
theorem dX6_init_167 : decode cX6_init 167 = .ok (.goto (-22), 3) := by decide +kernel
theorem dX6_init_170 : decode cX6_init 170 = .ok (.return_, 1) := by decide +kernel
set_option maxRecDepth 20000 in
theorem ggX6_hang_X6_repeaterAt : GoodIn wsX6_hang wsX6_repeaterAt := goodIn_ca (goodIn_r _ [7, 1, 2, 8, 13, 14, 15, 16, 17, 18, 19, 20] (by decide +kernel) (by decide +kernel)) (goodIn_sub (fun _ h => List.mem_cons_of_mem _ (List.mem_append_right _ h)) (by decide +kernel))
set_option maxRecDepth 20000 in
theorem gX6_hang_X6_repeaterAt : GoodIn wsX6_hang (wsV RX6 51 RX6 yX6_repeaterAt wsX6_repeaterAt) := goodIn_app (goodIn_of _ (by decide +kernel)) ggX6_hang_X6_repeaterAt
theorem dX6_hang_0 : decode cX6_hang 0 = .ok (.aload_n 0, 1) := by decide +kernel
theorem dX6_hang_1 : decode cX6_hang 1 = .ok (.iload_n 1, 1) := by decide +kernel
theorem dX6_hang_2 : decode cX6_hang 2 = .ok (.invokevirtual 51, 3) := by decide +kernel
theorem dX6_hang_5 : decode cX6_hang 5 = .ok (.astore_n 3, 1) := by decide +kernel
theorem dX6_hang_6 : decode cX6_hang 6 = .ok (.aload_n 0, 1) := by decide +kernel
theorem dX6_hang_7 : decode cX6_hang 7 = .ok (.iload_n 2, 1) := by decide +kernel
theorem dX6_hang_8 : decode cX6_hang 8 = .ok (.invokevirtual 51, 3) := by decide +kernel
theorem dX6_hang_11 : decode cX6_hang 11 = .ok (.astore 4, 2) := by decide +kernel
theorem dX6_hang_13 : decode cX6_hang 13 = .ok (.aload_n 3, 1) := by decide +kernel
theorem dX6_hang_14 : decode cX6_hang 14 = .ok (.getfield 55, 3) := by decide +kernel
theorem dX6_hang_17 : decode cX6_hang 17 = .ok (.astore 5, 2) := by decide +kernel
theorem dX6_hang_19 : decode cX6_hang 19 = .ok (.aload 5, 2) := by decide +kernel
theorem dX6_hang_21 : decode cX6_hang 21 = .ok (.ifnull 8, 3) := by decide +kernel
theorem dX6_hang_24 : decode cX6_hang 24 = .ok (.iload_n 2, 1) := by decide +kernel
theorem dX6_hang_25 : decode cX6_hang 25 = .ok (.iload_n 1, 1) := by decide +kernel
theorem dX6_hang_26 : decode cX6_hang 26 = .ok (.if_icmp .lt 13, 3) := by decide +kernel
theorem dX6_hang_29 : decode cX6_hang 29 = .ok (.new 59, 3) := by decide +kernel
theorem dX6_hang_32 : decode cX6_hang 32 = .ok (.dup, 1) := by decide +kernel
theorem dX6_hang_33 : decode cX6_hang 33 = .ok (.ldc 61, 2) := by decide +kernel
theorem dX6_hang_35 : decode cX6_hang 35 = .ok (.invokespecial 63, 3) := by decide +kernel
theorem dX6_hang_38 : decode cX6_hang 38 = .ok (.athrow, 1) := by decide +kernel
theorem dX6_hang_39 : decode cX6_hang 39 = .ok (.aload_n 3, 1) := by decide +kernel
theorem dX6_hang_40 : decode cX6_hang 40 = .ok (.aload 4, 2) := by decide +kernel
theorem dX6_hang_42 : decode cX6_hang 42 = .ok (.putfield 55, 3) := by decide +kernel
theorem dX6_hang_45 : decode cX6_hang 45 = .ok (.aload 5, 2) := by decide +kernel
theorem dX6_hang_47 : decode cX6_hang 47 = .ok (.getfield 66, 3) := by decide +kernel
theorem dX6_hang_50 : decode cX6_hang 50 = .ok (.ireturn, 1) := by decide +kernel
set_option maxRecDepth 20000 in
theorem ggX6_attach_X6_sensorAt : GoodIn wsX6_attach wsX6_sensorAt := goodIn_ca (goodIn_r _ [5, 6, 7, 8, 25, 26, 27, 28, 29, 30, 31, 32] (by decide +kernel) (by decide +kernel)) (goodIn_sub (fun _ h => List.mem_cons_of_mem _ (List.mem_append_right _ h)) (by decide +kernel))
set_option maxRecDepth 20000 in
theorem gX6_attach_X6_sensorAt : GoodIn wsX6_attach (wsV RX6 69 RX6 yX6_sensorAt wsX6_sensorAt) := goodIn_app (goodIn_of _ (by decide +kernel)) ggX6_attach_X6_sensorAt
set_option maxRecDepth 20000 in
theorem ggX6_attach_X6_repeaterAt : GoodIn wsX6_attach wsX6_repeaterAt := goodIn_ca (goodIn_r _ [12, 6, 7, 13, 25, 26, 27, 28, 29, 30, 31, 32] (by decide +kernel) (by decide +kernel)) (goodIn_sub (fun _ h => List.mem_cons_of_mem _ (List.mem_append_right _ h)) (by decide +kernel))
set_option maxRecDepth 20000 in
theorem gX6_attach_X6_repeaterAt : GoodIn wsX6_attach (wsV RX6 51 RX6 yX6_repeaterAt wsX6_repeaterAt) := goodIn_app (goodIn_of _ (by decide +kernel)) ggX6_attach_X6_repeaterAt
theorem dX6_attach_0 : decode cX6_attach 0 = .ok (.aload_n 0, 1) := by decide +kernel
theorem dX6_attach_1 : decode cX6_attach 1 = .ok (.iload_n 1, 1) := by decide +kernel
theorem dX6_attach_2 : decode cX6_attach 2 = .ok (.invokevirtual 69, 3) := by decide +kernel
theorem dX6_attach_5 : decode cX6_attach 5 = .ok (.astore_n 3, 1) := by decide +kernel
theorem dX6_attach_6 : decode cX6_attach 6 = .ok (.aload_n 0, 1) := by decide +kernel
theorem dX6_attach_7 : decode cX6_attach 7 = .ok (.iload_n 2, 1) := by decide +kernel
theorem dX6_attach_8 : decode cX6_attach 8 = .ok (.invokevirtual 51, 3) := by decide +kernel
theorem dX6_attach_11 : decode cX6_attach 11 = .ok (.astore 4, 2) := by decide +kernel
theorem dX6_attach_13 : decode cX6_attach 13 = .ok (.aload_n 3, 1) := by decide +kernel
theorem dX6_attach_14 : decode cX6_attach 14 = .ok (.getfield 73, 3) := by decide +kernel
theorem dX6_attach_17 : decode cX6_attach 17 = .ok (.getfield 66, 3) := by decide +kernel
theorem dX6_attach_20 : decode cX6_attach 20 = .ok (.istore 5, 2) := by decide +kernel
theorem dX6_attach_22 : decode cX6_attach 22 = .ok (.aload_n 3, 1) := by decide +kernel
theorem dX6_attach_23 : decode cX6_attach 23 = .ok (.aload 4, 2) := by decide +kernel
theorem dX6_attach_25 : decode cX6_attach 25 = .ok (.putfield 73, 3) := by decide +kernel
theorem dX6_attach_28 : decode cX6_attach 28 = .ok (.iload 5, 2) := by decide +kernel
theorem dX6_attach_30 : decode cX6_attach 30 = .ok (.ireturn, 1) := by decide +kernel
set_option maxRecDepth 20000 in
theorem ggX6_setLoss_X6_repeaterAt : GoodIn wsX6_setLoss wsX6_repeaterAt := goodIn_ca (goodIn_r _ [5, 6, 7, 8, 24, 25, 26, 27, 28, 29, 30, 31] (by decide +kernel) (by decide +kernel)) (goodIn_sub (fun _ h => List.mem_cons_of_mem _ (List.mem_append_left _ (List.mem_append_right _ h))) (by decide +kernel))
set_option maxRecDepth 20000 in
theorem gX6_setLoss_X6_repeaterAt : GoodIn wsX6_setLoss (wsV RX6 51 RX6 yX6_repeaterAt wsX6_repeaterAt) := goodIn_app (goodIn_of _ (by decide +kernel)) ggX6_setLoss_X6_repeaterAt
set_option maxRecDepth 20000 in
theorem ggX6_setLoss_X6_checkWithin : GoodIn wsX6_setLoss wsX6_checkWithin := goodIn_ca (goodIn_r _ [11, 12, 13] (by decide +kernel) (by decide +kernel)) (goodIn_sub (fun _ h => List.mem_cons_of_mem _ (List.mem_append_right _ h)) (by decide +kernel))
set_option maxRecDepth 20000 in
theorem gX6_setLoss_X6_checkWithin : GoodIn wsX6_setLoss (va_wsS RX6 76 yX6_checkWithin wsX6_checkWithin) := goodIn_app (goodIn_of _ (by decide +kernel)) ggX6_setLoss_X6_checkWithin
set_option maxRecDepth 20000 in
theorem ggX6_setLoss_X3_countLost : GoodIn wsX6_setLoss wsX3_countLost := goodIn_r _ [17, 18, 19, 20, 21, 22, 23] (by decide +kernel) (by decide +kernel)
set_option maxRecDepth 20000 in
theorem gX6_setLoss_X3_countLost_n80 : GoodIn wsX6_setLoss (wsX3_countLost) := ggX6_setLoss_X3_countLost
theorem dX6_setLoss_0 : decode cX6_setLoss 0 = .ok (.aload_n 0, 1) := by decide +kernel
theorem dX6_setLoss_1 : decode cX6_setLoss 1 = .ok (.iload_n 1, 1) := by decide +kernel
theorem dX6_setLoss_2 : decode cX6_setLoss 2 = .ok (.invokevirtual 51, 3) := by decide +kernel
theorem dX6_setLoss_5 : decode cX6_setLoss 5 = .ok (.astore_n 3, 1) := by decide +kernel
theorem dX6_setLoss_6 : decode cX6_setLoss 6 = .ok (.iload_n 2, 1) := by decide +kernel
theorem dX6_setLoss_7 : decode cX6_setLoss 7 = .ok (.ifCond .eq 10, 3) := by decide +kernel
theorem dX6_setLoss_10 : decode cX6_setLoss 10 = .ok (.iload_n 2, 1) := by decide +kernel
theorem dX6_setLoss_11 : decode cX6_setLoss 11 = .ok (.iconst 2, 1) := by decide +kernel
theorem dX6_setLoss_12 : decode cX6_setLoss 12 = .ok (.bipush 9, 2) := by decide +kernel
theorem dX6_setLoss_14 : decode cX6_setLoss 14 = .ok (.invokestatic 76, 3) := by decide +kernel
theorem dX6_setLoss_17 : decode cX6_setLoss 17 = .ok (.aload_n 3, 1) := by decide +kernel
theorem dX6_setLoss_18 : decode cX6_setLoss 18 = .ok (.invokevirtual 80, 3) := by decide +kernel
theorem dX6_setLoss_21 : decode cX6_setLoss 21 = .ok (.istore 4, 2) := by decide +kernel
theorem dX6_setLoss_23 : decode cX6_setLoss 23 = .ok (.aload_n 3, 1) := by decide +kernel
theorem dX6_setLoss_24 : decode cX6_setLoss 24 = .ok (.iload_n 2, 1) := by decide +kernel
theorem dX6_setLoss_25 : decode cX6_setLoss 25 = .ok (.putfield 84, 3) := by decide +kernel
theorem dX6_setLoss_28 : decode cX6_setLoss 28 = .ok (.aload_n 3, 1) := by decide +kernel
theorem dX6_setLoss_29 : decode cX6_setLoss 29 = .ok (.iconst 0, 1) := by decide +kernel
theorem dX6_setLoss_30 : decode cX6_setLoss 30 = .ok (.putfield 87, 3) := by decide +kernel
theorem dX6_setLoss_33 : decode cX6_setLoss 33 = .ok (.iload 4, 2) := by decide +kernel
theorem dX6_setLoss_35 : decode cX6_setLoss 35 = .ok (.ireturn, 1) := by decide +kernel
set_option maxRecDepth 20000 in
theorem ggX6_setPrice_X6_sensorAt : GoodIn wsX6_setPrice wsX6_sensorAt := goodIn_ca (goodIn_r _ [5, 6, 7, 8, 21, 22, 23, 24, 25, 26, 27, 28] (by decide +kernel) (by decide +kernel)) (goodIn_sub (fun _ h => List.mem_cons_of_mem _ (List.mem_append_left _ (List.mem_append_right _ h))) (by decide +kernel))
set_option maxRecDepth 20000 in
theorem gX6_setPrice_X6_sensorAt : GoodIn wsX6_setPrice (wsV RX6 69 RX6 yX6_sensorAt wsX6_sensorAt) := goodIn_app (goodIn_of _ (by decide +kernel)) ggX6_setPrice_X6_sensorAt
set_option maxRecDepth 20000 in
theorem ggX6_setPrice_X6_checkWithin : GoodIn wsX6_setPrice wsX6_checkWithin := goodIn_ca (goodIn_r _ [11, 12, 13] (by decide +kernel) (by decide +kernel)) (goodIn_sub (fun _ h => List.mem_cons_of_mem _ (List.mem_append_right _ h)) (by decide +kernel))
set_option maxRecDepth 20000 in
theorem gX6_setPrice_X6_checkWithin : GoodIn wsX6_setPrice (va_wsS RX6 76 yX6_checkWithin wsX6_checkWithin) := goodIn_app (goodIn_of _ (by decide +kernel)) ggX6_setPrice_X6_checkWithin
theorem dX6_setPrice_0 : decode cX6_setPrice 0 = .ok (.aload_n 0, 1) := by decide +kernel
theorem dX6_setPrice_1 : decode cX6_setPrice 1 = .ok (.iload_n 1, 1) := by decide +kernel
theorem dX6_setPrice_2 : decode cX6_setPrice 2 = .ok (.invokevirtual 69, 3) := by decide +kernel
theorem dX6_setPrice_5 : decode cX6_setPrice 5 = .ok (.astore_n 3, 1) := by decide +kernel
theorem dX6_setPrice_6 : decode cX6_setPrice 6 = .ok (.iload_n 2, 1) := by decide +kernel
theorem dX6_setPrice_7 : decode cX6_setPrice 7 = .ok (.iconst 1, 1) := by decide +kernel
theorem dX6_setPrice_8 : decode cX6_setPrice 8 = .ok (.bipush 20, 2) := by decide +kernel
theorem dX6_setPrice_10 : decode cX6_setPrice 10 = .ok (.invokestatic 76, 3) := by decide +kernel
theorem dX6_setPrice_13 : decode cX6_setPrice 13 = .ok (.aload_n 3, 1) := by decide +kernel
theorem dX6_setPrice_14 : decode cX6_setPrice 14 = .ok (.getfield 90, 3) := by decide +kernel
theorem dX6_setPrice_17 : decode cX6_setPrice 17 = .ok (.istore 4, 2) := by decide +kernel
theorem dX6_setPrice_19 : decode cX6_setPrice 19 = .ok (.aload_n 3, 1) := by decide +kernel
theorem dX6_setPrice_20 : decode cX6_setPrice 20 = .ok (.iload_n 2, 1) := by decide +kernel
theorem dX6_setPrice_21 : decode cX6_setPrice 21 = .ok (.putfield 90, 3) := by decide +kernel
theorem dX6_setPrice_24 : decode cX6_setPrice 24 = .ok (.iload 4, 2) := by decide +kernel
theorem dX6_setPrice_26 : decode cX6_setPrice 26 = .ok (.ireturn, 1) := by decide +kernel
set_option maxRecDepth 20000 in
theorem ggX6_topUp_X6_sensorAt : GoodIn wsX6_topUp wsX6_sensorAt := goodIn_ca (goodIn_r _ [9, 10, 11, 12, 20, 21, 22, 23, 24, 25, 26, 27] (by decide +kernel) (by decide +kernel)) (goodIn_sub (fun _ h => List.mem_cons_of_mem _ (List.mem_append_right _ h)) (by decide +kernel))
set_option maxRecDepth 20000 in
theorem gX6_topUp_X6_sensorAt : GoodIn wsX6_topUp (wsV RX6 69 RX6 yX6_sensorAt wsX6_sensorAt) := goodIn_app (goodIn_of _ (by decide +kernel)) ggX6_topUp_X6_sensorAt
theorem dX6_topUp_0 : decode cX6_topUp 0 = .ok (.aload_n 0, 1) := by decide +kernel
theorem dX6_topUp_1 : decode cX6_topUp 1 = .ok (.iload_n 1, 1) := by decide +kernel
theorem dX6_topUp_2 : decode cX6_topUp 2 = .ok (.invokevirtual 69, 3) := by decide +kernel
theorem dX6_topUp_5 : decode cX6_topUp 5 = .ok (.astore_n 3, 1) := by decide +kernel
theorem dX6_topUp_6 : decode cX6_topUp 6 = .ok (.iload_n 2, 1) := by decide +kernel
theorem dX6_topUp_7 : decode cX6_topUp 7 = .ok (.iconst 1, 1) := by decide +kernel
theorem dX6_topUp_8 : decode cX6_topUp 8 = .ok (.if_icmp .ge 13, 3) := by decide +kernel
theorem dX6_topUp_11 : decode cX6_topUp 11 = .ok (.new 93, 3) := by decide +kernel
theorem dX6_topUp_14 : decode cX6_topUp 14 = .ok (.dup, 1) := by decide +kernel
theorem dX6_topUp_15 : decode cX6_topUp 15 = .ok (.ldc 95, 2) := by decide +kernel
theorem dX6_topUp_17 : decode cX6_topUp 17 = .ok (.invokespecial 97, 3) := by decide +kernel
theorem dX6_topUp_20 : decode cX6_topUp 20 = .ok (.athrow, 1) := by decide +kernel
theorem dX6_topUp_21 : decode cX6_topUp 21 = .ok (.aload_n 3, 1) := by decide +kernel
theorem dX6_topUp_22 : decode cX6_topUp 22 = .ok (.getfield 98, 3) := by decide +kernel
theorem dX6_topUp_25 : decode cX6_topUp 25 = .ok (.iload_n 2, 1) := by decide +kernel
theorem dX6_topUp_26 : decode cX6_topUp 26 = .ok (.if_icmp .ge 13, 3) := by decide +kernel
theorem dX6_topUp_29 : decode cX6_topUp 29 = .ok (.new 101, 3) := by decide +kernel
theorem dX6_topUp_32 : decode cX6_topUp 32 = .ok (.dup, 1) := by decide +kernel
theorem dX6_topUp_33 : decode cX6_topUp 33 = .ok (.ldc 103, 2) := by decide +kernel
theorem dX6_topUp_35 : decode cX6_topUp 35 = .ok (.invokespecial 105, 3) := by decide +kernel
theorem dX6_topUp_38 : decode cX6_topUp 38 = .ok (.athrow, 1) := by decide +kernel
theorem dX6_topUp_39 : decode cX6_topUp 39 = .ok (.aload_n 3, 1) := by decide +kernel
theorem dX6_topUp_40 : decode cX6_topUp 40 = .ok (.dup, 1) := by decide +kernel
theorem dX6_topUp_41 : decode cX6_topUp 41 = .ok (.getfield 98, 3) := by decide +kernel
theorem dX6_topUp_44 : decode cX6_topUp 44 = .ok (.iload_n 2, 1) := by decide +kernel
theorem dX6_topUp_45 : decode cX6_topUp 45 = .ok (.isub, 1) := by decide +kernel
theorem dX6_topUp_46 : decode cX6_topUp 46 = .ok (.putfield 98, 3) := by decide +kernel
theorem dX6_topUp_49 : decode cX6_topUp 49 = .ok (.aload_n 3, 1) := by decide +kernel
theorem dX6_topUp_50 : decode cX6_topUp 50 = .ok (.dup, 1) := by decide +kernel
theorem dX6_topUp_51 : decode cX6_topUp 51 = .ok (.getfield 106, 3) := by decide +kernel
theorem dX6_topUp_54 : decode cX6_topUp 54 = .ok (.iload_n 2, 1) := by decide +kernel
theorem dX6_topUp_55 : decode cX6_topUp 55 = .ok (.iadd, 1) := by decide +kernel
theorem dX6_topUp_56 : decode cX6_topUp 56 = .ok (.putfield 106, 3) := by decide +kernel
theorem dX6_topUp_59 : decode cX6_topUp 59 = .ok (.aload_n 3, 1) := by decide +kernel
theorem dX6_topUp_60 : decode cX6_topUp 60 = .ok (.dup, 1) := by decide +kernel
theorem dX6_topUp_61 : decode cX6_topUp 61 = .ok (.getfield 109, 3) := by decide +kernel
theorem dX6_topUp_64 : decode cX6_topUp 64 = .ok (.iload_n 2, 1) := by decide +kernel
theorem dX6_topUp_65 : decode cX6_topUp 65 = .ok (.iadd, 1) := by decide +kernel
theorem dX6_topUp_66 : decode cX6_topUp 66 = .ok (.putfield 109, 3) := by decide +kernel
theorem dX6_topUp_69 : decode cX6_topUp 69 = .ok (.aload_n 3, 1) := by decide +kernel
theorem dX6_topUp_70 : decode cX6_topUp 70 = .ok (.getfield 106, 3) := by decide +kernel
theorem dX6_topUp_73 : decode cX6_topUp 73 = .ok (.ireturn, 1) := by decide +kernel
set_option maxRecDepth 20000 in
theorem ggX6_tell_X6_sensorAt : GoodIn wsX6_tell wsX6_sensorAt := goodIn_ca (goodIn_r _ [13, 14, 15, 16, 71, 72, 73, 74, 75, 76, 77, 78] (by decide +kernel) (by decide +kernel)) (goodIn_sub (fun _ h => List.mem_cons_of_mem _ (List.mem_append_left _ (List.mem_append_right _ h))) (by decide +kernel))
set_option maxRecDepth 20000 in
theorem gX6_tell_X6_sensorAt : GoodIn wsX6_tell (wsV RX6 69 RX6 yX6_sensorAt wsX6_sensorAt) := goodIn_app (goodIn_of _ (by decide +kernel)) ggX6_tell_X6_sensorAt
set_option maxRecDepth 20000 in
theorem ggX6_tell_X6_checkWithin : GoodIn wsX6_tell wsX6_checkWithin := goodIn_ca (goodIn_r _ [19, 20, 21] (by decide +kernel) (by decide +kernel)) (goodIn_sub (fun _ h => List.mem_cons_of_mem _ (List.mem_append_right _ h)) (by decide +kernel))
set_option maxRecDepth 20000 in
theorem gX6_tell_X6_checkWithin : GoodIn wsX6_tell (va_wsS RX6 76 yX6_checkWithin wsX6_checkWithin) := goodIn_app (goodIn_of _ (by decide +kernel)) ggX6_tell_X6_checkWithin
set_option maxRecDepth 20000 in
theorem ggX6_tell_X6_sendParts : GoodIn wsX6_tell wsX6_sendParts := goodIn_r _ [24, 25, 26, 12, 27, 28, 29, 30, 31, 32, 33, 64, 65, 66, 67, 68, 69, 70, 89, 90, 91, 92] (by decide +kernel) (by decide +kernel)
set_option maxRecDepth 20000 in
theorem gX6_tell_X6_sendParts : GoodIn wsX6_tell (va_wsS RX6 117 yX6_sendParts wsX6_sendParts) := goodIn_app (goodIn_of _ (by decide +kernel)) ggX6_tell_X6_sendParts
set_option maxRecDepth 20000 in
theorem ggX6_tell_X2_init : GoodIn wsX6_tell wsX2_init := goodIn_r _ [35, 36, 37, 38, 39, 40, 41, 42, 43, 44, 45, 46, 47, 48, 49, 79, 80, 81, 82, 83, 84, 85, 86, 87, 88] (by decide +kernel) (by decide +kernel)
set_option maxRecDepth 20000 in
theorem gX6_tell_X2_init_n121 : GoodIn wsX6_tell (wsX2_init) := ggX6_tell_X2_init
set_option maxRecDepth 20000 in
theorem ggX6_tell_X6_waitFor : GoodIn wsX6_tell wsX6_waitFor := goodIn_r _ [53, 3, 54, 55, 56, 57, 58, 71, 72, 73, 74, 75, 76, 77, 78, 79, 80, 81, 82, 83, 84, 85, 86, 87, 88] (by decide +kernel) (by decide +kernel)
set_option maxRecDepth 20000 in
theorem gX6_tell_X6_waitFor : GoodIn wsX6_tell (wsV RX6 127 RX6 yX6_waitFor wsX6_waitFor) := goodIn_app (goodIn_of _ (by decide +kernel)) ggX6_tell_X6_waitFor
set_option maxRecDepth 20000 in
theorem ggX6_tell_X6_letWindowsUse : GoodIn wsX6_tell wsX6_letWindowsUse := goodIn_r _ [62, 63, 79, 80, 81, 82, 83, 84, 85, 86, 87, 88, 64, 65, 66, 67, 68, 69, 70, 71, 72, 73, 74, 75, 76, 77, 78, 93, 94, 95, 96, 97] (by decide +kernel) (by decide +kernel)
set_option maxRecDepth 20000 in
theorem gX6_tell_X6_letWindowsUse : GoodIn wsX6_tell (wsV RX6 131 RX6 yX6_letWindowsUse wsX6_letWindowsUse) := goodIn_app (goodIn_of _ (by decide +kernel)) ggX6_tell_X6_letWindowsUse
theorem dX6_tell_0 : decode cX6_tell 0 = .ok (.aload_n 0, 1) := by decide +kernel
theorem dX6_tell_1 : decode cX6_tell 1 = .ok (.iload_n 1, 1) := by decide +kernel
theorem dX6_tell_2 : decode cX6_tell 2 = .ok (.invokevirtual 69, 3) := by decide +kernel
theorem dX6_tell_5 : decode cX6_tell 5 = .ok (.astore_n 3, 1) := by decide +kernel
theorem dX6_tell_6 : decode cX6_tell 6 = .ok (.iload_n 2, 1) := by decide +kernel
theorem dX6_tell_7 : decode cX6_tell 7 = .ok (.iconst 0, 1) := by decide +kernel
theorem dX6_tell_8 : decode cX6_tell 8 = .ok (.bipush 99, 2) := by decide +kernel
theorem dX6_tell_10 : decode cX6_tell 10 = .ok (.invokestatic 76, 3) := by decide +kernel
theorem dX6_tell_13 : decode cX6_tell 13 = .ok (.aload_n 3, 1) := by decide +kernel
theorem dX6_tell_14 : decode cX6_tell 14 = .ok (.getfield 106, 3) := by decide +kernel
theorem dX6_tell_17 : decode cX6_tell 17 = .ok (.bipush 20, 2) := by decide +kernel
theorem dX6_tell_19 : decode cX6_tell 19 = .ok (.if_icmp .lt 23, 3) := by decide +kernel
theorem dX6_tell_22 : decode cX6_tell 22 = .ok (.aload_n 3, 1) := by decide +kernel
theorem dX6_tell_23 : decode cX6_tell 23 = .ok (.getfield 112, 3) := by decide +kernel
theorem dX6_tell_26 : decode cX6_tell 26 = .ok (.aload_n 0, 1) := by decide +kernel
theorem dX6_tell_27 : decode cX6_tell 27 = .ok (.getfield 40, 3) := by decide +kernel
theorem dX6_tell_30 : decode cX6_tell 30 = .ok (.if_icmp .eq 12, 3) := by decide +kernel
theorem dX6_tell_33 : decode cX6_tell 33 = .ok (.aload_n 0, 1) := by decide +kernel
theorem dX6_tell_34 : decode cX6_tell 34 = .ok (.getfield 33, 3) := by decide +kernel
theorem dX6_tell_37 : decode cX6_tell 37 = .ok (.bipush 80, 2) := by decide +kernel
theorem dX6_tell_39 : decode cX6_tell 39 = .ok (.if_icmp .lt 13, 3) := by decide +kernel
theorem dX6_tell_42 : decode cX6_tell 42 = .ok (.new 101, 3) := by decide +kernel
theorem dX6_tell_45 : decode cX6_tell 45 = .ok (.dup, 1) := by decide +kernel
theorem dX6_tell_46 : decode cX6_tell 46 = .ok (.ldc 115, 2) := by decide +kernel
theorem dX6_tell_48 : decode cX6_tell 48 = .ok (.invokespecial 105, 3) := by decide +kernel
theorem dX6_tell_51 : decode cX6_tell 51 = .ok (.athrow, 1) := by decide +kernel
theorem dX6_tell_52 : decode cX6_tell 52 = .ok (.aload_n 3, 1) := by decide +kernel
theorem dX6_tell_53 : decode cX6_tell 53 = .ok (.aload_n 0, 1) := by decide +kernel
theorem dX6_tell_54 : decode cX6_tell 54 = .ok (.getfield 40, 3) := by decide +kernel
theorem dX6_tell_57 : decode cX6_tell 57 = .ok (.putfield 112, 3) := by decide +kernel
theorem dX6_tell_60 : decode cX6_tell 60 = .ok (.new 27, 3) := by decide +kernel
theorem dX6_tell_63 : decode cX6_tell 63 = .ok (.dup, 1) := by decide +kernel
theorem dX6_tell_64 : decode cX6_tell 64 = .ok (.aload_n 3, 1) := by decide +kernel
theorem dX6_tell_65 : decode cX6_tell 65 = .ok (.iload_n 2, 1) := by decide +kernel
theorem dX6_tell_66 : decode cX6_tell 66 = .ok (.aload_n 3, 1) := by decide +kernel
theorem dX6_tell_67 : decode cX6_tell 67 = .ok (.invokestatic 117, 3) := by decide +kernel
theorem dX6_tell_70 : decode cX6_tell 70 = .ok (.invokespecial 121, 3) := by decide +kernel
theorem dX6_tell_73 : decode cX6_tell 73 = .ok (.astore 4, 2) := by decide +kernel
theorem dX6_tell_75 : decode cX6_tell 75 = .ok (.aload_n 0, 1) := by decide +kernel
theorem dX6_tell_76 : decode cX6_tell 76 = .ok (.getfield 33, 3) := by decide +kernel
theorem dX6_tell_79 : decode cX6_tell 79 = .ok (.istore 5, 2) := by decide +kernel
theorem dX6_tell_81 : decode cX6_tell 81 = .ok (.aload_n 0, 1) := by decide +kernel
theorem dX6_tell_82 : decode cX6_tell 82 = .ok (.getfield 29, 3) := by decide +kernel
theorem dX6_tell_85 : decode cX6_tell 85 = .ok (.iload 5, 2) := by decide +kernel
theorem dX6_tell_87 : decode cX6_tell 87 = .ok (.aload 4, 2) := by decide +kernel
theorem dX6_tell_89 : decode cX6_tell 89 = .ok (.aastore, 1) := by decide +kernel
theorem dX6_tell_90 : decode cX6_tell 90 = .ok (.aload_n 0, 1) := by decide +kernel
theorem dX6_tell_91 : decode cX6_tell 91 = .ok (.dup, 1) := by decide +kernel
theorem dX6_tell_92 : decode cX6_tell 92 = .ok (.getfield 33, 3) := by decide +kernel
theorem dX6_tell_95 : decode cX6_tell 95 = .ok (.iconst 1, 1) := by decide +kernel
theorem dX6_tell_96 : decode cX6_tell 96 = .ok (.iadd, 1) := by decide +kernel
theorem dX6_tell_97 : decode cX6_tell 97 = .ok (.putfield 33, 3) := by decide +kernel
theorem dX6_tell_100 : decode cX6_tell 100 = .ok (.aload 4, 2) := by decide +kernel
theorem dX6_tell_102 : decode cX6_tell 102 = .ok (.getfield 124, 3) := by decide +kernel
theorem dX6_tell_105 : decode cX6_tell 105 = .ok (.ifCond .ne 15, 3) := by decide +kernel
theorem dX6_tell_108 : decode cX6_tell 108 = .ok (.aload_n 0, 1) := by decide +kernel
theorem dX6_tell_109 : decode cX6_tell 109 = .ok (.aload 4, 2) := by decide +kernel
theorem dX6_tell_111 : decode cX6_tell 111 = .ok (.invokevirtual 127, 3) := by decide +kernel
theorem dX6_tell_114 : decode cX6_tell 114 = .ok (.aload_n 0, 1) := by decide +kernel
theorem dX6_tell_115 : decode cX6_tell 115 = .ok (.aload 4, 2) := by decide +kernel
theorem dX6_tell_117 : decode cX6_tell 117 = .ok (.invokevirtual 131, 3) := by decide +kernel
theorem dX6_tell_120 : decode cX6_tell 120 = .ok (.iload 5, 2) := by decide +kernel
theorem dX6_tell_122 : decode cX6_tell 122 = .ok (.ireturn, 1) := by decide +kernel
set_option maxRecDepth 20000 in
theorem ggX6_open_X6_buyerAt : GoodIn wsX6_open wsX6_buyerAt := goodIn_ca (goodIn_r _ [16, 17, 18, 19, 47, 48, 49, 50, 51, 52, 53, 54] (by decide +kernel) (by decide +kernel)) (goodIn_sub (fun _ h => List.mem_cons_of_mem _ (List.mem_append_left _ (List.mem_append_right _ h))) (by decide +kernel))
set_option maxRecDepth 20000 in
theorem gX6_open_X6_buyerAt : GoodIn wsX6_open (wsV RX6 134 RX6 yX6_buyerAt wsX6_buyerAt) := goodIn_app (goodIn_of _ (by decide +kernel)) ggX6_open_X6_buyerAt
set_option maxRecDepth 20000 in
theorem ggX6_open_X6_sensorAt : GoodIn wsX6_open wsX6_sensorAt := goodIn_ca (goodIn_r _ [23, 17, 18, 24, 47, 48, 49, 50, 51, 52, 53, 54] (by decide +kernel) (by decide +kernel)) (goodIn_sub (fun _ h => List.mem_cons_of_mem _ (List.mem_append_left _ (List.mem_append_right _ h))) (by decide +kernel))
set_option maxRecDepth 20000 in
theorem gX6_open_X6_sensorAt : GoodIn wsX6_open (wsV RX6 69 RX6 yX6_sensorAt wsX6_sensorAt) := goodIn_app (goodIn_of _ (by decide +kernel)) ggX6_open_X6_sensorAt
set_option maxRecDepth 20000 in
theorem ggX6_open_X6_checkWithin : GoodIn wsX6_open wsX6_checkWithin := goodIn_ca (goodIn_r _ [27, 28, 29] (by decide +kernel) (by decide +kernel)) (goodIn_sub (fun _ h => List.mem_cons_of_mem _ (List.mem_append_right _ h)) (by decide +kernel))
set_option maxRecDepth 20000 in
theorem gX6_open_X6_checkWithin : GoodIn wsX6_open (va_wsS RX6 76 yX6_checkWithin wsX6_checkWithin) := goodIn_app (goodIn_of _ (by decide +kernel)) ggX6_open_X6_checkWithin
set_option maxRecDepth 20000 in
theorem ggX6_open_X5_init : GoodIn wsX6_open wsX5_init := goodIn_r _ [31, 32, 33, 34, 35, 36, 37, 55, 56, 57] (by decide +kernel) (by decide +kernel)
set_option maxRecDepth 20000 in
theorem gX6_open_X5_init_n147 : GoodIn wsX6_open (wsX5_init) := ggX6_open_X5_init
theorem dX6_open_0 : decode cX6_open 0 = .ok (.aload_n 0, 1) := by decide +kernel
theorem dX6_open_1 : decode cX6_open 1 = .ok (.iload_n 1, 1) := by decide +kernel
theorem dX6_open_2 : decode cX6_open 2 = .ok (.invokevirtual 134, 3) := by decide +kernel
theorem dX6_open_5 : decode cX6_open 5 = .ok (.astore 4, 2) := by decide +kernel
theorem dX6_open_7 : decode cX6_open 7 = .ok (.aload_n 0, 1) := by decide +kernel
theorem dX6_open_8 : decode cX6_open 8 = .ok (.iload_n 2, 1) := by decide +kernel
theorem dX6_open_9 : decode cX6_open 9 = .ok (.invokevirtual 69, 3) := by decide +kernel
theorem dX6_open_12 : decode cX6_open 12 = .ok (.astore 5, 2) := by decide +kernel
theorem dX6_open_14 : decode cX6_open 14 = .ok (.iload_n 3, 1) := by decide +kernel
theorem dX6_open_15 : decode cX6_open 15 = .ok (.iconst 1, 1) := by decide +kernel
theorem dX6_open_16 : decode cX6_open 16 = .ok (.bipush 20, 2) := by decide +kernel
theorem dX6_open_18 : decode cX6_open 18 = .ok (.invokestatic 76, 3) := by decide +kernel
theorem dX6_open_21 : decode cX6_open 21 = .ok (.aload 5, 2) := by decide +kernel
theorem dX6_open_23 : decode cX6_open 23 = .ok (.getfield 90, 3) := by decide +kernel
theorem dX6_open_26 : decode cX6_open 26 = .ok (.iload_n 3, 1) := by decide +kernel
theorem dX6_open_27 : decode cX6_open 27 = .ok (.imul, 1) := by decide +kernel
theorem dX6_open_28 : decode cX6_open 28 = .ok (.istore 6, 2) := by decide +kernel
theorem dX6_open_30 : decode cX6_open 30 = .ok (.aload 4, 2) := by decide +kernel
theorem dX6_open_32 : decode cX6_open 32 = .ok (.getfield 138, 3) := by decide +kernel
theorem dX6_open_35 : decode cX6_open 35 = .ok (.iload_n 2, 1) := by decide +kernel
theorem dX6_open_36 : decode cX6_open 36 = .ok (.aaload, 1) := by decide +kernel
theorem dX6_open_37 : decode cX6_open 37 = .ok (.ifnonnull 13, 3) := by decide +kernel
theorem dX6_open_40 : decode cX6_open 40 = .ok (.aload 4, 2) := by decide +kernel
theorem dX6_open_42 : decode cX6_open 42 = .ok (.getfield 142, 3) := by decide +kernel
theorem dX6_open_45 : decode cX6_open 45 = .ok (.iload 6, 2) := by decide +kernel
theorem dX6_open_47 : decode cX6_open 47 = .ok (.if_icmp .ge 13, 3) := by decide +kernel
theorem dX6_open_50 : decode cX6_open 50 = .ok (.new 101, 3) := by decide +kernel
theorem dX6_open_53 : decode cX6_open 53 = .ok (.dup, 1) := by decide +kernel
theorem dX6_open_54 : decode cX6_open 54 = .ok (.ldc 143, 2) := by decide +kernel
theorem dX6_open_56 : decode cX6_open 56 = .ok (.invokespecial 105, 3) := by decide +kernel
theorem dX6_open_59 : decode cX6_open 59 = .ok (.athrow, 1) := by decide +kernel
theorem dX6_open_60 : decode cX6_open 60 = .ok (.aload_n 0, 1) := by decide +kernel
theorem dX6_open_61 : decode cX6_open 61 = .ok (.getfield 40, 3) := by decide +kernel
theorem dX6_open_64 : decode cX6_open 64 = .ok (.iload_n 3, 1) := by decide +kernel
theorem dX6_open_65 : decode cX6_open 65 = .ok (.iadd, 1) := by decide +kernel
theorem dX6_open_66 : decode cX6_open 66 = .ok (.iconst 1, 1) := by decide +kernel
theorem dX6_open_67 : decode cX6_open 67 = .ok (.isub, 1) := by decide +kernel
theorem dX6_open_68 : decode cX6_open 68 = .ok (.istore 7, 2) := by decide +kernel
theorem dX6_open_70 : decode cX6_open 70 = .ok (.aload 4, 2) := by decide +kernel
theorem dX6_open_72 : decode cX6_open 72 = .ok (.dup, 1) := by decide +kernel
theorem dX6_open_73 : decode cX6_open 73 = .ok (.getfield 142, 3) := by decide +kernel
theorem dX6_open_76 : decode cX6_open 76 = .ok (.iload 6, 2) := by decide +kernel
theorem dX6_open_78 : decode cX6_open 78 = .ok (.isub, 1) := by decide +kernel
theorem dX6_open_79 : decode cX6_open 79 = .ok (.putfield 142, 3) := by decide +kernel
theorem dX6_open_82 : decode cX6_open 82 = .ok (.aload 4, 2) := by decide +kernel
theorem dX6_open_84 : decode cX6_open 84 = .ok (.getfield 138, 3) := by decide +kernel
theorem dX6_open_87 : decode cX6_open 87 = .ok (.iload_n 2, 1) := by decide +kernel
theorem dX6_open_88 : decode cX6_open 88 = .ok (.new 145, 3) := by decide +kernel
theorem dX6_open_91 : decode cX6_open 91 = .ok (.dup, 1) := by decide +kernel
theorem dX6_open_92 : decode cX6_open 92 = .ok (.aload 5, 2) := by decide +kernel
theorem dX6_open_94 : decode cX6_open 94 = .ok (.getfield 90, 3) := by decide +kernel
theorem dX6_open_97 : decode cX6_open 97 = .ok (.iload 6, 2) := by decide +kernel
theorem dX6_open_99 : decode cX6_open 99 = .ok (.iload 7, 2) := by decide +kernel
theorem dX6_open_101 : decode cX6_open 101 = .ok (.invokespecial 147, 3) := by decide +kernel
theorem dX6_open_104 : decode cX6_open 104 = .ok (.aastore, 1) := by decide +kernel
theorem dX6_open_105 : decode cX6_open 105 = .ok (.aload_n 0, 1) := by decide +kernel
theorem dX6_open_106 : decode cX6_open 106 = .ok (.aload_n 0, 1) := by decide +kernel
theorem dX6_open_107 : decode cX6_open 107 = .ok (.getfield 43, 3) := by decide +kernel
theorem dX6_open_110 : decode cX6_open 110 = .ok (.iload 7, 2) := by decide +kernel
theorem dX6_open_112 : decode cX6_open 112 = .ok (.invokestatic 149, 3) := by decide +kernel
theorem dX6_open_115 : decode cX6_open 115 = .ok (.putfield 43, 3) := by decide +kernel
theorem dX6_open_118 : decode cX6_open 118 = .ok (.iload 7, 2) := by decide +kernel
theorem dX6_open_120 : decode cX6_open 120 = .ok (.ireturn, 1) := by decide +kernel
set_option maxRecDepth 20000 in
theorem ggX6_challenge_X6_buyerAt : GoodIn wsX6_challenge wsX6_buyerAt := goodIn_ca (goodIn_r _ [10, 11, 12, 13, 72, 73, 74, 75, 76, 77, 78, 79] (by decide +kernel) (by decide +kernel)) (goodIn_sub (fun _ h => List.mem_cons_of_mem _ (List.mem_append_right _ h)) (by decide +kernel))
set_option maxRecDepth 20000 in
theorem gX6_challenge_X6_buyerAt : GoodIn wsX6_challenge (wsV RX6 134 RX6 yX6_buyerAt wsX6_buyerAt) := goodIn_app (goodIn_of _ (by decide +kernel)) ggX6_challenge_X6_buyerAt
set_option maxRecDepth 20000 in
theorem ggX6_challenge_X6_readingAt : GoodIn wsX6_challenge wsX6_readingAt := goodIn_ca (goodIn_r _ [17, 11, 12, 18, 19, 72, 73, 74, 75, 76, 77, 78, 79] (by decide +kernel) (by decide +kernel)) (goodIn_sub (fun _ h => List.mem_cons_of_mem _ (List.mem_append_right _ h)) (by decide +kernel))
set_option maxRecDepth 20000 in
theorem gX6_challenge_X6_readingAt : GoodIn wsX6_challenge (wsV RX6 155 RX6 yX6_readingAt wsX6_readingAt) := goodIn_app (goodIn_of _ (by decide +kernel)) ggX6_challenge_X6_readingAt
set_option maxRecDepth 20000 in
theorem ggX6_challenge_X1_init : GoodIn wsX6_challenge wsX1_init := goodIn_r _ [21, 22, 23, 24, 25, 26, 27, 28, 29, 61, 62, 63, 64] (by decide +kernel) (by decide +kernel)
set_option maxRecDepth 20000 in
theorem gX6_challenge_X1_init_n163 : GoodIn wsX6_challenge (wsX1_init) := ggX6_challenge_X1_init
set_option maxRecDepth 20000 in
theorem ggX6_challenge_X6_waitFor : GoodIn wsX6_challenge wsX6_waitFor := goodIn_r _ [33, 34, 35, 36, 37, 38, 39, 72, 73, 74, 75, 76, 77, 78, 79, 49, 50, 51, 52, 53, 54, 55, 56, 57, 58] (by decide +kernel) (by decide +kernel)
set_option maxRecDepth 20000 in
theorem gX6_challenge_X6_waitFor : GoodIn wsX6_challenge (wsV RX6 127 RX6 yX6_waitFor wsX6_waitFor) := goodIn_app (goodIn_of _ (by decide +kernel)) ggX6_challenge_X6_waitFor
set_option maxRecDepth 20000 in
theorem ggX6_challenge_X6_countNeighbours : GoodIn wsX6_challenge wsX6_countNeighbours := goodIn_r _ [42, 43, 44, 9, 45, 46, 47, 38, 48] (by decide +kernel) (by decide +kernel)
set_option maxRecDepth 20000 in
theorem gX6_challenge_X6_countNeighbours : GoodIn wsX6_challenge (va_wsS RX6 175 yX6_countNeighbours wsX6_countNeighbours) := goodIn_app (goodIn_of _ (by decide +kernel)) ggX6_challenge_X6_countNeighbours
theorem dX6_challenge_0 : decode cX6_challenge 0 = .ok (.aload_n 0, 1) := by decide +kernel
theorem dX6_challenge_1 : decode cX6_challenge 1 = .ok (.iload_n 1, 1) := by decide +kernel
theorem dX6_challenge_2 : decode cX6_challenge 2 = .ok (.invokevirtual 134, 3) := by decide +kernel
theorem dX6_challenge_5 : decode cX6_challenge 5 = .ok (.astore_n 3, 1) := by decide +kernel
theorem dX6_challenge_6 : decode cX6_challenge 6 = .ok (.aload_n 0, 1) := by decide +kernel
theorem dX6_challenge_7 : decode cX6_challenge 7 = .ok (.iload_n 2, 1) := by decide +kernel
theorem dX6_challenge_8 : decode cX6_challenge 8 = .ok (.invokevirtual 155, 3) := by decide +kernel
theorem dX6_challenge_11 : decode cX6_challenge 11 = .ok (.astore 4, 2) := by decide +kernel
theorem dX6_challenge_13 : decode cX6_challenge 13 = .ok (.aload 4, 2) := by decide +kernel
theorem dX6_challenge_15 : decode cX6_challenge 15 = .ok (.getfield 124, 3) := by decide +kernel
theorem dX6_challenge_18 : decode cX6_challenge 18 = .ok (.ifCond .ne 11, 3) := by decide +kernel
theorem dX6_challenge_21 : decode cX6_challenge 21 = .ok (.aload_n 3, 1) := by decide +kernel
theorem dX6_challenge_22 : decode cX6_challenge 22 = .ok (.getfield 142, 3) := by decide +kernel
theorem dX6_challenge_25 : decode cX6_challenge 25 = .ok (.iconst 4, 1) := by decide +kernel
theorem dX6_challenge_26 : decode cX6_challenge 26 = .ok (.if_icmp .ge 13, 3) := by decide +kernel
theorem dX6_challenge_29 : decode cX6_challenge 29 = .ok (.new 101, 3) := by decide +kernel
theorem dX6_challenge_32 : decode cX6_challenge 32 = .ok (.dup, 1) := by decide +kernel
theorem dX6_challenge_33 : decode cX6_challenge 33 = .ok (.ldc 159, 2) := by decide +kernel
theorem dX6_challenge_35 : decode cX6_challenge 35 = .ok (.invokespecial 105, 3) := by decide +kernel
theorem dX6_challenge_38 : decode cX6_challenge 38 = .ok (.athrow, 1) := by decide +kernel
theorem dX6_challenge_39 : decode cX6_challenge 39 = .ok (.aload_n 3, 1) := by decide +kernel
theorem dX6_challenge_40 : decode cX6_challenge 40 = .ok (.dup, 1) := by decide +kernel
theorem dX6_challenge_41 : decode cX6_challenge 41 = .ok (.getfield 142, 3) := by decide +kernel
theorem dX6_challenge_44 : decode cX6_challenge 44 = .ok (.iconst 4, 1) := by decide +kernel
theorem dX6_challenge_45 : decode cX6_challenge 45 = .ok (.isub, 1) := by decide +kernel
theorem dX6_challenge_46 : decode cX6_challenge 46 = .ok (.putfield 142, 3) := by decide +kernel
theorem dX6_challenge_49 : decode cX6_challenge 49 = .ok (.aload 4, 2) := by decide +kernel
theorem dX6_challenge_51 : decode cX6_challenge 51 = .ok (.iconst 1, 1) := by decide +kernel
theorem dX6_challenge_52 : decode cX6_challenge 52 = .ok (.putfield 124, 3) := by decide +kernel
theorem dX6_challenge_55 : decode cX6_challenge 55 = .ok (.aload 4, 2) := by decide +kernel
theorem dX6_challenge_57 : decode cX6_challenge 57 = .ok (.new 161, 3) := by decide +kernel
theorem dX6_challenge_60 : decode cX6_challenge 60 = .ok (.dup, 1) := by decide +kernel
theorem dX6_challenge_61 : decode cX6_challenge 61 = .ok (.aload_n 3, 1) := by decide +kernel
theorem dX6_challenge_62 : decode cX6_challenge 62 = .ok (.invokespecial 163, 3) := by decide +kernel
theorem dX6_challenge_65 : decode cX6_challenge 65 = .ok (.putfield 166, 3) := by decide +kernel
theorem dX6_challenge_68 : decode cX6_challenge 68 = .ok (.aload_n 0, 1) := by decide +kernel
theorem dX6_challenge_69 : decode cX6_challenge 69 = .ok (.aload 4, 2) := by decide +kernel
theorem dX6_challenge_71 : decode cX6_challenge 71 = .ok (.invokevirtual 127, 3) := by decide +kernel
theorem dX6_challenge_74 : decode cX6_challenge 74 = .ok (.aload 4, 2) := by decide +kernel
theorem dX6_challenge_76 : decode cX6_challenge 76 = .ok (.getfield 170, 3) := by decide +kernel
theorem dX6_challenge_79 : decode cX6_challenge 79 = .ok (.getfield 174, 3) := by decide +kernel
theorem dX6_challenge_82 : decode cX6_challenge 82 = .ok (.invokestatic 175, 3) := by decide +kernel
theorem dX6_challenge_85 : decode cX6_challenge 85 = .ok (.ireturn, 1) := by decide +kernel
set_option maxRecDepth 20000 in
theorem ggX6_sample_X6_sensorAt : GoodIn wsX6_sample wsX6_sensorAt := goodIn_ca (goodIn_r _ [7, 8, 9, 10, 95, 96, 97, 98, 99, 100, 101, 102] (by decide +kernel) (by decide +kernel)) (goodIn_sub (fun _ h => List.mem_cons_of_mem _ (List.mem_append_left _ (List.mem_append_right _ h))) (by decide +kernel))
set_option maxRecDepth 20000 in
theorem gX6_sample_X6_sensorAt : GoodIn wsX6_sample (wsV RX6 69 RX6 yX6_sensorAt wsX6_sensorAt) := goodIn_app (goodIn_of _ (by decide +kernel)) ggX6_sample_X6_sensorAt
set_option maxRecDepth 20000 in
theorem ggX6_sample_X6_readingAt : GoodIn wsX6_sample wsX6_readingAt := goodIn_ca (goodIn_r _ [14, 8, 9, 15, 16, 95, 96, 97, 98, 99, 100, 101, 102] (by decide +kernel) (by decide +kernel)) (goodIn_sub (fun _ h => List.mem_cons_of_mem _ (List.mem_append_left _ (List.mem_append_right _ h))) (by decide +kernel))
set_option maxRecDepth 20000 in
theorem gX6_sample_X6_readingAt : GoodIn wsX6_sample (wsV RX6 155 RX6 yX6_readingAt wsX6_readingAt) := goodIn_app (goodIn_of _ (by decide +kernel)) ggX6_sample_X6_readingAt
set_option maxRecDepth 20000 in
theorem ggX6_sample_X6_checkWithin : GoodIn wsX6_sample wsX6_checkWithin := goodIn_ca (goodIn_r _ [19, 20, 21] (by decide +kernel) (by decide +kernel)) (goodIn_sub (fun _ h => List.mem_cons_of_mem _ (List.mem_append_right _ h)) (by decide +kernel))
set_option maxRecDepth 20000 in
theorem gX6_sample_X6_checkWithin : GoodIn wsX6_sample (va_wsS RX6 76 yX6_checkWithin wsX6_checkWithin) := goodIn_app (goodIn_of _ (by decide +kernel)) ggX6_sample_X6_checkWithin
set_option maxRecDepth 20000 in
theorem ggX6_sample_X6_areNeighbours : GoodIn wsX6_sample wsX6_areNeighbours := goodIn_r _ [24, 25, 26, 27, 28] (by decide +kernel) (by decide +kernel)
set_option maxRecDepth 20000 in
theorem gX6_sample_X6_areNeighbours : GoodIn wsX6_sample (va_wsS RX6 179 yX6_areNeighbours wsX6_areNeighbours) := goodIn_app (goodIn_of _ (by decide +kernel)) ggX6_sample_X6_areNeighbours
set_option maxRecDepth 20000 in
theorem ggX6_sample_X1_hasSampleOf : GoodIn wsX6_sample wsX1_hasSampleOf := goodIn_r _ [32, 33, 91, 92, 93, 94, 84, 85, 86, 87, 88, 89, 90] (by decide +kernel) (by decide +kernel)
set_option maxRecDepth 20000 in
theorem gX6_sample_X1_hasSampleOf_n183 : GoodIn wsX6_sample (wsX1_hasSampleOf) := ggX6_sample_X1_hasSampleOf
set_option maxRecDepth 20000 in
theorem ggX6_sample_X1_addSample : GoodIn wsX6_sample wsX1_addSample := goodIn_r _ [36, 37, 38, 33, 91, 92, 93, 94, 84, 85, 86, 87, 88, 89, 90] (by decide +kernel) (by decide +kernel)
set_option maxRecDepth 20000 in
theorem gX6_sample_X1_addSample_n189 : GoodIn wsX6_sample (wsX1_addSample) := ggX6_sample_X1_addSample
set_option maxRecDepth 20000 in
theorem ggX6_sample_X6_countNeighbours : GoodIn wsX6_sample wsX6_countNeighbours := goodIn_r _ [41, 22, 23, 6, 24, 25, 26, 27, 28] (by decide +kernel) (by decide +kernel)
set_option maxRecDepth 20000 in
theorem gX6_sample_X6_countNeighbours : GoodIn wsX6_sample (va_wsS RX6 175 yX6_countNeighbours wsX6_countNeighbours) := goodIn_app (goodIn_of _ (by decide +kernel)) ggX6_sample_X6_countNeighbours
set_option maxRecDepth 20000 in
theorem ggX6_sample_X6_judge : GoodIn wsX6_sample wsX6_judge := goodIn_r _ [45, 46, 30, 47, 48, 37, 49, 26, 27, 28, 50, 51, 52, 53, 38, 54, 55, 56, 6, 57, 58, 59, 60, 61, 62, 63, 64, 65, 66, 67, 68, 69, 70, 71, 72, 73, 74, 75, 76, 77, 78, 79, 80, 81, 82, 83, 84, 85, 86, 87, 88, 89, 90, 91, 92, 93, 94, 95, 96, 97, 98, 99, 100, 101, 102, 103, 104] (by decide +kernel) (by decide +kernel)
set_option maxRecDepth 20000 in
theorem gX6_sample_X6_judge : GoodIn wsX6_sample (wsV RX6 196 RX6 yX6_judge wsX6_judge) := goodIn_app (goodIn_of _ (by decide +kernel)) ggX6_sample_X6_judge
theorem dX6_sample_0 : decode cX6_sample 0 = .ok (.aload_n 0, 1) := by decide +kernel
theorem dX6_sample_1 : decode cX6_sample 1 = .ok (.iload_n 1, 1) := by decide +kernel
theorem dX6_sample_2 : decode cX6_sample 2 = .ok (.invokevirtual 69, 3) := by decide +kernel
theorem dX6_sample_5 : decode cX6_sample 5 = .ok (.astore 4, 2) := by decide +kernel
theorem dX6_sample_7 : decode cX6_sample 7 = .ok (.aload_n 0, 1) := by decide +kernel
theorem dX6_sample_8 : decode cX6_sample 8 = .ok (.iload_n 2, 1) := by decide +kernel
theorem dX6_sample_9 : decode cX6_sample 9 = .ok (.invokevirtual 155, 3) := by decide +kernel
theorem dX6_sample_12 : decode cX6_sample 12 = .ok (.astore 5, 2) := by decide +kernel
theorem dX6_sample_14 : decode cX6_sample 14 = .ok (.iload_n 3, 1) := by decide +kernel
theorem dX6_sample_15 : decode cX6_sample 15 = .ok (.iconst 0, 1) := by decide +kernel
theorem dX6_sample_16 : decode cX6_sample 16 = .ok (.bipush 99, 2) := by decide +kernel
theorem dX6_sample_18 : decode cX6_sample 18 = .ok (.invokestatic 76, 3) := by decide +kernel
theorem dX6_sample_21 : decode cX6_sample 21 = .ok (.aload 5, 2) := by decide +kernel
theorem dX6_sample_23 : decode cX6_sample 23 = .ok (.getfield 166, 3) := by decide +kernel
theorem dX6_sample_26 : decode cX6_sample 26 = .ok (.astore 6, 2) := by decide +kernel
theorem dX6_sample_28 : decode cX6_sample 28 = .ok (.aload 6, 2) := by decide +kernel
theorem dX6_sample_30 : decode cX6_sample 30 = .ok (.ifnull 37, 3) := by decide +kernel
theorem dX6_sample_33 : decode cX6_sample 33 = .ok (.aload 5, 2) := by decide +kernel
theorem dX6_sample_35 : decode cX6_sample 35 = .ok (.getfield 124, 3) := by decide +kernel
theorem dX6_sample_38 : decode cX6_sample 38 = .ok (.iconst 1, 1) := by decide +kernel
theorem dX6_sample_39 : decode cX6_sample 39 = .ok (.if_icmp .ne 28, 3) := by decide +kernel
theorem dX6_sample_42 : decode cX6_sample 42 = .ok (.iload_n 1, 1) := by decide +kernel
theorem dX6_sample_43 : decode cX6_sample 43 = .ok (.aload 5, 2) := by decide +kernel
theorem dX6_sample_45 : decode cX6_sample 45 = .ok (.getfield 170, 3) := by decide +kernel
theorem dX6_sample_48 : decode cX6_sample 48 = .ok (.getfield 174, 3) := by decide +kernel
theorem dX6_sample_51 : decode cX6_sample 51 = .ok (.invokestatic 179, 3) := by decide +kernel
theorem dX6_sample_54 : decode cX6_sample 54 = .ok (.ifCond .eq 13, 3) := by decide +kernel
theorem dX6_sample_57 : decode cX6_sample 57 = .ok (.aload 6, 2) := by decide +kernel
theorem dX6_sample_59 : decode cX6_sample 59 = .ok (.aload 4, 2) := by decide +kernel
theorem dX6_sample_61 : decode cX6_sample 61 = .ok (.invokevirtual 183, 3) := by decide +kernel
theorem dX6_sample_64 : decode cX6_sample 64 = .ok (.ifCond .eq 13, 3) := by decide +kernel
theorem dX6_sample_67 : decode cX6_sample 67 = .ok (.new 101, 3) := by decide +kernel
theorem dX6_sample_70 : decode cX6_sample 70 = .ok (.dup, 1) := by decide +kernel
theorem dX6_sample_71 : decode cX6_sample 71 = .ok (.ldc 187, 2) := by decide +kernel
theorem dX6_sample_73 : decode cX6_sample 73 = .ok (.invokespecial 105, 3) := by decide +kernel
theorem dX6_sample_76 : decode cX6_sample 76 = .ok (.athrow, 1) := by decide +kernel
theorem dX6_sample_77 : decode cX6_sample 77 = .ok (.aload 6, 2) := by decide +kernel
theorem dX6_sample_79 : decode cX6_sample 79 = .ok (.aload 4, 2) := by decide +kernel
theorem dX6_sample_81 : decode cX6_sample 81 = .ok (.iload_n 3, 1) := by decide +kernel
theorem dX6_sample_82 : decode cX6_sample 82 = .ok (.invokevirtual 189, 3) := by decide +kernel
theorem dX6_sample_85 : decode cX6_sample 85 = .ok (.aload 6, 2) := by decide +kernel
theorem dX6_sample_87 : decode cX6_sample 87 = .ok (.getfield 193, 3) := by decide +kernel
theorem dX6_sample_90 : decode cX6_sample 90 = .ok (.aload 5, 2) := by decide +kernel
theorem dX6_sample_92 : decode cX6_sample 92 = .ok (.getfield 170, 3) := by decide +kernel
theorem dX6_sample_95 : decode cX6_sample 95 = .ok (.getfield 174, 3) := by decide +kernel
theorem dX6_sample_98 : decode cX6_sample 98 = .ok (.invokestatic 175, 3) := by decide +kernel
theorem dX6_sample_101 : decode cX6_sample 101 = .ok (.if_icmp .ne 11, 3) := by decide +kernel
theorem dX6_sample_104 : decode cX6_sample 104 = .ok (.aload_n 0, 1) := by decide +kernel
theorem dX6_sample_105 : decode cX6_sample 105 = .ok (.aload 5, 2) := by decide +kernel
theorem dX6_sample_107 : decode cX6_sample 107 = .ok (.aload 6, 2) := by decide +kernel
theorem dX6_sample_109 : decode cX6_sample 109 = .ok (.invokevirtual 196, 3) := by decide +kernel
theorem dX6_sample_112 : decode cX6_sample 112 = .ok (.aload 5, 2) := by decide +kernel
theorem dX6_sample_114 : decode cX6_sample 114 = .ok (.getfield 124, 3) := by decide +kernel
theorem dX6_sample_117 : decode cX6_sample 117 = .ok (.ireturn, 1) := by decide +kernel
set_option maxRecDepth 20000 in
theorem ggX6_advance_X6_checkWithin : GoodIn wsX6_advance wsX6_checkWithin := goodIn_ca (goodIn_r _ [8, 9, 10] (by decide +kernel) (by decide +kernel)) (goodIn_sub (fun _ h => List.mem_cons_of_mem _ (List.mem_append_right _ h)) (by decide +kernel))
set_option maxRecDepth 20000 in
theorem gX6_advance_X6_checkWithin : GoodIn wsX6_advance (va_wsS RX6 76 yX6_checkWithin wsX6_checkWithin) := goodIn_app (goodIn_of _ (by decide +kernel)) ggX6_advance_X6_checkWithin
set_option maxRecDepth 20000 in
theorem ggX6_advance_X6_endTick : GoodIn wsX6_advance wsX6_endTick := goodIn_r _ [14, 15, 16, 17, 18, 19, 20, 21, 22, 23, 24, 25, 7, 26, 27, 28, 29, 30, 31, 32, 33, 34, 35, 36, 37, 38, 39, 40, 41, 42, 43, 44, 45, 46, 47, 48, 49, 50, 51, 52, 53, 54, 55, 56, 57, 58, 59, 60, 61, 62, 63, 64, 65, 66, 67, 68, 69, 70, 71, 72, 73, 74, 75, 76, 77, 78, 79, 80, 81, 82, 83, 84, 85, 86, 87, 88, 89, 90, 91, 92, 93, 94, 95, 96, 97, 98, 99, 100] (by decide +kernel) (by decide +kernel)
set_option maxRecDepth 20000 in
theorem gX6_advance_X6_endTick : GoodIn wsX6_advance (wsV RX6 202 RX6 yX6_endTick wsX6_endTick) := goodIn_app (goodIn_of _ (by decide +kernel)) ggX6_advance_X6_endTick
theorem dX6_advance_0 : decode cX6_advance 0 = .ok (.iload_n 1, 1) := by decide +kernel
theorem dX6_advance_1 : decode cX6_advance 1 = .ok (.iconst 1, 1) := by decide +kernel
theorem dX6_advance_2 : decode cX6_advance 2 = .ok (.bipush 100, 2) := by decide +kernel
theorem dX6_advance_4 : decode cX6_advance 4 = .ok (.invokestatic 76, 3) := by decide +kernel
theorem dX6_advance_7 : decode cX6_advance 7 = .ok (.aload_n 0, 1) := by decide +kernel
theorem dX6_advance_8 : decode cX6_advance 8 = .ok (.getfield 40, 3) := by decide +kernel
theorem dX6_advance_11 : decode cX6_advance 11 = .ok (.iload_n 1, 1) := by decide +kernel
theorem dX6_advance_12 : decode cX6_advance 12 = .ok (.iadd, 1) := by decide +kernel
theorem dX6_advance_13 : decode cX6_advance 13 = .ok (.istore_n 2, 1) := by decide +kernel
theorem dX6_advance_14 : decode cX6_advance 14 = .ok (.iload_n 2, 1) := by decide +kernel
theorem dX6_advance_15 : decode cX6_advance 15 = .ok (.sipush 10000, 3) := by decide +kernel
theorem dX6_advance_18 : decode cX6_advance 18 = .ok (.if_icmp .le 13, 3) := by decide +kernel
theorem dX6_advance_21 : decode cX6_advance 21 = .ok (.new 101, 3) := by decide +kernel
theorem dX6_advance_24 : decode cX6_advance 24 = .ok (.dup, 1) := by decide +kernel
theorem dX6_advance_25 : decode cX6_advance 25 = .ok (.ldc 200, 2) := by decide +kernel
theorem dX6_advance_27 : decode cX6_advance 27 = .ok (.invokespecial 105, 3) := by decide +kernel
theorem dX6_advance_30 : decode cX6_advance 30 = .ok (.athrow, 1) := by decide +kernel
theorem dX6_advance_31 : decode cX6_advance 31 = .ok (.aload_n 0, 1) := by decide +kernel
theorem dX6_advance_32 : decode cX6_advance 32 = .ok (.getfield 40, 3) := by decide +kernel
theorem dX6_advance_35 : decode cX6_advance 35 = .ok (.istore_n 3, 1) := by decide +kernel
theorem dX6_advance_36 : decode cX6_advance 36 = .ok (.iload_n 3, 1) := by decide +kernel
theorem dX6_advance_37 : decode cX6_advance 37 = .ok (.iload_n 2, 1) := by decide +kernel
theorem dX6_advance_38 : decode cX6_advance 38 = .ok (.if_icmp .ge 22, 3) := by decide +kernel
theorem dX6_advance_41 : decode cX6_advance 41 = .ok (.iload_n 3, 1) := by decide +kernel
theorem dX6_advance_42 : decode cX6_advance 42 = .ok (.aload_n 0, 1) := by decide +kernel
theorem dX6_advance_43 : decode cX6_advance 43 = .ok (.getfield 43, 3) := by decide +kernel
theorem dX6_advance_46 : decode cX6_advance 46 = .ok (.if_icmp .gt 14, 3) := by decide +kernel
theorem dX6_advance_49 : decode cX6_advance 49 = .ok (.aload_n 0, 1) := by decide +kernel
theorem dX6_advance_50 : decode cX6_advance 50 = .ok (.iload_n 3, 1) := by decide +kernel
theorem dX6_advance_51 : decode cX6_advance 51 = .ok (.invokevirtual 202, 3) := by decide +kernel
theorem dX6_advance_54 : decode cX6_advance 54 = .ok (.iinc 3 1, 3) := by decide +kernel
theorem dX6_advance_57 : decode cX6_advance 57 = .ok (.goto (-21), 3) := by decide +kernel
theorem dX6_advance_60 : decode cX6_advance 60 = .ok (.aload_n 0, 1) := by decide +kernel
theorem dX6_advance_61 : decode cX6_advance 61 = .ok (.iload_n 2, 1) := by decide +kernel
theorem dX6_advance_62 : decode cX6_advance 62 = .ok (.putfield 40, 3) := by decide +kernel
theorem dX6_advance_65 : decode cX6_advance 65 = .ok (.aload_n 0, 1) := by decide +kernel
theorem dX6_advance_66 : decode cX6_advance 66 = .ok (.getfield 40, 3) := by decide +kernel
theorem dX6_advance_69 : decode cX6_advance 69 = .ok (.ireturn, 1) := by decide +kernel
theorem dX6_tick_0 : decode cX6_tick 0 = .ok (.aload_n 0, 1) := by decide +kernel
theorem dX6_tick_1 : decode cX6_tick 1 = .ok (.getfield 40, 3) := by decide +kernel
theorem dX6_tick_4 : decode cX6_tick 4 = .ok (.ireturn, 1) := by decide +kernel
theorem dX6_readings_0 : decode cX6_readings 0 = .ok (.aload_n 0, 1) := by decide +kernel
theorem dX6_readings_1 : decode cX6_readings 1 = .ok (.getfield 33, 3) := by decide +kernel
theorem dX6_readings_4 : decode cX6_readings 4 = .ok (.ireturn, 1) := by decide +kernel
set_option maxRecDepth 20000 in
theorem ggX6_stateOf_X6_readingAt : GoodIn wsX6_stateOf wsX6_readingAt := goodIn_ca (goodIn_r _ [5, 6, 7, 8, 9, 20, 21, 22, 23, 24, 25, 26, 27] (by decide +kernel) (by decide +kernel)) (goodIn_sub (fun _ h => List.mem_cons_of_mem _ (List.mem_append_right _ h)) (by decide +kernel))
set_option maxRecDepth 20000 in
theorem gX6_stateOf_X6_readingAt : GoodIn wsX6_stateOf (wsV RX6 155 RX6 yX6_readingAt wsX6_readingAt) := goodIn_app (goodIn_of _ (by decide +kernel)) ggX6_stateOf_X6_readingAt
theorem dX6_stateOf_0 : decode cX6_stateOf 0 = .ok (.aload_n 0, 1) := by decide +kernel
theorem dX6_stateOf_1 : decode cX6_stateOf 1 = .ok (.iload_n 1, 1) := by decide +kernel
theorem dX6_stateOf_2 : decode cX6_stateOf 2 = .ok (.invokevirtual 155, 3) := by decide +kernel
theorem dX6_stateOf_5 : decode cX6_stateOf 5 = .ok (.getfield 124, 3) := by decide +kernel
theorem dX6_stateOf_8 : decode cX6_stateOf 8 = .ok (.ireturn, 1) := by decide +kernel
set_option maxRecDepth 20000 in
theorem ggX6_parts_X6_readingAt : GoodIn wsX6_parts wsX6_readingAt := goodIn_ca (goodIn_r _ [5, 6, 7, 8, 9, 20, 21, 22, 23, 24, 25, 26, 27] (by decide +kernel) (by decide +kernel)) (goodIn_sub (fun _ h => List.mem_cons_of_mem _ (List.mem_append_right _ h)) (by decide +kernel))
set_option maxRecDepth 20000 in
theorem gX6_parts_X6_readingAt : GoodIn wsX6_parts (wsV RX6 155 RX6 yX6_readingAt wsX6_readingAt) := goodIn_app (goodIn_of _ (by decide +kernel)) ggX6_parts_X6_readingAt
theorem dX6_parts_0 : decode cX6_parts 0 = .ok (.aload_n 0, 1) := by decide +kernel
theorem dX6_parts_1 : decode cX6_parts 1 = .ok (.iload_n 1, 1) := by decide +kernel
theorem dX6_parts_2 : decode cX6_parts 2 = .ok (.invokevirtual 155, 3) := by decide +kernel
theorem dX6_parts_5 : decode cX6_parts 5 = .ok (.getfield 206, 3) := by decide +kernel
theorem dX6_parts_8 : decode cX6_parts 8 = .ok (.ireturn, 1) := by decide +kernel
set_option maxRecDepth 20000 in
theorem ggX6_users_X6_readingAt : GoodIn wsX6_users wsX6_readingAt := goodIn_ca (goodIn_r _ [5, 6, 7, 8, 9, 20, 21, 22, 23, 24, 25, 26, 27] (by decide +kernel) (by decide +kernel)) (goodIn_sub (fun _ h => List.mem_cons_of_mem _ (List.mem_append_right _ h)) (by decide +kernel))
set_option maxRecDepth 20000 in
theorem gX6_users_X6_readingAt : GoodIn wsX6_users (wsV RX6 155 RX6 yX6_readingAt wsX6_readingAt) := goodIn_app (goodIn_of _ (by decide +kernel)) ggX6_users_X6_readingAt
theorem dX6_users_0 : decode cX6_users 0 = .ok (.aload_n 0, 1) := by decide +kernel
theorem dX6_users_1 : decode cX6_users 1 = .ok (.iload_n 1, 1) := by decide +kernel
theorem dX6_users_2 : decode cX6_users 2 = .ok (.invokevirtual 155, 3) := by decide +kernel
theorem dX6_users_5 : decode cX6_users 5 = .ok (.getfield 209, 3) := by decide +kernel
theorem dX6_users_8 : decode cX6_users 8 = .ok (.ireturn, 1) := by decide +kernel
set_option maxRecDepth 20000 in
theorem ggX6_held_X6_readingAt : GoodIn wsX6_held wsX6_readingAt := goodIn_ca (goodIn_r _ [5, 6, 7, 8, 9, 20, 21, 22, 23, 24, 25, 26, 27] (by decide +kernel) (by decide +kernel)) (goodIn_sub (fun _ h => List.mem_cons_of_mem _ (List.mem_append_right _ h)) (by decide +kernel))
set_option maxRecDepth 20000 in
theorem gX6_held_X6_readingAt : GoodIn wsX6_held (wsV RX6 155 RX6 yX6_readingAt wsX6_readingAt) := goodIn_app (goodIn_of _ (by decide +kernel)) ggX6_held_X6_readingAt
theorem dX6_held_0 : decode cX6_held 0 = .ok (.aload_n 0, 1) := by decide +kernel
theorem dX6_held_1 : decode cX6_held 1 = .ok (.iload_n 1, 1) := by decide +kernel
theorem dX6_held_2 : decode cX6_held 2 = .ok (.invokevirtual 155, 3) := by decide +kernel
theorem dX6_held_5 : decode cX6_held 5 = .ok (.getfield 212, 3) := by decide +kernel
theorem dX6_held_8 : decode cX6_held 8 = .ok (.ireturn, 1) := by decide +kernel
set_option maxRecDepth 20000 in
theorem ggX6_middle_X6_readingAt : GoodIn wsX6_middle wsX6_readingAt := goodIn_ca (goodIn_r _ [5, 6, 7, 8, 9, 26, 27, 28, 29, 30, 31, 32, 33] (by decide +kernel) (by decide +kernel)) (goodIn_sub (fun _ h => List.mem_cons_of_mem _ (List.mem_append_right _ h)) (by decide +kernel))
set_option maxRecDepth 20000 in
theorem gX6_middle_X6_readingAt : GoodIn wsX6_middle (wsV RX6 155 RX6 yX6_readingAt wsX6_readingAt) := goodIn_app (goodIn_of _ (by decide +kernel)) ggX6_middle_X6_readingAt
set_option maxRecDepth 20000 in
theorem ggX6_middle_X1_findMiddle : GoodIn wsX6_middle wsX1_findMiddle := goodIn_r _ [13, 14, 15, 34, 35, 36, 37] (by decide +kernel) (by decide +kernel)
set_option maxRecDepth 20000 in
theorem gX6_middle_X1_findMiddle_n215 : GoodIn wsX6_middle (wsX1_findMiddle) := ggX6_middle_X1_findMiddle
theorem dX6_middle_0 : decode cX6_middle 0 = .ok (.aload_n 0, 1) := by decide +kernel
theorem dX6_middle_1 : decode cX6_middle 1 = .ok (.iload_n 1, 1) := by decide +kernel
theorem dX6_middle_2 : decode cX6_middle 2 = .ok (.invokevirtual 155, 3) := by decide +kernel
theorem dX6_middle_5 : decode cX6_middle 5 = .ok (.getfield 166, 3) := by decide +kernel
theorem dX6_middle_8 : decode cX6_middle 8 = .ok (.astore_n 2, 1) := by decide +kernel
theorem dX6_middle_9 : decode cX6_middle 9 = .ok (.aload_n 2, 1) := by decide +kernel
theorem dX6_middle_10 : decode cX6_middle 10 = .ok (.ifnonnull 7, 3) := by decide +kernel
theorem dX6_middle_13 : decode cX6_middle 13 = .ok (.iconst (-1), 1) := by decide +kernel
theorem dX6_middle_14 : decode cX6_middle 14 = .ok (.goto 7, 3) := by decide +kernel
theorem dX6_middle_17 : decode cX6_middle 17 = .ok (.aload_n 2, 1) := by decide +kernel
theorem dX6_middle_18 : decode cX6_middle 18 = .ok (.invokevirtual 215, 3) := by decide +kernel
theorem dX6_middle_21 : decode cX6_middle 21 = .ok (.ireturn, 1) := by decide +kernel
set_option maxRecDepth 20000 in
theorem ggX6_textAt_X6_readingAt : GoodIn wsX6_textAt wsX6_readingAt := goodIn_ca (goodIn_r _ [10, 1, 2, 11, 12, 217, 218, 219, 220, 221, 222, 223, 224] (by decide +kernel) (by decide +kernel)) (goodIn_sub (fun _ h => List.mem_cons_of_mem _ (List.mem_append_right _ h)) (by decide +kernel))
set_option maxRecDepth 20000 in
theorem gX6_textAt_X6_readingAt : GoodIn wsX6_textAt (wsV RX6 155 RX6 yX6_readingAt wsX6_readingAt) := goodIn_app (goodIn_of _ (by decide +kernel)) ggX6_textAt_X6_readingAt
set_option maxRecDepth 20000 in
theorem ggX6_textAt_J4_init_da8c8 : GoodIn wsX6_textAt wsJ4_init_da8c8 := goodIn_r _ [15, 16, 17, 18, 19, 20, 21, 22, 23, 24, 25, 26, 27, 28, 29, 30, 31, 32, 33, 34, 196, 197, 198, 199] (by decide +kernel) (by decide +kernel)
set_option maxRecDepth 20000 in
theorem gX6_textAt_J4_init_da8c8 : GoodIn wsX6_textAt (wsJ4_init_da8c8) := ggX6_textAt_J4_init_da8c8
set_option maxRecDepth 20000 in
theorem ggX6_textAt_J4_append_cf468 : GoodIn wsX6_textAt wsJ4_append_cf468 := goodIn_r _ [38, 39, 40, 41, 42, 18, 43, 44, 25, 45, 46, 47, 48, 49, 26, 50, 51, 52, 53, 54, 55, 56, 57, 58, 59, 60, 61, 62, 63, 64, 65, 66, 67, 68, 69, 70, 71, 72, 73, 74, 75, 76, 77, 24, 78, 79, 80, 81, 82, 83, 84, 85, 86, 87, 88, 89, 23, 90, 91, 92, 93, 94, 95, 96, 97, 98, 27, 28, 29, 30, 31, 32, 33, 34, 99, 100, 101, 102, 103, 104, 105, 106, 107, 108, 109, 110, 111, 112, 113, 114, 115, 116, 117, 118, 119, 120, 121, 122, 123, 124, 125, 126, 127, 128, 129, 130, 131, 132, 133, 134, 135, 136, 137, 196, 197, 198, 199] (by decide +kernel) (by decide +kernel)
set_option maxRecDepth 20000 in
theorem gX6_textAt_J4_append_cf468 : GoodIn wsX6_textAt (wsV RX6 223 RJ4 yJ4_append_cf468 wsJ4_append_cf468) := goodIn_app (goodIn_of _ (by decide +kernel)) ggX6_textAt_J4_append_cf468
set_option maxRecDepth 20000 in
theorem ggX6_textAt_J4_append_bf812 : GoodIn wsX6_textAt wsJ4_append_bf812 := goodIn_r _ [141, 142, 143, 41, 144, 18, 145, 44, 25, 146, 147, 148, 149, 45, 46, 47, 48, 49, 26, 50, 51, 52, 53, 54, 55, 56, 57, 58, 59, 60, 61, 62, 63, 64, 65, 66, 67, 68, 69, 70, 71, 72, 73, 74, 75, 76, 77, 24, 78, 79, 80, 81, 82, 83, 84, 85, 86, 87, 88, 89, 23, 150, 151, 152, 153, 154, 155, 156, 29, 157, 123, 158, 159, 160, 108, 109, 110, 161, 162, 113, 163, 115, 164, 165, 118, 166, 167, 168, 169, 170, 171, 120, 121, 122, 124, 125, 196, 197, 198, 199] (by decide +kernel) (by decide +kernel)
set_option maxRecDepth 20000 in
theorem gX6_textAt_J4_append_bf812 : GoodIn wsX6_textAt (wsV RX6 230 RJ4 yJ4_append_bf812 wsJ4_append_bf812) := goodIn_app (goodIn_of _ (by decide +kernel)) ggX6_textAt_J4_append_bf812
set_option maxRecDepth 20000 in
theorem ggX6_textAt_X6_signOf : GoodIn wsX6_textAt wsX6_signOf := goodIn_r _ [174] (by decide +kernel) (by decide +kernel)
set_option maxRecDepth 20000 in
theorem gX6_textAt_X6_signOf : GoodIn wsX6_textAt (va_wsS RX6 233 yX6_signOf wsX6_signOf) := goodIn_app (goodIn_of _ (by decide +kernel)) ggX6_textAt_X6_signOf
set_option maxRecDepth 20000 in
theorem ggX6_textAt_J4_length_8abf5 : GoodIn wsX6_textAt wsJ4_length_8abf5 := goodIn_r _ [178, 179, 180, 41, 181, 18, 182, 44, 196, 197, 198, 199] (by decide +kernel) (by decide +kernel)
set_option maxRecDepth 20000 in
theorem gX6_textAt_J4_length_8abf5 : GoodIn wsX6_textAt (wsV RX6 237 RJ4 yJ4_length_8abf5 wsJ4_length_8abf5) := goodIn_app (goodIn_of _ (by decide +kernel)) ggX6_textAt_J4_length_8abf5
set_option maxRecDepth 20000 in
theorem ggX6_textAt_J4_charAt_5068e : GoodIn wsX6_textAt wsJ4_charAt_5068e := goodIn_r _ [186, 187, 188, 41, 189, 18, 190, 26, 25, 44, 191, 79, 62, 80, 192, 133, 113, 134, 115, 135, 136, 118, 137, 193, 194, 29, 195, 123, 124, 125, 108, 109, 110, 196, 197, 198, 199] (by decide +kernel) (by decide +kernel)
set_option maxRecDepth 20000 in
theorem gX6_textAt_J4_charAt_5068e : GoodIn wsX6_textAt (wsV RX6 240 RJ4 yJ4_charAt_5068e wsJ4_charAt_5068e) := goodIn_app (goodIn_of _ (by decide +kernel)) ggX6_textAt_J4_charAt_5068e
theorem dX6_textAt_0 : decode cX6_textAt 0 = .ok (.aload_n 0, 1) := by decide +kernel
theorem dX6_textAt_1 : decode cX6_textAt 1 = .ok (.iload_n 1, 1) := by decide +kernel
theorem dX6_textAt_2 : decode cX6_textAt 2 = .ok (.invokevirtual 155, 3) := by decide +kernel
theorem dX6_textAt_5 : decode cX6_textAt 5 = .ok (.astore_n 3, 1) := by decide +kernel
theorem dX6_textAt_6 : decode cX6_textAt 6 = .ok (.iload_n 2, 1) := by decide +kernel
theorem dX6_textAt_7 : decode cX6_textAt 7 = .ok (.ifCond .ge 13, 3) := by decide +kernel
theorem dX6_textAt_10 : decode cX6_textAt 10 = .ok (.new 59, 3) := by decide +kernel
theorem dX6_textAt_13 : decode cX6_textAt 13 = .ok (.dup, 1) := by decide +kernel
theorem dX6_textAt_14 : decode cX6_textAt 14 = .ok (.ldc 218, 2) := by decide +kernel
theorem dX6_textAt_16 : decode cX6_textAt 16 = .ok (.invokespecial 63, 3) := by decide +kernel
theorem dX6_textAt_19 : decode cX6_textAt 19 = .ok (.athrow, 1) := by decide +kernel
theorem dX6_textAt_20 : decode cX6_textAt 20 = .ok (.new 220, 3) := by decide +kernel
theorem dX6_textAt_23 : decode cX6_textAt 23 = .ok (.dup, 1) := by decide +kernel
theorem dX6_textAt_24 : decode cX6_textAt 24 = .ok (.invokespecial 222, 3) := by decide +kernel
theorem dX6_textAt_27 : decode cX6_textAt 27 = .ok (.astore 4, 2) := by decide +kernel
theorem dX6_textAt_29 : decode cX6_textAt 29 = .ok (.aload 4, 2) := by decide +kernel
theorem dX6_textAt_31 : decode cX6_textAt 31 = .ok (.bipush 97, 2) := by decide +kernel
theorem dX6_textAt_33 : decode cX6_textAt 33 = .ok (.aload_n 3, 1) := by decide +kernel
theorem dX6_textAt_34 : decode cX6_textAt 34 = .ok (.getfield 170, 3) := by decide +kernel
theorem dX6_textAt_37 : decode cX6_textAt 37 = .ok (.getfield 174, 3) := by decide +kernel
theorem dX6_textAt_40 : decode cX6_textAt 40 = .ok (.iadd, 1) := by decide +kernel
theorem dX6_textAt_41 : decode cX6_textAt 41 = .ok (.i2c, 1) := by decide +kernel
theorem dX6_textAt_42 : decode cX6_textAt 42 = .ok (.invokevirtual 223, 3) := by decide +kernel
theorem dX6_textAt_45 : decode cX6_textAt 45 = .ok (.pop, 1) := by decide +kernel
theorem dX6_textAt_46 : decode cX6_textAt 46 = .ok (.aload 4, 2) := by decide +kernel
theorem dX6_textAt_48 : decode cX6_textAt 48 = .ok (.aload_n 3, 1) := by decide +kernel
theorem dX6_textAt_49 : decode cX6_textAt 49 = .ok (.getfield 227, 3) := by decide +kernel
theorem dX6_textAt_52 : decode cX6_textAt 52 = .ok (.invokevirtual 230, 3) := by decide +kernel
theorem dX6_textAt_55 : decode cX6_textAt 55 = .ok (.pop, 1) := by decide +kernel
theorem dX6_textAt_56 : decode cX6_textAt 56 = .ok (.aload 4, 2) := by decide +kernel
theorem dX6_textAt_58 : decode cX6_textAt 58 = .ok (.aload_n 3, 1) := by decide +kernel
theorem dX6_textAt_59 : decode cX6_textAt 59 = .ok (.getfield 124, 3) := by decide +kernel
theorem dX6_textAt_62 : decode cX6_textAt 62 = .ok (.invokestatic 233, 3) := by decide +kernel
theorem dX6_textAt_65 : decode cX6_textAt 65 = .ok (.invokevirtual 223, 3) := by decide +kernel
theorem dX6_textAt_68 : decode cX6_textAt 68 = .ok (.pop, 1) := by decide +kernel
theorem dX6_textAt_69 : decode cX6_textAt 69 = .ok (.iload_n 2, 1) := by decide +kernel
theorem dX6_textAt_70 : decode cX6_textAt 70 = .ok (.aload 4, 2) := by decide +kernel
theorem dX6_textAt_72 : decode cX6_textAt 72 = .ok (.invokevirtual 237, 3) := by decide +kernel
theorem dX6_textAt_75 : decode cX6_textAt 75 = .ok (.if_icmp .ge 12, 3) := by decide +kernel
theorem dX6_textAt_78 : decode cX6_textAt 78 = .ok (.aload 4, 2) := by decide +kernel
theorem dX6_textAt_80 : decode cX6_textAt 80 = .ok (.iload_n 2, 1) := by decide +kernel
theorem dX6_textAt_81 : decode cX6_textAt 81 = .ok (.invokevirtual 240, 3) := by decide +kernel
theorem dX6_textAt_84 : decode cX6_textAt 84 = .ok (.goto 4, 3) := by decide +kernel
theorem dX6_textAt_87 : decode cX6_textAt 87 = .ok (.iconst (-1), 1) := by decide +kernel
theorem dX6_textAt_88 : decode cX6_textAt 88 = .ok (.ireturn, 1) := by decide +kernel
set_option maxRecDepth 20000 in
theorem ggX6_bond_X6_sensorAt : GoodIn wsX6_bond wsX6_sensorAt := goodIn_ca (goodIn_r _ [5, 6, 7, 8, 16, 17, 18, 19, 20, 21, 22, 23] (by decide +kernel) (by decide +kernel)) (goodIn_sub (fun _ h => List.mem_cons_of_mem _ (List.mem_append_right _ h)) (by decide +kernel))
set_option maxRecDepth 20000 in
theorem gX6_bond_X6_sensorAt : GoodIn wsX6_bond (wsV RX6 69 RX6 yX6_sensorAt wsX6_sensorAt) := goodIn_app (goodIn_of _ (by decide +kernel)) ggX6_bond_X6_sensorAt
theorem dX6_bond_0 : decode cX6_bond 0 = .ok (.aload_n 0, 1) := by decide +kernel
theorem dX6_bond_1 : decode cX6_bond 1 = .ok (.iload_n 1, 1) := by decide +kernel
theorem dX6_bond_2 : decode cX6_bond 2 = .ok (.invokevirtual 69, 3) := by decide +kernel
theorem dX6_bond_5 : decode cX6_bond 5 = .ok (.getfield 106, 3) := by decide +kernel
theorem dX6_bond_8 : decode cX6_bond 8 = .ok (.ireturn, 1) := by decide +kernel
set_option maxRecDepth 20000 in
theorem ggX6_bondByCuts_X6_sensorAt : GoodIn wsX6_bondByCuts wsX6_sensorAt := goodIn_ca (goodIn_r _ [7, 8, 9, 10, 18, 19, 20, 21, 22, 23, 24, 25] (by decide +kernel) (by decide +kernel)) (goodIn_sub (fun _ h => List.mem_cons_of_mem _ (List.mem_append_right _ h)) (by decide +kernel))
set_option maxRecDepth 20000 in
theorem gX6_bondByCuts_X6_sensorAt : GoodIn wsX6_bondByCuts (wsV RX6 69 RX6 yX6_sensorAt wsX6_sensorAt) := goodIn_app (goodIn_of _ (by decide +kernel)) ggX6_bondByCuts_X6_sensorAt
theorem dX6_bondByCuts_0 : decode cX6_bondByCuts 0 = .ok (.aload_n 0, 1) := by decide +kernel
theorem dX6_bondByCuts_1 : decode cX6_bondByCuts 1 = .ok (.iload_n 1, 1) := by decide +kernel
theorem dX6_bondByCuts_2 : decode cX6_bondByCuts 2 = .ok (.invokevirtual 69, 3) := by decide +kernel
theorem dX6_bondByCuts_5 : decode cX6_bondByCuts 5 = .ok (.astore_n 2, 1) := by decide +kernel
theorem dX6_bondByCuts_6 : decode cX6_bondByCuts 6 = .ok (.bipush 100, 2) := by decide +kernel
theorem dX6_bondByCuts_8 : decode cX6_bondByCuts 8 = .ok (.aload_n 2, 1) := by decide +kernel
theorem dX6_bondByCuts_9 : decode cX6_bondByCuts 9 = .ok (.getfield 109, 3) := by decide +kernel
theorem dX6_bondByCuts_12 : decode cX6_bondByCuts 12 = .ok (.iadd, 1) := by decide +kernel
theorem dX6_bondByCuts_13 : decode cX6_bondByCuts 13 = .ok (.istore_n 3, 1) := by decide +kernel
theorem dX6_bondByCuts_14 : decode cX6_bondByCuts 14 = .ok (.iconst 0, 1) := by decide +kernel
theorem dX6_bondByCuts_15 : decode cX6_bondByCuts 15 = .ok (.istore 4, 2) := by decide +kernel
theorem dX6_bondByCuts_17 : decode cX6_bondByCuts 17 = .ok (.iload 4, 2) := by decide +kernel
theorem dX6_bondByCuts_19 : decode cX6_bondByCuts 19 = .ok (.aload_n 0, 1) := by decide +kernel
theorem dX6_bondByCuts_20 : decode cX6_bondByCuts 20 = .ok (.getfield 33, 3) := by decide +kernel
theorem dX6_bondByCuts_23 : decode cX6_bondByCuts 23 = .ok (.if_icmp .ge 36, 3) := by decide +kernel
theorem dX6_bondByCuts_26 : decode cX6_bondByCuts 26 = .ok (.aload_n 0, 1) := by decide +kernel
theorem dX6_bondByCuts_27 : decode cX6_bondByCuts 27 = .ok (.getfield 29, 3) := by decide +kernel
theorem dX6_bondByCuts_30 : decode cX6_bondByCuts 30 = .ok (.iload 4, 2) := by decide +kernel
theorem dX6_bondByCuts_32 : decode cX6_bondByCuts 32 = .ok (.aaload, 1) := by decide +kernel
theorem dX6_bondByCuts_33 : decode cX6_bondByCuts 33 = .ok (.getfield 170, 3) := by decide +kernel
theorem dX6_bondByCuts_36 : decode cX6_bondByCuts 36 = .ok (.aload_n 2, 1) := by decide +kernel
theorem dX6_bondByCuts_37 : decode cX6_bondByCuts 37 = .ok (.if_acmp .ne 16, 3) := by decide +kernel
theorem dX6_bondByCuts_40 : decode cX6_bondByCuts 40 = .ok (.iload_n 3, 1) := by decide +kernel
theorem dX6_bondByCuts_41 : decode cX6_bondByCuts 41 = .ok (.aload_n 0, 1) := by decide +kernel
theorem dX6_bondByCuts_42 : decode cX6_bondByCuts 42 = .ok (.getfield 29, 3) := by decide +kernel
theorem dX6_bondByCuts_45 : decode cX6_bondByCuts 45 = .ok (.iload 4, 2) := by decide +kernel
theorem dX6_bondByCuts_47 : decode cX6_bondByCuts 47 = .ok (.aaload, 1) := by decide +kernel
theorem dX6_bondByCuts_48 : decode cX6_bondByCuts 48 = .ok (.getfield 243, 3) := by decide +kernel
theorem dX6_bondByCuts_51 : decode cX6_bondByCuts 51 = .ok (.isub, 1) := by decide +kernel
theorem dX6_bondByCuts_52 : decode cX6_bondByCuts 52 = .ok (.istore_n 3, 1) := by decide +kernel
theorem dX6_bondByCuts_53 : decode cX6_bondByCuts 53 = .ok (.iinc 4 1, 3) := by decide +kernel
theorem dX6_bondByCuts_56 : decode cX6_bondByCuts 56 = .ok (.goto (-39), 3) := by decide +kernel
theorem dX6_bondByCuts_59 : decode cX6_bondByCuts 59 = .ok (.iload_n 3, 1) := by decide +kernel
theorem dX6_bondByCuts_60 : decode cX6_bondByCuts 60 = .ok (.ireturn, 1) := by decide +kernel
set_option maxRecDepth 20000 in
theorem ggX6_earned_X6_sensorAt : GoodIn wsX6_earned wsX6_sensorAt := goodIn_ca (goodIn_r _ [5, 6, 7, 8, 16, 17, 18, 19, 20, 21, 22, 23] (by decide +kernel) (by decide +kernel)) (goodIn_sub (fun _ h => List.mem_cons_of_mem _ (List.mem_append_right _ h)) (by decide +kernel))
set_option maxRecDepth 20000 in
theorem gX6_earned_X6_sensorAt : GoodIn wsX6_earned (wsV RX6 69 RX6 yX6_sensorAt wsX6_sensorAt) := goodIn_app (goodIn_of _ (by decide +kernel)) ggX6_earned_X6_sensorAt
theorem dX6_earned_0 : decode cX6_earned 0 = .ok (.aload_n 0, 1) := by decide +kernel
theorem dX6_earned_1 : decode cX6_earned 1 = .ok (.iload_n 1, 1) := by decide +kernel
theorem dX6_earned_2 : decode cX6_earned 2 = .ok (.invokevirtual 69, 3) := by decide +kernel
theorem dX6_earned_5 : decode cX6_earned 5 = .ok (.getfield 98, 3) := by decide +kernel
theorem dX6_earned_8 : decode cX6_earned 8 = .ok (.ireturn, 1) := by decide +kernel
set_option maxRecDepth 20000 in
theorem ggX6_mark_X6_sensorAt : GoodIn wsX6_mark wsX6_sensorAt := goodIn_ca (goodIn_r _ [7, 8, 9, 10, 14, 15, 16, 17, 18, 19, 20, 21] (by decide +kernel) (by decide +kernel)) (goodIn_sub (fun _ h => List.mem_cons_of_mem _ (List.mem_append_right _ h)) (by decide +kernel))
set_option maxRecDepth 20000 in
theorem gX6_mark_X6_sensorAt : GoodIn wsX6_mark (wsV RX6 69 RX6 yX6_sensorAt wsX6_sensorAt) := goodIn_app (goodIn_of _ (by decide +kernel)) ggX6_mark_X6_sensorAt
set_option maxRecDepth 20000 in
theorem ggX6_mark_X6_weightOf : GoodIn wsX6_mark wsX6_weightOf := goodIn_r _ [13] (by decide +kernel) (by decide +kernel)
set_option maxRecDepth 20000 in
theorem gX6_mark_X6_weightOf : GoodIn wsX6_mark (va_wsS RX6 246 yX6_weightOf wsX6_weightOf) := goodIn_app (goodIn_of _ (by decide +kernel)) ggX6_mark_X6_weightOf
theorem dX6_mark_0 : decode cX6_mark 0 = .ok (.aload_n 0, 1) := by decide +kernel
theorem dX6_mark_1 : decode cX6_mark 1 = .ok (.iload_n 1, 1) := by decide +kernel
theorem dX6_mark_2 : decode cX6_mark 2 = .ok (.invokevirtual 69, 3) := by decide +kernel
theorem dX6_mark_5 : decode cX6_mark 5 = .ok (.astore_n 2, 1) := by decide +kernel
theorem dX6_mark_6 : decode cX6_mark 6 = .ok (.iconst 0, 1) := by decide +kernel
theorem dX6_mark_7 : decode cX6_mark 7 = .ok (.istore_n 3, 1) := by decide +kernel
theorem dX6_mark_8 : decode cX6_mark 8 = .ok (.iconst 0, 1) := by decide +kernel
theorem dX6_mark_9 : decode cX6_mark 9 = .ok (.istore 4, 2) := by decide +kernel
theorem dX6_mark_11 : decode cX6_mark 11 = .ok (.iload 4, 2) := by decide +kernel
theorem dX6_mark_13 : decode cX6_mark 13 = .ok (.aload_n 0, 1) := by decide +kernel
theorem dX6_mark_14 : decode cX6_mark 14 = .ok (.getfield 33, 3) := by decide +kernel
theorem dX6_mark_17 : decode cX6_mark 17 = .ok (.if_icmp .ge 39, 3) := by decide +kernel
theorem dX6_mark_20 : decode cX6_mark 20 = .ok (.aload_n 0, 1) := by decide +kernel
theorem dX6_mark_21 : decode cX6_mark 21 = .ok (.getfield 29, 3) := by decide +kernel
theorem dX6_mark_24 : decode cX6_mark 24 = .ok (.iload 4, 2) := by decide +kernel
theorem dX6_mark_26 : decode cX6_mark 26 = .ok (.aaload, 1) := by decide +kernel
theorem dX6_mark_27 : decode cX6_mark 27 = .ok (.getfield 170, 3) := by decide +kernel
theorem dX6_mark_30 : decode cX6_mark 30 = .ok (.aload_n 2, 1) := by decide +kernel
theorem dX6_mark_31 : decode cX6_mark 31 = .ok (.if_acmp .ne 19, 3) := by decide +kernel
theorem dX6_mark_34 : decode cX6_mark 34 = .ok (.iload_n 3, 1) := by decide +kernel
theorem dX6_mark_35 : decode cX6_mark 35 = .ok (.aload_n 0, 1) := by decide +kernel
theorem dX6_mark_36 : decode cX6_mark 36 = .ok (.getfield 29, 3) := by decide +kernel
theorem dX6_mark_39 : decode cX6_mark 39 = .ok (.iload 4, 2) := by decide +kernel
theorem dX6_mark_41 : decode cX6_mark 41 = .ok (.aaload, 1) := by decide +kernel
theorem dX6_mark_42 : decode cX6_mark 42 = .ok (.getfield 124, 3) := by decide +kernel
theorem dX6_mark_45 : decode cX6_mark 45 = .ok (.invokestatic 246, 3) := by decide +kernel
theorem dX6_mark_48 : decode cX6_mark 48 = .ok (.iadd, 1) := by decide +kernel
theorem dX6_mark_49 : decode cX6_mark 49 = .ok (.istore_n 3, 1) := by decide +kernel
theorem dX6_mark_50 : decode cX6_mark 50 = .ok (.iinc 4 1, 3) := by decide +kernel
theorem dX6_mark_53 : decode cX6_mark 53 = .ok (.goto (-42), 3) := by decide +kernel
theorem dX6_mark_56 : decode cX6_mark 56 = .ok (.iload_n 3, 1) := by decide +kernel
theorem dX6_mark_57 : decode cX6_mark 57 = .ok (.ireturn, 1) := by decide +kernel
set_option maxRecDepth 20000 in
theorem ggX6_purse_X6_buyerAt : GoodIn wsX6_purse wsX6_buyerAt := goodIn_ca (goodIn_r _ [5, 6, 7, 8, 11, 12, 13, 14, 15, 16, 17, 18] (by decide +kernel) (by decide +kernel)) (goodIn_sub (fun _ h => List.mem_cons_of_mem _ (List.mem_append_right _ h)) (by decide +kernel))
set_option maxRecDepth 20000 in
theorem gX6_purse_X6_buyerAt : GoodIn wsX6_purse (wsV RX6 134 RX6 yX6_buyerAt wsX6_buyerAt) := goodIn_app (goodIn_of _ (by decide +kernel)) ggX6_purse_X6_buyerAt
theorem dX6_purse_0 : decode cX6_purse 0 = .ok (.aload_n 0, 1) := by decide +kernel
theorem dX6_purse_1 : decode cX6_purse 1 = .ok (.iload_n 1, 1) := by decide +kernel
theorem dX6_purse_2 : decode cX6_purse 2 = .ok (.invokevirtual 134, 3) := by decide +kernel
theorem dX6_purse_5 : decode cX6_purse 5 = .ok (.getfield 142, 3) := by decide +kernel
theorem dX6_purse_8 : decode cX6_purse 8 = .ok (.ireturn, 1) := by decide +kernel
set_option maxRecDepth 20000 in
theorem ggX6_aside_X6_buyerAt : GoodIn wsX6_aside wsX6_buyerAt := goodIn_ca (goodIn_r _ [5, 6, 7, 8, 26, 27, 28, 29, 30, 31, 32, 33] (by decide +kernel) (by decide +kernel)) (goodIn_sub (fun _ h => List.mem_cons_of_mem _ (List.mem_append_right _ h)) (by decide +kernel))
set_option maxRecDepth 20000 in
theorem gX6_aside_X6_buyerAt : GoodIn wsX6_aside (wsV RX6 134 RX6 yX6_buyerAt wsX6_buyerAt) := goodIn_app (goodIn_of _ (by decide +kernel)) ggX6_aside_X6_buyerAt
set_option maxRecDepth 20000 in
theorem ggX6_aside_X6_sensorAt : GoodIn wsX6_aside wsX6_sensorAt := goodIn_ca (goodIn_r _ [12, 6, 7, 13, 26, 27, 28, 29, 30, 31, 32, 33] (by decide +kernel) (by decide +kernel)) (goodIn_sub (fun _ h => List.mem_cons_of_mem _ (List.mem_append_right _ h)) (by decide +kernel))
set_option maxRecDepth 20000 in
theorem gX6_aside_X6_sensorAt : GoodIn wsX6_aside (wsV RX6 69 RX6 yX6_sensorAt wsX6_sensorAt) := goodIn_app (goodIn_of _ (by decide +kernel)) ggX6_aside_X6_sensorAt
theorem dX6_aside_0 : decode cX6_aside 0 = .ok (.aload_n 0, 1) := by decide +kernel
theorem dX6_aside_1 : decode cX6_aside 1 = .ok (.iload_n 1, 1) := by decide +kernel
theorem dX6_aside_2 : decode cX6_aside 2 = .ok (.invokevirtual 134, 3) := by decide +kernel
theorem dX6_aside_5 : decode cX6_aside 5 = .ok (.astore_n 3, 1) := by decide +kernel
theorem dX6_aside_6 : decode cX6_aside 6 = .ok (.aload_n 0, 1) := by decide +kernel
theorem dX6_aside_7 : decode cX6_aside 7 = .ok (.iload_n 2, 1) := by decide +kernel
theorem dX6_aside_8 : decode cX6_aside 8 = .ok (.invokevirtual 69, 3) := by decide +kernel
theorem dX6_aside_11 : decode cX6_aside 11 = .ok (.astore 4, 2) := by decide +kernel
theorem dX6_aside_13 : decode cX6_aside 13 = .ok (.aload_n 3, 1) := by decide +kernel
theorem dX6_aside_14 : decode cX6_aside 14 = .ok (.getfield 138, 3) := by decide +kernel
theorem dX6_aside_17 : decode cX6_aside 17 = .ok (.aload 4, 2) := by decide +kernel
theorem dX6_aside_19 : decode cX6_aside 19 = .ok (.getfield 174, 3) := by decide +kernel
theorem dX6_aside_22 : decode cX6_aside 22 = .ok (.aaload, 1) := by decide +kernel
theorem dX6_aside_23 : decode cX6_aside 23 = .ok (.astore 5, 2) := by decide +kernel
theorem dX6_aside_25 : decode cX6_aside 25 = .ok (.aload 5, 2) := by decide +kernel
theorem dX6_aside_27 : decode cX6_aside 27 = .ok (.ifnonnull 7, 3) := by decide +kernel
theorem dX6_aside_30 : decode cX6_aside 30 = .ok (.iconst 0, 1) := by decide +kernel
theorem dX6_aside_31 : decode cX6_aside 31 = .ok (.goto 8, 3) := by decide +kernel
theorem dX6_aside_34 : decode cX6_aside 34 = .ok (.aload 5, 2) := by decide +kernel
theorem dX6_aside_36 : decode cX6_aside 36 = .ok (.getfield 249, 3) := by decide +kernel
theorem dX6_aside_39 : decode cX6_aside 39 = .ok (.ireturn, 1) := by decide +kernel
theorem dX6_house_0 : decode cX6_house 0 = .ok (.aload_n 0, 1) := by decide +kernel
theorem dX6_house_1 : decode cX6_house 1 = .ok (.getfield 37, 3) := by decide +kernel
theorem dX6_house_4 : decode cX6_house 4 = .ok (.ireturn, 1) := by decide +kernel
theorem dX6_repeaterAt_0 : decode cX6_repeaterAt 0 = .ok (.iload_n 1, 1) := by decide +kernel
theorem dX6_repeaterAt_1 : decode cX6_repeaterAt 1 = .ok (.ifCond .lt 9, 3) := by decide +kernel
theorem dX6_repeaterAt_4 : decode cX6_repeaterAt 4 = .ok (.iload_n 1, 1) := by decide +kernel
theorem dX6_repeaterAt_5 : decode cX6_repeaterAt 5 = .ok (.bipush 6, 2) := by decide +kernel
theorem dX6_repeaterAt_7 : decode cX6_repeaterAt 7 = .ok (.if_icmp .lt 13, 3) := by decide +kernel
theorem dX6_repeaterAt_10 : decode cX6_repeaterAt 10 = .ok (.new 59, 3) := by decide +kernel
theorem dX6_repeaterAt_13 : decode cX6_repeaterAt 13 = .ok (.dup, 1) := by decide +kernel
theorem dX6_repeaterAt_14 : decode cX6_repeaterAt 14 = .ok (.ldc 252, 2) := by decide +kernel
theorem dX6_repeaterAt_16 : decode cX6_repeaterAt 16 = .ok (.invokespecial 63, 3) := by decide +kernel
theorem dX6_repeaterAt_19 : decode cX6_repeaterAt 19 = .ok (.athrow, 1) := by decide +kernel
theorem dX6_repeaterAt_20 : decode cX6_repeaterAt 20 = .ok (.aload_n 0, 1) := by decide +kernel
theorem dX6_repeaterAt_21 : decode cX6_repeaterAt 21 = .ok (.getfield 11, 3) := by decide +kernel
theorem dX6_repeaterAt_24 : decode cX6_repeaterAt 24 = .ok (.iload_n 1, 1) := by decide +kernel
theorem dX6_repeaterAt_25 : decode cX6_repeaterAt 25 = .ok (.aaload, 1) := by decide +kernel
theorem dX6_repeaterAt_26 : decode cX6_repeaterAt 26 = .ok (.areturn, 1) := by decide +kernel
theorem dX6_sensorAt_0 : decode cX6_sensorAt 0 = .ok (.iload_n 1, 1) := by decide +kernel
theorem dX6_sensorAt_1 : decode cX6_sensorAt 1 = .ok (.ifCond .lt 9, 3) := by decide +kernel
theorem dX6_sensorAt_4 : decode cX6_sensorAt 4 = .ok (.iload_n 1, 1) := by decide +kernel
theorem dX6_sensorAt_5 : decode cX6_sensorAt 5 = .ok (.bipush 12, 2) := by decide +kernel
theorem dX6_sensorAt_7 : decode cX6_sensorAt 7 = .ok (.if_icmp .lt 13, 3) := by decide +kernel
theorem dX6_sensorAt_10 : decode cX6_sensorAt 10 = .ok (.new 59, 3) := by decide +kernel
theorem dX6_sensorAt_13 : decode cX6_sensorAt 13 = .ok (.dup, 1) := by decide +kernel
theorem dX6_sensorAt_14 : decode cX6_sensorAt 14 = .ok (.ldc 254, 2) := by decide +kernel
theorem dX6_sensorAt_16 : decode cX6_sensorAt 16 = .ok (.invokespecial 63, 3) := by decide +kernel
theorem dX6_sensorAt_19 : decode cX6_sensorAt 19 = .ok (.athrow, 1) := by decide +kernel
theorem dX6_sensorAt_20 : decode cX6_sensorAt 20 = .ok (.aload_n 0, 1) := by decide +kernel
theorem dX6_sensorAt_21 : decode cX6_sensorAt 21 = .ok (.getfield 17, 3) := by decide +kernel
theorem dX6_sensorAt_24 : decode cX6_sensorAt 24 = .ok (.iload_n 1, 1) := by decide +kernel
theorem dX6_sensorAt_25 : decode cX6_sensorAt 25 = .ok (.aaload, 1) := by decide +kernel
theorem dX6_sensorAt_26 : decode cX6_sensorAt 26 = .ok (.areturn, 1) := by decide +kernel
theorem dX6_buyerAt_0 : decode cX6_buyerAt 0 = .ok (.iload_n 1, 1) := by decide +kernel
theorem dX6_buyerAt_1 : decode cX6_buyerAt 1 = .ok (.ifCond .lt 9, 3) := by decide +kernel
theorem dX6_buyerAt_4 : decode cX6_buyerAt 4 = .ok (.iload_n 1, 1) := by decide +kernel
theorem dX6_buyerAt_5 : decode cX6_buyerAt 5 = .ok (.bipush 6, 2) := by decide +kernel
theorem dX6_buyerAt_7 : decode cX6_buyerAt 7 = .ok (.if_icmp .lt 14, 3) := by decide +kernel
theorem dX6_buyerAt_10 : decode cX6_buyerAt 10 = .ok (.new 59, 3) := by decide +kernel
theorem dX6_buyerAt_13 : decode cX6_buyerAt 13 = .ok (.dup, 1) := by decide +kernel
theorem dX6_buyerAt_14 : decode cX6_buyerAt 14 = .ok (.ldc_w 256, 3) := by decide +kernel
theorem dX6_buyerAt_17 : decode cX6_buyerAt 17 = .ok (.invokespecial 63, 3) := by decide +kernel
theorem dX6_buyerAt_20 : decode cX6_buyerAt 20 = .ok (.athrow, 1) := by decide +kernel
theorem dX6_buyerAt_21 : decode cX6_buyerAt 21 = .ok (.aload_n 0, 1) := by decide +kernel
theorem dX6_buyerAt_22 : decode cX6_buyerAt 22 = .ok (.getfield 23, 3) := by decide +kernel
theorem dX6_buyerAt_25 : decode cX6_buyerAt 25 = .ok (.iload_n 1, 1) := by decide +kernel
theorem dX6_buyerAt_26 : decode cX6_buyerAt 26 = .ok (.aaload, 1) := by decide +kernel
theorem dX6_buyerAt_27 : decode cX6_buyerAt 27 = .ok (.areturn, 1) := by decide +kernel
theorem dX6_readingAt_0 : decode cX6_readingAt 0 = .ok (.iload_n 1, 1) := by decide +kernel
theorem dX6_readingAt_1 : decode cX6_readingAt 1 = .ok (.ifCond .lt 11, 3) := by decide +kernel
theorem dX6_readingAt_4 : decode cX6_readingAt 4 = .ok (.iload_n 1, 1) := by decide +kernel
theorem dX6_readingAt_5 : decode cX6_readingAt 5 = .ok (.aload_n 0, 1) := by decide +kernel
theorem dX6_readingAt_6 : decode cX6_readingAt 6 = .ok (.getfield 33, 3) := by decide +kernel
theorem dX6_readingAt_9 : decode cX6_readingAt 9 = .ok (.if_icmp .lt 14, 3) := by decide +kernel
theorem dX6_readingAt_12 : decode cX6_readingAt 12 = .ok (.new 59, 3) := by decide +kernel
theorem dX6_readingAt_15 : decode cX6_readingAt 15 = .ok (.dup, 1) := by decide +kernel
theorem dX6_readingAt_16 : decode cX6_readingAt 16 = .ok (.ldc_w 258, 3) := by decide +kernel
theorem dX6_readingAt_19 : decode cX6_readingAt 19 = .ok (.invokespecial 63, 3) := by decide +kernel
theorem dX6_readingAt_22 : decode cX6_readingAt 22 = .ok (.athrow, 1) := by decide +kernel
theorem dX6_readingAt_23 : decode cX6_readingAt 23 = .ok (.aload_n 0, 1) := by decide +kernel
theorem dX6_readingAt_24 : decode cX6_readingAt 24 = .ok (.getfield 29, 3) := by decide +kernel
theorem dX6_readingAt_27 : decode cX6_readingAt 27 = .ok (.iload_n 1, 1) := by decide +kernel
theorem dX6_readingAt_28 : decode cX6_readingAt 28 = .ok (.aaload, 1) := by decide +kernel
theorem dX6_readingAt_29 : decode cX6_readingAt 29 = .ok (.areturn, 1) := by decide +kernel
theorem dX6_checkWithin_0 : decode cX6_checkWithin 0 = .ok (.iload_n 0, 1) := by decide +kernel
theorem dX6_checkWithin_1 : decode cX6_checkWithin 1 = .ok (.iload_n 1, 1) := by decide +kernel
theorem dX6_checkWithin_2 : decode cX6_checkWithin 2 = .ok (.if_icmp .lt 8, 3) := by decide +kernel
theorem dX6_checkWithin_5 : decode cX6_checkWithin 5 = .ok (.iload_n 0, 1) := by decide +kernel
theorem dX6_checkWithin_6 : decode cX6_checkWithin 6 = .ok (.iload_n 2, 1) := by decide +kernel
theorem dX6_checkWithin_7 : decode cX6_checkWithin 7 = .ok (.if_icmp .le 14, 3) := by decide +kernel
theorem dX6_checkWithin_10 : decode cX6_checkWithin 10 = .ok (.new 93, 3) := by decide +kernel
theorem dX6_checkWithin_13 : decode cX6_checkWithin 13 = .ok (.dup, 1) := by decide +kernel
theorem dX6_checkWithin_14 : decode cX6_checkWithin 14 = .ok (.ldc_w 260, 3) := by decide +kernel
theorem dX6_checkWithin_17 : decode cX6_checkWithin 17 = .ok (.invokespecial 97, 3) := by decide +kernel
theorem dX6_checkWithin_20 : decode cX6_checkWithin 20 = .ok (.athrow, 1) := by decide +kernel
theorem dX6_checkWithin_21 : decode cX6_checkWithin 21 = .ok (.return_, 1) := by decide +kernel
set_option maxRecDepth 20000 in
theorem ggX6_sendParts_X6_passesHub : GoodIn wsX6_sendParts wsX6_passesHub := goodIn_r _ [4, 5, 6, 7, 8, 9, 10, 18, 19, 20, 21] (by decide +kernel) (by decide +kernel)
set_option maxRecDepth 20000 in
theorem gX6_sendParts_X6_passesHub : GoodIn wsX6_sendParts (va_wsS RX6 262 yX6_passesHub wsX6_passesHub) := goodIn_app (goodIn_of _ (by decide +kernel)) ggX6_sendParts_X6_passesHub
