theorem dX7_middleOf_0 : decode cX7_middleOf 0 = .ok (.aload_n 0, 1) := by decide +kernel
theorem dX7_middleOf_1 : decode cX7_middleOf 1 = .ok (.iload_n 1, 1) := by decide +kernel
theorem dX7_middleOf_2 : decode cX7_middleOf 2 = .ok (.invokevirtual 128, 3) := by decide +kernel
theorem dX7_middleOf_5 : decode cX7_middleOf 5 = .ok (.istore_n 2, 1) := by decide +kernel
theorem dX7_middleOf_6 : decode cX7_middleOf 6 = .ok (.iconst (-1), 1) := by decide +kernel
theorem dX7_middleOf_7 : decode cX7_middleOf 7 = .ok (.istore_n 3, 1) := by decide +kernel
theorem dX7_middleOf_8 : decode cX7_middleOf 8 = .ok (.iconst 0, 1) := by decide +kernel
theorem dX7_middleOf_9 : decode cX7_middleOf 9 = .ok (.istore 4, 2) := by decide +kernel
theorem dX7_middleOf_11 : decode cX7_middleOf 11 = .ok (.iload 4, 2) := by decide +kernel
theorem dX7_middleOf_13 : decode cX7_middleOf 13 = .ok (.bipush 12, 2) := by decide +kernel
theorem dX7_middleOf_15 : decode cX7_middleOf 15 = .ok (.if_icmp .ge 116, 3) := by decide +kernel
theorem dX7_middleOf_18 : decode cX7_middleOf 18 = .ok (.aload_n 0, 1) := by decide +kernel
theorem dX7_middleOf_19 : decode cX7_middleOf 19 = .ok (.getfield 77, 3) := by decide +kernel
theorem dX7_middleOf_22 : decode cX7_middleOf 22 = .ok (.bipush 12, 2) := by decide +kernel
theorem dX7_middleOf_24 : decode cX7_middleOf 24 = .ok (.iload_n 1, 1) := by decide +kernel
theorem dX7_middleOf_25 : decode cX7_middleOf 25 = .ok (.imul, 1) := by decide +kernel
theorem dX7_middleOf_26 : decode cX7_middleOf 26 = .ok (.iload 4, 2) := by decide +kernel
theorem dX7_middleOf_28 : decode cX7_middleOf 28 = .ok (.iadd, 1) := by decide +kernel
theorem dX7_middleOf_29 : decode cX7_middleOf 29 = .ok (.iaload, 1) := by decide +kernel
theorem dX7_middleOf_30 : decode cX7_middleOf 30 = .ok (.istore 5, 2) := by decide +kernel
theorem dX7_middleOf_32 : decode cX7_middleOf 32 = .ok (.iconst 0, 1) := by decide +kernel
theorem dX7_middleOf_33 : decode cX7_middleOf 33 = .ok (.istore 6, 2) := by decide +kernel
theorem dX7_middleOf_35 : decode cX7_middleOf 35 = .ok (.iconst 0, 1) := by decide +kernel
theorem dX7_middleOf_36 : decode cX7_middleOf 36 = .ok (.istore 7, 2) := by decide +kernel
theorem dX7_middleOf_38 : decode cX7_middleOf 38 = .ok (.iload 7, 2) := by decide +kernel
theorem dX7_middleOf_40 : decode cX7_middleOf 40 = .ok (.bipush 12, 2) := by decide +kernel
theorem dX7_middleOf_42 : decode cX7_middleOf 42 = .ok (.if_icmp .ge 60, 3) := by decide +kernel
theorem dX7_middleOf_45 : decode cX7_middleOf 45 = .ok (.aload_n 0, 1) := by decide +kernel
theorem dX7_middleOf_46 : decode cX7_middleOf 46 = .ok (.getfield 77, 3) := by decide +kernel
theorem dX7_middleOf_49 : decode cX7_middleOf 49 = .ok (.bipush 12, 2) := by decide +kernel
theorem dX7_middleOf_51 : decode cX7_middleOf 51 = .ok (.iload_n 1, 1) := by decide +kernel
theorem dX7_middleOf_52 : decode cX7_middleOf 52 = .ok (.imul, 1) := by decide +kernel
theorem dX7_middleOf_53 : decode cX7_middleOf 53 = .ok (.iload 7, 2) := by decide +kernel
theorem dX7_middleOf_55 : decode cX7_middleOf 55 = .ok (.iadd, 1) := by decide +kernel
theorem dX7_middleOf_56 : decode cX7_middleOf 56 = .ok (.iaload, 1) := by decide +kernel
theorem dX7_middleOf_57 : decode cX7_middleOf 57 = .ok (.istore 8, 2) := by decide +kernel
theorem dX7_middleOf_59 : decode cX7_middleOf 59 = .ok (.iload 6, 2) := by decide +kernel
theorem dX7_middleOf_61 : decode cX7_middleOf 61 = .ok (.iload 8, 2) := by decide +kernel
theorem dX7_middleOf_63 : decode cX7_middleOf 63 = .ok (.iconst (-1), 1) := by decide +kernel
theorem dX7_middleOf_64 : decode cX7_middleOf 64 = .ok (.if_icmp .eq 28, 3) := by decide +kernel
theorem dX7_middleOf_67 : decode cX7_middleOf 67 = .ok (.iload 8, 2) := by decide +kernel
theorem dX7_middleOf_69 : decode cX7_middleOf 69 = .ok (.iload 5, 2) := by decide +kernel
theorem dX7_middleOf_71 : decode cX7_middleOf 71 = .ok (.if_icmp .lt 17, 3) := by decide +kernel
theorem dX7_middleOf_74 : decode cX7_middleOf 74 = .ok (.iload 8, 2) := by decide +kernel
theorem dX7_middleOf_76 : decode cX7_middleOf 76 = .ok (.iload 5, 2) := by decide +kernel
theorem dX7_middleOf_78 : decode cX7_middleOf 78 = .ok (.if_icmp .ne 14, 3) := by decide +kernel
theorem dX7_middleOf_81 : decode cX7_middleOf 81 = .ok (.iload 7, 2) := by decide +kernel
theorem dX7_middleOf_83 : decode cX7_middleOf 83 = .ok (.iload 4, 2) := by decide +kernel
theorem dX7_middleOf_85 : decode cX7_middleOf 85 = .ok (.if_icmp .ge 7, 3) := by decide +kernel
theorem dX7_middleOf_88 : decode cX7_middleOf 88 = .ok (.iconst 1, 1) := by decide +kernel
theorem dX7_middleOf_89 : decode cX7_middleOf 89 = .ok (.goto 4, 3) := by decide +kernel
theorem dX7_middleOf_92 : decode cX7_middleOf 92 = .ok (.iconst 0, 1) := by decide +kernel
theorem dX7_middleOf_93 : decode cX7_middleOf 93 = .ok (.iadd, 1) := by decide +kernel
theorem dX7_middleOf_94 : decode cX7_middleOf 94 = .ok (.istore 6, 2) := by decide +kernel
theorem dX7_middleOf_96 : decode cX7_middleOf 96 = .ok (.iinc 7 1, 3) := by decide +kernel
theorem dX7_middleOf_99 : decode cX7_middleOf 99 = .ok (.goto (-61), 3) := by decide +kernel
theorem dX7_middleOf_102 : decode cX7_middleOf 102 = .ok (.iload 5, 2) := by decide +kernel
theorem dX7_middleOf_104 : decode cX7_middleOf 104 = .ok (.iconst (-1), 1) := by decide +kernel
theorem dX7_middleOf_105 : decode cX7_middleOf 105 = .ok (.if_icmp .eq 18, 3) := by decide +kernel
theorem dX7_middleOf_108 : decode cX7_middleOf 108 = .ok (.iload 6, 2) := by decide +kernel
theorem dX7_middleOf_110 : decode cX7_middleOf 110 = .ok (.iload_n 2, 1) := by decide +kernel
theorem dX7_middleOf_111 : decode cX7_middleOf 111 = .ok (.iconst 1, 1) := by decide +kernel
theorem dX7_middleOf_112 : decode cX7_middleOf 112 = .ok (.isub, 1) := by decide +kernel
theorem dX7_middleOf_113 : decode cX7_middleOf 113 = .ok (.iconst 2, 1) := by decide +kernel
theorem dX7_middleOf_114 : decode cX7_middleOf 114 = .ok (.idiv, 1) := by decide +kernel
theorem dX7_middleOf_115 : decode cX7_middleOf 115 = .ok (.if_icmp .ne 8, 3) := by decide +kernel
theorem dX7_middleOf_118 : decode cX7_middleOf 118 = .ok (.iload 5, 2) := by decide +kernel
theorem dX7_middleOf_120 : decode cX7_middleOf 120 = .ok (.goto 4, 3) := by decide +kernel
theorem dX7_middleOf_123 : decode cX7_middleOf 123 = .ok (.iload_n 3, 1) := by decide +kernel
theorem dX7_middleOf_124 : decode cX7_middleOf 124 = .ok (.istore_n 3, 1) := by decide +kernel
theorem dX7_middleOf_125 : decode cX7_middleOf 125 = .ok (.iinc 4 1, 3) := by decide +kernel
theorem dX7_middleOf_128 : decode cX7_middleOf 128 = .ok (.goto (-117), 3) := by decide +kernel
theorem dX7_middleOf_131 : decode cX7_middleOf 131 = .ok (.iload_n 3, 1) := by decide +kernel
theorem dX7_middleOf_132 : decode cX7_middleOf 132 = .ok (.ireturn, 1) := by decide +kernel
theorem dX7_size_0 : decode cX7_size 0 = .ok (.iconst 0, 1) := by decide +kernel
theorem dX7_size_1 : decode cX7_size 1 = .ok (.istore_n 1, 1) := by decide +kernel
theorem dX7_size_2 : decode cX7_size 2 = .ok (.iconst 0, 1) := by decide +kernel
theorem dX7_size_3 : decode cX7_size 3 = .ok (.istore_n 2, 1) := by decide +kernel
theorem dX7_size_4 : decode cX7_size 4 = .ok (.iload_n 2, 1) := by decide +kernel
theorem dX7_size_5 : decode cX7_size 5 = .ok (.bipush 6, 2) := by decide +kernel
theorem dX7_size_7 : decode cX7_size 7 = .ok (.if_icmp .ge 17, 3) := by decide +kernel
theorem dX7_size_10 : decode cX7_size 10 = .ok (.iload_n 1, 1) := by decide +kernel
theorem dX7_size_11 : decode cX7_size 11 = .ok (.iload_n 0, 1) := by decide +kernel
theorem dX7_size_12 : decode cX7_size 12 = .ok (.iload_n 2, 1) := by decide +kernel
theorem dX7_size_13 : decode cX7_size 13 = .ok (.ishr, 1) := by decide +kernel
theorem dX7_size_14 : decode cX7_size 14 = .ok (.iconst 1, 1) := by decide +kernel
theorem dX7_size_15 : decode cX7_size 15 = .ok (.iand, 1) := by decide +kernel
theorem dX7_size_16 : decode cX7_size 16 = .ok (.iadd, 1) := by decide +kernel
theorem dX7_size_17 : decode cX7_size 17 = .ok (.istore_n 1, 1) := by decide +kernel
theorem dX7_size_18 : decode cX7_size 18 = .ok (.iinc 2 1, 3) := by decide +kernel
theorem dX7_size_21 : decode cX7_size 21 = .ok (.goto (-17), 3) := by decide +kernel
theorem dX7_size_24 : decode cX7_size 24 = .ok (.iload_n 1, 1) := by decide +kernel
theorem dX7_size_25 : decode cX7_size 25 = .ok (.ireturn, 1) := by decide +kernel
theorem dX7_stands_0 : decode cX7_stands 0 = .ok (.aload_n 0, 1) := by decide +kernel
theorem dX7_stands_1 : decode cX7_stands 1 = .ok (.getfield 59, 3) := by decide +kernel
theorem dX7_stands_4 : decode cX7_stands 4 = .ok (.iload_n 1, 1) := by decide +kernel
theorem dX7_stands_5 : decode cX7_stands 5 = .ok (.iconst 2, 1) := by decide +kernel
theorem dX7_stands_6 : decode cX7_stands 6 = .ok (.iastore, 1) := by decide +kernel
theorem dX7_stands_7 : decode cX7_stands 7 = .ok (.iconst 0, 1) := by decide +kernel
theorem dX7_stands_8 : decode cX7_stands 8 = .ok (.istore_n 2, 1) := by decide +kernel
theorem dX7_stands_9 : decode cX7_stands 9 = .ok (.iload_n 2, 1) := by decide +kernel
theorem dX7_stands_10 : decode cX7_stands 10 = .ok (.bipush 6, 2) := by decide +kernel
theorem dX7_stands_12 : decode cX7_stands 12 = .ok (.if_icmp .ge 46, 3) := by decide +kernel
theorem dX7_stands_15 : decode cX7_stands 15 = .ok (.aload_n 0, 1) := by decide +kernel
theorem dX7_stands_16 : decode cX7_stands 16 = .ok (.getfield 28, 3) := by decide +kernel
theorem dX7_stands_19 : decode cX7_stands 19 = .ok (.aload_n 0, 1) := by decide +kernel
theorem dX7_stands_20 : decode cX7_stands 20 = .ok (.getfield 53, 3) := by decide +kernel
theorem dX7_stands_23 : decode cX7_stands 23 = .ok (.iload_n 1, 1) := by decide +kernel
theorem dX7_stands_24 : decode cX7_stands 24 = .ok (.iaload, 1) := by decide +kernel
theorem dX7_stands_25 : decode cX7_stands 25 = .ok (.dup2, 1) := by decide +kernel
theorem dX7_stands_26 : decode cX7_stands 26 = .ok (.iaload, 1) := by decide +kernel
theorem dX7_stands_27 : decode cX7_stands 27 = .ok (.aload_n 0, 1) := by decide +kernel
theorem dX7_stands_28 : decode cX7_stands 28 = .ok (.getfield 71, 3) := by decide +kernel
theorem dX7_stands_31 : decode cX7_stands 31 = .ok (.bipush 6, 2) := by decide +kernel
theorem dX7_stands_33 : decode cX7_stands 33 = .ok (.iload_n 1, 1) := by decide +kernel
theorem dX7_stands_34 : decode cX7_stands 34 = .ok (.imul, 1) := by decide +kernel
theorem dX7_stands_35 : decode cX7_stands 35 = .ok (.iload_n 2, 1) := by decide +kernel
theorem dX7_stands_36 : decode cX7_stands 36 = .ok (.iadd, 1) := by decide +kernel
theorem dX7_stands_37 : decode cX7_stands 37 = .ok (.iaload, 1) := by decide +kernel
theorem dX7_stands_38 : decode cX7_stands 38 = .ok (.iadd, 1) := by decide +kernel
theorem dX7_stands_39 : decode cX7_stands 39 = .ok (.iastore, 1) := by decide +kernel
theorem dX7_stands_40 : decode cX7_stands 40 = .ok (.aload_n 0, 1) := by decide +kernel
theorem dX7_stands_41 : decode cX7_stands 41 = .ok (.getfield 71, 3) := by decide +kernel
theorem dX7_stands_44 : decode cX7_stands 44 = .ok (.bipush 6, 2) := by decide +kernel
theorem dX7_stands_46 : decode cX7_stands 46 = .ok (.iload_n 1, 1) := by decide +kernel
theorem dX7_stands_47 : decode cX7_stands 47 = .ok (.imul, 1) := by decide +kernel
theorem dX7_stands_48 : decode cX7_stands 48 = .ok (.iload_n 2, 1) := by decide +kernel
theorem dX7_stands_49 : decode cX7_stands 49 = .ok (.iadd, 1) := by decide +kernel
theorem dX7_stands_50 : decode cX7_stands 50 = .ok (.iconst 0, 1) := by decide +kernel
theorem dX7_stands_51 : decode cX7_stands 51 = .ok (.iastore, 1) := by decide +kernel
theorem dX7_stands_52 : decode cX7_stands 52 = .ok (.iinc 2 1, 3) := by decide +kernel
theorem dX7_stands_55 : decode cX7_stands 55 = .ok (.goto (-46), 3) := by decide +kernel
theorem dX7_stands_58 : decode cX7_stands 58 = .ok (.return_, 1) := by decide +kernel
set_option maxRecDepth 20000 in
theorem ggX7_lies_X7_size : GoodIn wsX7_lies wsX7_size := goodIn_r _ [13] (by decide +kernel) (by decide +kernel)
set_option maxRecDepth 20000 in
theorem gX7_lies_X7_size : GoodIn wsX7_lies (va_wsS RX7 131 yX7_size wsX7_size) := goodIn_app (goodIn_of _ (by decide +kernel)) ggX7_lies_X7_size
theorem dX7_lies_0 : decode cX7_lies 0 = .ok (.aload_n 0, 1) := by decide +kernel
theorem dX7_lies_1 : decode cX7_lies 1 = .ok (.getfield 53, 3) := by decide +kernel
theorem dX7_lies_4 : decode cX7_lies 4 = .ok (.iload_n 1, 1) := by decide +kernel
theorem dX7_lies_5 : decode cX7_lies 5 = .ok (.iaload, 1) := by decide +kernel
theorem dX7_lies_6 : decode cX7_lies 6 = .ok (.istore_n 2, 1) := by decide +kernel
theorem dX7_lies_7 : decode cX7_lies 7 = .ok (.aload_n 0, 1) := by decide +kernel
theorem dX7_lies_8 : decode cX7_lies 8 = .ok (.getfield 74, 3) := by decide +kernel
theorem dX7_lies_11 : decode cX7_lies 11 = .ok (.iload_n 1, 1) := by decide +kernel
theorem dX7_lies_12 : decode cX7_lies 12 = .ok (.iaload, 1) := by decide +kernel
theorem dX7_lies_13 : decode cX7_lies 13 = .ok (.invokestatic 131, 3) := by decide +kernel
theorem dX7_lies_16 : decode cX7_lies 16 = .ok (.istore_n 3, 1) := by decide +kernel
theorem dX7_lies_17 : decode cX7_lies 17 = .ok (.iconst 4, 1) := by decide +kernel
theorem dX7_lies_18 : decode cX7_lies 18 = .ok (.aload_n 0, 1) := by decide +kernel
theorem dX7_lies_19 : decode cX7_lies 19 = .ok (.getfield 31, 3) := by decide +kernel
theorem dX7_lies_22 : decode cX7_lies 22 = .ok (.iload_n 2, 1) := by decide +kernel
theorem dX7_lies_23 : decode cX7_lies 23 = .ok (.iaload, 1) := by decide +kernel
theorem dX7_lies_24 : decode cX7_lies 24 = .ok (.imul, 1) := by decide +kernel
theorem dX7_lies_25 : decode cX7_lies 25 = .ok (.iload_n 3, 1) := by decide +kernel
theorem dX7_lies_26 : decode cX7_lies 26 = .ok (.iconst 1, 1) := by decide +kernel
theorem dX7_lies_27 : decode cX7_lies 27 = .ok (.iadd, 1) := by decide +kernel
theorem dX7_lies_28 : decode cX7_lies 28 = .ok (.imul, 1) := by decide +kernel
theorem dX7_lies_29 : decode cX7_lies 29 = .ok (.istore 4, 2) := by decide +kernel
theorem dX7_lies_31 : decode cX7_lies 31 = .ok (.iload 4, 2) := by decide +kernel
theorem dX7_lies_33 : decode cX7_lies 33 = .ok (.aload_n 0, 1) := by decide +kernel
theorem dX7_lies_34 : decode cX7_lies 34 = .ok (.getfield 25, 3) := by decide +kernel
theorem dX7_lies_37 : decode cX7_lies 37 = .ok (.iload_n 2, 1) := by decide +kernel
theorem dX7_lies_38 : decode cX7_lies 38 = .ok (.iaload, 1) := by decide +kernel
theorem dX7_lies_39 : decode cX7_lies 39 = .ok (.if_icmp .ge 8, 3) := by decide +kernel
theorem dX7_lies_42 : decode cX7_lies 42 = .ok (.iload 4, 2) := by decide +kernel
theorem dX7_lies_44 : decode cX7_lies 44 = .ok (.goto 9, 3) := by decide +kernel
theorem dX7_lies_47 : decode cX7_lies 47 = .ok (.aload_n 0, 1) := by decide +kernel
theorem dX7_lies_48 : decode cX7_lies 48 = .ok (.getfield 25, 3) := by decide +kernel
theorem dX7_lies_51 : decode cX7_lies 51 = .ok (.iload_n 2, 1) := by decide +kernel
theorem dX7_lies_52 : decode cX7_lies 52 = .ok (.iaload, 1) := by decide +kernel
theorem dX7_lies_53 : decode cX7_lies 53 = .ok (.istore 5, 2) := by decide +kernel
theorem dX7_lies_55 : decode cX7_lies 55 = .ok (.iload 5, 2) := by decide +kernel
theorem dX7_lies_57 : decode cX7_lies 57 = .ok (.iload 5, 2) := by decide +kernel
theorem dX7_lies_59 : decode cX7_lies 59 = .ok (.iconst 4, 1) := by decide +kernel
theorem dX7_lies_60 : decode cX7_lies 60 = .ok (.idiv, 1) := by decide +kernel
theorem dX7_lies_61 : decode cX7_lies 61 = .ok (.isub, 1) := by decide +kernel
theorem dX7_lies_62 : decode cX7_lies 62 = .ok (.istore 6, 2) := by decide +kernel
theorem dX7_lies_64 : decode cX7_lies 64 = .ok (.aload_n 0, 1) := by decide +kernel
theorem dX7_lies_65 : decode cX7_lies 65 = .ok (.getfield 59, 3) := by decide +kernel
theorem dX7_lies_68 : decode cX7_lies 68 = .ok (.iload_n 1, 1) := by decide +kernel
theorem dX7_lies_69 : decode cX7_lies 69 = .ok (.iconst 3, 1) := by decide +kernel
theorem dX7_lies_70 : decode cX7_lies 70 = .ok (.iastore, 1) := by decide +kernel
theorem dX7_lies_71 : decode cX7_lies 71 = .ok (.aload_n 0, 1) := by decide +kernel
theorem dX7_lies_72 : decode cX7_lies 72 = .ok (.getfield 25, 3) := by decide +kernel
theorem dX7_lies_75 : decode cX7_lies 75 = .ok (.iload_n 2, 1) := by decide +kernel
theorem dX7_lies_76 : decode cX7_lies 76 = .ok (.dup2, 1) := by decide +kernel
theorem dX7_lies_77 : decode cX7_lies 77 = .ok (.iaload, 1) := by decide +kernel
theorem dX7_lies_78 : decode cX7_lies 78 = .ok (.iload 5, 2) := by decide +kernel
theorem dX7_lies_80 : decode cX7_lies 80 = .ok (.isub, 1) := by decide +kernel
theorem dX7_lies_81 : decode cX7_lies 81 = .ok (.iastore, 1) := by decide +kernel
theorem dX7_lies_82 : decode cX7_lies 82 = .ok (.aload_n 0, 1) := by decide +kernel
theorem dX7_lies_83 : decode cX7_lies 83 = .ok (.getfield 37, 3) := by decide +kernel
theorem dX7_lies_86 : decode cX7_lies 86 = .ok (.aload_n 0, 1) := by decide +kernel
theorem dX7_lies_87 : decode cX7_lies 87 = .ok (.getfield 68, 3) := by decide +kernel
theorem dX7_lies_90 : decode cX7_lies 90 = .ok (.iload_n 1, 1) := by decide +kernel
theorem dX7_lies_91 : decode cX7_lies 91 = .ok (.iaload, 1) := by decide +kernel
theorem dX7_lies_92 : decode cX7_lies 92 = .ok (.dup2, 1) := by decide +kernel
theorem dX7_lies_93 : decode cX7_lies 93 = .ok (.iaload, 1) := by decide +kernel
theorem dX7_lies_94 : decode cX7_lies 94 = .ok (.iconst 4, 1) := by decide +kernel
theorem dX7_lies_95 : decode cX7_lies 95 = .ok (.iload 5, 2) := by decide +kernel
theorem dX7_lies_97 : decode cX7_lies 97 = .ok (.iconst 4, 1) := by decide +kernel
theorem dX7_lies_98 : decode cX7_lies 98 = .ok (.idiv, 1) := by decide +kernel
theorem dX7_lies_99 : decode cX7_lies 99 = .ok (.iadd, 1) := by decide +kernel
theorem dX7_lies_100 : decode cX7_lies 100 = .ok (.iadd, 1) := by decide +kernel
theorem dX7_lies_101 : decode cX7_lies 101 = .ok (.iastore, 1) := by decide +kernel
theorem dX7_lies_102 : decode cX7_lies 102 = .ok (.iconst 0, 1) := by decide +kernel
theorem dX7_lies_103 : decode cX7_lies 103 = .ok (.istore 7, 2) := by decide +kernel
theorem dX7_lies_105 : decode cX7_lies 105 = .ok (.iload 7, 2) := by decide +kernel
theorem dX7_lies_107 : decode cX7_lies 107 = .ok (.bipush 6, 2) := by decide +kernel
theorem dX7_lies_109 : decode cX7_lies 109 = .ok (.if_icmp .ge 77, 3) := by decide +kernel
theorem dX7_lies_112 : decode cX7_lies 112 = .ok (.aload_n 0, 1) := by decide +kernel
theorem dX7_lies_113 : decode cX7_lies 113 = .ok (.getfield 74, 3) := by decide +kernel
theorem dX7_lies_116 : decode cX7_lies 116 = .ok (.iload_n 1, 1) := by decide +kernel
theorem dX7_lies_117 : decode cX7_lies 117 = .ok (.iaload, 1) := by decide +kernel
theorem dX7_lies_118 : decode cX7_lies 118 = .ok (.iload 7, 2) := by decide +kernel
theorem dX7_lies_120 : decode cX7_lies 120 = .ok (.ishr, 1) := by decide +kernel
theorem dX7_lies_121 : decode cX7_lies 121 = .ok (.iconst 1, 1) := by decide +kernel
theorem dX7_lies_122 : decode cX7_lies 122 = .ok (.iand, 1) := by decide +kernel
theorem dX7_lies_123 : decode cX7_lies 123 = .ok (.iconst 1, 1) := by decide +kernel
theorem dX7_lies_124 : decode cX7_lies 124 = .ok (.if_icmp .ne 56, 3) := by decide +kernel
theorem dX7_lies_127 : decode cX7_lies 127 = .ok (.aload_n 0, 1) := by decide +kernel
theorem dX7_lies_128 : decode cX7_lies 128 = .ok (.getfield 37, 3) := by decide +kernel
theorem dX7_lies_131 : decode cX7_lies 131 = .ok (.iload 7, 2) := by decide +kernel
theorem dX7_lies_133 : decode cX7_lies 133 = .ok (.dup2, 1) := by decide +kernel
theorem dX7_lies_134 : decode cX7_lies 134 = .ok (.iaload, 1) := by decide +kernel
theorem dX7_lies_135 : decode cX7_lies 135 = .ok (.aload_n 0, 1) := by decide +kernel
theorem dX7_lies_136 : decode cX7_lies 136 = .ok (.getfield 71, 3) := by decide +kernel
theorem dX7_lies_139 : decode cX7_lies 139 = .ok (.bipush 6, 2) := by decide +kernel
theorem dX7_lies_141 : decode cX7_lies 141 = .ok (.iload_n 1, 1) := by decide +kernel
theorem dX7_lies_142 : decode cX7_lies 142 = .ok (.imul, 1) := by decide +kernel
theorem dX7_lies_143 : decode cX7_lies 143 = .ok (.iload 7, 2) := by decide +kernel
theorem dX7_lies_145 : decode cX7_lies 145 = .ok (.iadd, 1) := by decide +kernel
theorem dX7_lies_146 : decode cX7_lies 146 = .ok (.iaload, 1) := by decide +kernel
theorem dX7_lies_147 : decode cX7_lies 147 = .ok (.iload 5, 2) := by decide +kernel
theorem dX7_lies_149 : decode cX7_lies 149 = .ok (.iconst 2, 1) := by decide +kernel
theorem dX7_lies_150 : decode cX7_lies 150 = .ok (.idiv, 1) := by decide +kernel
theorem dX7_lies_151 : decode cX7_lies 151 = .ok (.iload_n 3, 1) := by decide +kernel
theorem dX7_lies_152 : decode cX7_lies 152 = .ok (.idiv, 1) := by decide +kernel
theorem dX7_lies_153 : decode cX7_lies 153 = .ok (.iadd, 1) := by decide +kernel
theorem dX7_lies_154 : decode cX7_lies 154 = .ok (.iadd, 1) := by decide +kernel
theorem dX7_lies_155 : decode cX7_lies 155 = .ok (.iastore, 1) := by decide +kernel
theorem dX7_lies_156 : decode cX7_lies 156 = .ok (.aload_n 0, 1) := by decide +kernel
theorem dX7_lies_157 : decode cX7_lies 157 = .ok (.getfield 71, 3) := by decide +kernel
theorem dX7_lies_160 : decode cX7_lies 160 = .ok (.bipush 6, 2) := by decide +kernel
theorem dX7_lies_162 : decode cX7_lies 162 = .ok (.iload_n 1, 1) := by decide +kernel
theorem dX7_lies_163 : decode cX7_lies 163 = .ok (.imul, 1) := by decide +kernel
theorem dX7_lies_164 : decode cX7_lies 164 = .ok (.iload 7, 2) := by decide +kernel
theorem dX7_lies_166 : decode cX7_lies 166 = .ok (.iadd, 1) := by decide +kernel
theorem dX7_lies_167 : decode cX7_lies 167 = .ok (.iconst 0, 1) := by decide +kernel
theorem dX7_lies_168 : decode cX7_lies 168 = .ok (.iastore, 1) := by decide +kernel
theorem dX7_lies_169 : decode cX7_lies 169 = .ok (.iload 6, 2) := by decide +kernel
theorem dX7_lies_171 : decode cX7_lies 171 = .ok (.iload 5, 2) := by decide +kernel
theorem dX7_lies_173 : decode cX7_lies 173 = .ok (.iconst 2, 1) := by decide +kernel
theorem dX7_lies_174 : decode cX7_lies 174 = .ok (.idiv, 1) := by decide +kernel
theorem dX7_lies_175 : decode cX7_lies 175 = .ok (.iload_n 3, 1) := by decide +kernel
theorem dX7_lies_176 : decode cX7_lies 176 = .ok (.idiv, 1) := by decide +kernel
theorem dX7_lies_177 : decode cX7_lies 177 = .ok (.isub, 1) := by decide +kernel
theorem dX7_lies_178 : decode cX7_lies 178 = .ok (.istore 6, 2) := by decide +kernel
theorem dX7_lies_180 : decode cX7_lies 180 = .ok (.iinc 7 1, 3) := by decide +kernel
theorem dX7_lies_183 : decode cX7_lies 183 = .ok (.goto (-78), 3) := by decide +kernel
theorem dX7_lies_186 : decode cX7_lies 186 = .ok (.aload_n 0, 1) := by decide +kernel
theorem dX7_lies_187 : decode cX7_lies 187 = .ok (.dup, 1) := by decide +kernel
theorem dX7_lies_188 : decode cX7_lies 188 = .ok (.getfield 134, 3) := by decide +kernel
theorem dX7_lies_191 : decode cX7_lies 191 = .ok (.iload 6, 2) := by decide +kernel
theorem dX7_lies_193 : decode cX7_lies 193 = .ok (.iadd, 1) := by decide +kernel
theorem dX7_lies_194 : decode cX7_lies 194 = .ok (.putfield 134, 3) := by decide +kernel
theorem dX7_lies_197 : decode cX7_lies 197 = .ok (.return_, 1) := by decide +kernel
set_option maxRecDepth 20000 in
theorem ggX7_judges_X7_middleOf : GoodIn wsX7_judges wsX7_middleOf := goodIn_r _ [8, 9, 10, 11, 12, 7, 13, 36, 37, 38, 39, 40, 41, 42, 43, 44, 45, 46, 47, 48, 49, 50, 51, 52, 53, 54, 55, 56, 57, 58, 59, 60, 61, 62] (by decide +kernel) (by decide +kernel)
set_option maxRecDepth 20000 in
theorem gX7_judges_X7_middleOf : GoodIn wsX7_judges (wsV RX7 137 RX7 yX7_middleOf wsX7_middleOf) := goodIn_app (goodIn_of _ (by decide +kernel)) ggX7_judges_X7_middleOf
set_option maxRecDepth 20000 in
theorem ggX7_judges_X7_apart : GoodIn wsX7_judges wsX7_apart := goodIn_r _ [16] (by decide +kernel) (by decide +kernel)
set_option maxRecDepth 20000 in
theorem gX7_judges_X7_apart : GoodIn wsX7_judges (va_wsS RX7 91 yX7_apart wsX7_apart) := goodIn_app (goodIn_of _ (by decide +kernel)) ggX7_judges_X7_apart
set_option maxRecDepth 20000 in
theorem ggX7_judges_X7_lies : GoodIn wsX7_judges wsX7_lies := goodIn_r _ [20, 3, 21, 22, 23, 24, 25, 26, 27, 28, 29, 30, 7, 31, 36, 37, 38, 39, 40, 41, 42, 43, 44, 45, 46, 47, 48, 49, 50, 51, 52, 53, 54, 55, 56, 57, 58, 59, 60, 61, 62] (by decide +kernel) (by decide +kernel)
set_option maxRecDepth 20000 in
theorem gX7_judges_X7_lies : GoodIn wsX7_judges (wsV RX7 140 RX7 yX7_lies wsX7_lies) := goodIn_app (goodIn_of _ (by decide +kernel)) ggX7_judges_X7_lies
set_option maxRecDepth 20000 in
theorem ggX7_judges_X7_stands : GoodIn wsX7_judges wsX7_stands := goodIn_r _ [35, 24, 2, 3, 27, 36, 37, 38, 39, 40, 41, 42, 43, 44, 45, 46, 47, 48, 49, 50, 51, 52, 53, 54, 55, 56, 57, 58, 59, 60, 61, 62] (by decide +kernel) (by decide +kernel)
set_option maxRecDepth 20000 in
theorem gX7_judges_X7_stands : GoodIn wsX7_judges (wsV RX7 144 RX7 yX7_stands wsX7_stands) := goodIn_app (goodIn_of _ (by decide +kernel)) ggX7_judges_X7_stands
theorem dX7_judges_0 : decode cX7_judges 0 = .ok (.aload_n 0, 1) := by decide +kernel
theorem dX7_judges_1 : decode cX7_judges 1 = .ok (.iload_n 1, 1) := by decide +kernel
theorem dX7_judges_2 : decode cX7_judges 2 = .ok (.invokevirtual 137, 3) := by decide +kernel
theorem dX7_judges_5 : decode cX7_judges 5 = .ok (.istore_n 2, 1) := by decide +kernel
theorem dX7_judges_6 : decode cX7_judges 6 = .ok (.iload_n 2, 1) := by decide +kernel
theorem dX7_judges_7 : decode cX7_judges 7 = .ok (.iconst (-1), 1) := by decide +kernel
theorem dX7_judges_8 : decode cX7_judges 8 = .ok (.if_icmp .eq 25, 3) := by decide +kernel
theorem dX7_judges_11 : decode cX7_judges 11 = .ok (.aload_n 0, 1) := by decide +kernel
theorem dX7_judges_12 : decode cX7_judges 12 = .ok (.getfield 56, 3) := by decide +kernel
theorem dX7_judges_15 : decode cX7_judges 15 = .ok (.iload_n 1, 1) := by decide +kernel
theorem dX7_judges_16 : decode cX7_judges 16 = .ok (.iaload, 1) := by decide +kernel
theorem dX7_judges_17 : decode cX7_judges 17 = .ok (.iload_n 2, 1) := by decide +kernel
theorem dX7_judges_18 : decode cX7_judges 18 = .ok (.invokestatic 91, 3) := by decide +kernel
theorem dX7_judges_21 : decode cX7_judges 21 = .ok (.iconst 5, 1) := by decide +kernel
theorem dX7_judges_22 : decode cX7_judges 22 = .ok (.if_icmp .le 11, 3) := by decide +kernel
theorem dX7_judges_25 : decode cX7_judges 25 = .ok (.aload_n 0, 1) := by decide +kernel
theorem dX7_judges_26 : decode cX7_judges 26 = .ok (.iload_n 1, 1) := by decide +kernel
theorem dX7_judges_27 : decode cX7_judges 27 = .ok (.invokevirtual 140, 3) := by decide +kernel
theorem dX7_judges_30 : decode cX7_judges 30 = .ok (.goto 23, 3) := by decide +kernel
theorem dX7_judges_33 : decode cX7_judges 33 = .ok (.aload_n 0, 1) := by decide +kernel
theorem dX7_judges_34 : decode cX7_judges 34 = .ok (.iload_n 1, 1) := by decide +kernel
theorem dX7_judges_35 : decode cX7_judges 35 = .ok (.invokevirtual 144, 3) := by decide +kernel
theorem dX7_judges_38 : decode cX7_judges 38 = .ok (.aload_n 0, 1) := by decide +kernel
theorem dX7_judges_39 : decode cX7_judges 39 = .ok (.getfield 28, 3) := by decide +kernel
theorem dX7_judges_42 : decode cX7_judges 42 = .ok (.aload_n 0, 1) := by decide +kernel
theorem dX7_judges_43 : decode cX7_judges 43 = .ok (.getfield 53, 3) := by decide +kernel
theorem dX7_judges_46 : decode cX7_judges 46 = .ok (.iload_n 1, 1) := by decide +kernel
theorem dX7_judges_47 : decode cX7_judges 47 = .ok (.iaload, 1) := by decide +kernel
theorem dX7_judges_48 : decode cX7_judges 48 = .ok (.dup2, 1) := by decide +kernel
theorem dX7_judges_49 : decode cX7_judges 49 = .ok (.iaload, 1) := by decide +kernel
theorem dX7_judges_50 : decode cX7_judges 50 = .ok (.iconst 4, 1) := by decide +kernel
theorem dX7_judges_51 : decode cX7_judges 51 = .ok (.iadd, 1) := by decide +kernel
theorem dX7_judges_52 : decode cX7_judges 52 = .ok (.iastore, 1) := by decide +kernel
theorem dX7_judges_53 : decode cX7_judges 53 = .ok (.return_, 1) := by decide +kernel
set_option maxRecDepth 20000 in
theorem ggX7_sample_X7_isSensor : GoodIn wsX7_sample wsX7_isSensor := goodIn_r _ [7, 8, 9, 6, 10] (by decide +kernel) (by decide +kernel)
set_option maxRecDepth 20000 in
theorem gX7_sample_X7_isSensor : GoodIn wsX7_sample (va_wsS RX7 103 yX7_isSensor wsX7_isSensor) := goodIn_app (goodIn_of _ (by decide +kernel)) ggX7_sample_X7_isSensor
set_option maxRecDepth 20000 in
theorem ggX7_sample_X7_isReading : GoodIn wsX7_sample wsX7_isReading := goodIn_r _ [14, 15, 8, 9, 6, 10, 65, 66, 67, 68, 69, 70, 71, 72, 73, 74, 75, 76, 77, 78, 79, 80, 81, 82, 83, 84, 85, 86, 87, 88, 89, 90, 91] (by decide +kernel) (by decide +kernel)
set_option maxRecDepth 20000 in
theorem gX7_sample_X7_isReading : GoodIn wsX7_sample (wsV RX7 121 RX7 yX7_isReading wsX7_isReading) := goodIn_app (goodIn_of _ (by decide +kernel)) ggX7_sample_X7_isReading
set_option maxRecDepth 20000 in
theorem ggX7_sample_X7_areNeighbours : GoodIn wsX7_sample wsX7_areNeighbours := goodIn_r _ [18, 19, 20, 6, 21] (by decide +kernel) (by decide +kernel)
set_option maxRecDepth 20000 in
theorem gX7_sample_X7_areNeighbours : GoodIn wsX7_sample (va_wsS RX7 95 yX7_areNeighbours wsX7_areNeighbours) := goodIn_app (goodIn_of _ (by decide +kernel)) ggX7_sample_X7_areNeighbours
set_option maxRecDepth 20000 in
theorem ggX7_sample_X7_isValue : GoodIn wsX7_sample wsX7_isValue := goodIn_r _ [24, 8, 9, 6, 10] (by decide +kernel) (by decide +kernel)
set_option maxRecDepth 20000 in
theorem gX7_sample_X7_isValue : GoodIn wsX7_sample (va_wsS RX7 112 yX7_isValue wsX7_isValue) := goodIn_app (goodIn_of _ (by decide +kernel)) ggX7_sample_X7_isValue
set_option maxRecDepth 20000 in
theorem ggX7_sample_X7_can : GoodIn wsX7_sample wsX7_can := goodIn_r _ [28, 29, 65, 66, 67, 68, 69, 70, 71, 72, 73, 74, 75, 76, 77, 78, 79, 80, 81, 82, 83, 84, 85, 86, 87, 88, 89, 90, 91] (by decide +kernel) (by decide +kernel)
set_option maxRecDepth 20000 in
theorem gX7_sample_X7_can : GoodIn wsX7_sample (wsV RX7 99 RX7 yX7_can wsX7_can) := goodIn_app (goodIn_of _ (by decide +kernel)) ggX7_sample_X7_can
set_option maxRecDepth 20000 in
theorem ggX7_sample_X7_samplesFor : GoodIn wsX7_sample wsX7_samplesFor := goodIn_r _ [33, 3, 65, 66, 67, 68, 69, 70, 71, 72, 73, 74, 75, 76, 77, 78, 79, 80, 81, 82, 83, 84, 85, 86, 87, 88, 89, 90, 91] (by decide +kernel) (by decide +kernel)
set_option maxRecDepth 20000 in
theorem gX7_sample_X7_samplesFor : GoodIn wsX7_sample (wsV RX7 128 RX7 yX7_samplesFor wsX7_samplesFor) := goodIn_app (goodIn_of _ (by decide +kernel)) ggX7_sample_X7_samplesFor
set_option maxRecDepth 20000 in
theorem ggX7_sample_X7_neighboursOf : GoodIn wsX7_sample wsX7_neighboursOf := goodIn_r _ [36, 16, 17, 6, 18, 19, 20, 21] (by decide +kernel) (by decide +kernel)
set_option maxRecDepth 20000 in
theorem gX7_sample_X7_neighboursOf : GoodIn wsX7_sample (va_wsS RX7 124 yX7_neighboursOf wsX7_neighboursOf) := goodIn_app (goodIn_of _ (by decide +kernel)) ggX7_sample_X7_neighboursOf
set_option maxRecDepth 20000 in
theorem ggX7_sample_X7_judges : GoodIn wsX7_sample wsX7_judges := goodIn_r _ [40, 41, 42, 2, 43, 44, 45, 6, 46, 3, 30, 31, 32, 33, 19, 20, 21, 47, 48, 49, 50, 51, 52, 53, 1, 54, 55, 56, 57, 58, 59, 60, 61, 62, 63, 64, 65, 66, 67, 68, 69, 70, 71, 72, 73, 74, 75, 76, 77, 78, 79, 80, 81, 82, 83, 84, 85, 86, 87, 88, 89, 90, 91] (by decide +kernel) (by decide +kernel)
set_option maxRecDepth 20000 in
theorem gX7_sample_X7_judges : GoodIn wsX7_sample (wsV RX7 147 RX7 yX7_judges wsX7_judges) := goodIn_app (goodIn_of _ (by decide +kernel)) ggX7_sample_X7_judges
theorem dX7_sample_0 : decode cX7_sample 0 = .ok (.iload_n 1, 1) := by decide +kernel
theorem dX7_sample_1 : decode cX7_sample 1 = .ok (.invokestatic 103, 3) := by decide +kernel
theorem dX7_sample_4 : decode cX7_sample 4 = .ok (.ifCond .eq 15, 3) := by decide +kernel
theorem dX7_sample_7 : decode cX7_sample 7 = .ok (.aload_n 0, 1) := by decide +kernel
theorem dX7_sample_8 : decode cX7_sample 8 = .ok (.iload_n 2, 1) := by decide +kernel
theorem dX7_sample_9 : decode cX7_sample 9 = .ok (.invokevirtual 121, 3) := by decide +kernel
theorem dX7_sample_12 : decode cX7_sample 12 = .ok (.ifCond .eq 7, 3) := by decide +kernel
theorem dX7_sample_15 : decode cX7_sample 15 = .ok (.iconst 1, 1) := by decide +kernel
theorem dX7_sample_16 : decode cX7_sample 16 = .ok (.goto 4, 3) := by decide +kernel
theorem dX7_sample_19 : decode cX7_sample 19 = .ok (.iconst 0, 1) := by decide +kernel
theorem dX7_sample_20 : decode cX7_sample 20 = .ok (.istore 4, 2) := by decide +kernel
theorem dX7_sample_22 : decode cX7_sample 22 = .ok (.iload 4, 2) := by decide +kernel
theorem dX7_sample_24 : decode cX7_sample 24 = .ok (.ifCond .eq 45, 3) := by decide +kernel
theorem dX7_sample_27 : decode cX7_sample 27 = .ok (.aload_n 0, 1) := by decide +kernel
theorem dX7_sample_28 : decode cX7_sample 28 = .ok (.getfield 59, 3) := by decide +kernel
theorem dX7_sample_31 : decode cX7_sample 31 = .ok (.iload_n 2, 1) := by decide +kernel
theorem dX7_sample_32 : decode cX7_sample 32 = .ok (.iaload, 1) := by decide +kernel
theorem dX7_sample_33 : decode cX7_sample 33 = .ok (.iconst 1, 1) := by decide +kernel
theorem dX7_sample_34 : decode cX7_sample 34 = .ok (.if_icmp .ne 35, 3) := by decide +kernel
theorem dX7_sample_37 : decode cX7_sample 37 = .ok (.iload_n 1, 1) := by decide +kernel
theorem dX7_sample_38 : decode cX7_sample 38 = .ok (.aload_n 0, 1) := by decide +kernel
theorem dX7_sample_39 : decode cX7_sample 39 = .ok (.getfield 53, 3) := by decide +kernel
theorem dX7_sample_42 : decode cX7_sample 42 = .ok (.iload_n 2, 1) := by decide +kernel
theorem dX7_sample_43 : decode cX7_sample 43 = .ok (.iaload, 1) := by decide +kernel
theorem dX7_sample_44 : decode cX7_sample 44 = .ok (.invokestatic 95, 3) := by decide +kernel
theorem dX7_sample_47 : decode cX7_sample 47 = .ok (.ifCond .eq 22, 3) := by decide +kernel
theorem dX7_sample_50 : decode cX7_sample 50 = .ok (.aload_n 0, 1) := by decide +kernel
theorem dX7_sample_51 : decode cX7_sample 51 = .ok (.getfield 77, 3) := by decide +kernel
theorem dX7_sample_54 : decode cX7_sample 54 = .ok (.bipush 12, 2) := by decide +kernel
theorem dX7_sample_56 : decode cX7_sample 56 = .ok (.iload_n 2, 1) := by decide +kernel
theorem dX7_sample_57 : decode cX7_sample 57 = .ok (.imul, 1) := by decide +kernel
theorem dX7_sample_58 : decode cX7_sample 58 = .ok (.iload_n 1, 1) := by decide +kernel
theorem dX7_sample_59 : decode cX7_sample 59 = .ok (.iadd, 1) := by decide +kernel
theorem dX7_sample_60 : decode cX7_sample 60 = .ok (.iaload, 1) := by decide +kernel
theorem dX7_sample_61 : decode cX7_sample 61 = .ok (.iconst (-1), 1) := by decide +kernel
theorem dX7_sample_62 : decode cX7_sample 62 = .ok (.if_icmp .ne 7, 3) := by decide +kernel
theorem dX7_sample_65 : decode cX7_sample 65 = .ok (.iconst 1, 1) := by decide +kernel
theorem dX7_sample_66 : decode cX7_sample 66 = .ok (.goto 4, 3) := by decide +kernel
theorem dX7_sample_69 : decode cX7_sample 69 = .ok (.iconst 0, 1) := by decide +kernel
theorem dX7_sample_70 : decode cX7_sample 70 = .ok (.istore 5, 2) := by decide +kernel
theorem dX7_sample_72 : decode cX7_sample 72 = .ok (.aload_n 0, 1) := by decide +kernel
theorem dX7_sample_73 : decode cX7_sample 73 = .ok (.iload 4, 2) := by decide +kernel
theorem dX7_sample_75 : decode cX7_sample 75 = .ok (.ifCond .ne 7, 3) := by decide +kernel
theorem dX7_sample_78 : decode cX7_sample 78 = .ok (.iconst 1, 1) := by decide +kernel
theorem dX7_sample_79 : decode cX7_sample 79 = .ok (.goto 24, 3) := by decide +kernel
theorem dX7_sample_82 : decode cX7_sample 82 = .ok (.iload_n 3, 1) := by decide +kernel
theorem dX7_sample_83 : decode cX7_sample 83 = .ok (.invokestatic 112, 3) := by decide +kernel
theorem dX7_sample_86 : decode cX7_sample 86 = .ok (.ifCond .ne 7, 3) := by decide +kernel
theorem dX7_sample_89 : decode cX7_sample 89 = .ok (.iconst 2, 1) := by decide +kernel
theorem dX7_sample_90 : decode cX7_sample 90 = .ok (.goto 13, 3) := by decide +kernel
theorem dX7_sample_93 : decode cX7_sample 93 = .ok (.iload 5, 2) := by decide +kernel
theorem dX7_sample_95 : decode cX7_sample 95 = .ok (.ifCond .eq 7, 3) := by decide +kernel
theorem dX7_sample_98 : decode cX7_sample 98 = .ok (.iconst 0, 1) := by decide +kernel
theorem dX7_sample_99 : decode cX7_sample 99 = .ok (.goto 4, 3) := by decide +kernel
theorem dX7_sample_102 : decode cX7_sample 102 = .ok (.iconst 3, 1) := by decide +kernel
theorem dX7_sample_103 : decode cX7_sample 103 = .ok (.invokevirtual 99, 3) := by decide +kernel
theorem dX7_sample_106 : decode cX7_sample 106 = .ok (.ifCond .ne 5, 3) := by decide +kernel
theorem dX7_sample_109 : decode cX7_sample 109 = .ok (.iconst 0, 1) := by decide +kernel
theorem dX7_sample_110 : decode cX7_sample 110 = .ok (.ireturn, 1) := by decide +kernel
theorem dX7_sample_111 : decode cX7_sample 111 = .ok (.aload_n 0, 1) := by decide +kernel
theorem dX7_sample_112 : decode cX7_sample 112 = .ok (.getfield 77, 3) := by decide +kernel
theorem dX7_sample_115 : decode cX7_sample 115 = .ok (.bipush 12, 2) := by decide +kernel
theorem dX7_sample_117 : decode cX7_sample 117 = .ok (.iload_n 2, 1) := by decide +kernel
theorem dX7_sample_118 : decode cX7_sample 118 = .ok (.imul, 1) := by decide +kernel
theorem dX7_sample_119 : decode cX7_sample 119 = .ok (.iload_n 1, 1) := by decide +kernel
theorem dX7_sample_120 : decode cX7_sample 120 = .ok (.iadd, 1) := by decide +kernel
theorem dX7_sample_121 : decode cX7_sample 121 = .ok (.iload_n 3, 1) := by decide +kernel
theorem dX7_sample_122 : decode cX7_sample 122 = .ok (.iastore, 1) := by decide +kernel
theorem dX7_sample_123 : decode cX7_sample 123 = .ok (.aload_n 0, 1) := by decide +kernel
theorem dX7_sample_124 : decode cX7_sample 124 = .ok (.iload_n 2, 1) := by decide +kernel
theorem dX7_sample_125 : decode cX7_sample 125 = .ok (.invokevirtual 128, 3) := by decide +kernel
theorem dX7_sample_128 : decode cX7_sample 128 = .ok (.aload_n 0, 1) := by decide +kernel
theorem dX7_sample_129 : decode cX7_sample 129 = .ok (.getfield 53, 3) := by decide +kernel
theorem dX7_sample_132 : decode cX7_sample 132 = .ok (.iload_n 2, 1) := by decide +kernel
theorem dX7_sample_133 : decode cX7_sample 133 = .ok (.iaload, 1) := by decide +kernel
theorem dX7_sample_134 : decode cX7_sample 134 = .ok (.invokestatic 124, 3) := by decide +kernel
theorem dX7_sample_137 : decode cX7_sample 137 = .ok (.if_icmp .ne 8, 3) := by decide +kernel
theorem dX7_sample_140 : decode cX7_sample 140 = .ok (.aload_n 0, 1) := by decide +kernel
theorem dX7_sample_141 : decode cX7_sample 141 = .ok (.iload_n 2, 1) := by decide +kernel
theorem dX7_sample_142 : decode cX7_sample 142 = .ok (.invokevirtual 147, 3) := by decide +kernel
theorem dX7_sample_145 : decode cX7_sample 145 = .ok (.aload_n 0, 1) := by decide +kernel
theorem dX7_sample_146 : decode cX7_sample 146 = .ok (.getfield 59, 3) := by decide +kernel
theorem dX7_sample_149 : decode cX7_sample 149 = .ok (.iload_n 2, 1) := by decide +kernel
theorem dX7_sample_150 : decode cX7_sample 150 = .ok (.iaload, 1) := by decide +kernel
theorem dX7_sample_151 : decode cX7_sample 151 = .ok (.ireturn, 1) := by decide +kernel
set_option maxRecDepth 20000 in
theorem ggX7_ends_X7_judges : GoodIn wsX7_ends wsX7_judges := goodIn_r _ [13, 14, 15, 16, 17, 18, 19, 12, 20, 21, 22, 23, 24, 25, 26, 27, 28, 29, 30, 31, 32, 33, 34, 35, 4, 7, 36, 37, 38, 39, 40, 41, 42, 43, 44, 45, 46, 47, 48, 49, 50, 51, 52, 53, 54, 55, 56, 57, 58, 59, 60, 61, 62, 63, 64, 65, 66, 67, 68, 69, 70, 71, 72] (by decide +kernel) (by decide +kernel)
set_option maxRecDepth 20000 in
theorem gX7_ends_X7_judges : GoodIn wsX7_ends (wsV RX7 147 RX7 yX7_judges wsX7_judges) := goodIn_app (goodIn_of _ (by decide +kernel)) ggX7_ends_X7_judges
set_option maxRecDepth 20000 in
theorem ggX7_ends_X7_stands : GoodIn wsX7_ends wsX7_stands := goodIn_r _ [45, 4, 15, 16, 37, 46, 47, 48, 49, 50, 51, 52, 53, 54, 55, 56, 57, 58, 59, 60, 61, 62, 63, 64, 65, 66, 67, 68, 69, 70, 71, 72] (by decide +kernel) (by decide +kernel)
set_option maxRecDepth 20000 in
theorem gX7_ends_X7_stands : GoodIn wsX7_ends (wsV RX7 144 RX7 yX7_stands wsX7_stands) := goodIn_app (goodIn_of _ (by decide +kernel)) ggX7_ends_X7_stands
theorem dX7_ends_0 : decode cX7_ends 0 = .ok (.iconst 0, 1) := by decide +kernel
theorem dX7_ends_1 : decode cX7_ends 1 = .ok (.istore_n 1, 1) := by decide +kernel
theorem dX7_ends_2 : decode cX7_ends 2 = .ok (.iload_n 1, 1) := by decide +kernel
theorem dX7_ends_3 : decode cX7_ends 3 = .ok (.aload_n 0, 1) := by decide +kernel
theorem dX7_ends_4 : decode cX7_ends 4 = .ok (.getfield 88, 3) := by decide +kernel
theorem dX7_ends_7 : decode cX7_ends 7 = .ok (.if_icmp .ge 70, 3) := by decide +kernel
theorem dX7_ends_10 : decode cX7_ends 10 = .ok (.aload_n 0, 1) := by decide +kernel
theorem dX7_ends_11 : decode cX7_ends 11 = .ok (.getfield 109, 3) := by decide +kernel
theorem dX7_ends_14 : decode cX7_ends 14 = .ok (.aload_n 0, 1) := by decide +kernel
theorem dX7_ends_15 : decode cX7_ends 15 = .ok (.getfield 65, 3) := by decide +kernel
theorem dX7_ends_18 : decode cX7_ends 18 = .ok (.iload_n 1, 1) := by decide +kernel
theorem dX7_ends_19 : decode cX7_ends 19 = .ok (.iaload, 1) := by decide +kernel
theorem dX7_ends_20 : decode cX7_ends 20 = .ok (.isub, 1) := by decide +kernel
theorem dX7_ends_21 : decode cX7_ends 21 = .ok (.iconst 4, 1) := by decide +kernel
theorem dX7_ends_22 : decode cX7_ends 22 = .ok (.if_icmp .ne 7, 3) := by decide +kernel
theorem dX7_ends_25 : decode cX7_ends 25 = .ok (.iconst 1, 1) := by decide +kernel
theorem dX7_ends_26 : decode cX7_ends 26 = .ok (.goto 4, 3) := by decide +kernel
theorem dX7_ends_29 : decode cX7_ends 29 = .ok (.iconst 0, 1) := by decide +kernel
theorem dX7_ends_30 : decode cX7_ends 30 = .ok (.istore_n 2, 1) := by decide +kernel
theorem dX7_ends_31 : decode cX7_ends 31 = .ok (.iload_n 2, 1) := by decide +kernel
theorem dX7_ends_32 : decode cX7_ends 32 = .ok (.ifCond .eq 21, 3) := by decide +kernel
theorem dX7_ends_35 : decode cX7_ends 35 = .ok (.aload_n 0, 1) := by decide +kernel
theorem dX7_ends_36 : decode cX7_ends 36 = .ok (.getfield 59, 3) := by decide +kernel
theorem dX7_ends_39 : decode cX7_ends 39 = .ok (.iload_n 1, 1) := by decide +kernel
theorem dX7_ends_40 : decode cX7_ends 40 = .ok (.iaload, 1) := by decide +kernel
theorem dX7_ends_41 : decode cX7_ends 41 = .ok (.iconst 1, 1) := by decide +kernel
theorem dX7_ends_42 : decode cX7_ends 42 = .ok (.if_icmp .ne 11, 3) := by decide +kernel
theorem dX7_ends_45 : decode cX7_ends 45 = .ok (.aload_n 0, 1) := by decide +kernel
theorem dX7_ends_46 : decode cX7_ends 46 = .ok (.iload_n 1, 1) := by decide +kernel
theorem dX7_ends_47 : decode cX7_ends 47 = .ok (.invokevirtual 147, 3) := by decide +kernel
theorem dX7_ends_50 : decode cX7_ends 50 = .ok (.goto 21, 3) := by decide +kernel
theorem dX7_ends_53 : decode cX7_ends 53 = .ok (.iload_n 2, 1) := by decide +kernel
theorem dX7_ends_54 : decode cX7_ends 54 = .ok (.ifCond .eq 17, 3) := by decide +kernel
theorem dX7_ends_57 : decode cX7_ends 57 = .ok (.aload_n 0, 1) := by decide +kernel
theorem dX7_ends_58 : decode cX7_ends 58 = .ok (.getfield 59, 3) := by decide +kernel
theorem dX7_ends_61 : decode cX7_ends 61 = .ok (.iload_n 1, 1) := by decide +kernel
theorem dX7_ends_62 : decode cX7_ends 62 = .ok (.iaload, 1) := by decide +kernel
theorem dX7_ends_63 : decode cX7_ends 63 = .ok (.ifCond .ne 8, 3) := by decide +kernel
theorem dX7_ends_66 : decode cX7_ends 66 = .ok (.aload_n 0, 1) := by decide +kernel
theorem dX7_ends_67 : decode cX7_ends 67 = .ok (.iload_n 1, 1) := by decide +kernel
theorem dX7_ends_68 : decode cX7_ends 68 = .ok (.invokevirtual 144, 3) := by decide +kernel
theorem dX7_ends_71 : decode cX7_ends 71 = .ok (.iinc 1 1, 3) := by decide +kernel
theorem dX7_ends_74 : decode cX7_ends 74 = .ok (.goto (-72), 3) := by decide +kernel
theorem dX7_ends_77 : decode cX7_ends 77 = .ok (.iconst 0, 1) := by decide +kernel
theorem dX7_ends_78 : decode cX7_ends 78 = .ok (.istore_n 1, 1) := by decide +kernel
theorem dX7_ends_79 : decode cX7_ends 79 = .ok (.iload_n 1, 1) := by decide +kernel
theorem dX7_ends_80 : decode cX7_ends 80 = .ok (.bipush 72, 2) := by decide +kernel
theorem dX7_ends_82 : decode cX7_ends 82 = .ok (.if_icmp .ge 63, 3) := by decide +kernel
theorem dX7_ends_85 : decode cX7_ends 85 = .ok (.aload_n 0, 1) := by decide +kernel
theorem dX7_ends_86 : decode cX7_ends 86 = .ok (.getfield 40, 3) := by decide +kernel
theorem dX7_ends_89 : decode cX7_ends 89 = .ok (.iload_n 1, 1) := by decide +kernel
theorem dX7_ends_90 : decode cX7_ends 90 = .ok (.baload, 1) := by decide +kernel
theorem dX7_ends_91 : decode cX7_ends 91 = .ok (.ifCond .eq 48, 3) := by decide +kernel
theorem dX7_ends_94 : decode cX7_ends 94 = .ok (.aload_n 0, 1) := by decide +kernel
theorem dX7_ends_95 : decode cX7_ends 95 = .ok (.getfield 44, 3) := by decide +kernel
theorem dX7_ends_98 : decode cX7_ends 98 = .ok (.iload_n 1, 1) := by decide +kernel
theorem dX7_ends_99 : decode cX7_ends 99 = .ok (.iaload, 1) := by decide +kernel
theorem dX7_ends_100 : decode cX7_ends 100 = .ok (.aload_n 0, 1) := by decide +kernel
theorem dX7_ends_101 : decode cX7_ends 101 = .ok (.getfield 109, 3) := by decide +kernel
theorem dX7_ends_104 : decode cX7_ends 104 = .ok (.if_icmp .ne 35, 3) := by decide +kernel
theorem dX7_ends_107 : decode cX7_ends 107 = .ok (.aload_n 0, 1) := by decide +kernel
theorem dX7_ends_108 : decode cX7_ends 108 = .ok (.getfield 40, 3) := by decide +kernel
theorem dX7_ends_111 : decode cX7_ends 111 = .ok (.iload_n 1, 1) := by decide +kernel
theorem dX7_ends_112 : decode cX7_ends 112 = .ok (.iconst 0, 1) := by decide +kernel
theorem dX7_ends_113 : decode cX7_ends 113 = .ok (.bastore, 1) := by decide +kernel
theorem dX7_ends_114 : decode cX7_ends 114 = .ok (.aload_n 0, 1) := by decide +kernel
theorem dX7_ends_115 : decode cX7_ends 115 = .ok (.getfield 37, 3) := by decide +kernel
theorem dX7_ends_118 : decode cX7_ends 118 = .ok (.iload_n 1, 1) := by decide +kernel
theorem dX7_ends_119 : decode cX7_ends 119 = .ok (.bipush 12, 2) := by decide +kernel
theorem dX7_ends_121 : decode cX7_ends 121 = .ok (.idiv, 1) := by decide +kernel
theorem dX7_ends_122 : decode cX7_ends 122 = .ok (.dup2, 1) := by decide +kernel
theorem dX7_ends_123 : decode cX7_ends 123 = .ok (.iaload, 1) := by decide +kernel
theorem dX7_ends_124 : decode cX7_ends 124 = .ok (.aload_n 0, 1) := by decide +kernel
theorem dX7_ends_125 : decode cX7_ends 125 = .ok (.getfield 50, 3) := by decide +kernel
theorem dX7_ends_128 : decode cX7_ends 128 = .ok (.iload_n 1, 1) := by decide +kernel
theorem dX7_ends_129 : decode cX7_ends 129 = .ok (.iaload, 1) := by decide +kernel
theorem dX7_ends_130 : decode cX7_ends 130 = .ok (.iadd, 1) := by decide +kernel
theorem dX7_ends_131 : decode cX7_ends 131 = .ok (.iastore, 1) := by decide +kernel
theorem dX7_ends_132 : decode cX7_ends 132 = .ok (.aload_n 0, 1) := by decide +kernel
theorem dX7_ends_133 : decode cX7_ends 133 = .ok (.getfield 50, 3) := by decide +kernel
theorem dX7_ends_136 : decode cX7_ends 136 = .ok (.iload_n 1, 1) := by decide +kernel
theorem dX7_ends_137 : decode cX7_ends 137 = .ok (.iconst 0, 1) := by decide +kernel
theorem dX7_ends_138 : decode cX7_ends 138 = .ok (.iastore, 1) := by decide +kernel
theorem dX7_ends_139 : decode cX7_ends 139 = .ok (.iinc 1 1, 3) := by decide +kernel
theorem dX7_ends_142 : decode cX7_ends 142 = .ok (.goto (-63), 3) := by decide +kernel
theorem dX7_ends_145 : decode cX7_ends 145 = .ok (.aload_n 0, 1) := by decide +kernel
theorem dX7_ends_146 : decode cX7_ends 146 = .ok (.dup, 1) := by decide +kernel
theorem dX7_ends_147 : decode cX7_ends 147 = .ok (.getfield 109, 3) := by decide +kernel
theorem dX7_ends_150 : decode cX7_ends 150 = .ok (.iconst 1, 1) := by decide +kernel
theorem dX7_ends_151 : decode cX7_ends 151 = .ok (.iadd, 1) := by decide +kernel
theorem dX7_ends_152 : decode cX7_ends 152 = .ok (.putfield 109, 3) := by decide +kernel
theorem dX7_ends_155 : decode cX7_ends 155 = .ok (.return_, 1) := by decide +kernel
set_option maxRecDepth 20000 in
theorem ggX7_advance_X7_isIn : GoodIn wsX7_advance wsX7_isIn := goodIn_r _ [5] (by decide +kernel) (by decide +kernel)
set_option maxRecDepth 20000 in
theorem gX7_advance_X7_isIn : GoodIn wsX7_advance (va_wsS RX7 84 yX7_isIn wsX7_isIn) := goodIn_app (goodIn_of _ (by decide +kernel)) ggX7_advance_X7_isIn
set_option maxRecDepth 20000 in
theorem ggX7_advance_X7_can : GoodIn wsX7_advance wsX7_can := goodIn_r _ [9, 10, 58, 59, 60, 61, 62, 63, 64, 65, 66, 67, 68, 69, 70, 71, 72, 73, 74, 75, 76, 77, 78, 79, 80, 81, 82, 83, 84] (by decide +kernel) (by decide +kernel)
set_option maxRecDepth 20000 in
theorem gX7_advance_X7_can : GoodIn wsX7_advance (wsV RX7 99 RX7 yX7_can wsX7_can) := goodIn_app (goodIn_of _ (by decide +kernel)) ggX7_advance_X7_can
set_option maxRecDepth 20000 in
theorem ggX7_advance_X7_ends : GoodIn wsX7_advance wsX7_ends := goodIn_r _ [14, 15, 1, 16, 17, 18, 19, 20, 21, 22, 23, 24, 4, 25, 26, 27, 28, 29, 30, 31, 32, 33, 34, 35, 36, 37, 38, 39, 40, 41, 42, 43, 44, 45, 46, 47, 48, 49, 50, 51, 52, 53, 54, 55, 56, 57, 58, 59, 60, 61, 62, 63, 64, 65, 66, 67, 68, 69, 70, 71, 72, 73, 74, 75, 76, 77, 78, 79, 80, 81, 82, 83, 84] (by decide +kernel) (by decide +kernel)
set_option maxRecDepth 20000 in
theorem gX7_advance_X7_ends : GoodIn wsX7_advance (wsV RX7 150 RX7 yX7_ends wsX7_ends) := goodIn_app (goodIn_of _ (by decide +kernel)) ggX7_advance_X7_ends
theorem dX7_advance_0 : decode cX7_advance 0 = .ok (.aload_n 0, 1) := by decide +kernel
theorem dX7_advance_1 : decode cX7_advance 1 = .ok (.iload_n 1, 1) := by decide +kernel
theorem dX7_advance_2 : decode cX7_advance 2 = .ok (.iconst 1, 1) := by decide +kernel
theorem dX7_advance_3 : decode cX7_advance 3 = .ok (.bipush 100, 2) := by decide +kernel
theorem dX7_advance_5 : decode cX7_advance 5 = .ok (.invokestatic 84, 3) := by decide +kernel
theorem dX7_advance_8 : decode cX7_advance 8 = .ok (.ifCond .ne 7, 3) := by decide +kernel
theorem dX7_advance_11 : decode cX7_advance 11 = .ok (.iconst 1, 1) := by decide +kernel
theorem dX7_advance_12 : decode cX7_advance 12 = .ok (.goto 20, 3) := by decide +kernel
theorem dX7_advance_15 : decode cX7_advance 15 = .ok (.aload_n 0, 1) := by decide +kernel
theorem dX7_advance_16 : decode cX7_advance 16 = .ok (.getfield 109, 3) := by decide +kernel
theorem dX7_advance_19 : decode cX7_advance 19 = .ok (.iload_n 1, 1) := by decide +kernel
theorem dX7_advance_20 : decode cX7_advance 20 = .ok (.iadd, 1) := by decide +kernel
theorem dX7_advance_21 : decode cX7_advance 21 = .ok (.sipush 10000, 3) := by decide +kernel
theorem dX7_advance_24 : decode cX7_advance 24 = .ok (.if_icmp .le 7, 3) := by decide +kernel
theorem dX7_advance_27 : decode cX7_advance 27 = .ok (.iconst 2, 1) := by decide +kernel
theorem dX7_advance_28 : decode cX7_advance 28 = .ok (.goto 4, 3) := by decide +kernel
theorem dX7_advance_31 : decode cX7_advance 31 = .ok (.iconst 0, 1) := by decide +kernel
theorem dX7_advance_32 : decode cX7_advance 32 = .ok (.invokevirtual 99, 3) := by decide +kernel
theorem dX7_advance_35 : decode cX7_advance 35 = .ok (.ifCond .ne 5, 3) := by decide +kernel
theorem dX7_advance_38 : decode cX7_advance 38 = .ok (.iconst 0, 1) := by decide +kernel
theorem dX7_advance_39 : decode cX7_advance 39 = .ok (.ireturn, 1) := by decide +kernel
theorem dX7_advance_40 : decode cX7_advance 40 = .ok (.iconst 0, 1) := by decide +kernel
theorem dX7_advance_41 : decode cX7_advance 41 = .ok (.istore_n 2, 1) := by decide +kernel
theorem dX7_advance_42 : decode cX7_advance 42 = .ok (.iload_n 2, 1) := by decide +kernel
theorem dX7_advance_43 : decode cX7_advance 43 = .ok (.iload_n 1, 1) := by decide +kernel
theorem dX7_advance_44 : decode cX7_advance 44 = .ok (.if_icmp .ge 13, 3) := by decide +kernel
theorem dX7_advance_47 : decode cX7_advance 47 = .ok (.aload_n 0, 1) := by decide +kernel
theorem dX7_advance_48 : decode cX7_advance 48 = .ok (.invokevirtual 150, 3) := by decide +kernel
theorem dX7_advance_51 : decode cX7_advance 51 = .ok (.iinc 2 1, 3) := by decide +kernel
theorem dX7_advance_54 : decode cX7_advance 54 = .ok (.goto (-12), 3) := by decide +kernel
theorem dX7_advance_57 : decode cX7_advance 57 = .ok (.aload_n 0, 1) := by decide +kernel
theorem dX7_advance_58 : decode cX7_advance 58 = .ok (.getfield 109, 3) := by decide +kernel
theorem dX7_advance_61 : decode cX7_advance 61 = .ok (.ireturn, 1) := by decide +kernel
theorem dX7_tick_0 : decode cX7_tick 0 = .ok (.aload_n 0, 1) := by decide +kernel
theorem dX7_tick_1 : decode cX7_tick 1 = .ok (.iconst 0, 1) := by decide +kernel
theorem dX7_tick_2 : decode cX7_tick 2 = .ok (.putfield 80, 3) := by decide +kernel
theorem dX7_tick_5 : decode cX7_tick 5 = .ok (.aload_n 0, 1) := by decide +kernel
theorem dX7_tick_6 : decode cX7_tick 6 = .ok (.getfield 109, 3) := by decide +kernel
theorem dX7_tick_9 : decode cX7_tick 9 = .ok (.ireturn, 1) := by decide +kernel
theorem dX7_readings_0 : decode cX7_readings 0 = .ok (.aload_n 0, 1) := by decide +kernel
theorem dX7_readings_1 : decode cX7_readings 1 = .ok (.iconst 0, 1) := by decide +kernel
theorem dX7_readings_2 : decode cX7_readings 2 = .ok (.putfield 80, 3) := by decide +kernel
theorem dX7_readings_5 : decode cX7_readings 5 = .ok (.aload_n 0, 1) := by decide +kernel
theorem dX7_readings_6 : decode cX7_readings 6 = .ok (.getfield 88, 3) := by decide +kernel
theorem dX7_readings_9 : decode cX7_readings 9 = .ok (.ireturn, 1) := by decide +kernel
set_option maxRecDepth 20000 in
theorem ggX7_isAsked_X7_isReading : GoodIn wsX7_isAsked wsX7_isReading := goodIn_r _ [5, 6, 7, 8, 4, 9, 15, 16, 17, 18, 19, 20, 21, 22, 23, 24, 25, 26, 27, 28, 29, 30, 31, 32, 33, 34, 35, 36, 37, 38, 39, 40, 41] (by decide +kernel) (by decide +kernel)
set_option maxRecDepth 20000 in
theorem gX7_isAsked_X7_isReading : GoodIn wsX7_isAsked (wsV RX7 121 RX7 yX7_isReading wsX7_isReading) := goodIn_app (goodIn_of _ (by decide +kernel)) ggX7_isAsked_X7_isReading
set_option maxRecDepth 20000 in
theorem ggX7_isAsked_X7_can : GoodIn wsX7_isAsked wsX7_can := goodIn_r _ [13, 14, 15, 16, 17, 18, 19, 20, 21, 22, 23, 24, 25, 26, 27, 28, 29, 30, 31, 32, 33, 34, 35, 36, 37, 38, 39, 40, 41] (by decide +kernel) (by decide +kernel)
set_option maxRecDepth 20000 in
theorem gX7_isAsked_X7_can : GoodIn wsX7_isAsked (wsV RX7 99 RX7 yX7_can wsX7_can) := goodIn_app (goodIn_of _ (by decide +kernel)) ggX7_isAsked_X7_can
theorem dX7_isAsked_0 : decode cX7_isAsked 0 = .ok (.aload_n 0, 1) := by decide +kernel
theorem dX7_isAsked_1 : decode cX7_isAsked 1 = .ok (.aload_n 0, 1) := by decide +kernel
theorem dX7_isAsked_2 : decode cX7_isAsked 2 = .ok (.iload_n 1, 1) := by decide +kernel
theorem dX7_isAsked_3 : decode cX7_isAsked 3 = .ok (.invokevirtual 121, 3) := by decide +kernel
theorem dX7_isAsked_6 : decode cX7_isAsked 6 = .ok (.ifCond .eq 7, 3) := by decide +kernel
theorem dX7_isAsked_9 : decode cX7_isAsked 9 = .ok (.iconst 0, 1) := by decide +kernel
theorem dX7_isAsked_10 : decode cX7_isAsked 10 = .ok (.goto 4, 3) := by decide +kernel
theorem dX7_isAsked_13 : decode cX7_isAsked 13 = .ok (.iconst 1, 1) := by decide +kernel
theorem dX7_isAsked_14 : decode cX7_isAsked 14 = .ok (.invokevirtual 99, 3) := by decide +kernel
theorem dX7_isAsked_17 : decode cX7_isAsked 17 = .ok (.ireturn, 1) := by decide +kernel
set_option maxRecDepth 20000 in
theorem ggX7_stateOf_X7_isAsked : GoodIn wsX7_stateOf wsX7_isAsked := goodIn_r _ [6, 7, 8, 9, 5, 10, 11, 12, 13, 14, 15, 16, 17, 18, 19, 20, 21, 22, 23, 24, 25, 26, 27, 28, 29, 30, 31, 32, 33, 34, 35, 36, 37, 38, 39, 40, 41, 42, 43, 44, 45, 46] (by decide +kernel) (by decide +kernel)
set_option maxRecDepth 20000 in
theorem gX7_stateOf_X7_isAsked : GoodIn wsX7_stateOf (wsV RX7 153 RX7 yX7_isAsked wsX7_isAsked) := goodIn_app (goodIn_of _ (by decide +kernel)) ggX7_stateOf_X7_isAsked
theorem dX7_stateOf_0 : decode cX7_stateOf 0 = .ok (.aload_n 0, 1) := by decide +kernel
theorem dX7_stateOf_1 : decode cX7_stateOf 1 = .ok (.iload_n 1, 1) := by decide +kernel
theorem dX7_stateOf_2 : decode cX7_stateOf 2 = .ok (.invokevirtual 153, 3) := by decide +kernel
theorem dX7_stateOf_5 : decode cX7_stateOf 5 = .ok (.ifCond .eq 12, 3) := by decide +kernel
theorem dX7_stateOf_8 : decode cX7_stateOf 8 = .ok (.aload_n 0, 1) := by decide +kernel
theorem dX7_stateOf_9 : decode cX7_stateOf 9 = .ok (.getfield 59, 3) := by decide +kernel
theorem dX7_stateOf_12 : decode cX7_stateOf 12 = .ok (.iload_n 1, 1) := by decide +kernel
theorem dX7_stateOf_13 : decode cX7_stateOf 13 = .ok (.iaload, 1) := by decide +kernel
theorem dX7_stateOf_14 : decode cX7_stateOf 14 = .ok (.goto 4, 3) := by decide +kernel
theorem dX7_stateOf_17 : decode cX7_stateOf 17 = .ok (.iconst 0, 1) := by decide +kernel
theorem dX7_stateOf_18 : decode cX7_stateOf 18 = .ok (.ireturn, 1) := by decide +kernel
set_option maxRecDepth 20000 in
theorem ggX7_parts_X7_isAsked : GoodIn wsX7_parts wsX7_isAsked := goodIn_r _ [6, 7, 8, 9, 5, 10, 11, 12, 13, 14, 15, 16, 17, 18, 19, 20, 21, 22, 23, 24, 25, 26, 27, 28, 29, 30, 31, 32, 33, 34, 35, 36, 37, 38, 39, 40, 41, 42, 43, 44, 45, 46] (by decide +kernel) (by decide +kernel)
set_option maxRecDepth 20000 in
theorem gX7_parts_X7_isAsked : GoodIn wsX7_parts (wsV RX7 153 RX7 yX7_isAsked wsX7_isAsked) := goodIn_app (goodIn_of _ (by decide +kernel)) ggX7_parts_X7_isAsked
theorem dX7_parts_0 : decode cX7_parts 0 = .ok (.aload_n 0, 1) := by decide +kernel
theorem dX7_parts_1 : decode cX7_parts 1 = .ok (.iload_n 1, 1) := by decide +kernel
theorem dX7_parts_2 : decode cX7_parts 2 = .ok (.invokevirtual 153, 3) := by decide +kernel
theorem dX7_parts_5 : decode cX7_parts 5 = .ok (.ifCond .eq 12, 3) := by decide +kernel
theorem dX7_parts_8 : decode cX7_parts 8 = .ok (.aload_n 0, 1) := by decide +kernel
theorem dX7_parts_9 : decode cX7_parts 9 = .ok (.getfield 62, 3) := by decide +kernel
theorem dX7_parts_12 : decode cX7_parts 12 = .ok (.iload_n 1, 1) := by decide +kernel
theorem dX7_parts_13 : decode cX7_parts 13 = .ok (.iaload, 1) := by decide +kernel
theorem dX7_parts_14 : decode cX7_parts 14 = .ok (.goto 4, 3) := by decide +kernel
theorem dX7_parts_17 : decode cX7_parts 17 = .ok (.iconst 0, 1) := by decide +kernel
theorem dX7_parts_18 : decode cX7_parts 18 = .ok (.ireturn, 1) := by decide +kernel
set_option maxRecDepth 20000 in
theorem ggX7_users_X7_isAsked : GoodIn wsX7_users wsX7_isAsked := goodIn_r _ [6, 7, 8, 9, 5, 10, 11, 12, 13, 14, 15, 16, 17, 18, 19, 23, 24, 25, 26, 27, 28, 29, 30, 31, 32, 33, 34, 35, 36, 37, 38, 39, 40, 41, 42, 43, 44, 45, 46, 47, 48, 49] (by decide +kernel) (by decide +kernel)
set_option maxRecDepth 20000 in
theorem gX7_users_X7_isAsked : GoodIn wsX7_users (wsV RX7 153 RX7 yX7_isAsked wsX7_isAsked) := goodIn_app (goodIn_of _ (by decide +kernel)) ggX7_users_X7_isAsked
set_option maxRecDepth 20000 in
theorem ggX7_users_X7_size : GoodIn wsX7_users wsX7_size := goodIn_r _ [22] (by decide +kernel) (by decide +kernel)
set_option maxRecDepth 20000 in
theorem gX7_users_X7_size : GoodIn wsX7_users (va_wsS RX7 131 yX7_size wsX7_size) := goodIn_app (goodIn_of _ (by decide +kernel)) ggX7_users_X7_size
theorem dX7_users_0 : decode cX7_users 0 = .ok (.aload_n 0, 1) := by decide +kernel
theorem dX7_users_1 : decode cX7_users 1 = .ok (.iload_n 1, 1) := by decide +kernel
theorem dX7_users_2 : decode cX7_users 2 = .ok (.invokevirtual 153, 3) := by decide +kernel
theorem dX7_users_5 : decode cX7_users 5 = .ok (.ifCond .eq 15, 3) := by decide +kernel
theorem dX7_users_8 : decode cX7_users 8 = .ok (.aload_n 0, 1) := by decide +kernel
theorem dX7_users_9 : decode cX7_users 9 = .ok (.getfield 74, 3) := by decide +kernel
theorem dX7_users_12 : decode cX7_users 12 = .ok (.iload_n 1, 1) := by decide +kernel
theorem dX7_users_13 : decode cX7_users 13 = .ok (.iaload, 1) := by decide +kernel
theorem dX7_users_14 : decode cX7_users 14 = .ok (.invokestatic 131, 3) := by decide +kernel
theorem dX7_users_17 : decode cX7_users 17 = .ok (.goto 4, 3) := by decide +kernel
theorem dX7_users_20 : decode cX7_users 20 = .ok (.iconst 0, 1) := by decide +kernel
theorem dX7_users_21 : decode cX7_users 21 = .ok (.ireturn, 1) := by decide +kernel
set_option maxRecDepth 20000 in
theorem ggX7_held_X7_isReading : GoodIn wsX7_held wsX7_isReading := goodIn_r _ [6, 7, 8, 9, 5, 10, 20, 21, 22, 23, 24, 25, 26, 27, 28, 29, 30, 31, 32, 33, 34, 35, 36, 37, 38, 39, 40, 41, 42, 43, 44, 45, 46] (by decide +kernel) (by decide +kernel)
set_option maxRecDepth 20000 in
theorem gX7_held_X7_isReading : GoodIn wsX7_held (wsV RX7 121 RX7 yX7_isReading wsX7_isReading) := goodIn_app (goodIn_of _ (by decide +kernel)) ggX7_held_X7_isReading
set_option maxRecDepth 20000 in
theorem ggX7_held_X7_isAsked : GoodIn wsX7_held wsX7_isAsked := goodIn_r _ [14, 2, 3, 4, 5, 6, 7, 8, 9, 10, 15, 16, 17, 18, 19, 20, 21, 22, 23, 24, 25, 26, 27, 28, 29, 30, 31, 32, 33, 34, 35, 36, 37, 38, 39, 40, 41, 42, 43, 44, 45, 46] (by decide +kernel) (by decide +kernel)
set_option maxRecDepth 20000 in
theorem gX7_held_X7_isAsked : GoodIn wsX7_held (wsV RX7 153 RX7 yX7_isAsked wsX7_isAsked) := goodIn_app (goodIn_of _ (by decide +kernel)) ggX7_held_X7_isAsked
theorem dX7_held_0 : decode cX7_held 0 = .ok (.iconst 0, 1) := by decide +kernel
theorem dX7_held_1 : decode cX7_held 1 = .ok (.istore_n 2, 1) := by decide +kernel
theorem dX7_held_2 : decode cX7_held 2 = .ok (.iconst 0, 1) := by decide +kernel
theorem dX7_held_3 : decode cX7_held 3 = .ok (.istore_n 3, 1) := by decide +kernel
theorem dX7_held_4 : decode cX7_held 4 = .ok (.iload_n 3, 1) := by decide +kernel
theorem dX7_held_5 : decode cX7_held 5 = .ok (.bipush 6, 2) := by decide +kernel
theorem dX7_held_7 : decode cX7_held 7 = .ok (.if_icmp .ge 31, 3) := by decide +kernel
theorem dX7_held_10 : decode cX7_held 10 = .ok (.aload_n 0, 1) := by decide +kernel
theorem dX7_held_11 : decode cX7_held 11 = .ok (.iload_n 1, 1) := by decide +kernel
theorem dX7_held_12 : decode cX7_held 12 = .ok (.invokevirtual 121, 3) := by decide +kernel
theorem dX7_held_15 : decode cX7_held 15 = .ok (.ifCond .eq 23, 3) := by decide +kernel
theorem dX7_held_18 : decode cX7_held 18 = .ok (.iload_n 2, 1) := by decide +kernel
theorem dX7_held_19 : decode cX7_held 19 = .ok (.aload_n 0, 1) := by decide +kernel
theorem dX7_held_20 : decode cX7_held 20 = .ok (.getfield 71, 3) := by decide +kernel
theorem dX7_held_23 : decode cX7_held 23 = .ok (.bipush 6, 2) := by decide +kernel
theorem dX7_held_25 : decode cX7_held 25 = .ok (.iload_n 1, 1) := by decide +kernel
theorem dX7_held_26 : decode cX7_held 26 = .ok (.imul, 1) := by decide +kernel
theorem dX7_held_27 : decode cX7_held 27 = .ok (.iload_n 3, 1) := by decide +kernel
theorem dX7_held_28 : decode cX7_held 28 = .ok (.iadd, 1) := by decide +kernel
theorem dX7_held_29 : decode cX7_held 29 = .ok (.iaload, 1) := by decide +kernel
theorem dX7_held_30 : decode cX7_held 30 = .ok (.iadd, 1) := by decide +kernel
theorem dX7_held_31 : decode cX7_held 31 = .ok (.istore_n 2, 1) := by decide +kernel
theorem dX7_held_32 : decode cX7_held 32 = .ok (.iinc 3 1, 3) := by decide +kernel
theorem dX7_held_35 : decode cX7_held 35 = .ok (.goto (-31), 3) := by decide +kernel
theorem dX7_held_38 : decode cX7_held 38 = .ok (.aload_n 0, 1) := by decide +kernel
theorem dX7_held_39 : decode cX7_held 39 = .ok (.iload_n 1, 1) := by decide +kernel
theorem dX7_held_40 : decode cX7_held 40 = .ok (.invokevirtual 153, 3) := by decide +kernel
theorem dX7_held_43 : decode cX7_held 43 = .ok (.ifCond .eq 7, 3) := by decide +kernel
theorem dX7_held_46 : decode cX7_held 46 = .ok (.iload_n 2, 1) := by decide +kernel
theorem dX7_held_47 : decode cX7_held 47 = .ok (.goto 4, 3) := by decide +kernel
theorem dX7_held_50 : decode cX7_held 50 = .ok (.iconst 0, 1) := by decide +kernel
theorem dX7_held_51 : decode cX7_held 51 = .ok (.ireturn, 1) := by decide +kernel
set_option maxRecDepth 20000 in
theorem ggX7_middle_X7_isAsked : GoodIn wsX7_middle wsX7_isAsked := goodIn_r _ [5, 6, 7, 8, 4, 9, 10, 11, 12, 13, 14, 15, 16, 17, 18, 28, 29, 30, 31, 32, 33, 34, 35, 36, 37, 38, 39, 40, 41, 42, 43, 44, 45, 46, 47, 48, 49, 50, 51, 52, 53, 54] (by decide +kernel) (by decide +kernel)
set_option maxRecDepth 20000 in
theorem gX7_middle_X7_isAsked : GoodIn wsX7_middle (wsV RX7 153 RX7 yX7_isAsked wsX7_isAsked) := goodIn_app (goodIn_of _ (by decide +kernel)) ggX7_middle_X7_isAsked
set_option maxRecDepth 20000 in
theorem ggX7_middle_X7_middleOf : GoodIn wsX7_middle wsX7_middleOf := goodIn_r _ [22, 23, 24, 25, 26, 4, 27, 28, 29, 30, 31, 32, 33, 34, 35, 36, 37, 38, 39, 40, 41, 42, 43, 44, 45, 46, 47, 48, 49, 50, 51, 52, 53, 54] (by decide +kernel) (by decide +kernel)
set_option maxRecDepth 20000 in
theorem gX7_middle_X7_middleOf : GoodIn wsX7_middle (wsV RX7 137 RX7 yX7_middleOf wsX7_middleOf) := goodIn_app (goodIn_of _ (by decide +kernel)) ggX7_middle_X7_middleOf
theorem dX7_middle_0 : decode cX7_middle 0 = .ok (.aload_n 0, 1) := by decide +kernel
theorem dX7_middle_1 : decode cX7_middle 1 = .ok (.iload_n 1, 1) := by decide +kernel
theorem dX7_middle_2 : decode cX7_middle 2 = .ok (.invokevirtual 153, 3) := by decide +kernel
theorem dX7_middle_5 : decode cX7_middle 5 = .ok (.ifCond .eq 11, 3) := by decide +kernel
theorem dX7_middle_8 : decode cX7_middle 8 = .ok (.aload_n 0, 1) := by decide +kernel
theorem dX7_middle_9 : decode cX7_middle 9 = .ok (.iload_n 1, 1) := by decide +kernel
theorem dX7_middle_10 : decode cX7_middle 10 = .ok (.invokevirtual 137, 3) := by decide +kernel
theorem dX7_middle_13 : decode cX7_middle 13 = .ok (.goto 4, 3) := by decide +kernel
theorem dX7_middle_16 : decode cX7_middle 16 = .ok (.iconst 0, 1) := by decide +kernel
theorem dX7_middle_17 : decode cX7_middle 17 = .ok (.ireturn, 1) := by decide +kernel
theorem dX7_signOf_0 : decode cX7_signOf 0 = .ok (.iload_n 0, 1) := by decide +kernel
theorem dX7_signOf_1 : decode cX7_signOf 1 = .ok (.ifCond .ne 8, 3) := by decide +kernel
theorem dX7_signOf_4 : decode cX7_signOf 4 = .ok (.bipush 46, 2) := by decide +kernel
theorem dX7_signOf_6 : decode cX7_signOf 6 = .ok (.goto 35, 3) := by decide +kernel
theorem dX7_signOf_9 : decode cX7_signOf 9 = .ok (.iload_n 0, 1) := by decide +kernel
theorem dX7_signOf_10 : decode cX7_signOf 10 = .ok (.iconst 1, 1) := by decide +kernel
theorem dX7_signOf_11 : decode cX7_signOf 11 = .ok (.if_icmp .ne 8, 3) := by decide +kernel
theorem dX7_signOf_14 : decode cX7_signOf 14 = .ok (.bipush 63, 2) := by decide +kernel
theorem dX7_signOf_16 : decode cX7_signOf 16 = .ok (.goto 25, 3) := by decide +kernel
theorem dX7_signOf_19 : decode cX7_signOf 19 = .ok (.iload_n 0, 1) := by decide +kernel
theorem dX7_signOf_20 : decode cX7_signOf 20 = .ok (.iconst 2, 1) := by decide +kernel
theorem dX7_signOf_21 : decode cX7_signOf 21 = .ok (.if_icmp .ne 8, 3) := by decide +kernel
theorem dX7_signOf_24 : decode cX7_signOf 24 = .ok (.bipush 43, 2) := by decide +kernel
theorem dX7_signOf_26 : decode cX7_signOf 26 = .ok (.goto 15, 3) := by decide +kernel
theorem dX7_signOf_29 : decode cX7_signOf 29 = .ok (.iload_n 0, 1) := by decide +kernel
theorem dX7_signOf_30 : decode cX7_signOf 30 = .ok (.iconst 3, 1) := by decide +kernel
theorem dX7_signOf_31 : decode cX7_signOf 31 = .ok (.if_icmp .ne 8, 3) := by decide +kernel
theorem dX7_signOf_34 : decode cX7_signOf 34 = .ok (.bipush 45, 2) := by decide +kernel
theorem dX7_signOf_36 : decode cX7_signOf 36 = .ok (.goto 5, 3) := by decide +kernel
theorem dX7_signOf_39 : decode cX7_signOf 39 = .ok (.bipush 120, 2) := by decide +kernel
theorem dX7_signOf_41 : decode cX7_signOf 41 = .ok (.ireturn, 1) := by decide +kernel
set_option maxRecDepth 20000 in
theorem ggX7_textAt_X7_isReading : GoodIn wsX7_textAt wsX7_isReading := goodIn_r _ [8, 9, 10, 11, 7, 12, 21, 22, 23, 24, 25, 26, 27, 28, 29, 30, 31, 32, 33, 34, 35, 36, 37, 38, 39, 40, 41, 42, 43, 44, 45, 46, 47] (by decide +kernel) (by decide +kernel)
set_option maxRecDepth 20000 in
theorem gX7_textAt_X7_isReading : GoodIn wsX7_textAt (wsV RX7 121 RX7 yX7_isReading wsX7_isReading) := goodIn_app (goodIn_of _ (by decide +kernel)) ggX7_textAt_X7_isReading
set_option maxRecDepth 20000 in
theorem ggX7_textAt_X7_can : GoodIn wsX7_textAt wsX7_can := goodIn_r _ [16, 17, 21, 22, 23, 24, 25, 26, 27, 28, 29, 30, 31, 32, 33, 34, 35, 36, 37, 38, 39, 40, 41, 42, 43, 44, 45, 46, 47] (by decide +kernel) (by decide +kernel)
set_option maxRecDepth 20000 in
theorem gX7_textAt_X7_can : GoodIn wsX7_textAt (wsV RX7 99 RX7 yX7_can wsX7_can) := goodIn_app (goodIn_of _ (by decide +kernel)) ggX7_textAt_X7_can
set_option maxRecDepth 20000 in
theorem ggX7_textAt_X7_signOf : GoodIn wsX7_textAt wsX7_signOf := goodIn_r _ [20] (by decide +kernel) (by decide +kernel)
set_option maxRecDepth 20000 in
theorem gX7_textAt_X7_signOf : GoodIn wsX7_textAt (va_wsS RX7 156 yX7_signOf wsX7_signOf) := goodIn_app (goodIn_of _ (by decide +kernel)) ggX7_textAt_X7_signOf
theorem dX7_textAt_0 : decode cX7_textAt 0 = .ok (.aload_n 0, 1) := by decide +kernel
theorem dX7_textAt_1 : decode cX7_textAt 1 = .ok (.aload_n 0, 1) := by decide +kernel
theorem dX7_textAt_2 : decode cX7_textAt 2 = .ok (.iload_n 1, 1) := by decide +kernel
theorem dX7_textAt_3 : decode cX7_textAt 3 = .ok (.invokevirtual 121, 3) := by decide +kernel
theorem dX7_textAt_6 : decode cX7_textAt 6 = .ok (.ifCond .eq 11, 3) := by decide +kernel
theorem dX7_textAt_9 : decode cX7_textAt 9 = .ok (.iload_n 2, 1) := by decide +kernel
theorem dX7_textAt_10 : decode cX7_textAt 10 = .ok (.ifCond .lt 7, 3) := by decide +kernel
theorem dX7_textAt_13 : decode cX7_textAt 13 = .ok (.iconst 0, 1) := by decide +kernel
theorem dX7_textAt_14 : decode cX7_textAt 14 = .ok (.goto 4, 3) := by decide +kernel
theorem dX7_textAt_17 : decode cX7_textAt 17 = .ok (.iconst 1, 1) := by decide +kernel
theorem dX7_textAt_18 : decode cX7_textAt 18 = .ok (.invokevirtual 99, 3) := by decide +kernel
theorem dX7_textAt_21 : decode cX7_textAt 21 = .ok (.ifCond .ne 5, 3) := by decide +kernel
theorem dX7_textAt_24 : decode cX7_textAt 24 = .ok (.iconst 0, 1) := by decide +kernel
theorem dX7_textAt_25 : decode cX7_textAt 25 = .ok (.ireturn, 1) := by decide +kernel
theorem dX7_textAt_26 : decode cX7_textAt 26 = .ok (.aload_n 0, 1) := by decide +kernel
theorem dX7_textAt_27 : decode cX7_textAt 27 = .ok (.getfield 56, 3) := by decide +kernel
theorem dX7_textAt_30 : decode cX7_textAt 30 = .ok (.iload_n 1, 1) := by decide +kernel
theorem dX7_textAt_31 : decode cX7_textAt 31 = .ok (.iaload, 1) := by decide +kernel
theorem dX7_textAt_32 : decode cX7_textAt 32 = .ok (.istore_n 3, 1) := by decide +kernel
theorem dX7_textAt_33 : decode cX7_textAt 33 = .ok (.iload_n 3, 1) := by decide +kernel
theorem dX7_textAt_34 : decode cX7_textAt 34 = .ok (.bipush 10, 2) := by decide +kernel
theorem dX7_textAt_36 : decode cX7_textAt 36 = .ok (.if_icmp .ge 7, 3) := by decide +kernel
theorem dX7_textAt_39 : decode cX7_textAt 39 = .ok (.iconst 1, 1) := by decide +kernel
theorem dX7_textAt_40 : decode cX7_textAt 40 = .ok (.goto 4, 3) := by decide +kernel
theorem dX7_textAt_43 : decode cX7_textAt 43 = .ok (.iconst 2, 1) := by decide +kernel
theorem dX7_textAt_44 : decode cX7_textAt 44 = .ok (.istore 4, 2) := by decide +kernel
theorem dX7_textAt_46 : decode cX7_textAt 46 = .ok (.iload_n 2, 1) := by decide +kernel
theorem dX7_textAt_47 : decode cX7_textAt 47 = .ok (.ifCond .ne 13, 3) := by decide +kernel
theorem dX7_textAt_50 : decode cX7_textAt 50 = .ok (.bipush 97, 2) := by decide +kernel
theorem dX7_textAt_52 : decode cX7_textAt 52 = .ok (.aload_n 0, 1) := by decide +kernel
theorem dX7_textAt_53 : decode cX7_textAt 53 = .ok (.getfield 53, 3) := by decide +kernel
theorem dX7_textAt_56 : decode cX7_textAt 56 = .ok (.iload_n 1, 1) := by decide +kernel
theorem dX7_textAt_57 : decode cX7_textAt 57 = .ok (.iaload, 1) := by decide +kernel
theorem dX7_textAt_58 : decode cX7_textAt 58 = .ok (.iadd, 1) := by decide +kernel
theorem dX7_textAt_59 : decode cX7_textAt 59 = .ok (.ireturn, 1) := by decide +kernel
theorem dX7_textAt_60 : decode cX7_textAt 60 = .ok (.iload_n 2, 1) := by decide +kernel
theorem dX7_textAt_61 : decode cX7_textAt 61 = .ok (.iload 4, 2) := by decide +kernel
theorem dX7_textAt_63 : decode cX7_textAt 63 = .ok (.if_icmp .gt 24, 3) := by decide +kernel
theorem dX7_textAt_66 : decode cX7_textAt 66 = .ok (.bipush 48, 2) := by decide +kernel
theorem dX7_textAt_68 : decode cX7_textAt 68 = .ok (.iload_n 2, 1) := by decide +kernel
theorem dX7_textAt_69 : decode cX7_textAt 69 = .ok (.iload 4, 2) := by decide +kernel
theorem dX7_textAt_71 : decode cX7_textAt 71 = .ok (.if_icmp .ne 10, 3) := by decide +kernel
theorem dX7_textAt_74 : decode cX7_textAt 74 = .ok (.iload_n 3, 1) := by decide +kernel
theorem dX7_textAt_75 : decode cX7_textAt 75 = .ok (.bipush 10, 2) := by decide +kernel
theorem dX7_textAt_77 : decode cX7_textAt 77 = .ok (.irem, 1) := by decide +kernel
theorem dX7_textAt_78 : decode cX7_textAt 78 = .ok (.goto 7, 3) := by decide +kernel
theorem dX7_textAt_81 : decode cX7_textAt 81 = .ok (.iload_n 3, 1) := by decide +kernel
theorem dX7_textAt_82 : decode cX7_textAt 82 = .ok (.bipush 10, 2) := by decide +kernel
theorem dX7_textAt_84 : decode cX7_textAt 84 = .ok (.idiv, 1) := by decide +kernel
theorem dX7_textAt_85 : decode cX7_textAt 85 = .ok (.iadd, 1) := by decide +kernel
theorem dX7_textAt_86 : decode cX7_textAt 86 = .ok (.ireturn, 1) := by decide +kernel
theorem dX7_textAt_87 : decode cX7_textAt 87 = .ok (.iload_n 2, 1) := by decide +kernel
theorem dX7_textAt_88 : decode cX7_textAt 88 = .ok (.iload 4, 2) := by decide +kernel
theorem dX7_textAt_90 : decode cX7_textAt 90 = .ok (.iconst 1, 1) := by decide +kernel
theorem dX7_textAt_91 : decode cX7_textAt 91 = .ok (.iadd, 1) := by decide +kernel
theorem dX7_textAt_92 : decode cX7_textAt 92 = .ok (.if_icmp .ne 15, 3) := by decide +kernel
theorem dX7_textAt_95 : decode cX7_textAt 95 = .ok (.aload_n 0, 1) := by decide +kernel
theorem dX7_textAt_96 : decode cX7_textAt 96 = .ok (.getfield 59, 3) := by decide +kernel
theorem dX7_textAt_99 : decode cX7_textAt 99 = .ok (.iload_n 1, 1) := by decide +kernel
theorem dX7_textAt_100 : decode cX7_textAt 100 = .ok (.iaload, 1) := by decide +kernel
theorem dX7_textAt_101 : decode cX7_textAt 101 = .ok (.invokestatic 156, 3) := by decide +kernel
theorem dX7_textAt_104 : decode cX7_textAt 104 = .ok (.goto 4, 3) := by decide +kernel
theorem dX7_textAt_107 : decode cX7_textAt 107 = .ok (.iconst (-1), 1) := by decide +kernel
theorem dX7_textAt_108 : decode cX7_textAt 108 = .ok (.ireturn, 1) := by decide +kernel
set_option maxRecDepth 20000 in
theorem ggX7_bond_X7_isSensor : GoodIn wsX7_bond wsX7_isSensor := goodIn_r _ [5, 6, 7, 4, 8] (by decide +kernel) (by decide +kernel)
set_option maxRecDepth 20000 in
theorem gX7_bond_X7_isSensor : GoodIn wsX7_bond (va_wsS RX7 103 yX7_isSensor wsX7_isSensor) := goodIn_app (goodIn_of _ (by decide +kernel)) ggX7_bond_X7_isSensor
set_option maxRecDepth 20000 in
theorem ggX7_bond_X7_can : GoodIn wsX7_bond wsX7_can := goodIn_r _ [12, 13, 14, 15, 16, 17, 18, 19, 20, 21, 22, 23, 24, 25, 26, 27, 28, 29, 30, 31, 32, 33, 34, 35, 36, 37, 38, 39, 40] (by decide +kernel) (by decide +kernel)
set_option maxRecDepth 20000 in
theorem gX7_bond_X7_can : GoodIn wsX7_bond (wsV RX7 99 RX7 yX7_can wsX7_can) := goodIn_app (goodIn_of _ (by decide +kernel)) ggX7_bond_X7_can
theorem dX7_bond_0 : decode cX7_bond 0 = .ok (.aload_n 0, 1) := by decide +kernel
theorem dX7_bond_1 : decode cX7_bond 1 = .ok (.iload_n 1, 1) := by decide +kernel
theorem dX7_bond_2 : decode cX7_bond 2 = .ok (.invokestatic 103, 3) := by decide +kernel
theorem dX7_bond_5 : decode cX7_bond 5 = .ok (.ifCond .eq 7, 3) := by decide +kernel
theorem dX7_bond_8 : decode cX7_bond 8 = .ok (.iconst 0, 1) := by decide +kernel
theorem dX7_bond_9 : decode cX7_bond 9 = .ok (.goto 4, 3) := by decide +kernel
theorem dX7_bond_12 : decode cX7_bond 12 = .ok (.iconst 1, 1) := by decide +kernel
theorem dX7_bond_13 : decode cX7_bond 13 = .ok (.invokevirtual 99, 3) := by decide +kernel
theorem dX7_bond_16 : decode cX7_bond 16 = .ok (.ifCond .eq 12, 3) := by decide +kernel
theorem dX7_bond_19 : decode cX7_bond 19 = .ok (.aload_n 0, 1) := by decide +kernel
theorem dX7_bond_20 : decode cX7_bond 20 = .ok (.getfield 25, 3) := by decide +kernel
theorem dX7_bond_23 : decode cX7_bond 23 = .ok (.iload_n 1, 1) := by decide +kernel
theorem dX7_bond_24 : decode cX7_bond 24 = .ok (.iaload, 1) := by decide +kernel
theorem dX7_bond_25 : decode cX7_bond 25 = .ok (.goto 4, 3) := by decide +kernel
theorem dX7_bond_28 : decode cX7_bond 28 = .ok (.iconst 0, 1) := by decide +kernel
theorem dX7_bond_29 : decode cX7_bond 29 = .ok (.ireturn, 1) := by decide +kernel
set_option maxRecDepth 20000 in
theorem ggX7_bondByCuts_X7_isSensor : GoodIn wsX7_bondByCuts wsX7_isSensor := goodIn_r _ [5, 6, 7, 4, 8] (by decide +kernel) (by decide +kernel)
set_option maxRecDepth 20000 in
theorem gX7_bondByCuts_X7_isSensor : GoodIn wsX7_bondByCuts (va_wsS RX7 103 yX7_isSensor wsX7_isSensor) := goodIn_app (goodIn_of _ (by decide +kernel)) ggX7_bondByCuts_X7_isSensor
set_option maxRecDepth 20000 in
theorem ggX7_bondByCuts_X7_can : GoodIn wsX7_bondByCuts wsX7_can := goodIn_r _ [12, 13, 14, 15, 16, 17, 18, 19, 20, 21, 22, 23, 24, 25, 26, 27, 28, 29, 30, 31, 32, 33, 34, 35, 36, 37, 38, 39, 40] (by decide +kernel) (by decide +kernel)
set_option maxRecDepth 20000 in
theorem gX7_bondByCuts_X7_can : GoodIn wsX7_bondByCuts (wsV RX7 99 RX7 yX7_can wsX7_can) := goodIn_app (goodIn_of _ (by decide +kernel)) ggX7_bondByCuts_X7_can
theorem dX7_bondByCuts_0 : decode cX7_bondByCuts 0 = .ok (.aload_n 0, 1) := by decide +kernel
theorem dX7_bondByCuts_1 : decode cX7_bondByCuts 1 = .ok (.iload_n 1, 1) := by decide +kernel
theorem dX7_bondByCuts_2 : decode cX7_bondByCuts 2 = .ok (.invokestatic 103, 3) := by decide +kernel
theorem dX7_bondByCuts_5 : decode cX7_bondByCuts 5 = .ok (.ifCond .eq 7, 3) := by decide +kernel
theorem dX7_bondByCuts_8 : decode cX7_bondByCuts 8 = .ok (.iconst 0, 1) := by decide +kernel
theorem dX7_bondByCuts_9 : decode cX7_bondByCuts 9 = .ok (.goto 4, 3) := by decide +kernel
theorem dX7_bondByCuts_12 : decode cX7_bondByCuts 12 = .ok (.iconst 1, 1) := by decide +kernel
theorem dX7_bondByCuts_13 : decode cX7_bondByCuts 13 = .ok (.invokevirtual 99, 3) := by decide +kernel
theorem dX7_bondByCuts_16 : decode cX7_bondByCuts 16 = .ok (.ifCond .eq 12, 3) := by decide +kernel
theorem dX7_bondByCuts_19 : decode cX7_bondByCuts 19 = .ok (.aload_n 0, 1) := by decide +kernel
theorem dX7_bondByCuts_20 : decode cX7_bondByCuts 20 = .ok (.getfield 25, 3) := by decide +kernel
theorem dX7_bondByCuts_23 : decode cX7_bondByCuts 23 = .ok (.iload_n 1, 1) := by decide +kernel
theorem dX7_bondByCuts_24 : decode cX7_bondByCuts 24 = .ok (.iaload, 1) := by decide +kernel
theorem dX7_bondByCuts_25 : decode cX7_bondByCuts 25 = .ok (.goto 4, 3) := by decide +kernel
theorem dX7_bondByCuts_28 : decode cX7_bondByCuts 28 = .ok (.iconst 0, 1) := by decide +kernel
theorem dX7_bondByCuts_29 : decode cX7_bondByCuts 29 = .ok (.ireturn, 1) := by decide +kernel
set_option maxRecDepth 20000 in
theorem ggX7_earned_X7_isSensor : GoodIn wsX7_earned wsX7_isSensor := goodIn_r _ [5, 6, 7, 4, 8] (by decide +kernel) (by decide +kernel)
set_option maxRecDepth 20000 in
theorem gX7_earned_X7_isSensor : GoodIn wsX7_earned (va_wsS RX7 103 yX7_isSensor wsX7_isSensor) := goodIn_app (goodIn_of _ (by decide +kernel)) ggX7_earned_X7_isSensor
set_option maxRecDepth 20000 in
theorem ggX7_earned_X7_can : GoodIn wsX7_earned wsX7_can := goodIn_r _ [12, 13, 14, 15, 16, 17, 18, 19, 20, 21, 22, 23, 24, 25, 26, 27, 28, 29, 30, 31, 32, 33, 34, 35, 36, 37, 38, 39, 40] (by decide +kernel) (by decide +kernel)
set_option maxRecDepth 20000 in
theorem gX7_earned_X7_can : GoodIn wsX7_earned (wsV RX7 99 RX7 yX7_can wsX7_can) := goodIn_app (goodIn_of _ (by decide +kernel)) ggX7_earned_X7_can
theorem dX7_earned_0 : decode cX7_earned 0 = .ok (.aload_n 0, 1) := by decide +kernel
theorem dX7_earned_1 : decode cX7_earned 1 = .ok (.iload_n 1, 1) := by decide +kernel
theorem dX7_earned_2 : decode cX7_earned 2 = .ok (.invokestatic 103, 3) := by decide +kernel
theorem dX7_earned_5 : decode cX7_earned 5 = .ok (.ifCond .eq 7, 3) := by decide +kernel
theorem dX7_earned_8 : decode cX7_earned 8 = .ok (.iconst 0, 1) := by decide +kernel
theorem dX7_earned_9 : decode cX7_earned 9 = .ok (.goto 4, 3) := by decide +kernel
theorem dX7_earned_12 : decode cX7_earned 12 = .ok (.iconst 1, 1) := by decide +kernel
theorem dX7_earned_13 : decode cX7_earned 13 = .ok (.invokevirtual 99, 3) := by decide +kernel
theorem dX7_earned_16 : decode cX7_earned 16 = .ok (.ifCond .eq 12, 3) := by decide +kernel
theorem dX7_earned_19 : decode cX7_earned 19 = .ok (.aload_n 0, 1) := by decide +kernel
theorem dX7_earned_20 : decode cX7_earned 20 = .ok (.getfield 28, 3) := by decide +kernel
theorem dX7_earned_23 : decode cX7_earned 23 = .ok (.iload_n 1, 1) := by decide +kernel
theorem dX7_earned_24 : decode cX7_earned 24 = .ok (.iaload, 1) := by decide +kernel
theorem dX7_earned_25 : decode cX7_earned 25 = .ok (.goto 4, 3) := by decide +kernel
theorem dX7_earned_28 : decode cX7_earned 28 = .ok (.iconst 0, 1) := by decide +kernel
theorem dX7_earned_29 : decode cX7_earned 29 = .ok (.ireturn, 1) := by decide +kernel
set_option maxRecDepth 20000 in
theorem ggX7_mark_X7_isSensor : GoodIn wsX7_mark wsX7_isSensor := goodIn_r _ [7, 8, 9, 6, 10] (by decide +kernel) (by decide +kernel)
set_option maxRecDepth 20000 in
theorem gX7_mark_X7_isSensor : GoodIn wsX7_mark (va_wsS RX7 103 yX7_isSensor wsX7_isSensor) := goodIn_app (goodIn_of _ (by decide +kernel)) ggX7_mark_X7_isSensor
set_option maxRecDepth 20000 in
theorem ggX7_mark_X7_can : GoodIn wsX7_mark wsX7_can := goodIn_r _ [14, 15, 16, 17, 18, 19, 20, 21, 22, 23, 24, 25, 26, 27, 28, 29, 30, 31, 32, 33, 34, 35, 36, 37, 38, 39, 40, 41, 42] (by decide +kernel) (by decide +kernel)
set_option maxRecDepth 20000 in
theorem gX7_mark_X7_can : GoodIn wsX7_mark (wsV RX7 99 RX7 yX7_can wsX7_can) := goodIn_app (goodIn_of _ (by decide +kernel)) ggX7_mark_X7_can
theorem dX7_mark_0 : decode cX7_mark 0 = .ok (.iconst 0, 1) := by decide +kernel
theorem dX7_mark_1 : decode cX7_mark 1 = .ok (.istore_n 2, 1) := by decide +kernel
theorem dX7_mark_2 : decode cX7_mark 2 = .ok (.iconst 0, 1) := by decide +kernel
theorem dX7_mark_3 : decode cX7_mark 3 = .ok (.istore_n 3, 1) := by decide +kernel
theorem dX7_mark_4 : decode cX7_mark 4 = .ok (.iload_n 3, 1) := by decide +kernel
theorem dX7_mark_5 : decode cX7_mark 5 = .ok (.aload_n 0, 1) := by decide +kernel
theorem dX7_mark_6 : decode cX7_mark 6 = .ok (.getfield 88, 3) := by decide +kernel
theorem dX7_mark_9 : decode cX7_mark 9 = .ok (.if_icmp .ge 56, 3) := by decide +kernel
theorem dX7_mark_12 : decode cX7_mark 12 = .ok (.iload_n 2, 1) := by decide +kernel
theorem dX7_mark_13 : decode cX7_mark 13 = .ok (.aload_n 0, 1) := by decide +kernel
theorem dX7_mark_14 : decode cX7_mark 14 = .ok (.getfield 53, 3) := by decide +kernel
theorem dX7_mark_17 : decode cX7_mark 17 = .ok (.iload_n 3, 1) := by decide +kernel
theorem dX7_mark_18 : decode cX7_mark 18 = .ok (.iaload, 1) := by decide +kernel
theorem dX7_mark_19 : decode cX7_mark 19 = .ok (.iload_n 1, 1) := by decide +kernel
theorem dX7_mark_20 : decode cX7_mark 20 = .ok (.if_icmp .eq 7, 3) := by decide +kernel
theorem dX7_mark_23 : decode cX7_mark 23 = .ok (.iconst 0, 1) := by decide +kernel
theorem dX7_mark_24 : decode cX7_mark 24 = .ok (.goto 33, 3) := by decide +kernel
theorem dX7_mark_27 : decode cX7_mark 27 = .ok (.aload_n 0, 1) := by decide +kernel
theorem dX7_mark_28 : decode cX7_mark 28 = .ok (.getfield 59, 3) := by decide +kernel
theorem dX7_mark_31 : decode cX7_mark 31 = .ok (.iload_n 3, 1) := by decide +kernel
theorem dX7_mark_32 : decode cX7_mark 32 = .ok (.iaload, 1) := by decide +kernel
theorem dX7_mark_33 : decode cX7_mark 33 = .ok (.iconst 2, 1) := by decide +kernel
theorem dX7_mark_34 : decode cX7_mark 34 = .ok (.if_icmp .ne 7, 3) := by decide +kernel
theorem dX7_mark_37 : decode cX7_mark 37 = .ok (.iconst 1, 1) := by decide +kernel
theorem dX7_mark_38 : decode cX7_mark 38 = .ok (.goto 19, 3) := by decide +kernel
theorem dX7_mark_41 : decode cX7_mark 41 = .ok (.aload_n 0, 1) := by decide +kernel
theorem dX7_mark_42 : decode cX7_mark 42 = .ok (.getfield 59, 3) := by decide +kernel
theorem dX7_mark_45 : decode cX7_mark 45 = .ok (.iload_n 3, 1) := by decide +kernel
theorem dX7_mark_46 : decode cX7_mark 46 = .ok (.iaload, 1) := by decide +kernel
theorem dX7_mark_47 : decode cX7_mark 47 = .ok (.iconst 3, 1) := by decide +kernel
theorem dX7_mark_48 : decode cX7_mark 48 = .ok (.if_icmp .ne 8, 3) := by decide +kernel
theorem dX7_mark_51 : decode cX7_mark 51 = .ok (.bipush (-3), 2) := by decide +kernel
theorem dX7_mark_53 : decode cX7_mark 53 = .ok (.goto 4, 3) := by decide +kernel
theorem dX7_mark_56 : decode cX7_mark 56 = .ok (.iconst 0, 1) := by decide +kernel
theorem dX7_mark_57 : decode cX7_mark 57 = .ok (.iadd, 1) := by decide +kernel
theorem dX7_mark_58 : decode cX7_mark 58 = .ok (.istore_n 2, 1) := by decide +kernel
theorem dX7_mark_59 : decode cX7_mark 59 = .ok (.iinc 3 1, 3) := by decide +kernel
theorem dX7_mark_62 : decode cX7_mark 62 = .ok (.goto (-58), 3) := by decide +kernel
theorem dX7_mark_65 : decode cX7_mark 65 = .ok (.aload_n 0, 1) := by decide +kernel
theorem dX7_mark_66 : decode cX7_mark 66 = .ok (.iload_n 1, 1) := by decide +kernel
theorem dX7_mark_67 : decode cX7_mark 67 = .ok (.invokestatic 103, 3) := by decide +kernel
theorem dX7_mark_70 : decode cX7_mark 70 = .ok (.ifCond .eq 7, 3) := by decide +kernel
theorem dX7_mark_73 : decode cX7_mark 73 = .ok (.iconst 0, 1) := by decide +kernel
theorem dX7_mark_74 : decode cX7_mark 74 = .ok (.goto 4, 3) := by decide +kernel
theorem dX7_mark_77 : decode cX7_mark 77 = .ok (.iconst 1, 1) := by decide +kernel
theorem dX7_mark_78 : decode cX7_mark 78 = .ok (.invokevirtual 99, 3) := by decide +kernel
theorem dX7_mark_81 : decode cX7_mark 81 = .ok (.ifCond .eq 7, 3) := by decide +kernel
theorem dX7_mark_84 : decode cX7_mark 84 = .ok (.iload_n 2, 1) := by decide +kernel
theorem dX7_mark_85 : decode cX7_mark 85 = .ok (.goto 4, 3) := by decide +kernel
theorem dX7_mark_88 : decode cX7_mark 88 = .ok (.iconst 0, 1) := by decide +kernel
theorem dX7_mark_89 : decode cX7_mark 89 = .ok (.ireturn, 1) := by decide +kernel
set_option maxRecDepth 20000 in
theorem ggX7_purse_X7_isBuyer : GoodIn wsX7_purse wsX7_isBuyer := goodIn_r _ [5, 6, 7, 4, 8] (by decide +kernel) (by decide +kernel)
set_option maxRecDepth 20000 in
theorem gX7_purse_X7_isBuyer : GoodIn wsX7_purse (va_wsS RX7 118 yX7_isBuyer wsX7_isBuyer) := goodIn_app (goodIn_of _ (by decide +kernel)) ggX7_purse_X7_isBuyer
set_option maxRecDepth 20000 in
theorem ggX7_purse_X7_can : GoodIn wsX7_purse wsX7_can := goodIn_r _ [12, 13, 14, 15, 16, 17, 18, 19, 20, 21, 22, 23, 24, 25, 26, 27, 28, 29, 30, 31, 32, 33, 34, 35, 36, 37, 38, 39, 40] (by decide +kernel) (by decide +kernel)
set_option maxRecDepth 20000 in
theorem gX7_purse_X7_can : GoodIn wsX7_purse (wsV RX7 99 RX7 yX7_can wsX7_can) := goodIn_app (goodIn_of _ (by decide +kernel)) ggX7_purse_X7_can
theorem dX7_purse_0 : decode cX7_purse 0 = .ok (.aload_n 0, 1) := by decide +kernel
theorem dX7_purse_1 : decode cX7_purse 1 = .ok (.iload_n 1, 1) := by decide +kernel
theorem dX7_purse_2 : decode cX7_purse 2 = .ok (.invokestatic 118, 3) := by decide +kernel
theorem dX7_purse_5 : decode cX7_purse 5 = .ok (.ifCond .eq 7, 3) := by decide +kernel
theorem dX7_purse_8 : decode cX7_purse 8 = .ok (.iconst 0, 1) := by decide +kernel
theorem dX7_purse_9 : decode cX7_purse 9 = .ok (.goto 4, 3) := by decide +kernel
theorem dX7_purse_12 : decode cX7_purse 12 = .ok (.iconst 1, 1) := by decide +kernel
theorem dX7_purse_13 : decode cX7_purse 13 = .ok (.invokevirtual 99, 3) := by decide +kernel
theorem dX7_purse_16 : decode cX7_purse 16 = .ok (.ifCond .eq 12, 3) := by decide +kernel
theorem dX7_purse_19 : decode cX7_purse 19 = .ok (.aload_n 0, 1) := by decide +kernel
theorem dX7_purse_20 : decode cX7_purse 20 = .ok (.getfield 37, 3) := by decide +kernel
theorem dX7_purse_23 : decode cX7_purse 23 = .ok (.iload_n 1, 1) := by decide +kernel
theorem dX7_purse_24 : decode cX7_purse 24 = .ok (.iaload, 1) := by decide +kernel
theorem dX7_purse_25 : decode cX7_purse 25 = .ok (.goto 4, 3) := by decide +kernel
theorem dX7_purse_28 : decode cX7_purse 28 = .ok (.iconst 0, 1) := by decide +kernel
theorem dX7_purse_29 : decode cX7_purse 29 = .ok (.ireturn, 1) := by decide +kernel
set_option maxRecDepth 20000 in
theorem ggX7_aside_X7_isBuyer : GoodIn wsX7_aside wsX7_isBuyer := goodIn_r _ [5, 6, 7, 4, 8] (by decide +kernel) (by decide +kernel)
set_option maxRecDepth 20000 in
theorem gX7_aside_X7_isBuyer : GoodIn wsX7_aside (va_wsS RX7 118 yX7_isBuyer wsX7_isBuyer) := goodIn_app (goodIn_of _ (by decide +kernel)) ggX7_aside_X7_isBuyer
set_option maxRecDepth 20000 in
theorem ggX7_aside_X7_isSensor : GoodIn wsX7_aside wsX7_isSensor := goodIn_r _ [11, 6, 7, 4, 8] (by decide +kernel) (by decide +kernel)
set_option maxRecDepth 20000 in
theorem gX7_aside_X7_isSensor : GoodIn wsX7_aside (va_wsS RX7 103 yX7_isSensor wsX7_isSensor) := goodIn_app (goodIn_of _ (by decide +kernel)) ggX7_aside_X7_isSensor
set_option maxRecDepth 20000 in
theorem ggX7_aside_X7_can : GoodIn wsX7_aside wsX7_can := goodIn_r _ [15, 16, 17, 18, 19, 20, 21, 22, 23, 24, 25, 26, 27, 28, 29, 30, 31, 32, 33, 34, 35, 36, 37, 38, 39, 40, 41, 42, 43] (by decide +kernel) (by decide +kernel)
set_option maxRecDepth 20000 in
theorem gX7_aside_X7_can : GoodIn wsX7_aside (wsV RX7 99 RX7 yX7_can wsX7_can) := goodIn_app (goodIn_of _ (by decide +kernel)) ggX7_aside_X7_can
theorem dX7_aside_0 : decode cX7_aside 0 = .ok (.aload_n 0, 1) := by decide +kernel
theorem dX7_aside_1 : decode cX7_aside 1 = .ok (.iload_n 1, 1) := by decide +kernel
theorem dX7_aside_2 : decode cX7_aside 2 = .ok (.invokestatic 118, 3) := by decide +kernel
theorem dX7_aside_5 : decode cX7_aside 5 = .ok (.ifCond .eq 14, 3) := by decide +kernel
theorem dX7_aside_8 : decode cX7_aside 8 = .ok (.iload_n 2, 1) := by decide +kernel
theorem dX7_aside_9 : decode cX7_aside 9 = .ok (.invokestatic 103, 3) := by decide +kernel
theorem dX7_aside_12 : decode cX7_aside 12 = .ok (.ifCond .eq 7, 3) := by decide +kernel
theorem dX7_aside_15 : decode cX7_aside 15 = .ok (.iconst 0, 1) := by decide +kernel
theorem dX7_aside_16 : decode cX7_aside 16 = .ok (.goto 4, 3) := by decide +kernel
theorem dX7_aside_19 : decode cX7_aside 19 = .ok (.iconst 1, 1) := by decide +kernel
theorem dX7_aside_20 : decode cX7_aside 20 = .ok (.invokevirtual 99, 3) := by decide +kernel
theorem dX7_aside_23 : decode cX7_aside 23 = .ok (.ifCond .eq 17, 3) := by decide +kernel
theorem dX7_aside_26 : decode cX7_aside 26 = .ok (.aload_n 0, 1) := by decide +kernel
theorem dX7_aside_27 : decode cX7_aside 27 = .ok (.getfield 50, 3) := by decide +kernel
theorem dX7_aside_30 : decode cX7_aside 30 = .ok (.bipush 12, 2) := by decide +kernel
theorem dX7_aside_32 : decode cX7_aside 32 = .ok (.iload_n 1, 1) := by decide +kernel
theorem dX7_aside_33 : decode cX7_aside 33 = .ok (.imul, 1) := by decide +kernel
theorem dX7_aside_34 : decode cX7_aside 34 = .ok (.iload_n 2, 1) := by decide +kernel
theorem dX7_aside_35 : decode cX7_aside 35 = .ok (.iadd, 1) := by decide +kernel
theorem dX7_aside_36 : decode cX7_aside 36 = .ok (.iaload, 1) := by decide +kernel
theorem dX7_aside_37 : decode cX7_aside 37 = .ok (.goto 4, 3) := by decide +kernel
theorem dX7_aside_40 : decode cX7_aside 40 = .ok (.iconst 0, 1) := by decide +kernel
theorem dX7_aside_41 : decode cX7_aside 41 = .ok (.ireturn, 1) := by decide +kernel
theorem dX7_house_0 : decode cX7_house 0 = .ok (.aload_n 0, 1) := by decide +kernel
theorem dX7_house_1 : decode cX7_house 1 = .ok (.iconst 0, 1) := by decide +kernel
theorem dX7_house_2 : decode cX7_house 2 = .ok (.putfield 80, 3) := by decide +kernel
theorem dX7_house_5 : decode cX7_house 5 = .ok (.aload_n 0, 1) := by decide +kernel
theorem dX7_house_6 : decode cX7_house 6 = .ok (.getfield 134, 3) := by decide +kernel
theorem dX7_house_9 : decode cX7_house 9 = .ok (.ireturn, 1) := by decide +kernel
set_option maxRecDepth 20000 in
theorem ggJ5_init_d00df_J2_newBytesFor_77867 : GoodIn wsJ5_init_d00df wsJ2_newBytesFor_77867 := goodIn_r _ [11, 5, 12, 13, 10, 14, 15] (by decide +kernel) (by decide +kernel)
set_option maxRecDepth 20000 in
theorem gJ5_init_d00df_J2_newBytesFor_77867 : GoodIn wsJ5_init_d00df (va_wsS RJ5 26 yJ2_newBytesFor_77867 wsJ2_newBytesFor_77867) := goodIn_app (goodIn_of _ (by decide +kernel)) ggJ5_init_d00df_J2_newBytesFor_77867
theorem dJ5_init_d00df_0 : decode cJ5_init_d00df 0 = .ok (.aload_n 0, 1) := by decide +kernel
theorem dJ5_init_d00df_1 : decode cJ5_init_d00df 1 = .ok (.invokespecial 3, 3) := by decide +kernel
theorem dJ5_init_d00df_4 : decode cJ5_init_d00df 4 = .ok (.getstatic 18, 3) := by decide +kernel
theorem dJ5_init_d00df_7 : decode cJ5_init_d00df 7 = .ok (.ifCond .eq 18, 3) := by decide +kernel
theorem dJ5_init_d00df_10 : decode cJ5_init_d00df 10 = .ok (.aload_n 0, 1) := by decide +kernel
theorem dJ5_init_d00df_11 : decode cJ5_init_d00df 11 = .ok (.iload_n 1, 1) := by decide +kernel
theorem dJ5_init_d00df_12 : decode cJ5_init_d00df 12 = .ok (.newarray .byte, 2) := by decide +kernel
theorem dJ5_init_d00df_14 : decode cJ5_init_d00df 14 = .ok (.putfield 15, 3) := by decide +kernel
theorem dJ5_init_d00df_17 : decode cJ5_init_d00df 17 = .ok (.aload_n 0, 1) := by decide +kernel
theorem dJ5_init_d00df_18 : decode cJ5_init_d00df 18 = .ok (.iconst 0, 1) := by decide +kernel
theorem dJ5_init_d00df_19 : decode cJ5_init_d00df 19 = .ok (.putfield 22, 3) := by decide +kernel
theorem dJ5_init_d00df_22 : decode cJ5_init_d00df 22 = .ok (.goto 16, 3) := by decide +kernel
theorem dJ5_init_d00df_25 : decode cJ5_init_d00df 25 = .ok (.aload_n 0, 1) := by decide +kernel
theorem dJ5_init_d00df_26 : decode cJ5_init_d00df 26 = .ok (.iload_n 1, 1) := by decide +kernel
theorem dJ5_init_d00df_27 : decode cJ5_init_d00df 27 = .ok (.invokestatic 26, 3) := by decide +kernel
theorem dJ5_init_d00df_30 : decode cJ5_init_d00df 30 = .ok (.putfield 15, 3) := by decide +kernel
theorem dJ5_init_d00df_33 : decode cJ5_init_d00df 33 = .ok (.aload_n 0, 1) := by decide +kernel
theorem dJ5_init_d00df_34 : decode cJ5_init_d00df 34 = .ok (.iconst 1, 1) := by decide +kernel
theorem dJ5_init_d00df_35 : decode cJ5_init_d00df 35 = .ok (.putfield 22, 3) := by decide +kernel
theorem dJ5_init_d00df_38 : decode cJ5_init_d00df 38 = .ok (.return_, 1) := by decide +kernel
theorem dJ5_length_8abf5_0 : decode cJ5_length_8abf5 0 = .ok (.aload_n 0, 1) := by decide +kernel
theorem dJ5_length_8abf5_1 : decode cJ5_length_8abf5 1 = .ok (.getfield 79, 3) := by decide +kernel
theorem dJ5_length_8abf5_4 : decode cJ5_length_8abf5 4 = .ok (.ireturn, 1) := by decide +kernel
set_option maxRecDepth 20000 in
theorem ggJ5_ensureCapacityInternal_d00df_J5_newCapacity_0f7a4 : GoodIn wsJ5_ensureCapacityInternal_d00df wsJ5_newCapacity_0f7a4 := goodIn_r _ [8, 1, 2, 9, 10, 11, 12, 13, 14, 15, 16, 17, 18, 19, 20, 21, 40, 41, 42, 43] (by decide +kernel) (by decide +kernel)
set_option maxRecDepth 20000 in
theorem gJ5_ensureCapacityInternal_d00df_J5_newCapacity_0f7a4_u104J4 : GoodIn wsJ5_ensureCapacityInternal_d00df (va_wsU RJ5 104 RJ4 "java/lang/AbstractStringBuilder" ⟨"java/lang/AbstractStringBuilder", "newCapacity", "(I)I"⟩ yJ5_newCapacity_0f7a4 wsJ5_newCapacity_0f7a4) := goodIn_app (goodIn_of _ (by decide +kernel)) ggJ5_ensureCapacityInternal_d00df_J5_newCapacity_0f7a4
set_option maxRecDepth 20000 in
theorem ggJ5_ensureCapacityInternal_d00df_J7_copyOf_9075b : GoodIn wsJ5_ensureCapacityInternal_d00df wsJ7_copyOf_9075b := goodIn_r _ [25, 26, 27, 28, 29, 30, 31, 32, 33, 34, 16, 35, 36, 37, 38, 39] (by decide +kernel) (by decide +kernel)
set_option maxRecDepth 20000 in
theorem gJ5_ensureCapacityInternal_d00df_J7_copyOf_9075b : GoodIn wsJ5_ensureCapacityInternal_d00df (va_wsS RJ5 108 yJ7_copyOf_9075b wsJ7_copyOf_9075b) := goodIn_app (goodIn_of _ (by decide +kernel)) ggJ5_ensureCapacityInternal_d00df_J7_copyOf_9075b
theorem dJ5_ensureCapacityInternal_d00df_0 : decode cJ5_ensureCapacityInternal_d00df 0 = .ok (.aload_n 0, 1) := by decide +kernel
theorem dJ5_ensureCapacityInternal_d00df_1 : decode cJ5_ensureCapacityInternal_d00df 1 = .ok (.getfield 15, 3) := by decide +kernel
theorem dJ5_ensureCapacityInternal_d00df_4 : decode cJ5_ensureCapacityInternal_d00df 4 = .ok (.arraylength, 1) := by decide +kernel
theorem dJ5_ensureCapacityInternal_d00df_5 : decode cJ5_ensureCapacityInternal_d00df 5 = .ok (.aload_n 0, 1) := by decide +kernel
theorem dJ5_ensureCapacityInternal_d00df_6 : decode cJ5_ensureCapacityInternal_d00df 6 = .ok (.getfield 22, 3) := by decide +kernel
theorem dJ5_ensureCapacityInternal_d00df_9 : decode cJ5_ensureCapacityInternal_d00df 9 = .ok (.ishr, 1) := by decide +kernel
theorem dJ5_ensureCapacityInternal_d00df_10 : decode cJ5_ensureCapacityInternal_d00df 10 = .ok (.istore_n 2, 1) := by decide +kernel
theorem dJ5_ensureCapacityInternal_d00df_11 : decode cJ5_ensureCapacityInternal_d00df 11 = .ok (.iload_n 1, 1) := by decide +kernel
theorem dJ5_ensureCapacityInternal_d00df_12 : decode cJ5_ensureCapacityInternal_d00df 12 = .ok (.iload_n 2, 1) := by decide +kernel
theorem dJ5_ensureCapacityInternal_d00df_13 : decode cJ5_ensureCapacityInternal_d00df 13 = .ok (.isub, 1) := by decide +kernel
theorem dJ5_ensureCapacityInternal_d00df_14 : decode cJ5_ensureCapacityInternal_d00df 14 = .ok (.ifCond .le 24, 3) := by decide +kernel
theorem dJ5_ensureCapacityInternal_d00df_17 : decode cJ5_ensureCapacityInternal_d00df 17 = .ok (.aload_n 0, 1) := by decide +kernel
theorem dJ5_ensureCapacityInternal_d00df_18 : decode cJ5_ensureCapacityInternal_d00df 18 = .ok (.aload_n 0, 1) := by decide +kernel
theorem dJ5_ensureCapacityInternal_d00df_19 : decode cJ5_ensureCapacityInternal_d00df 19 = .ok (.getfield 15, 3) := by decide +kernel
theorem dJ5_ensureCapacityInternal_d00df_22 : decode cJ5_ensureCapacityInternal_d00df 22 = .ok (.aload_n 0, 1) := by decide +kernel
theorem dJ5_ensureCapacityInternal_d00df_23 : decode cJ5_ensureCapacityInternal_d00df 23 = .ok (.iload_n 1, 1) := by decide +kernel
theorem dJ5_ensureCapacityInternal_d00df_24 : decode cJ5_ensureCapacityInternal_d00df 24 = .ok (.invokevirtual 104, 3) := by decide +kernel
theorem dJ5_ensureCapacityInternal_d00df_27 : decode cJ5_ensureCapacityInternal_d00df 27 = .ok (.aload_n 0, 1) := by decide +kernel
theorem dJ5_ensureCapacityInternal_d00df_28 : decode cJ5_ensureCapacityInternal_d00df 28 = .ok (.getfield 22, 3) := by decide +kernel
theorem dJ5_ensureCapacityInternal_d00df_31 : decode cJ5_ensureCapacityInternal_d00df 31 = .ok (.ishl, 1) := by decide +kernel
theorem dJ5_ensureCapacityInternal_d00df_32 : decode cJ5_ensureCapacityInternal_d00df 32 = .ok (.invokestatic 108, 3) := by decide +kernel
theorem dJ5_ensureCapacityInternal_d00df_35 : decode cJ5_ensureCapacityInternal_d00df 35 = .ok (.putfield 15, 3) := by decide +kernel
theorem dJ5_ensureCapacityInternal_d00df_38 : decode cJ5_ensureCapacityInternal_d00df 38 = .ok (.return_, 1) := by decide +kernel
set_option maxRecDepth 20000 in
theorem ggJ5_newCapacity_0f7a4_J8_newLength_cabcc : GoodIn wsJ5_newCapacity_0f7a4 wsJ8_newLength_cabcc := goodIn_r _ [7, 8, 9, 10, 11, 12, 13, 14, 6, 15] (by decide +kernel) (by decide +kernel)
set_option maxRecDepth 20000 in
theorem gJ5_newCapacity_0f7a4_J8_newLength_cabcc : GoodIn wsJ5_newCapacity_0f7a4 (va_wsS RJ5 114 yJ8_newLength_cabcc wsJ8_newLength_cabcc) := goodIn_app (goodIn_of _ (by decide +kernel)) ggJ5_newCapacity_0f7a4_J8_newLength_cabcc
theorem dJ5_newCapacity_0f7a4_0 : decode cJ5_newCapacity_0f7a4 0 = .ok (.aload_n 0, 1) := by decide +kernel
theorem dJ5_newCapacity_0f7a4_1 : decode cJ5_newCapacity_0f7a4 1 = .ok (.getfield 15, 3) := by decide +kernel
theorem dJ5_newCapacity_0f7a4_4 : decode cJ5_newCapacity_0f7a4 4 = .ok (.arraylength, 1) := by decide +kernel
theorem dJ5_newCapacity_0f7a4_5 : decode cJ5_newCapacity_0f7a4 5 = .ok (.istore_n 2, 1) := by decide +kernel
theorem dJ5_newCapacity_0f7a4_6 : decode cJ5_newCapacity_0f7a4 6 = .ok (.iload_n 1, 1) := by decide +kernel
theorem dJ5_newCapacity_0f7a4_7 : decode cJ5_newCapacity_0f7a4 7 = .ok (.aload_n 0, 1) := by decide +kernel
theorem dJ5_newCapacity_0f7a4_8 : decode cJ5_newCapacity_0f7a4 8 = .ok (.getfield 22, 3) := by decide +kernel
theorem dJ5_newCapacity_0f7a4_11 : decode cJ5_newCapacity_0f7a4 11 = .ok (.ishl, 1) := by decide +kernel
theorem dJ5_newCapacity_0f7a4_12 : decode cJ5_newCapacity_0f7a4 12 = .ok (.istore_n 3, 1) := by decide +kernel
theorem dJ5_newCapacity_0f7a4_13 : decode cJ5_newCapacity_0f7a4 13 = .ok (.iload_n 3, 1) := by decide +kernel
theorem dJ5_newCapacity_0f7a4_14 : decode cJ5_newCapacity_0f7a4 14 = .ok (.iload_n 2, 1) := by decide +kernel
theorem dJ5_newCapacity_0f7a4_15 : decode cJ5_newCapacity_0f7a4 15 = .ok (.isub, 1) := by decide +kernel
theorem dJ5_newCapacity_0f7a4_16 : decode cJ5_newCapacity_0f7a4 16 = .ok (.istore 4, 2) := by decide +kernel
theorem dJ5_newCapacity_0f7a4_18 : decode cJ5_newCapacity_0f7a4 18 = .ok (.iload_n 2, 1) := by decide +kernel
theorem dJ5_newCapacity_0f7a4_19 : decode cJ5_newCapacity_0f7a4 19 = .ok (.iload 4, 2) := by decide +kernel
theorem dJ5_newCapacity_0f7a4_21 : decode cJ5_newCapacity_0f7a4 21 = .ok (.iload_n 2, 1) := by decide +kernel
theorem dJ5_newCapacity_0f7a4_22 : decode cJ5_newCapacity_0f7a4 22 = .ok (.iconst 2, 1) := by decide +kernel
theorem dJ5_newCapacity_0f7a4_23 : decode cJ5_newCapacity_0f7a4 23 = .ok (.aload_n 0, 1) := by decide +kernel
theorem dJ5_newCapacity_0f7a4_24 : decode cJ5_newCapacity_0f7a4 24 = .ok (.getfield 22, 3) := by decide +kernel
theorem dJ5_newCapacity_0f7a4_27 : decode cJ5_newCapacity_0f7a4 27 = .ok (.ishl, 1) := by decide +kernel
theorem dJ5_newCapacity_0f7a4_28 : decode cJ5_newCapacity_0f7a4 28 = .ok (.iadd, 1) := by decide +kernel
theorem dJ5_newCapacity_0f7a4_29 : decode cJ5_newCapacity_0f7a4 29 = .ok (.invokestatic 114, 3) := by decide +kernel
theorem dJ5_newCapacity_0f7a4_32 : decode cJ5_newCapacity_0f7a4 32 = .ok (.istore 5, 2) := by decide +kernel
theorem dJ5_newCapacity_0f7a4_34 : decode cJ5_newCapacity_0f7a4 34 = .ok (.iload 5, 2) := by decide +kernel
theorem dJ5_newCapacity_0f7a4_36 : decode cJ5_newCapacity_0f7a4 36 = .ok (.ldc 39, 2) := by decide +kernel
theorem dJ5_newCapacity_0f7a4_38 : decode cJ5_newCapacity_0f7a4 38 = .ok (.if_icmp .ne 13, 3) := by decide +kernel
theorem dJ5_newCapacity_0f7a4_41 : decode cJ5_newCapacity_0f7a4 41 = .ok (.new 120, 3) := by decide +kernel
theorem dJ5_newCapacity_0f7a4_44 : decode cJ5_newCapacity_0f7a4 44 = .ok (.dup, 1) := by decide +kernel
theorem dJ5_newCapacity_0f7a4_45 : decode cJ5_newCapacity_0f7a4 45 = .ok (.ldc 122, 2) := by decide +kernel
theorem dJ5_newCapacity_0f7a4_47 : decode cJ5_newCapacity_0f7a4 47 = .ok (.invokespecial 124, 3) := by decide +kernel
theorem dJ5_newCapacity_0f7a4_50 : decode cJ5_newCapacity_0f7a4 50 = .ok (.athrow, 1) := by decide +kernel
theorem dJ5_newCapacity_0f7a4_51 : decode cJ5_newCapacity_0f7a4 51 = .ok (.iload 5, 2) := by decide +kernel
theorem dJ5_newCapacity_0f7a4_53 : decode cJ5_newCapacity_0f7a4 53 = .ok (.aload_n 0, 1) := by decide +kernel
theorem dJ5_newCapacity_0f7a4_54 : decode cJ5_newCapacity_0f7a4 54 = .ok (.getfield 22, 3) := by decide +kernel
theorem dJ5_newCapacity_0f7a4_57 : decode cJ5_newCapacity_0f7a4 57 = .ok (.ishr, 1) := by decide +kernel
theorem dJ5_newCapacity_0f7a4_58 : decode cJ5_newCapacity_0f7a4 58 = .ok (.ireturn, 1) := by decide +kernel
set_option maxRecDepth 20000 in
theorem ggJ5_inflate_da8c8_J5_isLatin1_aae02 : GoodIn wsJ5_inflate_da8c8 wsJ5_isLatin1_aae02 := goodIn_r _ [9, 10, 3, 48, 49, 50, 51] (by decide +kernel) (by decide +kernel)
set_option maxRecDepth 20000 in
theorem gJ5_inflate_da8c8_J5_isLatin1_aae02_u83J4 : GoodIn wsJ5_inflate_da8c8 (va_wsU RJ5 83 RJ4 "java/lang/AbstractStringBuilder" ⟨"java/lang/AbstractStringBuilder", "isLatin1", "()Z"⟩ yJ5_isLatin1_aae02 wsJ5_isLatin1_aae02) := goodIn_app (goodIn_of _ (by decide +kernel)) ggJ5_inflate_da8c8_J5_isLatin1_aae02
set_option maxRecDepth 20000 in
theorem ggJ5_inflate_da8c8_J2_newBytesFor_77867 : GoodIn wsJ5_inflate_da8c8 wsJ2_newBytesFor_77867 := goodIn_r _ [14, 15, 16, 17, 13, 18, 19] (by decide +kernel) (by decide +kernel)
set_option maxRecDepth 20000 in
theorem gJ5_inflate_da8c8_J2_newBytesFor_77867 : GoodIn wsJ5_inflate_da8c8 (va_wsS RJ5 26 yJ2_newBytesFor_77867 wsJ2_newBytesFor_77867) := goodIn_app (goodIn_of _ (by decide +kernel)) ggJ5_inflate_da8c8_J2_newBytesFor_77867
set_option maxRecDepth 20000 in
theorem ggJ5_inflate_da8c8_J1_inflate_0e8fd : GoodIn wsJ5_inflate_da8c8 wsJ1_inflate_0e8fd := goodIn_r _ [23, 24, 25, 13, 26, 27, 28, 29, 30, 31, 32, 33, 34, 35, 36, 37, 38, 39, 40, 41, 42, 43, 44, 45, 46, 47] (by decide +kernel) (by decide +kernel)
set_option maxRecDepth 20000 in
theorem gJ5_inflate_da8c8_J1_inflate_0e8fd : GoodIn wsJ5_inflate_da8c8 (va_wsS RJ5 125 yJ1_inflate_0e8fd wsJ1_inflate_0e8fd) := goodIn_app (goodIn_of _ (by decide +kernel)) ggJ5_inflate_da8c8_J1_inflate_0e8fd
theorem dJ5_inflate_da8c8_0 : decode cJ5_inflate_da8c8 0 = .ok (.aload_n 0, 1) := by decide +kernel
theorem dJ5_inflate_da8c8_1 : decode cJ5_inflate_da8c8 1 = .ok (.invokevirtual 83, 3) := by decide +kernel
theorem dJ5_inflate_da8c8_4 : decode cJ5_inflate_da8c8 4 = .ok (.ifCond .ne 4, 3) := by decide +kernel
theorem dJ5_inflate_da8c8_7 : decode cJ5_inflate_da8c8 7 = .ok (.return_, 1) := by decide +kernel
theorem dJ5_inflate_da8c8_8 : decode cJ5_inflate_da8c8 8 = .ok (.aload_n 0, 1) := by decide +kernel
theorem dJ5_inflate_da8c8_9 : decode cJ5_inflate_da8c8 9 = .ok (.getfield 15, 3) := by decide +kernel
theorem dJ5_inflate_da8c8_12 : decode cJ5_inflate_da8c8 12 = .ok (.arraylength, 1) := by decide +kernel
theorem dJ5_inflate_da8c8_13 : decode cJ5_inflate_da8c8 13 = .ok (.invokestatic 26, 3) := by decide +kernel
theorem dJ5_inflate_da8c8_16 : decode cJ5_inflate_da8c8 16 = .ok (.astore_n 1, 1) := by decide +kernel
theorem dJ5_inflate_da8c8_17 : decode cJ5_inflate_da8c8 17 = .ok (.aload_n 0, 1) := by decide +kernel
theorem dJ5_inflate_da8c8_18 : decode cJ5_inflate_da8c8 18 = .ok (.getfield 15, 3) := by decide +kernel
theorem dJ5_inflate_da8c8_21 : decode cJ5_inflate_da8c8 21 = .ok (.iconst 0, 1) := by decide +kernel
theorem dJ5_inflate_da8c8_22 : decode cJ5_inflate_da8c8 22 = .ok (.aload_n 1, 1) := by decide +kernel
theorem dJ5_inflate_da8c8_23 : decode cJ5_inflate_da8c8 23 = .ok (.iconst 0, 1) := by decide +kernel
theorem dJ5_inflate_da8c8_24 : decode cJ5_inflate_da8c8 24 = .ok (.aload_n 0, 1) := by decide +kernel
theorem dJ5_inflate_da8c8_25 : decode cJ5_inflate_da8c8 25 = .ok (.getfield 79, 3) := by decide +kernel
theorem dJ5_inflate_da8c8_28 : decode cJ5_inflate_da8c8 28 = .ok (.invokestatic 125, 3) := by decide +kernel
theorem dJ5_inflate_da8c8_31 : decode cJ5_inflate_da8c8 31 = .ok (.aload_n 0, 1) := by decide +kernel
theorem dJ5_inflate_da8c8_32 : decode cJ5_inflate_da8c8 32 = .ok (.aload_n 1, 1) := by decide +kernel
theorem dJ5_inflate_da8c8_33 : decode cJ5_inflate_da8c8 33 = .ok (.putfield 15, 3) := by decide +kernel
theorem dJ5_inflate_da8c8_36 : decode cJ5_inflate_da8c8 36 = .ok (.aload_n 0, 1) := by decide +kernel
theorem dJ5_inflate_da8c8_37 : decode cJ5_inflate_da8c8 37 = .ok (.iconst 1, 1) := by decide +kernel
theorem dJ5_inflate_da8c8_38 : decode cJ5_inflate_da8c8 38 = .ok (.putfield 22, 3) := by decide +kernel
theorem dJ5_inflate_da8c8_41 : decode cJ5_inflate_da8c8 41 = .ok (.return_, 1) := by decide +kernel
set_option maxRecDepth 20000 in
theorem ggJ5_charAt_5068e_J0_checkIndex_df160 : GoodIn wsJ5_charAt_5068e wsJ0_checkIndex_df160 := goodIn_r _ [11, 12, 13, 14, 15, 16] (by decide +kernel) (by decide +kernel)
set_option maxRecDepth 20000 in
theorem gJ5_charAt_5068e_J0_checkIndex_df160 : GoodIn wsJ5_charAt_5068e (va_wsS RJ5 144 yJ0_checkIndex_df160 wsJ0_checkIndex_df160) := goodIn_app (goodIn_of _ (by decide +kernel)) ggJ5_charAt_5068e_J0_checkIndex_df160
set_option maxRecDepth 20000 in
theorem ggJ5_charAt_5068e_J2_getChar_3b067 : GoodIn wsJ5_charAt_5068e wsJ2_getChar_3b067 := goodIn_r _ [20, 21, 22, 23, 24, 25, 19, 26] (by decide +kernel) (by decide +kernel)
set_option maxRecDepth 20000 in
theorem gJ5_charAt_5068e_J2_getChar_3b067 : GoodIn wsJ5_charAt_5068e (va_wsS RJ5 148 yJ2_getChar_3b067 wsJ2_getChar_3b067) := goodIn_app (goodIn_of _ (by decide +kernel)) ggJ5_charAt_5068e_J2_getChar_3b067
theorem dJ5_charAt_5068e_0 : decode cJ5_charAt_5068e 0 = .ok (.aload_n 0, 1) := by decide +kernel
theorem dJ5_charAt_5068e_1 : decode cJ5_charAt_5068e 1 = .ok (.getfield 22, 3) := by decide +kernel
theorem dJ5_charAt_5068e_4 : decode cJ5_charAt_5068e 4 = .ok (.istore_n 2, 1) := by decide +kernel
theorem dJ5_charAt_5068e_5 : decode cJ5_charAt_5068e 5 = .ok (.aload_n 0, 1) := by decide +kernel
theorem dJ5_charAt_5068e_6 : decode cJ5_charAt_5068e 6 = .ok (.getfield 15, 3) := by decide +kernel
theorem dJ5_charAt_5068e_9 : decode cJ5_charAt_5068e 9 = .ok (.astore_n 3, 1) := by decide +kernel
theorem dJ5_charAt_5068e_10 : decode cJ5_charAt_5068e 10 = .ok (.aload_n 0, 1) := by decide +kernel
theorem dJ5_charAt_5068e_11 : decode cJ5_charAt_5068e 11 = .ok (.getfield 79, 3) := by decide +kernel
theorem dJ5_charAt_5068e_14 : decode cJ5_charAt_5068e 14 = .ok (.aload_n 3, 1) := by decide +kernel
theorem dJ5_charAt_5068e_15 : decode cJ5_charAt_5068e 15 = .ok (.arraylength, 1) := by decide +kernel
theorem dJ5_charAt_5068e_16 : decode cJ5_charAt_5068e 16 = .ok (.iload_n 2, 1) := by decide +kernel
theorem dJ5_charAt_5068e_17 : decode cJ5_charAt_5068e 17 = .ok (.ishr, 1) := by decide +kernel
theorem dJ5_charAt_5068e_18 : decode cJ5_charAt_5068e 18 = .ok (.invokestatic 138, 3) := by decide +kernel
theorem dJ5_charAt_5068e_21 : decode cJ5_charAt_5068e 21 = .ok (.istore 4, 2) := by decide +kernel
theorem dJ5_charAt_5068e_23 : decode cJ5_charAt_5068e 23 = .ok (.iload_n 1, 1) := by decide +kernel
theorem dJ5_charAt_5068e_24 : decode cJ5_charAt_5068e 24 = .ok (.iload 4, 2) := by decide +kernel
theorem dJ5_charAt_5068e_26 : decode cJ5_charAt_5068e 26 = .ok (.invokestatic 144, 3) := by decide +kernel
theorem dJ5_charAt_5068e_29 : decode cJ5_charAt_5068e 29 = .ok (.iload_n 2, 1) := by decide +kernel
theorem dJ5_charAt_5068e_30 : decode cJ5_charAt_5068e 30 = .ok (.ifCond .ne 12, 3) := by decide +kernel
theorem dJ5_charAt_5068e_33 : decode cJ5_charAt_5068e 33 = .ok (.aload_n 3, 1) := by decide +kernel
theorem dJ5_charAt_5068e_34 : decode cJ5_charAt_5068e 34 = .ok (.iload_n 1, 1) := by decide +kernel
theorem dJ5_charAt_5068e_35 : decode cJ5_charAt_5068e 35 = .ok (.baload, 1) := by decide +kernel
theorem dJ5_charAt_5068e_36 : decode cJ5_charAt_5068e 36 = .ok (.sipush 255, 3) := by decide +kernel
theorem dJ5_charAt_5068e_39 : decode cJ5_charAt_5068e 39 = .ok (.iand, 1) := by decide +kernel
theorem dJ5_charAt_5068e_40 : decode cJ5_charAt_5068e 40 = .ok (.i2c, 1) := by decide +kernel
theorem dJ5_charAt_5068e_41 : decode cJ5_charAt_5068e 41 = .ok (.ireturn, 1) := by decide +kernel
theorem dJ5_charAt_5068e_42 : decode cJ5_charAt_5068e 42 = .ok (.aload_n 3, 1) := by decide +kernel
theorem dJ5_charAt_5068e_43 : decode cJ5_charAt_5068e 43 = .ok (.iload_n 1, 1) := by decide +kernel
theorem dJ5_charAt_5068e_44 : decode cJ5_charAt_5068e 44 = .ok (.invokestatic 148, 3) := by decide +kernel
theorem dJ5_charAt_5068e_47 : decode cJ5_charAt_5068e 47 = .ok (.ireturn, 1) := by decide +kernel
set_option maxRecDepth 20000 in
theorem ggJ5_append_3fe6f_J5_ensureCapacityInternal_d00df : GoodIn wsJ5_append_3fe6f wsJ5_ensureCapacityInternal_d00df := goodIn_r _ [8, 2, 9, 10, 11, 12, 13, 7, 14, 15, 16, 17, 18, 19, 20, 21, 22, 23, 24, 25, 26, 27, 28, 29, 30, 31, 32, 33, 34, 35, 36, 37, 38, 39, 40, 41, 42, 43, 44, 45, 108, 109, 110, 111] (by decide +kernel) (by decide +kernel)
set_option maxRecDepth 20000 in
theorem gJ5_append_3fe6f_J5_ensureCapacityInternal_d00df_u100J4 : GoodIn wsJ5_append_3fe6f (va_wsU RJ5 100 RJ4 "java/lang/AbstractStringBuilder" ⟨"java/lang/AbstractStringBuilder", "ensureCapacityInternal", "(I)V"⟩ yJ5_ensureCapacityInternal_d00df wsJ5_ensureCapacityInternal_d00df) := goodIn_app (goodIn_of _ (by decide +kernel)) ggJ5_append_3fe6f_J5_ensureCapacityInternal_d00df
set_option maxRecDepth 20000 in
theorem ggJ5_append_3fe6f_J5_isLatin1_aae02 : GoodIn wsJ5_append_3fe6f wsJ5_isLatin1_aae02 := goodIn_r _ [50, 51, 9, 108, 109, 110, 111] (by decide +kernel) (by decide +kernel)
set_option maxRecDepth 20000 in
theorem gJ5_append_3fe6f_J5_isLatin1_aae02_u83J4 : GoodIn wsJ5_append_3fe6f (va_wsU RJ5 83 RJ4 "java/lang/AbstractStringBuilder" ⟨"java/lang/AbstractStringBuilder", "isLatin1", "()Z"⟩ yJ5_isLatin1_aae02 wsJ5_isLatin1_aae02) := goodIn_app (goodIn_of _ (by decide +kernel)) ggJ5_append_3fe6f_J5_isLatin1_aae02
set_option maxRecDepth 20000 in
theorem ggJ5_append_3fe6f_J1_canEncode_fc78d : GoodIn wsJ5_append_3fe6f wsJ1_canEncode_fc78d := goodIn_r _ [55] (by decide +kernel) (by decide +kernel)
set_option maxRecDepth 20000 in
theorem gJ5_append_3fe6f_J1_canEncode_fc78d : GoodIn wsJ5_append_3fe6f (va_wsS RJ5 191 yJ1_canEncode_fc78d wsJ1_canEncode_fc78d) := goodIn_app (goodIn_of _ (by decide +kernel)) ggJ5_append_3fe6f_J1_canEncode_fc78d
set_option maxRecDepth 20000 in
theorem ggJ5_append_3fe6f_J5_inflate_da8c8 : GoodIn wsJ5_append_3fe6f wsJ5_inflate_da8c8 := goodIn_r _ [60, 2, 1, 9, 46, 47, 48, 49, 7, 50, 51, 61, 62, 63, 64, 38, 65, 66, 67, 68, 69, 70, 54, 71, 72, 73, 74, 75, 76, 77, 78, 79, 80, 81, 82, 83, 84, 85, 86, 87, 88, 89, 90, 91, 92, 93, 94, 95, 108, 109, 110, 111] (by decide +kernel) (by decide +kernel)
set_option maxRecDepth 20000 in
theorem gJ5_append_3fe6f_J5_inflate_da8c8_u195J4 : GoodIn wsJ5_append_3fe6f (va_wsU RJ5 195 RJ4 "java/lang/AbstractStringBuilder" ⟨"java/lang/AbstractStringBuilder", "inflate", "()V"⟩ yJ5_inflate_da8c8 wsJ5_inflate_da8c8) := goodIn_app (goodIn_of _ (by decide +kernel)) ggJ5_append_3fe6f_J5_inflate_da8c8
set_option maxRecDepth 20000 in
theorem ggJ5_append_3fe6f_J2_putCharSB_b72d1 : GoodIn wsJ5_append_3fe6f wsJ2_putCharSB_b72d1 := goodIn_r _ [98, 99, 100, 63, 101, 78, 79, 80, 102, 103, 83, 104, 85, 105, 106, 88, 107, 90, 91, 92, 93, 94, 95] (by decide +kernel) (by decide +kernel)
set_option maxRecDepth 20000 in
theorem gJ5_append_3fe6f_J2_putCharSB_b72d1 : GoodIn wsJ5_append_3fe6f (va_wsS RJ5 197 yJ2_putCharSB_b72d1 wsJ2_putCharSB_b72d1) := goodIn_app (goodIn_of _ (by decide +kernel)) ggJ5_append_3fe6f_J2_putCharSB_b72d1
theorem dJ5_append_3fe6f_0 : decode cJ5_append_3fe6f 0 = .ok (.aload_n 0, 1) := by decide +kernel
theorem dJ5_append_3fe6f_1 : decode cJ5_append_3fe6f 1 = .ok (.aload_n 0, 1) := by decide +kernel
theorem dJ5_append_3fe6f_2 : decode cJ5_append_3fe6f 2 = .ok (.getfield 79, 3) := by decide +kernel
theorem dJ5_append_3fe6f_5 : decode cJ5_append_3fe6f 5 = .ok (.iconst 1, 1) := by decide +kernel
theorem dJ5_append_3fe6f_6 : decode cJ5_append_3fe6f 6 = .ok (.iadd, 1) := by decide +kernel
theorem dJ5_append_3fe6f_7 : decode cJ5_append_3fe6f 7 = .ok (.invokevirtual 100, 3) := by decide +kernel
theorem dJ5_append_3fe6f_10 : decode cJ5_append_3fe6f 10 = .ok (.aload_n 0, 1) := by decide +kernel
theorem dJ5_append_3fe6f_11 : decode cJ5_append_3fe6f 11 = .ok (.invokevirtual 83, 3) := by decide +kernel
theorem dJ5_append_3fe6f_14 : decode cJ5_append_3fe6f 14 = .ok (.ifCond .eq 31, 3) := by decide +kernel
theorem dJ5_append_3fe6f_17 : decode cJ5_append_3fe6f 17 = .ok (.iload_n 1, 1) := by decide +kernel
theorem dJ5_append_3fe6f_18 : decode cJ5_append_3fe6f 18 = .ok (.invokestatic 191, 3) := by decide +kernel
theorem dJ5_append_3fe6f_21 : decode cJ5_append_3fe6f 21 = .ok (.ifCond .eq 24, 3) := by decide +kernel
theorem dJ5_append_3fe6f_24 : decode cJ5_append_3fe6f 24 = .ok (.aload_n 0, 1) := by decide +kernel
theorem dJ5_append_3fe6f_25 : decode cJ5_append_3fe6f 25 = .ok (.getfield 15, 3) := by decide +kernel
theorem dJ5_append_3fe6f_28 : decode cJ5_append_3fe6f 28 = .ok (.aload_n 0, 1) := by decide +kernel
theorem dJ5_append_3fe6f_29 : decode cJ5_append_3fe6f 29 = .ok (.dup, 1) := by decide +kernel
theorem dJ5_append_3fe6f_30 : decode cJ5_append_3fe6f 30 = .ok (.getfield 79, 3) := by decide +kernel
theorem dJ5_append_3fe6f_33 : decode cJ5_append_3fe6f 33 = .ok (.dup_x1, 1) := by decide +kernel
theorem dJ5_append_3fe6f_34 : decode cJ5_append_3fe6f 34 = .ok (.iconst 1, 1) := by decide +kernel
theorem dJ5_append_3fe6f_35 : decode cJ5_append_3fe6f 35 = .ok (.iadd, 1) := by decide +kernel
theorem dJ5_append_3fe6f_36 : decode cJ5_append_3fe6f 36 = .ok (.putfield 79, 3) := by decide +kernel
theorem dJ5_append_3fe6f_39 : decode cJ5_append_3fe6f 39 = .ok (.iload_n 1, 1) := by decide +kernel
theorem dJ5_append_3fe6f_40 : decode cJ5_append_3fe6f 40 = .ok (.i2b, 1) := by decide +kernel
theorem dJ5_append_3fe6f_41 : decode cJ5_append_3fe6f 41 = .ok (.bastore, 1) := by decide +kernel
theorem dJ5_append_3fe6f_42 : decode cJ5_append_3fe6f 42 = .ok (.goto 33, 3) := by decide +kernel
theorem dJ5_append_3fe6f_45 : decode cJ5_append_3fe6f 45 = .ok (.aload_n 0, 1) := by decide +kernel
theorem dJ5_append_3fe6f_46 : decode cJ5_append_3fe6f 46 = .ok (.invokevirtual 83, 3) := by decide +kernel
theorem dJ5_append_3fe6f_49 : decode cJ5_append_3fe6f 49 = .ok (.ifCond .eq 7, 3) := by decide +kernel
theorem dJ5_append_3fe6f_52 : decode cJ5_append_3fe6f 52 = .ok (.aload_n 0, 1) := by decide +kernel
theorem dJ5_append_3fe6f_53 : decode cJ5_append_3fe6f 53 = .ok (.invokevirtual 195, 3) := by decide +kernel
theorem dJ5_append_3fe6f_56 : decode cJ5_append_3fe6f 56 = .ok (.aload_n 0, 1) := by decide +kernel
theorem dJ5_append_3fe6f_57 : decode cJ5_append_3fe6f 57 = .ok (.getfield 15, 3) := by decide +kernel
theorem dJ5_append_3fe6f_60 : decode cJ5_append_3fe6f 60 = .ok (.aload_n 0, 1) := by decide +kernel
theorem dJ5_append_3fe6f_61 : decode cJ5_append_3fe6f 61 = .ok (.dup, 1) := by decide +kernel
theorem dJ5_append_3fe6f_62 : decode cJ5_append_3fe6f 62 = .ok (.getfield 79, 3) := by decide +kernel
theorem dJ5_append_3fe6f_65 : decode cJ5_append_3fe6f 65 = .ok (.dup_x1, 1) := by decide +kernel
theorem dJ5_append_3fe6f_66 : decode cJ5_append_3fe6f 66 = .ok (.iconst 1, 1) := by decide +kernel
theorem dJ5_append_3fe6f_67 : decode cJ5_append_3fe6f 67 = .ok (.iadd, 1) := by decide +kernel
theorem dJ5_append_3fe6f_68 : decode cJ5_append_3fe6f 68 = .ok (.putfield 79, 3) := by decide +kernel
theorem dJ5_append_3fe6f_71 : decode cJ5_append_3fe6f 71 = .ok (.iload_n 1, 1) := by decide +kernel
theorem dJ5_append_3fe6f_72 : decode cJ5_append_3fe6f 72 = .ok (.invokestatic 197, 3) := by decide +kernel
theorem dJ5_append_3fe6f_75 : decode cJ5_append_3fe6f 75 = .ok (.aload_n 0, 1) := by decide +kernel
theorem dJ5_append_3fe6f_76 : decode cJ5_append_3fe6f 76 = .ok (.areturn, 1) := by decide +kernel
set_option maxRecDepth 20000 in
theorem ggJ5_append_c97b9_J6_stringSize_0f7a4 : GoodIn wsJ5_append_c97b9 wsJ6_stringSize_0f7a4 := goodIn_r _ [6] (by decide +kernel) (by decide +kernel)
set_option maxRecDepth 20000 in
theorem gJ5_append_c97b9_J6_stringSize_0f7a4 : GoodIn wsJ5_append_c97b9 (va_wsS RJ5 245 yJ6_stringSize_0f7a4 wsJ6_stringSize_0f7a4) := goodIn_app (goodIn_of _ (by decide +kernel)) ggJ5_append_c97b9_J6_stringSize_0f7a4
set_option maxRecDepth 20000 in
theorem ggJ5_append_c97b9_J5_ensureCapacityInternal_d00df : GoodIn wsJ5_append_c97b9 wsJ5_ensureCapacityInternal_d00df := goodIn_r _ [12, 2, 13, 14, 15, 16, 17, 11, 18, 19, 20, 21, 22, 23, 24, 25, 26, 27, 28, 29, 30, 31, 32, 33, 34, 35, 36, 37, 38, 39, 40, 41, 42, 43, 44, 45, 46, 47, 48, 49, 91, 92, 93, 94] (by decide +kernel) (by decide +kernel)
set_option maxRecDepth 20000 in
theorem gJ5_append_c97b9_J5_ensureCapacityInternal_d00df_u100J4 : GoodIn wsJ5_append_c97b9 (va_wsU RJ5 100 RJ4 "java/lang/AbstractStringBuilder" ⟨"java/lang/AbstractStringBuilder", "ensureCapacityInternal", "(I)V"⟩ yJ5_ensureCapacityInternal_d00df wsJ5_ensureCapacityInternal_d00df) := goodIn_app (goodIn_of _ (by decide +kernel)) ggJ5_append_c97b9_J5_ensureCapacityInternal_d00df
set_option maxRecDepth 20000 in
theorem ggJ5_append_c97b9_J5_isLatin1_aae02 : GoodIn wsJ5_append_c97b9 wsJ5_isLatin1_aae02 := goodIn_r _ [54, 55, 13, 91, 92, 93, 94] (by decide +kernel) (by decide +kernel)
set_option maxRecDepth 20000 in
theorem gJ5_append_c97b9_J5_isLatin1_aae02_u83J4 : GoodIn wsJ5_append_c97b9 (va_wsU RJ5 83 RJ4 "java/lang/AbstractStringBuilder" ⟨"java/lang/AbstractStringBuilder", "isLatin1", "()Z"⟩ yJ5_isLatin1_aae02 wsJ5_isLatin1_aae02) := goodIn_app (goodIn_of _ (by decide +kernel)) ggJ5_append_c97b9_J5_isLatin1_aae02
set_option maxRecDepth 20000 in
theorem ggJ5_append_c97b9_J6_getChars_ba4f3 : GoodIn wsJ5_append_c97b9 wsJ6_getChars_ba4f3 := goodIn_r _ [58, 59, 60] (by decide +kernel) (by decide +kernel)
set_option maxRecDepth 20000 in
theorem gJ5_append_c97b9_J6_getChars_ba4f3 : GoodIn wsJ5_append_c97b9 (va_wsS RJ5 248 yJ6_getChars_ba4f3 wsJ6_getChars_ba4f3) := goodIn_app (goodIn_of _ (by decide +kernel)) ggJ5_append_c97b9_J6_getChars_ba4f3
set_option maxRecDepth 20000 in
theorem ggJ5_append_c97b9_J2_getChars_46870 : GoodIn wsJ5_append_c97b9 wsJ2_getChars_46870 := goodIn_r _ [64, 65, 66, 67, 63, 68, 69, 70, 71, 72, 73, 74, 75, 76, 77, 78, 79, 80, 81, 82, 83, 84, 85, 86, 87, 88, 89, 90] (by decide +kernel) (by decide +kernel)
set_option maxRecDepth 20000 in
theorem gJ5_append_c97b9_J2_getChars_46870 : GoodIn wsJ5_append_c97b9 (va_wsS RJ5 251 yJ2_getChars_46870 wsJ2_getChars_46870) := goodIn_app (goodIn_of _ (by decide +kernel)) ggJ5_append_c97b9_J2_getChars_46870
theorem dJ5_append_c97b9_0 : decode cJ5_append_c97b9 0 = .ok (.aload_n 0, 1) := by decide +kernel
theorem dJ5_append_c97b9_1 : decode cJ5_append_c97b9 1 = .ok (.getfield 79, 3) := by decide +kernel
theorem dJ5_append_c97b9_4 : decode cJ5_append_c97b9 4 = .ok (.istore_n 2, 1) := by decide +kernel
theorem dJ5_append_c97b9_5 : decode cJ5_append_c97b9 5 = .ok (.iload_n 2, 1) := by decide +kernel
theorem dJ5_append_c97b9_6 : decode cJ5_append_c97b9 6 = .ok (.iload_n 1, 1) := by decide +kernel
theorem dJ5_append_c97b9_7 : decode cJ5_append_c97b9 7 = .ok (.invokestatic 245, 3) := by decide +kernel
theorem dJ5_append_c97b9_10 : decode cJ5_append_c97b9 10 = .ok (.iadd, 1) := by decide +kernel
theorem dJ5_append_c97b9_11 : decode cJ5_append_c97b9 11 = .ok (.istore_n 3, 1) := by decide +kernel
theorem dJ5_append_c97b9_12 : decode cJ5_append_c97b9 12 = .ok (.aload_n 0, 1) := by decide +kernel
theorem dJ5_append_c97b9_13 : decode cJ5_append_c97b9 13 = .ok (.iload_n 3, 1) := by decide +kernel
theorem dJ5_append_c97b9_14 : decode cJ5_append_c97b9 14 = .ok (.invokevirtual 100, 3) := by decide +kernel
theorem dJ5_append_c97b9_17 : decode cJ5_append_c97b9 17 = .ok (.aload_n 0, 1) := by decide +kernel
theorem dJ5_append_c97b9_18 : decode cJ5_append_c97b9 18 = .ok (.invokevirtual 83, 3) := by decide +kernel
theorem dJ5_append_c97b9_21 : decode cJ5_append_c97b9 21 = .ok (.ifCond .eq 16, 3) := by decide +kernel
theorem dJ5_append_c97b9_24 : decode cJ5_append_c97b9 24 = .ok (.iload_n 1, 1) := by decide +kernel
theorem dJ5_append_c97b9_25 : decode cJ5_append_c97b9 25 = .ok (.iload_n 3, 1) := by decide +kernel
theorem dJ5_append_c97b9_26 : decode cJ5_append_c97b9 26 = .ok (.aload_n 0, 1) := by decide +kernel
theorem dJ5_append_c97b9_27 : decode cJ5_append_c97b9 27 = .ok (.getfield 15, 3) := by decide +kernel
theorem dJ5_append_c97b9_30 : decode cJ5_append_c97b9 30 = .ok (.invokestatic 248, 3) := by decide +kernel
theorem dJ5_append_c97b9_33 : decode cJ5_append_c97b9 33 = .ok (.pop, 1) := by decide +kernel
theorem dJ5_append_c97b9_34 : decode cJ5_append_c97b9 34 = .ok (.goto 14, 3) := by decide +kernel
theorem dJ5_append_c97b9_37 : decode cJ5_append_c97b9 37 = .ok (.iload_n 1, 1) := by decide +kernel
theorem dJ5_append_c97b9_38 : decode cJ5_append_c97b9 38 = .ok (.iload_n 2, 1) := by decide +kernel
theorem dJ5_append_c97b9_39 : decode cJ5_append_c97b9 39 = .ok (.iload_n 3, 1) := by decide +kernel
theorem dJ5_append_c97b9_40 : decode cJ5_append_c97b9 40 = .ok (.aload_n 0, 1) := by decide +kernel
theorem dJ5_append_c97b9_41 : decode cJ5_append_c97b9 41 = .ok (.getfield 15, 3) := by decide +kernel
theorem dJ5_append_c97b9_44 : decode cJ5_append_c97b9 44 = .ok (.invokestatic 251, 3) := by decide +kernel
theorem dJ5_append_c97b9_47 : decode cJ5_append_c97b9 47 = .ok (.pop, 1) := by decide +kernel
theorem dJ5_append_c97b9_48 : decode cJ5_append_c97b9 48 = .ok (.aload_n 0, 1) := by decide +kernel
theorem dJ5_append_c97b9_49 : decode cJ5_append_c97b9 49 = .ok (.iload_n 3, 1) := by decide +kernel
theorem dJ5_append_c97b9_50 : decode cJ5_append_c97b9 50 = .ok (.putfield 79, 3) := by decide +kernel
theorem dJ5_append_c97b9_53 : decode cJ5_append_c97b9 53 = .ok (.aload_n 0, 1) := by decide +kernel
theorem dJ5_append_c97b9_54 : decode cJ5_append_c97b9 54 = .ok (.areturn, 1) := by decide +kernel
