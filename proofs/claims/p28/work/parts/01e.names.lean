theorem dJ2_getChars_ba4f3_62 : decode cJ2_getChars_ba4f3 62 = .ok (.iload 5, 2) := by decide +kernel
theorem dJ2_getChars_ba4f3_64 : decode cJ2_getChars_ba4f3 64 = .ok (.getstatic 407, 3) := by decide +kernel
theorem dJ2_getChars_ba4f3_67 : decode cJ2_getChars_ba4f3 67 = .ok (.iload 4, 2) := by decide +kernel
theorem dJ2_getChars_ba4f3_69 : decode cJ2_getChars_ba4f3 69 = .ok (.baload, 1) := by decide +kernel
theorem dJ2_getChars_ba4f3_70 : decode cJ2_getChars_ba4f3 70 = .ok (.invokestatic 111, 3) := by decide +kernel
theorem dJ2_getChars_ba4f3_73 : decode cJ2_getChars_ba4f3 73 = .ok (.goto (-51), 3) := by decide +kernel
theorem dJ2_getChars_ba4f3_76 : decode cJ2_getChars_ba4f3 76 = .ok (.aload_n 2, 1) := by decide +kernel
theorem dJ2_getChars_ba4f3_77 : decode cJ2_getChars_ba4f3 77 = .ok (.iinc 5 (-1), 3) := by decide +kernel
theorem dJ2_getChars_ba4f3_80 : decode cJ2_getChars_ba4f3 80 = .ok (.iload 5, 2) := by decide +kernel
theorem dJ2_getChars_ba4f3_82 : decode cJ2_getChars_ba4f3 82 = .ok (.getstatic 403, 3) := by decide +kernel
theorem dJ2_getChars_ba4f3_85 : decode cJ2_getChars_ba4f3 85 = .ok (.iload_n 0, 1) := by decide +kernel
theorem dJ2_getChars_ba4f3_86 : decode cJ2_getChars_ba4f3 86 = .ok (.ineg, 1) := by decide +kernel
theorem dJ2_getChars_ba4f3_87 : decode cJ2_getChars_ba4f3 87 = .ok (.baload, 1) := by decide +kernel
theorem dJ2_getChars_ba4f3_88 : decode cJ2_getChars_ba4f3 88 = .ok (.invokestatic 111, 3) := by decide +kernel
theorem dJ2_getChars_ba4f3_91 : decode cJ2_getChars_ba4f3 91 = .ok (.iload_n 0, 1) := by decide +kernel
theorem dJ2_getChars_ba4f3_92 : decode cJ2_getChars_ba4f3 92 = .ok (.bipush (-9), 2) := by decide +kernel
theorem dJ2_getChars_ba4f3_94 : decode cJ2_getChars_ba4f3 94 = .ok (.if_icmp .ge 18, 3) := by decide +kernel
theorem dJ2_getChars_ba4f3_97 : decode cJ2_getChars_ba4f3 97 = .ok (.aload_n 2, 1) := by decide +kernel
theorem dJ2_getChars_ba4f3_98 : decode cJ2_getChars_ba4f3 98 = .ok (.iinc 5 (-1), 3) := by decide +kernel
theorem dJ2_getChars_ba4f3_101 : decode cJ2_getChars_ba4f3 101 = .ok (.iload 5, 2) := by decide +kernel
theorem dJ2_getChars_ba4f3_103 : decode cJ2_getChars_ba4f3 103 = .ok (.getstatic 407, 3) := by decide +kernel
theorem dJ2_getChars_ba4f3_106 : decode cJ2_getChars_ba4f3 106 = .ok (.iload_n 0, 1) := by decide +kernel
theorem dJ2_getChars_ba4f3_107 : decode cJ2_getChars_ba4f3 107 = .ok (.ineg, 1) := by decide +kernel
theorem dJ2_getChars_ba4f3_108 : decode cJ2_getChars_ba4f3 108 = .ok (.baload, 1) := by decide +kernel
theorem dJ2_getChars_ba4f3_109 : decode cJ2_getChars_ba4f3 109 = .ok (.invokestatic 111, 3) := by decide +kernel
theorem dJ2_getChars_ba4f3_112 : decode cJ2_getChars_ba4f3 112 = .ok (.iload 6, 2) := by decide +kernel
theorem dJ2_getChars_ba4f3_114 : decode cJ2_getChars_ba4f3 114 = .ok (.ifCond .eq 14, 3) := by decide +kernel
theorem dJ2_getChars_ba4f3_117 : decode cJ2_getChars_ba4f3 117 = .ok (.aload_n 2, 1) := by decide +kernel
theorem dJ2_getChars_ba4f3_118 : decode cJ2_getChars_ba4f3 118 = .ok (.iinc 5 (-1), 3) := by decide +kernel
theorem dJ2_getChars_ba4f3_121 : decode cJ2_getChars_ba4f3 121 = .ok (.iload 5, 2) := by decide +kernel
theorem dJ2_getChars_ba4f3_123 : decode cJ2_getChars_ba4f3 123 = .ok (.bipush 45, 2) := by decide +kernel
theorem dJ2_getChars_ba4f3_125 : decode cJ2_getChars_ba4f3 125 = .ok (.invokestatic 111, 3) := by decide +kernel
theorem dJ2_getChars_ba4f3_128 : decode cJ2_getChars_ba4f3 128 = .ok (.iload 5, 2) := by decide +kernel
theorem dJ2_getChars_ba4f3_130 : decode cJ2_getChars_ba4f3 130 = .ok (.ireturn, 1) := by decide +kernel
set_option maxRecDepth 20000 in
theorem ggJ2_checkIndex_2214a_J2_length_9d52b : GoodIn wsJ2_checkIndex_2214a wsJ2_length_9d52b := goodIn_r _ [4] (by decide +kernel) (by decide +kernel)
set_option maxRecDepth 20000 in
theorem gJ2_checkIndex_2214a_J2_length_9d52b : GoodIn wsJ2_checkIndex_2214a (va_wsS RJ2 48 yJ2_length_9d52b wsJ2_length_9d52b) := goodIn_app (goodIn_of _ (by decide +kernel)) ggJ2_checkIndex_2214a_J2_length_9d52b
set_option maxRecDepth 20000 in
theorem ggJ2_checkIndex_2214a_J0_checkIndex_df160 : GoodIn wsJ2_checkIndex_2214a wsJ0_checkIndex_df160 := goodIn_r _ [8, 9, 10, 11, 12, 13] (by decide +kernel) (by decide +kernel)
set_option maxRecDepth 20000 in
theorem gJ2_checkIndex_2214a_J0_checkIndex_df160 : GoodIn wsJ2_checkIndex_2214a (va_wsS RJ2 414 yJ0_checkIndex_df160 wsJ0_checkIndex_df160) := goodIn_app (goodIn_of _ (by decide +kernel)) ggJ2_checkIndex_2214a_J0_checkIndex_df160
theorem dJ2_checkIndex_2214a_0 : decode cJ2_checkIndex_2214a 0 = .ok (.iload_n 0, 1) := by decide +kernel
theorem dJ2_checkIndex_2214a_1 : decode cJ2_checkIndex_2214a 1 = .ok (.aload_n 1, 1) := by decide +kernel
theorem dJ2_checkIndex_2214a_2 : decode cJ2_checkIndex_2214a 2 = .ok (.invokestatic 48, 3) := by decide +kernel
theorem dJ2_checkIndex_2214a_5 : decode cJ2_checkIndex_2214a 5 = .ok (.invokestatic 414, 3) := by decide +kernel
theorem dJ2_checkIndex_2214a_8 : decode cJ2_checkIndex_2214a 8 = .ok (.return_, 1) := by decide +kernel
set_option maxRecDepth 20000 in
theorem ggJ2_checkBoundsBeginEnd_d044e_J2_length_9d52b : GoodIn wsJ2_checkBoundsBeginEnd_d044e wsJ2_length_9d52b := goodIn_r _ [4] (by decide +kernel) (by decide +kernel)
set_option maxRecDepth 20000 in
theorem gJ2_checkBoundsBeginEnd_d044e_J2_length_9d52b : GoodIn wsJ2_checkBoundsBeginEnd_d044e (va_wsS RJ2 48 yJ2_length_9d52b wsJ2_length_9d52b) := goodIn_app (goodIn_of _ (by decide +kernel)) ggJ2_checkBoundsBeginEnd_d044e_J2_length_9d52b
set_option maxRecDepth 20000 in
theorem ggJ2_checkBoundsBeginEnd_d044e_J0_checkBoundsBeginEnd_23922 : GoodIn wsJ2_checkBoundsBeginEnd_d044e wsJ0_checkBoundsBeginEnd_23922 := goodIn_r _ [8, 9, 10, 11, 12, 13] (by decide +kernel) (by decide +kernel)
set_option maxRecDepth 20000 in
theorem gJ2_checkBoundsBeginEnd_d044e_J0_checkBoundsBeginEnd_23922 : GoodIn wsJ2_checkBoundsBeginEnd_d044e (va_wsS RJ2 241 yJ0_checkBoundsBeginEnd_23922 wsJ0_checkBoundsBeginEnd_23922) := goodIn_app (goodIn_of _ (by decide +kernel)) ggJ2_checkBoundsBeginEnd_d044e_J0_checkBoundsBeginEnd_23922
theorem dJ2_checkBoundsBeginEnd_d044e_0 : decode cJ2_checkBoundsBeginEnd_d044e 0 = .ok (.iload_n 0, 1) := by decide +kernel
theorem dJ2_checkBoundsBeginEnd_d044e_1 : decode cJ2_checkBoundsBeginEnd_d044e 1 = .ok (.iload_n 1, 1) := by decide +kernel
theorem dJ2_checkBoundsBeginEnd_d044e_2 : decode cJ2_checkBoundsBeginEnd_d044e 2 = .ok (.aload_n 2, 1) := by decide +kernel
theorem dJ2_checkBoundsBeginEnd_d044e_3 : decode cJ2_checkBoundsBeginEnd_d044e 3 = .ok (.invokestatic 48, 3) := by decide +kernel
theorem dJ2_checkBoundsBeginEnd_d044e_6 : decode cJ2_checkBoundsBeginEnd_d044e 6 = .ok (.invokestatic 241, 3) := by decide +kernel
theorem dJ2_checkBoundsBeginEnd_d044e_9 : decode cJ2_checkBoundsBeginEnd_d044e 9 = .ok (.return_, 1) := by decide +kernel
set_option maxRecDepth 20000 in
theorem ggJ2_checkBoundsOffCount_d044e_J2_length_9d52b : GoodIn wsJ2_checkBoundsOffCount_d044e wsJ2_length_9d52b := goodIn_r _ [4] (by decide +kernel) (by decide +kernel)
set_option maxRecDepth 20000 in
theorem gJ2_checkBoundsOffCount_d044e_J2_length_9d52b : GoodIn wsJ2_checkBoundsOffCount_d044e (va_wsS RJ2 48 yJ2_length_9d52b wsJ2_length_9d52b) := goodIn_app (goodIn_of _ (by decide +kernel)) ggJ2_checkBoundsOffCount_d044e_J2_length_9d52b
set_option maxRecDepth 20000 in
theorem ggJ2_checkBoundsOffCount_d044e_J0_checkBoundsOffCount_cabcc : GoodIn wsJ2_checkBoundsOffCount_d044e wsJ0_checkBoundsOffCount_cabcc := goodIn_r _ [8, 9, 10, 11, 12, 13] (by decide +kernel) (by decide +kernel)
set_option maxRecDepth 20000 in
theorem gJ2_checkBoundsOffCount_d044e_J0_checkBoundsOffCount_cabcc : GoodIn wsJ2_checkBoundsOffCount_d044e (va_wsS RJ2 419 yJ0_checkBoundsOffCount_cabcc wsJ0_checkBoundsOffCount_cabcc) := goodIn_app (goodIn_of _ (by decide +kernel)) ggJ2_checkBoundsOffCount_d044e_J0_checkBoundsOffCount_cabcc
theorem dJ2_checkBoundsOffCount_d044e_0 : decode cJ2_checkBoundsOffCount_d044e 0 = .ok (.iload_n 0, 1) := by decide +kernel
theorem dJ2_checkBoundsOffCount_d044e_1 : decode cJ2_checkBoundsOffCount_d044e 1 = .ok (.iload_n 1, 1) := by decide +kernel
theorem dJ2_checkBoundsOffCount_d044e_2 : decode cJ2_checkBoundsOffCount_d044e 2 = .ok (.aload_n 2, 1) := by decide +kernel
theorem dJ2_checkBoundsOffCount_d044e_3 : decode cJ2_checkBoundsOffCount_d044e 3 = .ok (.invokestatic 48, 3) := by decide +kernel
theorem dJ2_checkBoundsOffCount_d044e_6 : decode cJ2_checkBoundsOffCount_d044e 6 = .ok (.invokestatic 419, 3) := by decide +kernel
theorem dJ2_checkBoundsOffCount_d044e_9 : decode cJ2_checkBoundsOffCount_d044e 9 = .ok (.pop, 1) := by decide +kernel
theorem dJ2_checkBoundsOffCount_d044e_10 : decode cJ2_checkBoundsOffCount_d044e 10 = .ok (.return_, 1) := by decide +kernel
theorem dJ7_copyOf_9075b_0 : decode cJ7_copyOf_9075b 0 = .ok (.iload_n 1, 1) := by decide +kernel
theorem dJ7_copyOf_9075b_1 : decode cJ7_copyOf_9075b 1 = .ok (.aload_n 0, 1) := by decide +kernel
theorem dJ7_copyOf_9075b_2 : decode cJ7_copyOf_9075b 2 = .ok (.arraylength, 1) := by decide +kernel
theorem dJ7_copyOf_9075b_3 : decode cJ7_copyOf_9075b 3 = .ok (.if_icmp .ne 11, 3) := by decide +kernel
theorem dJ7_copyOf_9075b_6 : decode cJ7_copyOf_9075b 6 = .ok (.aload_n 0, 1) := by decide +kernel
theorem dJ7_copyOf_9075b_7 : decode cJ7_copyOf_9075b 7 = .ok (.invokevirtual 310, 3) := by decide +kernel
theorem dJ7_copyOf_9075b_10 : decode cJ7_copyOf_9075b 10 = .ok (.checkcast 311, 3) := by decide +kernel
theorem dJ7_copyOf_9075b_13 : decode cJ7_copyOf_9075b 13 = .ok (.areturn, 1) := by decide +kernel
theorem dJ7_copyOf_9075b_14 : decode cJ7_copyOf_9075b 14 = .ok (.iload_n 1, 1) := by decide +kernel
theorem dJ7_copyOf_9075b_15 : decode cJ7_copyOf_9075b 15 = .ok (.newarray .byte, 2) := by decide +kernel
theorem dJ7_copyOf_9075b_17 : decode cJ7_copyOf_9075b 17 = .ok (.astore_n 2, 1) := by decide +kernel
theorem dJ7_copyOf_9075b_18 : decode cJ7_copyOf_9075b 18 = .ok (.aload_n 0, 1) := by decide +kernel
theorem dJ7_copyOf_9075b_19 : decode cJ7_copyOf_9075b 19 = .ok (.iconst 0, 1) := by decide +kernel
theorem dJ7_copyOf_9075b_20 : decode cJ7_copyOf_9075b 20 = .ok (.aload_n 2, 1) := by decide +kernel
theorem dJ7_copyOf_9075b_21 : decode cJ7_copyOf_9075b 21 = .ok (.iconst 0, 1) := by decide +kernel
theorem dJ7_copyOf_9075b_22 : decode cJ7_copyOf_9075b 22 = .ok (.aload_n 0, 1) := by decide +kernel
theorem dJ7_copyOf_9075b_23 : decode cJ7_copyOf_9075b 23 = .ok (.arraylength, 1) := by decide +kernel
theorem dJ7_copyOf_9075b_24 : decode cJ7_copyOf_9075b 24 = .ok (.iload_n 1, 1) := by decide +kernel
theorem dJ7_copyOf_9075b_25 : decode cJ7_copyOf_9075b 25 = .ok (.invokestatic 304, 3) := by decide +kernel
theorem dJ7_copyOf_9075b_28 : decode cJ7_copyOf_9075b 28 = .ok (.invokestatic 150, 3) := by decide +kernel
theorem dJ7_copyOf_9075b_31 : decode cJ7_copyOf_9075b 31 = .ok (.aload_n 2, 1) := by decide +kernel
theorem dJ7_copyOf_9075b_32 : decode cJ7_copyOf_9075b 32 = .ok (.areturn, 1) := by decide +kernel
set_option maxRecDepth 20000 in
theorem ggJ8_newLength_cabcc_J8_hugeLength_7cf53 : GoodIn wsJ8_newLength_cabcc wsJ8_hugeLength_7cf53 := goodIn_r _ [9, 5] (by decide +kernel) (by decide +kernel)
set_option maxRecDepth 20000 in
theorem gJ8_newLength_cabcc_J8_hugeLength_7cf53 : GoodIn wsJ8_newLength_cabcc (va_wsS RJ8 201 yJ8_hugeLength_7cf53 wsJ8_hugeLength_7cf53) := goodIn_app (goodIn_of _ (by decide +kernel)) ggJ8_newLength_cabcc_J8_hugeLength_7cf53
theorem dJ8_newLength_cabcc_0 : decode cJ8_newLength_cabcc 0 = .ok (.iload_n 0, 1) := by decide +kernel
theorem dJ8_newLength_cabcc_1 : decode cJ8_newLength_cabcc 1 = .ok (.iload_n 1, 1) := by decide +kernel
theorem dJ8_newLength_cabcc_2 : decode cJ8_newLength_cabcc 2 = .ok (.iload_n 2, 1) := by decide +kernel
theorem dJ8_newLength_cabcc_3 : decode cJ8_newLength_cabcc 3 = .ok (.invokestatic 194, 3) := by decide +kernel
theorem dJ8_newLength_cabcc_6 : decode cJ8_newLength_cabcc 6 = .ok (.iadd, 1) := by decide +kernel
theorem dJ8_newLength_cabcc_7 : decode cJ8_newLength_cabcc 7 = .ok (.istore_n 3, 1) := by decide +kernel
theorem dJ8_newLength_cabcc_8 : decode cJ8_newLength_cabcc 8 = .ok (.iconst 0, 1) := by decide +kernel
theorem dJ8_newLength_cabcc_9 : decode cJ8_newLength_cabcc 9 = .ok (.iload_n 3, 1) := by decide +kernel
theorem dJ8_newLength_cabcc_10 : decode cJ8_newLength_cabcc 10 = .ok (.if_icmp .ge 11, 3) := by decide +kernel
theorem dJ8_newLength_cabcc_13 : decode cJ8_newLength_cabcc 13 = .ok (.iload_n 3, 1) := by decide +kernel
theorem dJ8_newLength_cabcc_14 : decode cJ8_newLength_cabcc 14 = .ok (.ldc 200, 2) := by decide +kernel
theorem dJ8_newLength_cabcc_16 : decode cJ8_newLength_cabcc 16 = .ok (.if_icmp .gt 5, 3) := by decide +kernel
theorem dJ8_newLength_cabcc_19 : decode cJ8_newLength_cabcc 19 = .ok (.iload_n 3, 1) := by decide +kernel
theorem dJ8_newLength_cabcc_20 : decode cJ8_newLength_cabcc 20 = .ok (.ireturn, 1) := by decide +kernel
theorem dJ8_newLength_cabcc_21 : decode cJ8_newLength_cabcc 21 = .ok (.iload_n 0, 1) := by decide +kernel
theorem dJ8_newLength_cabcc_22 : decode cJ8_newLength_cabcc 22 = .ok (.iload_n 1, 1) := by decide +kernel
theorem dJ8_newLength_cabcc_23 : decode cJ8_newLength_cabcc 23 = .ok (.invokestatic 201, 3) := by decide +kernel
theorem dJ8_newLength_cabcc_26 : decode cJ8_newLength_cabcc 26 = .ok (.ireturn, 1) := by decide +kernel
theorem dJ8_hugeLength_7cf53_0 : decode cJ8_hugeLength_7cf53 0 = .ok (.iload_n 0, 1) := by decide +kernel
theorem dJ8_hugeLength_7cf53_1 : decode cJ8_hugeLength_7cf53 1 = .ok (.iload_n 1, 1) := by decide +kernel
theorem dJ8_hugeLength_7cf53_2 : decode cJ8_hugeLength_7cf53 2 = .ok (.iadd, 1) := by decide +kernel
theorem dJ8_hugeLength_7cf53_3 : decode cJ8_hugeLength_7cf53 3 = .ok (.istore_n 2, 1) := by decide +kernel
theorem dJ8_hugeLength_7cf53_4 : decode cJ8_hugeLength_7cf53 4 = .ok (.iload_n 2, 1) := by decide +kernel
theorem dJ8_hugeLength_7cf53_5 : decode cJ8_hugeLength_7cf53 5 = .ok (.ifCond .ge 44, 3) := by decide +kernel
theorem dJ8_hugeLength_7cf53_8 : decode cJ8_hugeLength_7cf53 8 = .ok (.new 204, 3) := by decide +kernel
theorem dJ8_hugeLength_7cf53_11 : decode cJ8_hugeLength_7cf53 11 = .ok (.dup, 1) := by decide +kernel
theorem dJ8_hugeLength_7cf53_12 : decode cJ8_hugeLength_7cf53 12 = .ok (.new 89, 3) := by decide +kernel
theorem dJ8_hugeLength_7cf53_15 : decode cJ8_hugeLength_7cf53 15 = .ok (.dup, 1) := by decide +kernel
theorem dJ8_hugeLength_7cf53_16 : decode cJ8_hugeLength_7cf53 16 = .ok (.invokespecial 91, 3) := by decide +kernel
theorem dJ8_hugeLength_7cf53_19 : decode cJ8_hugeLength_7cf53 19 = .ok (.ldc 206, 2) := by decide +kernel
theorem dJ8_hugeLength_7cf53_21 : decode cJ8_hugeLength_7cf53 21 = .ok (.invokevirtual 94, 3) := by decide +kernel
theorem dJ8_hugeLength_7cf53_24 : decode cJ8_hugeLength_7cf53 24 = .ok (.iload_n 0, 1) := by decide +kernel
theorem dJ8_hugeLength_7cf53_25 : decode cJ8_hugeLength_7cf53 25 = .ok (.invokevirtual 98, 3) := by decide +kernel
theorem dJ8_hugeLength_7cf53_28 : decode cJ8_hugeLength_7cf53 28 = .ok (.ldc 208, 2) := by decide +kernel
theorem dJ8_hugeLength_7cf53_30 : decode cJ8_hugeLength_7cf53 30 = .ok (.invokevirtual 94, 3) := by decide +kernel
theorem dJ8_hugeLength_7cf53_33 : decode cJ8_hugeLength_7cf53 33 = .ok (.iload_n 1, 1) := by decide +kernel
theorem dJ8_hugeLength_7cf53_34 : decode cJ8_hugeLength_7cf53 34 = .ok (.invokevirtual 98, 3) := by decide +kernel
theorem dJ8_hugeLength_7cf53_37 : decode cJ8_hugeLength_7cf53 37 = .ok (.ldc 210, 2) := by decide +kernel
theorem dJ8_hugeLength_7cf53_39 : decode cJ8_hugeLength_7cf53 39 = .ok (.invokevirtual 94, 3) := by decide +kernel
theorem dJ8_hugeLength_7cf53_42 : decode cJ8_hugeLength_7cf53 42 = .ok (.invokevirtual 101, 3) := by decide +kernel
theorem dJ8_hugeLength_7cf53_45 : decode cJ8_hugeLength_7cf53 45 = .ok (.invokespecial 212, 3) := by decide +kernel
theorem dJ8_hugeLength_7cf53_48 : decode cJ8_hugeLength_7cf53 48 = .ok (.athrow, 1) := by decide +kernel
theorem dJ8_hugeLength_7cf53_49 : decode cJ8_hugeLength_7cf53 49 = .ok (.iload_n 2, 1) := by decide +kernel
theorem dJ8_hugeLength_7cf53_50 : decode cJ8_hugeLength_7cf53 50 = .ok (.ldc 200, 2) := by decide +kernel
theorem dJ8_hugeLength_7cf53_52 : decode cJ8_hugeLength_7cf53 52 = .ok (.if_icmp .gt 6, 3) := by decide +kernel
theorem dJ8_hugeLength_7cf53_55 : decode cJ8_hugeLength_7cf53 55 = .ok (.ldc 200, 2) := by decide +kernel
theorem dJ8_hugeLength_7cf53_57 : decode cJ8_hugeLength_7cf53 57 = .ok (.ireturn, 1) := by decide +kernel
theorem dJ8_hugeLength_7cf53_58 : decode cJ8_hugeLength_7cf53 58 = .ok (.iload_n 2, 1) := by decide +kernel
theorem dJ8_hugeLength_7cf53_59 : decode cJ8_hugeLength_7cf53 59 = .ok (.ireturn, 1) := by decide +kernel
theorem dJ3_checkIndex_8e157_0 : decode cJ3_checkIndex_8e157 0 = .ok (.iload_n 0, 1) := by decide +kernel
theorem dJ3_checkIndex_8e157_1 : decode cJ3_checkIndex_8e157 1 = .ok (.ifCond .lt 8, 3) := by decide +kernel
theorem dJ3_checkIndex_8e157_4 : decode cJ3_checkIndex_8e157 4 = .ok (.iload_n 0, 1) := by decide +kernel
theorem dJ3_checkIndex_8e157_5 : decode cJ3_checkIndex_8e157 5 = .ok (.iload_n 1, 1) := by decide +kernel
theorem dJ3_checkIndex_8e157_6 : decode cJ3_checkIndex_8e157 6 = .ok (.if_icmp .lt 10, 3) := by decide +kernel
theorem dJ3_checkIndex_8e157_9 : decode cJ3_checkIndex_8e157 9 = .ok (.aload_n 2, 1) := by decide +kernel
theorem dJ3_checkIndex_8e157_10 : decode cJ3_checkIndex_8e157 10 = .ok (.iload_n 0, 1) := by decide +kernel
theorem dJ3_checkIndex_8e157_11 : decode cJ3_checkIndex_8e157 11 = .ok (.iload_n 1, 1) := by decide +kernel
theorem dJ3_checkIndex_8e157_12 : decode cJ3_checkIndex_8e157 12 = .ok (.invokestatic 95, 3) := by decide +kernel
theorem dJ3_checkIndex_8e157_15 : decode cJ3_checkIndex_8e157 15 = .ok (.athrow, 1) := by decide +kernel
theorem dJ3_checkIndex_8e157_16 : decode cJ3_checkIndex_8e157 16 = .ok (.iload_n 0, 1) := by decide +kernel
theorem dJ3_checkIndex_8e157_17 : decode cJ3_checkIndex_8e157 17 = .ok (.ireturn, 1) := by decide +kernel
theorem dJ3_checkFromToIndex_8c36e_0 : decode cJ3_checkFromToIndex_8c36e 0 = .ok (.iload_n 0, 1) := by decide +kernel
theorem dJ3_checkFromToIndex_8c36e_1 : decode cJ3_checkFromToIndex_8c36e 1 = .ok (.ifCond .lt 13, 3) := by decide +kernel
theorem dJ3_checkFromToIndex_8c36e_4 : decode cJ3_checkFromToIndex_8c36e 4 = .ok (.iload_n 0, 1) := by decide +kernel
theorem dJ3_checkFromToIndex_8c36e_5 : decode cJ3_checkFromToIndex_8c36e 5 = .ok (.iload_n 1, 1) := by decide +kernel
theorem dJ3_checkFromToIndex_8c36e_6 : decode cJ3_checkFromToIndex_8c36e 6 = .ok (.if_icmp .gt 8, 3) := by decide +kernel
theorem dJ3_checkFromToIndex_8c36e_9 : decode cJ3_checkFromToIndex_8c36e 9 = .ok (.iload_n 1, 1) := by decide +kernel
theorem dJ3_checkFromToIndex_8c36e_10 : decode cJ3_checkFromToIndex_8c36e 10 = .ok (.iload_n 2, 1) := by decide +kernel
theorem dJ3_checkFromToIndex_8c36e_11 : decode cJ3_checkFromToIndex_8c36e 11 = .ok (.if_icmp .le 11, 3) := by decide +kernel
theorem dJ3_checkFromToIndex_8c36e_14 : decode cJ3_checkFromToIndex_8c36e 14 = .ok (.aload_n 3, 1) := by decide +kernel
theorem dJ3_checkFromToIndex_8c36e_15 : decode cJ3_checkFromToIndex_8c36e 15 = .ok (.iload_n 0, 1) := by decide +kernel
theorem dJ3_checkFromToIndex_8c36e_16 : decode cJ3_checkFromToIndex_8c36e 16 = .ok (.iload_n 1, 1) := by decide +kernel
theorem dJ3_checkFromToIndex_8c36e_17 : decode cJ3_checkFromToIndex_8c36e 17 = .ok (.iload_n 2, 1) := by decide +kernel
theorem dJ3_checkFromToIndex_8c36e_18 : decode cJ3_checkFromToIndex_8c36e 18 = .ok (.invokestatic 99, 3) := by decide +kernel
theorem dJ3_checkFromToIndex_8c36e_21 : decode cJ3_checkFromToIndex_8c36e 21 = .ok (.athrow, 1) := by decide +kernel
theorem dJ3_checkFromToIndex_8c36e_22 : decode cJ3_checkFromToIndex_8c36e 22 = .ok (.iload_n 0, 1) := by decide +kernel
theorem dJ3_checkFromToIndex_8c36e_23 : decode cJ3_checkFromToIndex_8c36e 23 = .ok (.ireturn, 1) := by decide +kernel
theorem dJ3_checkFromIndexSize_8c36e_0 : decode cJ3_checkFromIndexSize_8c36e 0 = .ok (.iload_n 2, 1) := by decide +kernel
theorem dJ3_checkFromIndexSize_8c36e_1 : decode cJ3_checkFromIndexSize_8c36e 1 = .ok (.iload_n 0, 1) := by decide +kernel
theorem dJ3_checkFromIndexSize_8c36e_2 : decode cJ3_checkFromIndexSize_8c36e 2 = .ok (.ior, 1) := by decide +kernel
theorem dJ3_checkFromIndexSize_8c36e_3 : decode cJ3_checkFromIndexSize_8c36e 3 = .ok (.iload_n 1, 1) := by decide +kernel
theorem dJ3_checkFromIndexSize_8c36e_4 : decode cJ3_checkFromIndexSize_8c36e 4 = .ok (.ior, 1) := by decide +kernel
theorem dJ3_checkFromIndexSize_8c36e_5 : decode cJ3_checkFromIndexSize_8c36e 5 = .ok (.ifCond .lt 10, 3) := by decide +kernel
theorem dJ3_checkFromIndexSize_8c36e_8 : decode cJ3_checkFromIndexSize_8c36e 8 = .ok (.iload_n 1, 1) := by decide +kernel
theorem dJ3_checkFromIndexSize_8c36e_9 : decode cJ3_checkFromIndexSize_8c36e 9 = .ok (.iload_n 2, 1) := by decide +kernel
theorem dJ3_checkFromIndexSize_8c36e_10 : decode cJ3_checkFromIndexSize_8c36e 10 = .ok (.iload_n 0, 1) := by decide +kernel
theorem dJ3_checkFromIndexSize_8c36e_11 : decode cJ3_checkFromIndexSize_8c36e 11 = .ok (.isub, 1) := by decide +kernel
theorem dJ3_checkFromIndexSize_8c36e_12 : decode cJ3_checkFromIndexSize_8c36e 12 = .ok (.if_icmp .le 11, 3) := by decide +kernel
theorem dJ3_checkFromIndexSize_8c36e_15 : decode cJ3_checkFromIndexSize_8c36e 15 = .ok (.aload_n 3, 1) := by decide +kernel
theorem dJ3_checkFromIndexSize_8c36e_16 : decode cJ3_checkFromIndexSize_8c36e 16 = .ok (.iload_n 0, 1) := by decide +kernel
theorem dJ3_checkFromIndexSize_8c36e_17 : decode cJ3_checkFromIndexSize_8c36e 17 = .ok (.iload_n 1, 1) := by decide +kernel
theorem dJ3_checkFromIndexSize_8c36e_18 : decode cJ3_checkFromIndexSize_8c36e 18 = .ok (.iload_n 2, 1) := by decide +kernel
theorem dJ3_checkFromIndexSize_8c36e_19 : decode cJ3_checkFromIndexSize_8c36e 19 = .ok (.invokestatic 103, 3) := by decide +kernel
theorem dJ3_checkFromIndexSize_8c36e_22 : decode cJ3_checkFromIndexSize_8c36e 22 = .ok (.athrow, 1) := by decide +kernel
theorem dJ3_checkFromIndexSize_8c36e_23 : decode cJ3_checkFromIndexSize_8c36e 23 = .ok (.iload_n 0, 1) := by decide +kernel
theorem dJ3_checkFromIndexSize_8c36e_24 : decode cJ3_checkFromIndexSize_8c36e 24 = .ok (.ireturn, 1) := by decide +kernel
theorem dL_draw_0 : decode cL_draw 0 = .ok (.iload_n 1, 1) := by decide +kernel
theorem dL_draw_1 : decode cL_draw 1 = .ok (.aload_n 0, 1) := by decide +kernel
theorem dL_draw_2 : decode cL_draw 2 = .ok (.arraylength, 1) := by decide +kernel
theorem dL_draw_3 : decode cL_draw 3 = .ok (.if_icmp .ge 9, 3) := by decide +kernel
theorem dL_draw_6 : decode cL_draw 6 = .ok (.aload_n 0, 1) := by decide +kernel
theorem dL_draw_7 : decode cL_draw 7 = .ok (.iload_n 1, 1) := by decide +kernel
theorem dL_draw_8 : decode cL_draw 8 = .ok (.iaload, 1) := by decide +kernel
theorem dL_draw_9 : decode cL_draw 9 = .ok (.goto 14, 3) := by decide +kernel
theorem dL_draw_12 : decode cL_draw 12 = .ok (.ldc 7, 2) := by decide +kernel
theorem dL_draw_14 : decode cL_draw 14 = .ok (.iload_n 1, 1) := by decide +kernel
theorem dL_draw_15 : decode cL_draw 15 = .ok (.sipush 521, 3) := by decide +kernel
theorem dL_draw_18 : decode cL_draw 18 = .ok (.iadd, 1) := by decide +kernel
theorem dL_draw_19 : decode cL_draw 19 = .ok (.imul, 1) := by decide +kernel
theorem dL_draw_20 : decode cL_draw 20 = .ok (.ldc 8, 2) := by decide +kernel
theorem dL_draw_22 : decode cL_draw 22 = .ok (.iadd, 1) := by decide +kernel
theorem dL_draw_23 : decode cL_draw 23 = .ok (.istore_n 3, 1) := by decide +kernel
theorem dL_draw_24 : decode cL_draw 24 = .ok (.iload_n 3, 1) := by decide +kernel
theorem dL_draw_25 : decode cL_draw 25 = .ok (.ldc 9, 2) := by decide +kernel
theorem dL_draw_27 : decode cL_draw 27 = .ok (.iand, 1) := by decide +kernel
theorem dL_draw_28 : decode cL_draw 28 = .ok (.iload_n 2, 1) := by decide +kernel
theorem dL_draw_29 : decode cL_draw 29 = .ok (.irem, 1) := by decide +kernel
theorem dL_draw_30 : decode cL_draw 30 = .ok (.ireturn, 1) := by decide +kernel
theorem dL_areNear_0 : decode cL_areNear 0 = .ok (.iload_n 0, 1) := by decide +kernel
theorem dL_areNear_1 : decode cL_areNear 1 = .ok (.iconst 4, 1) := by decide +kernel
theorem dL_areNear_2 : decode cL_areNear 2 = .ok (.irem, 1) := by decide +kernel
theorem dL_areNear_3 : decode cL_areNear 3 = .ok (.iload_n 1, 1) := by decide +kernel
theorem dL_areNear_4 : decode cL_areNear 4 = .ok (.iconst 4, 1) := by decide +kernel
theorem dL_areNear_5 : decode cL_areNear 5 = .ok (.irem, 1) := by decide +kernel
theorem dL_areNear_6 : decode cL_areNear 6 = .ok (.isub, 1) := by decide +kernel
theorem dL_areNear_7 : decode cL_areNear 7 = .ok (.istore_n 2, 1) := by decide +kernel
theorem dL_areNear_8 : decode cL_areNear 8 = .ok (.iload_n 0, 1) := by decide +kernel
theorem dL_areNear_9 : decode cL_areNear 9 = .ok (.iconst 4, 1) := by decide +kernel
theorem dL_areNear_10 : decode cL_areNear 10 = .ok (.idiv, 1) := by decide +kernel
theorem dL_areNear_11 : decode cL_areNear 11 = .ok (.iload_n 1, 1) := by decide +kernel
theorem dL_areNear_12 : decode cL_areNear 12 = .ok (.iconst 4, 1) := by decide +kernel
theorem dL_areNear_13 : decode cL_areNear 13 = .ok (.idiv, 1) := by decide +kernel
theorem dL_areNear_14 : decode cL_areNear 14 = .ok (.isub, 1) := by decide +kernel
theorem dL_areNear_15 : decode cL_areNear 15 = .ok (.istore_n 3, 1) := by decide +kernel
theorem dL_areNear_16 : decode cL_areNear 16 = .ok (.iload_n 2, 1) := by decide +kernel
theorem dL_areNear_17 : decode cL_areNear 17 = .ok (.iload_n 2, 1) := by decide +kernel
theorem dL_areNear_18 : decode cL_areNear 18 = .ok (.imul, 1) := by decide +kernel
theorem dL_areNear_19 : decode cL_areNear 19 = .ok (.iload_n 3, 1) := by decide +kernel
theorem dL_areNear_20 : decode cL_areNear 20 = .ok (.iload_n 3, 1) := by decide +kernel
theorem dL_areNear_21 : decode cL_areNear 21 = .ok (.imul, 1) := by decide +kernel
theorem dL_areNear_22 : decode cL_areNear 22 = .ok (.iadd, 1) := by decide +kernel
theorem dL_areNear_23 : decode cL_areNear 23 = .ok (.iconst 1, 1) := by decide +kernel
theorem dL_areNear_24 : decode cL_areNear 24 = .ok (.if_icmp .ne 7, 3) := by decide +kernel
theorem dL_areNear_27 : decode cL_areNear 27 = .ok (.iconst 1, 1) := by decide +kernel
theorem dL_areNear_28 : decode cL_areNear 28 = .ok (.goto 4, 3) := by decide +kernel
theorem dL_areNear_31 : decode cL_areNear 31 = .ok (.iconst 0, 1) := by decide +kernel
theorem dL_areNear_32 : decode cL_areNear 32 = .ok (.ireturn, 1) := by decide +kernel
set_option maxRecDepth 20000 in
theorem ggL_asks_X6_tell : GoodIn wsL_asks wsX6_tell := goodIn_ca (goodIn_ca (goodIn_ca (goodIn_r _ [7, 8, 9, 10, 11, 12, 13, 14, 15, 16, 17, 18, 6, 19, 20, 21, 22, 23, 24, 25, 26, 27, 28, 29, 30, 31, 32, 33, 34, 35, 36, 37, 38, 39, 40, 41, 42, 43, 44, 45, 46, 47, 48, 49, 50, 51, 52, 53, 54, 55, 56, 57, 58, 59, 60, 61, 62, 63, 64, 65, 66, 67, 68, 69, 168, 169, 170, 171, 172, 173, 174, 175, 176, 177, 178, 179, 180, 181, 182, 183, 184, 185, 186, 187, 188, 189, 190, 191, 192, 193, 194, 195, 196, 197, 198, 199, 200, 201] (by decide +kernel) (by decide +kernel)) (goodIn_sub (fun _ h => List.mem_cons_of_mem _ (List.mem_append_left _ (List.mem_append_left _ (List.mem_append_right _ h)))) (by decide +kernel))) (goodIn_sub (fun _ h => List.mem_cons_of_mem _ (List.mem_append_left _ (List.mem_append_right _ h))) (by decide +kernel))) (goodIn_sub (fun _ h => List.mem_cons_of_mem _ (List.mem_append_right _ h)) (by decide +kernel))
set_option maxRecDepth 20000 in
theorem gL_asks_X6_tell : GoodIn wsL_asks (wsV RL 10 RX6 yX6_tell wsX6_tell) := goodIn_app (goodIn_of _ (by decide +kernel)) ggL_asks_X6_tell
set_option maxRecDepth 20000 in
theorem ggL_asks_X6_open : GoodIn wsL_asks wsX6_open := goodIn_ca (goodIn_ca (goodIn_ca (goodIn_r _ [73, 8, 9, 10, 74, 75, 76, 60, 61, 62, 63, 64, 77, 78, 79, 6, 80, 20, 21, 69, 16, 17, 18, 19, 22, 23, 24, 25, 26, 27, 81, 82, 83, 43, 44, 84, 85, 86, 168, 169, 170, 171, 172, 173, 174, 197, 198, 175, 176, 177, 178, 179, 180, 181, 182, 199, 200, 201] (by decide +kernel) (by decide +kernel)) (goodIn_sub (fun _ h => List.mem_cons_of_mem _ (List.mem_append_left _ (List.mem_append_left _ (List.mem_append_right _ h)))) (by decide +kernel))) (goodIn_sub (fun _ h => List.mem_cons_of_mem _ (List.mem_append_left _ (List.mem_append_right _ h))) (by decide +kernel))) (goodIn_sub (fun _ h => List.mem_cons_of_mem _ (List.mem_append_right _ h)) (by decide +kernel))
set_option maxRecDepth 20000 in
theorem gL_asks_X6_open : GoodIn wsL_asks (wsV RL 16 RX6 yX6_open wsX6_open) := goodIn_app (goodIn_of _ (by decide +kernel)) ggL_asks_X6_open
set_option maxRecDepth 20000 in
theorem ggL_asks_X6_challenge : GoodIn wsL_asks wsX6_challenge := goodIn_ca (goodIn_ca (goodIn_r _ [90, 8, 9, 91, 92, 93, 77, 78, 79, 6, 80, 20, 21, 69, 94, 95, 96, 97, 11, 15, 98, 99, 100, 43, 44, 46, 101, 102, 103, 104, 56, 57, 58, 59, 10, 60, 61, 62, 63, 64, 105, 106, 107, 108, 109, 110, 111, 112, 113, 183, 184, 185, 186, 187, 188, 189, 190, 191, 192, 197, 198, 202, 203, 204, 205, 168, 169, 170, 171, 172, 173, 174, 175, 176, 177, 178, 179, 180, 181, 182] (by decide +kernel) (by decide +kernel)) (goodIn_sub (fun _ h => List.mem_cons_of_mem _ (List.mem_append_left _ (List.mem_append_left _ (List.mem_append_right _ h)))) (by decide +kernel))) (goodIn_sub (fun _ h => List.mem_cons_of_mem _ (List.mem_append_left _ (List.mem_append_right _ h))) (by decide +kernel))
set_option maxRecDepth 20000 in
theorem gL_asks_X6_challenge : GoodIn wsL_asks (wsV RL 20 RX6 yX6_challenge wsX6_challenge) := goodIn_app (goodIn_of _ (by decide +kernel)) ggL_asks_X6_challenge
set_option maxRecDepth 20000 in
theorem ggL_asks_X6_sample : GoodIn wsL_asks wsX6_sample := goodIn_ca (goodIn_ca (goodIn_ca (goodIn_r _ [117, 8, 9, 16, 17, 18, 6, 19, 20, 21, 22, 94, 95, 96, 97, 11, 15, 23, 24, 25, 26, 27, 108, 109, 110, 111, 112, 63, 113, 118, 93, 119, 120, 103, 121, 122, 123, 102, 101, 105, 106, 107, 124, 125, 126, 127, 128, 129, 130, 131, 132, 133, 134, 135, 136, 137, 138, 139, 69, 140, 141, 142, 143, 144, 145, 146, 147, 148, 149, 150, 151, 152, 153, 154, 183, 184, 185, 186, 187, 188, 189, 190, 191, 192, 168, 169, 170, 171, 172, 173, 174, 202, 203, 204, 205, 175, 176, 177, 178, 179, 180, 181, 182, 197, 198] (by decide +kernel) (by decide +kernel)) (goodIn_sub (fun _ h => List.mem_cons_of_mem _ (List.mem_append_left _ (List.mem_append_left _ (List.mem_append_right _ h)))) (by decide +kernel))) (goodIn_sub (fun _ h => List.mem_cons_of_mem _ (List.mem_append_left _ (List.mem_append_right _ h))) (by decide +kernel))) (goodIn_sub (fun _ h => List.mem_cons_of_mem _ (List.mem_append_right _ h)) (by decide +kernel))
set_option maxRecDepth 20000 in
theorem gL_asks_X6_sample : GoodIn wsL_asks (wsV RL 23 RX6 yX6_sample wsX6_sample) := goodIn_app (goodIn_of _ (by decide +kernel)) ggL_asks_X6_sample
set_option maxRecDepth 20000 in
theorem ggL_asks_X6_topUp : GoodIn wsL_asks wsX6_topUp := goodIn_ca (goodIn_ca (goodIn_ca (goodIn_r _ [158, 26, 27, 8, 9, 16, 17, 18, 6, 19, 20, 21, 22, 168, 169, 170, 171, 172, 173, 174, 175, 176, 177, 178, 179, 180, 181, 182] (by decide +kernel) (by decide +kernel)) (goodIn_sub (fun _ h => List.mem_cons_of_mem _ (List.mem_append_right _ h)) (by decide +kernel))) (goodIn_sub (fun _ h => List.mem_cons_of_mem _ (List.mem_append_left _ (List.mem_append_left _ (List.mem_append_right _ h)))) (by decide +kernel))) (goodIn_sub (fun _ h => List.mem_cons_of_mem _ (List.mem_append_left _ (List.mem_append_right _ h))) (by decide +kernel))
set_option maxRecDepth 20000 in
theorem gL_asks_X6_topUp : GoodIn wsL_asks (wsV RL 26 RX6 yX6_topUp wsX6_topUp) := goodIn_app (goodIn_of _ (by decide +kernel)) ggL_asks_X6_topUp
set_option maxRecDepth 20000 in
theorem ggL_asks_X6_hang : GoodIn wsL_asks wsX6_hang := goodIn_ca (goodIn_r _ [162, 20, 21, 163, 164, 165, 6, 166, 167, 193, 194, 195, 196, 175, 176, 177, 178, 179, 180, 181, 182] (by decide +kernel) (by decide +kernel)) (goodIn_sub (fun _ h => List.mem_cons_of_mem _ (List.mem_append_left _ (List.mem_append_right _ h))) (by decide +kernel))
set_option maxRecDepth 20000 in
theorem gL_asks_X6_hang : GoodIn wsL_asks (wsV RL 29 RX6 yX6_hang wsX6_hang) := goodIn_app (goodIn_of _ (by decide +kernel)) ggL_asks_X6_hang
theorem dL_asks_0 : decode cL_asks 0 = .ok (.iload_n 1, 1) := by decide +kernel
theorem dL_asks_1 : decode cL_asks 1 = .ok (.ifCond .ne 12, 3) := by decide +kernel
theorem dL_asks_4 : decode cL_asks 4 = .ok (.aload_n 0, 1) := by decide +kernel
theorem dL_asks_5 : decode cL_asks 5 = .ok (.iload_n 2, 1) := by decide +kernel
theorem dL_asks_6 : decode cL_asks 6 = .ok (.iload_n 3, 1) := by decide +kernel
theorem dL_asks_7 : decode cL_asks 7 = .ok (.invokevirtual 10, 3) := by decide +kernel
theorem dL_asks_10 : decode cL_asks 10 = .ok (.goto 69, 3) := by decide +kernel
theorem dL_asks_13 : decode cL_asks 13 = .ok (.iload_n 1, 1) := by decide +kernel
theorem dL_asks_14 : decode cL_asks 14 = .ok (.iconst 1, 1) := by decide +kernel
theorem dL_asks_15 : decode cL_asks 15 = .ok (.if_icmp .ne 14, 3) := by decide +kernel
theorem dL_asks_18 : decode cL_asks 18 = .ok (.aload_n 0, 1) := by decide +kernel
theorem dL_asks_19 : decode cL_asks 19 = .ok (.iload_n 2, 1) := by decide +kernel
theorem dL_asks_20 : decode cL_asks 20 = .ok (.iload_n 3, 1) := by decide +kernel
theorem dL_asks_21 : decode cL_asks 21 = .ok (.iload 4, 2) := by decide +kernel
theorem dL_asks_23 : decode cL_asks 23 = .ok (.invokevirtual 16, 3) := by decide +kernel
theorem dL_asks_26 : decode cL_asks 26 = .ok (.goto 53, 3) := by decide +kernel
theorem dL_asks_29 : decode cL_asks 29 = .ok (.iload_n 1, 1) := by decide +kernel
theorem dL_asks_30 : decode cL_asks 30 = .ok (.iconst 2, 1) := by decide +kernel
theorem dL_asks_31 : decode cL_asks 31 = .ok (.if_icmp .ne 12, 3) := by decide +kernel
theorem dL_asks_34 : decode cL_asks 34 = .ok (.aload_n 0, 1) := by decide +kernel
theorem dL_asks_35 : decode cL_asks 35 = .ok (.iload_n 2, 1) := by decide +kernel
theorem dL_asks_36 : decode cL_asks 36 = .ok (.iload_n 3, 1) := by decide +kernel
theorem dL_asks_37 : decode cL_asks 37 = .ok (.invokevirtual 20, 3) := by decide +kernel
theorem dL_asks_40 : decode cL_asks 40 = .ok (.goto 39, 3) := by decide +kernel
theorem dL_asks_43 : decode cL_asks 43 = .ok (.iload_n 1, 1) := by decide +kernel
theorem dL_asks_44 : decode cL_asks 44 = .ok (.iconst 3, 1) := by decide +kernel
theorem dL_asks_45 : decode cL_asks 45 = .ok (.if_icmp .ne 14, 3) := by decide +kernel
theorem dL_asks_48 : decode cL_asks 48 = .ok (.aload_n 0, 1) := by decide +kernel
theorem dL_asks_49 : decode cL_asks 49 = .ok (.iload_n 2, 1) := by decide +kernel
theorem dL_asks_50 : decode cL_asks 50 = .ok (.iload_n 3, 1) := by decide +kernel
theorem dL_asks_51 : decode cL_asks 51 = .ok (.iload 4, 2) := by decide +kernel
theorem dL_asks_53 : decode cL_asks 53 = .ok (.invokevirtual 23, 3) := by decide +kernel
theorem dL_asks_56 : decode cL_asks 56 = .ok (.goto 23, 3) := by decide +kernel
theorem dL_asks_59 : decode cL_asks 59 = .ok (.iload_n 1, 1) := by decide +kernel
theorem dL_asks_60 : decode cL_asks 60 = .ok (.iconst 4, 1) := by decide +kernel
theorem dL_asks_61 : decode cL_asks 61 = .ok (.if_icmp .ne 12, 3) := by decide +kernel
theorem dL_asks_64 : decode cL_asks 64 = .ok (.aload_n 0, 1) := by decide +kernel
theorem dL_asks_65 : decode cL_asks 65 = .ok (.iload_n 2, 1) := by decide +kernel
theorem dL_asks_66 : decode cL_asks 66 = .ok (.iload_n 3, 1) := by decide +kernel
theorem dL_asks_67 : decode cL_asks 67 = .ok (.invokevirtual 26, 3) := by decide +kernel
theorem dL_asks_70 : decode cL_asks 70 = .ok (.goto 9, 3) := by decide +kernel
theorem dL_asks_73 : decode cL_asks 73 = .ok (.aload_n 0, 1) := by decide +kernel
theorem dL_asks_74 : decode cL_asks 74 = .ok (.iload_n 2, 1) := by decide +kernel
theorem dL_asks_75 : decode cL_asks 75 = .ok (.iload_n 3, 1) := by decide +kernel
theorem dL_asks_76 : decode cL_asks 76 = .ok (.invokevirtual 29, 3) := by decide +kernel
theorem dL_asks_79 : decode cL_asks 79 = .ok (.ireturn, 1) := by decide +kernel
theorem dL_asks_80 : decode cL_asks 80 = .ok (.astore 5, 2) := by decide +kernel
theorem dL_asks_82 : decode cL_asks 82 = .ok (.bipush (-107), 2) := by decide +kernel
theorem dL_asks_84 : decode cL_asks 84 = .ok (.ireturn, 1) := by decide +kernel
theorem dL_asks_85 : decode cL_asks 85 = .ok (.astore 5, 2) := by decide +kernel
theorem dL_asks_87 : decode cL_asks 87 = .ok (.bipush (-108), 2) := by decide +kernel
theorem dL_asks_89 : decode cL_asks 89 = .ok (.ireturn, 1) := by decide +kernel
set_option maxRecDepth 20000 in
theorem ggL_isWhole_X6_house : GoodIn wsL_isWhole wsX6_house := goodIn_r _ [5, 6, 53, 54, 55, 56, 57, 58, 59, 60] (by decide +kernel) (by decide +kernel)
set_option maxRecDepth 20000 in
theorem gL_isWhole_X6_house : GoodIn wsL_isWhole (wsV RL 36 RX6 yX6_house wsX6_house) := goodIn_app (goodIn_of _ (by decide +kernel)) ggL_isWhole_X6_house
set_option maxRecDepth 20000 in
theorem ggL_isWhole_X6_bond : GoodIn wsL_isWhole wsX6_bond := goodIn_ca (goodIn_r _ [10, 11, 12, 13, 4, 14, 15, 16, 17, 61, 62, 63, 64, 65, 66, 67, 53, 54, 55, 56, 57, 58, 59, 60] (by decide +kernel) (by decide +kernel)) (goodIn_sub (fun _ h => List.mem_cons_of_mem _ (List.mem_append_right _ h)) (by decide +kernel))
set_option maxRecDepth 20000 in
theorem gL_isWhole_X6_bond : GoodIn wsL_isWhole (wsV RL 40 RX6 yX6_bond wsX6_bond) := goodIn_app (goodIn_of _ (by decide +kernel)) ggL_isWhole_X6_bond
set_option maxRecDepth 20000 in
theorem ggL_isWhole_X6_earned : GoodIn wsL_isWhole wsX6_earned := goodIn_ca (goodIn_r _ [21, 11, 12, 13, 4, 14, 15, 16, 17, 61, 62, 63, 64, 65, 66, 67, 53, 54, 55, 56, 57, 58, 59, 60] (by decide +kernel) (by decide +kernel)) (goodIn_sub (fun _ h => List.mem_cons_of_mem _ (List.mem_append_right _ h)) (by decide +kernel))
set_option maxRecDepth 20000 in
theorem gL_isWhole_X6_earned : GoodIn wsL_isWhole (wsV RL 44 RX6 yX6_earned wsX6_earned) := goodIn_app (goodIn_of _ (by decide +kernel)) ggL_isWhole_X6_earned
set_option maxRecDepth 20000 in
theorem ggL_isWhole_X6_bondByCuts : GoodIn wsL_isWhole wsX6_bondByCuts := goodIn_ca (goodIn_r _ [25, 26, 27, 11, 12, 13, 4, 14, 15, 16, 17, 61, 62, 63, 64, 65, 66, 67, 53, 54, 55, 56, 57, 58, 59, 60, 68, 69, 70, 71, 72, 73, 74, 75, 76, 77] (by decide +kernel) (by decide +kernel)) (goodIn_sub (fun _ h => List.mem_cons_of_mem _ (List.mem_append_right _ h)) (by decide +kernel))
set_option maxRecDepth 20000 in
theorem gL_isWhole_X6_bondByCuts : GoodIn wsL_isWhole (wsV RL 47 RX6 yX6_bondByCuts wsX6_bondByCuts) := goodIn_app (goodIn_of _ (by decide +kernel)) ggL_isWhole_X6_bondByCuts
set_option maxRecDepth 20000 in
theorem ggL_isWhole_X6_aside : GoodIn wsL_isWhole wsX6_aside := goodIn_ca (goodIn_r _ [31, 32, 33, 34, 4, 35, 15, 16, 36, 11, 12, 13, 14, 17, 78, 79, 61, 62, 63, 64, 65, 66, 67, 80, 81, 82, 53, 54, 55, 56, 57, 58, 59, 60] (by decide +kernel) (by decide +kernel)) (goodIn_sub (fun _ h => List.mem_cons_of_mem _ (List.mem_append_right _ h)) (by decide +kernel))
set_option maxRecDepth 20000 in
theorem gL_isWhole_X6_aside : GoodIn wsL_isWhole (wsV RL 50 RX6 yX6_aside wsX6_aside) := goodIn_app (goodIn_of _ (by decide +kernel)) ggL_isWhole_X6_aside
set_option maxRecDepth 20000 in
theorem ggL_isWhole_X6_purse : GoodIn wsL_isWhole wsX6_purse := goodIn_ca (goodIn_r _ [40, 32, 33, 34, 4, 35, 15, 16, 36, 78, 79, 53, 54, 55, 56, 57, 58, 59, 60] (by decide +kernel) (by decide +kernel)) (goodIn_sub (fun _ h => List.mem_cons_of_mem _ (List.mem_append_right _ h)) (by decide +kernel))
set_option maxRecDepth 20000 in
theorem gL_isWhole_X6_purse : GoodIn wsL_isWhole (wsV RL 53 RX6 yX6_purse wsX6_purse) := goodIn_app (goodIn_of _ (by decide +kernel)) ggL_isWhole_X6_purse
set_option maxRecDepth 20000 in
theorem ggL_isWhole_X6_held : GoodIn wsL_isWhole wsX6_held := goodIn_ca (goodIn_r _ [44, 45, 46, 47, 4, 48, 15, 16, 26, 27, 68, 69, 70, 71, 72, 73, 74, 75, 76, 77, 53, 54, 55, 56, 57, 58, 59, 60] (by decide +kernel) (by decide +kernel)) (goodIn_sub (fun _ h => List.mem_cons_of_mem _ (List.mem_append_right _ h)) (by decide +kernel))
set_option maxRecDepth 20000 in
theorem gL_isWhole_X6_held : GoodIn wsL_isWhole (wsV RL 56 RX6 yX6_held wsX6_held) := goodIn_app (goodIn_of _ (by decide +kernel)) ggL_isWhole_X6_held
set_option maxRecDepth 20000 in
theorem ggL_isWhole_X6_stateOf : GoodIn wsL_isWhole wsX6_stateOf := goodIn_ca (goodIn_r _ [52, 45, 46, 47, 4, 48, 15, 16, 26, 27, 68, 69, 70, 71, 72, 73, 74, 75, 76, 77, 53, 54, 55, 56, 57, 58, 59, 60] (by decide +kernel) (by decide +kernel)) (goodIn_sub (fun _ h => List.mem_cons_of_mem _ (List.mem_append_right _ h)) (by decide +kernel))
set_option maxRecDepth 20000 in
theorem gL_isWhole_X6_stateOf : GoodIn wsL_isWhole (wsV RL 59 RX6 yX6_stateOf wsX6_stateOf) := goodIn_app (goodIn_of _ (by decide +kernel)) ggL_isWhole_X6_stateOf
theorem dL_isWhole_0 : decode cL_isWhole 0 = .ok (.aload_n 0, 1) := by decide +kernel
theorem dL_isWhole_1 : decode cL_isWhole 1 = .ok (.invokevirtual 36, 3) := by decide +kernel
theorem dL_isWhole_4 : decode cL_isWhole 4 = .ok (.istore_n 2, 1) := by decide +kernel
theorem dL_isWhole_5 : decode cL_isWhole 5 = .ok (.iload_n 2, 1) := by decide +kernel
theorem dL_isWhole_6 : decode cL_isWhole 6 = .ok (.ifCond .lt 7, 3) := by decide +kernel
theorem dL_isWhole_9 : decode cL_isWhole 9 = .ok (.iconst 1, 1) := by decide +kernel
theorem dL_isWhole_10 : decode cL_isWhole 10 = .ok (.goto 4, 3) := by decide +kernel
theorem dL_isWhole_13 : decode cL_isWhole 13 = .ok (.iconst 0, 1) := by decide +kernel
theorem dL_isWhole_14 : decode cL_isWhole 14 = .ok (.istore_n 3, 1) := by decide +kernel
theorem dL_isWhole_15 : decode cL_isWhole 15 = .ok (.iconst 0, 1) := by decide +kernel
theorem dL_isWhole_16 : decode cL_isWhole 16 = .ok (.istore 4, 2) := by decide +kernel
theorem dL_isWhole_18 : decode cL_isWhole 18 = .ok (.iload 4, 2) := by decide +kernel
theorem dL_isWhole_20 : decode cL_isWhole 20 = .ok (.bipush 12, 2) := by decide +kernel
theorem dL_isWhole_22 : decode cL_isWhole 22 = .ok (.if_icmp .ge 122, 3) := by decide +kernel
theorem dL_isWhole_25 : decode cL_isWhole 25 = .ok (.iload_n 2, 1) := by decide +kernel
theorem dL_isWhole_26 : decode cL_isWhole 26 = .ok (.aload_n 0, 1) := by decide +kernel
theorem dL_isWhole_27 : decode cL_isWhole 27 = .ok (.iload 4, 2) := by decide +kernel
theorem dL_isWhole_29 : decode cL_isWhole 29 = .ok (.invokevirtual 40, 3) := by decide +kernel
theorem dL_isWhole_32 : decode cL_isWhole 32 = .ok (.aload_n 0, 1) := by decide +kernel
theorem dL_isWhole_33 : decode cL_isWhole 33 = .ok (.iload 4, 2) := by decide +kernel
theorem dL_isWhole_35 : decode cL_isWhole 35 = .ok (.invokevirtual 44, 3) := by decide +kernel
theorem dL_isWhole_38 : decode cL_isWhole 38 = .ok (.iadd, 1) := by decide +kernel
theorem dL_isWhole_39 : decode cL_isWhole 39 = .ok (.iadd, 1) := by decide +kernel
theorem dL_isWhole_40 : decode cL_isWhole 40 = .ok (.istore_n 2, 1) := by decide +kernel
theorem dL_isWhole_41 : decode cL_isWhole 41 = .ok (.iload_n 3, 1) := by decide +kernel
theorem dL_isWhole_42 : decode cL_isWhole 42 = .ok (.ifCond .eq 40, 3) := by decide +kernel
theorem dL_isWhole_45 : decode cL_isWhole 45 = .ok (.aload_n 0, 1) := by decide +kernel
theorem dL_isWhole_46 : decode cL_isWhole 46 = .ok (.iload 4, 2) := by decide +kernel
theorem dL_isWhole_48 : decode cL_isWhole 48 = .ok (.invokevirtual 40, 3) := by decide +kernel
theorem dL_isWhole_51 : decode cL_isWhole 51 = .ok (.ifCond .lt 31, 3) := by decide +kernel
theorem dL_isWhole_54 : decode cL_isWhole 54 = .ok (.aload_n 0, 1) := by decide +kernel
theorem dL_isWhole_55 : decode cL_isWhole 55 = .ok (.iload 4, 2) := by decide +kernel
theorem dL_isWhole_57 : decode cL_isWhole 57 = .ok (.invokevirtual 44, 3) := by decide +kernel
theorem dL_isWhole_60 : decode cL_isWhole 60 = .ok (.ifCond .lt 22, 3) := by decide +kernel
theorem dL_isWhole_63 : decode cL_isWhole 63 = .ok (.aload_n 0, 1) := by decide +kernel
theorem dL_isWhole_64 : decode cL_isWhole 64 = .ok (.iload 4, 2) := by decide +kernel
theorem dL_isWhole_66 : decode cL_isWhole 66 = .ok (.invokevirtual 47, 3) := by decide +kernel
theorem dL_isWhole_69 : decode cL_isWhole 69 = .ok (.aload_n 0, 1) := by decide +kernel
theorem dL_isWhole_70 : decode cL_isWhole 70 = .ok (.iload 4, 2) := by decide +kernel
theorem dL_isWhole_72 : decode cL_isWhole 72 = .ok (.invokevirtual 40, 3) := by decide +kernel
theorem dL_isWhole_75 : decode cL_isWhole 75 = .ok (.if_icmp .ne 7, 3) := by decide +kernel
theorem dL_isWhole_78 : decode cL_isWhole 78 = .ok (.iconst 1, 1) := by decide +kernel
theorem dL_isWhole_79 : decode cL_isWhole 79 = .ok (.goto 4, 3) := by decide +kernel
theorem dL_isWhole_82 : decode cL_isWhole 82 = .ok (.iconst 0, 1) := by decide +kernel
theorem dL_isWhole_83 : decode cL_isWhole 83 = .ok (.istore_n 3, 1) := by decide +kernel
theorem dL_isWhole_84 : decode cL_isWhole 84 = .ok (.iconst 0, 1) := by decide +kernel
theorem dL_isWhole_85 : decode cL_isWhole 85 = .ok (.istore 5, 2) := by decide +kernel
theorem dL_isWhole_87 : decode cL_isWhole 87 = .ok (.iload 5, 2) := by decide +kernel
theorem dL_isWhole_89 : decode cL_isWhole 89 = .ok (.bipush 6, 2) := by decide +kernel
theorem dL_isWhole_91 : decode cL_isWhole 91 = .ok (.if_icmp .ge 47, 3) := by decide +kernel
theorem dL_isWhole_94 : decode cL_isWhole 94 = .ok (.aload_n 0, 1) := by decide +kernel
theorem dL_isWhole_95 : decode cL_isWhole 95 = .ok (.iload 5, 2) := by decide +kernel
theorem dL_isWhole_97 : decode cL_isWhole 97 = .ok (.iload 4, 2) := by decide +kernel
theorem dL_isWhole_99 : decode cL_isWhole 99 = .ok (.invokevirtual 50, 3) := by decide +kernel
theorem dL_isWhole_102 : decode cL_isWhole 102 = .ok (.istore 6, 2) := by decide +kernel
theorem dL_isWhole_104 : decode cL_isWhole 104 = .ok (.iload_n 2, 1) := by decide +kernel
theorem dL_isWhole_105 : decode cL_isWhole 105 = .ok (.iload 6, 2) := by decide +kernel
theorem dL_isWhole_107 : decode cL_isWhole 107 = .ok (.iadd, 1) := by decide +kernel
theorem dL_isWhole_108 : decode cL_isWhole 108 = .ok (.istore_n 2, 1) := by decide +kernel
theorem dL_isWhole_109 : decode cL_isWhole 109 = .ok (.iload_n 3, 1) := by decide +kernel
theorem dL_isWhole_110 : decode cL_isWhole 110 = .ok (.ifCond .eq 20, 3) := by decide +kernel
theorem dL_isWhole_113 : decode cL_isWhole 113 = .ok (.iload 6, 2) := by decide +kernel
theorem dL_isWhole_115 : decode cL_isWhole 115 = .ok (.ifCond .lt 15, 3) := by decide +kernel
theorem dL_isWhole_118 : decode cL_isWhole 118 = .ok (.iload 6, 2) := by decide +kernel
theorem dL_isWhole_120 : decode cL_isWhole 120 = .ok (.sipush 400, 3) := by decide +kernel
theorem dL_isWhole_123 : decode cL_isWhole 123 = .ok (.if_icmp .gt 7, 3) := by decide +kernel
theorem dL_isWhole_126 : decode cL_isWhole 126 = .ok (.iconst 1, 1) := by decide +kernel
theorem dL_isWhole_127 : decode cL_isWhole 127 = .ok (.goto 4, 3) := by decide +kernel
theorem dL_isWhole_130 : decode cL_isWhole 130 = .ok (.iconst 0, 1) := by decide +kernel
theorem dL_isWhole_131 : decode cL_isWhole 131 = .ok (.istore_n 3, 1) := by decide +kernel
theorem dL_isWhole_132 : decode cL_isWhole 132 = .ok (.iinc 5 1, 3) := by decide +kernel
theorem dL_isWhole_135 : decode cL_isWhole 135 = .ok (.goto (-48), 3) := by decide +kernel
theorem dL_isWhole_138 : decode cL_isWhole 138 = .ok (.iinc 4 1, 3) := by decide +kernel
theorem dL_isWhole_141 : decode cL_isWhole 141 = .ok (.goto (-123), 3) := by decide +kernel
theorem dL_isWhole_144 : decode cL_isWhole 144 = .ok (.iconst 0, 1) := by decide +kernel
theorem dL_isWhole_145 : decode cL_isWhole 145 = .ok (.istore 4, 2) := by decide +kernel
theorem dL_isWhole_147 : decode cL_isWhole 147 = .ok (.iload 4, 2) := by decide +kernel
theorem dL_isWhole_149 : decode cL_isWhole 149 = .ok (.bipush 6, 2) := by decide +kernel
theorem dL_isWhole_151 : decode cL_isWhole 151 = .ok (.if_icmp .ge 37, 3) := by decide +kernel
theorem dL_isWhole_154 : decode cL_isWhole 154 = .ok (.iload_n 2, 1) := by decide +kernel
theorem dL_isWhole_155 : decode cL_isWhole 155 = .ok (.aload_n 0, 1) := by decide +kernel
theorem dL_isWhole_156 : decode cL_isWhole 156 = .ok (.iload 4, 2) := by decide +kernel
theorem dL_isWhole_158 : decode cL_isWhole 158 = .ok (.invokevirtual 53, 3) := by decide +kernel
theorem dL_isWhole_161 : decode cL_isWhole 161 = .ok (.iadd, 1) := by decide +kernel
theorem dL_isWhole_162 : decode cL_isWhole 162 = .ok (.istore_n 2, 1) := by decide +kernel
theorem dL_isWhole_163 : decode cL_isWhole 163 = .ok (.iload_n 3, 1) := by decide +kernel
theorem dL_isWhole_164 : decode cL_isWhole 164 = .ok (.ifCond .eq 16, 3) := by decide +kernel
theorem dL_isWhole_167 : decode cL_isWhole 167 = .ok (.aload_n 0, 1) := by decide +kernel
theorem dL_isWhole_168 : decode cL_isWhole 168 = .ok (.iload 4, 2) := by decide +kernel
theorem dL_isWhole_170 : decode cL_isWhole 170 = .ok (.invokevirtual 53, 3) := by decide +kernel
theorem dL_isWhole_173 : decode cL_isWhole 173 = .ok (.ifCond .lt 7, 3) := by decide +kernel
theorem dL_isWhole_176 : decode cL_isWhole 176 = .ok (.iconst 1, 1) := by decide +kernel
theorem dL_isWhole_177 : decode cL_isWhole 177 = .ok (.goto 4, 3) := by decide +kernel
theorem dL_isWhole_180 : decode cL_isWhole 180 = .ok (.iconst 0, 1) := by decide +kernel
theorem dL_isWhole_181 : decode cL_isWhole 181 = .ok (.istore_n 3, 1) := by decide +kernel
theorem dL_isWhole_182 : decode cL_isWhole 182 = .ok (.iinc 4 1, 3) := by decide +kernel
theorem dL_isWhole_185 : decode cL_isWhole 185 = .ok (.goto (-38), 3) := by decide +kernel
theorem dL_isWhole_188 : decode cL_isWhole 188 = .ok (.iconst 0, 1) := by decide +kernel
theorem dL_isWhole_189 : decode cL_isWhole 189 = .ok (.istore 4, 2) := by decide +kernel
theorem dL_isWhole_191 : decode cL_isWhole 191 = .ok (.iload 4, 2) := by decide +kernel
theorem dL_isWhole_193 : decode cL_isWhole 193 = .ok (.aload_n 1, 1) := by decide +kernel
theorem dL_isWhole_194 : decode cL_isWhole 194 = .ok (.iconst 1, 1) := by decide +kernel
theorem dL_isWhole_195 : decode cL_isWhole 195 = .ok (.iaload, 1) := by decide +kernel
theorem dL_isWhole_196 : decode cL_isWhole 196 = .ok (.if_icmp .ge 34, 3) := by decide +kernel
theorem dL_isWhole_199 : decode cL_isWhole 199 = .ok (.iload_n 2, 1) := by decide +kernel
theorem dL_isWhole_200 : decode cL_isWhole 200 = .ok (.aload_n 0, 1) := by decide +kernel
theorem dL_isWhole_201 : decode cL_isWhole 201 = .ok (.iload 4, 2) := by decide +kernel
theorem dL_isWhole_203 : decode cL_isWhole 203 = .ok (.invokevirtual 56, 3) := by decide +kernel
theorem dL_isWhole_206 : decode cL_isWhole 206 = .ok (.aload_n 0, 1) := by decide +kernel
theorem dL_isWhole_207 : decode cL_isWhole 207 = .ok (.iload 4, 2) := by decide +kernel
theorem dL_isWhole_209 : decode cL_isWhole 209 = .ok (.invokevirtual 59, 3) := by decide +kernel
theorem dL_isWhole_212 : decode cL_isWhole 212 = .ok (.iconst 1, 1) := by decide +kernel
theorem dL_isWhole_213 : decode cL_isWhole 213 = .ok (.if_icmp .ne 7, 3) := by decide +kernel
theorem dL_isWhole_216 : decode cL_isWhole 216 = .ok (.iconst 4, 1) := by decide +kernel
theorem dL_isWhole_217 : decode cL_isWhole 217 = .ok (.goto 4, 3) := by decide +kernel
theorem dL_isWhole_220 : decode cL_isWhole 220 = .ok (.iconst 0, 1) := by decide +kernel
theorem dL_isWhole_221 : decode cL_isWhole 221 = .ok (.iadd, 1) := by decide +kernel
theorem dL_isWhole_222 : decode cL_isWhole 222 = .ok (.iadd, 1) := by decide +kernel
theorem dL_isWhole_223 : decode cL_isWhole 223 = .ok (.istore_n 2, 1) := by decide +kernel
theorem dL_isWhole_224 : decode cL_isWhole 224 = .ok (.iinc 4 1, 3) := by decide +kernel
theorem dL_isWhole_227 : decode cL_isWhole 227 = .ok (.goto (-36), 3) := by decide +kernel
theorem dL_isWhole_230 : decode cL_isWhole 230 = .ok (.iload_n 3, 1) := by decide +kernel
theorem dL_isWhole_231 : decode cL_isWhole 231 = .ok (.ifCond .eq 14, 3) := by decide +kernel
theorem dL_isWhole_234 : decode cL_isWhole 234 = .ok (.iload_n 2, 1) := by decide +kernel
theorem dL_isWhole_235 : decode cL_isWhole 235 = .ok (.sipush 2400, 3) := by decide +kernel
theorem dL_isWhole_238 : decode cL_isWhole 238 = .ok (.if_icmp .ne 7, 3) := by decide +kernel
theorem dL_isWhole_241 : decode cL_isWhole 241 = .ok (.iconst 1, 1) := by decide +kernel
theorem dL_isWhole_242 : decode cL_isWhole 242 = .ok (.goto 4, 3) := by decide +kernel
theorem dL_isWhole_245 : decode cL_isWhole 245 = .ok (.iconst 0, 1) := by decide +kernel
theorem dL_isWhole_246 : decode cL_isWhole 246 = .ok (.ireturn, 1) := by decide +kernel
set_option maxRecDepth 20000 in
theorem ggL_areReadings_X6_readings : GoodIn wsL_areReadings wsX6_readings := goodIn_r _ [5, 6, 235, 236, 237, 238, 239, 240, 241, 242] (by decide +kernel) (by decide +kernel)
set_option maxRecDepth 20000 in
theorem gL_areReadings_X6_readings : GoodIn wsL_areReadings (wsV RL 62 RX6 yX6_readings wsX6_readings) := goodIn_app (goodIn_of _ (by decide +kernel)) ggL_areReadings_X6_readings
set_option maxRecDepth 20000 in
theorem ggL_areReadings_X6_tick : GoodIn wsL_areReadings wsX6_tick := goodIn_r _ [10, 11, 235, 236, 237, 238, 239, 240, 241, 242] (by decide +kernel) (by decide +kernel)
set_option maxRecDepth 20000 in
theorem gL_areReadings_X6_tick : GoodIn wsL_areReadings (wsV RL 65 RX6 yX6_tick wsX6_tick) := goodIn_app (goodIn_of _ (by decide +kernel)) ggL_areReadings_X6_tick
set_option maxRecDepth 20000 in
theorem ggL_areReadings_X6_stateOf : GoodIn wsL_areReadings wsX6_stateOf := goodIn_ca (goodIn_r _ [15, 16, 17, 18, 4, 19, 20, 21, 6, 22, 243, 244, 245, 246, 247, 248, 249, 250, 251, 252, 235, 236, 237, 238, 239, 240, 241, 242] (by decide +kernel) (by decide +kernel)) (goodIn_sub (fun _ h => List.mem_cons_of_mem _ (List.mem_append_right _ h)) (by decide +kernel))
set_option maxRecDepth 20000 in
theorem gL_areReadings_X6_stateOf : GoodIn wsL_areReadings (wsV RL 59 RX6 yX6_stateOf wsX6_stateOf) := goodIn_app (goodIn_of _ (by decide +kernel)) ggL_areReadings_X6_stateOf
set_option maxRecDepth 20000 in
theorem ggL_areReadings_X6_parts : GoodIn wsL_areReadings wsX6_parts := goodIn_ca (goodIn_r _ [26, 16, 17, 18, 4, 19, 20, 21, 6, 22, 243, 244, 245, 246, 247, 248, 249, 250, 251, 252, 235, 236, 237, 238, 239, 240, 241, 242] (by decide +kernel) (by decide +kernel)) (goodIn_sub (fun _ h => List.mem_cons_of_mem _ (List.mem_append_right _ h)) (by decide +kernel))
set_option maxRecDepth 20000 in
theorem gL_areReadings_X6_parts : GoodIn wsL_areReadings (wsV RL 68 RX6 yX6_parts wsX6_parts) := goodIn_app (goodIn_of _ (by decide +kernel)) ggL_areReadings_X6_parts
set_option maxRecDepth 20000 in
theorem ggL_areReadings_X6_textAt : GoodIn wsL_areReadings wsX6_textAt := goodIn_ca (goodIn_r _ [30, 20, 21, 31, 32, 33, 16, 17, 18, 4, 19, 6, 22, 34, 35, 36, 37, 38, 39, 40, 41, 42, 43, 44, 45, 46, 47, 48, 49, 50, 51, 52, 53, 54, 55, 56, 57, 58, 59, 60, 61, 62, 63, 64, 65, 66, 67, 68, 69, 70, 71, 72, 73, 74, 75, 76, 77, 78, 79, 80, 81, 82, 83, 84, 85, 86, 87, 88, 89, 90, 91, 92, 93, 94, 95, 96, 97, 98, 99, 100, 101, 102, 103, 104, 105, 106, 107, 108, 109, 110, 111, 112, 113, 114, 115, 116, 117, 118, 119, 120, 121, 122, 123, 124, 125, 126, 127, 128, 129, 130, 131, 132, 133, 134, 135, 136, 137, 138, 139, 140, 141, 142, 143, 144, 145, 146, 147, 148, 149, 150, 151, 152, 153, 154, 155, 156, 157, 158, 159, 160, 161, 162, 163, 164, 165, 166, 167, 168, 169, 170, 171, 172, 173, 174, 175, 176, 177, 178, 179, 180, 181, 182, 183, 184, 185, 186, 187, 188, 189, 190, 191, 192, 193, 194, 195, 196, 197, 198, 199, 200, 201, 202, 203, 204, 205, 206, 207, 208, 209, 210, 211, 212, 213, 214, 215, 216, 253, 254, 255, 256, 243, 244, 245, 246, 247, 248, 249, 250, 251, 252, 257, 258, 259, 260, 261, 262, 263, 235, 236, 237, 238, 239, 240, 241, 242] (by decide +kernel) (by decide +kernel)) (goodIn_sub (fun _ h => List.mem_cons_of_mem _ (List.mem_append_right _ h)) (by decide +kernel))
set_option maxRecDepth 20000 in
theorem gL_areReadings_X6_textAt : GoodIn wsL_areReadings (wsV RL 71 RX6 yX6_textAt wsX6_textAt) := goodIn_app (goodIn_of _ (by decide +kernel)) ggL_areReadings_X6_textAt
set_option maxRecDepth 20000 in
theorem ggL_areReadings_X6_users : GoodIn wsL_areReadings wsX6_users := goodIn_ca (goodIn_r _ [220, 16, 17, 18, 4, 19, 20, 21, 6, 22, 243, 244, 245, 246, 247, 248, 249, 250, 251, 252, 235, 236, 237, 238, 239, 240, 241, 242] (by decide +kernel) (by decide +kernel)) (goodIn_sub (fun _ h => List.mem_cons_of_mem _ (List.mem_append_right _ h)) (by decide +kernel))
set_option maxRecDepth 20000 in
theorem gL_areReadings_X6_users : GoodIn wsL_areReadings (wsV RL 74 RX6 yX6_users wsX6_users) := goodIn_app (goodIn_of _ (by decide +kernel)) ggL_areReadings_X6_users
set_option maxRecDepth 20000 in
theorem ggL_areReadings_X6_held : GoodIn wsL_areReadings wsX6_held := goodIn_ca (goodIn_r _ [224, 16, 17, 18, 4, 19, 20, 21, 6, 22, 243, 244, 245, 246, 247, 248, 249, 250, 251, 252, 235, 236, 237, 238, 239, 240, 241, 242] (by decide +kernel) (by decide +kernel)) (goodIn_sub (fun _ h => List.mem_cons_of_mem _ (List.mem_append_right _ h)) (by decide +kernel))
set_option maxRecDepth 20000 in
theorem gL_areReadings_X6_held : GoodIn wsL_areReadings (wsV RL 56 RX6 yX6_held wsX6_held) := goodIn_app (goodIn_of _ (by decide +kernel)) ggL_areReadings_X6_held
set_option maxRecDepth 20000 in
theorem ggL_areReadings_X6_middle : GoodIn wsL_areReadings wsX6_middle := goodIn_ca (goodIn_r _ [228, 16, 17, 18, 4, 19, 20, 21, 6, 22, 229, 230, 231, 232, 233, 234, 243, 244, 245, 246, 247, 248, 249, 250, 251, 252, 235, 236, 237, 238, 239, 240, 241, 242, 264, 265, 266, 267] (by decide +kernel) (by decide +kernel)) (goodIn_sub (fun _ h => List.mem_cons_of_mem _ (List.mem_append_right _ h)) (by decide +kernel))
set_option maxRecDepth 20000 in
theorem gL_areReadings_X6_middle : GoodIn wsL_areReadings (wsV RL 77 RX6 yX6_middle wsX6_middle) := goodIn_app (goodIn_of _ (by decide +kernel)) ggL_areReadings_X6_middle
theorem dL_areReadings_0 : decode cL_areReadings 0 = .ok (.aload_n 0, 1) := by decide +kernel
theorem dL_areReadings_1 : decode cL_areReadings 1 = .ok (.invokevirtual 62, 3) := by decide +kernel
theorem dL_areReadings_4 : decode cL_areReadings 4 = .ok (.aload_n 2, 1) := by decide +kernel
theorem dL_areReadings_5 : decode cL_areReadings 5 = .ok (.iconst 1, 1) := by decide +kernel
theorem dL_areReadings_6 : decode cL_areReadings 6 = .ok (.iaload, 1) := by decide +kernel
theorem dL_areReadings_7 : decode cL_areReadings 7 = .ok (.if_icmp .ne 17, 3) := by decide +kernel
theorem dL_areReadings_10 : decode cL_areReadings 10 = .ok (.aload_n 0, 1) := by decide +kernel
theorem dL_areReadings_11 : decode cL_areReadings 11 = .ok (.invokevirtual 65, 3) := by decide +kernel
theorem dL_areReadings_14 : decode cL_areReadings 14 = .ok (.aload_n 2, 1) := by decide +kernel
theorem dL_areReadings_15 : decode cL_areReadings 15 = .ok (.iconst 0, 1) := by decide +kernel
theorem dL_areReadings_16 : decode cL_areReadings 16 = .ok (.iaload, 1) := by decide +kernel
theorem dL_areReadings_17 : decode cL_areReadings 17 = .ok (.if_icmp .ne 7, 3) := by decide +kernel
theorem dL_areReadings_20 : decode cL_areReadings 20 = .ok (.iconst 1, 1) := by decide +kernel
theorem dL_areReadings_21 : decode cL_areReadings 21 = .ok (.goto 4, 3) := by decide +kernel
theorem dL_areReadings_24 : decode cL_areReadings 24 = .ok (.iconst 0, 1) := by decide +kernel
theorem dL_areReadings_25 : decode cL_areReadings 25 = .ok (.istore_n 3, 1) := by decide +kernel
theorem dL_areReadings_26 : decode cL_areReadings 26 = .ok (.iconst 0, 1) := by decide +kernel
theorem dL_areReadings_27 : decode cL_areReadings 27 = .ok (.istore 4, 2) := by decide +kernel
theorem dL_areReadings_29 : decode cL_areReadings 29 = .ok (.iload 4, 2) := by decide +kernel
theorem dL_areReadings_31 : decode cL_areReadings 31 = .ok (.aload_n 2, 1) := by decide +kernel
theorem dL_areReadings_32 : decode cL_areReadings 32 = .ok (.iconst 1, 1) := by decide +kernel
theorem dL_areReadings_33 : decode cL_areReadings 33 = .ok (.iaload, 1) := by decide +kernel
theorem dL_areReadings_34 : decode cL_areReadings 34 = .ok (.if_icmp .ge 515, 3) := by decide +kernel
theorem dL_areReadings_37 : decode cL_areReadings 37 = .ok (.iload_n 3, 1) := by decide +kernel
theorem dL_areReadings_38 : decode cL_areReadings 38 = .ok (.ifCond .eq 511, 3) := by decide +kernel
theorem dL_areReadings_41 : decode cL_areReadings 41 = .ok (.aload_n 0, 1) := by decide +kernel
theorem dL_areReadings_42 : decode cL_areReadings 42 = .ok (.iload 4, 2) := by decide +kernel
theorem dL_areReadings_44 : decode cL_areReadings 44 = .ok (.invokevirtual 59, 3) := by decide +kernel
theorem dL_areReadings_47 : decode cL_areReadings 47 = .ok (.istore 5, 2) := by decide +kernel
theorem dL_areReadings_49 : decode cL_areReadings 49 = .ok (.aload_n 1, 1) := by decide +kernel
theorem dL_areReadings_50 : decode cL_areReadings 50 = .ok (.iload 4, 2) := by decide +kernel
theorem dL_areReadings_52 : decode cL_areReadings 52 = .ok (.iaload, 1) := by decide +kernel
theorem dL_areReadings_53 : decode cL_areReadings 53 = .ok (.bipush 11, 2) := by decide +kernel
theorem dL_areReadings_55 : decode cL_areReadings 55 = .ok (.ishr, 1) := by decide +kernel
theorem dL_areReadings_56 : decode cL_areReadings 56 = .ok (.bipush 7, 2) := by decide +kernel
theorem dL_areReadings_58 : decode cL_areReadings 58 = .ok (.iand, 1) := by decide +kernel
theorem dL_areReadings_59 : decode cL_areReadings 59 = .ok (.istore 6, 2) := by decide +kernel
theorem dL_areReadings_61 : decode cL_areReadings 61 = .ok (.aload_n 1, 1) := by decide +kernel
theorem dL_areReadings_62 : decode cL_areReadings 62 = .ok (.iload 4, 2) := by decide +kernel
theorem dL_areReadings_64 : decode cL_areReadings 64 = .ok (.iaload, 1) := by decide +kernel
theorem dL_areReadings_65 : decode cL_areReadings 65 = .ok (.iconst 4, 1) := by decide +kernel
theorem dL_areReadings_66 : decode cL_areReadings 66 = .ok (.ishr, 1) := by decide +kernel
theorem dL_areReadings_67 : decode cL_areReadings 67 = .ok (.bipush 127, 2) := by decide +kernel
theorem dL_areReadings_69 : decode cL_areReadings 69 = .ok (.iand, 1) := by decide +kernel
theorem dL_areReadings_70 : decode cL_areReadings 70 = .ok (.istore 7, 2) := by decide +kernel
theorem dL_areReadings_72 : decode cL_areReadings 72 = .ok (.iload 7, 2) := by decide +kernel
theorem dL_areReadings_74 : decode cL_areReadings 74 = .ok (.bipush 10, 2) := by decide +kernel
theorem dL_areReadings_76 : decode cL_areReadings 76 = .ok (.if_icmp .ge 7, 3) := by decide +kernel
theorem dL_areReadings_79 : decode cL_areReadings 79 = .ok (.iconst 1, 1) := by decide +kernel
theorem dL_areReadings_80 : decode cL_areReadings 80 = .ok (.goto 4, 3) := by decide +kernel
theorem dL_areReadings_83 : decode cL_areReadings 83 = .ok (.iconst 2, 1) := by decide +kernel
theorem dL_areReadings_84 : decode cL_areReadings 84 = .ok (.istore 8, 2) := by decide +kernel
theorem dL_areReadings_86 : decode cL_areReadings 86 = .ok (.aload_n 0, 1) := by decide +kernel
theorem dL_areReadings_87 : decode cL_areReadings 87 = .ok (.iload 4, 2) := by decide +kernel
theorem dL_areReadings_89 : decode cL_areReadings 89 = .ok (.invokevirtual 68, 3) := by decide +kernel
theorem dL_areReadings_92 : decode cL_areReadings 92 = .ok (.istore 9, 2) := by decide +kernel
theorem dL_areReadings_94 : decode cL_areReadings 94 = .ok (.iload 5, 2) := by decide +kernel
theorem dL_areReadings_96 : decode cL_areReadings 96 = .ok (.ifCond .ne 8, 3) := by decide +kernel
theorem dL_areReadings_99 : decode cL_areReadings 99 = .ok (.bipush 46, 2) := by decide +kernel
theorem dL_areReadings_101 : decode cL_areReadings 101 = .ok (.goto 38, 3) := by decide +kernel
theorem dL_areReadings_104 : decode cL_areReadings 104 = .ok (.iload 5, 2) := by decide +kernel
theorem dL_areReadings_106 : decode cL_areReadings 106 = .ok (.iconst 1, 1) := by decide +kernel
theorem dL_areReadings_107 : decode cL_areReadings 107 = .ok (.if_icmp .ne 8, 3) := by decide +kernel
theorem dL_areReadings_110 : decode cL_areReadings 110 = .ok (.bipush 63, 2) := by decide +kernel
theorem dL_areReadings_112 : decode cL_areReadings 112 = .ok (.goto 27, 3) := by decide +kernel
theorem dL_areReadings_115 : decode cL_areReadings 115 = .ok (.iload 5, 2) := by decide +kernel
theorem dL_areReadings_117 : decode cL_areReadings 117 = .ok (.iconst 2, 1) := by decide +kernel
theorem dL_areReadings_118 : decode cL_areReadings 118 = .ok (.if_icmp .ne 8, 3) := by decide +kernel
theorem dL_areReadings_121 : decode cL_areReadings 121 = .ok (.bipush 43, 2) := by decide +kernel
theorem dL_areReadings_123 : decode cL_areReadings 123 = .ok (.goto 16, 3) := by decide +kernel
theorem dL_areReadings_126 : decode cL_areReadings 126 = .ok (.iload 5, 2) := by decide +kernel
theorem dL_areReadings_128 : decode cL_areReadings 128 = .ok (.iconst 3, 1) := by decide +kernel
theorem dL_areReadings_129 : decode cL_areReadings 129 = .ok (.if_icmp .ne 8, 3) := by decide +kernel
theorem dL_areReadings_132 : decode cL_areReadings 132 = .ok (.bipush 45, 2) := by decide +kernel
theorem dL_areReadings_134 : decode cL_areReadings 134 = .ok (.goto 5, 3) := by decide +kernel
theorem dL_areReadings_137 : decode cL_areReadings 137 = .ok (.bipush 120, 2) := by decide +kernel
theorem dL_areReadings_139 : decode cL_areReadings 139 = .ok (.istore 10, 2) := by decide +kernel
theorem dL_areReadings_141 : decode cL_areReadings 141 = .ok (.iload 5, 2) := by decide +kernel
theorem dL_areReadings_143 : decode cL_areReadings 143 = .ok (.ifCond .lt 180, 3) := by decide +kernel
theorem dL_areReadings_146 : decode cL_areReadings 146 = .ok (.iload 5, 2) := by decide +kernel
theorem dL_areReadings_148 : decode cL_areReadings 148 = .ok (.iconst 4, 1) := by decide +kernel
theorem dL_areReadings_149 : decode cL_areReadings 149 = .ok (.if_icmp .gt 174, 3) := by decide +kernel
theorem dL_areReadings_152 : decode cL_areReadings 152 = .ok (.iload 5, 2) := by decide +kernel
theorem dL_areReadings_154 : decode cL_areReadings 154 = .ok (.iconst 4, 1) := by decide +kernel
theorem dL_areReadings_155 : decode cL_areReadings 155 = .ok (.if_icmp .ne 7, 3) := by decide +kernel
theorem dL_areReadings_158 : decode cL_areReadings 158 = .ok (.iconst 1, 1) := by decide +kernel
theorem dL_areReadings_159 : decode cL_areReadings 159 = .ok (.goto 4, 3) := by decide +kernel
theorem dL_areReadings_162 : decode cL_areReadings 162 = .ok (.iconst 0, 1) := by decide +kernel
theorem dL_areReadings_163 : decode cL_areReadings 163 = .ok (.iload 9, 2) := by decide +kernel
theorem dL_areReadings_165 : decode cL_areReadings 165 = .ok (.iconst 3, 1) := by decide +kernel
theorem dL_areReadings_166 : decode cL_areReadings 166 = .ok (.if_icmp .ge 7, 3) := by decide +kernel
theorem dL_areReadings_169 : decode cL_areReadings 169 = .ok (.iconst 1, 1) := by decide +kernel
theorem dL_areReadings_170 : decode cL_areReadings 170 = .ok (.goto 4, 3) := by decide +kernel
theorem dL_areReadings_173 : decode cL_areReadings 173 = .ok (.iconst 0, 1) := by decide +kernel
theorem dL_areReadings_174 : decode cL_areReadings 174 = .ok (.if_icmp .ne 149, 3) := by decide +kernel
theorem dL_areReadings_177 : decode cL_areReadings 177 = .ok (.iload 9, 2) := by decide +kernel
theorem dL_areReadings_179 : decode cL_areReadings 179 = .ok (.ifCond .lt 144, 3) := by decide +kernel
theorem dL_areReadings_182 : decode cL_areReadings 182 = .ok (.iload 9, 2) := by decide +kernel
theorem dL_areReadings_184 : decode cL_areReadings 184 = .ok (.iconst 4, 1) := by decide +kernel
theorem dL_areReadings_185 : decode cL_areReadings 185 = .ok (.if_icmp .gt 138, 3) := by decide +kernel
theorem dL_areReadings_188 : decode cL_areReadings 188 = .ok (.iload 6, 2) := by decide +kernel
theorem dL_areReadings_190 : decode cL_areReadings 190 = .ok (.iconst 2, 1) := by decide +kernel
theorem dL_areReadings_191 : decode cL_areReadings 191 = .ok (.if_icmp .ge 19, 3) := by decide +kernel
theorem dL_areReadings_194 : decode cL_areReadings 194 = .ok (.iload 5, 2) := by decide +kernel
theorem dL_areReadings_196 : decode cL_areReadings 196 = .ok (.iconst 4, 1) := by decide +kernel
theorem dL_areReadings_197 : decode cL_areReadings 197 = .ok (.if_icmp .ge 126, 3) := by decide +kernel
theorem dL_areReadings_200 : decode cL_areReadings 200 = .ok (.iload 5, 2) := by decide +kernel
theorem dL_areReadings_202 : decode cL_areReadings 202 = .ok (.iload 6, 2) := by decide +kernel
theorem dL_areReadings_204 : decode cL_areReadings 204 = .ok (.if_icmp .lt 119, 3) := by decide +kernel
theorem dL_areReadings_207 : decode cL_areReadings 207 = .ok (.goto 10, 3) := by decide +kernel
theorem dL_areReadings_210 : decode cL_areReadings 210 = .ok (.iload 5, 2) := by decide +kernel
theorem dL_areReadings_212 : decode cL_areReadings 212 = .ok (.iload 6, 2) := by decide +kernel
theorem dL_areReadings_214 : decode cL_areReadings 214 = .ok (.if_icmp .ne 109, 3) := by decide +kernel
theorem dL_areReadings_217 : decode cL_areReadings 217 = .ok (.aload_n 0, 1) := by decide +kernel
theorem dL_areReadings_218 : decode cL_areReadings 218 = .ok (.iload 4, 2) := by decide +kernel
theorem dL_areReadings_220 : decode cL_areReadings 220 = .ok (.iconst 0, 1) := by decide +kernel
theorem dL_areReadings_221 : decode cL_areReadings 221 = .ok (.invokevirtual 71, 3) := by decide +kernel
theorem dL_areReadings_224 : decode cL_areReadings 224 = .ok (.bipush 97, 2) := by decide +kernel
theorem dL_areReadings_226 : decode cL_areReadings 226 = .ok (.aload_n 1, 1) := by decide +kernel
theorem dL_areReadings_227 : decode cL_areReadings 227 = .ok (.iload 4, 2) := by decide +kernel
theorem dL_areReadings_229 : decode cL_areReadings 229 = .ok (.iaload, 1) := by decide +kernel
theorem dL_areReadings_230 : decode cL_areReadings 230 = .ok (.bipush 15, 2) := by decide +kernel
theorem dL_areReadings_232 : decode cL_areReadings 232 = .ok (.iand, 1) := by decide +kernel
theorem dL_areReadings_233 : decode cL_areReadings 233 = .ok (.iadd, 1) := by decide +kernel
theorem dL_areReadings_234 : decode cL_areReadings 234 = .ok (.if_icmp .ne 89, 3) := by decide +kernel
theorem dL_areReadings_237 : decode cL_areReadings 237 = .ok (.aload_n 0, 1) := by decide +kernel
theorem dL_areReadings_238 : decode cL_areReadings 238 = .ok (.iload 4, 2) := by decide +kernel
theorem dL_areReadings_240 : decode cL_areReadings 240 = .ok (.iconst 1, 1) := by decide +kernel
theorem dL_areReadings_241 : decode cL_areReadings 241 = .ok (.invokevirtual 71, 3) := by decide +kernel
theorem dL_areReadings_244 : decode cL_areReadings 244 = .ok (.bipush 48, 2) := by decide +kernel
theorem dL_areReadings_246 : decode cL_areReadings 246 = .ok (.iload 8, 2) := by decide +kernel
theorem dL_areReadings_248 : decode cL_areReadings 248 = .ok (.iconst 1, 1) := by decide +kernel
theorem dL_areReadings_249 : decode cL_areReadings 249 = .ok (.if_icmp .ne 8, 3) := by decide +kernel
theorem dL_areReadings_252 : decode cL_areReadings 252 = .ok (.iload 7, 2) := by decide +kernel
theorem dL_areReadings_254 : decode cL_areReadings 254 = .ok (.goto 8, 3) := by decide +kernel
theorem dL_areReadings_257 : decode cL_areReadings 257 = .ok (.iload 7, 2) := by decide +kernel
theorem dL_areReadings_259 : decode cL_areReadings 259 = .ok (.bipush 10, 2) := by decide +kernel
theorem dL_areReadings_261 : decode cL_areReadings 261 = .ok (.idiv, 1) := by decide +kernel
theorem dL_areReadings_262 : decode cL_areReadings 262 = .ok (.iadd, 1) := by decide +kernel
theorem dL_areReadings_263 : decode cL_areReadings 263 = .ok (.if_icmp .ne 60, 3) := by decide +kernel
theorem dL_areReadings_266 : decode cL_areReadings 266 = .ok (.iload 8, 2) := by decide +kernel
theorem dL_areReadings_268 : decode cL_areReadings 268 = .ok (.iconst 1, 1) := by decide +kernel
theorem dL_areReadings_269 : decode cL_areReadings 269 = .ok (.if_icmp .eq 21, 3) := by decide +kernel
theorem dL_areReadings_272 : decode cL_areReadings 272 = .ok (.aload_n 0, 1) := by decide +kernel
theorem dL_areReadings_273 : decode cL_areReadings 273 = .ok (.iload 4, 2) := by decide +kernel
theorem dL_areReadings_275 : decode cL_areReadings 275 = .ok (.iconst 2, 1) := by decide +kernel
theorem dL_areReadings_276 : decode cL_areReadings 276 = .ok (.invokevirtual 71, 3) := by decide +kernel
theorem dL_areReadings_279 : decode cL_areReadings 279 = .ok (.bipush 48, 2) := by decide +kernel
theorem dL_areReadings_281 : decode cL_areReadings 281 = .ok (.iload 7, 2) := by decide +kernel
theorem dL_areReadings_283 : decode cL_areReadings 283 = .ok (.bipush 10, 2) := by decide +kernel
theorem dL_areReadings_285 : decode cL_areReadings 285 = .ok (.irem, 1) := by decide +kernel
theorem dL_areReadings_286 : decode cL_areReadings 286 = .ok (.iadd, 1) := by decide +kernel
theorem dL_areReadings_287 : decode cL_areReadings 287 = .ok (.if_icmp .ne 36, 3) := by decide +kernel
theorem dL_areReadings_290 : decode cL_areReadings 290 = .ok (.aload_n 0, 1) := by decide +kernel
theorem dL_areReadings_291 : decode cL_areReadings 291 = .ok (.iload 4, 2) := by decide +kernel
theorem dL_areReadings_293 : decode cL_areReadings 293 = .ok (.iload 8, 2) := by decide +kernel
theorem dL_areReadings_295 : decode cL_areReadings 295 = .ok (.iconst 1, 1) := by decide +kernel
theorem dL_areReadings_296 : decode cL_areReadings 296 = .ok (.iadd, 1) := by decide +kernel
theorem dL_areReadings_297 : decode cL_areReadings 297 = .ok (.invokevirtual 71, 3) := by decide +kernel
theorem dL_areReadings_300 : decode cL_areReadings 300 = .ok (.iload 10, 2) := by decide +kernel
theorem dL_areReadings_302 : decode cL_areReadings 302 = .ok (.if_icmp .ne 21, 3) := by decide +kernel
theorem dL_areReadings_305 : decode cL_areReadings 305 = .ok (.aload_n 0, 1) := by decide +kernel
theorem dL_areReadings_306 : decode cL_areReadings 306 = .ok (.iload 4, 2) := by decide +kernel
theorem dL_areReadings_308 : decode cL_areReadings 308 = .ok (.iload 8, 2) := by decide +kernel
theorem dL_areReadings_310 : decode cL_areReadings 310 = .ok (.iconst 2, 1) := by decide +kernel
theorem dL_areReadings_311 : decode cL_areReadings 311 = .ok (.iadd, 1) := by decide +kernel
theorem dL_areReadings_312 : decode cL_areReadings 312 = .ok (.invokevirtual 71, 3) := by decide +kernel
theorem dL_areReadings_315 : decode cL_areReadings 315 = .ok (.iconst (-1), 1) := by decide +kernel
theorem dL_areReadings_316 : decode cL_areReadings 316 = .ok (.if_icmp .ne 7, 3) := by decide +kernel
theorem dL_areReadings_319 : decode cL_areReadings 319 = .ok (.iconst 1, 1) := by decide +kernel
theorem dL_areReadings_320 : decode cL_areReadings 320 = .ok (.goto 4, 3) := by decide +kernel
theorem dL_areReadings_323 : decode cL_areReadings 323 = .ok (.iconst 0, 1) := by decide +kernel
theorem dL_areReadings_324 : decode cL_areReadings 324 = .ok (.istore_n 3, 1) := by decide +kernel
theorem dL_areReadings_325 : decode cL_areReadings 325 = .ok (.aload_n 0, 1) := by decide +kernel
theorem dL_areReadings_326 : decode cL_areReadings 326 = .ok (.iload 4, 2) := by decide +kernel
theorem dL_areReadings_328 : decode cL_areReadings 328 = .ok (.invokevirtual 74, 3) := by decide +kernel
theorem dL_areReadings_331 : decode cL_areReadings 331 = .ok (.istore 11, 2) := by decide +kernel
theorem dL_areReadings_333 : decode cL_areReadings 333 = .ok (.aload_n 0, 1) := by decide +kernel
theorem dL_areReadings_334 : decode cL_areReadings 334 = .ok (.iload 4, 2) := by decide +kernel
theorem dL_areReadings_336 : decode cL_areReadings 336 = .ok (.invokevirtual 56, 3) := by decide +kernel
theorem dL_areReadings_339 : decode cL_areReadings 339 = .ok (.istore 12, 2) := by decide +kernel
theorem dL_areReadings_341 : decode cL_areReadings 341 = .ok (.iload_n 3, 1) := by decide +kernel
theorem dL_areReadings_342 : decode cL_areReadings 342 = .ok (.ifCond .eq 150, 3) := by decide +kernel
theorem dL_areReadings_345 : decode cL_areReadings 345 = .ok (.iload 11, 2) := by decide +kernel
theorem dL_areReadings_347 : decode cL_areReadings 347 = .ok (.ifCond .lt 145, 3) := by decide +kernel
theorem dL_areReadings_350 : decode cL_areReadings 350 = .ok (.iload 11, 2) := by decide +kernel
theorem dL_areReadings_352 : decode cL_areReadings 352 = .ok (.bipush 6, 2) := by decide +kernel
theorem dL_areReadings_354 : decode cL_areReadings 354 = .ok (.if_icmp .gt 138, 3) := by decide +kernel
theorem dL_areReadings_357 : decode cL_areReadings 357 = .ok (.iload 12, 2) := by decide +kernel
theorem dL_areReadings_359 : decode cL_areReadings 359 = .ok (.bipush 20, 2) := by decide +kernel
theorem dL_areReadings_361 : decode cL_areReadings 361 = .ok (.iload 11, 2) := by decide +kernel
theorem dL_areReadings_363 : decode cL_areReadings 363 = .ok (.imul, 1) := by decide +kernel
theorem dL_areReadings_364 : decode cL_areReadings 364 = .ok (.if_icmp .gt 128, 3) := by decide +kernel
theorem dL_areReadings_367 : decode cL_areReadings 367 = .ok (.iload 5, 2) := by decide +kernel
theorem dL_areReadings_369 : decode cL_areReadings 369 = .ok (.iconst 2, 1) := by decide +kernel
theorem dL_areReadings_370 : decode cL_areReadings 370 = .ok (.if_icmp .ge 13, 3) := by decide +kernel
theorem dL_areReadings_373 : decode cL_areReadings 373 = .ok (.iload 12, 2) := by decide +kernel
theorem dL_areReadings_375 : decode cL_areReadings 375 = .ok (.iload 11, 2) := by decide +kernel
theorem dL_areReadings_377 : decode cL_areReadings 377 = .ok (.if_icmp .lt 115, 3) := by decide +kernel
theorem dL_areReadings_380 : decode cL_areReadings 380 = .ok (.goto 8, 3) := by decide +kernel
theorem dL_areReadings_383 : decode cL_areReadings 383 = .ok (.iload 12, 2) := by decide +kernel
theorem dL_areReadings_385 : decode cL_areReadings 385 = .ok (.ifCond .ne 107, 3) := by decide +kernel
theorem dL_areReadings_388 : decode cL_areReadings 388 = .ok (.iload 5, 2) := by decide +kernel
theorem dL_areReadings_390 : decode cL_areReadings 390 = .ok (.iconst 4, 1) := by decide +kernel
theorem dL_areReadings_391 : decode cL_areReadings 391 = .ok (.if_icmp .lt 8, 3) := by decide +kernel
theorem dL_areReadings_394 : decode cL_areReadings 394 = .ok (.iload 11, 2) := by decide +kernel
theorem dL_areReadings_396 : decode cL_areReadings 396 = .ok (.ifCond .ne 96, 3) := by decide +kernel
theorem dL_areReadings_399 : decode cL_areReadings 399 = .ok (.iload 5, 2) := by decide +kernel
theorem dL_areReadings_401 : decode cL_areReadings 401 = .ok (.iconst 3, 1) := by decide +kernel
theorem dL_areReadings_402 : decode cL_areReadings 402 = .ok (.if_icmp .ne 38, 3) := by decide +kernel
theorem dL_areReadings_405 : decode cL_areReadings 405 = .ok (.aload_n 0, 1) := by decide +kernel
theorem dL_areReadings_406 : decode cL_areReadings 406 = .ok (.iload 4, 2) := by decide +kernel
theorem dL_areReadings_408 : decode cL_areReadings 408 = .ok (.invokevirtual 77, 3) := by decide +kernel
theorem dL_areReadings_411 : decode cL_areReadings 411 = .ok (.ifCond .lt 81, 3) := by decide +kernel
theorem dL_areReadings_414 : decode cL_areReadings 414 = .ok (.aload_n 0, 1) := by decide +kernel
theorem dL_areReadings_415 : decode cL_areReadings 415 = .ok (.iload 4, 2) := by decide +kernel
theorem dL_areReadings_417 : decode cL_areReadings 417 = .ok (.invokevirtual 77, 3) := by decide +kernel
theorem dL_areReadings_420 : decode cL_areReadings 420 = .ok (.iload 7, 2) := by decide +kernel
theorem dL_areReadings_422 : decode cL_areReadings 422 = .ok (.isub, 1) := by decide +kernel
theorem dL_areReadings_423 : decode cL_areReadings 423 = .ok (.iconst 5, 1) := by decide +kernel
theorem dL_areReadings_424 : decode cL_areReadings 424 = .ok (.if_icmp .gt 16, 3) := by decide +kernel
theorem dL_areReadings_427 : decode cL_areReadings 427 = .ok (.iload 7, 2) := by decide +kernel
theorem dL_areReadings_429 : decode cL_areReadings 429 = .ok (.aload_n 0, 1) := by decide +kernel
theorem dL_areReadings_430 : decode cL_areReadings 430 = .ok (.iload 4, 2) := by decide +kernel
theorem dL_areReadings_432 : decode cL_areReadings 432 = .ok (.invokevirtual 77, 3) := by decide +kernel
theorem dL_areReadings_435 : decode cL_areReadings 435 = .ok (.isub, 1) := by decide +kernel
theorem dL_areReadings_436 : decode cL_areReadings 436 = .ok (.iconst 5, 1) := by decide +kernel
theorem dL_areReadings_437 : decode cL_areReadings 437 = .ok (.if_icmp .le 55, 3) := by decide +kernel
theorem dL_areReadings_440 : decode cL_areReadings 440 = .ok (.iload 5, 2) := by decide +kernel
theorem dL_areReadings_442 : decode cL_areReadings 442 = .ok (.iconst 2, 1) := by decide +kernel
theorem dL_areReadings_443 : decode cL_areReadings 443 = .ok (.if_icmp .lt 45, 3) := by decide +kernel
theorem dL_areReadings_446 : decode cL_areReadings 446 = .ok (.iload 5, 2) := by decide +kernel
theorem dL_areReadings_448 : decode cL_areReadings 448 = .ok (.iconst 3, 1) := by decide +kernel
theorem dL_areReadings_449 : decode cL_areReadings 449 = .ok (.if_icmp .eq 39, 3) := by decide +kernel
theorem dL_areReadings_452 : decode cL_areReadings 452 = .ok (.aload_n 0, 1) := by decide +kernel
theorem dL_areReadings_453 : decode cL_areReadings 453 = .ok (.iload 4, 2) := by decide +kernel
theorem dL_areReadings_455 : decode cL_areReadings 455 = .ok (.invokevirtual 77, 3) := by decide +kernel
theorem dL_areReadings_458 : decode cL_areReadings 458 = .ok (.iconst (-1), 1) := by decide +kernel
theorem dL_areReadings_459 : decode cL_areReadings 459 = .ok (.if_icmp .eq 29, 3) := by decide +kernel
theorem dL_areReadings_462 : decode cL_areReadings 462 = .ok (.aload_n 0, 1) := by decide +kernel
theorem dL_areReadings_463 : decode cL_areReadings 463 = .ok (.iload 4, 2) := by decide +kernel
theorem dL_areReadings_465 : decode cL_areReadings 465 = .ok (.invokevirtual 77, 3) := by decide +kernel
theorem dL_areReadings_468 : decode cL_areReadings 468 = .ok (.iload 7, 2) := by decide +kernel
theorem dL_areReadings_470 : decode cL_areReadings 470 = .ok (.isub, 1) := by decide +kernel
theorem dL_areReadings_471 : decode cL_areReadings 471 = .ok (.iconst 5, 1) := by decide +kernel
theorem dL_areReadings_472 : decode cL_areReadings 472 = .ok (.if_icmp .gt 20, 3) := by decide +kernel
theorem dL_areReadings_475 : decode cL_areReadings 475 = .ok (.iload 7, 2) := by decide +kernel
theorem dL_areReadings_477 : decode cL_areReadings 477 = .ok (.aload_n 0, 1) := by decide +kernel
theorem dL_areReadings_478 : decode cL_areReadings 478 = .ok (.iload 4, 2) := by decide +kernel
theorem dL_areReadings_480 : decode cL_areReadings 480 = .ok (.invokevirtual 77, 3) := by decide +kernel
theorem dL_areReadings_483 : decode cL_areReadings 483 = .ok (.isub, 1) := by decide +kernel
theorem dL_areReadings_484 : decode cL_areReadings 484 = .ok (.iconst 5, 1) := by decide +kernel
theorem dL_areReadings_485 : decode cL_areReadings 485 = .ok (.if_icmp .gt 7, 3) := by decide +kernel
theorem dL_areReadings_488 : decode cL_areReadings 488 = .ok (.iconst 1, 1) := by decide +kernel
theorem dL_areReadings_489 : decode cL_areReadings 489 = .ok (.goto 4, 3) := by decide +kernel
theorem dL_areReadings_492 : decode cL_areReadings 492 = .ok (.iconst 0, 1) := by decide +kernel
theorem dL_areReadings_493 : decode cL_areReadings 493 = .ok (.istore_n 3, 1) := by decide +kernel
theorem dL_areReadings_494 : decode cL_areReadings 494 = .ok (.iload_n 3, 1) := by decide +kernel
theorem dL_areReadings_495 : decode cL_areReadings 495 = .ok (.ifCond .eq 28, 3) := by decide +kernel
theorem dL_areReadings_498 : decode cL_areReadings 498 = .ok (.iload 5, 2) := by decide +kernel
theorem dL_areReadings_500 : decode cL_areReadings 500 = .ok (.iconst 1, 1) := by decide +kernel
theorem dL_areReadings_501 : decode cL_areReadings 501 = .ok (.if_icmp .gt 18, 3) := by decide +kernel
theorem dL_areReadings_504 : decode cL_areReadings 504 = .ok (.aload_n 2, 1) := by decide +kernel
theorem dL_areReadings_505 : decode cL_areReadings 505 = .ok (.iconst 0, 1) := by decide +kernel
theorem dL_areReadings_506 : decode cL_areReadings 506 = .ok (.iaload, 1) := by decide +kernel
theorem dL_areReadings_507 : decode cL_areReadings 507 = .ok (.aload_n 1, 1) := by decide +kernel
theorem dL_areReadings_508 : decode cL_areReadings 508 = .ok (.iload 4, 2) := by decide +kernel
theorem dL_areReadings_510 : decode cL_areReadings 510 = .ok (.iaload, 1) := by decide +kernel
theorem dL_areReadings_511 : decode cL_areReadings 511 = .ok (.bipush 14, 2) := by decide +kernel
theorem dL_areReadings_513 : decode cL_areReadings 513 = .ok (.ishr, 1) := by decide +kernel
theorem dL_areReadings_514 : decode cL_areReadings 514 = .ok (.isub, 1) := by decide +kernel
theorem dL_areReadings_515 : decode cL_areReadings 515 = .ok (.iconst 5, 1) := by decide +kernel
theorem dL_areReadings_516 : decode cL_areReadings 516 = .ok (.if_icmp .ge 7, 3) := by decide +kernel
theorem dL_areReadings_519 : decode cL_areReadings 519 = .ok (.iconst 1, 1) := by decide +kernel
theorem dL_areReadings_520 : decode cL_areReadings 520 = .ok (.goto 4, 3) := by decide +kernel
theorem dL_areReadings_523 : decode cL_areReadings 523 = .ok (.iconst 0, 1) := by decide +kernel
theorem dL_areReadings_524 : decode cL_areReadings 524 = .ok (.istore_n 3, 1) := by decide +kernel
theorem dL_areReadings_525 : decode cL_areReadings 525 = .ok (.aload_n 1, 1) := by decide +kernel
theorem dL_areReadings_526 : decode cL_areReadings 526 = .ok (.iload 4, 2) := by decide +kernel
theorem dL_areReadings_528 : decode cL_areReadings 528 = .ok (.aload_n 1, 1) := by decide +kernel
theorem dL_areReadings_529 : decode cL_areReadings 529 = .ok (.iload 4, 2) := by decide +kernel
theorem dL_areReadings_531 : decode cL_areReadings 531 = .ok (.iaload, 1) := by decide +kernel
theorem dL_areReadings_532 : decode cL_areReadings 532 = .ok (.sipush (-14337), 3) := by decide +kernel
theorem dL_areReadings_535 : decode cL_areReadings 535 = .ok (.iand, 1) := by decide +kernel
theorem dL_areReadings_536 : decode cL_areReadings 536 = .ok (.iload 5, 2) := by decide +kernel
theorem dL_areReadings_538 : decode cL_areReadings 538 = .ok (.bipush 11, 2) := by decide +kernel
theorem dL_areReadings_540 : decode cL_areReadings 540 = .ok (.ishl, 1) := by decide +kernel
theorem dL_areReadings_541 : decode cL_areReadings 541 = .ok (.ior, 1) := by decide +kernel
theorem dL_areReadings_542 : decode cL_areReadings 542 = .ok (.iastore, 1) := by decide +kernel
theorem dL_areReadings_543 : decode cL_areReadings 543 = .ok (.iinc 4 1, 3) := by decide +kernel
theorem dL_areReadings_546 : decode cL_areReadings 546 = .ok (.goto (-517), 3) := by decide +kernel
theorem dL_areReadings_549 : decode cL_areReadings 549 = .ok (.iload_n 3, 1) := by decide +kernel
theorem dL_areReadings_550 : decode cL_areReadings 550 = .ok (.ireturn, 1) := by decide +kernel
set_option maxRecDepth 20000 in
theorem ggL_areMarks_X6_stateOf : GoodIn wsL_areMarks wsX6_stateOf := goodIn_ca (goodIn_r _ [5, 6, 7, 8, 4, 9, 10, 11, 12, 13, 26, 27, 28, 29, 30, 31, 32, 33, 34, 35, 36, 37, 38, 39, 40, 41, 42, 43] (by decide +kernel) (by decide +kernel)) (goodIn_sub (fun _ h => List.mem_cons_of_mem _ (List.mem_append_right _ h)) (by decide +kernel))
set_option maxRecDepth 20000 in
theorem gL_areMarks_X6_stateOf : GoodIn wsL_areMarks (wsV RL 59 RX6 yX6_stateOf wsX6_stateOf) := goodIn_app (goodIn_of _ (by decide +kernel)) ggL_areMarks_X6_stateOf
set_option maxRecDepth 20000 in
theorem ggL_areMarks_X6_mark : GoodIn wsL_areMarks wsX6_mark := goodIn_ca (goodIn_r _ [17, 12, 13, 18, 19, 20, 4, 21, 10, 11, 22, 23, 24, 25, 36, 37, 38, 39, 40, 41, 42, 43, 26, 27, 28, 29, 30, 31, 32, 33, 34, 35] (by decide +kernel) (by decide +kernel)) (goodIn_sub (fun _ h => List.mem_cons_of_mem _ (List.mem_append_right _ h)) (by decide +kernel))
set_option maxRecDepth 20000 in
theorem gL_areMarks_X6_mark : GoodIn wsL_areMarks (wsV RL 80 RX6 yX6_mark wsX6_mark) := goodIn_app (goodIn_of _ (by decide +kernel)) ggL_areMarks_X6_mark
theorem dL_areMarks_0 : decode cL_areMarks 0 = .ok (.iconst 1, 1) := by decide +kernel
theorem dL_areMarks_1 : decode cL_areMarks 1 = .ok (.istore_n 3, 1) := by decide +kernel
theorem dL_areMarks_2 : decode cL_areMarks 2 = .ok (.iconst 0, 1) := by decide +kernel
theorem dL_areMarks_3 : decode cL_areMarks 3 = .ok (.istore 4, 2) := by decide +kernel
theorem dL_areMarks_5 : decode cL_areMarks 5 = .ok (.iload 4, 2) := by decide +kernel
theorem dL_areMarks_7 : decode cL_areMarks 7 = .ok (.bipush 12, 2) := by decide +kernel
theorem dL_areMarks_9 : decode cL_areMarks 9 = .ok (.if_icmp .ge 101, 3) := by decide +kernel
theorem dL_areMarks_12 : decode cL_areMarks 12 = .ok (.iload_n 3, 1) := by decide +kernel
theorem dL_areMarks_13 : decode cL_areMarks 13 = .ok (.ifCond .eq 97, 3) := by decide +kernel
theorem dL_areMarks_16 : decode cL_areMarks 16 = .ok (.iconst 0, 1) := by decide +kernel
theorem dL_areMarks_17 : decode cL_areMarks 17 = .ok (.istore 5, 2) := by decide +kernel
theorem dL_areMarks_19 : decode cL_areMarks 19 = .ok (.iconst 0, 1) := by decide +kernel
theorem dL_areMarks_20 : decode cL_areMarks 20 = .ok (.istore 6, 2) := by decide +kernel
theorem dL_areMarks_22 : decode cL_areMarks 22 = .ok (.iload 6, 2) := by decide +kernel
theorem dL_areMarks_24 : decode cL_areMarks 24 = .ok (.aload_n 2, 1) := by decide +kernel
theorem dL_areMarks_25 : decode cL_areMarks 25 = .ok (.iconst 1, 1) := by decide +kernel
theorem dL_areMarks_26 : decode cL_areMarks 26 = .ok (.iaload, 1) := by decide +kernel
theorem dL_areMarks_27 : decode cL_areMarks 27 = .ok (.if_icmp .ge 60, 3) := by decide +kernel
theorem dL_areMarks_30 : decode cL_areMarks 30 = .ok (.iload 5, 2) := by decide +kernel
theorem dL_areMarks_32 : decode cL_areMarks 32 = .ok (.aload_n 1, 1) := by decide +kernel
theorem dL_areMarks_33 : decode cL_areMarks 33 = .ok (.iload 6, 2) := by decide +kernel
theorem dL_areMarks_35 : decode cL_areMarks 35 = .ok (.iaload, 1) := by decide +kernel
theorem dL_areMarks_36 : decode cL_areMarks 36 = .ok (.bipush 15, 2) := by decide +kernel
theorem dL_areMarks_38 : decode cL_areMarks 38 = .ok (.iand, 1) := by decide +kernel
theorem dL_areMarks_39 : decode cL_areMarks 39 = .ok (.iload 4, 2) := by decide +kernel
theorem dL_areMarks_41 : decode cL_areMarks 41 = .ok (.if_icmp .eq 7, 3) := by decide +kernel
theorem dL_areMarks_44 : decode cL_areMarks 44 = .ok (.iconst 0, 1) := by decide +kernel
theorem dL_areMarks_45 : decode cL_areMarks 45 = .ok (.goto 33, 3) := by decide +kernel
theorem dL_areMarks_48 : decode cL_areMarks 48 = .ok (.aload_n 0, 1) := by decide +kernel
theorem dL_areMarks_49 : decode cL_areMarks 49 = .ok (.iload 6, 2) := by decide +kernel
theorem dL_areMarks_51 : decode cL_areMarks 51 = .ok (.invokevirtual 59, 3) := by decide +kernel
theorem dL_areMarks_54 : decode cL_areMarks 54 = .ok (.iconst 2, 1) := by decide +kernel
theorem dL_areMarks_55 : decode cL_areMarks 55 = .ok (.if_icmp .ne 7, 3) := by decide +kernel
theorem dL_areMarks_58 : decode cL_areMarks 58 = .ok (.iconst 1, 1) := by decide +kernel
theorem dL_areMarks_59 : decode cL_areMarks 59 = .ok (.goto 19, 3) := by decide +kernel
theorem dL_areMarks_62 : decode cL_areMarks 62 = .ok (.aload_n 0, 1) := by decide +kernel
theorem dL_areMarks_63 : decode cL_areMarks 63 = .ok (.iload 6, 2) := by decide +kernel
theorem dL_areMarks_65 : decode cL_areMarks 65 = .ok (.invokevirtual 59, 3) := by decide +kernel
theorem dL_areMarks_68 : decode cL_areMarks 68 = .ok (.iconst 3, 1) := by decide +kernel
theorem dL_areMarks_69 : decode cL_areMarks 69 = .ok (.if_icmp .ne 8, 3) := by decide +kernel
theorem dL_areMarks_72 : decode cL_areMarks 72 = .ok (.bipush (-3), 2) := by decide +kernel
theorem dL_areMarks_74 : decode cL_areMarks 74 = .ok (.goto 4, 3) := by decide +kernel
theorem dL_areMarks_77 : decode cL_areMarks 77 = .ok (.iconst 0, 1) := by decide +kernel
theorem dL_areMarks_78 : decode cL_areMarks 78 = .ok (.iadd, 1) := by decide +kernel
theorem dL_areMarks_79 : decode cL_areMarks 79 = .ok (.istore 5, 2) := by decide +kernel
theorem dL_areMarks_81 : decode cL_areMarks 81 = .ok (.iinc 6 1, 3) := by decide +kernel
theorem dL_areMarks_84 : decode cL_areMarks 84 = .ok (.goto (-62), 3) := by decide +kernel
theorem dL_areMarks_87 : decode cL_areMarks 87 = .ok (.aload_n 0, 1) := by decide +kernel
theorem dL_areMarks_88 : decode cL_areMarks 88 = .ok (.iload 4, 2) := by decide +kernel
theorem dL_areMarks_90 : decode cL_areMarks 90 = .ok (.invokevirtual 80, 3) := by decide +kernel
theorem dL_areMarks_93 : decode cL_areMarks 93 = .ok (.iload 5, 2) := by decide +kernel
theorem dL_areMarks_95 : decode cL_areMarks 95 = .ok (.if_icmp .ne 7, 3) := by decide +kernel
theorem dL_areMarks_98 : decode cL_areMarks 98 = .ok (.iconst 1, 1) := by decide +kernel
theorem dL_areMarks_99 : decode cL_areMarks 99 = .ok (.goto 4, 3) := by decide +kernel
theorem dL_areMarks_102 : decode cL_areMarks 102 = .ok (.iconst 0, 1) := by decide +kernel
theorem dL_areMarks_103 : decode cL_areMarks 103 = .ok (.istore_n 3, 1) := by decide +kernel
theorem dL_areMarks_104 : decode cL_areMarks 104 = .ok (.iinc 4 1, 3) := by decide +kernel
theorem dL_areMarks_107 : decode cL_areMarks 107 = .ok (.goto (-102), 3) := by decide +kernel
theorem dL_areMarks_110 : decode cL_areMarks 110 = .ok (.iload_n 3, 1) := by decide +kernel
theorem dL_areMarks_111 : decode cL_areMarks 111 = .ok (.ireturn, 1) := by decide +kernel
set_option maxRecDepth 20000 in
theorem ggL_tells_X6_bond : GoodIn wsL_tells wsX6_bond := goodIn_ca (goodIn_r _ [5, 6, 7, 8, 4, 9, 10, 11, 12, 192, 193, 194, 195, 196, 197, 198, 199, 200, 201, 202, 203, 204, 205, 206] (by decide +kernel) (by decide +kernel)) (goodIn_sub (fun _ h => List.mem_cons_of_mem _ (List.mem_append_left _ (List.mem_append_left _ (List.mem_append_right _ h)))) (by decide +kernel))
set_option maxRecDepth 20000 in
theorem gL_tells_X6_bond : GoodIn wsL_tells (wsV RL 40 RX6 yX6_bond wsX6_bond) := goodIn_app (goodIn_of _ (by decide +kernel)) ggL_tells_X6_bond
set_option maxRecDepth 20000 in
theorem ggL_tells_X6_aside : GoodIn wsL_tells wsX6_aside := goodIn_ca (goodIn_r _ [16, 17, 18, 19, 4, 20, 10, 11, 21, 6, 7, 8, 9, 12, 207, 208, 192, 193, 194, 195, 196, 197, 198, 209, 210, 211, 199, 200, 201, 202, 203, 204, 205, 206] (by decide +kernel) (by decide +kernel)) (goodIn_sub (fun _ h => List.mem_cons_of_mem _ (List.mem_append_left _ (List.mem_append_left _ (List.mem_append_right _ h)))) (by decide +kernel))
set_option maxRecDepth 20000 in
theorem gL_tells_X6_aside : GoodIn wsL_tells (wsV RL 50 RX6 yX6_aside wsX6_aside) := goodIn_app (goodIn_of _ (by decide +kernel)) ggL_tells_X6_aside
set_option maxRecDepth 20000 in
theorem ggL_tells_L_asks : GoodIn wsL_tells wsL_asks := goodIn_ca (goodIn_ca (goodIn_ca (goodIn_r _ [25, 26, 27, 28, 29, 30, 4, 31, 32, 33, 34, 35, 36, 37, 38, 39, 6, 7, 8, 9, 10, 11, 12, 40, 41, 42, 43, 44, 45, 46, 47, 48, 49, 50, 51, 52, 53, 54, 55, 56, 57, 58, 59, 60, 61, 62, 63, 64, 65, 66, 67, 68, 69, 70, 71, 72, 73, 74, 75, 76, 77, 78, 79, 80, 81, 82, 83, 84, 85, 21, 86, 87, 88, 89, 90, 91, 92, 17, 18, 19, 20, 93, 94, 95, 96, 97, 98, 99, 100, 101, 102, 103, 104, 105, 106, 107, 108, 109, 110, 111, 112, 113, 114, 115, 116, 117, 118, 119, 120, 121, 122, 123, 124, 125, 126, 127, 128, 129, 130, 131, 132, 133, 134, 135, 136, 137, 138, 139, 140, 141, 142, 143, 144, 145, 146, 147, 148, 149, 150, 151, 152, 153, 154, 155, 156, 157, 158, 159, 160, 161, 162, 163, 164, 165, 166, 167, 168, 169, 170, 171, 172, 173, 174, 175, 176, 177, 178, 179, 192, 193, 194, 195, 196, 197, 198, 199, 200, 201, 202, 203, 204, 205, 206, 212, 213, 214, 215, 216, 217, 218, 219, 220, 221, 222, 223, 224, 225, 207, 208, 209, 210, 211, 226, 227, 228, 229] (by decide +kernel) (by decide +kernel)) (goodIn_sub (fun _ h => List.mem_cons_of_mem _ (List.mem_append_left _ (List.mem_append_right _ h))) (by decide +kernel))) (goodIn_sub (fun _ h => List.mem_cons_of_mem _ (List.mem_append_left _ (List.mem_append_left _ (List.mem_append_right _ h)))) (by decide +kernel))) (goodIn_sub (fun _ h => List.mem_cons_of_mem _ (List.mem_append_right _ h)) (by decide +kernel))
set_option maxRecDepth 20000 in
theorem gL_tells_L_asks : GoodIn wsL_tells (va_wsS RL 83 yL_asks wsL_asks) := goodIn_app (goodIn_of _ (by decide +kernel)) ggL_tells_L_asks
set_option maxRecDepth 20000 in
theorem ggL_tells_X6_stateOf : GoodIn wsL_tells wsX6_stateOf := goodIn_ca (goodIn_r _ [183, 106, 107, 108, 4, 109, 10, 11, 35, 39, 212, 213, 214, 215, 216, 217, 218, 219, 220, 221, 199, 200, 201, 202, 203, 204, 205, 206] (by decide +kernel) (by decide +kernel)) (goodIn_sub (fun _ h => List.mem_cons_of_mem _ (List.mem_append_left _ (List.mem_append_left _ (List.mem_append_right _ h)))) (by decide +kernel))
set_option maxRecDepth 20000 in
theorem gL_tells_X6_stateOf : GoodIn wsL_tells (wsV RL 59 RX6 yX6_stateOf wsX6_stateOf) := goodIn_app (goodIn_of _ (by decide +kernel)) ggL_tells_X6_stateOf
set_option maxRecDepth 20000 in
theorem ggL_tells_X6_users : GoodIn wsL_tells wsX6_users := goodIn_ca (goodIn_r _ [187, 106, 107, 108, 4, 109, 10, 11, 35, 39, 212, 213, 214, 215, 216, 217, 218, 219, 220, 221, 199, 200, 201, 202, 203, 204, 205, 206] (by decide +kernel) (by decide +kernel)) (goodIn_sub (fun _ h => List.mem_cons_of_mem _ (List.mem_append_left _ (List.mem_append_left _ (List.mem_append_right _ h)))) (by decide +kernel))
set_option maxRecDepth 20000 in
theorem gL_tells_X6_users : GoodIn wsL_tells (wsV RL 74 RX6 yX6_users wsX6_users) := goodIn_app (goodIn_of _ (by decide +kernel)) ggL_tells_X6_users
set_option maxRecDepth 20000 in
theorem ggL_tells_X6_held : GoodIn wsL_tells wsX6_held := goodIn_ca (goodIn_r _ [191, 106, 107, 108, 4, 109, 10, 11, 35, 39, 212, 213, 214, 215, 216, 217, 218, 219, 220, 221, 199, 200, 201, 202, 203, 204, 205, 206] (by decide +kernel) (by decide +kernel)) (goodIn_sub (fun _ h => List.mem_cons_of_mem _ (List.mem_append_left _ (List.mem_append_left _ (List.mem_append_right _ h)))) (by decide +kernel))
set_option maxRecDepth 20000 in
theorem gL_tells_X6_held : GoodIn wsL_tells (wsV RL 56 RX6 yX6_held wsX6_held) := goodIn_app (goodIn_of _ (by decide +kernel)) ggL_tells_X6_held
theorem dL_tells_0 : decode cL_tells 0 = .ok (.iload_n 1, 1) := by decide +kernel
theorem dL_tells_1 : decode cL_tells 1 = .ok (.bipush 12, 2) := by decide +kernel
theorem dL_tells_3 : decode cL_tells 3 = .ok (.irem, 1) := by decide +kernel
theorem dL_tells_4 : decode cL_tells 4 = .ok (.istore 6, 2) := by decide +kernel
theorem dL_tells_6 : decode cL_tells 6 = .ok (.aload_n 0, 1) := by decide +kernel
theorem dL_tells_7 : decode cL_tells 7 = .ok (.iload 6, 2) := by decide +kernel
theorem dL_tells_9 : decode cL_tells 9 = .ok (.invokevirtual 40, 3) := by decide +kernel
theorem dL_tells_12 : decode cL_tells 12 = .ok (.bipush 20, 2) := by decide +kernel
theorem dL_tells_14 : decode cL_tells 14 = .ok (.if_icmp .lt 30, 3) := by decide +kernel
theorem dL_tells_17 : decode cL_tells 17 = .ok (.aload 5, 2) := by decide +kernel
theorem dL_tells_19 : decode cL_tells 19 = .ok (.iload 6, 2) := by decide +kernel
theorem dL_tells_21 : decode cL_tells 21 = .ok (.iaload, 1) := by decide +kernel
theorem dL_tells_22 : decode cL_tells 22 = .ok (.aload 4, 2) := by decide +kernel
theorem dL_tells_24 : decode cL_tells 24 = .ok (.iconst 0, 1) := by decide +kernel
theorem dL_tells_25 : decode cL_tells 25 = .ok (.iaload, 1) := by decide +kernel
theorem dL_tells_26 : decode cL_tells 26 = .ok (.iconst 1, 1) := by decide +kernel
theorem dL_tells_27 : decode cL_tells 27 = .ok (.iadd, 1) := by decide +kernel
theorem dL_tells_28 : decode cL_tells 28 = .ok (.if_icmp .eq 16, 3) := by decide +kernel
theorem dL_tells_31 : decode cL_tells 31 = .ok (.aload 4, 2) := by decide +kernel
theorem dL_tells_33 : decode cL_tells 33 = .ok (.iconst 1, 1) := by decide +kernel
theorem dL_tells_34 : decode cL_tells 34 = .ok (.iaload, 1) := by decide +kernel
theorem dL_tells_35 : decode cL_tells 35 = .ok (.bipush 80, 2) := by decide +kernel
theorem dL_tells_37 : decode cL_tells 37 = .ok (.if_icmp .ge 7, 3) := by decide +kernel
theorem dL_tells_40 : decode cL_tells 40 = .ok (.iconst 1, 1) := by decide +kernel
theorem dL_tells_41 : decode cL_tells 41 = .ok (.goto 4, 3) := by decide +kernel
theorem dL_tells_44 : decode cL_tells 44 = .ok (.iconst 0, 1) := by decide +kernel
theorem dL_tells_45 : decode cL_tells 45 = .ok (.istore 7, 2) := by decide +kernel
theorem dL_tells_47 : decode cL_tells 47 = .ok (.iconst 0, 1) := by decide +kernel
theorem dL_tells_48 : decode cL_tells 48 = .ok (.istore 8, 2) := by decide +kernel
theorem dL_tells_50 : decode cL_tells 50 = .ok (.iconst 0, 1) := by decide +kernel
theorem dL_tells_51 : decode cL_tells 51 = .ok (.istore 9, 2) := by decide +kernel
theorem dL_tells_53 : decode cL_tells 53 = .ok (.iconst 0, 1) := by decide +kernel
theorem dL_tells_54 : decode cL_tells 54 = .ok (.istore 10, 2) := by decide +kernel
theorem dL_tells_56 : decode cL_tells 56 = .ok (.iload 10, 2) := by decide +kernel
theorem dL_tells_58 : decode cL_tells 58 = .ok (.bipush 6, 2) := by decide +kernel
theorem dL_tells_60 : decode cL_tells 60 = .ok (.if_icmp .ge 43, 3) := by decide +kernel
theorem dL_tells_63 : decode cL_tells 63 = .ok (.iload 9, 2) := by decide +kernel
theorem dL_tells_65 : decode cL_tells 65 = .ok (.aload_n 0, 1) := by decide +kernel
theorem dL_tells_66 : decode cL_tells 66 = .ok (.iload 10, 2) := by decide +kernel
theorem dL_tells_68 : decode cL_tells 68 = .ok (.iload 6, 2) := by decide +kernel
theorem dL_tells_70 : decode cL_tells 70 = .ok (.invokevirtual 50, 3) := by decide +kernel
theorem dL_tells_73 : decode cL_tells 73 = .ok (.iadd, 1) := by decide +kernel
theorem dL_tells_74 : decode cL_tells 74 = .ok (.istore 9, 2) := by decide +kernel
theorem dL_tells_76 : decode cL_tells 76 = .ok (.iload 8, 2) := by decide +kernel
theorem dL_tells_78 : decode cL_tells 78 = .ok (.aload_n 0, 1) := by decide +kernel
theorem dL_tells_79 : decode cL_tells 79 = .ok (.iload 10, 2) := by decide +kernel
theorem dL_tells_81 : decode cL_tells 81 = .ok (.iload 6, 2) := by decide +kernel
theorem dL_tells_83 : decode cL_tells 83 = .ok (.invokevirtual 50, 3) := by decide +kernel
theorem dL_tells_86 : decode cL_tells 86 = .ok (.ifCond .le 7, 3) := by decide +kernel
theorem dL_tells_89 : decode cL_tells 89 = .ok (.iconst 1, 1) := by decide +kernel
theorem dL_tells_90 : decode cL_tells 90 = .ok (.goto 4, 3) := by decide +kernel
theorem dL_tells_93 : decode cL_tells 93 = .ok (.iconst 0, 1) := by decide +kernel
theorem dL_tells_94 : decode cL_tells 94 = .ok (.iadd, 1) := by decide +kernel
theorem dL_tells_95 : decode cL_tells 95 = .ok (.istore 8, 2) := by decide +kernel
theorem dL_tells_97 : decode cL_tells 97 = .ok (.iinc 10 1, 3) := by decide +kernel
theorem dL_tells_100 : decode cL_tells 100 = .ok (.goto (-44), 3) := by decide +kernel
theorem dL_tells_103 : decode cL_tells 103 = .ok (.aload_n 0, 1) := by decide +kernel
theorem dL_tells_104 : decode cL_tells 104 = .ok (.iconst 0, 1) := by decide +kernel
theorem dL_tells_105 : decode cL_tells 105 = .ok (.iload 6, 2) := by decide +kernel
theorem dL_tells_107 : decode cL_tells 107 = .ok (.iload_n 2, 1) := by decide +kernel
theorem dL_tells_108 : decode cL_tells 108 = .ok (.bipush 100, 2) := by decide +kernel
theorem dL_tells_110 : decode cL_tells 110 = .ok (.irem, 1) := by decide +kernel
theorem dL_tells_111 : decode cL_tells 111 = .ok (.iconst 0, 1) := by decide +kernel
theorem dL_tells_112 : decode cL_tells 112 = .ok (.invokestatic 83, 3) := by decide +kernel
theorem dL_tells_115 : decode cL_tells 115 = .ok (.istore 10, 2) := by decide +kernel
theorem dL_tells_117 : decode cL_tells 117 = .ok (.iload 7, 2) := by decide +kernel
theorem dL_tells_119 : decode cL_tells 119 = .ok (.ifCond .ne 16, 3) := by decide +kernel
theorem dL_tells_122 : decode cL_tells 122 = .ok (.iload 10, 2) := by decide +kernel
theorem dL_tells_124 : decode cL_tells 124 = .ok (.bipush (-108), 2) := by decide +kernel
theorem dL_tells_126 : decode cL_tells 126 = .ok (.if_icmp .ne 7, 3) := by decide +kernel
theorem dL_tells_129 : decode cL_tells 129 = .ok (.iconst 1, 1) := by decide +kernel
theorem dL_tells_130 : decode cL_tells 130 = .ok (.goto 4, 3) := by decide +kernel
theorem dL_tells_133 : decode cL_tells 133 = .ok (.iconst 0, 1) := by decide +kernel
theorem dL_tells_134 : decode cL_tells 134 = .ok (.ireturn, 1) := by decide +kernel
theorem dL_tells_135 : decode cL_tells 135 = .ok (.aload 5, 2) := by decide +kernel
theorem dL_tells_137 : decode cL_tells 137 = .ok (.iload 6, 2) := by decide +kernel
theorem dL_tells_139 : decode cL_tells 139 = .ok (.aload 4, 2) := by decide +kernel
theorem dL_tells_141 : decode cL_tells 141 = .ok (.iconst 0, 1) := by decide +kernel
theorem dL_tells_142 : decode cL_tells 142 = .ok (.iaload, 1) := by decide +kernel
theorem dL_tells_143 : decode cL_tells 143 = .ok (.iconst 1, 1) := by decide +kernel
theorem dL_tells_144 : decode cL_tells 144 = .ok (.iadd, 1) := by decide +kernel
theorem dL_tells_145 : decode cL_tells 145 = .ok (.iastore, 1) := by decide +kernel
theorem dL_tells_146 : decode cL_tells 146 = .ok (.aload_n 3, 1) := by decide +kernel
theorem dL_tells_147 : decode cL_tells 147 = .ok (.aload 4, 2) := by decide +kernel
theorem dL_tells_149 : decode cL_tells 149 = .ok (.iconst 1, 1) := by decide +kernel
theorem dL_tells_150 : decode cL_tells 150 = .ok (.iaload, 1) := by decide +kernel
theorem dL_tells_151 : decode cL_tells 151 = .ok (.iload 6, 2) := by decide +kernel
theorem dL_tells_153 : decode cL_tells 153 = .ok (.iload_n 2, 1) := by decide +kernel
theorem dL_tells_154 : decode cL_tells 154 = .ok (.bipush 100, 2) := by decide +kernel
theorem dL_tells_156 : decode cL_tells 156 = .ok (.irem, 1) := by decide +kernel
theorem dL_tells_157 : decode cL_tells 157 = .ok (.iconst 4, 1) := by decide +kernel
theorem dL_tells_158 : decode cL_tells 158 = .ok (.ishl, 1) := by decide +kernel
theorem dL_tells_159 : decode cL_tells 159 = .ok (.ior, 1) := by decide +kernel
theorem dL_tells_160 : decode cL_tells 160 = .ok (.aload_n 0, 1) := by decide +kernel
theorem dL_tells_161 : decode cL_tells 161 = .ok (.aload 4, 2) := by decide +kernel
theorem dL_tells_163 : decode cL_tells 163 = .ok (.iconst 1, 1) := by decide +kernel
theorem dL_tells_164 : decode cL_tells 164 = .ok (.iaload, 1) := by decide +kernel
theorem dL_tells_165 : decode cL_tells 165 = .ok (.invokevirtual 59, 3) := by decide +kernel
theorem dL_tells_168 : decode cL_tells 168 = .ok (.bipush 11, 2) := by decide +kernel
theorem dL_tells_170 : decode cL_tells 170 = .ok (.ishl, 1) := by decide +kernel
theorem dL_tells_171 : decode cL_tells 171 = .ok (.ior, 1) := by decide +kernel
theorem dL_tells_172 : decode cL_tells 172 = .ok (.aload 4, 2) := by decide +kernel
theorem dL_tells_174 : decode cL_tells 174 = .ok (.iconst 0, 1) := by decide +kernel
theorem dL_tells_175 : decode cL_tells 175 = .ok (.iaload, 1) := by decide +kernel
theorem dL_tells_176 : decode cL_tells 176 = .ok (.bipush 14, 2) := by decide +kernel
theorem dL_tells_178 : decode cL_tells 178 = .ok (.ishl, 1) := by decide +kernel
theorem dL_tells_179 : decode cL_tells 179 = .ok (.ior, 1) := by decide +kernel
theorem dL_tells_180 : decode cL_tells 180 = .ok (.iastore, 1) := by decide +kernel
theorem dL_tells_181 : decode cL_tells 181 = .ok (.aload 4, 2) := by decide +kernel
theorem dL_tells_183 : decode cL_tells 183 = .ok (.iconst 1, 1) := by decide +kernel
theorem dL_tells_184 : decode cL_tells 184 = .ok (.dup2, 1) := by decide +kernel
theorem dL_tells_185 : decode cL_tells 185 = .ok (.iaload, 1) := by decide +kernel
theorem dL_tells_186 : decode cL_tells 186 = .ok (.iconst 1, 1) := by decide +kernel
theorem dL_tells_187 : decode cL_tells 187 = .ok (.iadd, 1) := by decide +kernel
theorem dL_tells_188 : decode cL_tells 188 = .ok (.iastore, 1) := by decide +kernel
theorem dL_tells_189 : decode cL_tells 189 = .ok (.iconst 0, 1) := by decide +kernel
theorem dL_tells_190 : decode cL_tells 190 = .ok (.istore 11, 2) := by decide +kernel
theorem dL_tells_192 : decode cL_tells 192 = .ok (.iconst 0, 1) := by decide +kernel
theorem dL_tells_193 : decode cL_tells 193 = .ok (.istore 12, 2) := by decide +kernel
theorem dL_tells_195 : decode cL_tells 195 = .ok (.iload 12, 2) := by decide +kernel
theorem dL_tells_197 : decode cL_tells 197 = .ok (.bipush 6, 2) := by decide +kernel
theorem dL_tells_199 : decode cL_tells 199 = .ok (.if_icmp .ge 22, 3) := by decide +kernel
theorem dL_tells_202 : decode cL_tells 202 = .ok (.iload 11, 2) := by decide +kernel
theorem dL_tells_204 : decode cL_tells 204 = .ok (.aload_n 0, 1) := by decide +kernel
theorem dL_tells_205 : decode cL_tells 205 = .ok (.iload 12, 2) := by decide +kernel
theorem dL_tells_207 : decode cL_tells 207 = .ok (.iload 6, 2) := by decide +kernel
theorem dL_tells_209 : decode cL_tells 209 = .ok (.invokevirtual 50, 3) := by decide +kernel
theorem dL_tells_212 : decode cL_tells 212 = .ok (.iadd, 1) := by decide +kernel
theorem dL_tells_213 : decode cL_tells 213 = .ok (.istore 11, 2) := by decide +kernel
theorem dL_tells_215 : decode cL_tells 215 = .ok (.iinc 12 1, 3) := by decide +kernel
theorem dL_tells_218 : decode cL_tells 218 = .ok (.goto (-23), 3) := by decide +kernel
theorem dL_tells_221 : decode cL_tells 221 = .ok (.aload_n 0, 1) := by decide +kernel
theorem dL_tells_222 : decode cL_tells 222 = .ok (.iload 10, 2) := by decide +kernel
theorem dL_tells_224 : decode cL_tells 224 = .ok (.invokevirtual 59, 3) := by decide +kernel
theorem dL_tells_227 : decode cL_tells 227 = .ok (.ifCond .ne 7, 3) := by decide +kernel
theorem dL_tells_230 : decode cL_tells 230 = .ok (.iconst 1, 1) := by decide +kernel
theorem dL_tells_231 : decode cL_tells 231 = .ok (.goto 4, 3) := by decide +kernel
theorem dL_tells_234 : decode cL_tells 234 = .ok (.iconst 0, 1) := by decide +kernel
theorem dL_tells_235 : decode cL_tells 235 = .ok (.istore 12, 2) := by decide +kernel
theorem dL_tells_237 : decode cL_tells 237 = .ok (.iload 10, 2) := by decide +kernel
theorem dL_tells_239 : decode cL_tells 239 = .ok (.aload 4, 2) := by decide +kernel
theorem dL_tells_241 : decode cL_tells 241 = .ok (.iconst 1, 1) := by decide +kernel
theorem dL_tells_242 : decode cL_tells 242 = .ok (.iaload, 1) := by decide +kernel
theorem dL_tells_243 : decode cL_tells 243 = .ok (.iconst 1, 1) := by decide +kernel
theorem dL_tells_244 : decode cL_tells 244 = .ok (.isub, 1) := by decide +kernel
theorem dL_tells_245 : decode cL_tells 245 = .ok (.if_icmp .ne 56, 3) := by decide +kernel
theorem dL_tells_248 : decode cL_tells 248 = .ok (.iload 12, 2) := by decide +kernel
theorem dL_tells_250 : decode cL_tells 250 = .ok (.ifCond .ne 13, 3) := by decide +kernel
theorem dL_tells_253 : decode cL_tells 253 = .ok (.aload_n 0, 1) := by decide +kernel
theorem dL_tells_254 : decode cL_tells 254 = .ok (.iload 10, 2) := by decide +kernel
theorem dL_tells_256 : decode cL_tells 256 = .ok (.invokevirtual 59, 3) := by decide +kernel
theorem dL_tells_259 : decode cL_tells 259 = .ok (.iconst 4, 1) := by decide +kernel
theorem dL_tells_260 : decode cL_tells 260 = .ok (.if_icmp .ne 41, 3) := by decide +kernel
theorem dL_tells_263 : decode cL_tells 263 = .ok (.aload_n 0, 1) := by decide +kernel
theorem dL_tells_264 : decode cL_tells 264 = .ok (.iload 10, 2) := by decide +kernel
theorem dL_tells_266 : decode cL_tells 266 = .ok (.invokevirtual 74, 3) := by decide +kernel
theorem dL_tells_269 : decode cL_tells 269 = .ok (.iload 12, 2) := by decide +kernel
theorem dL_tells_271 : decode cL_tells 271 = .ok (.ifCond .eq 8, 3) := by decide +kernel
theorem dL_tells_274 : decode cL_tells 274 = .ok (.iload 8, 2) := by decide +kernel
theorem dL_tells_276 : decode cL_tells 276 = .ok (.goto 4, 3) := by decide +kernel
theorem dL_tells_279 : decode cL_tells 279 = .ok (.iconst 0, 1) := by decide +kernel
theorem dL_tells_280 : decode cL_tells 280 = .ok (.if_icmp .ne 21, 3) := by decide +kernel
theorem dL_tells_283 : decode cL_tells 283 = .ok (.aload_n 0, 1) := by decide +kernel
theorem dL_tells_284 : decode cL_tells 284 = .ok (.iload 10, 2) := by decide +kernel
theorem dL_tells_286 : decode cL_tells 286 = .ok (.invokevirtual 56, 3) := by decide +kernel
theorem dL_tells_289 : decode cL_tells 289 = .ok (.iload 9, 2) := by decide +kernel
theorem dL_tells_291 : decode cL_tells 291 = .ok (.iload 11, 2) := by decide +kernel
theorem dL_tells_293 : decode cL_tells 293 = .ok (.isub, 1) := by decide +kernel
theorem dL_tells_294 : decode cL_tells 294 = .ok (.if_icmp .ne 7, 3) := by decide +kernel
theorem dL_tells_297 : decode cL_tells 297 = .ok (.iconst 1, 1) := by decide +kernel
theorem dL_tells_298 : decode cL_tells 298 = .ok (.goto 4, 3) := by decide +kernel
theorem dL_tells_301 : decode cL_tells 301 = .ok (.iconst 0, 1) := by decide +kernel
theorem dL_tells_302 : decode cL_tells 302 = .ok (.ireturn, 1) := by decide +kernel
set_option maxRecDepth 20000 in
theorem ggL_opens_X6_purse : GoodIn wsL_opens wsX6_purse := goodIn_ca (goodIn_r _ [5, 6, 7, 8, 4, 9, 10, 11, 12, 180, 181, 182, 183, 184, 185, 186, 187, 188, 189] (by decide +kernel) (by decide +kernel)) (goodIn_sub (fun _ h => List.mem_cons_of_mem _ (List.mem_append_left _ (List.mem_append_left _ (List.mem_append_right _ h)))) (by decide +kernel))
set_option maxRecDepth 20000 in
theorem gL_opens_X6_purse : GoodIn wsL_opens (wsV RL 53 RX6 yX6_purse wsX6_purse) := goodIn_app (goodIn_of _ (by decide +kernel)) ggL_opens_X6_purse
set_option maxRecDepth 20000 in
theorem ggL_opens_X6_aside : GoodIn wsL_opens wsX6_aside := goodIn_ca (goodIn_r _ [16, 6, 7, 8, 4, 9, 10, 11, 12, 17, 18, 19, 20, 21, 180, 181, 190, 191, 192, 193, 194, 195, 196, 197, 198, 199, 182, 183, 184, 185, 186, 187, 188, 189] (by decide +kernel) (by decide +kernel)) (goodIn_sub (fun _ h => List.mem_cons_of_mem _ (List.mem_append_left _ (List.mem_append_left _ (List.mem_append_right _ h)))) (by decide +kernel))
set_option maxRecDepth 20000 in
theorem gL_opens_X6_aside : GoodIn wsL_opens (wsV RL 50 RX6 yX6_aside wsX6_aside) := goodIn_app (goodIn_of _ (by decide +kernel)) ggL_opens_X6_aside
set_option maxRecDepth 20000 in
theorem ggL_opens_L_asks : GoodIn wsL_opens wsL_asks := goodIn_ca (goodIn_ca (goodIn_ca (goodIn_r _ [25, 26, 27, 28, 29, 30, 4, 31, 32, 33, 34, 35, 36, 37, 38, 39, 17, 18, 19, 20, 10, 11, 21, 40, 41, 42, 43, 44, 45, 46, 47, 48, 49, 50, 51, 52, 53, 54, 55, 56, 57, 58, 59, 60, 61, 62, 63, 64, 65, 66, 67, 68, 69, 70, 71, 72, 73, 74, 75, 76, 77, 78, 79, 80, 81, 82, 83, 84, 85, 12, 86, 87, 88, 89, 90, 91, 92, 6, 7, 8, 9, 93, 94, 95, 96, 97, 98, 99, 100, 101, 102, 103, 104, 105, 106, 107, 108, 109, 110, 111, 112, 113, 114, 115, 116, 117, 118, 119, 120, 121, 122, 123, 124, 125, 126, 127, 128, 129, 130, 131, 132, 133, 134, 135, 136, 137, 138, 139, 140, 141, 142, 143, 144, 145, 146, 147, 148, 149, 150, 151, 152, 153, 154, 155, 156, 157, 158, 159, 160, 161, 162, 163, 164, 165, 166, 167, 168, 169, 170, 171, 172, 173, 174, 175, 176, 177, 178, 179, 190, 191, 192, 193, 194, 195, 196, 182, 183, 184, 185, 186, 187, 188, 189, 200, 201, 202, 203, 204, 205, 206, 207, 208, 209, 210, 211, 212, 213, 180, 181, 197, 198, 199, 214, 215, 216, 217] (by decide +kernel) (by decide +kernel)) (goodIn_sub (fun _ h => List.mem_cons_of_mem _ (List.mem_append_left _ (List.mem_append_right _ h))) (by decide +kernel))) (goodIn_sub (fun _ h => List.mem_cons_of_mem _ (List.mem_append_left _ (List.mem_append_left _ (List.mem_append_right _ h)))) (by decide +kernel))) (goodIn_sub (fun _ h => List.mem_cons_of_mem _ (List.mem_append_right _ h)) (by decide +kernel))
set_option maxRecDepth 20000 in
theorem gL_opens_L_asks : GoodIn wsL_opens (va_wsS RL 83 yL_asks wsL_asks) := goodIn_app (goodIn_of _ (by decide +kernel)) ggL_opens_L_asks
theorem dL_opens_0 : decode cL_opens 0 = .ok (.iload_n 1, 1) := by decide +kernel
theorem dL_opens_1 : decode cL_opens 1 = .ok (.bipush 6, 2) := by decide +kernel
theorem dL_opens_3 : decode cL_opens 3 = .ok (.irem, 1) := by decide +kernel
theorem dL_opens_4 : decode cL_opens 4 = .ok (.istore 4, 2) := by decide +kernel
theorem dL_opens_6 : decode cL_opens 6 = .ok (.iload_n 1, 1) := by decide +kernel
theorem dL_opens_7 : decode cL_opens 7 = .ok (.bipush 6, 2) := by decide +kernel
theorem dL_opens_9 : decode cL_opens 9 = .ok (.idiv, 1) := by decide +kernel
theorem dL_opens_10 : decode cL_opens 10 = .ok (.bipush 12, 2) := by decide +kernel
theorem dL_opens_12 : decode cL_opens 12 = .ok (.irem, 1) := by decide +kernel
theorem dL_opens_13 : decode cL_opens 13 = .ok (.istore 5, 2) := by decide +kernel
theorem dL_opens_15 : decode cL_opens 15 = .ok (.iconst 1, 1) := by decide +kernel
theorem dL_opens_16 : decode cL_opens 16 = .ok (.iload_n 2, 1) := by decide +kernel
theorem dL_opens_17 : decode cL_opens 17 = .ok (.bipush 20, 2) := by decide +kernel
theorem dL_opens_19 : decode cL_opens 19 = .ok (.irem, 1) := by decide +kernel
theorem dL_opens_20 : decode cL_opens 20 = .ok (.iadd, 1) := by decide +kernel
theorem dL_opens_21 : decode cL_opens 21 = .ok (.istore 6, 2) := by decide +kernel
theorem dL_opens_23 : decode cL_opens 23 = .ok (.aload_n 0, 1) := by decide +kernel
theorem dL_opens_24 : decode cL_opens 24 = .ok (.iload 4, 2) := by decide +kernel
theorem dL_opens_26 : decode cL_opens 26 = .ok (.invokevirtual 53, 3) := by decide +kernel
theorem dL_opens_29 : decode cL_opens 29 = .ok (.istore 7, 2) := by decide +kernel
theorem dL_opens_31 : decode cL_opens 31 = .ok (.aload_n 0, 1) := by decide +kernel
theorem dL_opens_32 : decode cL_opens 32 = .ok (.iload 4, 2) := by decide +kernel
theorem dL_opens_34 : decode cL_opens 34 = .ok (.iload 5, 2) := by decide +kernel
theorem dL_opens_36 : decode cL_opens 36 = .ok (.invokevirtual 50, 3) := by decide +kernel
theorem dL_opens_39 : decode cL_opens 39 = .ok (.istore 8, 2) := by decide +kernel
theorem dL_opens_41 : decode cL_opens 41 = .ok (.aload_n 0, 1) := by decide +kernel
theorem dL_opens_42 : decode cL_opens 42 = .ok (.iconst 1, 1) := by decide +kernel
theorem dL_opens_43 : decode cL_opens 43 = .ok (.iload 4, 2) := by decide +kernel
theorem dL_opens_45 : decode cL_opens 45 = .ok (.iload 5, 2) := by decide +kernel
theorem dL_opens_47 : decode cL_opens 47 = .ok (.iload 6, 2) := by decide +kernel
theorem dL_opens_49 : decode cL_opens 49 = .ok (.invokestatic 83, 3) := by decide +kernel
theorem dL_opens_52 : decode cL_opens 52 = .ok (.istore 9, 2) := by decide +kernel
theorem dL_opens_54 : decode cL_opens 54 = .ok (.iload 7, 2) := by decide +kernel
theorem dL_opens_56 : decode cL_opens 56 = .ok (.aload_n 0, 1) := by decide +kernel
theorem dL_opens_57 : decode cL_opens 57 = .ok (.iload 4, 2) := by decide +kernel
theorem dL_opens_59 : decode cL_opens 59 = .ok (.invokevirtual 53, 3) := by decide +kernel
theorem dL_opens_62 : decode cL_opens 62 = .ok (.isub, 1) := by decide +kernel
theorem dL_opens_63 : decode cL_opens 63 = .ok (.istore 10, 2) := by decide +kernel
theorem dL_opens_65 : decode cL_opens 65 = .ok (.iload 9, 2) := by decide +kernel
theorem dL_opens_67 : decode cL_opens 67 = .ok (.bipush (-108), 2) := by decide +kernel
theorem dL_opens_69 : decode cL_opens 69 = .ok (.if_icmp .ne 29, 3) := by decide +kernel
theorem dL_opens_72 : decode cL_opens 72 = .ok (.iload 10, 2) := by decide +kernel
theorem dL_opens_74 : decode cL_opens 74 = .ok (.ifCond .ne 20, 3) := by decide +kernel
theorem dL_opens_77 : decode cL_opens 77 = .ok (.aload_n 0, 1) := by decide +kernel
theorem dL_opens_78 : decode cL_opens 78 = .ok (.iload 4, 2) := by decide +kernel
theorem dL_opens_80 : decode cL_opens 80 = .ok (.iload 5, 2) := by decide +kernel
theorem dL_opens_82 : decode cL_opens 82 = .ok (.invokevirtual 50, 3) := by decide +kernel
theorem dL_opens_85 : decode cL_opens 85 = .ok (.iload 8, 2) := by decide +kernel
theorem dL_opens_87 : decode cL_opens 87 = .ok (.if_icmp .ne 7, 3) := by decide +kernel
theorem dL_opens_90 : decode cL_opens 90 = .ok (.iconst 1, 1) := by decide +kernel
theorem dL_opens_91 : decode cL_opens 91 = .ok (.goto 68, 3) := by decide +kernel
theorem dL_opens_94 : decode cL_opens 94 = .ok (.iconst 0, 1) := by decide +kernel
theorem dL_opens_95 : decode cL_opens 95 = .ok (.goto 64, 3) := by decide +kernel
theorem dL_opens_98 : decode cL_opens 98 = .ok (.iload 9, 2) := by decide +kernel
theorem dL_opens_100 : decode cL_opens 100 = .ok (.aload_n 3, 1) := by decide +kernel
theorem dL_opens_101 : decode cL_opens 101 = .ok (.iconst 0, 1) := by decide +kernel
theorem dL_opens_102 : decode cL_opens 102 = .ok (.iaload, 1) := by decide +kernel
theorem dL_opens_103 : decode cL_opens 103 = .ok (.iload 6, 2) := by decide +kernel
theorem dL_opens_105 : decode cL_opens 105 = .ok (.iadd, 1) := by decide +kernel
theorem dL_opens_106 : decode cL_opens 106 = .ok (.iconst 1, 1) := by decide +kernel
theorem dL_opens_107 : decode cL_opens 107 = .ok (.isub, 1) := by decide +kernel
theorem dL_opens_108 : decode cL_opens 108 = .ok (.if_icmp .ne 50, 3) := by decide +kernel
theorem dL_opens_111 : decode cL_opens 111 = .ok (.iload 8, 2) := by decide +kernel
theorem dL_opens_113 : decode cL_opens 113 = .ok (.ifCond .ne 45, 3) := by decide +kernel
theorem dL_opens_116 : decode cL_opens 116 = .ok (.iload 10, 2) := by decide +kernel
theorem dL_opens_118 : decode cL_opens 118 = .ok (.aload_n 0, 1) := by decide +kernel
theorem dL_opens_119 : decode cL_opens 119 = .ok (.iload 4, 2) := by decide +kernel
theorem dL_opens_121 : decode cL_opens 121 = .ok (.iload 5, 2) := by decide +kernel
theorem dL_opens_123 : decode cL_opens 123 = .ok (.invokevirtual 50, 3) := by decide +kernel
theorem dL_opens_126 : decode cL_opens 126 = .ok (.if_icmp .ne 32, 3) := by decide +kernel
theorem dL_opens_129 : decode cL_opens 129 = .ok (.iload 10, 2) := by decide +kernel
theorem dL_opens_131 : decode cL_opens 131 = .ok (.iload 6, 2) := by decide +kernel
theorem dL_opens_133 : decode cL_opens 133 = .ok (.if_icmp .lt 25, 3) := by decide +kernel
theorem dL_opens_136 : decode cL_opens 136 = .ok (.iload 10, 2) := by decide +kernel
theorem dL_opens_138 : decode cL_opens 138 = .ok (.iload 6, 2) := by decide +kernel
theorem dL_opens_140 : decode cL_opens 140 = .ok (.irem, 1) := by decide +kernel
theorem dL_opens_141 : decode cL_opens 141 = .ok (.ifCond .ne 17, 3) := by decide +kernel
theorem dL_opens_144 : decode cL_opens 144 = .ok (.iload 10, 2) := by decide +kernel
theorem dL_opens_146 : decode cL_opens 146 = .ok (.iload 6, 2) := by decide +kernel
theorem dL_opens_148 : decode cL_opens 148 = .ok (.idiv, 1) := by decide +kernel
theorem dL_opens_149 : decode cL_opens 149 = .ok (.bipush 20, 2) := by decide +kernel
theorem dL_opens_151 : decode cL_opens 151 = .ok (.if_icmp .gt 7, 3) := by decide +kernel
theorem dL_opens_154 : decode cL_opens 154 = .ok (.iconst 1, 1) := by decide +kernel
theorem dL_opens_155 : decode cL_opens 155 = .ok (.goto 4, 3) := by decide +kernel
theorem dL_opens_158 : decode cL_opens 158 = .ok (.iconst 0, 1) := by decide +kernel
theorem dL_opens_159 : decode cL_opens 159 = .ok (.ireturn, 1) := by decide +kernel
set_option maxRecDepth 20000 in
theorem ggL_challenges_X6_purse : GoodIn wsL_challenges wsX6_purse := goodIn_ca (goodIn_r _ [5, 6, 7, 8, 4, 9, 10, 11, 12, 187, 188, 189, 190, 191, 192, 193, 194, 195, 196] (by decide +kernel) (by decide +kernel)) (goodIn_sub (fun _ h => List.mem_cons_of_mem _ (List.mem_append_left _ (List.mem_append_left _ (List.mem_append_right _ h)))) (by decide +kernel))
set_option maxRecDepth 20000 in
theorem gL_challenges_X6_purse : GoodIn wsL_challenges (wsV RL 53 RX6 yX6_purse wsX6_purse) := goodIn_app (goodIn_of _ (by decide +kernel)) ggL_challenges_X6_purse
set_option maxRecDepth 20000 in
theorem ggL_challenges_X6_stateOf : GoodIn wsL_challenges wsX6_stateOf := goodIn_ca (goodIn_r _ [16, 17, 18, 19, 4, 20, 10, 11, 21, 22, 197, 198, 199, 200, 201, 202, 203, 204, 205, 206, 189, 190, 191, 192, 193, 194, 195, 196] (by decide +kernel) (by decide +kernel)) (goodIn_sub (fun _ h => List.mem_cons_of_mem _ (List.mem_append_left _ (List.mem_append_left _ (List.mem_append_right _ h)))) (by decide +kernel))
set_option maxRecDepth 20000 in
theorem gL_challenges_X6_stateOf : GoodIn wsL_challenges (wsV RL 59 RX6 yX6_stateOf wsX6_stateOf) := goodIn_app (goodIn_of _ (by decide +kernel)) ggL_challenges_X6_stateOf
set_option maxRecDepth 20000 in
theorem ggL_challenges_L_areNear : GoodIn wsL_challenges wsL_areNear := goodIn_r _ [26] (by decide +kernel) (by decide +kernel)
set_option maxRecDepth 20000 in
theorem gL_challenges_L_areNear : GoodIn wsL_challenges (va_wsS RL 89 yL_areNear wsL_areNear) := goodIn_app (goodIn_of _ (by decide +kernel)) ggL_challenges_L_areNear
set_option maxRecDepth 20000 in
theorem ggL_challenges_L_asks : GoodIn wsL_challenges wsL_asks := goodIn_ca (goodIn_ca (goodIn_ca (goodIn_r _ [29, 30, 31, 32, 33, 34, 4, 35, 36, 37, 38, 21, 39, 40, 41, 22, 42, 43, 44, 45, 10, 11, 46, 47, 48, 49, 50, 51, 52, 53, 54, 55, 56, 57, 58, 59, 60, 61, 62, 63, 64, 65, 66, 67, 68, 69, 70, 71, 72, 73, 74, 75, 76, 77, 78, 79, 80, 81, 82, 83, 84, 85, 86, 87, 88, 89, 90, 91, 92, 12, 93, 94, 95, 96, 97, 98, 99, 6, 7, 8, 9, 100, 101, 102, 103, 104, 105, 106, 107, 108, 109, 110, 111, 112, 17, 18, 19, 20, 113, 114, 115, 116, 117, 118, 119, 120, 121, 122, 123, 124, 125, 126, 127, 128, 129, 130, 131, 132, 133, 134, 135, 136, 137, 138, 139, 140, 141, 142, 143, 144, 145, 146, 147, 148, 149, 150, 151, 152, 153, 154, 155, 156, 157, 158, 159, 160, 161, 162, 163, 164, 165, 166, 167, 168, 169, 170, 171, 172, 173, 174, 175, 176, 177, 178, 179, 180, 181, 182, 207, 208, 209, 210, 211, 212, 213, 189, 190, 191, 192, 193, 194, 195, 196, 197, 198, 199, 200, 201, 202, 203, 204, 205, 206, 214, 215, 216, 217, 187, 188, 218, 219, 220, 221, 222, 223, 224] (by decide +kernel) (by decide +kernel)) (goodIn_sub (fun _ h => List.mem_cons_of_mem _ (List.mem_append_left _ (List.mem_append_right _ h))) (by decide +kernel))) (goodIn_sub (fun _ h => List.mem_cons_of_mem _ (List.mem_append_left _ (List.mem_append_left _ (List.mem_append_right _ h)))) (by decide +kernel))) (goodIn_sub (fun _ h => List.mem_cons_of_mem _ (List.mem_append_right _ h)) (by decide +kernel))
set_option maxRecDepth 20000 in
theorem gL_challenges_L_asks : GoodIn wsL_challenges (va_wsS RL 83 yL_asks wsL_asks) := goodIn_app (goodIn_of _ (by decide +kernel)) ggL_challenges_L_asks
set_option maxRecDepth 20000 in
theorem ggL_challenges_X6_middle : GoodIn wsL_challenges wsX6_middle := goodIn_ca (goodIn_r _ [186, 17, 18, 19, 4, 20, 10, 11, 21, 22, 148, 112, 149, 150, 117, 116, 197, 198, 199, 200, 201, 202, 203, 204, 205, 206, 189, 190, 191, 192, 193, 194, 195, 196, 221, 222, 223, 224] (by decide +kernel) (by decide +kernel)) (goodIn_sub (fun _ h => List.mem_cons_of_mem _ (List.mem_append_left _ (List.mem_append_left _ (List.mem_append_right _ h)))) (by decide +kernel))
set_option maxRecDepth 20000 in
theorem gL_challenges_X6_middle : GoodIn wsL_challenges (wsV RL 77 RX6 yX6_middle wsX6_middle) := goodIn_app (goodIn_of _ (by decide +kernel)) ggL_challenges_X6_middle
theorem dL_challenges_0 : decode cL_challenges 0 = .ok (.aload 4, 2) := by decide +kernel
theorem dL_challenges_2 : decode cL_challenges 2 = .ok (.iconst 1, 1) := by decide +kernel
theorem dL_challenges_3 : decode cL_challenges 3 = .ok (.iaload, 1) := by decide +kernel
theorem dL_challenges_4 : decode cL_challenges 4 = .ok (.iconst 1, 1) := by decide +kernel
theorem dL_challenges_5 : decode cL_challenges 5 = .ok (.isub, 1) := by decide +kernel
