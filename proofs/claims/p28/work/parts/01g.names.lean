set_option maxRecDepth 20000 in
theorem gilL_bonds_L_step_1 : GoodIn wsL_bonds [.code yL_step cL_step 12 (some .boolean)] := goodIn_sub (by decide +kernel) (by decide +kernel)
set_option maxRecDepth 20000 in
theorem gilL_bonds_L_step_2 : GoodIn wsL_bonds wsL_step_r1 := goodIn_sub (by decide +kernel) (by decide +kernel)
set_option maxRecDepth 20000 in
theorem gilL_bonds_L_step_3 : GoodIn wsL_bonds wsL_step_r2 := goodIn_sub (by decide +kernel) (by decide +kernel)
set_option maxRecDepth 20000 in
theorem gilL_bonds_L_step_4 : GoodIn wsL_bonds wsL_step_r3 := goodIn_sub (by decide +kernel) (by decide +kernel)
set_option maxRecDepth 20000 in
theorem gilL_bonds_L_step_5 : GoodIn wsL_bonds wsL_step_r4 := goodIn_sub (by decide +kernel) (by decide +kernel)
set_option maxRecDepth 20000 in
theorem gilL_bonds_L_step_6 : GoodIn wsL_bonds wsL_step_r5 := goodIn_sub (by decide +kernel) (by decide +kernel)
set_option maxRecDepth 20000 in
theorem gilL_bonds_L_step_7 : GoodIn wsL_bonds wsL_step_r6 := goodIn_sub (by decide +kernel) (by decide +kernel)
set_option maxRecDepth 20000 in
theorem gilL_bonds_L_step_8 : GoodIn wsL_bonds wsL_step_r7 := goodIn_sub (by decide +kernel) (by decide +kernel)
set_option maxRecDepth 20000 in
theorem gilL_bonds_L_step_9 : GoodIn wsL_bonds wsL_step_r8 := goodIn_sub (by decide +kernel) (by decide +kernel)
set_option maxRecDepth 20000 in
theorem gilL_bonds_L_step_10 : GoodIn wsL_bonds wsL_step_r9 := goodIn_sub (by decide +kernel) (by decide +kernel)
set_option maxRecDepth 20000 in
theorem gilL_bonds_L_step_11 : GoodIn wsL_bonds wsL_step_r10 := goodIn_sub (by decide +kernel) (by decide +kernel)
set_option maxRecDepth 20000 in
theorem gilL_bonds_L_step_12 : GoodIn wsL_bonds wsL_step_r11 := goodIn_sub (by decide +kernel) (by decide +kernel)
set_option maxRecDepth 20000 in
theorem gilL_bonds_L_step_13 : GoodIn wsL_bonds wsX40 := goodIn_sub (by decide +kernel) (by decide +kernel)
set_option maxRecDepth 20000 in
theorem gilL_bonds_L_step_14 : GoodIn wsL_bonds wsX60 := goodIn_sub (by decide +kernel) (by decide +kernel)
set_option maxRecDepth 20000 in
theorem gilL_bonds_L_step_15 : GoodIn wsL_bonds wsX00 := goodIn_sub (by decide +kernel) (by decide +kernel)
set_option maxRecDepth 20000 in
theorem gilL_bonds_L_step_16 : GoodIn wsL_bonds wsX50 := goodIn_sub (by decide +kernel) (by decide +kernel)
set_option maxRecDepth 20000 in
theorem gilL_bonds_L_step_17 : GoodIn wsL_bonds wsX20 := goodIn_sub (by decide +kernel) (by decide +kernel)
set_option maxRecDepth 20000 in
theorem gilL_bonds_L_step_18 : GoodIn wsL_bonds wsX30 := goodIn_sub (by decide +kernel) (by decide +kernel)
set_option maxRecDepth 20000 in
theorem gilL_bonds_L_step_19 : GoodIn wsL_bonds wsX10 := goodIn_sub (by decide +kernel) (by decide +kernel)
set_option maxRecDepth 20000 in
theorem gilL_bonds_L_step_20 : GoodIn wsL_bonds ((vx_atS RX6 63 "java/lang/IndexOutOfBoundsException" ["java/lang/RuntimeException", "java/lang/Exception"]).filter goodWord) := goodIn_sub (by decide +kernel) (by decide +kernel)
set_option maxRecDepth 20000 in
theorem gilL_bonds_L_step_21 : GoodIn wsL_bonds ((vx_atS RX6 105 "java/lang/IllegalStateException" ["java/lang/RuntimeException", "java/lang/Exception"]).filter goodWord) := goodIn_sub (by decide +kernel) (by decide +kernel)
set_option maxRecDepth 20000 in
theorem gilL_bonds_L_step_22 : GoodIn wsL_bonds ((vx_atS RX6 97 "java/lang/IllegalArgumentException" ["java/lang/RuntimeException", "java/lang/Exception"]).filter goodWord) := goodIn_sub (by decide +kernel) (by decide +kernel)
theorem ggL_bonds_L_step : GoodIn wsL_bonds wsL_step := fun w h => (List.mem_cons.mp h).elim (fun e => gilL_bonds_L_step_1 w (by rw [e]; exact List.mem_cons_self)) ((goodIn_app (goodIn_app (goodIn_app (goodIn_app (goodIn_app (goodIn_app (goodIn_app (goodIn_app (goodIn_app (goodIn_app (goodIn_app gilL_bonds_L_step_2 (goodIn_app gilL_bonds_L_step_3 (goodIn_app gilL_bonds_L_step_4 (goodIn_app gilL_bonds_L_step_5 (goodIn_app gilL_bonds_L_step_6 (goodIn_app gilL_bonds_L_step_7 (goodIn_app gilL_bonds_L_step_8 (goodIn_app gilL_bonds_L_step_9 (goodIn_app gilL_bonds_L_step_10 (goodIn_app gilL_bonds_L_step_11 gilL_bonds_L_step_12)))))))))) gilL_bonds_L_step_13) gilL_bonds_L_step_14) gilL_bonds_L_step_15) gilL_bonds_L_step_16) gilL_bonds_L_step_17) gilL_bonds_L_step_18) gilL_bonds_L_step_19) gilL_bonds_L_step_20) gilL_bonds_L_step_21) gilL_bonds_L_step_22) w)
set_option maxRecDepth 20000 in
theorem gL_bonds_L_step : GoodIn wsL_bonds (va_wsS RL 129 yL_step wsL_step) := goodIn_app (goodIn_of _ (by decide +kernel)) ggL_bonds_L_step
set_option maxRecDepth 20000 in
theorem gilL_bonds_L_areReadings_1 : GoodIn wsL_bonds [.code yL_areReadings cL_areReadings 13 (some .boolean)] := goodIn_sub (by decide +kernel) (by decide +kernel)
set_option maxRecDepth 20000 in
theorem gilL_bonds_L_areReadings_2 : GoodIn wsL_bonds wsL_areReadings_r1 := goodIn_sub (by decide +kernel) (by decide +kernel)
set_option maxRecDepth 20000 in
theorem gilL_bonds_L_areReadings_3 : GoodIn wsL_bonds wsL_areReadings_r2 := goodIn_sub (by decide +kernel) (by decide +kernel)
set_option maxRecDepth 20000 in
theorem gilL_bonds_L_areReadings_4 : GoodIn wsL_bonds wsL_areReadings_r3 := goodIn_sub (by decide +kernel) (by decide +kernel)
set_option maxRecDepth 20000 in
theorem gilL_bonds_L_areReadings_5 : GoodIn wsL_bonds wsL_areReadings_r4 := goodIn_sub (by decide +kernel) (by decide +kernel)
set_option maxRecDepth 20000 in
theorem gilL_bonds_L_areReadings_6 : GoodIn wsL_bonds wsL_areReadings_r5 := goodIn_sub (by decide +kernel) (by decide +kernel)
set_option maxRecDepth 20000 in
theorem gilL_bonds_L_areReadings_7 : GoodIn wsL_bonds wsL_areReadings_r6 := goodIn_sub (by decide +kernel) (by decide +kernel)
set_option maxRecDepth 20000 in
theorem gilL_bonds_L_areReadings_8 : GoodIn wsL_bonds wsL_areReadings_r7 := goodIn_sub (by decide +kernel) (by decide +kernel)
set_option maxRecDepth 20000 in
theorem gilL_bonds_L_areReadings_9 : GoodIn wsL_bonds wsL_areReadings_r8 := goodIn_sub (by decide +kernel) (by decide +kernel)
set_option maxRecDepth 20000 in
theorem gilL_bonds_L_areReadings_10 : GoodIn wsL_bonds wsL_areReadings_r9 := goodIn_sub (by decide +kernel) (by decide +kernel)
set_option maxRecDepth 20000 in
theorem gilL_bonds_L_areReadings_11 : GoodIn wsL_bonds wsL_areReadings_r10 := goodIn_sub (by decide +kernel) (by decide +kernel)
set_option maxRecDepth 20000 in
theorem gilL_bonds_L_areReadings_12 : GoodIn wsL_bonds wsX60 := goodIn_sub (by decide +kernel) (by decide +kernel)
set_option maxRecDepth 20000 in
theorem gilL_bonds_L_areReadings_13 : GoodIn wsL_bonds wsX20 := goodIn_sub (by decide +kernel) (by decide +kernel)
set_option maxRecDepth 20000 in
theorem gilL_bonds_L_areReadings_14 : GoodIn wsL_bonds wsJ40 := goodIn_sub (by decide +kernel) (by decide +kernel)
set_option maxRecDepth 20000 in
theorem gilL_bonds_L_areReadings_15 : GoodIn wsL_bonds wsX40 := goodIn_sub (by decide +kernel) (by decide +kernel)
set_option maxRecDepth 20000 in
theorem gilL_bonds_L_areReadings_16 : GoodIn wsL_bonds wsX10 := goodIn_sub (by decide +kernel) (by decide +kernel)
set_option maxRecDepth 20000 in
theorem gilL_bonds_L_areReadings_17 : GoodIn wsL_bonds ((vx_atS RX6 63 "java/lang/IndexOutOfBoundsException" ["java/lang/RuntimeException", "java/lang/Exception"]).filter goodWord) := goodIn_sub (by decide +kernel) (by decide +kernel)
theorem ggL_bonds_L_areReadings : GoodIn wsL_bonds wsL_areReadings := fun w h => (List.mem_cons.mp h).elim (fun e => gilL_bonds_L_areReadings_1 w (by rw [e]; exact List.mem_cons_self)) ((goodIn_app (goodIn_app (goodIn_app (goodIn_app (goodIn_app (goodIn_app (goodIn_app gilL_bonds_L_areReadings_2 (goodIn_app gilL_bonds_L_areReadings_3 (goodIn_app gilL_bonds_L_areReadings_4 (goodIn_app gilL_bonds_L_areReadings_5 (goodIn_app gilL_bonds_L_areReadings_6 (goodIn_app gilL_bonds_L_areReadings_7 (goodIn_app gilL_bonds_L_areReadings_8 (goodIn_app gilL_bonds_L_areReadings_9 (goodIn_app gilL_bonds_L_areReadings_10 gilL_bonds_L_areReadings_11))))))))) gilL_bonds_L_areReadings_12) gilL_bonds_L_areReadings_13) gilL_bonds_L_areReadings_14) gilL_bonds_L_areReadings_15) gilL_bonds_L_areReadings_16) gilL_bonds_L_areReadings_17) w)
set_option maxRecDepth 20000 in
theorem gL_bonds_L_areReadings : GoodIn wsL_bonds (va_wsS RL 137 yL_areReadings wsL_areReadings) := goodIn_app (goodIn_of _ (by decide +kernel)) ggL_bonds_L_areReadings
set_option maxRecDepth 20000 in
theorem gilL_law_L_bonds_1 : GoodIn wsL_law [.code yL_bonds cL_bonds 9 (some .boolean)] := goodIn_sub (by decide +kernel) (by decide +kernel)
set_option maxRecDepth 20000 in
theorem gilL_law_L_bonds_2 : GoodIn wsL_law wsL_bonds_r1 := goodIn_sub (by decide +kernel) (by decide +kernel)
set_option maxRecDepth 20000 in
theorem gilL_law_L_bonds_3 : GoodIn wsL_law wsL_bonds_r2 := goodIn_sub (by decide +kernel) (by decide +kernel)
set_option maxRecDepth 20000 in
theorem gilL_law_L_bonds_4 : GoodIn wsL_law wsL_bonds_r3 := goodIn_sub (by decide +kernel) (by decide +kernel)
set_option maxRecDepth 20000 in
theorem gilL_law_L_bonds_5 : GoodIn wsL_law wsL_bonds_r4 := goodIn_sub (by decide +kernel) (by decide +kernel)
set_option maxRecDepth 20000 in
theorem gilL_law_L_bonds_6 : GoodIn wsL_law wsL_bonds_r5 := goodIn_sub (by decide +kernel) (by decide +kernel)
set_option maxRecDepth 20000 in
theorem gilL_law_L_bonds_7 : GoodIn wsL_law wsL_bonds_r6 := goodIn_sub (by decide +kernel) (by decide +kernel)
set_option maxRecDepth 20000 in
theorem gilL_law_L_bonds_8 : GoodIn wsL_law wsL_bonds_r7 := goodIn_sub (by decide +kernel) (by decide +kernel)
set_option maxRecDepth 20000 in
theorem gilL_law_L_bonds_9 : GoodIn wsL_law wsL_bonds_r8 := goodIn_sub (by decide +kernel) (by decide +kernel)
set_option maxRecDepth 20000 in
theorem gilL_law_L_bonds_10 : GoodIn wsL_law wsL_bonds_r9 := goodIn_sub (by decide +kernel) (by decide +kernel)
set_option maxRecDepth 20000 in
theorem gilL_law_L_bonds_11 : GoodIn wsL_law wsL_bonds_r10 := goodIn_sub (by decide +kernel) (by decide +kernel)
set_option maxRecDepth 20000 in
theorem gilL_law_L_bonds_12 : GoodIn wsL_law wsL_bonds_r11 := goodIn_sub (by decide +kernel) (by decide +kernel)
set_option maxRecDepth 20000 in
theorem gilL_law_L_bonds_13 : GoodIn wsL_law wsL_bonds_r12 := goodIn_sub (by decide +kernel) (by decide +kernel)
set_option maxRecDepth 20000 in
theorem gilL_law_L_bonds_14 : GoodIn wsL_law wsL_bonds_r13 := goodIn_sub (by decide +kernel) (by decide +kernel)
set_option maxRecDepth 20000 in
theorem gilL_law_L_bonds_15 : GoodIn wsL_law wsL_bonds_r14 := goodIn_sub (by decide +kernel) (by decide +kernel)
set_option maxRecDepth 20000 in
theorem gilL_law_L_bonds_16 : GoodIn wsL_law wsL_bonds_r15 := goodIn_sub (by decide +kernel) (by decide +kernel)
set_option maxRecDepth 20000 in
theorem gilL_law_L_bonds_17 : GoodIn wsL_law wsL_bonds_r16 := goodIn_sub (by decide +kernel) (by decide +kernel)
set_option maxRecDepth 20000 in
theorem gilL_law_L_bonds_18 : GoodIn wsL_law wsL_bonds_r17 := goodIn_sub (by decide +kernel) (by decide +kernel)
set_option maxRecDepth 20000 in
theorem gilL_law_L_bonds_19 : GoodIn wsL_law wsL_bonds_r18 := goodIn_sub (by decide +kernel) (by decide +kernel)
set_option maxRecDepth 20000 in
theorem gilL_law_L_bonds_20 : GoodIn wsL_law wsL_bonds_r19 := goodIn_sub (by decide +kernel) (by decide +kernel)
set_option maxRecDepth 20000 in
theorem gilL_law_L_bonds_21 : GoodIn wsL_law wsL_bonds_r20 := goodIn_sub (by decide +kernel) (by decide +kernel)
set_option maxRecDepth 20000 in
theorem gilL_law_L_bonds_22 : GoodIn wsL_law wsL_bonds_r21 := goodIn_sub (by decide +kernel) (by decide +kernel)
set_option maxRecDepth 20000 in
theorem gilL_law_L_bonds_23 : GoodIn wsL_law wsL_bonds_r22 := goodIn_sub (by decide +kernel) (by decide +kernel)
set_option maxRecDepth 20000 in
theorem gilL_law_L_bonds_24 : GoodIn wsL_law wsX60 := goodIn_sub (by decide +kernel) (by decide +kernel)
set_option maxRecDepth 20000 in
theorem gilL_law_L_bonds_25 : GoodIn wsL_law wsX30 := goodIn_sub (by decide +kernel) (by decide +kernel)
set_option maxRecDepth 20000 in
theorem gilL_law_L_bonds_26 : GoodIn wsL_law wsX40 := goodIn_sub (by decide +kernel) (by decide +kernel)
set_option maxRecDepth 20000 in
theorem gilL_law_L_bonds_27 : GoodIn wsL_law wsX00 := goodIn_sub (by decide +kernel) (by decide +kernel)
set_option maxRecDepth 20000 in
theorem gilL_law_L_bonds_28 : GoodIn wsL_law wsX50 := goodIn_sub (by decide +kernel) (by decide +kernel)
set_option maxRecDepth 20000 in
theorem gilL_law_L_bonds_29 : GoodIn wsL_law wsX20 := goodIn_sub (by decide +kernel) (by decide +kernel)
set_option maxRecDepth 20000 in
theorem gilL_law_L_bonds_30 : GoodIn wsL_law wsX10 := goodIn_sub (by decide +kernel) (by decide +kernel)
set_option maxRecDepth 20000 in
theorem gilL_law_L_bonds_31 : GoodIn wsL_law wsJ40 := goodIn_sub (by decide +kernel) (by decide +kernel)
set_option maxRecDepth 20000 in
theorem gilL_law_L_bonds_32 : GoodIn wsL_law ((vx_atS RX6 63 "java/lang/IndexOutOfBoundsException" ["java/lang/RuntimeException", "java/lang/Exception"]).filter goodWord) := goodIn_sub (by decide +kernel) (by decide +kernel)
set_option maxRecDepth 20000 in
theorem gilL_law_L_bonds_33 : GoodIn wsL_law ((vx_atS RX6 105 "java/lang/IllegalStateException" ["java/lang/RuntimeException", "java/lang/Exception"]).filter goodWord) := goodIn_sub (by decide +kernel) (by decide +kernel)
set_option maxRecDepth 20000 in
theorem gilL_law_L_bonds_34 : GoodIn wsL_law ((vx_atS RX6 97 "java/lang/IllegalArgumentException" ["java/lang/RuntimeException", "java/lang/Exception"]).filter goodWord) := goodIn_sub (by decide +kernel) (by decide +kernel)
theorem ggL_law_L_bonds : GoodIn wsL_law wsL_bonds := fun w h => (List.mem_cons.mp h).elim (fun e => gilL_law_L_bonds_1 w (by rw [e]; exact List.mem_cons_self)) ((goodIn_app (goodIn_app (goodIn_app (goodIn_app (goodIn_app (goodIn_app (goodIn_app (goodIn_app (goodIn_app (goodIn_app (goodIn_app (goodIn_app gilL_law_L_bonds_2 (goodIn_app gilL_law_L_bonds_3 (goodIn_app gilL_law_L_bonds_4 (goodIn_app gilL_law_L_bonds_5 (goodIn_app gilL_law_L_bonds_6 (goodIn_app gilL_law_L_bonds_7 (goodIn_app gilL_law_L_bonds_8 (goodIn_app gilL_law_L_bonds_9 (goodIn_app gilL_law_L_bonds_10 (goodIn_app gilL_law_L_bonds_11 (goodIn_app gilL_law_L_bonds_12 (goodIn_app gilL_law_L_bonds_13 (goodIn_app gilL_law_L_bonds_14 (goodIn_app gilL_law_L_bonds_15 (goodIn_app gilL_law_L_bonds_16 (goodIn_app gilL_law_L_bonds_17 (goodIn_app gilL_law_L_bonds_18 (goodIn_app gilL_law_L_bonds_19 (goodIn_app gilL_law_L_bonds_20 (goodIn_app gilL_law_L_bonds_21 (goodIn_app gilL_law_L_bonds_22 gilL_law_L_bonds_23))))))))))))))))))))) gilL_law_L_bonds_24) gilL_law_L_bonds_25) gilL_law_L_bonds_26) gilL_law_L_bonds_27) gilL_law_L_bonds_28) gilL_law_L_bonds_29) gilL_law_L_bonds_30) gilL_law_L_bonds_31) gilL_law_L_bonds_32) gilL_law_L_bonds_33) gilL_law_L_bonds_34) w)
set_option maxRecDepth 20000 in
theorem gL_law_L_bonds : GoodIn wsL_law (va_wsS RL 144 yL_bonds wsL_bonds) := goodIn_app (goodIn_of _ (by decide +kernel)) ggL_law_L_bonds
