theorem dX3_init_0 : decode cX3_init 0 = .ok (.aload_n 0, 1) := by decide +kernel
theorem dX3_init_1 : decode cX3_init 1 = .ok (.invokespecial 3, 3) := by decide +kernel
theorem dX3_init_4 : decode cX3_init 4 = .ok (.aload_n 0, 1) := by decide +kernel
theorem dX3_init_5 : decode cX3_init 5 = .ok (.bipush 60, 2) := by decide +kernel
theorem dX3_init_7 : decode cX3_init 7 = .ok (.newarray .char, 2) := by decide +kernel
theorem dX3_init_9 : decode cX3_init 9 = .ok (.putfield 9, 3) := by decide +kernel
theorem dX3_init_12 : decode cX3_init 12 = .ok (.aload_n 0, 1) := by decide +kernel
theorem dX3_init_13 : decode cX3_init 13 = .ok (.bipush 60, 2) := by decide +kernel
theorem dX3_init_15 : decode cX3_init 15 = .ok (.newarray .int, 2) := by decide +kernel
theorem dX3_init_17 : decode cX3_init 17 = .ok (.putfield 15, 3) := by decide +kernel
theorem dX3_init_20 : decode cX3_init 20 = .ok (.aload_n 0, 1) := by decide +kernel
theorem dX3_init_21 : decode cX3_init 21 = .ok (.bipush 60, 2) := by decide +kernel
theorem dX3_init_23 : decode cX3_init 23 = .ok (.newarray .int, 2) := by decide +kernel
theorem dX3_init_25 : decode cX3_init 25 = .ok (.putfield 19, 3) := by decide +kernel
theorem dX3_init_28 : decode cX3_init 28 = .ok (.return_, 1) := by decide +kernel
theorem dX3_append_0 : decode cX3_append 0 = .ok (.aload_n 0, 1) := by decide +kernel
theorem dX3_append_1 : decode cX3_append 1 = .ok (.getfield 22, 3) := by decide +kernel
theorem dX3_append_4 : decode cX3_append 4 = .ok (.ifCond .lt 15, 3) := by decide +kernel
theorem dX3_append_7 : decode cX3_append 7 = .ok (.aload_n 0, 1) := by decide +kernel
theorem dX3_append_8 : decode cX3_append 8 = .ok (.getfield 22, 3) := by decide +kernel
theorem dX3_append_11 : decode cX3_append 11 = .ok (.aload_n 0, 1) := by decide +kernel
theorem dX3_append_12 : decode cX3_append 12 = .ok (.getfield 9, 3) := by decide +kernel
theorem dX3_append_15 : decode cX3_append 15 = .ok (.arraylength, 1) := by decide +kernel
theorem dX3_append_16 : decode cX3_append 16 = .ok (.if_icmp .lt 5, 3) := by decide +kernel
theorem dX3_append_19 : decode cX3_append 19 = .ok (.iconst 0, 1) := by decide +kernel
theorem dX3_append_20 : decode cX3_append 20 = .ok (.ireturn, 1) := by decide +kernel
theorem dX3_append_21 : decode cX3_append 21 = .ok (.aload_n 0, 1) := by decide +kernel
theorem dX3_append_22 : decode cX3_append 22 = .ok (.getfield 9, 3) := by decide +kernel
theorem dX3_append_25 : decode cX3_append 25 = .ok (.aload_n 0, 1) := by decide +kernel
theorem dX3_append_26 : decode cX3_append 26 = .ok (.getfield 22, 3) := by decide +kernel
theorem dX3_append_29 : decode cX3_append 29 = .ok (.iload_n 1, 1) := by decide +kernel
theorem dX3_append_30 : decode cX3_append 30 = .ok (.castore, 1) := by decide +kernel
theorem dX3_append_31 : decode cX3_append 31 = .ok (.aload_n 0, 1) := by decide +kernel
theorem dX3_append_32 : decode cX3_append 32 = .ok (.dup, 1) := by decide +kernel
theorem dX3_append_33 : decode cX3_append 33 = .ok (.getfield 22, 3) := by decide +kernel
theorem dX3_append_36 : decode cX3_append 36 = .ok (.iconst 1, 1) := by decide +kernel
theorem dX3_append_37 : decode cX3_append 37 = .ok (.iadd, 1) := by decide +kernel
theorem dX3_append_38 : decode cX3_append 38 = .ok (.putfield 22, 3) := by decide +kernel
theorem dX3_append_41 : decode cX3_append 41 = .ok (.iconst 1, 1) := by decide +kernel
theorem dX3_append_42 : decode cX3_append 42 = .ok (.ireturn, 1) := by decide +kernel
theorem dX3_kindOf_0 : decode cX3_kindOf 0 = .ok (.iload_n 1, 1) := by decide +kernel
theorem dX3_kindOf_1 : decode cX3_kindOf 1 = .ok (.ifCond .lt 12, 3) := by decide +kernel
theorem dX3_kindOf_4 : decode cX3_kindOf 4 = .ok (.iload_n 1, 1) := by decide +kernel
theorem dX3_kindOf_5 : decode cX3_kindOf 5 = .ok (.aload_n 0, 1) := by decide +kernel
theorem dX3_kindOf_6 : decode cX3_kindOf 6 = .ok (.getfield 15, 3) := by decide +kernel
theorem dX3_kindOf_9 : decode cX3_kindOf 9 = .ok (.arraylength, 1) := by decide +kernel
theorem dX3_kindOf_10 : decode cX3_kindOf 10 = .ok (.if_icmp .lt 7, 3) := by decide +kernel
theorem dX3_kindOf_13 : decode cX3_kindOf 13 = .ok (.iconst 0, 1) := by decide +kernel
theorem dX3_kindOf_14 : decode cX3_kindOf 14 = .ok (.goto 9, 3) := by decide +kernel
theorem dX3_kindOf_17 : decode cX3_kindOf 17 = .ok (.aload_n 0, 1) := by decide +kernel
theorem dX3_kindOf_18 : decode cX3_kindOf 18 = .ok (.getfield 15, 3) := by decide +kernel
theorem dX3_kindOf_21 : decode cX3_kindOf 21 = .ok (.iload_n 1, 1) := by decide +kernel
theorem dX3_kindOf_22 : decode cX3_kindOf 22 = .ok (.iaload, 1) := by decide +kernel
theorem dX3_kindOf_23 : decode cX3_kindOf 23 = .ok (.ireturn, 1) := by decide +kernel
theorem dX3_numberOf_0 : decode cX3_numberOf 0 = .ok (.iload_n 1, 1) := by decide +kernel
theorem dX3_numberOf_1 : decode cX3_numberOf 1 = .ok (.ifCond .lt 12, 3) := by decide +kernel
theorem dX3_numberOf_4 : decode cX3_numberOf 4 = .ok (.iload_n 1, 1) := by decide +kernel
theorem dX3_numberOf_5 : decode cX3_numberOf 5 = .ok (.aload_n 0, 1) := by decide +kernel
theorem dX3_numberOf_6 : decode cX3_numberOf 6 = .ok (.getfield 19, 3) := by decide +kernel
theorem dX3_numberOf_9 : decode cX3_numberOf 9 = .ok (.arraylength, 1) := by decide +kernel
theorem dX3_numberOf_10 : decode cX3_numberOf 10 = .ok (.if_icmp .lt 7, 3) := by decide +kernel
theorem dX3_numberOf_13 : decode cX3_numberOf 13 = .ok (.iconst 0, 1) := by decide +kernel
theorem dX3_numberOf_14 : decode cX3_numberOf 14 = .ok (.goto 9, 3) := by decide +kernel
theorem dX3_numberOf_17 : decode cX3_numberOf 17 = .ok (.aload_n 0, 1) := by decide +kernel
theorem dX3_numberOf_18 : decode cX3_numberOf 18 = .ok (.getfield 19, 3) := by decide +kernel
theorem dX3_numberOf_21 : decode cX3_numberOf 21 = .ok (.iload_n 1, 1) := by decide +kernel
theorem dX3_numberOf_22 : decode cX3_numberOf 22 = .ok (.iaload, 1) := by decide +kernel
theorem dX3_numberOf_23 : decode cX3_numberOf 23 = .ok (.ireturn, 1) := by decide +kernel
abbrev csX3_countReadings : List (List Cond) := [[.code yX3_countReadings cX3_countReadings 3 (some .int)], [.fieldLink RX3 26 "SlopeMeter$Pad" "steps" "I", .methodLink RX3 29 yX3_kindOf, .instanceMethod yX3_kindOf, .selects RX3 yX3_kindOf yX3_kindOf, .initialized RX3, .code yX3_kindOf cX3_kindOf 2 (some .int), .fieldLink RX3 15 "SlopeMeter$Pad" "kinds" "[I", .methodLink RX3 33 yX3_numberOf, .instanceMethod yX3_numberOf, .selects RX3 yX3_numberOf yX3_numberOf, .code yX3_numberOf cX3_numberOf 2 (some .int), .fieldLink RX3 19 "SlopeMeter$Pad" "numbers" "[I"], wsX30]
set_option maxRecDepth 20000 in
theorem hbX3_countReadings : wsX3_countReadings = csX3_countReadings.flatten := rfl
set_option maxRecDepth 20000 in
theorem ggX3_countReadings_X3_kindOf : GoodIn wsX3_countReadings wsX3_kindOf := goodIn_c csX3_countReadings hbX3_countReadings _ [(1, 5), (1, 6), (2, 0), (2, 1), (2, 2), (2, 3), (2, 4), (2, 5), (2, 6)] rfl (by decide +kernel)
set_option maxRecDepth 20000 in
theorem gX3_countReadings_X3_kindOf : GoodIn wsX3_countReadings (wsV RX3 29 RX3 yX3_kindOf wsX3_kindOf) := goodIn_app (goodIn_c csX3_countReadings hbX3_countReadings [.methodLink RX3 29 yX3_kindOf, .instanceMethod yX3_kindOf, .selects RX3 yX3_kindOf yX3_kindOf, .initialized RX3] [(1, 1), (1, 2), (1, 3), (1, 4)] rfl (by decide +kernel)) ggX3_countReadings_X3_kindOf
set_option maxRecDepth 20000 in
theorem ggX3_countReadings_X3_numberOf : GoodIn wsX3_countReadings wsX3_numberOf := goodIn_c csX3_countReadings hbX3_countReadings _ [(1, 10), (1, 11), (2, 0), (2, 1), (2, 2), (2, 3), (2, 4), (2, 5), (2, 6)] rfl (by decide +kernel)
set_option maxRecDepth 20000 in
theorem gX3_countReadings_X3_numberOf : GoodIn wsX3_countReadings (wsV RX3 33 RX3 yX3_numberOf wsX3_numberOf) := goodIn_app (goodIn_c csX3_countReadings hbX3_countReadings [.methodLink RX3 33 yX3_numberOf, .instanceMethod yX3_numberOf, .selects RX3 yX3_numberOf yX3_numberOf, .initialized RX3] [(1, 7), (1, 8), (1, 9), (1, 4)] rfl (by decide +kernel)) ggX3_countReadings_X3_numberOf
theorem dX3_countReadings_0 : decode cX3_countReadings 0 = .ok (.iconst 0, 1) := by decide +kernel
theorem dX3_countReadings_1 : decode cX3_countReadings 1 = .ok (.istore_n 1, 1) := by decide +kernel
theorem dX3_countReadings_2 : decode cX3_countReadings 2 = .ok (.iconst 0, 1) := by decide +kernel
theorem dX3_countReadings_3 : decode cX3_countReadings 3 = .ok (.istore_n 2, 1) := by decide +kernel
theorem dX3_countReadings_4 : decode cX3_countReadings 4 = .ok (.iload_n 2, 1) := by decide +kernel
theorem dX3_countReadings_5 : decode cX3_countReadings 5 = .ok (.aload_n 0, 1) := by decide +kernel
theorem dX3_countReadings_6 : decode cX3_countReadings 6 = .ok (.getfield 26, 3) := by decide +kernel
theorem dX3_countReadings_9 : decode cX3_countReadings 9 = .ok (.if_icmp .ge 27, 3) := by decide +kernel
theorem dX3_countReadings_12 : decode cX3_countReadings 12 = .ok (.aload_n 0, 1) := by decide +kernel
theorem dX3_countReadings_13 : decode cX3_countReadings 13 = .ok (.iload_n 2, 1) := by decide +kernel
theorem dX3_countReadings_14 : decode cX3_countReadings 14 = .ok (.invokevirtual 29, 3) := by decide +kernel
theorem dX3_countReadings_17 : decode cX3_countReadings 17 = .ok (.bipush 114, 2) := by decide +kernel
theorem dX3_countReadings_19 : decode cX3_countReadings 19 = .ok (.if_icmp .ne 11, 3) := by decide +kernel
theorem dX3_countReadings_22 : decode cX3_countReadings 22 = .ok (.iload_n 1, 1) := by decide +kernel
theorem dX3_countReadings_23 : decode cX3_countReadings 23 = .ok (.aload_n 0, 1) := by decide +kernel
theorem dX3_countReadings_24 : decode cX3_countReadings 24 = .ok (.iload_n 2, 1) := by decide +kernel
theorem dX3_countReadings_25 : decode cX3_countReadings 25 = .ok (.invokevirtual 33, 3) := by decide +kernel
theorem dX3_countReadings_28 : decode cX3_countReadings 28 = .ok (.iadd, 1) := by decide +kernel
theorem dX3_countReadings_29 : decode cX3_countReadings 29 = .ok (.istore_n 1, 1) := by decide +kernel
theorem dX3_countReadings_30 : decode cX3_countReadings 30 = .ok (.iinc 2 1, 3) := by decide +kernel
theorem dX3_countReadings_33 : decode cX3_countReadings 33 = .ok (.goto (-29), 3) := by decide +kernel
theorem dX3_countReadings_36 : decode cX3_countReadings 36 = .ok (.iload_n 1, 1) := by decide +kernel
theorem dX3_countReadings_37 : decode cX3_countReadings 37 = .ok (.ireturn, 1) := by decide +kernel
abbrev csX3_findFault : List (List Cond) := [[.code yX3_findFault cX3_findFault 2 (some .int)], wsX3_findFault_r1, wsX3_findFault_r2, wsX30]
set_option maxRecDepth 20000 in
theorem hbX3_findFault : wsX3_findFault = csX3_findFault.flatten := rfl
set_option maxRecDepth 20000 in
theorem ggX3_findFault_X3_readStep : GoodIn wsX3_findFault wsX3_readStep := goodIn_c csX3_findFault hbX3_findFault _ [(1, 7), (1, 0), (1, 1), (1, 8), (1, 9), (1, 10), (1, 11), (1, 12), (1, 13), (1, 6), (1, 14), (1, 2), (1, 15), (1, 16), (1, 17), (1, 18), (1, 19), (1, 20), (1, 21), (1, 22), (1, 23), (2, 0), (2, 1), (2, 2), (2, 3), (2, 4), (2, 5), (2, 6), (2, 7), (2, 8), (2, 9), (2, 10), (2, 11), (2, 12), (3, 0), (3, 1), (3, 2), (3, 3), (3, 4), (3, 5), (3, 6)] rfl (by decide +kernel)
set_option maxRecDepth 20000 in
theorem gX3_findFault_X3_readStep : GoodIn wsX3_findFault (wsV RX3 39 RX3 yX3_readStep wsX3_readStep) := goodIn_app (goodIn_c csX3_findFault hbX3_findFault [.methodLink RX3 39 yX3_readStep, .instanceMethod yX3_readStep, .selects RX3 yX3_readStep yX3_readStep, .initialized RX3] [(1, 3), (1, 4), (1, 5), (1, 6)] rfl (by decide +kernel)) ggX3_findFault_X3_readStep
set_option maxRecDepth 20000 in
theorem ggX3_findFault_X3_signHere : GoodIn wsX3_findFault wsX3_signHere := goodIn_c csX3_findFault hbX3_findFault _ [(1, 14), (1, 0), (1, 2), (1, 15), (3, 0), (3, 1), (3, 2), (3, 3), (3, 4), (3, 5), (3, 6)] rfl (by decide +kernel)
set_option maxRecDepth 20000 in
theorem gX3_findFault_X3_signHere : GoodIn wsX3_findFault (wsV RX3 43 RX3 yX3_signHere wsX3_signHere) := goodIn_app (goodIn_c csX3_findFault hbX3_findFault [.methodLink RX3 43 yX3_signHere, .instanceMethod yX3_signHere, .selects RX3 yX3_signHere yX3_signHere, .initialized RX3] [(1, 11), (1, 12), (1, 13), (1, 6)] rfl (by decide +kernel)) ggX3_findFault_X3_signHere
theorem dX3_findFault_0 : decode cX3_findFault 0 = .ok (.aload_n 0, 1) := by decide +kernel
theorem dX3_findFault_1 : decode cX3_findFault 1 = .ok (.iconst 0, 1) := by decide +kernel
theorem dX3_findFault_2 : decode cX3_findFault 2 = .ok (.putfield 36, 3) := by decide +kernel
theorem dX3_findFault_5 : decode cX3_findFault 5 = .ok (.aload_n 0, 1) := by decide +kernel
theorem dX3_findFault_6 : decode cX3_findFault 6 = .ok (.iconst 0, 1) := by decide +kernel
theorem dX3_findFault_7 : decode cX3_findFault 7 = .ok (.putfield 26, 3) := by decide +kernel
theorem dX3_findFault_10 : decode cX3_findFault 10 = .ok (.iconst 0, 1) := by decide +kernel
theorem dX3_findFault_11 : decode cX3_findFault 11 = .ok (.istore_n 1, 1) := by decide +kernel
theorem dX3_findFault_12 : decode cX3_findFault 12 = .ok (.iload_n 1, 1) := by decide +kernel
theorem dX3_findFault_13 : decode cX3_findFault 13 = .ok (.bipush 60, 2) := by decide +kernel
theorem dX3_findFault_15 : decode cX3_findFault 15 = .ok (.if_icmp .gt 59, 3) := by decide +kernel
theorem dX3_findFault_18 : decode cX3_findFault 18 = .ok (.aload_n 0, 1) := by decide +kernel
theorem dX3_findFault_19 : decode cX3_findFault 19 = .ok (.invokevirtual 39, 3) := by decide +kernel
theorem dX3_findFault_22 : decode cX3_findFault 22 = .ok (.ifCond .ne 8, 3) := by decide +kernel
theorem dX3_findFault_25 : decode cX3_findFault 25 = .ok (.aload_n 0, 1) := by decide +kernel
theorem dX3_findFault_26 : decode cX3_findFault 26 = .ok (.getfield 36, 3) := by decide +kernel
theorem dX3_findFault_29 : decode cX3_findFault 29 = .ok (.ireturn, 1) := by decide +kernel
theorem dX3_findFault_30 : decode cX3_findFault 30 = .ok (.aload_n 0, 1) := by decide +kernel
theorem dX3_findFault_31 : decode cX3_findFault 31 = .ok (.getfield 36, 3) := by decide +kernel
theorem dX3_findFault_34 : decode cX3_findFault 34 = .ok (.aload_n 0, 1) := by decide +kernel
theorem dX3_findFault_35 : decode cX3_findFault 35 = .ok (.getfield 22, 3) := by decide +kernel
theorem dX3_findFault_38 : decode cX3_findFault 38 = .ok (.if_icmp .lt 6, 3) := by decide +kernel
theorem dX3_findFault_41 : decode cX3_findFault 41 = .ok (.bipush (-6), 2) := by decide +kernel
theorem dX3_findFault_43 : decode cX3_findFault 43 = .ok (.ireturn, 1) := by decide +kernel
theorem dX3_findFault_44 : decode cX3_findFault 44 = .ok (.aload_n 0, 1) := by decide +kernel
theorem dX3_findFault_45 : decode cX3_findFault 45 = .ok (.invokevirtual 43, 3) := by decide +kernel
theorem dX3_findFault_48 : decode cX3_findFault 48 = .ok (.bipush 44, 2) := by decide +kernel
theorem dX3_findFault_50 : decode cX3_findFault 50 = .ok (.if_icmp .eq 8, 3) := by decide +kernel
theorem dX3_findFault_53 : decode cX3_findFault 53 = .ok (.aload_n 0, 1) := by decide +kernel
theorem dX3_findFault_54 : decode cX3_findFault 54 = .ok (.getfield 36, 3) := by decide +kernel
theorem dX3_findFault_57 : decode cX3_findFault 57 = .ok (.ireturn, 1) := by decide +kernel
theorem dX3_findFault_58 : decode cX3_findFault 58 = .ok (.aload_n 0, 1) := by decide +kernel
theorem dX3_findFault_59 : decode cX3_findFault 59 = .ok (.dup, 1) := by decide +kernel
theorem dX3_findFault_60 : decode cX3_findFault 60 = .ok (.getfield 36, 3) := by decide +kernel
theorem dX3_findFault_63 : decode cX3_findFault 63 = .ok (.iconst 1, 1) := by decide +kernel
theorem dX3_findFault_64 : decode cX3_findFault 64 = .ok (.iadd, 1) := by decide +kernel
theorem dX3_findFault_65 : decode cX3_findFault 65 = .ok (.putfield 36, 3) := by decide +kernel
theorem dX3_findFault_68 : decode cX3_findFault 68 = .ok (.iinc 1 1, 3) := by decide +kernel
theorem dX3_findFault_71 : decode cX3_findFault 71 = .ok (.goto (-59), 3) := by decide +kernel
theorem dX3_findFault_74 : decode cX3_findFault 74 = .ok (.aload_n 0, 1) := by decide +kernel
theorem dX3_findFault_75 : decode cX3_findFault 75 = .ok (.getfield 36, 3) := by decide +kernel
theorem dX3_findFault_78 : decode cX3_findFault 78 = .ok (.ireturn, 1) := by decide +kernel
theorem dX3_signHere_0 : decode cX3_signHere 0 = .ok (.aload_n 0, 1) := by decide +kernel
theorem dX3_signHere_1 : decode cX3_signHere 1 = .ok (.getfield 36, 3) := by decide +kernel
theorem dX3_signHere_4 : decode cX3_signHere 4 = .ok (.ifCond .lt 26, 3) := by decide +kernel
theorem dX3_signHere_7 : decode cX3_signHere 7 = .ok (.aload_n 0, 1) := by decide +kernel
theorem dX3_signHere_8 : decode cX3_signHere 8 = .ok (.getfield 36, 3) := by decide +kernel
theorem dX3_signHere_11 : decode cX3_signHere 11 = .ok (.aload_n 0, 1) := by decide +kernel
theorem dX3_signHere_12 : decode cX3_signHere 12 = .ok (.getfield 22, 3) := by decide +kernel
theorem dX3_signHere_15 : decode cX3_signHere 15 = .ok (.if_icmp .ge 15, 3) := by decide +kernel
theorem dX3_signHere_18 : decode cX3_signHere 18 = .ok (.aload_n 0, 1) := by decide +kernel
theorem dX3_signHere_19 : decode cX3_signHere 19 = .ok (.getfield 36, 3) := by decide +kernel
theorem dX3_signHere_22 : decode cX3_signHere 22 = .ok (.aload_n 0, 1) := by decide +kernel
theorem dX3_signHere_23 : decode cX3_signHere 23 = .ok (.getfield 9, 3) := by decide +kernel
theorem dX3_signHere_26 : decode cX3_signHere 26 = .ok (.arraylength, 1) := by decide +kernel
theorem dX3_signHere_27 : decode cX3_signHere 27 = .ok (.if_icmp .lt 7, 3) := by decide +kernel
theorem dX3_signHere_30 : decode cX3_signHere 30 = .ok (.iconst 0, 1) := by decide +kernel
theorem dX3_signHere_31 : decode cX3_signHere 31 = .ok (.goto 12, 3) := by decide +kernel
theorem dX3_signHere_34 : decode cX3_signHere 34 = .ok (.aload_n 0, 1) := by decide +kernel
theorem dX3_signHere_35 : decode cX3_signHere 35 = .ok (.getfield 9, 3) := by decide +kernel
theorem dX3_signHere_38 : decode cX3_signHere 38 = .ok (.aload_n 0, 1) := by decide +kernel
theorem dX3_signHere_39 : decode cX3_signHere 39 = .ok (.getfield 36, 3) := by decide +kernel
theorem dX3_signHere_42 : decode cX3_signHere 42 = .ok (.caload, 1) := by decide +kernel
theorem dX3_signHere_43 : decode cX3_signHere 43 = .ok (.ireturn, 1) := by decide +kernel
abbrev csX3_isDigitHere : List (List Cond) := [[.code yX3_isDigitHere cX3_isDigitHere 1 (some .boolean)], [.methodLink RX3 43 yX3_signHere, .instanceMethod yX3_signHere, .selects RX3 yX3_signHere yX3_signHere, .initialized RX3, .code yX3_signHere cX3_signHere 1 (some .char), .fieldLink RX3 36 "SlopeMeter$Pad" "at" "I", .fieldLink RX3 22 "SlopeMeter$Pad" "length" "I", .fieldLink RX3 9 "SlopeMeter$Pad" "signs" "[C"], wsX30]
set_option maxRecDepth 20000 in
theorem hbX3_isDigitHere : wsX3_isDigitHere = csX3_isDigitHere.flatten := rfl
set_option maxRecDepth 20000 in
theorem ggX3_isDigitHere_X3_signHere : GoodIn wsX3_isDigitHere wsX3_signHere := goodIn_c csX3_isDigitHere hbX3_isDigitHere _ [(1, 4), (1, 5), (1, 6), (1, 7), (2, 0), (2, 1), (2, 2), (2, 3), (2, 4), (2, 5), (2, 6)] rfl (by decide +kernel)
set_option maxRecDepth 20000 in
theorem gX3_isDigitHere_X3_signHere : GoodIn wsX3_isDigitHere (wsV RX3 43 RX3 yX3_signHere wsX3_signHere) := goodIn_app (goodIn_c csX3_isDigitHere hbX3_isDigitHere [.methodLink RX3 43 yX3_signHere, .instanceMethod yX3_signHere, .selects RX3 yX3_signHere yX3_signHere, .initialized RX3] [(1, 0), (1, 1), (1, 2), (1, 3)] rfl (by decide +kernel)) ggX3_isDigitHere_X3_signHere
theorem dX3_isDigitHere_0 : decode cX3_isDigitHere 0 = .ok (.aload_n 0, 1) := by decide +kernel
theorem dX3_isDigitHere_1 : decode cX3_isDigitHere 1 = .ok (.invokevirtual 43, 3) := by decide +kernel
theorem dX3_isDigitHere_4 : decode cX3_isDigitHere 4 = .ok (.bipush 48, 2) := by decide +kernel
theorem dX3_isDigitHere_6 : decode cX3_isDigitHere 6 = .ok (.if_icmp .lt 16, 3) := by decide +kernel
theorem dX3_isDigitHere_9 : decode cX3_isDigitHere 9 = .ok (.aload_n 0, 1) := by decide +kernel
theorem dX3_isDigitHere_10 : decode cX3_isDigitHere 10 = .ok (.invokevirtual 43, 3) := by decide +kernel
theorem dX3_isDigitHere_13 : decode cX3_isDigitHere 13 = .ok (.bipush 57, 2) := by decide +kernel
theorem dX3_isDigitHere_15 : decode cX3_isDigitHere 15 = .ok (.if_icmp .gt 7, 3) := by decide +kernel
theorem dX3_isDigitHere_18 : decode cX3_isDigitHere 18 = .ok (.iconst 1, 1) := by decide +kernel
theorem dX3_isDigitHere_19 : decode cX3_isDigitHere 19 = .ok (.goto 4, 3) := by decide +kernel
theorem dX3_isDigitHere_22 : decode cX3_isDigitHere 22 = .ok (.iconst 0, 1) := by decide +kernel
theorem dX3_isDigitHere_23 : decode cX3_isDigitHere 23 = .ok (.ireturn, 1) := by decide +kernel
abbrev csX3_readStep : List (List Cond) := [[.code yX3_readStep cX3_readStep 2 (some .boolean)], wsX3_readStep_r1, wsX3_readStep_r2, wsX30]
set_option maxRecDepth 20000 in
theorem hbX3_readStep : wsX3_readStep = csX3_readStep.flatten := rfl
set_option maxRecDepth 20000 in
theorem ggX3_readStep_X3_signHere : GoodIn wsX3_readStep wsX3_signHere := goodIn_c csX3_readStep hbX3_readStep _ [(1, 9), (1, 0), (1, 10), (1, 11), (3, 0), (3, 1), (3, 2), (3, 3), (3, 4), (3, 5), (3, 6)] rfl (by decide +kernel)
set_option maxRecDepth 20000 in
theorem gX3_readStep_X3_signHere : GoodIn wsX3_readStep (wsV RX3 43 RX3 yX3_signHere wsX3_signHere) := goodIn_app (goodIn_c csX3_readStep hbX3_readStep [.methodLink RX3 43 yX3_signHere, .instanceMethod yX3_signHere, .selects RX3 yX3_signHere yX3_signHere, .initialized RX3] [(1, 5), (1, 6), (1, 7), (1, 8)] rfl (by decide +kernel)) ggX3_readStep_X3_signHere
set_option maxRecDepth 20000 in
theorem ggX3_readStep_X3_readArgument : GoodIn wsX3_readStep wsX3_readArgument := goodIn_c csX3_readStep hbX3_readStep _ [(1, 15), (1, 4), (1, 16), (1, 17), (1, 18), (1, 8), (1, 19), (1, 0), (1, 10), (1, 20), (1, 21), (1, 22), (1, 23), (1, 5), (1, 6), (1, 7), (1, 9), (1, 11), (2, 0), (2, 1), (2, 2), (2, 3), (2, 4), (2, 5), (2, 6), (2, 7), (2, 8), (3, 0), (3, 1), (3, 2), (3, 3), (3, 4), (3, 5), (3, 6)] rfl (by decide +kernel)
set_option maxRecDepth 20000 in
theorem gX3_readStep_X3_readArgument : GoodIn wsX3_readStep (wsV RX3 47 RX3 yX3_readArgument wsX3_readArgument) := goodIn_app (goodIn_c csX3_readStep hbX3_readStep [.methodLink RX3 47 yX3_readArgument, .instanceMethod yX3_readArgument, .selects RX3 yX3_readArgument yX3_readArgument, .initialized RX3] [(1, 12), (1, 13), (1, 14), (1, 8)] rfl (by decide +kernel)) ggX3_readStep_X3_readArgument
theorem dX3_readStep_0 : decode cX3_readStep 0 = .ok (.aload_n 0, 1) := by decide +kernel
theorem dX3_readStep_1 : decode cX3_readStep 1 = .ok (.invokevirtual 43, 3) := by decide +kernel
theorem dX3_readStep_4 : decode cX3_readStep 4 = .ok (.istore_n 1, 1) := by decide +kernel
theorem dX3_readStep_5 : decode cX3_readStep 5 = .ok (.iload_n 1, 1) := by decide +kernel
theorem dX3_readStep_6 : decode cX3_readStep 6 = .ok (.bipush 114, 2) := by decide +kernel
theorem dX3_readStep_8 : decode cX3_readStep 8 = .ok (.if_icmp .eq 29, 3) := by decide +kernel
theorem dX3_readStep_11 : decode cX3_readStep 11 = .ok (.iload_n 1, 1) := by decide +kernel
theorem dX3_readStep_12 : decode cX3_readStep 12 = .ok (.bipush 122, 2) := by decide +kernel
theorem dX3_readStep_14 : decode cX3_readStep 14 = .ok (.if_icmp .eq 23, 3) := by decide +kernel
theorem dX3_readStep_17 : decode cX3_readStep 17 = .ok (.iload_n 1, 1) := by decide +kernel
theorem dX3_readStep_18 : decode cX3_readStep 18 = .ok (.bipush 119, 2) := by decide +kernel
theorem dX3_readStep_20 : decode cX3_readStep 20 = .ok (.if_icmp .eq 17, 3) := by decide +kernel
theorem dX3_readStep_23 : decode cX3_readStep 23 = .ok (.iload_n 1, 1) := by decide +kernel
theorem dX3_readStep_24 : decode cX3_readStep 24 = .ok (.bipush 108, 2) := by decide +kernel
theorem dX3_readStep_26 : decode cX3_readStep 26 = .ok (.if_icmp .eq 11, 3) := by decide +kernel
theorem dX3_readStep_29 : decode cX3_readStep 29 = .ok (.iload_n 1, 1) := by decide +kernel
theorem dX3_readStep_30 : decode cX3_readStep 30 = .ok (.bipush 103, 2) := by decide +kernel
theorem dX3_readStep_32 : decode cX3_readStep 32 = .ok (.if_icmp .eq 5, 3) := by decide +kernel
theorem dX3_readStep_35 : decode cX3_readStep 35 = .ok (.iconst 0, 1) := by decide +kernel
theorem dX3_readStep_36 : decode cX3_readStep 36 = .ok (.ireturn, 1) := by decide +kernel
theorem dX3_readStep_37 : decode cX3_readStep 37 = .ok (.aload_n 0, 1) := by decide +kernel
theorem dX3_readStep_38 : decode cX3_readStep 38 = .ok (.dup, 1) := by decide +kernel
theorem dX3_readStep_39 : decode cX3_readStep 39 = .ok (.getfield 36, 3) := by decide +kernel
theorem dX3_readStep_42 : decode cX3_readStep 42 = .ok (.iconst 1, 1) := by decide +kernel
theorem dX3_readStep_43 : decode cX3_readStep 43 = .ok (.iadd, 1) := by decide +kernel
theorem dX3_readStep_44 : decode cX3_readStep 44 = .ok (.putfield 36, 3) := by decide +kernel
theorem dX3_readStep_47 : decode cX3_readStep 47 = .ok (.aload_n 0, 1) := by decide +kernel
theorem dX3_readStep_48 : decode cX3_readStep 48 = .ok (.iload_n 1, 1) := by decide +kernel
theorem dX3_readStep_49 : decode cX3_readStep 49 = .ok (.invokevirtual 47, 3) := by decide +kernel
theorem dX3_readStep_52 : decode cX3_readStep 52 = .ok (.ifCond .ne 5, 3) := by decide +kernel
theorem dX3_readStep_55 : decode cX3_readStep 55 = .ok (.iconst 0, 1) := by decide +kernel
theorem dX3_readStep_56 : decode cX3_readStep 56 = .ok (.ireturn, 1) := by decide +kernel
theorem dX3_readStep_57 : decode cX3_readStep 57 = .ok (.aload_n 0, 1) := by decide +kernel
theorem dX3_readStep_58 : decode cX3_readStep 58 = .ok (.getfield 26, 3) := by decide +kernel
theorem dX3_readStep_61 : decode cX3_readStep 61 = .ok (.aload_n 0, 1) := by decide +kernel
theorem dX3_readStep_62 : decode cX3_readStep 62 = .ok (.getfield 15, 3) := by decide +kernel
theorem dX3_readStep_65 : decode cX3_readStep 65 = .ok (.arraylength, 1) := by decide +kernel
theorem dX3_readStep_66 : decode cX3_readStep 66 = .ok (.if_icmp .ge 48, 3) := by decide +kernel
theorem dX3_readStep_69 : decode cX3_readStep 69 = .ok (.aload_n 0, 1) := by decide +kernel
theorem dX3_readStep_70 : decode cX3_readStep 70 = .ok (.getfield 26, 3) := by decide +kernel
theorem dX3_readStep_73 : decode cX3_readStep 73 = .ok (.aload_n 0, 1) := by decide +kernel
theorem dX3_readStep_74 : decode cX3_readStep 74 = .ok (.getfield 19, 3) := by decide +kernel
theorem dX3_readStep_77 : decode cX3_readStep 77 = .ok (.arraylength, 1) := by decide +kernel
theorem dX3_readStep_78 : decode cX3_readStep 78 = .ok (.if_icmp .ge 36, 3) := by decide +kernel
theorem dX3_readStep_81 : decode cX3_readStep 81 = .ok (.aload_n 0, 1) := by decide +kernel
theorem dX3_readStep_82 : decode cX3_readStep 82 = .ok (.getfield 15, 3) := by decide +kernel
theorem dX3_readStep_85 : decode cX3_readStep 85 = .ok (.aload_n 0, 1) := by decide +kernel
theorem dX3_readStep_86 : decode cX3_readStep 86 = .ok (.getfield 26, 3) := by decide +kernel
theorem dX3_readStep_89 : decode cX3_readStep 89 = .ok (.iload_n 1, 1) := by decide +kernel
theorem dX3_readStep_90 : decode cX3_readStep 90 = .ok (.iastore, 1) := by decide +kernel
theorem dX3_readStep_91 : decode cX3_readStep 91 = .ok (.aload_n 0, 1) := by decide +kernel
theorem dX3_readStep_92 : decode cX3_readStep 92 = .ok (.getfield 19, 3) := by decide +kernel
theorem dX3_readStep_95 : decode cX3_readStep 95 = .ok (.aload_n 0, 1) := by decide +kernel
theorem dX3_readStep_96 : decode cX3_readStep 96 = .ok (.getfield 26, 3) := by decide +kernel
theorem dX3_readStep_99 : decode cX3_readStep 99 = .ok (.aload_n 0, 1) := by decide +kernel
theorem dX3_readStep_100 : decode cX3_readStep 100 = .ok (.getfield 51, 3) := by decide +kernel
theorem dX3_readStep_103 : decode cX3_readStep 103 = .ok (.iastore, 1) := by decide +kernel
theorem dX3_readStep_104 : decode cX3_readStep 104 = .ok (.aload_n 0, 1) := by decide +kernel
theorem dX3_readStep_105 : decode cX3_readStep 105 = .ok (.dup, 1) := by decide +kernel
theorem dX3_readStep_106 : decode cX3_readStep 106 = .ok (.getfield 26, 3) := by decide +kernel
theorem dX3_readStep_109 : decode cX3_readStep 109 = .ok (.iconst 1, 1) := by decide +kernel
theorem dX3_readStep_110 : decode cX3_readStep 110 = .ok (.iadd, 1) := by decide +kernel
theorem dX3_readStep_111 : decode cX3_readStep 111 = .ok (.putfield 26, 3) := by decide +kernel
theorem dX3_readStep_114 : decode cX3_readStep 114 = .ok (.iconst 1, 1) := by decide +kernel
theorem dX3_readStep_115 : decode cX3_readStep 115 = .ok (.ireturn, 1) := by decide +kernel
abbrev csX3_readArgument : List (List Cond) := [[.code yX3_readArgument cX3_readArgument 2 (some .boolean)], wsX3_readArgument_r1, wsX3_readArgument_r2, wsX30]
set_option maxRecDepth 20000 in
theorem hbX3_readArgument : wsX3_readArgument = csX3_readArgument.flatten := rfl
set_option maxRecDepth 20000 in
theorem ggX3_readArgument_X3_readNumber : GoodIn wsX3_readArgument wsX3_readNumber := goodIn_c csX3_readArgument hbX3_readArgument _ [(1, 5), (1, 0), (1, 6), (1, 7), (1, 8), (1, 9), (1, 10), (1, 4), (1, 11), (1, 12), (1, 13), (1, 14), (1, 15), (1, 16), (3, 0), (3, 1), (3, 2), (3, 3), (3, 4), (3, 5), (3, 6)] rfl (by decide +kernel)
set_option maxRecDepth 20000 in
theorem gX3_readArgument_X3_readNumber : GoodIn wsX3_readArgument (wsV RX3 54 RX3 yX3_readNumber wsX3_readNumber) := goodIn_app (goodIn_c csX3_readArgument hbX3_readArgument [.methodLink RX3 54 yX3_readNumber, .instanceMethod yX3_readNumber, .selects RX3 yX3_readNumber yX3_readNumber, .initialized RX3] [(1, 1), (1, 2), (1, 3), (1, 4)] rfl (by decide +kernel)) ggX3_readArgument_X3_readNumber
set_option maxRecDepth 20000 in
theorem ggX3_readArgument_X3_readLevel : GoodIn wsX3_readArgument wsX3_readLevel := goodIn_c csX3_readArgument hbX3_readArgument _ [(1, 20), (1, 6), (1, 21), (1, 0), (1, 12), (1, 13), (1, 14), (1, 4), (1, 15), (1, 7), (1, 16), (1, 1), (1, 2), (1, 3), (1, 5), (1, 8), (1, 9), (1, 10), (1, 11), (3, 0), (3, 1), (3, 2), (3, 3), (3, 4), (3, 5), (3, 6)] rfl (by decide +kernel)
set_option maxRecDepth 20000 in
theorem gX3_readArgument_X3_readLevel : GoodIn wsX3_readArgument (wsV RX3 58 RX3 yX3_readLevel wsX3_readLevel) := goodIn_app (goodIn_c csX3_readArgument hbX3_readArgument [.methodLink RX3 58 yX3_readLevel, .instanceMethod yX3_readLevel, .selects RX3 yX3_readLevel yX3_readLevel, .initialized RX3] [(1, 17), (1, 18), (1, 19), (1, 4)] rfl (by decide +kernel)) ggX3_readArgument_X3_readLevel
set_option maxRecDepth 20000 in
theorem ggX3_readArgument_X3_readRange : GoodIn wsX3_readArgument wsX3_readRange := goodIn_c csX3_readArgument hbX3_readArgument _ [(2, 1), (1, 0), (1, 6), (1, 12), (1, 13), (1, 14), (1, 4), (1, 15), (1, 7), (1, 16), (3, 0), (3, 1), (3, 2), (3, 3), (3, 4), (3, 5), (3, 6)] rfl (by decide +kernel)
set_option maxRecDepth 20000 in
theorem gX3_readArgument_X3_readRange : GoodIn wsX3_readArgument (wsV RX3 61 RX3 yX3_readRange wsX3_readRange) := goodIn_app (goodIn_c csX3_readArgument hbX3_readArgument [.methodLink RX3 61 yX3_readRange, .instanceMethod yX3_readRange, .selects RX3 yX3_readRange yX3_readRange, .initialized RX3] [(1, 22), (1, 23), (2, 0), (1, 4)] rfl (by decide +kernel)) ggX3_readArgument_X3_readRange
set_option maxRecDepth 20000 in
theorem ggX3_readArgument_X3_isDigitHere : GoodIn wsX3_readArgument wsX3_isDigitHere := goodIn_c csX3_readArgument hbX3_readArgument _ [(1, 11), (1, 12), (1, 13), (1, 14), (1, 4), (1, 15), (1, 6), (1, 7), (1, 16), (3, 0), (3, 1), (3, 2), (3, 3), (3, 4), (3, 5), (3, 6)] rfl (by decide +kernel)
set_option maxRecDepth 20000 in
theorem gX3_readArgument_X3_isDigitHere : GoodIn wsX3_readArgument (wsV RX3 64 RX3 yX3_isDigitHere wsX3_isDigitHere) := goodIn_app (goodIn_c csX3_readArgument hbX3_readArgument [.methodLink RX3 64 yX3_isDigitHere, .instanceMethod yX3_isDigitHere, .selects RX3 yX3_isDigitHere yX3_isDigitHere, .initialized RX3] [(1, 8), (1, 9), (1, 10), (1, 4)] rfl (by decide +kernel)) ggX3_readArgument_X3_isDigitHere
theorem dX3_readArgument_0 : decode cX3_readArgument 0 = .ok (.iload_n 1, 1) := by decide +kernel
theorem dX3_readArgument_1 : decode cX3_readArgument 1 = .ok (.bipush 119, 2) := by decide +kernel
theorem dX3_readArgument_3 : decode cX3_readArgument 3 = .ok (.if_icmp .ne 12, 3) := by decide +kernel
theorem dX3_readArgument_6 : decode cX3_readArgument 6 = .ok (.aload_n 0, 1) := by decide +kernel
theorem dX3_readArgument_7 : decode cX3_readArgument 7 = .ok (.iconst 1, 1) := by decide +kernel
theorem dX3_readArgument_8 : decode cX3_readArgument 8 = .ok (.sipush 9999, 3) := by decide +kernel
theorem dX3_readArgument_11 : decode cX3_readArgument 11 = .ok (.invokevirtual 54, 3) := by decide +kernel
theorem dX3_readArgument_14 : decode cX3_readArgument 14 = .ok (.ireturn, 1) := by decide +kernel
theorem dX3_readArgument_15 : decode cX3_readArgument 15 = .ok (.iload_n 1, 1) := by decide +kernel
theorem dX3_readArgument_16 : decode cX3_readArgument 16 = .ok (.bipush 108, 2) := by decide +kernel
theorem dX3_readArgument_18 : decode cX3_readArgument 18 = .ok (.if_icmp .ne 8, 3) := by decide +kernel
theorem dX3_readArgument_21 : decode cX3_readArgument 21 = .ok (.aload_n 0, 1) := by decide +kernel
theorem dX3_readArgument_22 : decode cX3_readArgument 22 = .ok (.invokevirtual 58, 3) := by decide +kernel
theorem dX3_readArgument_25 : decode cX3_readArgument 25 = .ok (.ireturn, 1) := by decide +kernel
theorem dX3_readArgument_26 : decode cX3_readArgument 26 = .ok (.iload_n 1, 1) := by decide +kernel
theorem dX3_readArgument_27 : decode cX3_readArgument 27 = .ok (.bipush 103, 2) := by decide +kernel
theorem dX3_readArgument_29 : decode cX3_readArgument 29 = .ok (.if_icmp .ne 8, 3) := by decide +kernel
theorem dX3_readArgument_32 : decode cX3_readArgument 32 = .ok (.aload_n 0, 1) := by decide +kernel
theorem dX3_readArgument_33 : decode cX3_readArgument 33 = .ok (.invokevirtual 61, 3) := by decide +kernel
theorem dX3_readArgument_36 : decode cX3_readArgument 36 = .ok (.ireturn, 1) := by decide +kernel
theorem dX3_readArgument_37 : decode cX3_readArgument 37 = .ok (.aload_n 0, 1) := by decide +kernel
theorem dX3_readArgument_38 : decode cX3_readArgument 38 = .ok (.iconst 1, 1) := by decide +kernel
theorem dX3_readArgument_39 : decode cX3_readArgument 39 = .ok (.putfield 51, 3) := by decide +kernel
theorem dX3_readArgument_42 : decode cX3_readArgument 42 = .ok (.iload_n 1, 1) := by decide +kernel
theorem dX3_readArgument_43 : decode cX3_readArgument 43 = .ok (.bipush 122, 2) := by decide +kernel
theorem dX3_readArgument_45 : decode cX3_readArgument 45 = .ok (.if_icmp .eq 20, 3) := by decide +kernel
theorem dX3_readArgument_48 : decode cX3_readArgument 48 = .ok (.aload_n 0, 1) := by decide +kernel
theorem dX3_readArgument_49 : decode cX3_readArgument 49 = .ok (.invokevirtual 64, 3) := by decide +kernel
theorem dX3_readArgument_52 : decode cX3_readArgument 52 = .ok (.ifCond .eq 13, 3) := by decide +kernel
theorem dX3_readArgument_55 : decode cX3_readArgument 55 = .ok (.aload_n 0, 1) := by decide +kernel
theorem dX3_readArgument_56 : decode cX3_readArgument 56 = .ok (.iconst 1, 1) := by decide +kernel
theorem dX3_readArgument_57 : decode cX3_readArgument 57 = .ok (.bipush 99, 2) := by decide +kernel
theorem dX3_readArgument_59 : decode cX3_readArgument 59 = .ok (.invokevirtual 54, 3) := by decide +kernel
theorem dX3_readArgument_62 : decode cX3_readArgument 62 = .ok (.ifCond .eq 7, 3) := by decide +kernel
theorem dX3_readArgument_65 : decode cX3_readArgument 65 = .ok (.iconst 1, 1) := by decide +kernel
theorem dX3_readArgument_66 : decode cX3_readArgument 66 = .ok (.goto 4, 3) := by decide +kernel
theorem dX3_readArgument_69 : decode cX3_readArgument 69 = .ok (.iconst 0, 1) := by decide +kernel
theorem dX3_readArgument_70 : decode cX3_readArgument 70 = .ok (.ireturn, 1) := by decide +kernel
abbrev csX3_readLevel : List (List Cond) := [[.code yX3_readLevel cX3_readLevel 3 (some .boolean)], [.fieldLink RX3 36 "SlopeMeter$Pad" "at" "I", .constant RX3 67 (3000000), .fieldLink RX3 51 "SlopeMeter$Pad" "number" "I", .methodLink RX3 43 yX3_signHere, .instanceMethod yX3_signHere, .selects RX3 yX3_signHere yX3_signHere, .initialized RX3, .code yX3_signHere cX3_signHere 1 (some .char), .fieldLink RX3 22 "SlopeMeter$Pad" "length" "I", .fieldLink RX3 9 "SlopeMeter$Pad" "signs" "[C", .methodLink RX3 54 yX3_readNumber, .instanceMethod yX3_readNumber, .selects RX3 yX3_readNumber yX3_readNumber, .code yX3_readNumber cX3_readNumber 6 (some .boolean), .methodLink RX3 64 yX3_isDigitHere, .instanceMethod yX3_isDigitHere, .selects RX3 yX3_isDigitHere yX3_isDigitHere, .code yX3_isDigitHere cX3_isDigitHere 1 (some .boolean)], wsX30]
set_option maxRecDepth 20000 in
theorem hbX3_readLevel : wsX3_readLevel = csX3_readLevel.flatten := rfl
set_option maxRecDepth 20000 in
theorem ggX3_readLevel_X3_signHere : GoodIn wsX3_readLevel wsX3_signHere := goodIn_c csX3_readLevel hbX3_readLevel _ [(1, 7), (1, 0), (1, 8), (1, 9), (2, 0), (2, 1), (2, 2), (2, 3), (2, 4), (2, 5), (2, 6)] rfl (by decide +kernel)
set_option maxRecDepth 20000 in
theorem gX3_readLevel_X3_signHere : GoodIn wsX3_readLevel (wsV RX3 43 RX3 yX3_signHere wsX3_signHere) := goodIn_app (goodIn_c csX3_readLevel hbX3_readLevel [.methodLink RX3 43 yX3_signHere, .instanceMethod yX3_signHere, .selects RX3 yX3_signHere yX3_signHere, .initialized RX3] [(1, 3), (1, 4), (1, 5), (1, 6)] rfl (by decide +kernel)) ggX3_readLevel_X3_signHere
set_option maxRecDepth 20000 in
theorem ggX3_readLevel_X3_readNumber : GoodIn wsX3_readLevel wsX3_readNumber := goodIn_c csX3_readLevel hbX3_readLevel _ [(1, 13), (1, 2), (1, 0), (1, 8), (1, 14), (1, 15), (1, 16), (1, 6), (1, 17), (1, 3), (1, 4), (1, 5), (1, 7), (1, 9), (2, 0), (2, 1), (2, 2), (2, 3), (2, 4), (2, 5), (2, 6)] rfl (by decide +kernel)
set_option maxRecDepth 20000 in
theorem gX3_readLevel_X3_readNumber : GoodIn wsX3_readLevel (wsV RX3 54 RX3 yX3_readNumber wsX3_readNumber) := goodIn_app (goodIn_c csX3_readLevel hbX3_readLevel [.methodLink RX3 54 yX3_readNumber, .instanceMethod yX3_readNumber, .selects RX3 yX3_readNumber yX3_readNumber, .initialized RX3] [(1, 10), (1, 11), (1, 12), (1, 6)] rfl (by decide +kernel)) ggX3_readLevel_X3_readNumber
theorem dX3_readLevel_0 : decode cX3_readLevel 0 = .ok (.aload_n 0, 1) := by decide +kernel
theorem dX3_readLevel_1 : decode cX3_readLevel 1 = .ok (.invokevirtual 43, 3) := by decide +kernel
theorem dX3_readLevel_4 : decode cX3_readLevel 4 = .ok (.bipush 45, 2) := by decide +kernel
theorem dX3_readLevel_6 : decode cX3_readLevel 6 = .ok (.if_icmp .ne 7, 3) := by decide +kernel
theorem dX3_readLevel_9 : decode cX3_readLevel 9 = .ok (.iconst 1, 1) := by decide +kernel
theorem dX3_readLevel_10 : decode cX3_readLevel 10 = .ok (.goto 4, 3) := by decide +kernel
theorem dX3_readLevel_13 : decode cX3_readLevel 13 = .ok (.iconst 0, 1) := by decide +kernel
theorem dX3_readLevel_14 : decode cX3_readLevel 14 = .ok (.istore_n 1, 1) := by decide +kernel
theorem dX3_readLevel_15 : decode cX3_readLevel 15 = .ok (.iload_n 1, 1) := by decide +kernel
theorem dX3_readLevel_16 : decode cX3_readLevel 16 = .ok (.ifCond .eq 13, 3) := by decide +kernel
theorem dX3_readLevel_19 : decode cX3_readLevel 19 = .ok (.aload_n 0, 1) := by decide +kernel
theorem dX3_readLevel_20 : decode cX3_readLevel 20 = .ok (.dup, 1) := by decide +kernel
theorem dX3_readLevel_21 : decode cX3_readLevel 21 = .ok (.getfield 36, 3) := by decide +kernel
theorem dX3_readLevel_24 : decode cX3_readLevel 24 = .ok (.iconst 1, 1) := by decide +kernel
theorem dX3_readLevel_25 : decode cX3_readLevel 25 = .ok (.iadd, 1) := by decide +kernel
theorem dX3_readLevel_26 : decode cX3_readLevel 26 = .ok (.putfield 36, 3) := by decide +kernel
theorem dX3_readLevel_29 : decode cX3_readLevel 29 = .ok (.aload_n 0, 1) := by decide +kernel
theorem dX3_readLevel_30 : decode cX3_readLevel 30 = .ok (.iconst 0, 1) := by decide +kernel
theorem dX3_readLevel_31 : decode cX3_readLevel 31 = .ok (.ldc 67, 2) := by decide +kernel
theorem dX3_readLevel_33 : decode cX3_readLevel 33 = .ok (.invokevirtual 54, 3) := by decide +kernel
theorem dX3_readLevel_36 : decode cX3_readLevel 36 = .ok (.istore_n 2, 1) := by decide +kernel
theorem dX3_readLevel_37 : decode cX3_readLevel 37 = .ok (.iload_n 1, 1) := by decide +kernel
theorem dX3_readLevel_38 : decode cX3_readLevel 38 = .ok (.ifCond .eq 12, 3) := by decide +kernel
theorem dX3_readLevel_41 : decode cX3_readLevel 41 = .ok (.aload_n 0, 1) := by decide +kernel
theorem dX3_readLevel_42 : decode cX3_readLevel 42 = .ok (.aload_n 0, 1) := by decide +kernel
theorem dX3_readLevel_43 : decode cX3_readLevel 43 = .ok (.getfield 51, 3) := by decide +kernel
theorem dX3_readLevel_46 : decode cX3_readLevel 46 = .ok (.ineg, 1) := by decide +kernel
theorem dX3_readLevel_47 : decode cX3_readLevel 47 = .ok (.putfield 51, 3) := by decide +kernel
theorem dX3_readLevel_50 : decode cX3_readLevel 50 = .ok (.iload_n 2, 1) := by decide +kernel
theorem dX3_readLevel_51 : decode cX3_readLevel 51 = .ok (.ireturn, 1) := by decide +kernel
abbrev csX3_readRange : List (List Cond) := [[.code yX3_readRange cX3_readRange 1 (some .boolean)], [.fieldLink RX3 51 "SlopeMeter$Pad" "number" "I", .fieldLink RX3 36 "SlopeMeter$Pad" "at" "I", .methodLink RX3 43 yX3_signHere, .instanceMethod yX3_signHere, .selects RX3 yX3_signHere yX3_signHere, .initialized RX3, .code yX3_signHere cX3_signHere 1 (some .char), .fieldLink RX3 22 "SlopeMeter$Pad" "length" "I", .fieldLink RX3 9 "SlopeMeter$Pad" "signs" "[C"], wsX30]
set_option maxRecDepth 20000 in
theorem hbX3_readRange : wsX3_readRange = csX3_readRange.flatten := rfl
set_option maxRecDepth 20000 in
theorem ggX3_readRange_X3_signHere : GoodIn wsX3_readRange wsX3_signHere := goodIn_c csX3_readRange hbX3_readRange _ [(1, 6), (1, 1), (1, 7), (1, 8), (2, 0), (2, 1), (2, 2), (2, 3), (2, 4), (2, 5), (2, 6)] rfl (by decide +kernel)
set_option maxRecDepth 20000 in
theorem gX3_readRange_X3_signHere : GoodIn wsX3_readRange (wsV RX3 43 RX3 yX3_signHere wsX3_signHere) := goodIn_app (goodIn_c csX3_readRange hbX3_readRange [.methodLink RX3 43 yX3_signHere, .instanceMethod yX3_signHere, .selects RX3 yX3_signHere yX3_signHere, .initialized RX3] [(1, 2), (1, 3), (1, 4), (1, 5)] rfl (by decide +kernel)) ggX3_readRange_X3_signHere
theorem dX3_readRange_0 : decode cX3_readRange 0 = .ok (.aload_n 0, 1) := by decide +kernel
theorem dX3_readRange_1 : decode cX3_readRange 1 = .ok (.aload_n 0, 1) := by decide +kernel
theorem dX3_readRange_2 : decode cX3_readRange 2 = .ok (.invokevirtual 43, 3) := by decide +kernel
theorem dX3_readRange_5 : decode cX3_readRange 5 = .ok (.bipush 48, 2) := by decide +kernel
theorem dX3_readRange_7 : decode cX3_readRange 7 = .ok (.isub, 1) := by decide +kernel
theorem dX3_readRange_8 : decode cX3_readRange 8 = .ok (.putfield 51, 3) := by decide +kernel
theorem dX3_readRange_11 : decode cX3_readRange 11 = .ok (.aload_n 0, 1) := by decide +kernel
theorem dX3_readRange_12 : decode cX3_readRange 12 = .ok (.getfield 51, 3) := by decide +kernel
theorem dX3_readRange_15 : decode cX3_readRange 15 = .ok (.ifCond .lt 14, 3) := by decide +kernel
theorem dX3_readRange_18 : decode cX3_readRange 18 = .ok (.aload_n 0, 1) := by decide +kernel
theorem dX3_readRange_19 : decode cX3_readRange 19 = .ok (.getfield 51, 3) := by decide +kernel
theorem dX3_readRange_22 : decode cX3_readRange 22 = .ok (.getstatic 68, 3) := by decide +kernel
theorem dX3_readRange_25 : decode cX3_readRange 25 = .ok (.arraylength, 1) := by decide +kernel
theorem dX3_readRange_26 : decode cX3_readRange 26 = .ok (.if_icmp .lt 5, 3) := by decide +kernel
theorem dX3_readRange_29 : decode cX3_readRange 29 = .ok (.iconst 0, 1) := by decide +kernel
theorem dX3_readRange_30 : decode cX3_readRange 30 = .ok (.ireturn, 1) := by decide +kernel
theorem dX3_readRange_31 : decode cX3_readRange 31 = .ok (.aload_n 0, 1) := by decide +kernel
theorem dX3_readRange_32 : decode cX3_readRange 32 = .ok (.dup, 1) := by decide +kernel
theorem dX3_readRange_33 : decode cX3_readRange 33 = .ok (.getfield 36, 3) := by decide +kernel
theorem dX3_readRange_36 : decode cX3_readRange 36 = .ok (.iconst 1, 1) := by decide +kernel
theorem dX3_readRange_37 : decode cX3_readRange 37 = .ok (.iadd, 1) := by decide +kernel
theorem dX3_readRange_38 : decode cX3_readRange 38 = .ok (.putfield 36, 3) := by decide +kernel
theorem dX3_readRange_41 : decode cX3_readRange 41 = .ok (.iconst 1, 1) := by decide +kernel
theorem dX3_readRange_42 : decode cX3_readRange 42 = .ok (.ireturn, 1) := by decide +kernel
abbrev csX3_readNumber : List (List Cond) := [[.code yX3_readNumber cX3_readNumber 6 (some .boolean)], [.fieldLink RX3 51 "SlopeMeter$Pad" "number" "I", .fieldLink RX3 36 "SlopeMeter$Pad" "at" "I", .fieldLink RX3 22 "SlopeMeter$Pad" "length" "I", .methodLink RX3 64 yX3_isDigitHere, .instanceMethod yX3_isDigitHere, .selects RX3 yX3_isDigitHere yX3_isDigitHere, .initialized RX3, .code yX3_isDigitHere cX3_isDigitHere 1 (some .boolean), .methodLink RX3 43 yX3_signHere, .instanceMethod yX3_signHere, .selects RX3 yX3_signHere yX3_signHere, .code yX3_signHere cX3_signHere 1 (some .char), .fieldLink RX3 9 "SlopeMeter$Pad" "signs" "[C"], wsX30]
set_option maxRecDepth 20000 in
theorem hbX3_readNumber : wsX3_readNumber = csX3_readNumber.flatten := rfl
set_option maxRecDepth 20000 in
theorem ggX3_readNumber_X3_isDigitHere : GoodIn wsX3_readNumber wsX3_isDigitHere := goodIn_c csX3_readNumber hbX3_readNumber _ [(1, 7), (1, 8), (1, 9), (1, 10), (1, 6), (1, 11), (1, 1), (1, 2), (1, 12), (2, 0), (2, 1), (2, 2), (2, 3), (2, 4), (2, 5), (2, 6)] rfl (by decide +kernel)
set_option maxRecDepth 20000 in
theorem gX3_readNumber_X3_isDigitHere : GoodIn wsX3_readNumber (wsV RX3 64 RX3 yX3_isDigitHere wsX3_isDigitHere) := goodIn_app (goodIn_c csX3_readNumber hbX3_readNumber [.methodLink RX3 64 yX3_isDigitHere, .instanceMethod yX3_isDigitHere, .selects RX3 yX3_isDigitHere yX3_isDigitHere, .initialized RX3] [(1, 3), (1, 4), (1, 5), (1, 6)] rfl (by decide +kernel)) ggX3_readNumber_X3_isDigitHere
set_option maxRecDepth 20000 in
theorem ggX3_readNumber_X3_signHere : GoodIn wsX3_readNumber wsX3_signHere := goodIn_c csX3_readNumber hbX3_readNumber _ [(1, 11), (1, 1), (1, 2), (1, 12), (2, 0), (2, 1), (2, 2), (2, 3), (2, 4), (2, 5), (2, 6)] rfl (by decide +kernel)
set_option maxRecDepth 20000 in
theorem gX3_readNumber_X3_signHere : GoodIn wsX3_readNumber (wsV RX3 43 RX3 yX3_signHere wsX3_signHere) := goodIn_app (goodIn_c csX3_readNumber hbX3_readNumber [.methodLink RX3 43 yX3_signHere, .instanceMethod yX3_signHere, .selects RX3 yX3_signHere yX3_signHere, .initialized RX3] [(1, 8), (1, 9), (1, 10), (1, 6)] rfl (by decide +kernel)) ggX3_readNumber_X3_signHere
theorem dX3_readNumber_0 : decode cX3_readNumber 0 = .ok (.aload_n 0, 1) := by decide +kernel
theorem dX3_readNumber_1 : decode cX3_readNumber 1 = .ok (.iconst 0, 1) := by decide +kernel
theorem dX3_readNumber_2 : decode cX3_readNumber 2 = .ok (.putfield 51, 3) := by decide +kernel
theorem dX3_readNumber_5 : decode cX3_readNumber 5 = .ok (.aload_n 0, 1) := by decide +kernel
theorem dX3_readNumber_6 : decode cX3_readNumber 6 = .ok (.getfield 36, 3) := by decide +kernel
theorem dX3_readNumber_9 : decode cX3_readNumber 9 = .ok (.istore_n 3, 1) := by decide +kernel
theorem dX3_readNumber_10 : decode cX3_readNumber 10 = .ok (.aload_n 0, 1) := by decide +kernel
theorem dX3_readNumber_11 : decode cX3_readNumber 11 = .ok (.invokevirtual 64, 3) := by decide +kernel
theorem dX3_readNumber_14 : decode cX3_readNumber 14 = .ok (.ifCond .eq 91, 3) := by decide +kernel
theorem dX3_readNumber_17 : decode cX3_readNumber 17 = .ok (.aload_n 0, 1) := by decide +kernel
theorem dX3_readNumber_18 : decode cX3_readNumber 18 = .ok (.getfield 36, 3) := by decide +kernel
theorem dX3_readNumber_21 : decode cX3_readNumber 21 = .ok (.aload_n 0, 1) := by decide +kernel
theorem dX3_readNumber_22 : decode cX3_readNumber 22 = .ok (.getfield 22, 3) := by decide +kernel
theorem dX3_readNumber_25 : decode cX3_readNumber 25 = .ok (.if_icmp .ge 80, 3) := by decide +kernel
theorem dX3_readNumber_28 : decode cX3_readNumber 28 = .ok (.aload_n 0, 1) := by decide +kernel
theorem dX3_readNumber_29 : decode cX3_readNumber 29 = .ok (.getfield 51, 3) := by decide +kernel
theorem dX3_readNumber_32 : decode cX3_readNumber 32 = .ok (.bipush 10, 2) := by decide +kernel
theorem dX3_readNumber_34 : decode cX3_readNumber 34 = .ok (.imul, 1) := by decide +kernel
theorem dX3_readNumber_35 : decode cX3_readNumber 35 = .ok (.aload_n 0, 1) := by decide +kernel
theorem dX3_readNumber_36 : decode cX3_readNumber 36 = .ok (.invokevirtual 43, 3) := by decide +kernel
theorem dX3_readNumber_39 : decode cX3_readNumber 39 = .ok (.bipush 48, 2) := by decide +kernel
theorem dX3_readNumber_41 : decode cX3_readNumber 41 = .ok (.isub, 1) := by decide +kernel
theorem dX3_readNumber_42 : decode cX3_readNumber 42 = .ok (.iadd, 1) := by decide +kernel
theorem dX3_readNumber_43 : decode cX3_readNumber 43 = .ok (.istore 4, 2) := by decide +kernel
theorem dX3_readNumber_45 : decode cX3_readNumber 45 = .ok (.aload_n 0, 1) := by decide +kernel
theorem dX3_readNumber_46 : decode cX3_readNumber 46 = .ok (.getfield 36, 3) := by decide +kernel
theorem dX3_readNumber_49 : decode cX3_readNumber 49 = .ok (.iload_n 3, 1) := by decide +kernel
theorem dX3_readNumber_50 : decode cX3_readNumber 50 = .ok (.if_icmp .le 14, 3) := by decide +kernel
theorem dX3_readNumber_53 : decode cX3_readNumber 53 = .ok (.aload_n 0, 1) := by decide +kernel
theorem dX3_readNumber_54 : decode cX3_readNumber 54 = .ok (.getfield 51, 3) := by decide +kernel
theorem dX3_readNumber_57 : decode cX3_readNumber 57 = .ok (.ifCond .ne 7, 3) := by decide +kernel
theorem dX3_readNumber_60 : decode cX3_readNumber 60 = .ok (.iconst 1, 1) := by decide +kernel
theorem dX3_readNumber_61 : decode cX3_readNumber 61 = .ok (.goto 4, 3) := by decide +kernel
theorem dX3_readNumber_64 : decode cX3_readNumber 64 = .ok (.iconst 0, 1) := by decide +kernel
theorem dX3_readNumber_65 : decode cX3_readNumber 65 = .ok (.istore 5, 2) := by decide +kernel
theorem dX3_readNumber_67 : decode cX3_readNumber 67 = .ok (.iload 5, 2) := by decide +kernel
theorem dX3_readNumber_69 : decode cX3_readNumber 69 = .ok (.ifCond .ne 15, 3) := by decide +kernel
theorem dX3_readNumber_72 : decode cX3_readNumber 72 = .ok (.iload 4, 2) := by decide +kernel
theorem dX3_readNumber_74 : decode cX3_readNumber 74 = .ok (.iload_n 1, 1) := by decide +kernel
theorem dX3_readNumber_75 : decode cX3_readNumber 75 = .ok (.if_icmp .lt 9, 3) := by decide +kernel
theorem dX3_readNumber_78 : decode cX3_readNumber 78 = .ok (.iload 4, 2) := by decide +kernel
theorem dX3_readNumber_80 : decode cX3_readNumber 80 = .ok (.iload_n 2, 1) := by decide +kernel
theorem dX3_readNumber_81 : decode cX3_readNumber 81 = .ok (.if_icmp .le 5, 3) := by decide +kernel
theorem dX3_readNumber_84 : decode cX3_readNumber 84 = .ok (.iconst 0, 1) := by decide +kernel
theorem dX3_readNumber_85 : decode cX3_readNumber 85 = .ok (.ireturn, 1) := by decide +kernel
theorem dX3_readNumber_86 : decode cX3_readNumber 86 = .ok (.aload_n 0, 1) := by decide +kernel
theorem dX3_readNumber_87 : decode cX3_readNumber 87 = .ok (.iload 4, 2) := by decide +kernel
theorem dX3_readNumber_89 : decode cX3_readNumber 89 = .ok (.putfield 51, 3) := by decide +kernel
theorem dX3_readNumber_92 : decode cX3_readNumber 92 = .ok (.aload_n 0, 1) := by decide +kernel
theorem dX3_readNumber_93 : decode cX3_readNumber 93 = .ok (.dup, 1) := by decide +kernel
theorem dX3_readNumber_94 : decode cX3_readNumber 94 = .ok (.getfield 36, 3) := by decide +kernel
theorem dX3_readNumber_97 : decode cX3_readNumber 97 = .ok (.iconst 1, 1) := by decide +kernel
theorem dX3_readNumber_98 : decode cX3_readNumber 98 = .ok (.iadd, 1) := by decide +kernel
theorem dX3_readNumber_99 : decode cX3_readNumber 99 = .ok (.putfield 36, 3) := by decide +kernel
theorem dX3_readNumber_102 : decode cX3_readNumber 102 = .ok (.goto (-92), 3) := by decide +kernel
theorem dX3_readNumber_105 : decode cX3_readNumber 105 = .ok (.aload_n 0, 1) := by decide +kernel
theorem dX3_readNumber_106 : decode cX3_readNumber 106 = .ok (.getfield 36, 3) := by decide +kernel
theorem dX3_readNumber_109 : decode cX3_readNumber 109 = .ok (.iload_n 3, 1) := by decide +kernel
theorem dX3_readNumber_110 : decode cX3_readNumber 110 = .ok (.if_icmp .le 7, 3) := by decide +kernel
theorem dX3_readNumber_113 : decode cX3_readNumber 113 = .ok (.iconst 1, 1) := by decide +kernel
theorem dX3_readNumber_114 : decode cX3_readNumber 114 = .ok (.goto 4, 3) := by decide +kernel
theorem dX3_readNumber_117 : decode cX3_readNumber 117 = .ok (.iconst 0, 1) := by decide +kernel
theorem dX3_readNumber_118 : decode cX3_readNumber 118 = .ok (.ireturn, 1) := by decide +kernel
theorem dX4_init_0 : decode cX4_init 0 = .ok (.aload_n 0, 1) := by decide +kernel
theorem dX4_init_1 : decode cX4_init 1 = .ok (.invokespecial 3, 3) := by decide +kernel
theorem dX4_init_4 : decode cX4_init 4 = .ok (.aload_n 0, 1) := by decide +kernel
theorem dX4_init_5 : decode cX4_init 5 = .ok (.bipush 100, 2) := by decide +kernel
theorem dX4_init_7 : decode cX4_init 7 = .ok (.putfield 9, 3) := by decide +kernel
theorem dX4_init_10 : decode cX4_init 10 = .ok (.aload_n 0, 1) := by decide +kernel
theorem dX4_init_11 : decode cX4_init 11 = .ok (.iconst 5, 1) := by decide +kernel
theorem dX4_init_12 : decode cX4_init 12 = .ok (.putfield 15, 3) := by decide +kernel
theorem dX4_init_15 : decode cX4_init 15 = .ok (.aload_n 0, 1) := by decide +kernel
theorem dX4_init_16 : decode cX4_init 16 = .ok (.iconst 0, 1) := by decide +kernel
theorem dX4_init_17 : decode cX4_init 17 = .ok (.putfield 18, 3) := by decide +kernel
theorem dX4_init_20 : decode cX4_init 20 = .ok (.return_, 1) := by decide +kernel
theorem dX4_copyFrom_0 : decode cX4_copyFrom 0 = .ok (.aload_n 0, 1) := by decide +kernel
theorem dX4_copyFrom_1 : decode cX4_copyFrom 1 = .ok (.aload_n 1, 1) := by decide +kernel
theorem dX4_copyFrom_2 : decode cX4_copyFrom 2 = .ok (.getfield 9, 3) := by decide +kernel
theorem dX4_copyFrom_5 : decode cX4_copyFrom 5 = .ok (.putfield 9, 3) := by decide +kernel
theorem dX4_copyFrom_8 : decode cX4_copyFrom 8 = .ok (.aload_n 0, 1) := by decide +kernel
theorem dX4_copyFrom_9 : decode cX4_copyFrom 9 = .ok (.aload_n 1, 1) := by decide +kernel
theorem dX4_copyFrom_10 : decode cX4_copyFrom 10 = .ok (.getfield 15, 3) := by decide +kernel
theorem dX4_copyFrom_13 : decode cX4_copyFrom 13 = .ok (.putfield 15, 3) := by decide +kernel
theorem dX4_copyFrom_16 : decode cX4_copyFrom 16 = .ok (.aload_n 0, 1) := by decide +kernel
theorem dX4_copyFrom_17 : decode cX4_copyFrom 17 = .ok (.aload_n 1, 1) := by decide +kernel
theorem dX4_copyFrom_18 : decode cX4_copyFrom 18 = .ok (.getfield 18, 3) := by decide +kernel
theorem dX4_copyFrom_21 : decode cX4_copyFrom 21 = .ok (.putfield 18, 3) := by decide +kernel
theorem dX4_copyFrom_24 : decode cX4_copyFrom 24 = .ok (.aload_n 0, 1) := by decide +kernel
theorem dX4_copyFrom_25 : decode cX4_copyFrom 25 = .ok (.aload_n 1, 1) := by decide +kernel
theorem dX4_copyFrom_26 : decode cX4_copyFrom 26 = .ok (.getfield 21, 3) := by decide +kernel
theorem dX4_copyFrom_29 : decode cX4_copyFrom 29 = .ok (.putfield 21, 3) := by decide +kernel
theorem dX4_copyFrom_32 : decode cX4_copyFrom 32 = .ok (.aload_n 0, 1) := by decide +kernel
theorem dX4_copyFrom_33 : decode cX4_copyFrom 33 = .ok (.aload_n 1, 1) := by decide +kernel
theorem dX4_copyFrom_34 : decode cX4_copyFrom 34 = .ok (.getfield 24, 3) := by decide +kernel
theorem dX4_copyFrom_37 : decode cX4_copyFrom 37 = .ok (.putfield 24, 3) := by decide +kernel
theorem dX4_copyFrom_40 : decode cX4_copyFrom 40 = .ok (.aload_n 0, 1) := by decide +kernel
theorem dX4_copyFrom_41 : decode cX4_copyFrom 41 = .ok (.aload_n 1, 1) := by decide +kernel
theorem dX4_copyFrom_42 : decode cX4_copyFrom 42 = .ok (.getfield 27, 3) := by decide +kernel
theorem dX4_copyFrom_45 : decode cX4_copyFrom 45 = .ok (.putfield 27, 3) := by decide +kernel
theorem dX4_copyFrom_48 : decode cX4_copyFrom 48 = .ok (.return_, 1) := by decide +kernel
theorem dX4_valueOf_0 : decode cX4_valueOf 0 = .ok (.iload_n 1, 1) := by decide +kernel
theorem dX4_valueOf_1 : decode cX4_valueOf 1 = .ok (.tableswitch 60 0 4 #[35, 40, 45, 50, 55], 35) := by decide +kernel
theorem dX4_valueOf_36 : decode cX4_valueOf 36 = .ok (.aload_n 0, 1) := by decide +kernel
theorem dX4_valueOf_37 : decode cX4_valueOf 37 = .ok (.getfield 9, 3) := by decide +kernel
theorem dX4_valueOf_40 : decode cX4_valueOf 40 = .ok (.ireturn, 1) := by decide +kernel
theorem dX4_valueOf_41 : decode cX4_valueOf 41 = .ok (.aload_n 0, 1) := by decide +kernel
theorem dX4_valueOf_42 : decode cX4_valueOf 42 = .ok (.getfield 15, 3) := by decide +kernel
theorem dX4_valueOf_45 : decode cX4_valueOf 45 = .ok (.ireturn, 1) := by decide +kernel
theorem dX4_valueOf_46 : decode cX4_valueOf 46 = .ok (.aload_n 0, 1) := by decide +kernel
theorem dX4_valueOf_47 : decode cX4_valueOf 47 = .ok (.getfield 18, 3) := by decide +kernel
theorem dX4_valueOf_50 : decode cX4_valueOf 50 = .ok (.ireturn, 1) := by decide +kernel
theorem dX4_valueOf_51 : decode cX4_valueOf 51 = .ok (.aload_n 0, 1) := by decide +kernel
theorem dX4_valueOf_52 : decode cX4_valueOf 52 = .ok (.getfield 21, 3) := by decide +kernel
theorem dX4_valueOf_55 : decode cX4_valueOf 55 = .ok (.ireturn, 1) := by decide +kernel
theorem dX4_valueOf_56 : decode cX4_valueOf 56 = .ok (.aload_n 0, 1) := by decide +kernel
theorem dX4_valueOf_57 : decode cX4_valueOf 57 = .ok (.getfield 24, 3) := by decide +kernel
theorem dX4_valueOf_60 : decode cX4_valueOf 60 = .ok (.ireturn, 1) := by decide +kernel
theorem dX4_valueOf_61 : decode cX4_valueOf 61 = .ok (.aload_n 0, 1) := by decide +kernel
theorem dX4_valueOf_62 : decode cX4_valueOf 62 = .ok (.getfield 27, 3) := by decide +kernel
theorem dX4_valueOf_65 : decode cX4_valueOf 65 = .ok (.ireturn, 1) := by decide +kernel
theorem dX4_change_0 : decode cX4_change 0 = .ok (.iload_n 1, 1) := by decide +kernel
theorem dX4_change_1 : decode cX4_change 1 = .ok (.tableswitch 75 0 4 #[35, 43, 51, 59, 67], 35) := by decide +kernel
theorem dX4_change_36 : decode cX4_change 36 = .ok (.aload_n 0, 1) := by decide +kernel
theorem dX4_change_37 : decode cX4_change 37 = .ok (.iload_n 2, 1) := by decide +kernel
theorem dX4_change_38 : decode cX4_change 38 = .ok (.putfield 9, 3) := by decide +kernel
theorem dX4_change_41 : decode cX4_change 41 = .ok (.goto 40, 3) := by decide +kernel
theorem dX4_change_44 : decode cX4_change 44 = .ok (.aload_n 0, 1) := by decide +kernel
theorem dX4_change_45 : decode cX4_change 45 = .ok (.iload_n 2, 1) := by decide +kernel
theorem dX4_change_46 : decode cX4_change 46 = .ok (.putfield 15, 3) := by decide +kernel
theorem dX4_change_49 : decode cX4_change 49 = .ok (.goto 32, 3) := by decide +kernel
theorem dX4_change_52 : decode cX4_change 52 = .ok (.aload_n 0, 1) := by decide +kernel
theorem dX4_change_53 : decode cX4_change 53 = .ok (.iload_n 2, 1) := by decide +kernel
theorem dX4_change_54 : decode cX4_change 54 = .ok (.putfield 18, 3) := by decide +kernel
theorem dX4_change_57 : decode cX4_change 57 = .ok (.goto 24, 3) := by decide +kernel
theorem dX4_change_60 : decode cX4_change 60 = .ok (.aload_n 0, 1) := by decide +kernel
theorem dX4_change_61 : decode cX4_change 61 = .ok (.iload_n 2, 1) := by decide +kernel
theorem dX4_change_62 : decode cX4_change 62 = .ok (.putfield 21, 3) := by decide +kernel
theorem dX4_change_65 : decode cX4_change 65 = .ok (.goto 16, 3) := by decide +kernel
theorem dX4_change_68 : decode cX4_change 68 = .ok (.aload_n 0, 1) := by decide +kernel
theorem dX4_change_69 : decode cX4_change 69 = .ok (.iload_n 2, 1) := by decide +kernel
theorem dX4_change_70 : decode cX4_change 70 = .ok (.putfield 24, 3) := by decide +kernel
theorem dX4_change_73 : decode cX4_change 73 = .ok (.goto 8, 3) := by decide +kernel
theorem dX4_change_76 : decode cX4_change 76 = .ok (.aload_n 0, 1) := by decide +kernel
theorem dX4_change_77 : decode cX4_change 77 = .ok (.iload_n 2, 1) := by decide +kernel
theorem dX4_change_78 : decode cX4_change 78 = .ok (.putfield 27, 3) := by decide +kernel
theorem dX4_change_81 : decode cX4_change 81 = .ok (.return_, 1) := by decide +kernel
theorem dX4_beginsSlot_0 : decode cX4_beginsSlot 0 = .ok (.aload_n 0, 1) := by decide +kernel
theorem dX4_beginsSlot_1 : decode cX4_beginsSlot 1 = .ok (.getfield 18, 3) := by decide +kernel
theorem dX4_beginsSlot_4 : decode cX4_beginsSlot 4 = .ok (.iconst 1, 1) := by decide +kernel
theorem dX4_beginsSlot_5 : decode cX4_beginsSlot 5 = .ok (.if_icmp .ne 23, 3) := by decide +kernel
theorem dX4_beginsSlot_8 : decode cX4_beginsSlot 8 = .ok (.aload_n 0, 1) := by decide +kernel
theorem dX4_beginsSlot_9 : decode cX4_beginsSlot 9 = .ok (.getfield 15, 3) := by decide +kernel
theorem dX4_beginsSlot_12 : decode cX4_beginsSlot 12 = .ok (.ifCond .le 16, 3) := by decide +kernel
theorem dX4_beginsSlot_15 : decode cX4_beginsSlot 15 = .ok (.iload_n 1, 1) := by decide +kernel
theorem dX4_beginsSlot_16 : decode cX4_beginsSlot 16 = .ok (.aload_n 0, 1) := by decide +kernel
theorem dX4_beginsSlot_17 : decode cX4_beginsSlot 17 = .ok (.getfield 15, 3) := by decide +kernel
theorem dX4_beginsSlot_20 : decode cX4_beginsSlot 20 = .ok (.irem, 1) := by decide +kernel
theorem dX4_beginsSlot_21 : decode cX4_beginsSlot 21 = .ok (.ifCond .ne 7, 3) := by decide +kernel
theorem dX4_beginsSlot_24 : decode cX4_beginsSlot 24 = .ok (.iconst 1, 1) := by decide +kernel
theorem dX4_beginsSlot_25 : decode cX4_beginsSlot 25 = .ok (.goto 4, 3) := by decide +kernel
theorem dX4_beginsSlot_28 : decode cX4_beginsSlot 28 = .ok (.iconst 0, 1) := by decide +kernel
theorem dX4_beginsSlot_29 : decode cX4_beginsSlot 29 = .ok (.ireturn, 1) := by decide +kernel
theorem dX5_init_0 : decode cX5_init 0 = .ok (.aload_n 0, 1) := by decide +kernel
theorem dX5_init_1 : decode cX5_init 1 = .ok (.invokespecial 3, 3) := by decide +kernel
theorem dX5_init_4 : decode cX5_init 4 = .ok (.aload_n 0, 1) := by decide +kernel
theorem dX5_init_5 : decode cX5_init 5 = .ok (.bipush 100, 2) := by decide +kernel
theorem dX5_init_7 : decode cX5_init 7 = .ok (.putfield 9, 3) := by decide +kernel
theorem dX5_init_10 : decode cX5_init 10 = .ok (.return_, 1) := by decide +kernel
theorem dX5_copyFrom_0 : decode cX5_copyFrom 0 = .ok (.aload_n 0, 1) := by decide +kernel
theorem dX5_copyFrom_1 : decode cX5_copyFrom 1 = .ok (.aload_n 1, 1) := by decide +kernel
theorem dX5_copyFrom_2 : decode cX5_copyFrom 2 = .ok (.getfield 15, 3) := by decide +kernel
theorem dX5_copyFrom_5 : decode cX5_copyFrom 5 = .ok (.putfield 15, 3) := by decide +kernel
theorem dX5_copyFrom_8 : decode cX5_copyFrom 8 = .ok (.aload_n 0, 1) := by decide +kernel
theorem dX5_copyFrom_9 : decode cX5_copyFrom 9 = .ok (.aload_n 1, 1) := by decide +kernel
theorem dX5_copyFrom_10 : decode cX5_copyFrom 10 = .ok (.getfield 18, 3) := by decide +kernel
theorem dX5_copyFrom_13 : decode cX5_copyFrom 13 = .ok (.putfield 18, 3) := by decide +kernel
theorem dX5_copyFrom_16 : decode cX5_copyFrom 16 = .ok (.aload_n 0, 1) := by decide +kernel
theorem dX5_copyFrom_17 : decode cX5_copyFrom 17 = .ok (.aload_n 1, 1) := by decide +kernel
theorem dX5_copyFrom_18 : decode cX5_copyFrom 18 = .ok (.getfield 9, 3) := by decide +kernel
theorem dX5_copyFrom_21 : decode cX5_copyFrom 21 = .ok (.putfield 9, 3) := by decide +kernel
theorem dX5_copyFrom_24 : decode cX5_copyFrom 24 = .ok (.aload_n 0, 1) := by decide +kernel
theorem dX5_copyFrom_25 : decode cX5_copyFrom 25 = .ok (.aload_n 1, 1) := by decide +kernel
theorem dX5_copyFrom_26 : decode cX5_copyFrom 26 = .ok (.getfield 21, 3) := by decide +kernel
theorem dX5_copyFrom_29 : decode cX5_copyFrom 29 = .ok (.putfield 21, 3) := by decide +kernel
theorem dX5_copyFrom_32 : decode cX5_copyFrom 32 = .ok (.aload_n 0, 1) := by decide +kernel
theorem dX5_copyFrom_33 : decode cX5_copyFrom 33 = .ok (.aload_n 1, 1) := by decide +kernel
theorem dX5_copyFrom_34 : decode cX5_copyFrom 34 = .ok (.getfield 24, 3) := by decide +kernel
theorem dX5_copyFrom_37 : decode cX5_copyFrom 37 = .ok (.putfield 24, 3) := by decide +kernel
theorem dX5_copyFrom_40 : decode cX5_copyFrom 40 = .ok (.return_, 1) := by decide +kernel
theorem dX5_humAt_0 : decode cX5_humAt 0 = .ok (.aload_n 0, 1) := by decide +kernel
theorem dX5_humAt_1 : decode cX5_humAt 1 = .ok (.getfield 9, 3) := by decide +kernel
theorem dX5_humAt_4 : decode cX5_humAt 4 = .ok (.iconst 4, 1) := by decide +kernel
theorem dX5_humAt_5 : decode cX5_humAt 5 = .ok (.idiv, 1) := by decide +kernel
theorem dX5_humAt_6 : decode cX5_humAt 6 = .ok (.istore_n 2, 1) := by decide +kernel
theorem dX5_humAt_7 : decode cX5_humAt 7 = .ok (.iload_n 2, 1) := by decide +kernel
theorem dX5_humAt_8 : decode cX5_humAt 8 = .ok (.ifCond .gt 5, 3) := by decide +kernel
theorem dX5_humAt_11 : decode cX5_humAt 11 = .ok (.iconst 0, 1) := by decide +kernel
theorem dX5_humAt_12 : decode cX5_humAt 12 = .ok (.ireturn, 1) := by decide +kernel
theorem dX5_humAt_13 : decode cX5_humAt 13 = .ok (.iload_n 1, 1) := by decide +kernel
theorem dX5_humAt_14 : decode cX5_humAt 14 = .ok (.aload_n 0, 1) := by decide +kernel
theorem dX5_humAt_15 : decode cX5_humAt 15 = .ok (.getfield 9, 3) := by decide +kernel
theorem dX5_humAt_18 : decode cX5_humAt 18 = .ok (.irem, 1) := by decide +kernel
theorem dX5_humAt_19 : decode cX5_humAt 19 = .ok (.istore_n 3, 1) := by decide +kernel
theorem dX5_humAt_20 : decode cX5_humAt 20 = .ok (.iload_n 3, 1) := by decide +kernel
theorem dX5_humAt_21 : decode cX5_humAt 21 = .ok (.iload_n 2, 1) := by decide +kernel
theorem dX5_humAt_22 : decode cX5_humAt 22 = .ok (.if_icmp .ge 12, 3) := by decide +kernel
theorem dX5_humAt_25 : decode cX5_humAt 25 = .ok (.aload_n 0, 1) := by decide +kernel
theorem dX5_humAt_26 : decode cX5_humAt 26 = .ok (.getfield 18, 3) := by decide +kernel
theorem dX5_humAt_29 : decode cX5_humAt 29 = .ok (.iload_n 3, 1) := by decide +kernel
theorem dX5_humAt_30 : decode cX5_humAt 30 = .ok (.imul, 1) := by decide +kernel
theorem dX5_humAt_31 : decode cX5_humAt 31 = .ok (.iload_n 2, 1) := by decide +kernel
theorem dX5_humAt_32 : decode cX5_humAt 32 = .ok (.idiv, 1) := by decide +kernel
theorem dX5_humAt_33 : decode cX5_humAt 33 = .ok (.ireturn, 1) := by decide +kernel
theorem dX5_humAt_34 : decode cX5_humAt 34 = .ok (.iload_n 3, 1) := by decide +kernel
theorem dX5_humAt_35 : decode cX5_humAt 35 = .ok (.iconst 3, 1) := by decide +kernel
theorem dX5_humAt_36 : decode cX5_humAt 36 = .ok (.iload_n 2, 1) := by decide +kernel
theorem dX5_humAt_37 : decode cX5_humAt 37 = .ok (.imul, 1) := by decide +kernel
theorem dX5_humAt_38 : decode cX5_humAt 38 = .ok (.if_icmp .ge 16, 3) := by decide +kernel
theorem dX5_humAt_41 : decode cX5_humAt 41 = .ok (.aload_n 0, 1) := by decide +kernel
theorem dX5_humAt_42 : decode cX5_humAt 42 = .ok (.getfield 18, 3) := by decide +kernel
theorem dX5_humAt_45 : decode cX5_humAt 45 = .ok (.iconst 2, 1) := by decide +kernel
theorem dX5_humAt_46 : decode cX5_humAt 46 = .ok (.iload_n 2, 1) := by decide +kernel
theorem dX5_humAt_47 : decode cX5_humAt 47 = .ok (.imul, 1) := by decide +kernel
theorem dX5_humAt_48 : decode cX5_humAt 48 = .ok (.iload_n 3, 1) := by decide +kernel
theorem dX5_humAt_49 : decode cX5_humAt 49 = .ok (.isub, 1) := by decide +kernel
theorem dX5_humAt_50 : decode cX5_humAt 50 = .ok (.imul, 1) := by decide +kernel
theorem dX5_humAt_51 : decode cX5_humAt 51 = .ok (.iload_n 2, 1) := by decide +kernel
theorem dX5_humAt_52 : decode cX5_humAt 52 = .ok (.idiv, 1) := by decide +kernel
theorem dX5_humAt_53 : decode cX5_humAt 53 = .ok (.ireturn, 1) := by decide +kernel
theorem dX5_humAt_54 : decode cX5_humAt 54 = .ok (.aload_n 0, 1) := by decide +kernel
theorem dX5_humAt_55 : decode cX5_humAt 55 = .ok (.getfield 18, 3) := by decide +kernel
theorem dX5_humAt_58 : decode cX5_humAt 58 = .ok (.iload_n 3, 1) := by decide +kernel
theorem dX5_humAt_59 : decode cX5_humAt 59 = .ok (.iconst 4, 1) := by decide +kernel
theorem dX5_humAt_60 : decode cX5_humAt 60 = .ok (.iload_n 2, 1) := by decide +kernel
theorem dX5_humAt_61 : decode cX5_humAt 61 = .ok (.imul, 1) := by decide +kernel
theorem dX5_humAt_62 : decode cX5_humAt 62 = .ok (.isub, 1) := by decide +kernel
theorem dX5_humAt_63 : decode cX5_humAt 63 = .ok (.imul, 1) := by decide +kernel
theorem dX5_humAt_64 : decode cX5_humAt 64 = .ok (.iload_n 2, 1) := by decide +kernel
theorem dX5_humAt_65 : decode cX5_humAt 65 = .ok (.idiv, 1) := by decide +kernel
theorem dX5_humAt_66 : decode cX5_humAt 66 = .ok (.ireturn, 1) := by decide +kernel
abbrev csX5_inputAt : List (List Cond) := [[.code yX5_inputAt cX5_inputAt 3 (some .long)], [.fieldLink RX5 15 "SlopeMeter$Signal" "level" "I", .constantLong RX5 31 (2500000), .methodLink RX5 27 yX5_humAt, .instanceMethod yX5_humAt, .selects RX5 yX5_humAt yX5_humAt, .initialized RX5, .code yX5_humAt cX5_humAt 4 (some .int), .fieldLink RX5 9 "SlopeMeter$Signal" "period" "I", .fieldLink RX5 18 "SlopeMeter$Signal" "amplitude" "I", .static yX7_limited, .initialized RX7, .code yX7_limited cX7_limited 4 (some .long)], wsX50]
set_option maxRecDepth 20000 in
theorem hbX5_inputAt : wsX5_inputAt = csX5_inputAt.flatten := rfl
set_option maxRecDepth 20000 in
theorem ggX5_inputAt_X5_humAt : GoodIn wsX5_inputAt wsX5_humAt := goodIn_c csX5_inputAt hbX5_inputAt _ [(1, 6), (1, 7), (1, 8), (2, 0), (2, 1), (2, 2), (2, 3), (2, 4)] rfl (by decide +kernel)
set_option maxRecDepth 20000 in
theorem gX5_inputAt_X5_humAt : GoodIn wsX5_inputAt (wsV RX5 27 RX5 yX5_humAt wsX5_humAt) := goodIn_app (goodIn_c csX5_inputAt hbX5_inputAt [.methodLink RX5 27 yX5_humAt, .instanceMethod yX5_humAt, .selects RX5 yX5_humAt yX5_humAt, .initialized RX5] [(1, 2), (1, 3), (1, 4), (1, 5)] rfl (by decide +kernel)) ggX5_inputAt_X5_humAt
set_option maxRecDepth 20000 in
theorem ggX5_inputAt_X7_limited : GoodIn wsX5_inputAt wsX7_limited := goodIn_c csX5_inputAt hbX5_inputAt _ [(1, 11)] rfl (by decide +kernel)
set_option maxRecDepth 20000 in
theorem gX5_inputAt_X7_limited_n33 : GoodIn wsX5_inputAt (wsX7_limited) := ggX5_inputAt_X7_limited
theorem dX5_inputAt_0 : decode cX5_inputAt 0 = .ok (.aload_n 0, 1) := by decide +kernel
theorem dX5_inputAt_1 : decode cX5_inputAt 1 = .ok (.getfield 15, 3) := by decide +kernel
theorem dX5_inputAt_4 : decode cX5_inputAt 4 = .ok (.aload_n 0, 1) := by decide +kernel
theorem dX5_inputAt_5 : decode cX5_inputAt 5 = .ok (.iload_n 1, 1) := by decide +kernel
theorem dX5_inputAt_6 : decode cX5_inputAt 6 = .ok (.invokevirtual 27, 3) := by decide +kernel
theorem dX5_inputAt_9 : decode cX5_inputAt 9 = .ok (.iadd, 1) := by decide +kernel
theorem dX5_inputAt_10 : decode cX5_inputAt 10 = .ok (.i2l, 1) := by decide +kernel
theorem dX5_inputAt_11 : decode cX5_inputAt 11 = .ok (.iload_n 2, 1) := by decide +kernel
theorem dX5_inputAt_12 : decode cX5_inputAt 12 = .ok (.i2l, 1) := by decide +kernel
theorem dX5_inputAt_13 : decode cX5_inputAt 13 = .ok (.lmul, 1) := by decide +kernel
theorem dX5_inputAt_14 : decode cX5_inputAt 14 = .ok (.ldc2_w 31, 3) := by decide +kernel
theorem dX5_inputAt_17 : decode cX5_inputAt 17 = .ok (.invokestatic 33, 3) := by decide +kernel
theorem dX5_inputAt_20 : decode cX5_inputAt 20 = .ok (.lreturn, 1) := by decide +kernel
abbrev csX5_offsetAt : List (List Cond) := [[.code yX5_offsetAt cX5_offsetAt 2 (some .long)], [.fieldLink RX5 21 "SlopeMeter$Signal" "bias" "I", .fieldLink RX5 24 "SlopeMeter$Signal" "drift" "I", .constantLong RX5 37 (1000), .constantLong RX5 39 (500000), .static yX7_limited, .initialized RX7, .code yX7_limited cX7_limited 4 (some .long)], wsX50]
set_option maxRecDepth 20000 in
theorem hbX5_offsetAt : wsX5_offsetAt = csX5_offsetAt.flatten := rfl
set_option maxRecDepth 20000 in
theorem ggX5_offsetAt_X7_limited : GoodIn wsX5_offsetAt wsX7_limited := goodIn_c csX5_offsetAt hbX5_offsetAt _ [(1, 6)] rfl (by decide +kernel)
set_option maxRecDepth 20000 in
theorem gX5_offsetAt_X7_limited_n33 : GoodIn wsX5_offsetAt (wsX7_limited) := ggX5_offsetAt_X7_limited
theorem dX5_offsetAt_0 : decode cX5_offsetAt 0 = .ok (.aload_n 0, 1) := by decide +kernel
theorem dX5_offsetAt_1 : decode cX5_offsetAt 1 = .ok (.getfield 21, 3) := by decide +kernel
theorem dX5_offsetAt_4 : decode cX5_offsetAt 4 = .ok (.i2l, 1) := by decide +kernel
theorem dX5_offsetAt_5 : decode cX5_offsetAt 5 = .ok (.aload_n 0, 1) := by decide +kernel
theorem dX5_offsetAt_6 : decode cX5_offsetAt 6 = .ok (.getfield 24, 3) := by decide +kernel
theorem dX5_offsetAt_9 : decode cX5_offsetAt 9 = .ok (.i2l, 1) := by decide +kernel
theorem dX5_offsetAt_10 : decode cX5_offsetAt 10 = .ok (.iload_n 1, 1) := by decide +kernel
theorem dX5_offsetAt_11 : decode cX5_offsetAt 11 = .ok (.i2l, 1) := by decide +kernel
theorem dX5_offsetAt_12 : decode cX5_offsetAt 12 = .ok (.lmul, 1) := by decide +kernel
theorem dX5_offsetAt_13 : decode cX5_offsetAt 13 = .ok (.ldc2_w 37, 3) := by decide +kernel
theorem dX5_offsetAt_16 : decode cX5_offsetAt 16 = .ok (.ldiv, 1) := by decide +kernel
theorem dX5_offsetAt_17 : decode cX5_offsetAt 17 = .ok (.ladd, 1) := by decide +kernel
theorem dX5_offsetAt_18 : decode cX5_offsetAt 18 = .ok (.ldc2_w 39, 3) := by decide +kernel
theorem dX5_offsetAt_21 : decode cX5_offsetAt 21 = .ok (.invokestatic 33, 3) := by decide +kernel
theorem dX5_offsetAt_24 : decode cX5_offsetAt 24 = .ok (.lreturn, 1) := by decide +kernel
abbrev csX6_init : List (List Cond) := [[.code yX6_init cX6_init 1 none], wsX6_init_r1, wsX6_init_r2, wsX20, wsX60, wsX10, wsX50, wsX40, wsX00]
set_option maxRecDepth 20000 in
theorem hbX6_init : wsX6_init = csX6_init.flatten := rfl
set_option maxRecDepth 20000 in
theorem ggX6_init_X2_init : GoodIn wsX6_init wsX2_init := goodIn_c csX6_init hbX6_init _ [(1, 12), (1, 13), (1, 1), (1, 2), (1, 14), (1, 15), (1, 16), (1, 17), (1, 18), (1, 19), (1, 20), (1, 21), (1, 22), (1, 23), (2, 0), (2, 1), (2, 2), (2, 3), (2, 4), (2, 5), (2, 6), (2, 7), (2, 8), (2, 9), (2, 10), (2, 11), (2, 12), (2, 13), (2, 14), (6, 0), (6, 1), (6, 2), (6, 3), (6, 4), (3, 0), (3, 1), (3, 2), (3, 3), (3, 4), (3, 5), (3, 6), (3, 7), (3, 8), (7, 0), (7, 1), (7, 2), (7, 3), (7, 4), (7, 5), (8, 0), (8, 1), (8, 2), (8, 3), (8, 4), (8, 5), (8, 6), (8, 7), (8, 8)] rfl (by decide +kernel)
set_option maxRecDepth 20000 in
theorem gX6_init_X2_init_n9 : GoodIn wsX6_init (wsX2_init) := ggX6_init_X2_init
set_option maxRecDepth 20000 in
theorem ggX6_init_X1_init : GoodIn wsX6_init wsX1_init := goodIn_c csX6_init hbX6_init _ [(2, 16), (2, 17), (1, 1), (1, 2), (2, 18), (2, 19), (5, 0), (5, 1)] rfl (by decide +kernel)
set_option maxRecDepth 20000 in
theorem gX6_init_X1_init_n18 : GoodIn wsX6_init (wsX1_init) := ggX6_init_X1_init
theorem dX6_init_0 : decode cX6_init 0 = .ok (.aload_n 0, 1) := by decide +kernel
theorem dX6_init_1 : decode cX6_init 1 = .ok (.invokespecial 1, 3) := by decide +kernel
theorem dX6_init_4 : decode cX6_init 4 = .ok (.aload_n 0, 1) := by decide +kernel
theorem dX6_init_5 : decode cX6_init 5 = .ok (.new 7, 3) := by decide +kernel
theorem dX6_init_8 : decode cX6_init 8 = .ok (.dup, 1) := by decide +kernel
theorem dX6_init_9 : decode cX6_init 9 = .ok (.invokespecial 9, 3) := by decide +kernel
theorem dX6_init_12 : decode cX6_init 12 = .ok (.putfield 10, 3) := by decide +kernel
theorem dX6_init_15 : decode cX6_init 15 = .ok (.aload_n 0, 1) := by decide +kernel
theorem dX6_init_16 : decode cX6_init 16 = .ok (.new 16, 3) := by decide +kernel
theorem dX6_init_19 : decode cX6_init 19 = .ok (.dup, 1) := by decide +kernel
theorem dX6_init_20 : decode cX6_init 20 = .ok (.invokespecial 18, 3) := by decide +kernel
theorem dX6_init_23 : decode cX6_init 23 = .ok (.putfield 19, 3) := by decide +kernel
theorem dX6_init_26 : decode cX6_init 26 = .ok (.return_, 1) := by decide +kernel
abbrev csX6_copyFrom : List (List Cond) := [[.code yX6_copyFrom cX6_copyFrom 2 none], wsX6_copyFrom_r1, wsX6_copyFrom_r2, wsX6_copyFrom_r3, wsX60, wsX20, wsX50, wsX40, wsX00, wsX10]
set_option maxRecDepth 20000 in
theorem hbX6_copyFrom : wsX6_copyFrom = csX6_copyFrom.flatten := rfl
set_option maxRecDepth 20000 in
theorem ggX6_copyFrom_X2_copyFrom : GoodIn wsX6_copyFrom wsX2_copyFrom := goodIn_c csX6_copyFrom hbX6_copyFrom _ [(1, 6), (1, 7), (1, 8), (1, 9), (1, 10), (1, 11), (1, 12), (1, 13), (1, 14), (1, 15), (1, 16), (1, 17), (1, 18), (1, 19), (1, 20), (1, 21), (1, 22), (1, 23), (2, 0), (2, 1), (2, 2), (2, 3), (2, 4), (2, 5), (2, 6), (2, 7), (2, 8), (2, 9), (2, 10), (2, 11), (2, 12), (2, 13), (2, 14), (2, 15), (2, 16), (2, 17), (2, 18), (2, 19), (2, 20), (2, 21), (2, 22), (2, 23), (3, 0), (3, 1), (3, 2), (5, 0), (5, 1), (5, 2), (5, 3), (5, 4), (5, 5), (5, 6), (5, 7), (5, 8), (6, 0), (6, 1), (6, 2), (6, 3), (6, 4), (7, 0), (7, 1), (7, 2), (7, 3), (7, 4), (7, 5), (8, 0), (8, 1), (8, 2), (8, 3), (8, 4), (8, 5), (8, 6), (8, 7), (8, 8)] rfl (by decide +kernel)
set_option maxRecDepth 20000 in
theorem gX6_copyFrom_X2_copyFrom : GoodIn wsX6_copyFrom (wsV RX6 23 RX2 yX2_copyFrom wsX2_copyFrom) := goodIn_app (goodIn_c csX6_copyFrom hbX6_copyFrom [.methodLink RX6 23 yX2_copyFrom, .instanceMethod yX2_copyFrom, .selects RX2 yX2_copyFrom yX2_copyFrom, .initialized RX2] [(1, 2), (1, 3), (1, 4), (1, 5)] rfl (by decide +kernel)) ggX6_copyFrom_X2_copyFrom
set_option maxRecDepth 20000 in
theorem ggX6_copyFrom_X1_copyFrom : GoodIn wsX6_copyFrom wsX1_copyFrom := goodIn_c csX6_copyFrom hbX6_copyFrom _ [(3, 7), (3, 8), (3, 9), (3, 10), (3, 11), (3, 12), (3, 13), (3, 14), (3, 15), (3, 16), (3, 17), (9, 0), (9, 1)] rfl (by decide +kernel)
set_option maxRecDepth 20000 in
theorem gX6_copyFrom_X1_copyFrom : GoodIn wsX6_copyFrom (wsV RX6 27 RX1 yX1_copyFrom wsX1_copyFrom) := goodIn_app (goodIn_c csX6_copyFrom hbX6_copyFrom [.methodLink RX6 27 yX1_copyFrom, .instanceMethod yX1_copyFrom, .selects RX1 yX1_copyFrom yX1_copyFrom, .initialized RX1] [(3, 3), (3, 4), (3, 5), (3, 6)] rfl (by decide +kernel)) ggX6_copyFrom_X1_copyFrom
theorem dX6_copyFrom_0 : decode cX6_copyFrom 0 = .ok (.aload_n 0, 1) := by decide +kernel
theorem dX6_copyFrom_1 : decode cX6_copyFrom 1 = .ok (.getfield 10, 3) := by decide +kernel
theorem dX6_copyFrom_4 : decode cX6_copyFrom 4 = .ok (.aload_n 1, 1) := by decide +kernel
theorem dX6_copyFrom_5 : decode cX6_copyFrom 5 = .ok (.getfield 10, 3) := by decide +kernel
theorem dX6_copyFrom_8 : decode cX6_copyFrom 8 = .ok (.invokevirtual 23, 3) := by decide +kernel
theorem dX6_copyFrom_11 : decode cX6_copyFrom 11 = .ok (.aload_n 0, 1) := by decide +kernel
theorem dX6_copyFrom_12 : decode cX6_copyFrom 12 = .ok (.getfield 19, 3) := by decide +kernel
theorem dX6_copyFrom_15 : decode cX6_copyFrom 15 = .ok (.aload_n 1, 1) := by decide +kernel
theorem dX6_copyFrom_16 : decode cX6_copyFrom 16 = .ok (.getfield 19, 3) := by decide +kernel
theorem dX6_copyFrom_19 : decode cX6_copyFrom 19 = .ok (.invokevirtual 27, 3) := by decide +kernel
theorem dX6_copyFrom_22 : decode cX6_copyFrom 22 = .ok (.return_, 1) := by decide +kernel
abbrev csX6_makeReading : List (List Cond) := [[.code yX6_makeReading cX6_makeReading 3 (some .long)], wsX6_makeReading_r1, wsX6_makeReading_r2, wsX6_makeReading_r3, wsX6_makeReading_r4, wsX6_makeReading_r5, wsX6_makeReading_r6, wsX60, wsX20, wsX40, wsX00, wsX50, wsX10]
set_option maxRecDepth 20000 in
theorem hbX6_makeReading : wsX6_makeReading = csX6_makeReading.flatten := rfl
set_option maxRecDepth 20000 in
theorem ggX6_makeReading_X2_makeReading : GoodIn wsX6_makeReading wsX2_makeReading := goodIn_c csX6_makeReading hbX6_makeReading _ [(1, 6), (1, 7), (1, 8), (1, 9), (1, 10), (1, 11), (1, 12), (1, 13), (1, 14), (1, 15), (1, 16), (1, 17), (1, 18), (1, 19), (1, 20), (1, 21), (1, 22), (1, 23), (1, 5), (2, 0), (2, 1), (2, 2), (2, 3), (2, 4), (2, 5), (2, 6), (2, 7), (2, 8), (2, 9), (2, 10), (2, 11), (2, 12), (2, 13), (2, 14), (2, 15), (2, 16), (2, 17), (2, 18), (2, 19), (2, 20), (2, 21), (2, 22), (2, 23), (3, 0), (3, 1), (3, 2), (3, 3), (3, 4), (3, 5), (3, 6), (3, 7), (3, 8), (3, 9), (3, 10), (3, 11), (3, 12), (3, 13), (3, 14), (3, 15), (3, 16), (3, 17), (3, 18), (3, 19), (3, 20), (3, 21), (3, 22), (3, 23), (4, 0), (4, 1), (4, 2), (4, 3), (4, 4), (4, 5), (4, 6), (4, 7), (4, 8), (4, 9), (4, 10), (4, 11), (4, 12), (4, 13), (4, 14), (4, 15), (4, 16), (4, 17), (4, 18), (4, 19), (4, 20), (4, 21), (4, 22), (4, 23), (5, 0), (5, 1), (5, 2), (5, 3), (5, 4), (5, 5), (5, 6), (5, 7), (5, 8), (5, 9), (5, 10), (5, 11), (5, 12), (5, 13), (5, 14), (5, 15), (5, 16), (5, 17), (8, 0), (8, 1), (8, 2), (8, 3), (8, 4), (8, 5), (8, 6), (8, 7), (8, 8), (9, 0), (9, 1), (9, 2), (9, 3), (9, 4), (9, 5), (10, 0), (10, 1), (10, 2), (10, 3), (10, 4), (10, 5), (10, 6), (10, 7), (10, 8), (11, 0), (11, 1), (11, 2), (11, 3), (11, 4)] rfl (by decide +kernel)
set_option maxRecDepth 20000 in
theorem gX6_makeReading_X2_makeReading : GoodIn wsX6_makeReading (wsV RX6 30 RX2 yX2_makeReading wsX2_makeReading) := goodIn_app (goodIn_c csX6_makeReading hbX6_makeReading [.methodLink RX6 30 yX2_makeReading, .instanceMethod yX2_makeReading, .selects RX2 yX2_makeReading yX2_makeReading, .initialized RX2] [(1, 2), (1, 3), (1, 4), (1, 5)] rfl (by decide +kernel)) ggX6_makeReading_X2_makeReading
set_option maxRecDepth 20000 in
theorem ggX6_makeReading_X1_add : GoodIn wsX6_makeReading wsX1_add := goodIn_c csX6_makeReading hbX6_makeReading _ [(5, 22), (5, 23), (6, 0), (6, 1), (6, 2), (6, 3), (6, 4), (6, 5), (6, 6), (6, 7), (6, 8), (6, 9), (5, 21), (6, 10), (6, 11), (6, 12), (6, 13), (6, 14), (6, 15), (6, 16), (6, 17), (6, 18), (8, 0), (8, 1), (8, 2), (8, 3), (8, 4), (8, 5), (8, 6), (8, 7), (8, 8), (10, 0), (10, 1), (10, 2), (10, 3), (10, 4), (10, 5), (10, 6), (10, 7), (10, 8), (12, 0), (12, 1)] rfl (by decide +kernel)
set_option maxRecDepth 20000 in
theorem gX6_makeReading_X1_add : GoodIn wsX6_makeReading (wsV RX6 34 RX1 yX1_add wsX1_add) := goodIn_app (goodIn_c csX6_makeReading hbX6_makeReading [.methodLink RX6 34 yX1_add, .instanceMethod yX1_add, .selects RX1 yX1_add yX1_add, .initialized RX1] [(5, 18), (5, 19), (5, 20), (5, 21)] rfl (by decide +kernel)) ggX6_makeReading_X1_add
theorem dX6_makeReading_0 : decode cX6_makeReading 0 = .ok (.aload_n 0, 1) := by decide +kernel
theorem dX6_makeReading_1 : decode cX6_makeReading 1 = .ok (.getfield 10, 3) := by decide +kernel
theorem dX6_makeReading_4 : decode cX6_makeReading 4 = .ok (.invokevirtual 30, 3) := by decide +kernel
theorem dX6_makeReading_7 : decode cX6_makeReading 7 = .ok (.lstore_n 1, 1) := by decide +kernel
theorem dX6_makeReading_8 : decode cX6_makeReading 8 = .ok (.aload_n 0, 1) := by decide +kernel
theorem dX6_makeReading_9 : decode cX6_makeReading 9 = .ok (.getfield 19, 3) := by decide +kernel
theorem dX6_makeReading_12 : decode cX6_makeReading 12 = .ok (.lload_n 1, 1) := by decide +kernel
theorem dX6_makeReading_13 : decode cX6_makeReading 13 = .ok (.aload_n 0, 1) := by decide +kernel
theorem dX6_makeReading_14 : decode cX6_makeReading 14 = .ok (.getfield 10, 3) := by decide +kernel
theorem dX6_makeReading_17 : decode cX6_makeReading 17 = .ok (.invokevirtual 34, 3) := by decide +kernel
theorem dX6_makeReading_20 : decode cX6_makeReading 20 = .ok (.lload_n 1, 1) := by decide +kernel
theorem dX6_makeReading_21 : decode cX6_makeReading 21 = .ok (.lreturn, 1) := by decide +kernel
/-! END c -/
