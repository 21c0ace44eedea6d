theorem dX0_init_0 : decode cX0_init 0 = .ok (.aload_n 0, 1) := by decide +kernel
theorem dX0_init_1 : decode cX0_init 1 = .ok (.invokespecial 3, 3) := by decide +kernel
theorem dX0_init_4 : decode cX0_init 4 = .ok (.return_, 1) := by decide +kernel
theorem dX0_copyFrom_0 : decode cX0_copyFrom 0 = .ok (.aload_n 0, 1) := by decide +kernel
theorem dX0_copyFrom_1 : decode cX0_copyFrom 1 = .ok (.aload_n 1, 1) := by decide +kernel
theorem dX0_copyFrom_2 : decode cX0_copyFrom 2 = .ok (.getfield 9, 3) := by decide +kernel
theorem dX0_copyFrom_5 : decode cX0_copyFrom 5 = .ok (.putfield 9, 3) := by decide +kernel
theorem dX0_copyFrom_8 : decode cX0_copyFrom 8 = .ok (.aload_n 0, 1) := by decide +kernel
theorem dX0_copyFrom_9 : decode cX0_copyFrom 9 = .ok (.aload_n 1, 1) := by decide +kernel
theorem dX0_copyFrom_10 : decode cX0_copyFrom 10 = .ok (.getfield 15, 3) := by decide +kernel
theorem dX0_copyFrom_13 : decode cX0_copyFrom 13 = .ok (.putfield 15, 3) := by decide +kernel
theorem dX0_copyFrom_16 : decode cX0_copyFrom 16 = .ok (.aload_n 0, 1) := by decide +kernel
theorem dX0_copyFrom_17 : decode cX0_copyFrom 17 = .ok (.aload_n 1, 1) := by decide +kernel
theorem dX0_copyFrom_18 : decode cX0_copyFrom 18 = .ok (.getfield 18, 3) := by decide +kernel
theorem dX0_copyFrom_21 : decode cX0_copyFrom 21 = .ok (.putfield 18, 3) := by decide +kernel
theorem dX0_copyFrom_24 : decode cX0_copyFrom 24 = .ok (.aload_n 0, 1) := by decide +kernel
theorem dX0_copyFrom_25 : decode cX0_copyFrom 25 = .ok (.aload_n 1, 1) := by decide +kernel
theorem dX0_copyFrom_26 : decode cX0_copyFrom 26 = .ok (.getfield 22, 3) := by decide +kernel
theorem dX0_copyFrom_29 : decode cX0_copyFrom 29 = .ok (.putfield 22, 3) := by decide +kernel
theorem dX0_copyFrom_32 : decode cX0_copyFrom 32 = .ok (.aload_n 0, 1) := by decide +kernel
theorem dX0_copyFrom_33 : decode cX0_copyFrom 33 = .ok (.aload_n 1, 1) := by decide +kernel
theorem dX0_copyFrom_34 : decode cX0_copyFrom 34 = .ok (.getfield 25, 3) := by decide +kernel
theorem dX0_copyFrom_37 : decode cX0_copyFrom 37 = .ok (.putfield 25, 3) := by decide +kernel
theorem dX0_copyFrom_40 : decode cX0_copyFrom 40 = .ok (.aload_n 0, 1) := by decide +kernel
theorem dX0_copyFrom_41 : decode cX0_copyFrom 41 = .ok (.aload_n 1, 1) := by decide +kernel
theorem dX0_copyFrom_42 : decode cX0_copyFrom 42 = .ok (.getfield 28, 3) := by decide +kernel
theorem dX0_copyFrom_45 : decode cX0_copyFrom 45 = .ok (.putfield 28, 3) := by decide +kernel
theorem dX0_copyFrom_48 : decode cX0_copyFrom 48 = .ok (.aload_n 0, 1) := by decide +kernel
theorem dX0_copyFrom_49 : decode cX0_copyFrom 49 = .ok (.aload_n 1, 1) := by decide +kernel
theorem dX0_copyFrom_50 : decode cX0_copyFrom 50 = .ok (.getfield 31, 3) := by decide +kernel
theorem dX0_copyFrom_53 : decode cX0_copyFrom 53 = .ok (.putfield 31, 3) := by decide +kernel
theorem dX0_copyFrom_56 : decode cX0_copyFrom 56 = .ok (.aload_n 0, 1) := by decide +kernel
theorem dX0_copyFrom_57 : decode cX0_copyFrom 57 = .ok (.aload_n 1, 1) := by decide +kernel
theorem dX0_copyFrom_58 : decode cX0_copyFrom 58 = .ok (.getfield 34, 3) := by decide +kernel
theorem dX0_copyFrom_61 : decode cX0_copyFrom 61 = .ok (.putfield 34, 3) := by decide +kernel
theorem dX0_copyFrom_64 : decode cX0_copyFrom 64 = .ok (.aload_n 0, 1) := by decide +kernel
theorem dX0_copyFrom_65 : decode cX0_copyFrom 65 = .ok (.aload_n 1, 1) := by decide +kernel
theorem dX0_copyFrom_66 : decode cX0_copyFrom 66 = .ok (.getfield 38, 3) := by decide +kernel
theorem dX0_copyFrom_69 : decode cX0_copyFrom 69 = .ok (.putfield 38, 3) := by decide +kernel
theorem dX0_copyFrom_72 : decode cX0_copyFrom 72 = .ok (.return_, 1) := by decide +kernel
theorem dX0_begin_0 : decode cX0_begin 0 = .ok (.aload_n 0, 1) := by decide +kernel
theorem dX0_begin_1 : decode cX0_begin 1 = .ok (.iconst 1, 1) := by decide +kernel
theorem dX0_begin_2 : decode cX0_begin 2 = .ok (.putfield 9, 3) := by decide +kernel
theorem dX0_begin_5 : decode cX0_begin 5 = .ok (.aload_n 0, 1) := by decide +kernel
theorem dX0_begin_6 : decode cX0_begin 6 = .ok (.iconst 0, 1) := by decide +kernel
theorem dX0_begin_7 : decode cX0_begin 7 = .ok (.putfield 22, 3) := by decide +kernel
theorem dX0_begin_10 : decode cX0_begin 10 = .ok (.aload_n 0, 1) := by decide +kernel
theorem dX0_begin_11 : decode cX0_begin 11 = .ok (.iconst 0, 1) := by decide +kernel
theorem dX0_begin_12 : decode cX0_begin 12 = .ok (.putfield 25, 3) := by decide +kernel
theorem dX0_begin_15 : decode cX0_begin 15 = .ok (.aload_n 0, 1) := by decide +kernel
theorem dX0_begin_16 : decode cX0_begin 16 = .ok (.iconst 0, 1) := by decide +kernel
theorem dX0_begin_17 : decode cX0_begin 17 = .ok (.putfield 28, 3) := by decide +kernel
theorem dX0_begin_20 : decode cX0_begin 20 = .ok (.aload_n 0, 1) := by decide +kernel
theorem dX0_begin_21 : decode cX0_begin 21 = .ok (.iconst 0, 1) := by decide +kernel
theorem dX0_begin_22 : decode cX0_begin 22 = .ok (.putfield 31, 3) := by decide +kernel
theorem dX0_begin_25 : decode cX0_begin 25 = .ok (.aload_n 0, 1) := by decide +kernel
theorem dX0_begin_26 : decode cX0_begin 26 = .ok (.lconst 0, 1) := by decide +kernel
theorem dX0_begin_27 : decode cX0_begin 27 = .ok (.putfield 34, 3) := by decide +kernel
theorem dX0_begin_30 : decode cX0_begin 30 = .ok (.aload_n 0, 1) := by decide +kernel
theorem dX0_begin_31 : decode cX0_begin 31 = .ok (.lconst 0, 1) := by decide +kernel
theorem dX0_begin_32 : decode cX0_begin 32 = .ok (.putfield 38, 3) := by decide +kernel
theorem dX0_begin_35 : decode cX0_begin 35 = .ok (.return_, 1) := by decide +kernel
theorem dX0_sign_0 : decode cX0_sign 0 = .ok (.aload_n 0, 1) := by decide +kernel
theorem dX0_sign_1 : decode cX0_sign 1 = .ok (.getfield 38, 3) := by decide +kernel
theorem dX0_sign_4 : decode cX0_sign 4 = .ok (.lconst 0, 1) := by decide +kernel
theorem dX0_sign_5 : decode cX0_sign 5 = .ok (.lcmp, 1) := by decide +kernel
theorem dX0_sign_6 : decode cX0_sign 6 = .ok (.ifCond .le 5, 3) := by decide +kernel
theorem dX0_sign_9 : decode cX0_sign 9 = .ok (.iconst 1, 1) := by decide +kernel
theorem dX0_sign_10 : decode cX0_sign 10 = .ok (.ireturn, 1) := by decide +kernel
theorem dX0_sign_11 : decode cX0_sign 11 = .ok (.aload_n 0, 1) := by decide +kernel
theorem dX0_sign_12 : decode cX0_sign 12 = .ok (.getfield 38, 3) := by decide +kernel
theorem dX0_sign_15 : decode cX0_sign 15 = .ok (.lconst 0, 1) := by decide +kernel
theorem dX0_sign_16 : decode cX0_sign 16 = .ok (.lcmp, 1) := by decide +kernel
theorem dX0_sign_17 : decode cX0_sign 17 = .ok (.ifCond .ge 7, 3) := by decide +kernel
theorem dX0_sign_20 : decode cX0_sign 20 = .ok (.iconst (-1), 1) := by decide +kernel
theorem dX0_sign_21 : decode cX0_sign 21 = .ok (.goto 4, 3) := by decide +kernel
theorem dX0_sign_24 : decode cX0_sign 24 = .ok (.iconst 0, 1) := by decide +kernel
theorem dX0_sign_25 : decode cX0_sign 25 = .ok (.ireturn, 1) := by decide +kernel
theorem dX0_tick_0 : decode cX0_tick 0 = .ok (.aload_n 0, 1) := by decide +kernel
theorem dX0_tick_1 : decode cX0_tick 1 = .ok (.dup, 1) := by decide +kernel
theorem dX0_tick_2 : decode cX0_tick 2 = .ok (.getfield 38, 3) := by decide +kernel
theorem dX0_tick_5 : decode cX0_tick 5 = .ok (.lload_n 1, 1) := by decide +kernel
theorem dX0_tick_6 : decode cX0_tick 6 = .ok (.ladd, 1) := by decide +kernel
theorem dX0_tick_7 : decode cX0_tick 7 = .ok (.putfield 38, 3) := by decide +kernel
theorem dX0_tick_10 : decode cX0_tick 10 = .ok (.aload_n 0, 1) := by decide +kernel
theorem dX0_tick_11 : decode cX0_tick 11 = .ok (.getfield 38, 3) := by decide +kernel
theorem dX0_tick_14 : decode cX0_tick 14 = .ok (.lconst 0, 1) := by decide +kernel
theorem dX0_tick_15 : decode cX0_tick 15 = .ok (.lcmp, 1) := by decide +kernel
theorem dX0_tick_16 : decode cX0_tick 16 = .ok (.ifCond .ge 11, 3) := by decide +kernel
theorem dX0_tick_19 : decode cX0_tick 19 = .ok (.aload_n 0, 1) := by decide +kernel
theorem dX0_tick_20 : decode cX0_tick 20 = .ok (.getfield 38, 3) := by decide +kernel
theorem dX0_tick_23 : decode cX0_tick 23 = .ok (.lneg, 1) := by decide +kernel
theorem dX0_tick_24 : decode cX0_tick 24 = .ok (.goto 7, 3) := by decide +kernel
theorem dX0_tick_27 : decode cX0_tick 27 = .ok (.aload_n 0, 1) := by decide +kernel
theorem dX0_tick_28 : decode cX0_tick 28 = .ok (.getfield 38, 3) := by decide +kernel
theorem dX0_tick_31 : decode cX0_tick 31 = .ok (.lstore_n 3, 1) := by decide +kernel
theorem dX0_tick_32 : decode cX0_tick 32 = .ok (.lload_n 3, 1) := by decide +kernel
theorem dX0_tick_33 : decode cX0_tick 33 = .ok (.aload_n 0, 1) := by decide +kernel
theorem dX0_tick_34 : decode cX0_tick 34 = .ok (.getfield 34, 3) := by decide +kernel
theorem dX0_tick_37 : decode cX0_tick 37 = .ok (.lcmp, 1) := by decide +kernel
theorem dX0_tick_38 : decode cX0_tick 38 = .ok (.ifCond .le 8, 3) := by decide +kernel
theorem dX0_tick_41 : decode cX0_tick 41 = .ok (.aload_n 0, 1) := by decide +kernel
theorem dX0_tick_42 : decode cX0_tick 42 = .ok (.lload_n 3, 1) := by decide +kernel
theorem dX0_tick_43 : decode cX0_tick 43 = .ok (.putfield 34, 3) := by decide +kernel
theorem dX0_tick_46 : decode cX0_tick 46 = .ok (.return_, 1) := by decide +kernel
abbrev csX0_runUp : List (List Cond) := [[.code yX0_runUp cX0_runUp 4 none], [.fieldLink RX0 31 "SlopeMeter$Conversion" "addedTicks" "I", .fieldLink RX0 28 "SlopeMeter$Conversion" "subtractedTicks" "I", .constantLong RX0 41 (1048576), .methodLink RX0 43 yX0_tick, .instanceMethod yX0_tick, .selects RX0 yX0_tick yX0_tick, .initialized RX0, .code yX0_tick cX0_tick 5 none, .fieldLink RX0 38 "SlopeMeter$Conversion" "integral" "J", .fieldLink RX0 34 "SlopeMeter$Conversion" "peak" "J"], wsX00]
set_option maxRecDepth 20000 in
theorem hbX0_runUp : wsX0_runUp = csX0_runUp.flatten := rfl
set_option maxRecDepth 20000 in
theorem ggX0_runUp_X0_tick : GoodIn wsX0_runUp wsX0_tick := goodIn_c csX0_runUp hbX0_runUp _ [(1, 7), (1, 8), (1, 9), (2, 0), (2, 1), (2, 2), (2, 3), (2, 4), (2, 5), (2, 6), (2, 7), (2, 8)] rfl (by decide +kernel)
set_option maxRecDepth 20000 in
theorem gX0_runUp_X0_tick : GoodIn wsX0_runUp (wsV RX0 43 RX0 yX0_tick wsX0_tick) := goodIn_app (goodIn_c csX0_runUp hbX0_runUp [.methodLink RX0 43 yX0_tick, .instanceMethod yX0_tick, .selects RX0 yX0_tick yX0_tick, .initialized RX0] [(1, 3), (1, 4), (1, 5), (1, 6)] rfl (by decide +kernel)) ggX0_runUp_X0_tick
theorem dX0_runUp_0 : decode cX0_runUp 0 = .ok (.iload_n 3, 1) := by decide +kernel
theorem dX0_runUp_1 : decode cX0_runUp 1 = .ok (.ifCond .le 16, 3) := by decide +kernel
theorem dX0_runUp_4 : decode cX0_runUp 4 = .ok (.aload_n 0, 1) := by decide +kernel
theorem dX0_runUp_5 : decode cX0_runUp 5 = .ok (.dup, 1) := by decide +kernel
theorem dX0_runUp_6 : decode cX0_runUp 6 = .ok (.getfield 31, 3) := by decide +kernel
theorem dX0_runUp_9 : decode cX0_runUp 9 = .ok (.iconst 1, 1) := by decide +kernel
theorem dX0_runUp_10 : decode cX0_runUp 10 = .ok (.iadd, 1) := by decide +kernel
theorem dX0_runUp_11 : decode cX0_runUp 11 = .ok (.putfield 31, 3) := by decide +kernel
theorem dX0_runUp_14 : decode cX0_runUp 14 = .ok (.goto 17, 3) := by decide +kernel
theorem dX0_runUp_17 : decode cX0_runUp 17 = .ok (.iload_n 3, 1) := by decide +kernel
theorem dX0_runUp_18 : decode cX0_runUp 18 = .ok (.ifCond .ge 13, 3) := by decide +kernel
theorem dX0_runUp_21 : decode cX0_runUp 21 = .ok (.aload_n 0, 1) := by decide +kernel
theorem dX0_runUp_22 : decode cX0_runUp 22 = .ok (.dup, 1) := by decide +kernel
theorem dX0_runUp_23 : decode cX0_runUp 23 = .ok (.getfield 28, 3) := by decide +kernel
theorem dX0_runUp_26 : decode cX0_runUp 26 = .ok (.iconst 1, 1) := by decide +kernel
theorem dX0_runUp_27 : decode cX0_runUp 27 = .ok (.iadd, 1) := by decide +kernel
theorem dX0_runUp_28 : decode cX0_runUp 28 = .ok (.putfield 28, 3) := by decide +kernel
theorem dX0_runUp_31 : decode cX0_runUp 31 = .ok (.aload_n 0, 1) := by decide +kernel
theorem dX0_runUp_32 : decode cX0_runUp 32 = .ok (.lload_n 1, 1) := by decide +kernel
theorem dX0_runUp_33 : decode cX0_runUp 33 = .ok (.iload_n 3, 1) := by decide +kernel
theorem dX0_runUp_34 : decode cX0_runUp 34 = .ok (.i2l, 1) := by decide +kernel
theorem dX0_runUp_35 : decode cX0_runUp 35 = .ok (.ldc2_w 41, 3) := by decide +kernel
theorem dX0_runUp_38 : decode cX0_runUp 38 = .ok (.lmul, 1) := by decide +kernel
theorem dX0_runUp_39 : decode cX0_runUp 39 = .ok (.ladd, 1) := by decide +kernel
theorem dX0_runUp_40 : decode cX0_runUp 40 = .ok (.invokevirtual 43, 3) := by decide +kernel
theorem dX0_runUp_43 : decode cX0_runUp 43 = .ok (.return_, 1) := by decide +kernel
abbrev csX0_runDown : List (List Cond) := [[.code yX0_runDown cX0_runDown 3 none], [.fieldLink RX0 22 "SlopeMeter$Conversion" "downTicks" "I", .constantLong RX0 41 (1048576), .fieldLink RX0 15 "SlopeMeter$Conversion" "isOver" "Z", .fieldLink RX0 25 "SlopeMeter$Conversion" "fineTicks" "I", .constantLong RX0 51 (65536), .fieldLink RX0 28 "SlopeMeter$Conversion" "subtractedTicks" "I", .fieldLink RX0 31 "SlopeMeter$Conversion" "addedTicks" "I", .fieldLink RX0 18 "SlopeMeter$Conversion" "counts" "I", .methodLink RX0 47 yX0_sign, .instanceMethod yX0_sign, .selects RX0 yX0_sign yX0_sign, .initialized RX0, .code yX0_sign cX0_sign 1 (some .int), .fieldLink RX0 38 "SlopeMeter$Conversion" "integral" "J", .methodLink RX0 43 yX0_tick, .instanceMethod yX0_tick, .selects RX0 yX0_tick yX0_tick, .code yX0_tick cX0_tick 5 none, .fieldLink RX0 34 "SlopeMeter$Conversion" "peak" "J"], wsX00]
set_option maxRecDepth 20000 in
theorem hbX0_runDown : wsX0_runDown = csX0_runDown.flatten := rfl
set_option maxRecDepth 20000 in
theorem ggX0_runDown_X0_sign : GoodIn wsX0_runDown wsX0_sign := goodIn_c csX0_runDown hbX0_runDown _ [(1, 12), (1, 13), (2, 0), (2, 1), (2, 2), (2, 3), (2, 4), (2, 5), (2, 6), (2, 7), (2, 8)] rfl (by decide +kernel)
set_option maxRecDepth 20000 in
theorem gX0_runDown_X0_sign : GoodIn wsX0_runDown (wsV RX0 47 RX0 yX0_sign wsX0_sign) := goodIn_app (goodIn_c csX0_runDown hbX0_runDown [.methodLink RX0 47 yX0_sign, .instanceMethod yX0_sign, .selects RX0 yX0_sign yX0_sign, .initialized RX0] [(1, 8), (1, 9), (1, 10), (1, 11)] rfl (by decide +kernel)) ggX0_runDown_X0_sign
set_option maxRecDepth 20000 in
theorem ggX0_runDown_X0_tick : GoodIn wsX0_runDown wsX0_tick := goodIn_c csX0_runDown hbX0_runDown _ [(1, 17), (1, 13), (1, 18), (2, 0), (2, 1), (2, 2), (2, 3), (2, 4), (2, 5), (2, 6), (2, 7), (2, 8)] rfl (by decide +kernel)
set_option maxRecDepth 20000 in
theorem gX0_runDown_X0_tick : GoodIn wsX0_runDown (wsV RX0 43 RX0 yX0_tick wsX0_tick) := goodIn_app (goodIn_c csX0_runDown hbX0_runDown [.methodLink RX0 43 yX0_tick, .instanceMethod yX0_tick, .selects RX0 yX0_tick yX0_tick, .initialized RX0] [(1, 14), (1, 15), (1, 16), (1, 11)] rfl (by decide +kernel)) ggX0_runDown_X0_tick
theorem dX0_runDown_0 : decode cX0_runDown 0 = .ok (.aload_n 0, 1) := by decide +kernel
theorem dX0_runDown_1 : decode cX0_runDown 1 = .ok (.invokevirtual 47, 3) := by decide +kernel
theorem dX0_runDown_4 : decode cX0_runDown 4 = .ok (.istore_n 2, 1) := by decide +kernel
theorem dX0_runDown_5 : decode cX0_runDown 5 = .ok (.iload_n 2, 1) := by decide +kernel
theorem dX0_runDown_6 : decode cX0_runDown 6 = .ok (.ifCond .eq 45, 3) := by decide +kernel
theorem dX0_runDown_9 : decode cX0_runDown 9 = .ok (.aload_n 0, 1) := by decide +kernel
theorem dX0_runDown_10 : decode cX0_runDown 10 = .ok (.invokevirtual 47, 3) := by decide +kernel
theorem dX0_runDown_13 : decode cX0_runDown 13 = .ok (.iload_n 2, 1) := by decide +kernel
theorem dX0_runDown_14 : decode cX0_runDown 14 = .ok (.if_icmp .ne 37, 3) := by decide +kernel
theorem dX0_runDown_17 : decode cX0_runDown 17 = .ok (.aload_n 0, 1) := by decide +kernel
theorem dX0_runDown_18 : decode cX0_runDown 18 = .ok (.getfield 22, 3) := by decide +kernel
theorem dX0_runDown_21 : decode cX0_runDown 21 = .ok (.iconst 3, 1) := by decide +kernel
theorem dX0_runDown_22 : decode cX0_runDown 22 = .ok (.iload_n 1, 1) := by decide +kernel
theorem dX0_runDown_23 : decode cX0_runDown 23 = .ok (.imul, 1) := by decide +kernel
theorem dX0_runDown_24 : decode cX0_runDown 24 = .ok (.if_icmp .ge 27, 3) := by decide +kernel
theorem dX0_runDown_27 : decode cX0_runDown 27 = .ok (.aload_n 0, 1) := by decide +kernel
theorem dX0_runDown_28 : decode cX0_runDown 28 = .ok (.iload_n 2, 1) := by decide +kernel
theorem dX0_runDown_29 : decode cX0_runDown 29 = .ok (.ineg, 1) := by decide +kernel
theorem dX0_runDown_30 : decode cX0_runDown 30 = .ok (.i2l, 1) := by decide +kernel
theorem dX0_runDown_31 : decode cX0_runDown 31 = .ok (.ldc2_w 41, 3) := by decide +kernel
theorem dX0_runDown_34 : decode cX0_runDown 34 = .ok (.lmul, 1) := by decide +kernel
theorem dX0_runDown_35 : decode cX0_runDown 35 = .ok (.invokevirtual 43, 3) := by decide +kernel
theorem dX0_runDown_38 : decode cX0_runDown 38 = .ok (.aload_n 0, 1) := by decide +kernel
theorem dX0_runDown_39 : decode cX0_runDown 39 = .ok (.dup, 1) := by decide +kernel
theorem dX0_runDown_40 : decode cX0_runDown 40 = .ok (.getfield 22, 3) := by decide +kernel
theorem dX0_runDown_43 : decode cX0_runDown 43 = .ok (.iconst 1, 1) := by decide +kernel
theorem dX0_runDown_44 : decode cX0_runDown 44 = .ok (.iadd, 1) := by decide +kernel
theorem dX0_runDown_45 : decode cX0_runDown 45 = .ok (.putfield 22, 3) := by decide +kernel
theorem dX0_runDown_48 : decode cX0_runDown 48 = .ok (.goto (-43), 3) := by decide +kernel
theorem dX0_runDown_51 : decode cX0_runDown 51 = .ok (.aload_n 0, 1) := by decide +kernel
theorem dX0_runDown_52 : decode cX0_runDown 52 = .ok (.iload_n 2, 1) := by decide +kernel
theorem dX0_runDown_53 : decode cX0_runDown 53 = .ok (.ifCond .eq 15, 3) := by decide +kernel
theorem dX0_runDown_56 : decode cX0_runDown 56 = .ok (.aload_n 0, 1) := by decide +kernel
theorem dX0_runDown_57 : decode cX0_runDown 57 = .ok (.invokevirtual 47, 3) := by decide +kernel
theorem dX0_runDown_60 : decode cX0_runDown 60 = .ok (.iload_n 2, 1) := by decide +kernel
theorem dX0_runDown_61 : decode cX0_runDown 61 = .ok (.if_icmp .ne 7, 3) := by decide +kernel
theorem dX0_runDown_64 : decode cX0_runDown 64 = .ok (.iconst 1, 1) := by decide +kernel
theorem dX0_runDown_65 : decode cX0_runDown 65 = .ok (.goto 4, 3) := by decide +kernel
theorem dX0_runDown_68 : decode cX0_runDown 68 = .ok (.iconst 0, 1) := by decide +kernel
theorem dX0_runDown_69 : decode cX0_runDown 69 = .ok (.putfield 15, 3) := by decide +kernel
theorem dX0_runDown_72 : decode cX0_runDown 72 = .ok (.iload_n 2, 1) := by decide +kernel
theorem dX0_runDown_73 : decode cX0_runDown 73 = .ok (.ifCond .eq 44, 3) := by decide +kernel
theorem dX0_runDown_76 : decode cX0_runDown 76 = .ok (.aload_n 0, 1) := by decide +kernel
theorem dX0_runDown_77 : decode cX0_runDown 77 = .ok (.invokevirtual 47, 3) := by decide +kernel
theorem dX0_runDown_80 : decode cX0_runDown 80 = .ok (.iload_n 2, 1) := by decide +kernel
theorem dX0_runDown_81 : decode cX0_runDown 81 = .ok (.ineg, 1) := by decide +kernel
theorem dX0_runDown_82 : decode cX0_runDown 82 = .ok (.if_icmp .ne 35, 3) := by decide +kernel
theorem dX0_runDown_85 : decode cX0_runDown 85 = .ok (.aload_n 0, 1) := by decide +kernel
theorem dX0_runDown_86 : decode cX0_runDown 86 = .ok (.getfield 25, 3) := by decide +kernel
theorem dX0_runDown_89 : decode cX0_runDown 89 = .ok (.bipush 16, 2) := by decide +kernel
theorem dX0_runDown_91 : decode cX0_runDown 91 = .ok (.if_icmp .ge 26, 3) := by decide +kernel
theorem dX0_runDown_94 : decode cX0_runDown 94 = .ok (.aload_n 0, 1) := by decide +kernel
theorem dX0_runDown_95 : decode cX0_runDown 95 = .ok (.iload_n 2, 1) := by decide +kernel
theorem dX0_runDown_96 : decode cX0_runDown 96 = .ok (.i2l, 1) := by decide +kernel
theorem dX0_runDown_97 : decode cX0_runDown 97 = .ok (.ldc2_w 51, 3) := by decide +kernel
theorem dX0_runDown_100 : decode cX0_runDown 100 = .ok (.lmul, 1) := by decide +kernel
theorem dX0_runDown_101 : decode cX0_runDown 101 = .ok (.invokevirtual 43, 3) := by decide +kernel
theorem dX0_runDown_104 : decode cX0_runDown 104 = .ok (.aload_n 0, 1) := by decide +kernel
theorem dX0_runDown_105 : decode cX0_runDown 105 = .ok (.dup, 1) := by decide +kernel
theorem dX0_runDown_106 : decode cX0_runDown 106 = .ok (.getfield 25, 3) := by decide +kernel
theorem dX0_runDown_109 : decode cX0_runDown 109 = .ok (.iconst 1, 1) := by decide +kernel
theorem dX0_runDown_110 : decode cX0_runDown 110 = .ok (.iadd, 1) := by decide +kernel
theorem dX0_runDown_111 : decode cX0_runDown 111 = .ok (.putfield 25, 3) := by decide +kernel
theorem dX0_runDown_114 : decode cX0_runDown 114 = .ok (.goto (-42), 3) := by decide +kernel
theorem dX0_runDown_117 : decode cX0_runDown 117 = .ok (.aload_n 0, 1) := by decide +kernel
theorem dX0_runDown_118 : decode cX0_runDown 118 = .ok (.bipush 16, 2) := by decide +kernel
theorem dX0_runDown_120 : decode cX0_runDown 120 = .ok (.aload_n 0, 1) := by decide +kernel
theorem dX0_runDown_121 : decode cX0_runDown 121 = .ok (.getfield 28, 3) := by decide +kernel
theorem dX0_runDown_124 : decode cX0_runDown 124 = .ok (.aload_n 0, 1) := by decide +kernel
theorem dX0_runDown_125 : decode cX0_runDown 125 = .ok (.getfield 31, 3) := by decide +kernel
theorem dX0_runDown_128 : decode cX0_runDown 128 = .ok (.isub, 1) := by decide +kernel
theorem dX0_runDown_129 : decode cX0_runDown 129 = .ok (.imul, 1) := by decide +kernel
theorem dX0_runDown_130 : decode cX0_runDown 130 = .ok (.iload_n 2, 1) := by decide +kernel
theorem dX0_runDown_131 : decode cX0_runDown 131 = .ok (.bipush 16, 2) := by decide +kernel
theorem dX0_runDown_133 : decode cX0_runDown 133 = .ok (.aload_n 0, 1) := by decide +kernel
theorem dX0_runDown_134 : decode cX0_runDown 134 = .ok (.getfield 22, 3) := by decide +kernel
theorem dX0_runDown_137 : decode cX0_runDown 137 = .ok (.imul, 1) := by decide +kernel
theorem dX0_runDown_138 : decode cX0_runDown 138 = .ok (.aload_n 0, 1) := by decide +kernel
theorem dX0_runDown_139 : decode cX0_runDown 139 = .ok (.getfield 25, 3) := by decide +kernel
theorem dX0_runDown_142 : decode cX0_runDown 142 = .ok (.isub, 1) := by decide +kernel
theorem dX0_runDown_143 : decode cX0_runDown 143 = .ok (.imul, 1) := by decide +kernel
theorem dX0_runDown_144 : decode cX0_runDown 144 = .ok (.iadd, 1) := by decide +kernel
theorem dX0_runDown_145 : decode cX0_runDown 145 = .ok (.putfield 18, 3) := by decide +kernel
theorem dX0_runDown_148 : decode cX0_runDown 148 = .ok (.return_, 1) := by decide +kernel
theorem dX0_numberOf_0 : decode cX0_numberOf 0 = .ok (.iload_n 1, 1) := by decide +kernel
theorem dX0_numberOf_1 : decode cX0_numberOf 1 = .ok (.tableswitch 74 0 5 #[39, 45, 51, 57, 63, 69], 39) := by decide +kernel
theorem dX0_numberOf_40 : decode cX0_numberOf 40 = .ok (.aload_n 0, 1) := by decide +kernel
theorem dX0_numberOf_41 : decode cX0_numberOf 41 = .ok (.getfield 18, 3) := by decide +kernel
theorem dX0_numberOf_44 : decode cX0_numberOf 44 = .ok (.i2l, 1) := by decide +kernel
theorem dX0_numberOf_45 : decode cX0_numberOf 45 = .ok (.lreturn, 1) := by decide +kernel
theorem dX0_numberOf_46 : decode cX0_numberOf 46 = .ok (.aload_n 0, 1) := by decide +kernel
theorem dX0_numberOf_47 : decode cX0_numberOf 47 = .ok (.getfield 22, 3) := by decide +kernel
theorem dX0_numberOf_50 : decode cX0_numberOf 50 = .ok (.i2l, 1) := by decide +kernel
theorem dX0_numberOf_51 : decode cX0_numberOf 51 = .ok (.lreturn, 1) := by decide +kernel
theorem dX0_numberOf_52 : decode cX0_numberOf 52 = .ok (.aload_n 0, 1) := by decide +kernel
theorem dX0_numberOf_53 : decode cX0_numberOf 53 = .ok (.getfield 25, 3) := by decide +kernel
theorem dX0_numberOf_56 : decode cX0_numberOf 56 = .ok (.i2l, 1) := by decide +kernel
theorem dX0_numberOf_57 : decode cX0_numberOf 57 = .ok (.lreturn, 1) := by decide +kernel
theorem dX0_numberOf_58 : decode cX0_numberOf 58 = .ok (.aload_n 0, 1) := by decide +kernel
theorem dX0_numberOf_59 : decode cX0_numberOf 59 = .ok (.getfield 28, 3) := by decide +kernel
theorem dX0_numberOf_62 : decode cX0_numberOf 62 = .ok (.i2l, 1) := by decide +kernel
theorem dX0_numberOf_63 : decode cX0_numberOf 63 = .ok (.lreturn, 1) := by decide +kernel
theorem dX0_numberOf_64 : decode cX0_numberOf 64 = .ok (.aload_n 0, 1) := by decide +kernel
theorem dX0_numberOf_65 : decode cX0_numberOf 65 = .ok (.getfield 31, 3) := by decide +kernel
theorem dX0_numberOf_68 : decode cX0_numberOf 68 = .ok (.i2l, 1) := by decide +kernel
theorem dX0_numberOf_69 : decode cX0_numberOf 69 = .ok (.lreturn, 1) := by decide +kernel
theorem dX0_numberOf_70 : decode cX0_numberOf 70 = .ok (.aload_n 0, 1) := by decide +kernel
theorem dX0_numberOf_71 : decode cX0_numberOf 71 = .ok (.getfield 34, 3) := by decide +kernel
theorem dX0_numberOf_74 : decode cX0_numberOf 74 = .ok (.lreturn, 1) := by decide +kernel
theorem dX0_numberOf_75 : decode cX0_numberOf 75 = .ok (.aload_n 0, 1) := by decide +kernel
theorem dX0_numberOf_76 : decode cX0_numberOf 76 = .ok (.getfield 38, 3) := by decide +kernel
theorem dX0_numberOf_79 : decode cX0_numberOf 79 = .ok (.lreturn, 1) := by decide +kernel
theorem dX1_init_0 : decode cX1_init 0 = .ok (.aload_n 0, 1) := by decide +kernel
theorem dX1_init_1 : decode cX1_init 1 = .ok (.invokespecial 3, 3) := by decide +kernel
theorem dX1_init_4 : decode cX1_init 4 = .ok (.aload_n 0, 1) := by decide +kernel
theorem dX1_init_5 : decode cX1_init 5 = .ok (.sipush 280, 3) := by decide +kernel
theorem dX1_init_8 : decode cX1_init 8 = .ok (.newarray .long, 2) := by decide +kernel
theorem dX1_init_10 : decode cX1_init 10 = .ok (.putfield 11, 3) := by decide +kernel
theorem dX1_init_13 : decode cX1_init 13 = .ok (.return_, 1) := by decide +kernel
theorem dX1_copyFrom_0 : decode cX1_copyFrom 0 = .ok (.aload_n 0, 1) := by decide +kernel
theorem dX1_copyFrom_1 : decode cX1_copyFrom 1 = .ok (.aload_n 1, 1) := by decide +kernel
theorem dX1_copyFrom_2 : decode cX1_copyFrom 2 = .ok (.getfield 15, 3) := by decide +kernel
theorem dX1_copyFrom_5 : decode cX1_copyFrom 5 = .ok (.putfield 15, 3) := by decide +kernel
theorem dX1_copyFrom_8 : decode cX1_copyFrom 8 = .ok (.aload_n 1, 1) := by decide +kernel
theorem dX1_copyFrom_9 : decode cX1_copyFrom 9 = .ok (.getfield 11, 3) := by decide +kernel
theorem dX1_copyFrom_12 : decode cX1_copyFrom 12 = .ok (.iconst 0, 1) := by decide +kernel
theorem dX1_copyFrom_13 : decode cX1_copyFrom 13 = .ok (.aload_n 0, 1) := by decide +kernel
theorem dX1_copyFrom_14 : decode cX1_copyFrom 14 = .ok (.getfield 11, 3) := by decide +kernel
theorem dX1_copyFrom_17 : decode cX1_copyFrom 17 = .ok (.iconst 0, 1) := by decide +kernel
theorem dX1_copyFrom_18 : decode cX1_copyFrom 18 = .ok (.aload_n 0, 1) := by decide +kernel
theorem dX1_copyFrom_19 : decode cX1_copyFrom 19 = .ok (.getfield 11, 3) := by decide +kernel
theorem dX1_copyFrom_22 : decode cX1_copyFrom 22 = .ok (.arraylength, 1) := by decide +kernel
theorem dX1_copyFrom_23 : decode cX1_copyFrom 23 = .ok (.aload_n 1, 1) := by decide +kernel
theorem dX1_copyFrom_24 : decode cX1_copyFrom 24 = .ok (.getfield 11, 3) := by decide +kernel
theorem dX1_copyFrom_27 : decode cX1_copyFrom 27 = .ok (.arraylength, 1) := by decide +kernel
theorem dX1_copyFrom_28 : decode cX1_copyFrom 28 = .ok (.invokestatic 19, 3) := by decide +kernel
theorem dX1_copyFrom_31 : decode cX1_copyFrom 31 = .ok (.invokestatic 25, 3) := by decide +kernel
theorem dX1_copyFrom_34 : decode cX1_copyFrom 34 = .ok (.return_, 1) := by decide +kernel
abbrev csX1_placeOf : List (List Cond) := [[.code yX1_placeOf cX1_placeOf 2 (some .int)], [.methodLink RX1 31 yJ9_floorMod_7cf53, .static yJ9_floorMod_7cf53, .initialized RJ9, .code yJ9_floorMod_7cf53 cJ9_floorMod_7cf53 3 (some .int)]]
set_option maxRecDepth 20000 in
theorem hbX1_placeOf : wsX1_placeOf = csX1_placeOf.flatten := rfl
set_option maxRecDepth 20000 in
theorem ggX1_placeOf_J9_floorMod_7cf53 : GoodIn wsX1_placeOf wsJ9_floorMod_7cf53 := goodIn_c csX1_placeOf hbX1_placeOf _ [(1, 3)] rfl (by decide +kernel)
set_option maxRecDepth 20000 in
theorem gX1_placeOf_J9_floorMod_7cf53 : GoodIn wsX1_placeOf (va_wsS RX1 31 yJ9_floorMod_7cf53 wsJ9_floorMod_7cf53) := goodIn_app (goodIn_c csX1_placeOf hbX1_placeOf [.methodLink RX1 31 yJ9_floorMod_7cf53, .static yJ9_floorMod_7cf53, .initialized yJ9_floorMod_7cf53.cls] [(1, 0), (1, 1), (1, 2)] rfl (by decide +kernel)) ggX1_placeOf_J9_floorMod_7cf53
theorem dX1_placeOf_0 : decode cX1_placeOf 0 = .ok (.iload_n 0, 1) := by decide +kernel
theorem dX1_placeOf_1 : decode cX1_placeOf 1 = .ok (.bipush 40, 2) := by decide +kernel
theorem dX1_placeOf_3 : decode cX1_placeOf 3 = .ok (.invokestatic 31, 3) := by decide +kernel
theorem dX1_placeOf_6 : decode cX1_placeOf 6 = .ok (.bipush 7, 2) := by decide +kernel
theorem dX1_placeOf_8 : decode cX1_placeOf 8 = .ok (.imul, 1) := by decide +kernel
theorem dX1_placeOf_9 : decode cX1_placeOf 9 = .ok (.iload_n 1, 1) := by decide +kernel
theorem dX1_placeOf_10 : decode cX1_placeOf 10 = .ok (.iadd, 1) := by decide +kernel
theorem dX1_placeOf_11 : decode cX1_placeOf 11 = .ok (.ireturn, 1) := by decide +kernel
abbrev csX1_note : List (List Cond) := [[.code yX1_note cX1_note 5 none], [.fieldLink RX1 15 "SlopeMeter$Log" "readings" "I", .fieldLink RX1 11 "SlopeMeter$Log" "row" "[J", .methodLink RX1 34 yX1_placeOf, .static yX1_placeOf, .initialized RX1, .code yX1_placeOf cX1_placeOf 2 (some .int), .methodLink RX1 31 yJ9_floorMod_7cf53, .static yJ9_floorMod_7cf53, .initialized RJ9, .code yJ9_floorMod_7cf53 cJ9_floorMod_7cf53 3 (some .int)], wsX10]
set_option maxRecDepth 20000 in
theorem hbX1_note : wsX1_note = csX1_note.flatten := rfl
set_option maxRecDepth 20000 in
theorem ggX1_note_X1_placeOf : GoodIn wsX1_note wsX1_placeOf := goodIn_c csX1_note hbX1_note _ [(1, 5), (1, 6), (1, 7), (1, 8), (1, 9)] rfl (by decide +kernel)
set_option maxRecDepth 20000 in
theorem gX1_note_X1_placeOf : GoodIn wsX1_note (va_wsS RX1 34 yX1_placeOf wsX1_placeOf) := goodIn_app (goodIn_c csX1_note hbX1_note [.methodLink RX1 34 yX1_placeOf, .static yX1_placeOf, .initialized yX1_placeOf.cls] [(1, 2), (1, 3), (1, 4)] rfl (by decide +kernel)) ggX1_note_X1_placeOf
theorem dX1_note_0 : decode cX1_note 0 = .ok (.aload_n 0, 1) := by decide +kernel
theorem dX1_note_1 : decode cX1_note 1 = .ok (.getfield 15, 3) := by decide +kernel
theorem dX1_note_4 : decode cX1_note 4 = .ok (.iload_n 1, 1) := by decide +kernel
theorem dX1_note_5 : decode cX1_note 5 = .ok (.invokestatic 34, 3) := by decide +kernel
theorem dX1_note_8 : decode cX1_note 8 = .ok (.istore 4, 2) := by decide +kernel
theorem dX1_note_10 : decode cX1_note 10 = .ok (.iload 4, 2) := by decide +kernel
theorem dX1_note_12 : decode cX1_note 12 = .ok (.ifCond .lt 21, 3) := by decide +kernel
theorem dX1_note_15 : decode cX1_note 15 = .ok (.iload 4, 2) := by decide +kernel
theorem dX1_note_17 : decode cX1_note 17 = .ok (.aload_n 0, 1) := by decide +kernel
theorem dX1_note_18 : decode cX1_note 18 = .ok (.getfield 11, 3) := by decide +kernel
theorem dX1_note_21 : decode cX1_note 21 = .ok (.arraylength, 1) := by decide +kernel
theorem dX1_note_22 : decode cX1_note 22 = .ok (.if_icmp .ge 11, 3) := by decide +kernel
theorem dX1_note_25 : decode cX1_note 25 = .ok (.aload_n 0, 1) := by decide +kernel
theorem dX1_note_26 : decode cX1_note 26 = .ok (.getfield 11, 3) := by decide +kernel
theorem dX1_note_29 : decode cX1_note 29 = .ok (.iload 4, 2) := by decide +kernel
theorem dX1_note_31 : decode cX1_note 31 = .ok (.lload_n 2, 1) := by decide +kernel
theorem dX1_note_32 : decode cX1_note 32 = .ok (.lastore, 1) := by decide +kernel
theorem dX1_note_33 : decode cX1_note 33 = .ok (.return_, 1) := by decide +kernel
abbrev csX1_add : List (List Cond) := [[.code yX1_add cX1_add 4 none], [.fieldLink RX1 41 "SlopeMeter$Meter" "readingNet" "J", .fieldLink RX1 47 "SlopeMeter$Meter" "readingRange" "I", .fieldLink RX1 50 "SlopeMeter$Meter" "conversion" "LSlopeMeter$Conversion;", .fieldLink RX1 54 "SlopeMeter$Conversion" "isOver" "Z", .fieldLink RX1 60 "SlopeMeter$Meter" "readingBegin" "I", .fieldLink RX1 63 "SlopeMeter$Meter" "time" "I", .fieldLink RX1 66 "SlopeMeter$Meter" "zeroCounts" "I", .fieldLink RX1 15 "SlopeMeter$Log" "readings" "I", .methodLink RX1 37 yX1_note, .instanceMethod yX1_note, .selects RX1 yX1_note yX1_note, .initialized RX1, .code yX1_note cX1_note 5 none, .fieldLink RX1 11 "SlopeMeter$Log" "row" "[J", .methodLink RX1 34 yX1_placeOf, .static yX1_placeOf, .code yX1_placeOf cX1_placeOf 2 (some .int), .methodLink RX1 31 yJ9_floorMod_7cf53, .static yJ9_floorMod_7cf53, .initialized RJ9, .code yJ9_floorMod_7cf53 cJ9_floorMod_7cf53 3 (some .int)], wsX20, wsX00, wsX10]
set_option maxRecDepth 20000 in
theorem hbX1_add : wsX1_add = csX1_add.flatten := rfl
set_option maxRecDepth 20000 in
theorem ggX1_add_X1_note : GoodIn wsX1_add wsX1_note := goodIn_c csX1_add hbX1_add _ [(1, 12), (1, 7), (1, 13), (1, 14), (1, 15), (1, 11), (1, 16), (1, 17), (1, 18), (1, 19), (1, 20), (4, 0), (4, 1)] rfl (by decide +kernel)
set_option maxRecDepth 20000 in
theorem gX1_add_X1_note : GoodIn wsX1_add (wsV RX1 37 RX1 yX1_note wsX1_note) := goodIn_app (goodIn_c csX1_add hbX1_add [.methodLink RX1 37 yX1_note, .instanceMethod yX1_note, .selects RX1 yX1_note yX1_note, .initialized RX1] [(1, 8), (1, 9), (1, 10), (1, 11)] rfl (by decide +kernel)) ggX1_add_X1_note
theorem dX1_add_0 : decode cX1_add 0 = .ok (.aload_n 0, 1) := by decide +kernel
theorem dX1_add_1 : decode cX1_add 1 = .ok (.iconst 0, 1) := by decide +kernel
theorem dX1_add_2 : decode cX1_add 2 = .ok (.lload_n 1, 1) := by decide +kernel
theorem dX1_add_3 : decode cX1_add 3 = .ok (.invokevirtual 37, 3) := by decide +kernel
theorem dX1_add_6 : decode cX1_add 6 = .ok (.aload_n 0, 1) := by decide +kernel
theorem dX1_add_7 : decode cX1_add 7 = .ok (.iconst 1, 1) := by decide +kernel
theorem dX1_add_8 : decode cX1_add 8 = .ok (.aload_n 3, 1) := by decide +kernel
theorem dX1_add_9 : decode cX1_add 9 = .ok (.getfield 41, 3) := by decide +kernel
theorem dX1_add_12 : decode cX1_add 12 = .ok (.invokevirtual 37, 3) := by decide +kernel
theorem dX1_add_15 : decode cX1_add 15 = .ok (.aload_n 0, 1) := by decide +kernel
theorem dX1_add_16 : decode cX1_add 16 = .ok (.iconst 2, 1) := by decide +kernel
theorem dX1_add_17 : decode cX1_add 17 = .ok (.aload_n 3, 1) := by decide +kernel
theorem dX1_add_18 : decode cX1_add 18 = .ok (.getfield 47, 3) := by decide +kernel
theorem dX1_add_21 : decode cX1_add 21 = .ok (.i2l, 1) := by decide +kernel
theorem dX1_add_22 : decode cX1_add 22 = .ok (.invokevirtual 37, 3) := by decide +kernel
theorem dX1_add_25 : decode cX1_add 25 = .ok (.aload_n 0, 1) := by decide +kernel
theorem dX1_add_26 : decode cX1_add 26 = .ok (.iconst 3, 1) := by decide +kernel
theorem dX1_add_27 : decode cX1_add 27 = .ok (.aload_n 3, 1) := by decide +kernel
theorem dX1_add_28 : decode cX1_add 28 = .ok (.getfield 50, 3) := by decide +kernel
theorem dX1_add_31 : decode cX1_add 31 = .ok (.getfield 54, 3) := by decide +kernel
theorem dX1_add_34 : decode cX1_add 34 = .ok (.ifCond .eq 7, 3) := by decide +kernel
theorem dX1_add_37 : decode cX1_add 37 = .ok (.lconst 1, 1) := by decide +kernel
theorem dX1_add_38 : decode cX1_add 38 = .ok (.goto 4, 3) := by decide +kernel
theorem dX1_add_41 : decode cX1_add 41 = .ok (.lconst 0, 1) := by decide +kernel
theorem dX1_add_42 : decode cX1_add 42 = .ok (.invokevirtual 37, 3) := by decide +kernel
theorem dX1_add_45 : decode cX1_add 45 = .ok (.aload_n 0, 1) := by decide +kernel
theorem dX1_add_46 : decode cX1_add 46 = .ok (.iconst 4, 1) := by decide +kernel
theorem dX1_add_47 : decode cX1_add 47 = .ok (.aload_n 3, 1) := by decide +kernel
theorem dX1_add_48 : decode cX1_add 48 = .ok (.getfield 60, 3) := by decide +kernel
theorem dX1_add_51 : decode cX1_add 51 = .ok (.i2l, 1) := by decide +kernel
theorem dX1_add_52 : decode cX1_add 52 = .ok (.invokevirtual 37, 3) := by decide +kernel
theorem dX1_add_55 : decode cX1_add 55 = .ok (.aload_n 0, 1) := by decide +kernel
theorem dX1_add_56 : decode cX1_add 56 = .ok (.iconst 5, 1) := by decide +kernel
theorem dX1_add_57 : decode cX1_add 57 = .ok (.aload_n 3, 1) := by decide +kernel
theorem dX1_add_58 : decode cX1_add 58 = .ok (.getfield 63, 3) := by decide +kernel
theorem dX1_add_61 : decode cX1_add 61 = .ok (.i2l, 1) := by decide +kernel
theorem dX1_add_62 : decode cX1_add 62 = .ok (.invokevirtual 37, 3) := by decide +kernel
theorem dX1_add_65 : decode cX1_add 65 = .ok (.aload_n 0, 1) := by decide +kernel
theorem dX1_add_66 : decode cX1_add 66 = .ok (.bipush 6, 2) := by decide +kernel
theorem dX1_add_68 : decode cX1_add 68 = .ok (.aload_n 3, 1) := by decide +kernel
theorem dX1_add_69 : decode cX1_add 69 = .ok (.getfield 66, 3) := by decide +kernel
theorem dX1_add_72 : decode cX1_add 72 = .ok (.i2l, 1) := by decide +kernel
theorem dX1_add_73 : decode cX1_add 73 = .ok (.invokevirtual 37, 3) := by decide +kernel
theorem dX1_add_76 : decode cX1_add 76 = .ok (.aload_n 0, 1) := by decide +kernel
theorem dX1_add_77 : decode cX1_add 77 = .ok (.dup, 1) := by decide +kernel
theorem dX1_add_78 : decode cX1_add 78 = .ok (.getfield 15, 3) := by decide +kernel
theorem dX1_add_81 : decode cX1_add 81 = .ok (.iconst 1, 1) := by decide +kernel
theorem dX1_add_82 : decode cX1_add 82 = .ok (.iadd, 1) := by decide +kernel
theorem dX1_add_83 : decode cX1_add 83 = .ok (.putfield 15, 3) := by decide +kernel
theorem dX1_add_86 : decode cX1_add 86 = .ok (.return_, 1) := by decide +kernel
abbrev csX1_keeps : List (List Cond) := [[.code yX1_keeps cX1_keeps 2 (some .boolean)], [.fieldLink RX1 15 "SlopeMeter$Log" "readings" "I", .methodLink RX1 69 yX1_firstFrom, .instanceMethod yX1_firstFrom, .selects RX1 yX1_firstFrom yX1_firstFrom, .initialized RX1, .code yX1_firstFrom cX1_firstFrom 2 (some .int), .methodLink RX1 73 Lib.Math.max.name, .static Lib.Math.max.name, .initialized "java/lang/Math", .code Lib.Math.max.name Lib.Math.max.code 2 (some .int)], wsX10]
set_option maxRecDepth 20000 in
theorem hbX1_keeps : wsX1_keeps = csX1_keeps.flatten := rfl
set_option maxRecDepth 20000 in
theorem ggX1_keeps_X1_firstFrom : GoodIn wsX1_keeps wsX1_firstFrom := goodIn_c csX1_keeps hbX1_keeps _ [(1, 5), (1, 0), (1, 6), (1, 7), (1, 8), (1, 9), (2, 0), (2, 1)] rfl (by decide +kernel)
set_option maxRecDepth 20000 in
theorem gX1_keeps_X1_firstFrom : GoodIn wsX1_keeps (wsV RX1 69 RX1 yX1_firstFrom wsX1_firstFrom) := goodIn_app (goodIn_c csX1_keeps hbX1_keeps [.methodLink RX1 69 yX1_firstFrom, .instanceMethod yX1_firstFrom, .selects RX1 yX1_firstFrom yX1_firstFrom, .initialized RX1] [(1, 1), (1, 2), (1, 3), (1, 4)] rfl (by decide +kernel)) ggX1_keeps_X1_firstFrom
theorem dX1_keeps_0 : decode cX1_keeps 0 = .ok (.iload_n 1, 1) := by decide +kernel
theorem dX1_keeps_1 : decode cX1_keeps 1 = .ok (.aload_n 0, 1) := by decide +kernel
theorem dX1_keeps_2 : decode cX1_keeps 2 = .ok (.iconst 0, 1) := by decide +kernel
theorem dX1_keeps_3 : decode cX1_keeps 3 = .ok (.invokevirtual 69, 3) := by decide +kernel
theorem dX1_keeps_6 : decode cX1_keeps 6 = .ok (.if_icmp .lt 15, 3) := by decide +kernel
theorem dX1_keeps_9 : decode cX1_keeps 9 = .ok (.iload_n 1, 1) := by decide +kernel
theorem dX1_keeps_10 : decode cX1_keeps 10 = .ok (.aload_n 0, 1) := by decide +kernel
theorem dX1_keeps_11 : decode cX1_keeps 11 = .ok (.getfield 15, 3) := by decide +kernel
theorem dX1_keeps_14 : decode cX1_keeps 14 = .ok (.if_icmp .ge 7, 3) := by decide +kernel
theorem dX1_keeps_17 : decode cX1_keeps 17 = .ok (.iconst 1, 1) := by decide +kernel
theorem dX1_keeps_18 : decode cX1_keeps 18 = .ok (.goto 4, 3) := by decide +kernel
theorem dX1_keeps_21 : decode cX1_keeps 21 = .ok (.iconst 0, 1) := by decide +kernel
theorem dX1_keeps_22 : decode cX1_keeps 22 = .ok (.ireturn, 1) := by decide +kernel
abbrev csX1_numberOf : List (List Cond) := [[.code yX1_numberOf cX1_numberOf 4 (some .long)], [.fieldLink RX1 11 "SlopeMeter$Log" "row" "[J", .methodLink RX1 34 yX1_placeOf, .static yX1_placeOf, .initialized RX1, .code yX1_placeOf cX1_placeOf 2 (some .int), .methodLink RX1 31 yJ9_floorMod_7cf53, .static yJ9_floorMod_7cf53, .initialized RJ9, .code yJ9_floorMod_7cf53 cJ9_floorMod_7cf53 3 (some .int)], wsX10]
set_option maxRecDepth 20000 in
theorem hbX1_numberOf : wsX1_numberOf = csX1_numberOf.flatten := rfl
set_option maxRecDepth 20000 in
theorem ggX1_numberOf_X1_placeOf : GoodIn wsX1_numberOf wsX1_placeOf := goodIn_c csX1_numberOf hbX1_numberOf _ [(1, 4), (1, 5), (1, 6), (1, 7), (1, 8)] rfl (by decide +kernel)
set_option maxRecDepth 20000 in
theorem gX1_numberOf_X1_placeOf : GoodIn wsX1_numberOf (va_wsS RX1 34 yX1_placeOf wsX1_placeOf) := goodIn_app (goodIn_c csX1_numberOf hbX1_numberOf [.methodLink RX1 34 yX1_placeOf, .static yX1_placeOf, .initialized yX1_placeOf.cls] [(1, 1), (1, 2), (1, 3)] rfl (by decide +kernel)) ggX1_numberOf_X1_placeOf
theorem dX1_numberOf_0 : decode cX1_numberOf 0 = .ok (.iload_n 1, 1) := by decide +kernel
theorem dX1_numberOf_1 : decode cX1_numberOf 1 = .ok (.iload_n 2, 1) := by decide +kernel
theorem dX1_numberOf_2 : decode cX1_numberOf 2 = .ok (.invokestatic 34, 3) := by decide +kernel
theorem dX1_numberOf_5 : decode cX1_numberOf 5 = .ok (.istore_n 3, 1) := by decide +kernel
theorem dX1_numberOf_6 : decode cX1_numberOf 6 = .ok (.iload_n 3, 1) := by decide +kernel
theorem dX1_numberOf_7 : decode cX1_numberOf 7 = .ok (.ifCond .lt 12, 3) := by decide +kernel
theorem dX1_numberOf_10 : decode cX1_numberOf 10 = .ok (.iload_n 3, 1) := by decide +kernel
theorem dX1_numberOf_11 : decode cX1_numberOf 11 = .ok (.aload_n 0, 1) := by decide +kernel
theorem dX1_numberOf_12 : decode cX1_numberOf 12 = .ok (.getfield 11, 3) := by decide +kernel
theorem dX1_numberOf_15 : decode cX1_numberOf 15 = .ok (.arraylength, 1) := by decide +kernel
theorem dX1_numberOf_16 : decode cX1_numberOf 16 = .ok (.if_icmp .lt 7, 3) := by decide +kernel
theorem dX1_numberOf_19 : decode cX1_numberOf 19 = .ok (.lconst 0, 1) := by decide +kernel
theorem dX1_numberOf_20 : decode cX1_numberOf 20 = .ok (.goto 9, 3) := by decide +kernel
theorem dX1_numberOf_23 : decode cX1_numberOf 23 = .ok (.aload_n 0, 1) := by decide +kernel
theorem dX1_numberOf_24 : decode cX1_numberOf 24 = .ok (.getfield 11, 3) := by decide +kernel
theorem dX1_numberOf_27 : decode cX1_numberOf 27 = .ok (.iload_n 3, 1) := by decide +kernel
theorem dX1_numberOf_28 : decode cX1_numberOf 28 = .ok (.laload, 1) := by decide +kernel
theorem dX1_numberOf_29 : decode cX1_numberOf 29 = .ok (.lreturn, 1) := by decide +kernel
theorem dX1_firstFrom_0 : decode cX1_firstFrom 0 = .ok (.iload_n 1, 1) := by decide +kernel
theorem dX1_firstFrom_1 : decode cX1_firstFrom 1 = .ok (.iconst 0, 1) := by decide +kernel
theorem dX1_firstFrom_2 : decode cX1_firstFrom 2 = .ok (.aload_n 0, 1) := by decide +kernel
theorem dX1_firstFrom_3 : decode cX1_firstFrom 3 = .ok (.getfield 15, 3) := by decide +kernel
theorem dX1_firstFrom_6 : decode cX1_firstFrom 6 = .ok (.bipush 40, 2) := by decide +kernel
theorem dX1_firstFrom_8 : decode cX1_firstFrom 8 = .ok (.isub, 1) := by decide +kernel
theorem dX1_firstFrom_9 : decode cX1_firstFrom 9 = .ok (.invokestatic 73, 3) := by decide +kernel
theorem dX1_firstFrom_12 : decode cX1_firstFrom 12 = .ok (.invokestatic 73, 3) := by decide +kernel
theorem dX1_firstFrom_15 : decode cX1_firstFrom 15 = .ok (.ireturn, 1) := by decide +kernel
abbrev csX1_numberFrom : List (List Cond) := [[.code yX1_numberFrom cX1_numberFrom 2 (some .int)], [.fieldLink RX1 15 "SlopeMeter$Log" "readings" "I", .methodLink RX1 73 Lib.Math.max.name, .static Lib.Math.max.name, .initialized "java/lang/Math", .code Lib.Math.max.name Lib.Math.max.code 2 (some .int), .methodLink RX1 69 yX1_firstFrom, .instanceMethod yX1_firstFrom, .selects RX1 yX1_firstFrom yX1_firstFrom, .initialized RX1, .code yX1_firstFrom cX1_firstFrom 2 (some .int)], wsX10]
set_option maxRecDepth 20000 in
theorem hbX1_numberFrom : wsX1_numberFrom = csX1_numberFrom.flatten := rfl
set_option maxRecDepth 20000 in
theorem ggX1_numberFrom_X1_firstFrom : GoodIn wsX1_numberFrom wsX1_firstFrom := goodIn_c csX1_numberFrom hbX1_numberFrom _ [(1, 9), (1, 0), (1, 1), (1, 2), (1, 3), (1, 4), (2, 0), (2, 1)] rfl (by decide +kernel)
set_option maxRecDepth 20000 in
theorem gX1_numberFrom_X1_firstFrom : GoodIn wsX1_numberFrom (wsV RX1 69 RX1 yX1_firstFrom wsX1_firstFrom) := goodIn_app (goodIn_c csX1_numberFrom hbX1_numberFrom [.methodLink RX1 69 yX1_firstFrom, .instanceMethod yX1_firstFrom, .selects RX1 yX1_firstFrom yX1_firstFrom, .initialized RX1] [(1, 5), (1, 6), (1, 7), (1, 8)] rfl (by decide +kernel)) ggX1_numberFrom_X1_firstFrom
theorem dX1_numberFrom_0 : decode cX1_numberFrom 0 = .ok (.iconst 0, 1) := by decide +kernel
theorem dX1_numberFrom_1 : decode cX1_numberFrom 1 = .ok (.aload_n 0, 1) := by decide +kernel
theorem dX1_numberFrom_2 : decode cX1_numberFrom 2 = .ok (.getfield 15, 3) := by decide +kernel
theorem dX1_numberFrom_5 : decode cX1_numberFrom 5 = .ok (.aload_n 0, 1) := by decide +kernel
theorem dX1_numberFrom_6 : decode cX1_numberFrom 6 = .ok (.iload_n 1, 1) := by decide +kernel
theorem dX1_numberFrom_7 : decode cX1_numberFrom 7 = .ok (.invokevirtual 69, 3) := by decide +kernel
theorem dX1_numberFrom_10 : decode cX1_numberFrom 10 = .ok (.isub, 1) := by decide +kernel
theorem dX1_numberFrom_11 : decode cX1_numberFrom 11 = .ok (.invokestatic 73, 3) := by decide +kernel
theorem dX1_numberFrom_14 : decode cX1_numberFrom 14 = .ok (.ireturn, 1) := by decide +kernel
abbrev csX1_sumFrom : List (List Cond) := [[.code yX1_sumFrom cX1_sumFrom 6 (some .long)], [.fieldLink RX1 15 "SlopeMeter$Log" "readings" "I", .methodLink RX1 69 yX1_firstFrom, .instanceMethod yX1_firstFrom, .selects RX1 yX1_firstFrom yX1_firstFrom, .initialized RX1, .code yX1_firstFrom cX1_firstFrom 2 (some .int), .methodLink RX1 73 Lib.Math.max.name, .static Lib.Math.max.name, .initialized "java/lang/Math", .code Lib.Math.max.name Lib.Math.max.code 2 (some .int), .methodLink RX1 76 yX1_numberOf, .instanceMethod yX1_numberOf, .selects RX1 yX1_numberOf yX1_numberOf, .code yX1_numberOf cX1_numberOf 4 (some .long), .fieldLink RX1 11 "SlopeMeter$Log" "row" "[J", .methodLink RX1 34 yX1_placeOf, .static yX1_placeOf, .code yX1_placeOf cX1_placeOf 2 (some .int), .methodLink RX1 31 yJ9_floorMod_7cf53, .static yJ9_floorMod_7cf53, .initialized RJ9, .code yJ9_floorMod_7cf53 cJ9_floorMod_7cf53 3 (some .int)], wsX10]
set_option maxRecDepth 20000 in
theorem hbX1_sumFrom : wsX1_sumFrom = csX1_sumFrom.flatten := rfl
set_option maxRecDepth 20000 in
theorem ggX1_sumFrom_X1_firstFrom : GoodIn wsX1_sumFrom wsX1_firstFrom := goodIn_c csX1_sumFrom hbX1_sumFrom _ [(1, 5), (1, 0), (1, 6), (1, 7), (1, 8), (1, 9), (2, 0), (2, 1)] rfl (by decide +kernel)
set_option maxRecDepth 20000 in
theorem gX1_sumFrom_X1_firstFrom : GoodIn wsX1_sumFrom (wsV RX1 69 RX1 yX1_firstFrom wsX1_firstFrom) := goodIn_app (goodIn_c csX1_sumFrom hbX1_sumFrom [.methodLink RX1 69 yX1_firstFrom, .instanceMethod yX1_firstFrom, .selects RX1 yX1_firstFrom yX1_firstFrom, .initialized RX1] [(1, 1), (1, 2), (1, 3), (1, 4)] rfl (by decide +kernel)) ggX1_sumFrom_X1_firstFrom
set_option maxRecDepth 20000 in
theorem ggX1_sumFrom_X1_numberOf : GoodIn wsX1_sumFrom wsX1_numberOf := goodIn_c csX1_sumFrom hbX1_sumFrom _ [(1, 13), (1, 14), (1, 15), (1, 16), (1, 4), (1, 17), (1, 18), (1, 19), (1, 20), (1, 21), (2, 0), (2, 1)] rfl (by decide +kernel)
set_option maxRecDepth 20000 in
theorem gX1_sumFrom_X1_numberOf : GoodIn wsX1_sumFrom (wsV RX1 76 RX1 yX1_numberOf wsX1_numberOf) := goodIn_app (goodIn_c csX1_sumFrom hbX1_sumFrom [.methodLink RX1 76 yX1_numberOf, .instanceMethod yX1_numberOf, .selects RX1 yX1_numberOf yX1_numberOf, .initialized RX1] [(1, 10), (1, 11), (1, 12), (1, 4)] rfl (by decide +kernel)) ggX1_sumFrom_X1_numberOf
theorem dX1_sumFrom_0 : decode cX1_sumFrom 0 = .ok (.lconst 0, 1) := by decide +kernel
theorem dX1_sumFrom_1 : decode cX1_sumFrom 1 = .ok (.lstore_n 3, 1) := by decide +kernel
theorem dX1_sumFrom_2 : decode cX1_sumFrom 2 = .ok (.aload_n 0, 1) := by decide +kernel
theorem dX1_sumFrom_3 : decode cX1_sumFrom 3 = .ok (.iload_n 1, 1) := by decide +kernel
theorem dX1_sumFrom_4 : decode cX1_sumFrom 4 = .ok (.invokevirtual 69, 3) := by decide +kernel
theorem dX1_sumFrom_7 : decode cX1_sumFrom 7 = .ok (.istore 5, 2) := by decide +kernel
theorem dX1_sumFrom_9 : decode cX1_sumFrom 9 = .ok (.iload 5, 2) := by decide +kernel
theorem dX1_sumFrom_11 : decode cX1_sumFrom 11 = .ok (.aload_n 0, 1) := by decide +kernel
theorem dX1_sumFrom_12 : decode cX1_sumFrom 12 = .ok (.getfield 15, 3) := by decide +kernel
theorem dX1_sumFrom_15 : decode cX1_sumFrom 15 = .ok (.if_icmp .ge 19, 3) := by decide +kernel
theorem dX1_sumFrom_18 : decode cX1_sumFrom 18 = .ok (.lload_n 3, 1) := by decide +kernel
theorem dX1_sumFrom_19 : decode cX1_sumFrom 19 = .ok (.aload_n 0, 1) := by decide +kernel
theorem dX1_sumFrom_20 : decode cX1_sumFrom 20 = .ok (.iload 5, 2) := by decide +kernel
theorem dX1_sumFrom_22 : decode cX1_sumFrom 22 = .ok (.iload_n 2, 1) := by decide +kernel
theorem dX1_sumFrom_23 : decode cX1_sumFrom 23 = .ok (.invokevirtual 76, 3) := by decide +kernel
theorem dX1_sumFrom_26 : decode cX1_sumFrom 26 = .ok (.ladd, 1) := by decide +kernel
theorem dX1_sumFrom_27 : decode cX1_sumFrom 27 = .ok (.lstore_n 3, 1) := by decide +kernel
theorem dX1_sumFrom_28 : decode cX1_sumFrom 28 = .ok (.iinc 5 1, 3) := by decide +kernel
theorem dX1_sumFrom_31 : decode cX1_sumFrom 31 = .ok (.goto (-22), 3) := by decide +kernel
theorem dX1_sumFrom_34 : decode cX1_sumFrom 34 = .ok (.lload_n 3, 1) := by decide +kernel
theorem dX1_sumFrom_35 : decode cX1_sumFrom 35 = .ok (.lreturn, 1) := by decide +kernel
abbrev csX1_meanFrom : List (List Cond) := [[.code yX1_meanFrom cX1_meanFrom 3 (some .long)], wsX1_meanFrom_r1, wsX1_meanFrom_r2, wsX10]
set_option maxRecDepth 20000 in
theorem hbX1_meanFrom : wsX1_meanFrom = csX1_meanFrom.flatten := rfl
set_option maxRecDepth 20000 in
theorem ggX1_meanFrom_X1_numberFrom : GoodIn wsX1_meanFrom wsX1_numberFrom := goodIn_c csX1_meanFrom hbX1_meanFrom _ [(1, 4), (1, 5), (1, 6), (1, 7), (1, 8), (1, 9), (1, 10), (1, 11), (1, 12), (1, 3), (1, 13), (3, 0), (3, 1)] rfl (by decide +kernel)
set_option maxRecDepth 20000 in
theorem gX1_meanFrom_X1_numberFrom : GoodIn wsX1_meanFrom (wsV RX1 80 RX1 yX1_numberFrom wsX1_numberFrom) := goodIn_app (goodIn_c csX1_meanFrom hbX1_meanFrom [.methodLink RX1 80 yX1_numberFrom, .instanceMethod yX1_numberFrom, .selects RX1 yX1_numberFrom yX1_numberFrom, .initialized RX1] [(1, 0), (1, 1), (1, 2), (1, 3)] rfl (by decide +kernel)) ggX1_meanFrom_X1_numberFrom
set_option maxRecDepth 20000 in
theorem ggX1_meanFrom_X1_sumFrom : GoodIn wsX1_meanFrom wsX1_sumFrom := goodIn_c csX1_meanFrom hbX1_meanFrom _ [(1, 17), (1, 5), (1, 10), (1, 11), (1, 12), (1, 3), (1, 13), (1, 6), (1, 7), (1, 8), (1, 9), (1, 18), (1, 19), (1, 20), (1, 21), (1, 22), (1, 23), (2, 0), (2, 1), (2, 2), (2, 3), (2, 4), (2, 5), (3, 0), (3, 1)] rfl (by decide +kernel)
set_option maxRecDepth 20000 in
theorem gX1_meanFrom_X1_sumFrom : GoodIn wsX1_meanFrom (wsV RX1 83 RX1 yX1_sumFrom wsX1_sumFrom) := goodIn_app (goodIn_c csX1_meanFrom hbX1_meanFrom [.methodLink RX1 83 yX1_sumFrom, .instanceMethod yX1_sumFrom, .selects RX1 yX1_sumFrom yX1_sumFrom, .initialized RX1] [(1, 14), (1, 15), (1, 16), (1, 3)] rfl (by decide +kernel)) ggX1_meanFrom_X1_sumFrom
theorem dX1_meanFrom_0 : decode cX1_meanFrom 0 = .ok (.aload_n 0, 1) := by decide +kernel
theorem dX1_meanFrom_1 : decode cX1_meanFrom 1 = .ok (.iload_n 1, 1) := by decide +kernel
theorem dX1_meanFrom_2 : decode cX1_meanFrom 2 = .ok (.invokevirtual 80, 3) := by decide +kernel
theorem dX1_meanFrom_5 : decode cX1_meanFrom 5 = .ok (.istore_n 2, 1) := by decide +kernel
theorem dX1_meanFrom_6 : decode cX1_meanFrom 6 = .ok (.iload_n 2, 1) := by decide +kernel
theorem dX1_meanFrom_7 : decode cX1_meanFrom 7 = .ok (.ifCond .gt 7, 3) := by decide +kernel
theorem dX1_meanFrom_10 : decode cX1_meanFrom 10 = .ok (.lconst 0, 1) := by decide +kernel
theorem dX1_meanFrom_11 : decode cX1_meanFrom 11 = .ok (.goto 12, 3) := by decide +kernel
theorem dX1_meanFrom_14 : decode cX1_meanFrom 14 = .ok (.aload_n 0, 1) := by decide +kernel
theorem dX1_meanFrom_15 : decode cX1_meanFrom 15 = .ok (.iload_n 1, 1) := by decide +kernel
theorem dX1_meanFrom_16 : decode cX1_meanFrom 16 = .ok (.iconst 0, 1) := by decide +kernel
theorem dX1_meanFrom_17 : decode cX1_meanFrom 17 = .ok (.invokevirtual 83, 3) := by decide +kernel
theorem dX1_meanFrom_20 : decode cX1_meanFrom 20 = .ok (.iload_n 2, 1) := by decide +kernel
theorem dX1_meanFrom_21 : decode cX1_meanFrom 21 = .ok (.i2l, 1) := by decide +kernel
theorem dX1_meanFrom_22 : decode cX1_meanFrom 22 = .ok (.ldiv, 1) := by decide +kernel
theorem dX1_meanFrom_23 : decode cX1_meanFrom 23 = .ok (.lreturn, 1) := by decide +kernel
abbrev csX1_leastFrom : List (List Cond) := [[.code yX1_leastFrom cX1_leastFrom 5 (some .long)], wsX1_leastFrom_r1, wsX1_leastFrom_r2, wsX10]
set_option maxRecDepth 20000 in
theorem hbX1_leastFrom : wsX1_leastFrom = csX1_leastFrom.flatten := rfl
set_option maxRecDepth 20000 in
theorem ggX1_leastFrom_X1_firstFrom : GoodIn wsX1_leastFrom wsX1_firstFrom := goodIn_c csX1_leastFrom hbX1_leastFrom _ [(1, 9), (1, 0), (1, 10), (1, 11), (1, 3), (1, 12), (3, 0), (3, 1)] rfl (by decide +kernel)
set_option maxRecDepth 20000 in
theorem gX1_leastFrom_X1_firstFrom : GoodIn wsX1_leastFrom (wsV RX1 69 RX1 yX1_firstFrom wsX1_firstFrom) := goodIn_app (goodIn_c csX1_leastFrom hbX1_leastFrom [.methodLink RX1 69 yX1_firstFrom, .instanceMethod yX1_firstFrom, .selects RX1 yX1_firstFrom yX1_firstFrom, .initialized RX1] [(1, 5), (1, 6), (1, 7), (1, 8)] rfl (by decide +kernel)) ggX1_leastFrom_X1_firstFrom
set_option maxRecDepth 20000 in
theorem ggX1_leastFrom_X1_numberOf : GoodIn wsX1_leastFrom wsX1_numberOf := goodIn_c csX1_leastFrom hbX1_leastFrom _ [(1, 16), (1, 17), (1, 18), (1, 19), (1, 8), (1, 20), (1, 21), (1, 22), (1, 23), (2, 0), (3, 0), (3, 1)] rfl (by decide +kernel)
set_option maxRecDepth 20000 in
theorem gX1_leastFrom_X1_numberOf : GoodIn wsX1_leastFrom (wsV RX1 76 RX1 yX1_numberOf wsX1_numberOf) := goodIn_app (goodIn_c csX1_leastFrom hbX1_leastFrom [.methodLink RX1 76 yX1_numberOf, .instanceMethod yX1_numberOf, .selects RX1 yX1_numberOf yX1_numberOf, .initialized RX1] [(1, 13), (1, 14), (1, 15), (1, 8)] rfl (by decide +kernel)) ggX1_leastFrom_X1_numberOf
theorem dX1_leastFrom_0 : decode cX1_leastFrom 0 = .ok (.aload_n 0, 1) := by decide +kernel
theorem dX1_leastFrom_1 : decode cX1_leastFrom 1 = .ok (.aload_n 0, 1) := by decide +kernel
theorem dX1_leastFrom_2 : decode cX1_leastFrom 2 = .ok (.iload_n 1, 1) := by decide +kernel
theorem dX1_leastFrom_3 : decode cX1_leastFrom 3 = .ok (.invokevirtual 69, 3) := by decide +kernel
theorem dX1_leastFrom_6 : decode cX1_leastFrom 6 = .ok (.iconst 0, 1) := by decide +kernel
theorem dX1_leastFrom_7 : decode cX1_leastFrom 7 = .ok (.invokevirtual 76, 3) := by decide +kernel
theorem dX1_leastFrom_10 : decode cX1_leastFrom 10 = .ok (.lstore_n 2, 1) := by decide +kernel
theorem dX1_leastFrom_11 : decode cX1_leastFrom 11 = .ok (.aload_n 0, 1) := by decide +kernel
theorem dX1_leastFrom_12 : decode cX1_leastFrom 12 = .ok (.iload_n 1, 1) := by decide +kernel
theorem dX1_leastFrom_13 : decode cX1_leastFrom 13 = .ok (.invokevirtual 69, 3) := by decide +kernel
theorem dX1_leastFrom_16 : decode cX1_leastFrom 16 = .ok (.istore 4, 2) := by decide +kernel
theorem dX1_leastFrom_18 : decode cX1_leastFrom 18 = .ok (.iload 4, 2) := by decide +kernel
theorem dX1_leastFrom_20 : decode cX1_leastFrom 20 = .ok (.aload_n 0, 1) := by decide +kernel
theorem dX1_leastFrom_21 : decode cX1_leastFrom 21 = .ok (.getfield 15, 3) := by decide +kernel
theorem dX1_leastFrom_24 : decode cX1_leastFrom 24 = .ok (.if_icmp .ge 21, 3) := by decide +kernel
theorem dX1_leastFrom_27 : decode cX1_leastFrom 27 = .ok (.lload_n 2, 1) := by decide +kernel
theorem dX1_leastFrom_28 : decode cX1_leastFrom 28 = .ok (.aload_n 0, 1) := by decide +kernel
theorem dX1_leastFrom_29 : decode cX1_leastFrom 29 = .ok (.iload 4, 2) := by decide +kernel
theorem dX1_leastFrom_31 : decode cX1_leastFrom 31 = .ok (.iconst 0, 1) := by decide +kernel
theorem dX1_leastFrom_32 : decode cX1_leastFrom 32 = .ok (.invokevirtual 76, 3) := by decide +kernel
theorem dX1_leastFrom_35 : decode cX1_leastFrom 35 = .ok (.invokestatic 86, 3) := by decide +kernel
theorem dX1_leastFrom_38 : decode cX1_leastFrom 38 = .ok (.lstore_n 2, 1) := by decide +kernel
theorem dX1_leastFrom_39 : decode cX1_leastFrom 39 = .ok (.iinc 4 1, 3) := by decide +kernel
theorem dX1_leastFrom_42 : decode cX1_leastFrom 42 = .ok (.goto (-24), 3) := by decide +kernel
theorem dX1_leastFrom_45 : decode cX1_leastFrom 45 = .ok (.lload_n 2, 1) := by decide +kernel
theorem dX1_leastFrom_46 : decode cX1_leastFrom 46 = .ok (.lreturn, 1) := by decide +kernel
abbrev csX1_greatestFrom : List (List Cond) := [[.code yX1_greatestFrom cX1_greatestFrom 5 (some .long)], wsX1_greatestFrom_r1, wsX1_greatestFrom_r2, wsX10]
set_option maxRecDepth 20000 in
theorem hbX1_greatestFrom : wsX1_greatestFrom = csX1_greatestFrom.flatten := rfl
set_option maxRecDepth 20000 in
theorem ggX1_greatestFrom_X1_firstFrom : GoodIn wsX1_greatestFrom wsX1_firstFrom := goodIn_c csX1_greatestFrom hbX1_greatestFrom _ [(1, 9), (1, 0), (1, 10), (1, 11), (1, 3), (1, 12), (3, 0), (3, 1)] rfl (by decide +kernel)
set_option maxRecDepth 20000 in
theorem gX1_greatestFrom_X1_firstFrom : GoodIn wsX1_greatestFrom (wsV RX1 69 RX1 yX1_firstFrom wsX1_firstFrom) := goodIn_app (goodIn_c csX1_greatestFrom hbX1_greatestFrom [.methodLink RX1 69 yX1_firstFrom, .instanceMethod yX1_firstFrom, .selects RX1 yX1_firstFrom yX1_firstFrom, .initialized RX1] [(1, 5), (1, 6), (1, 7), (1, 8)] rfl (by decide +kernel)) ggX1_greatestFrom_X1_firstFrom
set_option maxRecDepth 20000 in
theorem ggX1_greatestFrom_X1_numberOf : GoodIn wsX1_greatestFrom wsX1_numberOf := goodIn_c csX1_greatestFrom hbX1_greatestFrom _ [(1, 16), (1, 17), (1, 18), (1, 19), (1, 8), (1, 20), (1, 21), (1, 22), (1, 23), (2, 0), (3, 0), (3, 1)] rfl (by decide +kernel)
set_option maxRecDepth 20000 in
theorem gX1_greatestFrom_X1_numberOf : GoodIn wsX1_greatestFrom (wsV RX1 76 RX1 yX1_numberOf wsX1_numberOf) := goodIn_app (goodIn_c csX1_greatestFrom hbX1_greatestFrom [.methodLink RX1 76 yX1_numberOf, .instanceMethod yX1_numberOf, .selects RX1 yX1_numberOf yX1_numberOf, .initialized RX1] [(1, 13), (1, 14), (1, 15), (1, 8)] rfl (by decide +kernel)) ggX1_greatestFrom_X1_numberOf
theorem dX1_greatestFrom_0 : decode cX1_greatestFrom 0 = .ok (.aload_n 0, 1) := by decide +kernel
theorem dX1_greatestFrom_1 : decode cX1_greatestFrom 1 = .ok (.aload_n 0, 1) := by decide +kernel
theorem dX1_greatestFrom_2 : decode cX1_greatestFrom 2 = .ok (.iload_n 1, 1) := by decide +kernel
theorem dX1_greatestFrom_3 : decode cX1_greatestFrom 3 = .ok (.invokevirtual 69, 3) := by decide +kernel
theorem dX1_greatestFrom_6 : decode cX1_greatestFrom 6 = .ok (.iconst 0, 1) := by decide +kernel
theorem dX1_greatestFrom_7 : decode cX1_greatestFrom 7 = .ok (.invokevirtual 76, 3) := by decide +kernel
theorem dX1_greatestFrom_10 : decode cX1_greatestFrom 10 = .ok (.lstore_n 2, 1) := by decide +kernel
theorem dX1_greatestFrom_11 : decode cX1_greatestFrom 11 = .ok (.aload_n 0, 1) := by decide +kernel
theorem dX1_greatestFrom_12 : decode cX1_greatestFrom 12 = .ok (.iload_n 1, 1) := by decide +kernel
theorem dX1_greatestFrom_13 : decode cX1_greatestFrom 13 = .ok (.invokevirtual 69, 3) := by decide +kernel
theorem dX1_greatestFrom_16 : decode cX1_greatestFrom 16 = .ok (.istore 4, 2) := by decide +kernel
theorem dX1_greatestFrom_18 : decode cX1_greatestFrom 18 = .ok (.iload 4, 2) := by decide +kernel
theorem dX1_greatestFrom_20 : decode cX1_greatestFrom 20 = .ok (.aload_n 0, 1) := by decide +kernel
theorem dX1_greatestFrom_21 : decode cX1_greatestFrom 21 = .ok (.getfield 15, 3) := by decide +kernel
theorem dX1_greatestFrom_24 : decode cX1_greatestFrom 24 = .ok (.if_icmp .ge 21, 3) := by decide +kernel
theorem dX1_greatestFrom_27 : decode cX1_greatestFrom 27 = .ok (.lload_n 2, 1) := by decide +kernel
theorem dX1_greatestFrom_28 : decode cX1_greatestFrom 28 = .ok (.aload_n 0, 1) := by decide +kernel
theorem dX1_greatestFrom_29 : decode cX1_greatestFrom 29 = .ok (.iload 4, 2) := by decide +kernel
theorem dX1_greatestFrom_31 : decode cX1_greatestFrom 31 = .ok (.iconst 0, 1) := by decide +kernel
theorem dX1_greatestFrom_32 : decode cX1_greatestFrom 32 = .ok (.invokevirtual 76, 3) := by decide +kernel
theorem dX1_greatestFrom_35 : decode cX1_greatestFrom 35 = .ok (.invokestatic 89, 3) := by decide +kernel
theorem dX1_greatestFrom_38 : decode cX1_greatestFrom 38 = .ok (.lstore_n 2, 1) := by decide +kernel
theorem dX1_greatestFrom_39 : decode cX1_greatestFrom 39 = .ok (.iinc 4 1, 3) := by decide +kernel
theorem dX1_greatestFrom_42 : decode cX1_greatestFrom 42 = .ok (.goto (-24), 3) := by decide +kernel
theorem dX1_greatestFrom_45 : decode cX1_greatestFrom 45 = .ok (.lload_n 2, 1) := by decide +kernel
theorem dX1_greatestFrom_46 : decode cX1_greatestFrom 46 = .ok (.lreturn, 1) := by decide +kernel
abbrev csX2_init : List (List Cond) := [[.code yX2_init cX2_init 1 none], wsX2_init_r1, wsX2_init_r2, wsX50, wsX20, wsX40, wsX00]
set_option maxRecDepth 20000 in
theorem hbX2_init : wsX2_init = csX2_init.flatten := rfl
set_option maxRecDepth 20000 in
theorem ggX2_init_X5_init : GoodIn wsX2_init wsX5_init := goodIn_c csX2_init hbX2_init _ [(1, 16), (1, 17), (1, 1), (1, 2), (1, 18), (3, 0), (3, 1), (3, 2), (3, 3), (3, 4)] rfl (by decide +kernel)
set_option maxRecDepth 20000 in
theorem gX2_init_X5_init_n11 : GoodIn wsX2_init (wsX5_init) := ggX2_init_X5_init
set_option maxRecDepth 20000 in
theorem ggX2_init_X4_init : GoodIn wsX2_init wsX4_init := goodIn_c csX2_init hbX2_init _ [(1, 20), (1, 21), (1, 1), (1, 2), (1, 22), (1, 23), (2, 0), (5, 0), (5, 1), (5, 2), (5, 3), (5, 4), (5, 5)] rfl (by decide +kernel)
set_option maxRecDepth 20000 in
theorem gX2_init_X4_init_n20 : GoodIn wsX2_init (wsX4_init) := ggX2_init_X4_init
set_option maxRecDepth 20000 in
theorem ggX2_init_X0_init : GoodIn wsX2_init wsX0_init := goodIn_c csX2_init hbX2_init _ [(2, 2), (2, 3), (1, 1), (1, 2)] rfl (by decide +kernel)
set_option maxRecDepth 20000 in
theorem gX2_init_X0_init_n27 : GoodIn wsX2_init (wsX0_init) := ggX2_init_X0_init
theorem dX2_init_0 : decode cX2_init 0 = .ok (.aload_n 0, 1) := by decide +kernel
theorem dX2_init_1 : decode cX2_init 1 = .ok (.invokespecial 3, 3) := by decide +kernel
theorem dX2_init_4 : decode cX2_init 4 = .ok (.aload_n 0, 1) := by decide +kernel
theorem dX2_init_5 : decode cX2_init 5 = .ok (.new 9, 3) := by decide +kernel
theorem dX2_init_8 : decode cX2_init 8 = .ok (.dup, 1) := by decide +kernel
theorem dX2_init_9 : decode cX2_init 9 = .ok (.invokespecial 11, 3) := by decide +kernel
theorem dX2_init_12 : decode cX2_init 12 = .ok (.putfield 12, 3) := by decide +kernel
theorem dX2_init_15 : decode cX2_init 15 = .ok (.aload_n 0, 1) := by decide +kernel
theorem dX2_init_16 : decode cX2_init 16 = .ok (.new 18, 3) := by decide +kernel
theorem dX2_init_19 : decode cX2_init 19 = .ok (.dup, 1) := by decide +kernel
theorem dX2_init_20 : decode cX2_init 20 = .ok (.invokespecial 20, 3) := by decide +kernel
theorem dX2_init_23 : decode cX2_init 23 = .ok (.putfield 21, 3) := by decide +kernel
theorem dX2_init_26 : decode cX2_init 26 = .ok (.aload_n 0, 1) := by decide +kernel
theorem dX2_init_27 : decode cX2_init 27 = .ok (.new 25, 3) := by decide +kernel
theorem dX2_init_30 : decode cX2_init 30 = .ok (.dup, 1) := by decide +kernel
theorem dX2_init_31 : decode cX2_init 31 = .ok (.invokespecial 27, 3) := by decide +kernel
theorem dX2_init_34 : decode cX2_init 34 = .ok (.putfield 28, 3) := by decide +kernel
theorem dX2_init_37 : decode cX2_init 37 = .ok (.return_, 1) := by decide +kernel
abbrev csX2_copyFrom : List (List Cond) := [[.code yX2_copyFrom cX2_copyFrom 2 none], wsX2_copyFrom_r1, wsX2_copyFrom_r2, wsX20, wsX50, wsX40, wsX00]
set_option maxRecDepth 20000 in
theorem hbX2_copyFrom : wsX2_copyFrom = csX2_copyFrom.flatten := rfl
set_option maxRecDepth 20000 in
theorem ggX2_copyFrom_X5_copyFrom : GoodIn wsX2_copyFrom wsX5_copyFrom := goodIn_c csX2_copyFrom hbX2_copyFrom _ [(1, 13), (1, 14), (1, 15), (1, 16), (1, 17), (1, 18), (4, 0), (4, 1), (4, 2), (4, 3), (4, 4)] rfl (by decide +kernel)
set_option maxRecDepth 20000 in
theorem gX2_copyFrom_X5_copyFrom : GoodIn wsX2_copyFrom (wsV RX2 32 RX5 yX5_copyFrom wsX5_copyFrom) := goodIn_app (goodIn_c csX2_copyFrom hbX2_copyFrom [.methodLink RX2 32 yX5_copyFrom, .instanceMethod yX5_copyFrom, .selects RX5 yX5_copyFrom yX5_copyFrom, .initialized RX5] [(1, 9), (1, 10), (1, 11), (1, 12)] rfl (by decide +kernel)) ggX2_copyFrom_X5_copyFrom
set_option maxRecDepth 20000 in
theorem ggX2_copyFrom_X4_copyFrom : GoodIn wsX2_copyFrom wsX4_copyFrom := goodIn_c csX2_copyFrom hbX2_copyFrom _ [(1, 23), (2, 0), (2, 1), (2, 2), (2, 3), (2, 4), (2, 5), (5, 0), (5, 1), (5, 2), (5, 3), (5, 4), (5, 5)] rfl (by decide +kernel)
set_option maxRecDepth 20000 in
theorem gX2_copyFrom_X4_copyFrom : GoodIn wsX2_copyFrom (wsV RX2 36 RX4 yX4_copyFrom wsX4_copyFrom) := goodIn_app (goodIn_c csX2_copyFrom hbX2_copyFrom [.methodLink RX2 36 yX4_copyFrom, .instanceMethod yX4_copyFrom, .selects RX4 yX4_copyFrom yX4_copyFrom, .initialized RX4] [(1, 19), (1, 20), (1, 21), (1, 22)] rfl (by decide +kernel)) ggX2_copyFrom_X4_copyFrom
set_option maxRecDepth 20000 in
theorem ggX2_copyFrom_X0_copyFrom : GoodIn wsX2_copyFrom wsX0_copyFrom := goodIn_c csX2_copyFrom hbX2_copyFrom _ [(2, 10), (2, 11), (2, 12), (2, 13), (2, 14), (2, 15), (2, 16), (2, 17), (2, 18), (2, 19), (6, 0), (6, 1), (6, 2), (6, 3), (6, 4), (6, 5), (6, 6), (6, 7), (6, 8)] rfl (by decide +kernel)
set_option maxRecDepth 20000 in
theorem gX2_copyFrom_X0_copyFrom : GoodIn wsX2_copyFrom (wsV RX2 39 RX0 yX0_copyFrom wsX0_copyFrom) := goodIn_app (goodIn_c csX2_copyFrom hbX2_copyFrom [.methodLink RX2 39 yX0_copyFrom, .instanceMethod yX0_copyFrom, .selects RX0 yX0_copyFrom yX0_copyFrom, .initialized RX0] [(2, 6), (2, 7), (2, 8), (2, 9)] rfl (by decide +kernel)) ggX2_copyFrom_X0_copyFrom
theorem dX2_copyFrom_0 : decode cX2_copyFrom 0 = .ok (.aload_n 0, 1) := by decide +kernel
theorem dX2_copyFrom_1 : decode cX2_copyFrom 1 = .ok (.getfield 12, 3) := by decide +kernel
theorem dX2_copyFrom_4 : decode cX2_copyFrom 4 = .ok (.aload_n 1, 1) := by decide +kernel
theorem dX2_copyFrom_5 : decode cX2_copyFrom 5 = .ok (.getfield 12, 3) := by decide +kernel
theorem dX2_copyFrom_8 : decode cX2_copyFrom 8 = .ok (.invokevirtual 32, 3) := by decide +kernel
theorem dX2_copyFrom_11 : decode cX2_copyFrom 11 = .ok (.aload_n 0, 1) := by decide +kernel
theorem dX2_copyFrom_12 : decode cX2_copyFrom 12 = .ok (.getfield 21, 3) := by decide +kernel
theorem dX2_copyFrom_15 : decode cX2_copyFrom 15 = .ok (.aload_n 1, 1) := by decide +kernel
theorem dX2_copyFrom_16 : decode cX2_copyFrom 16 = .ok (.getfield 21, 3) := by decide +kernel
theorem dX2_copyFrom_19 : decode cX2_copyFrom 19 = .ok (.invokevirtual 36, 3) := by decide +kernel
theorem dX2_copyFrom_22 : decode cX2_copyFrom 22 = .ok (.aload_n 0, 1) := by decide +kernel
theorem dX2_copyFrom_23 : decode cX2_copyFrom 23 = .ok (.getfield 28, 3) := by decide +kernel
theorem dX2_copyFrom_26 : decode cX2_copyFrom 26 = .ok (.aload_n 1, 1) := by decide +kernel
theorem dX2_copyFrom_27 : decode cX2_copyFrom 27 = .ok (.getfield 28, 3) := by decide +kernel
theorem dX2_copyFrom_30 : decode cX2_copyFrom 30 = .ok (.invokevirtual 39, 3) := by decide +kernel
theorem dX2_copyFrom_33 : decode cX2_copyFrom 33 = .ok (.aload_n 0, 1) := by decide +kernel
theorem dX2_copyFrom_34 : decode cX2_copyFrom 34 = .ok (.aload_n 1, 1) := by decide +kernel
theorem dX2_copyFrom_35 : decode cX2_copyFrom 35 = .ok (.getfield 42, 3) := by decide +kernel
theorem dX2_copyFrom_38 : decode cX2_copyFrom 38 = .ok (.putfield 42, 3) := by decide +kernel
theorem dX2_copyFrom_41 : decode cX2_copyFrom 41 = .ok (.aload_n 0, 1) := by decide +kernel
theorem dX2_copyFrom_42 : decode cX2_copyFrom 42 = .ok (.aload_n 1, 1) := by decide +kernel
theorem dX2_copyFrom_43 : decode cX2_copyFrom 43 = .ok (.getfield 46, 3) := by decide +kernel
theorem dX2_copyFrom_46 : decode cX2_copyFrom 46 = .ok (.putfield 46, 3) := by decide +kernel
theorem dX2_copyFrom_49 : decode cX2_copyFrom 49 = .ok (.aload_n 0, 1) := by decide +kernel
theorem dX2_copyFrom_50 : decode cX2_copyFrom 50 = .ok (.aload_n 1, 1) := by decide +kernel
theorem dX2_copyFrom_51 : decode cX2_copyFrom 51 = .ok (.getfield 49, 3) := by decide +kernel
theorem dX2_copyFrom_54 : decode cX2_copyFrom 54 = .ok (.putfield 49, 3) := by decide +kernel
theorem dX2_copyFrom_57 : decode cX2_copyFrom 57 = .ok (.aload_n 0, 1) := by decide +kernel
theorem dX2_copyFrom_58 : decode cX2_copyFrom 58 = .ok (.aload_n 1, 1) := by decide +kernel
theorem dX2_copyFrom_59 : decode cX2_copyFrom 59 = .ok (.getfield 52, 3) := by decide +kernel
theorem dX2_copyFrom_62 : decode cX2_copyFrom 62 = .ok (.putfield 52, 3) := by decide +kernel
theorem dX2_copyFrom_65 : decode cX2_copyFrom 65 = .ok (.aload_n 0, 1) := by decide +kernel
theorem dX2_copyFrom_66 : decode cX2_copyFrom 66 = .ok (.aload_n 1, 1) := by decide +kernel
theorem dX2_copyFrom_67 : decode cX2_copyFrom 67 = .ok (.getfield 55, 3) := by decide +kernel
theorem dX2_copyFrom_70 : decode cX2_copyFrom 70 = .ok (.putfield 55, 3) := by decide +kernel
theorem dX2_copyFrom_73 : decode cX2_copyFrom 73 = .ok (.aload_n 0, 1) := by decide +kernel
theorem dX2_copyFrom_74 : decode cX2_copyFrom 74 = .ok (.aload_n 1, 1) := by decide +kernel
theorem dX2_copyFrom_75 : decode cX2_copyFrom 75 = .ok (.getfield 58, 3) := by decide +kernel
theorem dX2_copyFrom_78 : decode cX2_copyFrom 78 = .ok (.putfield 58, 3) := by decide +kernel
theorem dX2_copyFrom_81 : decode cX2_copyFrom 81 = .ok (.return_, 1) := by decide +kernel
theorem dX2_canWait_0 : decode cX2_canWait 0 = .ok (.aload_n 0, 1) := by decide +kernel
theorem dX2_canWait_1 : decode cX2_canWait 1 = .ok (.getfield 42, 3) := by decide +kernel
theorem dX2_canWait_4 : decode cX2_canWait 4 = .ok (.ldc 62, 2) := by decide +kernel
theorem dX2_canWait_6 : decode cX2_canWait 6 = .ok (.iload_n 1, 1) := by decide +kernel
theorem dX2_canWait_7 : decode cX2_canWait 7 = .ok (.isub, 1) := by decide +kernel
theorem dX2_canWait_8 : decode cX2_canWait 8 = .ok (.if_icmp .gt 7, 3) := by decide +kernel
theorem dX2_canWait_11 : decode cX2_canWait 11 = .ok (.iconst 1, 1) := by decide +kernel
theorem dX2_canWait_12 : decode cX2_canWait 12 = .ok (.goto 4, 3) := by decide +kernel
theorem dX2_canWait_15 : decode cX2_canWait 15 = .ok (.iconst 0, 1) := by decide +kernel
theorem dX2_canWait_16 : decode cX2_canWait 16 = .ok (.ireturn, 1) := by decide +kernel
abbrev csX2_makeReading : List (List Cond) := [[.code yX2_makeReading cX2_makeReading 6 (some .long)], wsX2_makeReading_r1, wsX2_makeReading_r2, wsX2_makeReading_r3, wsX2_makeReading_r4, wsX2_makeReading_r5, wsX20, wsX40, wsX00, wsX50]
set_option maxRecDepth 20000 in
theorem hbX2_makeReading : wsX2_makeReading = csX2_makeReading.flatten := rfl
set_option maxRecDepth 20000 in
theorem ggX2_makeReading_X2_convertZero : GoodIn wsX2_makeReading wsX2_convertZero := goodIn_c csX2_makeReading hbX2_makeReading _ [(1, 18), (1, 7), (1, 8), (1, 9), (1, 19), (1, 20), (1, 21), (1, 17), (1, 22), (1, 0), (1, 11), (1, 23), (1, 5), (2, 0), (2, 1), (2, 2), (2, 3), (2, 4), (2, 5), (2, 6), (2, 7), (2, 8), (2, 9), (2, 10), (2, 11), (2, 12), (2, 13), (2, 14), (2, 15), (2, 16), (2, 17), (2, 18), (2, 19), (2, 20), (2, 21), (2, 22), (2, 23), (3, 0), (3, 1), (3, 2), (3, 3), (3, 4), (3, 5), (3, 6), (3, 7), (3, 8), (3, 9), (3, 10), (3, 11), (3, 12), (3, 13), (3, 14), (3, 15), (3, 16), (3, 17), (3, 18), (3, 19), (3, 20), (3, 21), (3, 22), (3, 23), (4, 0), (4, 1), (4, 2), (4, 3), (4, 4), (4, 5), (4, 6), (4, 7), (4, 8), (4, 9), (4, 10), (4, 11), (4, 12), (4, 13), (4, 14), (4, 15), (4, 16), (4, 17), (6, 0), (6, 1), (6, 2), (6, 3), (6, 4), (6, 5), (6, 6), (6, 7), (6, 8), (8, 0), (8, 1), (8, 2), (8, 3), (8, 4), (8, 5), (8, 6), (8, 7), (8, 8), (7, 0), (7, 1), (7, 2), (7, 3), (7, 4), (7, 5), (9, 0), (9, 1), (9, 2), (9, 3), (9, 4)] rfl (by decide +kernel)
set_option maxRecDepth 20000 in
theorem gX2_makeReading_X2_convertZero : GoodIn wsX2_makeReading (wsV RX2 66 RX2 yX2_convertZero wsX2_convertZero) := goodIn_app (goodIn_c csX2_makeReading hbX2_makeReading [.methodLink RX2 66 yX2_convertZero, .instanceMethod yX2_convertZero, .selects RX2 yX2_convertZero yX2_convertZero, .initialized RX2] [(1, 14), (1, 15), (1, 16), (1, 17)] rfl (by decide +kernel)) ggX2_makeReading_X2_convertZero
set_option maxRecDepth 20000 in
theorem ggX2_makeReading_X7_gainOf : GoodIn wsX2_makeReading wsX7_gainOf := goodIn_c csX2_makeReading hbX2_makeReading _ [(4, 19), (4, 20)] rfl (by decide +kernel)
set_option maxRecDepth 20000 in
theorem gX2_makeReading_X7_gainOf_n72 : GoodIn wsX2_makeReading (wsX7_gainOf) := ggX2_makeReading_X7_gainOf
set_option maxRecDepth 20000 in
theorem ggX2_makeReading_X2_convert : GoodIn wsX2_makeReading wsX2_convert := goodIn_c csX2_makeReading hbX2_makeReading _ [(1, 22), (1, 7), (1, 0), (1, 11), (1, 23), (1, 5), (2, 0), (2, 1), (2, 2), (2, 3), (2, 4), (2, 5), (2, 6), (2, 7), (2, 8), (2, 9), (2, 10), (2, 11), (2, 12), (2, 13), (2, 14), (2, 15), (2, 16), (2, 17), (2, 18), (2, 19), (2, 20), (2, 21), (2, 22), (2, 23), (3, 0), (3, 1), (3, 2), (3, 3), (3, 4), (3, 5), (3, 6), (3, 7), (3, 8), (3, 9), (3, 10), (3, 11), (3, 12), (3, 13), (3, 14), (3, 15), (3, 16), (3, 17), (3, 18), (3, 19), (3, 20), (3, 21), (3, 22), (3, 23), (4, 0), (4, 1), (4, 2), (4, 3), (4, 4), (4, 5), (4, 6), (4, 7), (4, 8), (4, 9), (4, 10), (4, 11), (4, 12), (4, 13), (4, 14), (4, 15), (4, 16), (4, 17), (6, 0), (6, 1), (6, 2), (6, 3), (6, 4), (6, 5), (6, 6), (6, 7), (6, 8), (7, 0), (7, 1), (7, 2), (7, 3), (7, 4), (7, 5), (8, 0), (8, 1), (8, 2), (8, 3), (8, 4), (8, 5), (8, 6), (8, 7), (8, 8), (9, 0), (9, 1), (9, 2), (9, 3), (9, 4)] rfl (by decide +kernel)
set_option maxRecDepth 20000 in
theorem gX2_makeReading_X2_convert : GoodIn wsX2_makeReading (wsV RX2 76 RX2 yX2_convert wsX2_convert) := goodIn_app (goodIn_c csX2_makeReading hbX2_makeReading [.methodLink RX2 76 yX2_convert, .instanceMethod yX2_convert, .selects RX2 yX2_convert yX2_convert, .initialized RX2] [(1, 19), (1, 20), (1, 21), (1, 17)] rfl (by decide +kernel)) ggX2_makeReading_X2_convert
set_option maxRecDepth 20000 in
theorem ggX2_makeReading_X2_switchRange : GoodIn wsX2_makeReading wsX2_switchRange := goodIn_c csX2_makeReading hbX2_makeReading _ [(5, 0), (1, 10), (5, 1), (5, 2), (5, 3), (5, 4), (1, 0), (1, 11), (1, 7), (5, 5), (1, 3), (5, 6), (5, 7), (5, 8), (5, 9), (5, 10), (5, 11), (6, 0), (6, 1), (6, 2), (6, 3), (6, 4), (6, 5), (6, 6), (6, 7), (6, 8), (7, 0), (7, 1), (7, 2), (7, 3), (7, 4), (7, 5), (8, 0), (8, 1), (8, 2), (8, 3), (8, 4), (8, 5), (8, 6), (8, 7), (8, 8)] rfl (by decide +kernel)
set_option maxRecDepth 20000 in
theorem gX2_makeReading_X2_switchRange : GoodIn wsX2_makeReading (wsV RX2 91 RX2 yX2_switchRange wsX2_switchRange) := goodIn_app (goodIn_c csX2_makeReading hbX2_makeReading [.methodLink RX2 91 yX2_switchRange, .instanceMethod yX2_switchRange, .selects RX2 yX2_switchRange yX2_switchRange, .initialized RX2] [(4, 21), (4, 22), (4, 23), (1, 17)] rfl (by decide +kernel)) ggX2_makeReading_X2_switchRange
theorem dX2_makeReading_0 : decode cX2_makeReading 0 = .ok (.aload_n 0, 1) := by decide +kernel
theorem dX2_makeReading_1 : decode cX2_makeReading 1 = .ok (.getfield 21, 3) := by decide +kernel
theorem dX2_makeReading_4 : decode cX2_makeReading 4 = .ok (.getfield 63, 3) := by decide +kernel
theorem dX2_makeReading_7 : decode cX2_makeReading 7 = .ok (.ifCond .le 35, 3) := by decide +kernel
theorem dX2_makeReading_10 : decode cX2_makeReading 10 = .ok (.aload_n 0, 1) := by decide +kernel
theorem dX2_makeReading_11 : decode cX2_makeReading 11 = .ok (.getfield 49, 3) := by decide +kernel
theorem dX2_makeReading_14 : decode cX2_makeReading 14 = .ok (.ifCond .ne 18, 3) := by decide +kernel
theorem dX2_makeReading_17 : decode cX2_makeReading 17 = .ok (.aload_n 0, 1) := by decide +kernel
theorem dX2_makeReading_18 : decode cX2_makeReading 18 = .ok (.invokevirtual 66, 3) := by decide +kernel
theorem dX2_makeReading_21 : decode cX2_makeReading 21 = .ok (.aload_n 0, 1) := by decide +kernel
theorem dX2_makeReading_22 : decode cX2_makeReading 22 = .ok (.aload_n 0, 1) := by decide +kernel
theorem dX2_makeReading_23 : decode cX2_makeReading 23 = .ok (.getfield 21, 3) := by decide +kernel
theorem dX2_makeReading_26 : decode cX2_makeReading 26 = .ok (.getfield 63, 3) := by decide +kernel
theorem dX2_makeReading_29 : decode cX2_makeReading 29 = .ok (.putfield 49, 3) := by decide +kernel
theorem dX2_makeReading_32 : decode cX2_makeReading 32 = .ok (.aload_n 0, 1) := by decide +kernel
theorem dX2_makeReading_33 : decode cX2_makeReading 33 = .ok (.dup, 1) := by decide +kernel
theorem dX2_makeReading_34 : decode cX2_makeReading 34 = .ok (.getfield 49, 3) := by decide +kernel
theorem dX2_makeReading_37 : decode cX2_makeReading 37 = .ok (.iconst 1, 1) := by decide +kernel
theorem dX2_makeReading_38 : decode cX2_makeReading 38 = .ok (.isub, 1) := by decide +kernel
theorem dX2_makeReading_39 : decode cX2_makeReading 39 = .ok (.putfield 49, 3) := by decide +kernel
theorem dX2_makeReading_42 : decode cX2_makeReading 42 = .ok (.aload_n 0, 1) := by decide +kernel
theorem dX2_makeReading_43 : decode cX2_makeReading 43 = .ok (.getfield 21, 3) := by decide +kernel
theorem dX2_makeReading_46 : decode cX2_makeReading 46 = .ok (.getfield 69, 3) := by decide +kernel
theorem dX2_makeReading_49 : decode cX2_makeReading 49 = .ok (.invokestatic 72, 3) := by decide +kernel
theorem dX2_makeReading_52 : decode cX2_makeReading 52 = .ok (.istore_n 1, 1) := by decide +kernel
theorem dX2_makeReading_53 : decode cX2_makeReading 53 = .ok (.aload_n 0, 1) := by decide +kernel
theorem dX2_makeReading_54 : decode cX2_makeReading 54 = .ok (.aload_n 0, 1) := by decide +kernel
theorem dX2_makeReading_55 : decode cX2_makeReading 55 = .ok (.getfield 21, 3) := by decide +kernel
theorem dX2_makeReading_58 : decode cX2_makeReading 58 = .ok (.getfield 69, 3) := by decide +kernel
theorem dX2_makeReading_61 : decode cX2_makeReading 61 = .ok (.putfield 52, 3) := by decide +kernel
theorem dX2_makeReading_64 : decode cX2_makeReading 64 = .ok (.aload_n 0, 1) := by decide +kernel
theorem dX2_makeReading_65 : decode cX2_makeReading 65 = .ok (.aload_n 0, 1) := by decide +kernel
theorem dX2_makeReading_66 : decode cX2_makeReading 66 = .ok (.getfield 42, 3) := by decide +kernel
theorem dX2_makeReading_69 : decode cX2_makeReading 69 = .ok (.putfield 55, 3) := by decide +kernel
theorem dX2_makeReading_72 : decode cX2_makeReading 72 = .ok (.aload_n 0, 1) := by decide +kernel
theorem dX2_makeReading_73 : decode cX2_makeReading 73 = .ok (.iload_n 1, 1) := by decide +kernel
theorem dX2_makeReading_74 : decode cX2_makeReading 74 = .ok (.invokevirtual 76, 3) := by decide +kernel
theorem dX2_makeReading_77 : decode cX2_makeReading 77 = .ok (.aload_n 0, 1) := by decide +kernel
theorem dX2_makeReading_78 : decode cX2_makeReading 78 = .ok (.aload_n 0, 1) := by decide +kernel
theorem dX2_makeReading_79 : decode cX2_makeReading 79 = .ok (.getfield 28, 3) := by decide +kernel
theorem dX2_makeReading_82 : decode cX2_makeReading 82 = .ok (.getfield 80, 3) := by decide +kernel
theorem dX2_makeReading_85 : decode cX2_makeReading 85 = .ok (.i2l, 1) := by decide +kernel
theorem dX2_makeReading_86 : decode cX2_makeReading 86 = .ok (.aload_n 0, 1) := by decide +kernel
theorem dX2_makeReading_87 : decode cX2_makeReading 87 = .ok (.getfield 46, 3) := by decide +kernel
theorem dX2_makeReading_90 : decode cX2_makeReading 90 = .ok (.i2l, 1) := by decide +kernel
theorem dX2_makeReading_91 : decode cX2_makeReading 91 = .ok (.lsub, 1) := by decide +kernel
theorem dX2_makeReading_92 : decode cX2_makeReading 92 = .ok (.putfield 58, 3) := by decide +kernel
theorem dX2_makeReading_95 : decode cX2_makeReading 95 = .ok (.aload_n 0, 1) := by decide +kernel
theorem dX2_makeReading_96 : decode cX2_makeReading 96 = .ok (.getfield 21, 3) := by decide +kernel
theorem dX2_makeReading_99 : decode cX2_makeReading 99 = .ok (.getfield 83, 3) := by decide +kernel
theorem dX2_makeReading_102 : decode cX2_makeReading 102 = .ok (.i2l, 1) := by decide +kernel
theorem dX2_makeReading_103 : decode cX2_makeReading 103 = .ok (.iload_n 1, 1) := by decide +kernel
theorem dX2_makeReading_104 : decode cX2_makeReading 104 = .ok (.i2l, 1) := by decide +kernel
theorem dX2_makeReading_105 : decode cX2_makeReading 105 = .ok (.lmul, 1) := by decide +kernel
theorem dX2_makeReading_106 : decode cX2_makeReading 106 = .ok (.lstore_n 2, 1) := by decide +kernel
theorem dX2_makeReading_107 : decode cX2_makeReading 107 = .ok (.lload_n 2, 1) := by decide +kernel
theorem dX2_makeReading_108 : decode cX2_makeReading 108 = .ok (.lconst 0, 1) := by decide +kernel
theorem dX2_makeReading_109 : decode cX2_makeReading 109 = .ok (.lcmp, 1) := by decide +kernel
theorem dX2_makeReading_110 : decode cX2_makeReading 110 = .ok (.ifCond .gt 7, 3) := by decide +kernel
theorem dX2_makeReading_113 : decode cX2_makeReading 113 = .ok (.lconst 0, 1) := by decide +kernel
theorem dX2_makeReading_114 : decode cX2_makeReading 114 = .ok (.goto 13, 3) := by decide +kernel
theorem dX2_makeReading_117 : decode cX2_makeReading 117 = .ok (.aload_n 0, 1) := by decide +kernel
theorem dX2_makeReading_118 : decode cX2_makeReading 118 = .ok (.getfield 58, 3) := by decide +kernel
theorem dX2_makeReading_121 : decode cX2_makeReading 121 = .ok (.ldc2_w 86, 3) := by decide +kernel
theorem dX2_makeReading_124 : decode cX2_makeReading 124 = .ok (.lmul, 1) := by decide +kernel
theorem dX2_makeReading_125 : decode cX2_makeReading 125 = .ok (.lload_n 2, 1) := by decide +kernel
theorem dX2_makeReading_126 : decode cX2_makeReading 126 = .ok (.ldiv, 1) := by decide +kernel
theorem dX2_makeReading_127 : decode cX2_makeReading 127 = .ok (.lstore 4, 2) := by decide +kernel
theorem dX2_makeReading_129 : decode cX2_makeReading 129 = .ok (.aload_n 0, 1) := by decide +kernel
theorem dX2_makeReading_130 : decode cX2_makeReading 130 = .ok (.getfield 21, 3) := by decide +kernel
theorem dX2_makeReading_133 : decode cX2_makeReading 133 = .ok (.getfield 88, 3) := by decide +kernel
theorem dX2_makeReading_136 : decode cX2_makeReading 136 = .ok (.iconst 1, 1) := by decide +kernel
theorem dX2_makeReading_137 : decode cX2_makeReading 137 = .ok (.if_icmp .ne 7, 3) := by decide +kernel
theorem dX2_makeReading_140 : decode cX2_makeReading 140 = .ok (.aload_n 0, 1) := by decide +kernel
theorem dX2_makeReading_141 : decode cX2_makeReading 141 = .ok (.invokevirtual 91, 3) := by decide +kernel
theorem dX2_makeReading_144 : decode cX2_makeReading 144 = .ok (.lload 4, 2) := by decide +kernel
theorem dX2_makeReading_146 : decode cX2_makeReading 146 = .ok (.lreturn, 1) := by decide +kernel
abbrev csX2_convertZero : List (List Cond) := [[.code yX2_convertZero cX2_convertZero 1 none], wsX2_convertZero_r1, wsX2_convertZero_r2, wsX2_convertZero_r3, wsX2_convertZero_r4, wsX20, wsX00, wsX40, wsX50]
set_option maxRecDepth 20000 in
theorem hbX2_convertZero : wsX2_convertZero = csX2_convertZero.flatten := rfl
set_option maxRecDepth 20000 in
theorem ggX2_convertZero_X2_convert : GoodIn wsX2_convertZero wsX2_convert := goodIn_c csX2_convertZero hbX2_convertZero _ [(1, 7), (1, 0), (1, 8), (1, 9), (1, 10), (1, 11), (1, 12), (1, 13), (1, 14), (1, 15), (1, 16), (1, 17), (1, 18), (1, 19), (1, 20), (1, 21), (1, 22), (1, 23), (2, 0), (2, 1), (2, 2), (2, 3), (2, 4), (2, 5), (2, 6), (2, 7), (2, 8), (2, 9), (2, 10), (2, 11), (2, 12), (2, 13), (2, 14), (2, 15), (2, 16), (2, 17), (2, 18), (2, 19), (2, 20), (2, 21), (2, 22), (2, 23), (3, 0), (3, 1), (3, 2), (3, 3), (3, 4), (3, 5), (3, 6), (3, 7), (3, 8), (3, 9), (3, 10), (3, 11), (3, 12), (3, 13), (3, 14), (3, 15), (3, 16), (3, 17), (3, 18), (3, 19), (3, 20), (3, 21), (3, 22), (3, 23), (4, 0), (4, 1), (4, 2), (4, 3), (4, 4), (4, 5), (5, 0), (5, 1), (5, 2), (5, 3), (5, 4), (5, 5), (5, 6), (5, 7), (5, 8), (7, 0), (7, 1), (7, 2), (7, 3), (7, 4), (7, 5), (6, 0), (6, 1), (6, 2), (6, 3), (6, 4), (6, 5), (6, 6), (6, 7), (6, 8), (8, 0), (8, 1), (8, 2), (8, 3), (8, 4)] rfl (by decide +kernel)
set_option maxRecDepth 20000 in
theorem gX2_convertZero_X2_convert : GoodIn wsX2_convertZero (wsV RX2 76 RX2 yX2_convert wsX2_convert) := goodIn_app (goodIn_c csX2_convertZero hbX2_convertZero [.methodLink RX2 76 yX2_convert, .instanceMethod yX2_convert, .selects RX2 yX2_convert yX2_convert, .initialized RX2] [(1, 3), (1, 4), (1, 5), (1, 6)] rfl (by decide +kernel)) ggX2_convertZero_X2_convert
theorem dX2_convertZero_0 : decode cX2_convertZero 0 = .ok (.aload_n 0, 1) := by decide +kernel
theorem dX2_convertZero_1 : decode cX2_convertZero 1 = .ok (.iconst 0, 1) := by decide +kernel
theorem dX2_convertZero_2 : decode cX2_convertZero 2 = .ok (.invokevirtual 76, 3) := by decide +kernel
theorem dX2_convertZero_5 : decode cX2_convertZero 5 = .ok (.aload_n 0, 1) := by decide +kernel
theorem dX2_convertZero_6 : decode cX2_convertZero 6 = .ok (.aload_n 0, 1) := by decide +kernel
theorem dX2_convertZero_7 : decode cX2_convertZero 7 = .ok (.getfield 28, 3) := by decide +kernel
theorem dX2_convertZero_10 : decode cX2_convertZero 10 = .ok (.getfield 80, 3) := by decide +kernel
theorem dX2_convertZero_13 : decode cX2_convertZero 13 = .ok (.putfield 46, 3) := by decide +kernel
theorem dX2_convertZero_16 : decode cX2_convertZero 16 = .ok (.return_, 1) := by decide +kernel
abbrev csX2_convert : List (List Cond) := [[.code yX2_convert cX2_convert 4 none], wsX2_convert_r1, wsX2_convert_r2, wsX2_convert_r3, wsX20, wsX40, wsX00, wsX50]
set_option maxRecDepth 20000 in
theorem hbX2_convert : wsX2_convert = csX2_convert.flatten := rfl
set_option maxRecDepth 20000 in
theorem ggX2_convert_X0_begin : GoodIn wsX2_convert wsX0_begin := goodIn_c csX2_convert hbX2_convert _ [(1, 11), (1, 12), (1, 13), (1, 14), (1, 15), (1, 16), (1, 17), (1, 18), (6, 0), (6, 1), (6, 2), (6, 3), (6, 4), (6, 5), (6, 6), (6, 7), (6, 8)] rfl (by decide +kernel)
set_option maxRecDepth 20000 in
theorem gX2_convert_X0_begin : GoodIn wsX2_convert (wsV RX2 94 RX0 yX0_begin wsX0_begin) := goodIn_app (goodIn_c csX2_convert hbX2_convert [.methodLink RX2 94 yX0_begin, .instanceMethod yX0_begin, .selects RX0 yX0_begin yX0_begin, .initialized RX0] [(1, 7), (1, 8), (1, 9), (1, 10)] rfl (by decide +kernel)) ggX2_convert_X0_begin
set_option maxRecDepth 20000 in
theorem ggX2_convert_X4_beginsSlot : GoodIn wsX2_convert wsX4_beginsSlot := goodIn_c csX2_convert hbX2_convert _ [(1, 23), (2, 0), (2, 1), (5, 0), (5, 1), (5, 2), (5, 3), (5, 4), (5, 5)] rfl (by decide +kernel)
set_option maxRecDepth 20000 in
theorem gX2_convert_X4_beginsSlot : GoodIn wsX2_convert (wsV RX2 97 RX4 yX4_beginsSlot wsX4_beginsSlot) := goodIn_app (goodIn_c csX2_convert hbX2_convert [.methodLink RX2 97 yX4_beginsSlot, .instanceMethod yX4_beginsSlot, .selects RX4 yX4_beginsSlot yX4_beginsSlot, .initialized RX4] [(1, 19), (1, 20), (1, 21), (1, 22)] rfl (by decide +kernel)) ggX2_convert_X4_beginsSlot
set_option maxRecDepth 20000 in
theorem ggX2_convert_X0_sign : GoodIn wsX2_convert wsX0_sign := goodIn_c csX2_convert hbX2_convert _ [(2, 5), (1, 18), (6, 0), (6, 1), (6, 2), (6, 3), (6, 4), (6, 5), (6, 6), (6, 7), (6, 8)] rfl (by decide +kernel)
set_option maxRecDepth 20000 in
theorem gX2_convert_X0_sign : GoodIn wsX2_convert (wsV RX2 101 RX0 yX0_sign wsX0_sign) := goodIn_app (goodIn_c csX2_convert hbX2_convert [.methodLink RX2 101 yX0_sign, .instanceMethod yX0_sign, .selects RX0 yX0_sign yX0_sign, .initialized RX0] [(2, 2), (2, 3), (2, 4), (1, 10)] rfl (by decide +kernel)) ggX2_convert_X0_sign
set_option maxRecDepth 20000 in
theorem ggX2_convert_X5_inputAt : GoodIn wsX2_convert wsX5_inputAt := goodIn_c csX2_convert hbX2_convert _ [(2, 10), (2, 11), (2, 12), (2, 13), (2, 14), (2, 15), (2, 9), (2, 16), (2, 17), (2, 18), (2, 19), (2, 20), (2, 21), (7, 0), (7, 1), (7, 2), (7, 3), (7, 4)] rfl (by decide +kernel)
set_option maxRecDepth 20000 in
theorem gX2_convert_X5_inputAt : GoodIn wsX2_convert (wsV RX2 105 RX5 yX5_inputAt wsX5_inputAt) := goodIn_app (goodIn_c csX2_convert hbX2_convert [.methodLink RX2 105 yX5_inputAt, .instanceMethod yX5_inputAt, .selects RX5 yX5_inputAt yX5_inputAt, .initialized RX5] [(2, 6), (2, 7), (2, 8), (2, 9)] rfl (by decide +kernel)) ggX2_convert_X5_inputAt
set_option maxRecDepth 20000 in
theorem ggX2_convert_X5_offsetAt : GoodIn wsX2_convert wsX5_offsetAt := goodIn_c csX2_convert hbX2_convert _ [(3, 1), (3, 2), (3, 3), (3, 4), (3, 5), (2, 19), (2, 20), (2, 21), (7, 0), (7, 1), (7, 2), (7, 3), (7, 4)] rfl (by decide +kernel)
set_option maxRecDepth 20000 in
theorem gX2_convert_X5_offsetAt : GoodIn wsX2_convert (wsV RX2 109 RX5 yX5_offsetAt wsX5_offsetAt) := goodIn_app (goodIn_c csX2_convert hbX2_convert [.methodLink RX2 109 yX5_offsetAt, .instanceMethod yX5_offsetAt, .selects RX5 yX5_offsetAt yX5_offsetAt, .initialized RX5] [(2, 22), (2, 23), (3, 0), (2, 9)] rfl (by decide +kernel)) ggX2_convert_X5_offsetAt
set_option maxRecDepth 20000 in
theorem ggX2_convert_X0_runUp : GoodIn wsX2_convert wsX0_runUp := goodIn_c csX2_convert hbX2_convert _ [(3, 9), (1, 16), (1, 15), (3, 10), (3, 11), (3, 12), (3, 13), (1, 10), (3, 14), (1, 18), (1, 17), (6, 0), (6, 1), (6, 2), (6, 3), (6, 4), (6, 5), (6, 6), (6, 7), (6, 8)] rfl (by decide +kernel)
set_option maxRecDepth 20000 in
theorem gX2_convert_X0_runUp : GoodIn wsX2_convert (wsV RX2 113 RX0 yX0_runUp wsX0_runUp) := goodIn_app (goodIn_c csX2_convert hbX2_convert [.methodLink RX2 113 yX0_runUp, .instanceMethod yX0_runUp, .selects RX0 yX0_runUp yX0_runUp, .initialized RX0] [(3, 6), (3, 7), (3, 8), (1, 10)] rfl (by decide +kernel)) ggX2_convert_X0_runUp
set_option maxRecDepth 20000 in
theorem ggX2_convert_X0_runDown : GoodIn wsX2_convert wsX0_runDown := goodIn_c csX2_convert hbX2_convert _ [(3, 18), (1, 13), (3, 10), (3, 19), (1, 14), (3, 20), (1, 15), (1, 16), (3, 21), (3, 22), (2, 3), (2, 4), (1, 10), (2, 5), (1, 18), (3, 11), (3, 12), (3, 13), (3, 14), (1, 17), (6, 0), (6, 1), (6, 2), (6, 3), (6, 4), (6, 5), (6, 6), (6, 7), (6, 8)] rfl (by decide +kernel)
set_option maxRecDepth 20000 in
theorem gX2_convert_X0_runDown : GoodIn wsX2_convert (wsV RX2 117 RX0 yX0_runDown wsX0_runDown) := goodIn_app (goodIn_c csX2_convert hbX2_convert [.methodLink RX2 117 yX0_runDown, .instanceMethod yX0_runDown, .selects RX0 yX0_runDown yX0_runDown, .initialized RX0] [(3, 15), (3, 16), (3, 17), (1, 10)] rfl (by decide +kernel)) ggX2_convert_X0_runDown
theorem dX2_convert_0 : decode cX2_convert 0 = .ok (.aload_n 0, 1) := by decide +kernel
theorem dX2_convert_1 : decode cX2_convert 1 = .ok (.getfield 28, 3) := by decide +kernel
theorem dX2_convert_4 : decode cX2_convert 4 = .ok (.invokevirtual 94, 3) := by decide +kernel
theorem dX2_convert_7 : decode cX2_convert 7 = .ok (.iconst 0, 1) := by decide +kernel
theorem dX2_convert_8 : decode cX2_convert 8 = .ok (.istore_n 2, 1) := by decide +kernel
theorem dX2_convert_9 : decode cX2_convert 9 = .ok (.iconst 0, 1) := by decide +kernel
theorem dX2_convert_10 : decode cX2_convert 10 = .ok (.istore_n 3, 1) := by decide +kernel
theorem dX2_convert_11 : decode cX2_convert 11 = .ok (.iload_n 3, 1) := by decide +kernel
theorem dX2_convert_12 : decode cX2_convert 12 = .ok (.aload_n 0, 1) := by decide +kernel
theorem dX2_convert_13 : decode cX2_convert 13 = .ok (.getfield 21, 3) := by decide +kernel
theorem dX2_convert_16 : decode cX2_convert 16 = .ok (.getfield 83, 3) := by decide +kernel
theorem dX2_convert_19 : decode cX2_convert 19 = .ok (.if_icmp .ge 78, 3) := by decide +kernel
theorem dX2_convert_22 : decode cX2_convert 22 = .ok (.aload_n 0, 1) := by decide +kernel
theorem dX2_convert_23 : decode cX2_convert 23 = .ok (.getfield 21, 3) := by decide +kernel
theorem dX2_convert_26 : decode cX2_convert 26 = .ok (.iload_n 3, 1) := by decide +kernel
theorem dX2_convert_27 : decode cX2_convert 27 = .ok (.invokevirtual 97, 3) := by decide +kernel
theorem dX2_convert_30 : decode cX2_convert 30 = .ok (.ifCond .eq 19, 3) := by decide +kernel
theorem dX2_convert_33 : decode cX2_convert 33 = .ok (.aload_n 0, 1) := by decide +kernel
theorem dX2_convert_34 : decode cX2_convert 34 = .ok (.getfield 28, 3) := by decide +kernel
theorem dX2_convert_37 : decode cX2_convert 37 = .ok (.invokevirtual 101, 3) := by decide +kernel
theorem dX2_convert_40 : decode cX2_convert 40 = .ok (.ifCond .le 7, 3) := by decide +kernel
theorem dX2_convert_43 : decode cX2_convert 43 = .ok (.iconst (-1), 1) := by decide +kernel
theorem dX2_convert_44 : decode cX2_convert 44 = .ok (.goto 4, 3) := by decide +kernel
theorem dX2_convert_47 : decode cX2_convert 47 = .ok (.iconst 1, 1) := by decide +kernel
theorem dX2_convert_48 : decode cX2_convert 48 = .ok (.istore_n 2, 1) := by decide +kernel
theorem dX2_convert_49 : decode cX2_convert 49 = .ok (.aload_n 0, 1) := by decide +kernel
theorem dX2_convert_50 : decode cX2_convert 50 = .ok (.getfield 28, 3) := by decide +kernel
theorem dX2_convert_53 : decode cX2_convert 53 = .ok (.aload_n 0, 1) := by decide +kernel
theorem dX2_convert_54 : decode cX2_convert 54 = .ok (.getfield 12, 3) := by decide +kernel
theorem dX2_convert_57 : decode cX2_convert 57 = .ok (.aload_n 0, 1) := by decide +kernel
theorem dX2_convert_58 : decode cX2_convert 58 = .ok (.getfield 42, 3) := by decide +kernel
theorem dX2_convert_61 : decode cX2_convert 61 = .ok (.iload_n 1, 1) := by decide +kernel
theorem dX2_convert_62 : decode cX2_convert 62 = .ok (.invokevirtual 105, 3) := by decide +kernel
theorem dX2_convert_65 : decode cX2_convert 65 = .ok (.aload_n 0, 1) := by decide +kernel
theorem dX2_convert_66 : decode cX2_convert 66 = .ok (.getfield 12, 3) := by decide +kernel
theorem dX2_convert_69 : decode cX2_convert 69 = .ok (.aload_n 0, 1) := by decide +kernel
theorem dX2_convert_70 : decode cX2_convert 70 = .ok (.getfield 42, 3) := by decide +kernel
theorem dX2_convert_73 : decode cX2_convert 73 = .ok (.invokevirtual 109, 3) := by decide +kernel
theorem dX2_convert_76 : decode cX2_convert 76 = .ok (.ladd, 1) := by decide +kernel
theorem dX2_convert_77 : decode cX2_convert 77 = .ok (.iload_n 2, 1) := by decide +kernel
theorem dX2_convert_78 : decode cX2_convert 78 = .ok (.invokevirtual 113, 3) := by decide +kernel
theorem dX2_convert_81 : decode cX2_convert 81 = .ok (.aload_n 0, 1) := by decide +kernel
theorem dX2_convert_82 : decode cX2_convert 82 = .ok (.dup, 1) := by decide +kernel
theorem dX2_convert_83 : decode cX2_convert 83 = .ok (.getfield 42, 3) := by decide +kernel
theorem dX2_convert_86 : decode cX2_convert 86 = .ok (.iconst 1, 1) := by decide +kernel
theorem dX2_convert_87 : decode cX2_convert 87 = .ok (.iadd, 1) := by decide +kernel
theorem dX2_convert_88 : decode cX2_convert 88 = .ok (.putfield 42, 3) := by decide +kernel
theorem dX2_convert_91 : decode cX2_convert 91 = .ok (.iinc 3 1, 3) := by decide +kernel
theorem dX2_convert_94 : decode cX2_convert 94 = .ok (.goto (-83), 3) := by decide +kernel
theorem dX2_convert_97 : decode cX2_convert 97 = .ok (.aload_n 0, 1) := by decide +kernel
theorem dX2_convert_98 : decode cX2_convert 98 = .ok (.getfield 28, 3) := by decide +kernel
theorem dX2_convert_101 : decode cX2_convert 101 = .ok (.aload_n 0, 1) := by decide +kernel
theorem dX2_convert_102 : decode cX2_convert 102 = .ok (.getfield 21, 3) := by decide +kernel
theorem dX2_convert_105 : decode cX2_convert 105 = .ok (.getfield 83, 3) := by decide +kernel
theorem dX2_convert_108 : decode cX2_convert 108 = .ok (.invokevirtual 117, 3) := by decide +kernel
theorem dX2_convert_111 : decode cX2_convert 111 = .ok (.aload_n 0, 1) := by decide +kernel
theorem dX2_convert_112 : decode cX2_convert 112 = .ok (.dup, 1) := by decide +kernel
theorem dX2_convert_113 : decode cX2_convert 113 = .ok (.getfield 42, 3) := by decide +kernel
theorem dX2_convert_116 : decode cX2_convert 116 = .ok (.aload_n 0, 1) := by decide +kernel
theorem dX2_convert_117 : decode cX2_convert 117 = .ok (.getfield 28, 3) := by decide +kernel
theorem dX2_convert_120 : decode cX2_convert 120 = .ok (.getfield 120, 3) := by decide +kernel
theorem dX2_convert_123 : decode cX2_convert 123 = .ok (.aload_n 0, 1) := by decide +kernel
theorem dX2_convert_124 : decode cX2_convert 124 = .ok (.getfield 28, 3) := by decide +kernel
theorem dX2_convert_127 : decode cX2_convert 127 = .ok (.getfield 123, 3) := by decide +kernel
theorem dX2_convert_130 : decode cX2_convert 130 = .ok (.iadd, 1) := by decide +kernel
theorem dX2_convert_131 : decode cX2_convert 131 = .ok (.iadd, 1) := by decide +kernel
theorem dX2_convert_132 : decode cX2_convert 132 = .ok (.putfield 42, 3) := by decide +kernel
theorem dX2_convert_135 : decode cX2_convert 135 = .ok (.return_, 1) := by decide +kernel
theorem dX2_switchRange_0 : decode cX2_switchRange 0 = .ok (.aload_n 0, 1) := by decide +kernel
theorem dX2_switchRange_1 : decode cX2_switchRange 1 = .ok (.getfield 58, 3) := by decide +kernel
theorem dX2_switchRange_4 : decode cX2_switchRange 4 = .ok (.invokestatic 126, 3) := by decide +kernel
theorem dX2_switchRange_7 : decode cX2_switchRange 7 = .ok (.lstore_n 1, 1) := by decide +kernel
theorem dX2_switchRange_8 : decode cX2_switchRange 8 = .ok (.bipush 16, 2) := by decide +kernel
theorem dX2_switchRange_10 : decode cX2_switchRange 10 = .ok (.aload_n 0, 1) := by decide +kernel
theorem dX2_switchRange_11 : decode cX2_switchRange 11 = .ok (.getfield 21, 3) := by decide +kernel
theorem dX2_switchRange_14 : decode cX2_switchRange 14 = .ok (.getfield 83, 3) := by decide +kernel
theorem dX2_switchRange_17 : decode cX2_switchRange 17 = .ok (.imul, 1) := by decide +kernel
theorem dX2_switchRange_18 : decode cX2_switchRange 18 = .ok (.istore_n 3, 1) := by decide +kernel
theorem dX2_switchRange_19 : decode cX2_switchRange 19 = .ok (.aload_n 0, 1) := by decide +kernel
theorem dX2_switchRange_20 : decode cX2_switchRange 20 = .ok (.getfield 28, 3) := by decide +kernel
theorem dX2_switchRange_23 : decode cX2_switchRange 23 = .ok (.getfield 132, 3) := by decide +kernel
theorem dX2_switchRange_26 : decode cX2_switchRange 26 = .ok (.ifCond .ne 10, 3) := by decide +kernel
theorem dX2_switchRange_29 : decode cX2_switchRange 29 = .ok (.lload_n 1, 1) := by decide +kernel
theorem dX2_switchRange_30 : decode cX2_switchRange 30 = .ok (.iload_n 3, 1) := by decide +kernel
theorem dX2_switchRange_31 : decode cX2_switchRange 31 = .ok (.i2l, 1) := by decide +kernel
theorem dX2_switchRange_32 : decode cX2_switchRange 32 = .ok (.lcmp, 1) := by decide +kernel
theorem dX2_switchRange_33 : decode cX2_switchRange 33 = .ok (.ifCond .le 26, 3) := by decide +kernel
theorem dX2_switchRange_36 : decode cX2_switchRange 36 = .ok (.aload_n 0, 1) := by decide +kernel
theorem dX2_switchRange_37 : decode cX2_switchRange 37 = .ok (.getfield 21, 3) := by decide +kernel
theorem dX2_switchRange_40 : decode cX2_switchRange 40 = .ok (.aload_n 0, 1) := by decide +kernel
theorem dX2_switchRange_41 : decode cX2_switchRange 41 = .ok (.getfield 21, 3) := by decide +kernel
theorem dX2_switchRange_44 : decode cX2_switchRange 44 = .ok (.getfield 69, 3) := by decide +kernel
theorem dX2_switchRange_47 : decode cX2_switchRange 47 = .ok (.iconst 1, 1) := by decide +kernel
theorem dX2_switchRange_48 : decode cX2_switchRange 48 = .ok (.isub, 1) := by decide +kernel
theorem dX2_switchRange_49 : decode cX2_switchRange 49 = .ok (.iconst 0, 1) := by decide +kernel
theorem dX2_switchRange_50 : decode cX2_switchRange 50 = .ok (.invokestatic 136, 3) := by decide +kernel
theorem dX2_switchRange_53 : decode cX2_switchRange 53 = .ok (.putfield 69, 3) := by decide +kernel
theorem dX2_switchRange_56 : decode cX2_switchRange 56 = .ok (.goto 38, 3) := by decide +kernel
theorem dX2_switchRange_59 : decode cX2_switchRange 59 = .ok (.lload_n 1, 1) := by decide +kernel
theorem dX2_switchRange_60 : decode cX2_switchRange 60 = .ok (.iload_n 3, 1) := by decide +kernel
theorem dX2_switchRange_61 : decode cX2_switchRange 61 = .ok (.bipush 12, 2) := by decide +kernel
theorem dX2_switchRange_63 : decode cX2_switchRange 63 = .ok (.idiv, 1) := by decide +kernel
theorem dX2_switchRange_64 : decode cX2_switchRange 64 = .ok (.i2l, 1) := by decide +kernel
theorem dX2_switchRange_65 : decode cX2_switchRange 65 = .ok (.lcmp, 1) := by decide +kernel
theorem dX2_switchRange_66 : decode cX2_switchRange 66 = .ok (.ifCond .ge 28, 3) := by decide +kernel
theorem dX2_switchRange_69 : decode cX2_switchRange 69 = .ok (.aload_n 0, 1) := by decide +kernel
theorem dX2_switchRange_70 : decode cX2_switchRange 70 = .ok (.getfield 21, 3) := by decide +kernel
theorem dX2_switchRange_73 : decode cX2_switchRange 73 = .ok (.aload_n 0, 1) := by decide +kernel
theorem dX2_switchRange_74 : decode cX2_switchRange 74 = .ok (.getfield 21, 3) := by decide +kernel
theorem dX2_switchRange_77 : decode cX2_switchRange 77 = .ok (.getfield 69, 3) := by decide +kernel
theorem dX2_switchRange_80 : decode cX2_switchRange 80 = .ok (.iconst 1, 1) := by decide +kernel
theorem dX2_switchRange_81 : decode cX2_switchRange 81 = .ok (.iadd, 1) := by decide +kernel
theorem dX2_switchRange_82 : decode cX2_switchRange 82 = .ok (.getstatic 140, 3) := by decide +kernel
theorem dX2_switchRange_85 : decode cX2_switchRange 85 = .ok (.arraylength, 1) := by decide +kernel
theorem dX2_switchRange_86 : decode cX2_switchRange 86 = .ok (.iconst 1, 1) := by decide +kernel
theorem dX2_switchRange_87 : decode cX2_switchRange 87 = .ok (.isub, 1) := by decide +kernel
theorem dX2_switchRange_88 : decode cX2_switchRange 88 = .ok (.invokestatic 144, 3) := by decide +kernel
theorem dX2_switchRange_91 : decode cX2_switchRange 91 = .ok (.putfield 69, 3) := by decide +kernel
theorem dX2_switchRange_94 : decode cX2_switchRange 94 = .ok (.return_, 1) := by decide +kernel
/-! END b -/
