theorem dX8_init_0 : decode cX8_init 0 = .ok (.aload_n 0, 1) := by decide +kernel
theorem dX8_init_1 : decode cX8_init 1 = .ok (.invokespecial 1, 3) := by decide +kernel
theorem dX8_init_4 : decode cX8_init 4 = .ok (.aload_n 0, 1) := by decide +kernel
theorem dX8_init_5 : decode cX8_init 5 = .ok (.sipush 303, 3) := by decide +kernel
theorem dX8_init_8 : decode cX8_init 8 = .ok (.newarray .long, 2) := by decide +kernel
theorem dX8_init_10 : decode cX8_init 10 = .ok (.putfield 7, 3) := by decide +kernel
theorem dX8_init_13 : decode cX8_init 13 = .ok (.aload_n 0, 1) := by decide +kernel
theorem dX8_init_14 : decode cX8_init 14 = .ok (.sipush 303, 3) := by decide +kernel
theorem dX8_init_17 : decode cX8_init 17 = .ok (.newarray .long, 2) := by decide +kernel
theorem dX8_init_19 : decode cX8_init 19 = .ok (.putfield 13, 3) := by decide +kernel
theorem dX8_init_22 : decode cX8_init 22 = .ok (.aload_n 0, 1) := by decide +kernel
theorem dX8_init_23 : decode cX8_init 23 = .ok (.sipush 606, 3) := by decide +kernel
theorem dX8_init_26 : decode cX8_init 26 = .ok (.newarray .long, 2) := by decide +kernel
theorem dX8_init_28 : decode cX8_init 28 = .ok (.putfield 16, 3) := by decide +kernel
theorem dX8_init_31 : decode cX8_init 31 = .ok (.aload_n 0, 1) := by decide +kernel
theorem dX8_init_32 : decode cX8_init 32 = .ok (.iconst 2, 1) := by decide +kernel
theorem dX8_init_33 : decode cX8_init 33 = .ok (.newarray .boolean, 2) := by decide +kernel
theorem dX8_init_35 : decode cX8_init 35 = .ok (.putfield 19, 3) := by decide +kernel
theorem dX8_init_38 : decode cX8_init 38 = .ok (.aload_n 0, 1) := by decide +kernel
theorem dX8_init_39 : decode cX8_init 39 = .ok (.bipush 60, 2) := by decide +kernel
theorem dX8_init_41 : decode cX8_init 41 = .ok (.newarray .int, 2) := by decide +kernel
theorem dX8_init_43 : decode cX8_init 43 = .ok (.putfield 23, 3) := by decide +kernel
theorem dX8_init_46 : decode cX8_init 46 = .ok (.aload_n 0, 1) := by decide +kernel
theorem dX8_init_47 : decode cX8_init 47 = .ok (.bipush 120, 2) := by decide +kernel
theorem dX8_init_49 : decode cX8_init 49 = .ok (.newarray .int, 2) := by decide +kernel
theorem dX8_init_51 : decode cX8_init 51 = .ok (.putfield 27, 3) := by decide +kernel
theorem dX8_init_54 : decode cX8_init 54 = .ok (.aload_n 0, 1) := by decide +kernel
theorem dX8_init_55 : decode cX8_init 55 = .ok (.getfield 7, 3) := by decide +kernel
theorem dX8_init_58 : decode cX8_init 58 = .ok (.iconst 2, 1) := by decide +kernel
theorem dX8_init_59 : decode cX8_init 59 = .ok (.ldc2_w 30, 3) := by decide +kernel
theorem dX8_init_62 : decode cX8_init 62 = .ok (.lastore, 1) := by decide +kernel
theorem dX8_init_63 : decode cX8_init 63 = .ok (.aload_n 0, 1) := by decide +kernel
theorem dX8_init_64 : decode cX8_init 64 = .ok (.getfield 7, 3) := by decide +kernel
theorem dX8_init_67 : decode cX8_init 67 = .ok (.iconst 5, 1) := by decide +kernel
theorem dX8_init_68 : decode cX8_init 68 = .ok (.ldc2_w 30, 3) := by decide +kernel
theorem dX8_init_71 : decode cX8_init 71 = .ok (.lastore, 1) := by decide +kernel
theorem dX8_init_72 : decode cX8_init 72 = .ok (.aload_n 0, 1) := by decide +kernel
theorem dX8_init_73 : decode cX8_init 73 = .ok (.getfield 7, 3) := by decide +kernel
theorem dX8_init_76 : decode cX8_init 76 = .ok (.bipush 6, 2) := by decide +kernel
theorem dX8_init_78 : decode cX8_init 78 = .ok (.ldc2_w 32, 3) := by decide +kernel
theorem dX8_init_81 : decode cX8_init 81 = .ok (.lastore, 1) := by decide +kernel
theorem dX8_init_82 : decode cX8_init 82 = .ok (.return_, 1) := by decide +kernel
theorem dX8_in_0 : decode cX8_in 0 = .ok (.lload_n 0, 1) := by decide +kernel
theorem dX8_in_1 : decode cX8_in 1 = .ok (.lload_n 2, 1) := by decide +kernel
theorem dX8_in_2 : decode cX8_in 2 = .ok (.lcmp, 1) := by decide +kernel
theorem dX8_in_3 : decode cX8_in 3 = .ok (.ifCond .lt 14, 3) := by decide +kernel
theorem dX8_in_6 : decode cX8_in 6 = .ok (.lload_n 0, 1) := by decide +kernel
theorem dX8_in_7 : decode cX8_in 7 = .ok (.lload 4, 2) := by decide +kernel
theorem dX8_in_9 : decode cX8_in 9 = .ok (.lcmp, 1) := by decide +kernel
theorem dX8_in_10 : decode cX8_in 10 = .ok (.ifCond .gt 7, 3) := by decide +kernel
theorem dX8_in_13 : decode cX8_in 13 = .ok (.iconst 1, 1) := by decide +kernel
theorem dX8_in_14 : decode cX8_in 14 = .ok (.goto 4, 3) := by decide +kernel
theorem dX8_in_17 : decode cX8_in 17 = .ok (.iconst 0, 1) := by decide +kernel
theorem dX8_in_18 : decode cX8_in 18 = .ok (.ireturn, 1) := by decide +kernel
theorem dX8_size_0 : decode cX8_size 0 = .ok (.lload_n 0, 1) := by decide +kernel
theorem dX8_size_1 : decode cX8_size 1 = .ok (.lconst 0, 1) := by decide +kernel
theorem dX8_size_2 : decode cX8_size 2 = .ok (.lcmp, 1) := by decide +kernel
theorem dX8_size_3 : decode cX8_size 3 = .ok (.ifCond .ge 8, 3) := by decide +kernel
theorem dX8_size_6 : decode cX8_size 6 = .ok (.lload_n 0, 1) := by decide +kernel
theorem dX8_size_7 : decode cX8_size 7 = .ok (.lneg, 1) := by decide +kernel
theorem dX8_size_8 : decode cX8_size 8 = .ok (.goto 4, 3) := by decide +kernel
theorem dX8_size_11 : decode cX8_size 11 = .ok (.lload_n 0, 1) := by decide +kernel
theorem dX8_size_12 : decode cX8_size 12 = .ok (.lreturn, 1) := by decide +kernel
theorem dX8_limited_0 : decode cX8_limited 0 = .ok (.lload_n 0, 1) := by decide +kernel
theorem dX8_limited_1 : decode cX8_limited 1 = .ok (.lload_n 2, 1) := by decide +kernel
theorem dX8_limited_2 : decode cX8_limited 2 = .ok (.lcmp, 1) := by decide +kernel
theorem dX8_limited_3 : decode cX8_limited 3 = .ok (.ifCond .le 7, 3) := by decide +kernel
theorem dX8_limited_6 : decode cX8_limited 6 = .ok (.lload_n 2, 1) := by decide +kernel
theorem dX8_limited_7 : decode cX8_limited 7 = .ok (.goto 16, 3) := by decide +kernel
theorem dX8_limited_10 : decode cX8_limited 10 = .ok (.lload_n 0, 1) := by decide +kernel
theorem dX8_limited_11 : decode cX8_limited 11 = .ok (.lload_n 2, 1) := by decide +kernel
theorem dX8_limited_12 : decode cX8_limited 12 = .ok (.lneg, 1) := by decide +kernel
theorem dX8_limited_13 : decode cX8_limited 13 = .ok (.lcmp, 1) := by decide +kernel
theorem dX8_limited_14 : decode cX8_limited 14 = .ok (.ifCond .ge 8, 3) := by decide +kernel
theorem dX8_limited_17 : decode cX8_limited 17 = .ok (.lload_n 2, 1) := by decide +kernel
theorem dX8_limited_18 : decode cX8_limited 18 = .ok (.lneg, 1) := by decide +kernel
theorem dX8_limited_19 : decode cX8_limited 19 = .ok (.goto 4, 3) := by decide +kernel
theorem dX8_limited_22 : decode cX8_limited 22 = .ok (.lload_n 0, 1) := by decide +kernel
theorem dX8_limited_23 : decode cX8_limited 23 = .ok (.lreturn, 1) := by decide +kernel
theorem dX8_putAside_0 : decode cX8_putAside 0 = .ok (.iconst 0, 1) := by decide +kernel
theorem dX8_putAside_1 : decode cX8_putAside 1 = .ok (.istore_n 1, 1) := by decide +kernel
theorem dX8_putAside_2 : decode cX8_putAside 2 = .ok (.iload_n 1, 1) := by decide +kernel
theorem dX8_putAside_3 : decode cX8_putAside 3 = .ok (.sipush 303, 3) := by decide +kernel
theorem dX8_putAside_6 : decode cX8_putAside 6 = .ok (.if_icmp .ge 21, 3) := by decide +kernel
theorem dX8_putAside_9 : decode cX8_putAside 9 = .ok (.aload_n 0, 1) := by decide +kernel
theorem dX8_putAside_10 : decode cX8_putAside 10 = .ok (.getfield 13, 3) := by decide +kernel
theorem dX8_putAside_13 : decode cX8_putAside 13 = .ok (.iload_n 1, 1) := by decide +kernel
theorem dX8_putAside_14 : decode cX8_putAside 14 = .ok (.aload_n 0, 1) := by decide +kernel
theorem dX8_putAside_15 : decode cX8_putAside 15 = .ok (.getfield 7, 3) := by decide +kernel
theorem dX8_putAside_18 : decode cX8_putAside 18 = .ok (.iload_n 1, 1) := by decide +kernel
theorem dX8_putAside_19 : decode cX8_putAside 19 = .ok (.laload, 1) := by decide +kernel
theorem dX8_putAside_20 : decode cX8_putAside 20 = .ok (.lastore, 1) := by decide +kernel
theorem dX8_putAside_21 : decode cX8_putAside 21 = .ok (.iinc 1 1, 3) := by decide +kernel
theorem dX8_putAside_24 : decode cX8_putAside 24 = .ok (.goto (-22), 3) := by decide +kernel
theorem dX8_putAside_27 : decode cX8_putAside 27 = .ok (.return_, 1) := by decide +kernel
theorem dX8_putBack_0 : decode cX8_putBack 0 = .ok (.iconst 0, 1) := by decide +kernel
theorem dX8_putBack_1 : decode cX8_putBack 1 = .ok (.istore_n 1, 1) := by decide +kernel
theorem dX8_putBack_2 : decode cX8_putBack 2 = .ok (.iload_n 1, 1) := by decide +kernel
theorem dX8_putBack_3 : decode cX8_putBack 3 = .ok (.sipush 303, 3) := by decide +kernel
theorem dX8_putBack_6 : decode cX8_putBack 6 = .ok (.if_icmp .ge 21, 3) := by decide +kernel
theorem dX8_putBack_9 : decode cX8_putBack 9 = .ok (.aload_n 0, 1) := by decide +kernel
theorem dX8_putBack_10 : decode cX8_putBack 10 = .ok (.getfield 7, 3) := by decide +kernel
theorem dX8_putBack_13 : decode cX8_putBack 13 = .ok (.iload_n 1, 1) := by decide +kernel
theorem dX8_putBack_14 : decode cX8_putBack 14 = .ok (.aload_n 0, 1) := by decide +kernel
theorem dX8_putBack_15 : decode cX8_putBack 15 = .ok (.getfield 13, 3) := by decide +kernel
theorem dX8_putBack_18 : decode cX8_putBack 18 = .ok (.iload_n 1, 1) := by decide +kernel
theorem dX8_putBack_19 : decode cX8_putBack 19 = .ok (.laload, 1) := by decide +kernel
theorem dX8_putBack_20 : decode cX8_putBack 20 = .ok (.lastore, 1) := by decide +kernel
theorem dX8_putBack_21 : decode cX8_putBack 21 = .ok (.iinc 1 1, 3) := by decide +kernel
theorem dX8_putBack_24 : decode cX8_putBack 24 = .ok (.goto (-22), 3) := by decide +kernel
theorem dX8_putBack_27 : decode cX8_putBack 27 = .ok (.return_, 1) := by decide +kernel
abbrev csX8_isLevel : List (List Cond) := [[.code yX8_isLevel cX8_isLevel 1 (some .boolean)], [.constantLong RX8 34 (-3000000), .constantLong RX8 36 (3000000), .methodLink RX8 38 yX8_in, .static yX8_in, .initialized RX8, .code yX8_in cX8_in 6 (some .boolean)]]
set_option maxRecDepth 20000 in
theorem hbX8_isLevel : wsX8_isLevel = csX8_isLevel.flatten := rfl
set_option maxRecDepth 20000 in
theorem ggX8_isLevel_X8_in : GoodIn wsX8_isLevel wsX8_in := goodIn_c csX8_isLevel hbX8_isLevel _ [(1, 5)] rfl (by decide +kernel)
set_option maxRecDepth 20000 in
theorem gX8_isLevel_X8_in : GoodIn wsX8_isLevel (va_wsS RX8 38 yX8_in wsX8_in) := goodIn_app (goodIn_c csX8_isLevel hbX8_isLevel [.methodLink RX8 38 yX8_in, .static yX8_in, .initialized yX8_in.cls] [(1, 2), (1, 3), (1, 4)] rfl (by decide +kernel)) ggX8_isLevel_X8_in
theorem dX8_isLevel_0 : decode cX8_isLevel 0 = .ok (.iload_n 0, 1) := by decide +kernel
theorem dX8_isLevel_1 : decode cX8_isLevel 1 = .ok (.i2l, 1) := by decide +kernel
theorem dX8_isLevel_2 : decode cX8_isLevel 2 = .ok (.ldc2_w 34, 3) := by decide +kernel
theorem dX8_isLevel_5 : decode cX8_isLevel 5 = .ok (.ldc2_w 36, 3) := by decide +kernel
theorem dX8_isLevel_8 : decode cX8_isLevel 8 = .ok (.invokestatic 38, 3) := by decide +kernel
theorem dX8_isLevel_11 : decode cX8_isLevel 11 = .ok (.ireturn, 1) := by decide +kernel
abbrev csX8_setLevel : List (List Cond) := [[.code yX8_setLevel cX8_setLevel 2 (some .int)], [.fieldLink RX8 7 "SlopeMeterModel" "at" "[J", .methodLink RX8 42 yX8_isLevel, .static yX8_isLevel, .initialized RX8, .code yX8_isLevel cX8_isLevel 1 (some .boolean), .constantLong RX8 34 (-3000000), .constantLong RX8 36 (3000000), .methodLink RX8 38 yX8_in, .static yX8_in, .code yX8_in cX8_in 6 (some .boolean)], wsX80]
set_option maxRecDepth 20000 in
theorem hbX8_setLevel : wsX8_setLevel = csX8_setLevel.flatten := rfl
set_option maxRecDepth 20000 in
theorem ggX8_setLevel_X8_isLevel : GoodIn wsX8_setLevel wsX8_isLevel := goodIn_c csX8_setLevel hbX8_setLevel _ [(1, 4), (1, 5), (1, 6), (1, 7), (1, 8), (1, 3), (1, 9)] rfl (by decide +kernel)
set_option maxRecDepth 20000 in
theorem gX8_setLevel_X8_isLevel : GoodIn wsX8_setLevel (va_wsS RX8 42 yX8_isLevel wsX8_isLevel) := goodIn_app (goodIn_c csX8_setLevel hbX8_setLevel [.methodLink RX8 42 yX8_isLevel, .static yX8_isLevel, .initialized yX8_isLevel.cls] [(1, 1), (1, 2), (1, 3)] rfl (by decide +kernel)) ggX8_setLevel_X8_isLevel
theorem dX8_setLevel_0 : decode cX8_setLevel 0 = .ok (.iload_n 1, 1) := by decide +kernel
theorem dX8_setLevel_1 : decode cX8_setLevel 1 = .ok (.invokestatic 42, 3) := by decide +kernel
theorem dX8_setLevel_4 : decode cX8_setLevel 4 = .ok (.ifCond .ne 6, 3) := by decide +kernel
theorem dX8_setLevel_7 : decode cX8_setLevel 7 = .ok (.bipush (-2), 2) := by decide +kernel
theorem dX8_setLevel_9 : decode cX8_setLevel 9 = .ok (.ireturn, 1) := by decide +kernel
theorem dX8_setLevel_10 : decode cX8_setLevel 10 = .ok (.aload_n 0, 1) := by decide +kernel
theorem dX8_setLevel_11 : decode cX8_setLevel 11 = .ok (.getfield 7, 3) := by decide +kernel
theorem dX8_setLevel_14 : decode cX8_setLevel 14 = .ok (.iconst 0, 1) := by decide +kernel
theorem dX8_setLevel_15 : decode cX8_setLevel 15 = .ok (.iload_n 1, 1) := by decide +kernel
theorem dX8_setLevel_16 : decode cX8_setLevel 16 = .ok (.i2l, 1) := by decide +kernel
theorem dX8_setLevel_17 : decode cX8_setLevel 17 = .ok (.lastore, 1) := by decide +kernel
theorem dX8_setLevel_18 : decode cX8_setLevel 18 = .ok (.aload_n 0, 1) := by decide +kernel
theorem dX8_setLevel_19 : decode cX8_setLevel 19 = .ok (.getfield 7, 3) := by decide +kernel
theorem dX8_setLevel_22 : decode cX8_setLevel 22 = .ok (.bipush 14, 2) := by decide +kernel
theorem dX8_setLevel_24 : decode cX8_setLevel 24 = .ok (.laload, 1) := by decide +kernel
theorem dX8_setLevel_25 : decode cX8_setLevel 25 = .ok (.l2i, 1) := by decide +kernel
theorem dX8_setLevel_26 : decode cX8_setLevel 26 = .ok (.ireturn, 1) := by decide +kernel
abbrev csX8_setHum : List (List Cond) := [[.code yX8_setHum cX8_setHum 4 (some .int)], [.constantLong RX8 46 (1000000), .constantLong RX8 48 (4), .constantLong RX8 50 (400), .fieldLink RX8 7 "SlopeMeterModel" "at" "[J", .methodLink RX8 38 yX8_in, .static yX8_in, .initialized RX8, .code yX8_in cX8_in 6 (some .boolean)], wsX80]
set_option maxRecDepth 20000 in
theorem hbX8_setHum : wsX8_setHum = csX8_setHum.flatten := rfl
set_option maxRecDepth 20000 in
theorem ggX8_setHum_X8_in : GoodIn wsX8_setHum wsX8_in := goodIn_c csX8_setHum hbX8_setHum _ [(1, 7)] rfl (by decide +kernel)
set_option maxRecDepth 20000 in
theorem gX8_setHum_X8_in : GoodIn wsX8_setHum (va_wsS RX8 38 yX8_in wsX8_in) := goodIn_app (goodIn_c csX8_setHum hbX8_setHum [.methodLink RX8 38 yX8_in, .static yX8_in, .initialized yX8_in.cls] [(1, 4), (1, 5), (1, 6)] rfl (by decide +kernel)) ggX8_setHum_X8_in
theorem dX8_setHum_0 : decode cX8_setHum 0 = .ok (.iload_n 1, 1) := by decide +kernel
theorem dX8_setHum_1 : decode cX8_setHum 1 = .ok (.i2l, 1) := by decide +kernel
theorem dX8_setHum_2 : decode cX8_setHum 2 = .ok (.lconst 0, 1) := by decide +kernel
theorem dX8_setHum_3 : decode cX8_setHum 3 = .ok (.ldc2_w 46, 3) := by decide +kernel
theorem dX8_setHum_6 : decode cX8_setHum 6 = .ok (.invokestatic 38, 3) := by decide +kernel
theorem dX8_setHum_9 : decode cX8_setHum 9 = .ok (.ifCond .eq 23, 3) := by decide +kernel
theorem dX8_setHum_12 : decode cX8_setHum 12 = .ok (.iload_n 2, 1) := by decide +kernel
theorem dX8_setHum_13 : decode cX8_setHum 13 = .ok (.i2l, 1) := by decide +kernel
theorem dX8_setHum_14 : decode cX8_setHum 14 = .ok (.ldc2_w 48, 3) := by decide +kernel
theorem dX8_setHum_17 : decode cX8_setHum 17 = .ok (.ldc2_w 50, 3) := by decide +kernel
theorem dX8_setHum_20 : decode cX8_setHum 20 = .ok (.invokestatic 38, 3) := by decide +kernel
theorem dX8_setHum_23 : decode cX8_setHum 23 = .ok (.ifCond .eq 9, 3) := by decide +kernel
theorem dX8_setHum_26 : decode cX8_setHum 26 = .ok (.iload_n 2, 1) := by decide +kernel
theorem dX8_setHum_27 : decode cX8_setHum 27 = .ok (.iconst 4, 1) := by decide +kernel
theorem dX8_setHum_28 : decode cX8_setHum 28 = .ok (.irem, 1) := by decide +kernel
theorem dX8_setHum_29 : decode cX8_setHum 29 = .ok (.ifCond .eq 6, 3) := by decide +kernel
theorem dX8_setHum_32 : decode cX8_setHum 32 = .ok (.bipush (-2), 2) := by decide +kernel
theorem dX8_setHum_34 : decode cX8_setHum 34 = .ok (.ireturn, 1) := by decide +kernel
theorem dX8_setHum_35 : decode cX8_setHum 35 = .ok (.aload_n 0, 1) := by decide +kernel
theorem dX8_setHum_36 : decode cX8_setHum 36 = .ok (.getfield 7, 3) := by decide +kernel
theorem dX8_setHum_39 : decode cX8_setHum 39 = .ok (.iconst 2, 1) := by decide +kernel
theorem dX8_setHum_40 : decode cX8_setHum 40 = .ok (.laload, 1) := by decide +kernel
theorem dX8_setHum_41 : decode cX8_setHum 41 = .ok (.l2i, 1) := by decide +kernel
theorem dX8_setHum_42 : decode cX8_setHum 42 = .ok (.istore_n 3, 1) := by decide +kernel
theorem dX8_setHum_43 : decode cX8_setHum 43 = .ok (.aload_n 0, 1) := by decide +kernel
theorem dX8_setHum_44 : decode cX8_setHum 44 = .ok (.getfield 7, 3) := by decide +kernel
theorem dX8_setHum_47 : decode cX8_setHum 47 = .ok (.iconst 1, 1) := by decide +kernel
theorem dX8_setHum_48 : decode cX8_setHum 48 = .ok (.iload_n 1, 1) := by decide +kernel
theorem dX8_setHum_49 : decode cX8_setHum 49 = .ok (.i2l, 1) := by decide +kernel
theorem dX8_setHum_50 : decode cX8_setHum 50 = .ok (.lastore, 1) := by decide +kernel
theorem dX8_setHum_51 : decode cX8_setHum 51 = .ok (.aload_n 0, 1) := by decide +kernel
theorem dX8_setHum_52 : decode cX8_setHum 52 = .ok (.getfield 7, 3) := by decide +kernel
theorem dX8_setHum_55 : decode cX8_setHum 55 = .ok (.iconst 2, 1) := by decide +kernel
theorem dX8_setHum_56 : decode cX8_setHum 56 = .ok (.iload_n 2, 1) := by decide +kernel
theorem dX8_setHum_57 : decode cX8_setHum 57 = .ok (.i2l, 1) := by decide +kernel
theorem dX8_setHum_58 : decode cX8_setHum 58 = .ok (.lastore, 1) := by decide +kernel
theorem dX8_setHum_59 : decode cX8_setHum 59 = .ok (.iload_n 3, 1) := by decide +kernel
theorem dX8_setHum_60 : decode cX8_setHum 60 = .ok (.ireturn, 1) := by decide +kernel
abbrev csX8_setOffset : List (List Cond) := [[.code yX8_setOffset cX8_setOffset 3 (some .int)], [.constantLong RX8 52 (-100000), .constantLong RX8 54 (100000), .constantLong RX8 56 (-1000), .constantLong RX8 58 (1000), .fieldLink RX8 7 "SlopeMeterModel" "at" "[J", .constant RX8 64 (100000000), .methodLink RX8 38 yX8_in, .static yX8_in, .initialized RX8, .code yX8_in cX8_in 6 (some .boolean), .methodLink RX8 60 yX8_offset, .instanceMethod yX8_offset, .selects RX8 yX8_offset yX8_offset, .code yX8_offset cX8_offset 3 (some .long), .constantLong RX8 90 (500000), .methodLink RX8 86 yX8_limited, .static yX8_limited, .code yX8_limited cX8_limited 4 (some .long)], wsX80]
set_option maxRecDepth 20000 in
theorem hbX8_setOffset : wsX8_setOffset = csX8_setOffset.flatten := rfl
set_option maxRecDepth 20000 in
theorem ggX8_setOffset_X8_in : GoodIn wsX8_setOffset wsX8_in := goodIn_c csX8_setOffset hbX8_setOffset _ [(1, 9)] rfl (by decide +kernel)
set_option maxRecDepth 20000 in
theorem gX8_setOffset_X8_in : GoodIn wsX8_setOffset (va_wsS RX8 38 yX8_in wsX8_in) := goodIn_app (goodIn_c csX8_setOffset hbX8_setOffset [.methodLink RX8 38 yX8_in, .static yX8_in, .initialized yX8_in.cls] [(1, 6), (1, 7), (1, 8)] rfl (by decide +kernel)) ggX8_setOffset_X8_in
set_option maxRecDepth 20000 in
theorem ggX8_setOffset_X8_offset : GoodIn wsX8_setOffset wsX8_offset := goodIn_c csX8_setOffset hbX8_setOffset _ [(1, 13), (1, 4), (1, 3), (1, 14), (1, 15), (1, 16), (1, 8), (1, 17), (2, 0), (2, 1), (2, 2), (2, 3), (2, 4), (2, 5), (2, 6), (2, 7), (2, 8), (2, 9), (2, 10), (2, 11)] rfl (by decide +kernel)
set_option maxRecDepth 20000 in
theorem gX8_setOffset_X8_offset : GoodIn wsX8_setOffset (wsV RX8 60 RX8 yX8_offset wsX8_offset) := goodIn_app (goodIn_c csX8_setOffset hbX8_setOffset [.methodLink RX8 60 yX8_offset, .instanceMethod yX8_offset, .selects RX8 yX8_offset yX8_offset, .initialized RX8] [(1, 10), (1, 11), (1, 12), (1, 8)] rfl (by decide +kernel)) ggX8_setOffset_X8_offset
theorem dX8_setOffset_0 : decode cX8_setOffset 0 = .ok (.iload_n 1, 1) := by decide +kernel
theorem dX8_setOffset_1 : decode cX8_setOffset 1 = .ok (.i2l, 1) := by decide +kernel
theorem dX8_setOffset_2 : decode cX8_setOffset 2 = .ok (.ldc2_w 52, 3) := by decide +kernel
theorem dX8_setOffset_5 : decode cX8_setOffset 5 = .ok (.ldc2_w 54, 3) := by decide +kernel
theorem dX8_setOffset_8 : decode cX8_setOffset 8 = .ok (.invokestatic 38, 3) := by decide +kernel
theorem dX8_setOffset_11 : decode cX8_setOffset 11 = .ok (.ifCond .eq 17, 3) := by decide +kernel
theorem dX8_setOffset_14 : decode cX8_setOffset 14 = .ok (.iload_n 2, 1) := by decide +kernel
theorem dX8_setOffset_15 : decode cX8_setOffset 15 = .ok (.i2l, 1) := by decide +kernel
theorem dX8_setOffset_16 : decode cX8_setOffset 16 = .ok (.ldc2_w 56, 3) := by decide +kernel
theorem dX8_setOffset_19 : decode cX8_setOffset 19 = .ok (.ldc2_w 58, 3) := by decide +kernel
theorem dX8_setOffset_22 : decode cX8_setOffset 22 = .ok (.invokestatic 38, 3) := by decide +kernel
theorem dX8_setOffset_25 : decode cX8_setOffset 25 = .ok (.ifCond .ne 6, 3) := by decide +kernel
theorem dX8_setOffset_28 : decode cX8_setOffset 28 = .ok (.bipush (-2), 2) := by decide +kernel
theorem dX8_setOffset_30 : decode cX8_setOffset 30 = .ok (.ireturn, 1) := by decide +kernel
theorem dX8_setOffset_31 : decode cX8_setOffset 31 = .ok (.aload_n 0, 1) := by decide +kernel
theorem dX8_setOffset_32 : decode cX8_setOffset 32 = .ok (.getfield 7, 3) := by decide +kernel
theorem dX8_setOffset_35 : decode cX8_setOffset 35 = .ok (.iconst 3, 1) := by decide +kernel
theorem dX8_setOffset_36 : decode cX8_setOffset 36 = .ok (.iload_n 1, 1) := by decide +kernel
theorem dX8_setOffset_37 : decode cX8_setOffset 37 = .ok (.i2l, 1) := by decide +kernel
theorem dX8_setOffset_38 : decode cX8_setOffset 38 = .ok (.lastore, 1) := by decide +kernel
theorem dX8_setOffset_39 : decode cX8_setOffset 39 = .ok (.aload_n 0, 1) := by decide +kernel
theorem dX8_setOffset_40 : decode cX8_setOffset 40 = .ok (.getfield 7, 3) := by decide +kernel
theorem dX8_setOffset_43 : decode cX8_setOffset 43 = .ok (.iconst 4, 1) := by decide +kernel
theorem dX8_setOffset_44 : decode cX8_setOffset 44 = .ok (.iload_n 2, 1) := by decide +kernel
theorem dX8_setOffset_45 : decode cX8_setOffset 45 = .ok (.i2l, 1) := by decide +kernel
theorem dX8_setOffset_46 : decode cX8_setOffset 46 = .ok (.lastore, 1) := by decide +kernel
theorem dX8_setOffset_47 : decode cX8_setOffset 47 = .ok (.aload_n 0, 1) := by decide +kernel
theorem dX8_setOffset_48 : decode cX8_setOffset 48 = .ok (.aload_n 0, 1) := by decide +kernel
theorem dX8_setOffset_49 : decode cX8_setOffset 49 = .ok (.getfield 7, 3) := by decide +kernel
theorem dX8_setOffset_52 : decode cX8_setOffset 52 = .ok (.bipush 11, 2) := by decide +kernel
theorem dX8_setOffset_54 : decode cX8_setOffset 54 = .ok (.laload, 1) := by decide +kernel
theorem dX8_setOffset_55 : decode cX8_setOffset 55 = .ok (.invokevirtual 60, 3) := by decide +kernel
theorem dX8_setOffset_58 : decode cX8_setOffset 58 = .ok (.l2i, 1) := by decide +kernel
theorem dX8_setOffset_59 : decode cX8_setOffset 59 = .ok (.ldc 64, 2) := by decide +kernel
theorem dX8_setOffset_61 : decode cX8_setOffset 61 = .ok (.iadd, 1) := by decide +kernel
theorem dX8_setOffset_62 : decode cX8_setOffset 62 = .ok (.ireturn, 1) := by decide +kernel
abbrev csX8_takes : List (List Cond) := [[.code yX8_takes cX8_takes 2 (some .boolean)], [.constantLong RX8 48 (4), .constantLong RX8 50 (400), .constantLong RX8 65 (50), .constantLong RX8 67 (10), .constantLong RX8 69 (3), .methodLink RX8 38 yX8_in, .static yX8_in, .initialized RX8, .code yX8_in cX8_in 6 (some .boolean)]]
set_option maxRecDepth 20000 in
theorem hbX8_takes : wsX8_takes = csX8_takes.flatten := rfl
set_option maxRecDepth 20000 in
theorem ggX8_takes_X8_in : GoodIn wsX8_takes wsX8_in := goodIn_c csX8_takes hbX8_takes _ [(1, 8)] rfl (by decide +kernel)
set_option maxRecDepth 20000 in
theorem gX8_takes_X8_in : GoodIn wsX8_takes (va_wsS RX8 38 yX8_in wsX8_in) := goodIn_app (goodIn_c csX8_takes hbX8_takes [.methodLink RX8 38 yX8_in, .static yX8_in, .initialized yX8_in.cls] [(1, 5), (1, 6), (1, 7)] rfl (by decide +kernel)) ggX8_takes_X8_in
theorem dX8_takes_0 : decode cX8_takes 0 = .ok (.iload_n 0, 1) := by decide +kernel
theorem dX8_takes_1 : decode cX8_takes 1 = .ok (.tableswitch 89 0 5 #[39, 51, 61, 69, 61, 79], 39) := by decide +kernel
theorem dX8_takes_40 : decode cX8_takes 40 = .ok (.iload_n 1, 1) := by decide +kernel
theorem dX8_takes_41 : decode cX8_takes 41 = .ok (.i2l, 1) := by decide +kernel
theorem dX8_takes_42 : decode cX8_takes 42 = .ok (.ldc2_w 48, 3) := by decide +kernel
theorem dX8_takes_45 : decode cX8_takes 45 = .ok (.ldc2_w 50, 3) := by decide +kernel
theorem dX8_takes_48 : decode cX8_takes 48 = .ok (.invokestatic 38, 3) := by decide +kernel
theorem dX8_takes_51 : decode cX8_takes 51 = .ok (.ireturn, 1) := by decide +kernel
theorem dX8_takes_52 : decode cX8_takes 52 = .ok (.iload_n 1, 1) := by decide +kernel
theorem dX8_takes_53 : decode cX8_takes 53 = .ok (.i2l, 1) := by decide +kernel
theorem dX8_takes_54 : decode cX8_takes 54 = .ok (.lconst 1, 1) := by decide +kernel
theorem dX8_takes_55 : decode cX8_takes 55 = .ok (.ldc2_w 65, 3) := by decide +kernel
theorem dX8_takes_58 : decode cX8_takes 58 = .ok (.invokestatic 38, 3) := by decide +kernel
theorem dX8_takes_61 : decode cX8_takes 61 = .ok (.ireturn, 1) := by decide +kernel
theorem dX8_takes_62 : decode cX8_takes 62 = .ok (.iload_n 1, 1) := by decide +kernel
theorem dX8_takes_63 : decode cX8_takes 63 = .ok (.i2l, 1) := by decide +kernel
theorem dX8_takes_64 : decode cX8_takes 64 = .ok (.lconst 0, 1) := by decide +kernel
theorem dX8_takes_65 : decode cX8_takes 65 = .ok (.lconst 1, 1) := by decide +kernel
theorem dX8_takes_66 : decode cX8_takes 66 = .ok (.invokestatic 38, 3) := by decide +kernel
theorem dX8_takes_69 : decode cX8_takes 69 = .ok (.ireturn, 1) := by decide +kernel
theorem dX8_takes_70 : decode cX8_takes 70 = .ok (.iload_n 1, 1) := by decide +kernel
theorem dX8_takes_71 : decode cX8_takes 71 = .ok (.i2l, 1) := by decide +kernel
theorem dX8_takes_72 : decode cX8_takes 72 = .ok (.lconst 0, 1) := by decide +kernel
theorem dX8_takes_73 : decode cX8_takes 73 = .ok (.ldc2_w 67, 3) := by decide +kernel
theorem dX8_takes_76 : decode cX8_takes 76 = .ok (.invokestatic 38, 3) := by decide +kernel
theorem dX8_takes_79 : decode cX8_takes 79 = .ok (.ireturn, 1) := by decide +kernel
theorem dX8_takes_80 : decode cX8_takes 80 = .ok (.iload_n 1, 1) := by decide +kernel
theorem dX8_takes_81 : decode cX8_takes 81 = .ok (.i2l, 1) := by decide +kernel
theorem dX8_takes_82 : decode cX8_takes 82 = .ok (.lconst 0, 1) := by decide +kernel
theorem dX8_takes_83 : decode cX8_takes 83 = .ok (.ldc2_w 69, 3) := by decide +kernel
theorem dX8_takes_86 : decode cX8_takes 86 = .ok (.invokestatic 38, 3) := by decide +kernel
theorem dX8_takes_89 : decode cX8_takes 89 = .ok (.ireturn, 1) := by decide +kernel
theorem dX8_takes_90 : decode cX8_takes 90 = .ok (.iconst 0, 1) := by decide +kernel
theorem dX8_takes_91 : decode cX8_takes 91 = .ok (.ireturn, 1) := by decide +kernel
abbrev csX8_set : List (List Cond) := [[.code yX8_set cX8_set 4 (some .int)], [.fieldLink RX8 7 "SlopeMeterModel" "at" "[J", .methodLink RX8 71 yX8_takes, .static yX8_takes, .initialized RX8, .code yX8_takes cX8_takes 2 (some .boolean), .constantLong RX8 48 (4), .constantLong RX8 50 (400), .constantLong RX8 65 (50), .constantLong RX8 67 (10), .constantLong RX8 69 (3), .methodLink RX8 38 yX8_in, .static yX8_in, .code yX8_in cX8_in 6 (some .boolean)], wsX80]
set_option maxRecDepth 20000 in
theorem hbX8_set : wsX8_set = csX8_set.flatten := rfl
set_option maxRecDepth 20000 in
theorem ggX8_set_X8_takes : GoodIn wsX8_set wsX8_takes := goodIn_c csX8_set hbX8_set _ [(1, 4), (1, 5), (1, 6), (1, 7), (1, 8), (1, 9), (1, 10), (1, 11), (1, 3), (1, 12)] rfl (by decide +kernel)
set_option maxRecDepth 20000 in
theorem gX8_set_X8_takes : GoodIn wsX8_set (va_wsS RX8 71 yX8_takes wsX8_takes) := goodIn_app (goodIn_c csX8_set hbX8_set [.methodLink RX8 71 yX8_takes, .static yX8_takes, .initialized yX8_takes.cls] [(1, 1), (1, 2), (1, 3)] rfl (by decide +kernel)) ggX8_set_X8_takes
theorem dX8_set_0 : decode cX8_set 0 = .ok (.iload_n 1, 1) := by decide +kernel
theorem dX8_set_1 : decode cX8_set 1 = .ok (.iload_n 2, 1) := by decide +kernel
theorem dX8_set_2 : decode cX8_set 2 = .ok (.invokestatic 71, 3) := by decide +kernel
theorem dX8_set_5 : decode cX8_set 5 = .ok (.ifCond .ne 6, 3) := by decide +kernel
theorem dX8_set_8 : decode cX8_set 8 = .ok (.bipush (-2), 2) := by decide +kernel
theorem dX8_set_10 : decode cX8_set 10 = .ok (.ireturn, 1) := by decide +kernel
theorem dX8_set_11 : decode cX8_set 11 = .ok (.aload_n 0, 1) := by decide +kernel
theorem dX8_set_12 : decode cX8_set 12 = .ok (.getfield 7, 3) := by decide +kernel
theorem dX8_set_15 : decode cX8_set 15 = .ok (.iconst 5, 1) := by decide +kernel
theorem dX8_set_16 : decode cX8_set 16 = .ok (.iload_n 1, 1) := by decide +kernel
theorem dX8_set_17 : decode cX8_set 17 = .ok (.iadd, 1) := by decide +kernel
theorem dX8_set_18 : decode cX8_set 18 = .ok (.laload, 1) := by decide +kernel
theorem dX8_set_19 : decode cX8_set 19 = .ok (.l2i, 1) := by decide +kernel
theorem dX8_set_20 : decode cX8_set 20 = .ok (.istore_n 3, 1) := by decide +kernel
theorem dX8_set_21 : decode cX8_set 21 = .ok (.aload_n 0, 1) := by decide +kernel
theorem dX8_set_22 : decode cX8_set 22 = .ok (.getfield 7, 3) := by decide +kernel
theorem dX8_set_25 : decode cX8_set 25 = .ok (.iconst 5, 1) := by decide +kernel
theorem dX8_set_26 : decode cX8_set 26 = .ok (.iload_n 1, 1) := by decide +kernel
theorem dX8_set_27 : decode cX8_set 27 = .ok (.iadd, 1) := by decide +kernel
theorem dX8_set_28 : decode cX8_set 28 = .ok (.iload_n 2, 1) := by decide +kernel
theorem dX8_set_29 : decode cX8_set 29 = .ok (.i2l, 1) := by decide +kernel
theorem dX8_set_30 : decode cX8_set 30 = .ok (.lastore, 1) := by decide +kernel
theorem dX8_set_31 : decode cX8_set 31 = .ok (.iconst 5, 1) := by decide +kernel
theorem dX8_set_32 : decode cX8_set 32 = .ok (.iload_n 1, 1) := by decide +kernel
theorem dX8_set_33 : decode cX8_set 33 = .ok (.iadd, 1) := by decide +kernel
theorem dX8_set_34 : decode cX8_set 34 = .ok (.bipush 8, 2) := by decide +kernel
theorem dX8_set_36 : decode cX8_set 36 = .ok (.if_icmp .ne 11, 3) := by decide +kernel
theorem dX8_set_39 : decode cX8_set 39 = .ok (.aload_n 0, 1) := by decide +kernel
theorem dX8_set_40 : decode cX8_set 40 = .ok (.getfield 7, 3) := by decide +kernel
theorem dX8_set_43 : decode cX8_set 43 = .ok (.bipush 13, 2) := by decide +kernel
theorem dX8_set_45 : decode cX8_set 45 = .ok (.lconst 0, 1) := by decide +kernel
theorem dX8_set_46 : decode cX8_set 46 = .ok (.lastore, 1) := by decide +kernel
theorem dX8_set_47 : decode cX8_set 47 = .ok (.iload_n 3, 1) := by decide +kernel
theorem dX8_set_48 : decode cX8_set 48 = .ok (.ireturn, 1) := by decide +kernel
abbrev csX8_get : List (List Cond) := [[.code yX8_get cX8_get 2 (some .int)], [.constantLong RX8 32 (5), .fieldLink RX8 7 "SlopeMeterModel" "at" "[J", .methodLink RX8 38 yX8_in, .static yX8_in, .initialized RX8, .code yX8_in cX8_in 6 (some .boolean)], wsX80]
set_option maxRecDepth 20000 in
theorem hbX8_get : wsX8_get = csX8_get.flatten := rfl
set_option maxRecDepth 20000 in
theorem ggX8_get_X8_in : GoodIn wsX8_get wsX8_in := goodIn_c csX8_get hbX8_get _ [(1, 5)] rfl (by decide +kernel)
set_option maxRecDepth 20000 in
theorem gX8_get_X8_in : GoodIn wsX8_get (va_wsS RX8 38 yX8_in wsX8_in) := goodIn_app (goodIn_c csX8_get hbX8_get [.methodLink RX8 38 yX8_in, .static yX8_in, .initialized yX8_in.cls] [(1, 2), (1, 3), (1, 4)] rfl (by decide +kernel)) ggX8_get_X8_in
theorem dX8_get_0 : decode cX8_get 0 = .ok (.iload_n 1, 1) := by decide +kernel
theorem dX8_get_1 : decode cX8_get 1 = .ok (.i2l, 1) := by decide +kernel
theorem dX8_get_2 : decode cX8_get 2 = .ok (.lconst 0, 1) := by decide +kernel
theorem dX8_get_3 : decode cX8_get 3 = .ok (.ldc2_w 32, 3) := by decide +kernel
theorem dX8_get_6 : decode cX8_get 6 = .ok (.invokestatic 38, 3) := by decide +kernel
theorem dX8_get_9 : decode cX8_get 9 = .ok (.ifCond .eq 15, 3) := by decide +kernel
theorem dX8_get_12 : decode cX8_get 12 = .ok (.aload_n 0, 1) := by decide +kernel
theorem dX8_get_13 : decode cX8_get 13 = .ok (.getfield 7, 3) := by decide +kernel
theorem dX8_get_16 : decode cX8_get 16 = .ok (.iconst 5, 1) := by decide +kernel
theorem dX8_get_17 : decode cX8_get 17 = .ok (.iload_n 1, 1) := by decide +kernel
theorem dX8_get_18 : decode cX8_get 18 = .ok (.iadd, 1) := by decide +kernel
theorem dX8_get_19 : decode cX8_get 19 = .ok (.laload, 1) := by decide +kernel
theorem dX8_get_20 : decode cX8_get 20 = .ok (.l2i, 1) := by decide +kernel
theorem dX8_get_21 : decode cX8_get 21 = .ok (.goto 5, 3) := by decide +kernel
theorem dX8_get_24 : decode cX8_get 24 = .ok (.bipush (-2), 2) := by decide +kernel
theorem dX8_get_26 : decode cX8_get 26 = .ok (.ireturn, 1) := by decide +kernel
theorem dX8_hum_0 : decode cX8_hum 0 = .ok (.aload_n 0, 1) := by decide +kernel
theorem dX8_hum_1 : decode cX8_hum 1 = .ok (.getfield 7, 3) := by decide +kernel
theorem dX8_hum_4 : decode cX8_hum 4 = .ok (.iconst 2, 1) := by decide +kernel
theorem dX8_hum_5 : decode cX8_hum 5 = .ok (.laload, 1) := by decide +kernel
theorem dX8_hum_6 : decode cX8_hum 6 = .ok (.ldc2_w 48, 3) := by decide +kernel
theorem dX8_hum_9 : decode cX8_hum 9 = .ok (.ldiv, 1) := by decide +kernel
theorem dX8_hum_10 : decode cX8_hum 10 = .ok (.lstore_n 3, 1) := by decide +kernel
theorem dX8_hum_11 : decode cX8_hum 11 = .ok (.lload_n 1, 1) := by decide +kernel
theorem dX8_hum_12 : decode cX8_hum 12 = .ok (.aload_n 0, 1) := by decide +kernel
theorem dX8_hum_13 : decode cX8_hum 13 = .ok (.getfield 7, 3) := by decide +kernel
theorem dX8_hum_16 : decode cX8_hum 16 = .ok (.iconst 2, 1) := by decide +kernel
theorem dX8_hum_17 : decode cX8_hum 17 = .ok (.laload, 1) := by decide +kernel
theorem dX8_hum_18 : decode cX8_hum 18 = .ok (.lrem, 1) := by decide +kernel
theorem dX8_hum_19 : decode cX8_hum 19 = .ok (.lstore 5, 2) := by decide +kernel
theorem dX8_hum_21 : decode cX8_hum 21 = .ok (.lload 5, 2) := by decide +kernel
theorem dX8_hum_23 : decode cX8_hum 23 = .ok (.lload_n 3, 1) := by decide +kernel
theorem dX8_hum_24 : decode cX8_hum 24 = .ok (.lcmp, 1) := by decide +kernel
theorem dX8_hum_25 : decode cX8_hum 25 = .ok (.ifCond .ge 15, 3) := by decide +kernel
theorem dX8_hum_28 : decode cX8_hum 28 = .ok (.aload_n 0, 1) := by decide +kernel
theorem dX8_hum_29 : decode cX8_hum 29 = .ok (.getfield 7, 3) := by decide +kernel
theorem dX8_hum_32 : decode cX8_hum 32 = .ok (.iconst 1, 1) := by decide +kernel
theorem dX8_hum_33 : decode cX8_hum 33 = .ok (.laload, 1) := by decide +kernel
theorem dX8_hum_34 : decode cX8_hum 34 = .ok (.lload 5, 2) := by decide +kernel
theorem dX8_hum_36 : decode cX8_hum 36 = .ok (.lmul, 1) := by decide +kernel
theorem dX8_hum_37 : decode cX8_hum 37 = .ok (.lload_n 3, 1) := by decide +kernel
theorem dX8_hum_38 : decode cX8_hum 38 = .ok (.ldiv, 1) := by decide +kernel
theorem dX8_hum_39 : decode cX8_hum 39 = .ok (.lreturn, 1) := by decide +kernel
theorem dX8_hum_40 : decode cX8_hum 40 = .ok (.lload 5, 2) := by decide +kernel
theorem dX8_hum_42 : decode cX8_hum 42 = .ok (.ldc2_w 69, 3) := by decide +kernel
theorem dX8_hum_45 : decode cX8_hum 45 = .ok (.lload_n 3, 1) := by decide +kernel
theorem dX8_hum_46 : decode cX8_hum 46 = .ok (.lmul, 1) := by decide +kernel
theorem dX8_hum_47 : decode cX8_hum 47 = .ok (.lcmp, 1) := by decide +kernel
theorem dX8_hum_48 : decode cX8_hum 48 = .ok (.ifCond .ge 23, 3) := by decide +kernel
theorem dX8_hum_51 : decode cX8_hum 51 = .ok (.aload_n 0, 1) := by decide +kernel
theorem dX8_hum_52 : decode cX8_hum 52 = .ok (.getfield 7, 3) := by decide +kernel
theorem dX8_hum_55 : decode cX8_hum 55 = .ok (.iconst 1, 1) := by decide +kernel
theorem dX8_hum_56 : decode cX8_hum 56 = .ok (.laload, 1) := by decide +kernel
theorem dX8_hum_57 : decode cX8_hum 57 = .ok (.ldc2_w 75, 3) := by decide +kernel
theorem dX8_hum_60 : decode cX8_hum 60 = .ok (.lload_n 3, 1) := by decide +kernel
theorem dX8_hum_61 : decode cX8_hum 61 = .ok (.lmul, 1) := by decide +kernel
theorem dX8_hum_62 : decode cX8_hum 62 = .ok (.lload 5, 2) := by decide +kernel
theorem dX8_hum_64 : decode cX8_hum 64 = .ok (.lsub, 1) := by decide +kernel
theorem dX8_hum_65 : decode cX8_hum 65 = .ok (.lmul, 1) := by decide +kernel
theorem dX8_hum_66 : decode cX8_hum 66 = .ok (.lload_n 3, 1) := by decide +kernel
theorem dX8_hum_67 : decode cX8_hum 67 = .ok (.ldiv, 1) := by decide +kernel
theorem dX8_hum_68 : decode cX8_hum 68 = .ok (.goto 20, 3) := by decide +kernel
theorem dX8_hum_71 : decode cX8_hum 71 = .ok (.aload_n 0, 1) := by decide +kernel
theorem dX8_hum_72 : decode cX8_hum 72 = .ok (.getfield 7, 3) := by decide +kernel
theorem dX8_hum_75 : decode cX8_hum 75 = .ok (.iconst 1, 1) := by decide +kernel
theorem dX8_hum_76 : decode cX8_hum 76 = .ok (.laload, 1) := by decide +kernel
theorem dX8_hum_77 : decode cX8_hum 77 = .ok (.lload 5, 2) := by decide +kernel
theorem dX8_hum_79 : decode cX8_hum 79 = .ok (.ldc2_w 48, 3) := by decide +kernel
theorem dX8_hum_82 : decode cX8_hum 82 = .ok (.lload_n 3, 1) := by decide +kernel
theorem dX8_hum_83 : decode cX8_hum 83 = .ok (.lmul, 1) := by decide +kernel
theorem dX8_hum_84 : decode cX8_hum 84 = .ok (.lsub, 1) := by decide +kernel
theorem dX8_hum_85 : decode cX8_hum 85 = .ok (.lmul, 1) := by decide +kernel
theorem dX8_hum_86 : decode cX8_hum 86 = .ok (.lload_n 3, 1) := by decide +kernel
theorem dX8_hum_87 : decode cX8_hum 87 = .ok (.ldiv, 1) := by decide +kernel
theorem dX8_hum_88 : decode cX8_hum 88 = .ok (.lreturn, 1) := by decide +kernel
theorem dX8_gain_0 : decode cX8_gain 0 = .ok (.lconst 1, 1) := by decide +kernel
theorem dX8_gain_1 : decode cX8_gain 1 = .ok (.lstore_n 1, 1) := by decide +kernel
theorem dX8_gain_2 : decode cX8_gain 2 = .ok (.iconst 0, 1) := by decide +kernel
theorem dX8_gain_3 : decode cX8_gain 3 = .ok (.istore_n 3, 1) := by decide +kernel
theorem dX8_gain_4 : decode cX8_gain 4 = .ok (.iload_n 3, 1) := by decide +kernel
theorem dX8_gain_5 : decode cX8_gain 5 = .ok (.i2l, 1) := by decide +kernel
theorem dX8_gain_6 : decode cX8_gain 6 = .ok (.aload_n 0, 1) := by decide +kernel
theorem dX8_gain_7 : decode cX8_gain 7 = .ok (.getfield 7, 3) := by decide +kernel
theorem dX8_gain_10 : decode cX8_gain 10 = .ok (.bipush 10, 2) := by decide +kernel
theorem dX8_gain_12 : decode cX8_gain 12 = .ok (.laload, 1) := by decide +kernel
theorem dX8_gain_13 : decode cX8_gain 13 = .ok (.lcmp, 1) := by decide +kernel
theorem dX8_gain_14 : decode cX8_gain 14 = .ok (.ifCond .ge 15, 3) := by decide +kernel
theorem dX8_gain_17 : decode cX8_gain 17 = .ok (.lload_n 1, 1) := by decide +kernel
theorem dX8_gain_18 : decode cX8_gain 18 = .ok (.ldc2_w 67, 3) := by decide +kernel
theorem dX8_gain_21 : decode cX8_gain 21 = .ok (.lmul, 1) := by decide +kernel
theorem dX8_gain_22 : decode cX8_gain 22 = .ok (.lstore_n 1, 1) := by decide +kernel
theorem dX8_gain_23 : decode cX8_gain 23 = .ok (.iinc 3 1, 3) := by decide +kernel
theorem dX8_gain_26 : decode cX8_gain 26 = .ok (.goto (-22), 3) := by decide +kernel
theorem dX8_gain_29 : decode cX8_gain 29 = .ok (.lload_n 1, 1) := by decide +kernel
theorem dX8_gain_30 : decode cX8_gain 30 = .ok (.lreturn, 1) := by decide +kernel
abbrev csX8_input : List (List Cond) := [[.code yX8_input cX8_input 3 (some .long)], [.fieldLink RX8 7 "SlopeMeterModel" "at" "[J", .constantLong RX8 84 (2500000), .methodLink RX8 77 yX8_hum, .instanceMethod yX8_hum, .selects RX8 yX8_hum yX8_hum, .initialized RX8, .code yX8_hum cX8_hum 7 (some .long), .constantLong RX8 48 (4), .constantLong RX8 69 (3), .constantLong RX8 75 (2), .methodLink RX8 80 yX8_gain, .instanceMethod yX8_gain, .selects RX8 yX8_gain yX8_gain, .code yX8_gain cX8_gain 4 (some .long), .constantLong RX8 67 (10), .methodLink RX8 86 yX8_limited, .static yX8_limited, .code yX8_limited cX8_limited 4 (some .long)], wsX80]
set_option maxRecDepth 20000 in
theorem hbX8_input : wsX8_input = csX8_input.flatten := rfl
set_option maxRecDepth 20000 in
theorem ggX8_input_X8_hum : GoodIn wsX8_input wsX8_hum := goodIn_c csX8_input hbX8_input _ [(1, 6), (1, 0), (1, 7), (1, 8), (1, 9), (2, 0), (2, 1), (2, 2), (2, 3), (2, 4), (2, 5), (2, 6), (2, 7), (2, 8), (2, 9), (2, 10), (2, 11)] rfl (by decide +kernel)
set_option maxRecDepth 20000 in
theorem gX8_input_X8_hum : GoodIn wsX8_input (wsV RX8 77 RX8 yX8_hum wsX8_hum) := goodIn_app (goodIn_c csX8_input hbX8_input [.methodLink RX8 77 yX8_hum, .instanceMethod yX8_hum, .selects RX8 yX8_hum yX8_hum, .initialized RX8] [(1, 2), (1, 3), (1, 4), (1, 5)] rfl (by decide +kernel)) ggX8_input_X8_hum
set_option maxRecDepth 20000 in
theorem ggX8_input_X8_gain : GoodIn wsX8_input wsX8_gain := goodIn_c csX8_input hbX8_input _ [(1, 13), (1, 0), (1, 14), (2, 0), (2, 1), (2, 2), (2, 3), (2, 4), (2, 5), (2, 6), (2, 7), (2, 8), (2, 9), (2, 10), (2, 11)] rfl (by decide +kernel)
set_option maxRecDepth 20000 in
theorem gX8_input_X8_gain : GoodIn wsX8_input (wsV RX8 80 RX8 yX8_gain wsX8_gain) := goodIn_app (goodIn_c csX8_input hbX8_input [.methodLink RX8 80 yX8_gain, .instanceMethod yX8_gain, .selects RX8 yX8_gain yX8_gain, .initialized RX8] [(1, 10), (1, 11), (1, 12), (1, 5)] rfl (by decide +kernel)) ggX8_input_X8_gain
set_option maxRecDepth 20000 in
theorem ggX8_input_X8_limited : GoodIn wsX8_input wsX8_limited := goodIn_c csX8_input hbX8_input _ [(1, 17)] rfl (by decide +kernel)
set_option maxRecDepth 20000 in
theorem gX8_input_X8_limited : GoodIn wsX8_input (va_wsS RX8 86 yX8_limited wsX8_limited) := goodIn_app (goodIn_c csX8_input hbX8_input [.methodLink RX8 86 yX8_limited, .static yX8_limited, .initialized yX8_limited.cls] [(1, 15), (1, 16), (1, 5)] rfl (by decide +kernel)) ggX8_input_X8_limited
theorem dX8_input_0 : decode cX8_input 0 = .ok (.aload_n 0, 1) := by decide +kernel
theorem dX8_input_1 : decode cX8_input 1 = .ok (.getfield 7, 3) := by decide +kernel
theorem dX8_input_4 : decode cX8_input 4 = .ok (.iconst 0, 1) := by decide +kernel
theorem dX8_input_5 : decode cX8_input 5 = .ok (.laload, 1) := by decide +kernel
theorem dX8_input_6 : decode cX8_input 6 = .ok (.aload_n 0, 1) := by decide +kernel
theorem dX8_input_7 : decode cX8_input 7 = .ok (.lload_n 1, 1) := by decide +kernel
theorem dX8_input_8 : decode cX8_input 8 = .ok (.invokevirtual 77, 3) := by decide +kernel
theorem dX8_input_11 : decode cX8_input 11 = .ok (.ladd, 1) := by decide +kernel
theorem dX8_input_12 : decode cX8_input 12 = .ok (.aload_n 0, 1) := by decide +kernel
theorem dX8_input_13 : decode cX8_input 13 = .ok (.invokevirtual 80, 3) := by decide +kernel
theorem dX8_input_16 : decode cX8_input 16 = .ok (.lmul, 1) := by decide +kernel
theorem dX8_input_17 : decode cX8_input 17 = .ok (.ldc2_w 84, 3) := by decide +kernel
theorem dX8_input_20 : decode cX8_input 20 = .ok (.invokestatic 86, 3) := by decide +kernel
theorem dX8_input_23 : decode cX8_input 23 = .ok (.lreturn, 1) := by decide +kernel
abbrev csX8_offset : List (List Cond) := [[.code yX8_offset cX8_offset 3 (some .long)], [.fieldLink RX8 7 "SlopeMeterModel" "at" "[J", .constantLong RX8 58 (1000), .constantLong RX8 90 (500000), .methodLink RX8 86 yX8_limited, .static yX8_limited, .initialized RX8, .code yX8_limited cX8_limited 4 (some .long)], wsX80]
set_option maxRecDepth 20000 in
theorem hbX8_offset : wsX8_offset = csX8_offset.flatten := rfl
set_option maxRecDepth 20000 in
theorem ggX8_offset_X8_limited : GoodIn wsX8_offset wsX8_limited := goodIn_c csX8_offset hbX8_offset _ [(1, 6)] rfl (by decide +kernel)
set_option maxRecDepth 20000 in
theorem gX8_offset_X8_limited : GoodIn wsX8_offset (va_wsS RX8 86 yX8_limited wsX8_limited) := goodIn_app (goodIn_c csX8_offset hbX8_offset [.methodLink RX8 86 yX8_limited, .static yX8_limited, .initialized yX8_limited.cls] [(1, 3), (1, 4), (1, 5)] rfl (by decide +kernel)) ggX8_offset_X8_limited
theorem dX8_offset_0 : decode cX8_offset 0 = .ok (.aload_n 0, 1) := by decide +kernel
theorem dX8_offset_1 : decode cX8_offset 1 = .ok (.getfield 7, 3) := by decide +kernel
theorem dX8_offset_4 : decode cX8_offset 4 = .ok (.iconst 3, 1) := by decide +kernel
theorem dX8_offset_5 : decode cX8_offset 5 = .ok (.laload, 1) := by decide +kernel
theorem dX8_offset_6 : decode cX8_offset 6 = .ok (.aload_n 0, 1) := by decide +kernel
theorem dX8_offset_7 : decode cX8_offset 7 = .ok (.getfield 7, 3) := by decide +kernel
theorem dX8_offset_10 : decode cX8_offset 10 = .ok (.iconst 4, 1) := by decide +kernel
theorem dX8_offset_11 : decode cX8_offset 11 = .ok (.laload, 1) := by decide +kernel
theorem dX8_offset_12 : decode cX8_offset 12 = .ok (.lload_n 1, 1) := by decide +kernel
theorem dX8_offset_13 : decode cX8_offset 13 = .ok (.lmul, 1) := by decide +kernel
theorem dX8_offset_14 : decode cX8_offset 14 = .ok (.ldc2_w 58, 3) := by decide +kernel
theorem dX8_offset_17 : decode cX8_offset 17 = .ok (.ldiv, 1) := by decide +kernel
theorem dX8_offset_18 : decode cX8_offset 18 = .ok (.ladd, 1) := by decide +kernel
theorem dX8_offset_19 : decode cX8_offset 19 = .ok (.ldc2_w 90, 3) := by decide +kernel
theorem dX8_offset_22 : decode cX8_offset 22 = .ok (.invokestatic 86, 3) := by decide +kernel
theorem dX8_offset_25 : decode cX8_offset 25 = .ok (.lreturn, 1) := by decide +kernel
abbrev csX8_probe : List (List Cond) := [[.code yX8_probe cX8_probe 5 (some .long)], wsX8_probe_r1, wsX8_probe_r2, wsX80]
set_option maxRecDepth 20000 in
theorem hbX8_probe : wsX8_probe = csX8_probe.flatten := rfl
set_option maxRecDepth 20000 in
theorem ggX8_probe_X8_in : GoodIn wsX8_probe wsX8_in := goodIn_c csX8_probe hbX8_probe _ [(1, 7)] rfl (by decide +kernel)
set_option maxRecDepth 20000 in
theorem gX8_probe_X8_in : GoodIn wsX8_probe (va_wsS RX8 38 yX8_in wsX8_in) := goodIn_app (goodIn_c csX8_probe hbX8_probe [.methodLink RX8 38 yX8_in, .static yX8_in, .initialized yX8_in.cls] [(1, 4), (1, 5), (1, 6)] rfl (by decide +kernel)) ggX8_probe_X8_in
set_option maxRecDepth 20000 in
theorem ggX8_probe_X8_hum : GoodIn wsX8_probe wsX8_hum := goodIn_c csX8_probe hbX8_probe _ [(1, 11), (1, 3), (1, 12), (1, 13), (1, 1), (3, 0), (3, 1), (3, 2), (3, 3), (3, 4), (3, 5), (3, 6), (3, 7), (3, 8), (3, 9), (3, 10), (3, 11)] rfl (by decide +kernel)
set_option maxRecDepth 20000 in
theorem gX8_probe_X8_hum : GoodIn wsX8_probe (wsV RX8 77 RX8 yX8_hum wsX8_hum) := goodIn_app (goodIn_c csX8_probe hbX8_probe [.methodLink RX8 77 yX8_hum, .instanceMethod yX8_hum, .selects RX8 yX8_hum yX8_hum, .initialized RX8] [(1, 8), (1, 9), (1, 10), (1, 6)] rfl (by decide +kernel)) ggX8_probe_X8_hum
set_option maxRecDepth 20000 in
theorem ggX8_probe_X8_input : GoodIn wsX8_probe wsX8_input := goodIn_c csX8_probe hbX8_probe _ [(1, 17), (1, 3), (1, 18), (1, 8), (1, 9), (1, 10), (1, 6), (1, 11), (1, 12), (1, 13), (1, 1), (1, 19), (1, 20), (1, 21), (1, 22), (1, 23), (2, 0), (2, 1), (2, 2), (3, 0), (3, 1), (3, 2), (3, 3), (3, 4), (3, 5), (3, 6), (3, 7), (3, 8), (3, 9), (3, 10), (3, 11)] rfl (by decide +kernel)
set_option maxRecDepth 20000 in
theorem gX8_probe_X8_input : GoodIn wsX8_probe (wsV RX8 94 RX8 yX8_input wsX8_input) := goodIn_app (goodIn_c csX8_probe hbX8_probe [.methodLink RX8 94 yX8_input, .instanceMethod yX8_input, .selects RX8 yX8_input yX8_input, .initialized RX8] [(1, 14), (1, 15), (1, 16), (1, 6)] rfl (by decide +kernel)) ggX8_probe_X8_input
set_option maxRecDepth 20000 in
theorem ggX8_probe_X8_offset : GoodIn wsX8_probe wsX8_offset := goodIn_c csX8_probe hbX8_probe _ [(2, 6), (1, 3), (2, 7), (2, 8), (2, 0), (2, 1), (1, 6), (2, 2), (3, 0), (3, 1), (3, 2), (3, 3), (3, 4), (3, 5), (3, 6), (3, 7), (3, 8), (3, 9), (3, 10), (3, 11)] rfl (by decide +kernel)
set_option maxRecDepth 20000 in
theorem gX8_probe_X8_offset : GoodIn wsX8_probe (wsV RX8 60 RX8 yX8_offset wsX8_offset) := goodIn_app (goodIn_c csX8_probe hbX8_probe [.methodLink RX8 60 yX8_offset, .instanceMethod yX8_offset, .selects RX8 yX8_offset yX8_offset, .initialized RX8] [(2, 3), (2, 4), (2, 5), (1, 6)] rfl (by decide +kernel)) ggX8_probe_X8_offset
theorem dX8_probe_0 : decode cX8_probe 0 = .ok (.iload_n 1, 1) := by decide +kernel
theorem dX8_probe_1 : decode cX8_probe 1 = .ok (.i2l, 1) := by decide +kernel
theorem dX8_probe_2 : decode cX8_probe 2 = .ok (.lconst 0, 1) := by decide +kernel
theorem dX8_probe_3 : decode cX8_probe 3 = .ok (.ldc2_w 54, 3) := by decide +kernel
theorem dX8_probe_6 : decode cX8_probe 6 = .ok (.invokestatic 38, 3) := by decide +kernel
theorem dX8_probe_9 : decode cX8_probe 9 = .ok (.ifCond .eq 15, 3) := by decide +kernel
theorem dX8_probe_12 : decode cX8_probe 12 = .ok (.iload_n 2, 1) := by decide +kernel
theorem dX8_probe_13 : decode cX8_probe 13 = .ok (.i2l, 1) := by decide +kernel
theorem dX8_probe_14 : decode cX8_probe 14 = .ok (.lconst 0, 1) := by decide +kernel
theorem dX8_probe_15 : decode cX8_probe 15 = .ok (.ldc2_w 75, 3) := by decide +kernel
theorem dX8_probe_18 : decode cX8_probe 18 = .ok (.invokestatic 38, 3) := by decide +kernel
theorem dX8_probe_21 : decode cX8_probe 21 = .ok (.ifCond .ne 7, 3) := by decide +kernel
theorem dX8_probe_24 : decode cX8_probe 24 = .ok (.ldc2_w 92, 3) := by decide +kernel
theorem dX8_probe_27 : decode cX8_probe 27 = .ok (.lreturn, 1) := by decide +kernel
theorem dX8_probe_28 : decode cX8_probe 28 = .ok (.aload_n 0, 1) := by decide +kernel
theorem dX8_probe_29 : decode cX8_probe 29 = .ok (.getfield 7, 3) := by decide +kernel
theorem dX8_probe_32 : decode cX8_probe 32 = .ok (.bipush 11, 2) := by decide +kernel
theorem dX8_probe_34 : decode cX8_probe 34 = .ok (.laload, 1) := by decide +kernel
theorem dX8_probe_35 : decode cX8_probe 35 = .ok (.iload_n 1, 1) := by decide +kernel
theorem dX8_probe_36 : decode cX8_probe 36 = .ok (.i2l, 1) := by decide +kernel
theorem dX8_probe_37 : decode cX8_probe 37 = .ok (.ladd, 1) := by decide +kernel
theorem dX8_probe_38 : decode cX8_probe 38 = .ok (.lstore_n 3, 1) := by decide +kernel
theorem dX8_probe_39 : decode cX8_probe 39 = .ok (.iload_n 2, 1) := by decide +kernel
theorem dX8_probe_40 : decode cX8_probe 40 = .ok (.ifCond .ne 11, 3) := by decide +kernel
theorem dX8_probe_43 : decode cX8_probe 43 = .ok (.aload_n 0, 1) := by decide +kernel
theorem dX8_probe_44 : decode cX8_probe 44 = .ok (.lload_n 3, 1) := by decide +kernel
theorem dX8_probe_45 : decode cX8_probe 45 = .ok (.invokevirtual 77, 3) := by decide +kernel
theorem dX8_probe_48 : decode cX8_probe 48 = .ok (.goto 21, 3) := by decide +kernel
theorem dX8_probe_51 : decode cX8_probe 51 = .ok (.iload_n 2, 1) := by decide +kernel
theorem dX8_probe_52 : decode cX8_probe 52 = .ok (.iconst 1, 1) := by decide +kernel
theorem dX8_probe_53 : decode cX8_probe 53 = .ok (.if_icmp .ne 11, 3) := by decide +kernel
theorem dX8_probe_56 : decode cX8_probe 56 = .ok (.aload_n 0, 1) := by decide +kernel
theorem dX8_probe_57 : decode cX8_probe 57 = .ok (.lload_n 3, 1) := by decide +kernel
theorem dX8_probe_58 : decode cX8_probe 58 = .ok (.invokevirtual 94, 3) := by decide +kernel
theorem dX8_probe_61 : decode cX8_probe 61 = .ok (.goto 8, 3) := by decide +kernel
theorem dX8_probe_64 : decode cX8_probe 64 = .ok (.aload_n 0, 1) := by decide +kernel
theorem dX8_probe_65 : decode cX8_probe 65 = .ok (.lload_n 3, 1) := by decide +kernel
theorem dX8_probe_66 : decode cX8_probe 66 = .ok (.invokevirtual 60, 3) := by decide +kernel
theorem dX8_probe_69 : decode cX8_probe 69 = .ok (.lreturn, 1) := by decide +kernel
abbrev csX8_tick : List (List Cond) := [[.code yX8_tick cX8_tick 3 none], [.fieldLink RX8 97 "SlopeMeterModel" "integral" "J", .fieldLink RX8 7 "SlopeMeterModel" "at" "[J", .methodLink RX8 101 yX8_size, .static yX8_size, .initialized RX8, .code yX8_size cX8_size 2 (some .long)], wsX80]
set_option maxRecDepth 20000 in
theorem hbX8_tick : wsX8_tick = csX8_tick.flatten := rfl
set_option maxRecDepth 20000 in
theorem ggX8_tick_X8_size : GoodIn wsX8_tick wsX8_size := goodIn_c csX8_tick hbX8_tick _ [(1, 5)] rfl (by decide +kernel)
set_option maxRecDepth 20000 in
theorem gX8_tick_X8_size : GoodIn wsX8_tick (va_wsS RX8 101 yX8_size wsX8_size) := goodIn_app (goodIn_c csX8_tick hbX8_tick [.methodLink RX8 101 yX8_size, .static yX8_size, .initialized yX8_size.cls] [(1, 2), (1, 3), (1, 4)] rfl (by decide +kernel)) ggX8_tick_X8_size
theorem dX8_tick_0 : decode cX8_tick 0 = .ok (.aload_n 0, 1) := by decide +kernel
theorem dX8_tick_1 : decode cX8_tick 1 = .ok (.dup, 1) := by decide +kernel
theorem dX8_tick_2 : decode cX8_tick 2 = .ok (.getfield 97, 3) := by decide +kernel
theorem dX8_tick_5 : decode cX8_tick 5 = .ok (.lload_n 1, 1) := by decide +kernel
theorem dX8_tick_6 : decode cX8_tick 6 = .ok (.ladd, 1) := by decide +kernel
theorem dX8_tick_7 : decode cX8_tick 7 = .ok (.putfield 97, 3) := by decide +kernel
theorem dX8_tick_10 : decode cX8_tick 10 = .ok (.aload_n 0, 1) := by decide +kernel
theorem dX8_tick_11 : decode cX8_tick 11 = .ok (.getfield 7, 3) := by decide +kernel
theorem dX8_tick_14 : decode cX8_tick 14 = .ok (.bipush 11, 2) := by decide +kernel
theorem dX8_tick_16 : decode cX8_tick 16 = .ok (.dup2, 1) := by decide +kernel
theorem dX8_tick_17 : decode cX8_tick 17 = .ok (.laload, 1) := by decide +kernel
theorem dX8_tick_18 : decode cX8_tick 18 = .ok (.lconst 1, 1) := by decide +kernel
theorem dX8_tick_19 : decode cX8_tick 19 = .ok (.ladd, 1) := by decide +kernel
theorem dX8_tick_20 : decode cX8_tick 20 = .ok (.lastore, 1) := by decide +kernel
theorem dX8_tick_21 : decode cX8_tick 21 = .ok (.aload_n 0, 1) := by decide +kernel
theorem dX8_tick_22 : decode cX8_tick 22 = .ok (.getfield 7, 3) := by decide +kernel
theorem dX8_tick_25 : decode cX8_tick 25 = .ok (.bipush 20, 2) := by decide +kernel
theorem dX8_tick_27 : decode cX8_tick 27 = .ok (.aload_n 0, 1) := by decide +kernel
theorem dX8_tick_28 : decode cX8_tick 28 = .ok (.getfield 97, 3) := by decide +kernel
theorem dX8_tick_31 : decode cX8_tick 31 = .ok (.invokestatic 101, 3) := by decide +kernel
theorem dX8_tick_34 : decode cX8_tick 34 = .ok (.aload_n 0, 1) := by decide +kernel
theorem dX8_tick_35 : decode cX8_tick 35 = .ok (.getfield 7, 3) := by decide +kernel
theorem dX8_tick_38 : decode cX8_tick 38 = .ok (.bipush 20, 2) := by decide +kernel
theorem dX8_tick_40 : decode cX8_tick 40 = .ok (.laload, 1) := by decide +kernel
theorem dX8_tick_41 : decode cX8_tick 41 = .ok (.lcmp, 1) := by decide +kernel
theorem dX8_tick_42 : decode cX8_tick 42 = .ok (.ifCond .le 13, 3) := by decide +kernel
theorem dX8_tick_45 : decode cX8_tick 45 = .ok (.aload_n 0, 1) := by decide +kernel
theorem dX8_tick_46 : decode cX8_tick 46 = .ok (.getfield 97, 3) := by decide +kernel
theorem dX8_tick_49 : decode cX8_tick 49 = .ok (.invokestatic 101, 3) := by decide +kernel
theorem dX8_tick_52 : decode cX8_tick 52 = .ok (.goto 10, 3) := by decide +kernel
theorem dX8_tick_55 : decode cX8_tick 55 = .ok (.aload_n 0, 1) := by decide +kernel
theorem dX8_tick_56 : decode cX8_tick 56 = .ok (.getfield 7, 3) := by decide +kernel
theorem dX8_tick_59 : decode cX8_tick 59 = .ok (.bipush 20, 2) := by decide +kernel
theorem dX8_tick_61 : decode cX8_tick 61 = .ok (.laload, 1) := by decide +kernel
theorem dX8_tick_62 : decode cX8_tick 62 = .ok (.lastore, 1) := by decide +kernel
theorem dX8_tick_63 : decode cX8_tick 63 = .ok (.return_, 1) := by decide +kernel
abbrev csX8_runUp : List (List Cond) := [[.code yX8_runUp cX8_runUp 5 none], wsX8_runUp_r1, wsX8_runUp_r2, wsX80]
set_option maxRecDepth 20000 in
theorem hbX8_runUp : wsX8_runUp = csX8_runUp.flatten := rfl
set_option maxRecDepth 20000 in
theorem ggX8_runUp_X8_input : GoodIn wsX8_runUp wsX8_input := goodIn_c csX8_runUp hbX8_runUp _ [(1, 8), (1, 0), (1, 9), (1, 10), (1, 11), (1, 12), (1, 7), (1, 13), (1, 14), (1, 15), (1, 16), (1, 17), (1, 18), (1, 19), (1, 20), (1, 21), (1, 22), (1, 23), (2, 0), (3, 0), (3, 1), (3, 2), (3, 3), (3, 4), (3, 5), (3, 6), (3, 7), (3, 8), (3, 9), (3, 10), (3, 11)] rfl (by decide +kernel)
set_option maxRecDepth 20000 in
theorem gX8_runUp_X8_input : GoodIn wsX8_runUp (wsV RX8 94 RX8 yX8_input wsX8_input) := goodIn_app (goodIn_c csX8_runUp hbX8_runUp [.methodLink RX8 94 yX8_input, .instanceMethod yX8_input, .selects RX8 yX8_input yX8_input, .initialized RX8] [(1, 4), (1, 5), (1, 6), (1, 7)] rfl (by decide +kernel)) ggX8_runUp_X8_input
set_option maxRecDepth 20000 in
theorem ggX8_runUp_X8_offset : GoodIn wsX8_runUp wsX8_offset := goodIn_c csX8_runUp hbX8_runUp _ [(2, 4), (1, 0), (2, 5), (2, 6), (1, 22), (1, 23), (1, 7), (2, 0), (3, 0), (3, 1), (3, 2), (3, 3), (3, 4), (3, 5), (3, 6), (3, 7), (3, 8), (3, 9), (3, 10), (3, 11)] rfl (by decide +kernel)
set_option maxRecDepth 20000 in
theorem gX8_runUp_X8_offset : GoodIn wsX8_runUp (wsV RX8 60 RX8 yX8_offset wsX8_offset) := goodIn_app (goodIn_c csX8_runUp hbX8_runUp [.methodLink RX8 60 yX8_offset, .instanceMethod yX8_offset, .selects RX8 yX8_offset yX8_offset, .initialized RX8] [(2, 1), (2, 2), (2, 3), (1, 7)] rfl (by decide +kernel)) ggX8_runUp_X8_offset
set_option maxRecDepth 20000 in
theorem ggX8_runUp_X8_tick : GoodIn wsX8_runUp wsX8_tick := goodIn_c csX8_runUp hbX8_runUp _ [(2, 10), (1, 1), (1, 0), (2, 11), (2, 12), (1, 7), (2, 13), (3, 0), (3, 1), (3, 2), (3, 3), (3, 4), (3, 5), (3, 6), (3, 7), (3, 8), (3, 9), (3, 10), (3, 11)] rfl (by decide +kernel)
set_option maxRecDepth 20000 in
theorem gX8_runUp_X8_tick : GoodIn wsX8_runUp (wsV RX8 108 RX8 yX8_tick wsX8_tick) := goodIn_app (goodIn_c csX8_runUp hbX8_runUp [.methodLink RX8 108 yX8_tick, .instanceMethod yX8_tick, .selects RX8 yX8_tick yX8_tick, .initialized RX8] [(2, 7), (2, 8), (2, 9), (1, 7)] rfl (by decide +kernel)) ggX8_runUp_X8_tick
theorem dX8_runUp_0 : decode cX8_runUp 0 = .ok (.lconst 0, 1) := by decide +kernel
theorem dX8_runUp_1 : decode cX8_runUp 1 = .ok (.lstore_n 2, 1) := by decide +kernel
theorem dX8_runUp_2 : decode cX8_runUp 2 = .ok (.iconst 0, 1) := by decide +kernel
theorem dX8_runUp_3 : decode cX8_runUp 3 = .ok (.istore 4, 2) := by decide +kernel
theorem dX8_runUp_5 : decode cX8_runUp 5 = .ok (.iload 4, 2) := by decide +kernel
theorem dX8_runUp_7 : decode cX8_runUp 7 = .ok (.i2l, 1) := by decide +kernel
theorem dX8_runUp_8 : decode cX8_runUp 8 = .ok (.aload_n 0, 1) := by decide +kernel
theorem dX8_runUp_9 : decode cX8_runUp 9 = .ok (.getfield 7, 3) := by decide +kernel
theorem dX8_runUp_12 : decode cX8_runUp 12 = .ok (.iconst 5, 1) := by decide +kernel
theorem dX8_runUp_13 : decode cX8_runUp 13 = .ok (.laload, 1) := by decide +kernel
theorem dX8_runUp_14 : decode cX8_runUp 14 = .ok (.lcmp, 1) := by decide +kernel
theorem dX8_runUp_15 : decode cX8_runUp 15 = .ok (.ifCond .ge 135, 3) := by decide +kernel
theorem dX8_runUp_18 : decode cX8_runUp 18 = .ok (.aload_n 0, 1) := by decide +kernel
theorem dX8_runUp_19 : decode cX8_runUp 19 = .ok (.getfield 7, 3) := by decide +kernel
theorem dX8_runUp_22 : decode cX8_runUp 22 = .ok (.bipush 7, 2) := by decide +kernel
theorem dX8_runUp_24 : decode cX8_runUp 24 = .ok (.laload, 1) := by decide +kernel
theorem dX8_runUp_25 : decode cX8_runUp 25 = .ok (.lconst 1, 1) := by decide +kernel
theorem dX8_runUp_26 : decode cX8_runUp 26 = .ok (.lcmp, 1) := by decide +kernel
theorem dX8_runUp_27 : decode cX8_runUp 27 = .ok (.ifCond .ne 38, 3) := by decide +kernel
theorem dX8_runUp_30 : decode cX8_runUp 30 = .ok (.iload 4, 2) := by decide +kernel
theorem dX8_runUp_32 : decode cX8_runUp 32 = .ok (.i2l, 1) := by decide +kernel
theorem dX8_runUp_33 : decode cX8_runUp 33 = .ok (.aload_n 0, 1) := by decide +kernel
theorem dX8_runUp_34 : decode cX8_runUp 34 = .ok (.getfield 7, 3) := by decide +kernel
theorem dX8_runUp_37 : decode cX8_runUp 37 = .ok (.bipush 6, 2) := by decide +kernel
theorem dX8_runUp_39 : decode cX8_runUp 39 = .ok (.laload, 1) := by decide +kernel
theorem dX8_runUp_40 : decode cX8_runUp 40 = .ok (.lrem, 1) := by decide +kernel
theorem dX8_runUp_41 : decode cX8_runUp 41 = .ok (.lconst 0, 1) := by decide +kernel
theorem dX8_runUp_42 : decode cX8_runUp 42 = .ok (.lcmp, 1) := by decide +kernel
theorem dX8_runUp_43 : decode cX8_runUp 43 = .ok (.ifCond .ne 22, 3) := by decide +kernel
theorem dX8_runUp_46 : decode cX8_runUp 46 = .ok (.aload_n 0, 1) := by decide +kernel
theorem dX8_runUp_47 : decode cX8_runUp 47 = .ok (.getfield 97, 3) := by decide +kernel
theorem dX8_runUp_50 : decode cX8_runUp 50 = .ok (.lconst 0, 1) := by decide +kernel
theorem dX8_runUp_51 : decode cX8_runUp 51 = .ok (.lcmp, 1) := by decide +kernel
theorem dX8_runUp_52 : decode cX8_runUp 52 = .ok (.ifCond .le 9, 3) := by decide +kernel
theorem dX8_runUp_55 : decode cX8_runUp 55 = .ok (.ldc2_w 104, 3) := by decide +kernel
theorem dX8_runUp_58 : decode cX8_runUp 58 = .ok (.goto 6, 3) := by decide +kernel
theorem dX8_runUp_61 : decode cX8_runUp 61 = .ok (.ldc2_w 106, 3) := by decide +kernel
theorem dX8_runUp_64 : decode cX8_runUp 64 = .ok (.lstore_n 2, 1) := by decide +kernel
theorem dX8_runUp_65 : decode cX8_runUp 65 = .ok (.aload_n 0, 1) := by decide +kernel
theorem dX8_runUp_66 : decode cX8_runUp 66 = .ok (.getfield 7, 3) := by decide +kernel
theorem dX8_runUp_69 : decode cX8_runUp 69 = .ok (.bipush 18, 2) := by decide +kernel
theorem dX8_runUp_71 : decode cX8_runUp 71 = .ok (.dup2, 1) := by decide +kernel
theorem dX8_runUp_72 : decode cX8_runUp 72 = .ok (.laload, 1) := by decide +kernel
theorem dX8_runUp_73 : decode cX8_runUp 73 = .ok (.lload_n 2, 1) := by decide +kernel
theorem dX8_runUp_74 : decode cX8_runUp 74 = .ok (.lconst 0, 1) := by decide +kernel
theorem dX8_runUp_75 : decode cX8_runUp 75 = .ok (.lcmp, 1) := by decide +kernel
theorem dX8_runUp_76 : decode cX8_runUp 76 = .ok (.ifCond .ge 7, 3) := by decide +kernel
theorem dX8_runUp_79 : decode cX8_runUp 79 = .ok (.lconst 1, 1) := by decide +kernel
theorem dX8_runUp_80 : decode cX8_runUp 80 = .ok (.goto 4, 3) := by decide +kernel
theorem dX8_runUp_83 : decode cX8_runUp 83 = .ok (.lconst 0, 1) := by decide +kernel
theorem dX8_runUp_84 : decode cX8_runUp 84 = .ok (.ladd, 1) := by decide +kernel
theorem dX8_runUp_85 : decode cX8_runUp 85 = .ok (.lastore, 1) := by decide +kernel
theorem dX8_runUp_86 : decode cX8_runUp 86 = .ok (.aload_n 0, 1) := by decide +kernel
theorem dX8_runUp_87 : decode cX8_runUp 87 = .ok (.getfield 7, 3) := by decide +kernel
theorem dX8_runUp_90 : decode cX8_runUp 90 = .ok (.bipush 19, 2) := by decide +kernel
theorem dX8_runUp_92 : decode cX8_runUp 92 = .ok (.dup2, 1) := by decide +kernel
theorem dX8_runUp_93 : decode cX8_runUp 93 = .ok (.laload, 1) := by decide +kernel
theorem dX8_runUp_94 : decode cX8_runUp 94 = .ok (.lload_n 2, 1) := by decide +kernel
theorem dX8_runUp_95 : decode cX8_runUp 95 = .ok (.lconst 0, 1) := by decide +kernel
theorem dX8_runUp_96 : decode cX8_runUp 96 = .ok (.lcmp, 1) := by decide +kernel
theorem dX8_runUp_97 : decode cX8_runUp 97 = .ok (.ifCond .le 7, 3) := by decide +kernel
theorem dX8_runUp_100 : decode cX8_runUp 100 = .ok (.lconst 1, 1) := by decide +kernel
theorem dX8_runUp_101 : decode cX8_runUp 101 = .ok (.goto 4, 3) := by decide +kernel
theorem dX8_runUp_104 : decode cX8_runUp 104 = .ok (.lconst 0, 1) := by decide +kernel
theorem dX8_runUp_105 : decode cX8_runUp 105 = .ok (.ladd, 1) := by decide +kernel
theorem dX8_runUp_106 : decode cX8_runUp 106 = .ok (.lastore, 1) := by decide +kernel
theorem dX8_runUp_107 : decode cX8_runUp 107 = .ok (.aload_n 0, 1) := by decide +kernel
theorem dX8_runUp_108 : decode cX8_runUp 108 = .ok (.iload_n 1, 1) := by decide +kernel
theorem dX8_runUp_109 : decode cX8_runUp 109 = .ok (.ifCond .eq 7, 3) := by decide +kernel
theorem dX8_runUp_112 : decode cX8_runUp 112 = .ok (.lconst 0, 1) := by decide +kernel
theorem dX8_runUp_113 : decode cX8_runUp 113 = .ok (.goto 14, 3) := by decide +kernel
theorem dX8_runUp_116 : decode cX8_runUp 116 = .ok (.aload_n 0, 1) := by decide +kernel
theorem dX8_runUp_117 : decode cX8_runUp 117 = .ok (.aload_n 0, 1) := by decide +kernel
theorem dX8_runUp_118 : decode cX8_runUp 118 = .ok (.getfield 7, 3) := by decide +kernel
theorem dX8_runUp_121 : decode cX8_runUp 121 = .ok (.bipush 11, 2) := by decide +kernel
theorem dX8_runUp_123 : decode cX8_runUp 123 = .ok (.laload, 1) := by decide +kernel
theorem dX8_runUp_124 : decode cX8_runUp 124 = .ok (.invokevirtual 94, 3) := by decide +kernel
theorem dX8_runUp_127 : decode cX8_runUp 127 = .ok (.aload_n 0, 1) := by decide +kernel
theorem dX8_runUp_128 : decode cX8_runUp 128 = .ok (.aload_n 0, 1) := by decide +kernel
theorem dX8_runUp_129 : decode cX8_runUp 129 = .ok (.getfield 7, 3) := by decide +kernel
theorem dX8_runUp_132 : decode cX8_runUp 132 = .ok (.bipush 11, 2) := by decide +kernel
theorem dX8_runUp_134 : decode cX8_runUp 134 = .ok (.laload, 1) := by decide +kernel
theorem dX8_runUp_135 : decode cX8_runUp 135 = .ok (.invokevirtual 60, 3) := by decide +kernel
theorem dX8_runUp_138 : decode cX8_runUp 138 = .ok (.ladd, 1) := by decide +kernel
theorem dX8_runUp_139 : decode cX8_runUp 139 = .ok (.lload_n 2, 1) := by decide +kernel
theorem dX8_runUp_140 : decode cX8_runUp 140 = .ok (.ladd, 1) := by decide +kernel
theorem dX8_runUp_141 : decode cX8_runUp 141 = .ok (.invokevirtual 108, 3) := by decide +kernel
theorem dX8_runUp_144 : decode cX8_runUp 144 = .ok (.iinc 4 1, 3) := by decide +kernel
theorem dX8_runUp_147 : decode cX8_runUp 147 = .ok (.goto (-142), 3) := by decide +kernel
theorem dX8_runUp_150 : decode cX8_runUp 150 = .ok (.return_, 1) := by decide +kernel
theorem dX8_signOf_0 : decode cX8_signOf 0 = .ok (.lload_n 0, 1) := by decide +kernel
theorem dX8_signOf_1 : decode cX8_signOf 1 = .ok (.lconst 0, 1) := by decide +kernel
theorem dX8_signOf_2 : decode cX8_signOf 2 = .ok (.lcmp, 1) := by decide +kernel
theorem dX8_signOf_3 : decode cX8_signOf 3 = .ok (.ifCond .le 7, 3) := by decide +kernel
theorem dX8_signOf_6 : decode cX8_signOf 6 = .ok (.iconst 1, 1) := by decide +kernel
theorem dX8_signOf_7 : decode cX8_signOf 7 = .ok (.goto 14, 3) := by decide +kernel
theorem dX8_signOf_10 : decode cX8_signOf 10 = .ok (.lload_n 0, 1) := by decide +kernel
theorem dX8_signOf_11 : decode cX8_signOf 11 = .ok (.lconst 0, 1) := by decide +kernel
theorem dX8_signOf_12 : decode cX8_signOf 12 = .ok (.lcmp, 1) := by decide +kernel
theorem dX8_signOf_13 : decode cX8_signOf 13 = .ok (.ifCond .ge 7, 3) := by decide +kernel
theorem dX8_signOf_16 : decode cX8_signOf 16 = .ok (.iconst (-1), 1) := by decide +kernel
theorem dX8_signOf_17 : decode cX8_signOf 17 = .ok (.goto 4, 3) := by decide +kernel
theorem dX8_signOf_20 : decode cX8_signOf 20 = .ok (.iconst 0, 1) := by decide +kernel
theorem dX8_signOf_21 : decode cX8_signOf 21 = .ok (.ireturn, 1) := by decide +kernel
abbrev csX8_convert : List (List Cond) := [[.code yX8_convert cX8_convert 3 none], wsX8_convert_r1, wsX8_convert_r2, wsX80]
set_option maxRecDepth 20000 in
theorem hbX8_convert : wsX8_convert = csX8_convert.flatten := rfl
set_option maxRecDepth 20000 in
theorem ggX8_convert_X8_runUp : GoodIn wsX8_convert wsX8_runUp := goodIn_c csX8_convert hbX8_convert _ [(1, 11), (1, 0), (1, 1), (1, 12), (1, 3), (1, 13), (1, 14), (1, 15), (1, 10), (1, 16), (1, 17), (1, 18), (1, 19), (1, 20), (1, 21), (1, 22), (1, 2), (1, 23), (2, 0), (2, 1), (2, 2), (2, 3), (2, 4), (2, 5), (2, 6), (2, 7), (2, 8), (2, 9), (2, 10), (2, 11), (2, 12), (2, 13), (2, 14), (2, 15), (2, 16), (2, 17), (2, 18), (2, 19), (2, 20), (3, 0), (3, 1), (3, 2), (3, 3), (3, 4), (3, 5), (3, 6), (3, 7), (3, 8), (3, 9), (3, 10), (3, 11)] rfl (by decide +kernel)
set_option maxRecDepth 20000 in
theorem gX8_convert_X8_runUp : GoodIn wsX8_convert (wsV RX8 112 RX8 yX8_runUp wsX8_runUp) := goodIn_app (goodIn_c csX8_convert hbX8_convert [.methodLink RX8 112 yX8_runUp, .instanceMethod yX8_runUp, .selects RX8 yX8_runUp yX8_runUp, .initialized RX8] [(1, 7), (1, 8), (1, 9), (1, 10)] rfl (by decide +kernel)) ggX8_convert_X8_runUp
set_option maxRecDepth 20000 in
theorem ggX8_convert_X8_signOf : GoodIn wsX8_convert wsX8_signOf := goodIn_c csX8_convert hbX8_convert _ [(2, 23)] rfl (by decide +kernel)
set_option maxRecDepth 20000 in
theorem gX8_convert_X8_signOf : GoodIn wsX8_convert (va_wsS RX8 116 yX8_signOf wsX8_signOf) := goodIn_app (goodIn_c csX8_convert hbX8_convert [.methodLink RX8 116 yX8_signOf, .static yX8_signOf, .initialized yX8_signOf.cls] [(2, 21), (2, 22), (1, 10)] rfl (by decide +kernel)) ggX8_convert_X8_signOf
set_option maxRecDepth 20000 in
theorem ggX8_convert_X8_tick : GoodIn wsX8_convert wsX8_tick := goodIn_c csX8_convert hbX8_convert _ [(2, 17), (1, 1), (1, 0), (2, 18), (2, 19), (1, 10), (2, 20), (3, 0), (3, 1), (3, 2), (3, 3), (3, 4), (3, 5), (3, 6), (3, 7), (3, 8), (3, 9), (3, 10), (3, 11)] rfl (by decide +kernel)
set_option maxRecDepth 20000 in
theorem gX8_convert_X8_tick : GoodIn wsX8_convert (wsV RX8 108 RX8 yX8_tick wsX8_tick) := goodIn_app (goodIn_c csX8_convert hbX8_convert [.methodLink RX8 108 yX8_tick, .instanceMethod yX8_tick, .selects RX8 yX8_tick yX8_tick, .initialized RX8] [(2, 14), (2, 15), (2, 16), (1, 10)] rfl (by decide +kernel)) ggX8_convert_X8_tick
theorem dX8_convert_0 : decode cX8_convert 0 = .ok (.bipush 15, 2) := by decide +kernel
theorem dX8_convert_2 : decode cX8_convert 2 = .ok (.istore_n 2, 1) := by decide +kernel
theorem dX8_convert_3 : decode cX8_convert 3 = .ok (.iload_n 2, 1) := by decide +kernel
theorem dX8_convert_4 : decode cX8_convert 4 = .ok (.bipush 22, 2) := by decide +kernel
theorem dX8_convert_6 : decode cX8_convert 6 = .ok (.if_icmp .ge 16, 3) := by decide +kernel
theorem dX8_convert_9 : decode cX8_convert 9 = .ok (.aload_n 0, 1) := by decide +kernel
theorem dX8_convert_10 : decode cX8_convert 10 = .ok (.getfield 7, 3) := by decide +kernel
theorem dX8_convert_13 : decode cX8_convert 13 = .ok (.iload_n 2, 1) := by decide +kernel
theorem dX8_convert_14 : decode cX8_convert 14 = .ok (.lconst 0, 1) := by decide +kernel
theorem dX8_convert_15 : decode cX8_convert 15 = .ok (.lastore, 1) := by decide +kernel
theorem dX8_convert_16 : decode cX8_convert 16 = .ok (.iinc 2 1, 3) := by decide +kernel
theorem dX8_convert_19 : decode cX8_convert 19 = .ok (.goto (-16), 3) := by decide +kernel
theorem dX8_convert_22 : decode cX8_convert 22 = .ok (.aload_n 0, 1) := by decide +kernel
theorem dX8_convert_23 : decode cX8_convert 23 = .ok (.getfield 7, 3) := by decide +kernel
theorem dX8_convert_26 : decode cX8_convert 26 = .ok (.bipush 22, 2) := by decide +kernel
theorem dX8_convert_28 : decode cX8_convert 28 = .ok (.lconst 1, 1) := by decide +kernel
theorem dX8_convert_29 : decode cX8_convert 29 = .ok (.lastore, 1) := by decide +kernel
theorem dX8_convert_30 : decode cX8_convert 30 = .ok (.aload_n 0, 1) := by decide +kernel
theorem dX8_convert_31 : decode cX8_convert 31 = .ok (.lconst 0, 1) := by decide +kernel
theorem dX8_convert_32 : decode cX8_convert 32 = .ok (.putfield 97, 3) := by decide +kernel
theorem dX8_convert_35 : decode cX8_convert 35 = .ok (.aload_n 0, 1) := by decide +kernel
theorem dX8_convert_36 : decode cX8_convert 36 = .ok (.iload_n 1, 1) := by decide +kernel
theorem dX8_convert_37 : decode cX8_convert 37 = .ok (.invokevirtual 112, 3) := by decide +kernel
theorem dX8_convert_40 : decode cX8_convert 40 = .ok (.aload_n 0, 1) := by decide +kernel
theorem dX8_convert_41 : decode cX8_convert 41 = .ok (.getfield 97, 3) := by decide +kernel
theorem dX8_convert_44 : decode cX8_convert 44 = .ok (.invokestatic 116, 3) := by decide +kernel
theorem dX8_convert_47 : decode cX8_convert 47 = .ok (.istore_n 2, 1) := by decide +kernel
theorem dX8_convert_48 : decode cX8_convert 48 = .ok (.iload_n 2, 1) := by decide +kernel
theorem dX8_convert_49 : decode cX8_convert 49 = .ok (.ifCond .eq 60, 3) := by decide +kernel
theorem dX8_convert_52 : decode cX8_convert 52 = .ok (.aload_n 0, 1) := by decide +kernel
theorem dX8_convert_53 : decode cX8_convert 53 = .ok (.getfield 97, 3) := by decide +kernel
theorem dX8_convert_56 : decode cX8_convert 56 = .ok (.invokestatic 116, 3) := by decide +kernel
theorem dX8_convert_59 : decode cX8_convert 59 = .ok (.iload_n 2, 1) := by decide +kernel
theorem dX8_convert_60 : decode cX8_convert 60 = .ok (.if_icmp .ne 49, 3) := by decide +kernel
theorem dX8_convert_63 : decode cX8_convert 63 = .ok (.aload_n 0, 1) := by decide +kernel
theorem dX8_convert_64 : decode cX8_convert 64 = .ok (.getfield 7, 3) := by decide +kernel
theorem dX8_convert_67 : decode cX8_convert 67 = .ok (.bipush 16, 2) := by decide +kernel
theorem dX8_convert_69 : decode cX8_convert 69 = .ok (.laload, 1) := by decide +kernel
theorem dX8_convert_70 : decode cX8_convert 70 = .ok (.ldc2_w 69, 3) := by decide +kernel
theorem dX8_convert_73 : decode cX8_convert 73 = .ok (.aload_n 0, 1) := by decide +kernel
theorem dX8_convert_74 : decode cX8_convert 74 = .ok (.getfield 7, 3) := by decide +kernel
theorem dX8_convert_77 : decode cX8_convert 77 = .ok (.iconst 5, 1) := by decide +kernel
theorem dX8_convert_78 : decode cX8_convert 78 = .ok (.laload, 1) := by decide +kernel
theorem dX8_convert_79 : decode cX8_convert 79 = .ok (.lmul, 1) := by decide +kernel
theorem dX8_convert_80 : decode cX8_convert 80 = .ok (.lcmp, 1) := by decide +kernel
theorem dX8_convert_81 : decode cX8_convert 81 = .ok (.ifCond .ge 28, 3) := by decide +kernel
theorem dX8_convert_84 : decode cX8_convert 84 = .ok (.aload_n 0, 1) := by decide +kernel
theorem dX8_convert_85 : decode cX8_convert 85 = .ok (.iload_n 2, 1) := by decide +kernel
theorem dX8_convert_86 : decode cX8_convert 86 = .ok (.ineg, 1) := by decide +kernel
theorem dX8_convert_87 : decode cX8_convert 87 = .ok (.i2l, 1) := by decide +kernel
theorem dX8_convert_88 : decode cX8_convert 88 = .ok (.ldc2_w 106, 3) := by decide +kernel
theorem dX8_convert_91 : decode cX8_convert 91 = .ok (.lmul, 1) := by decide +kernel
theorem dX8_convert_92 : decode cX8_convert 92 = .ok (.invokevirtual 108, 3) := by decide +kernel
theorem dX8_convert_95 : decode cX8_convert 95 = .ok (.aload_n 0, 1) := by decide +kernel
theorem dX8_convert_96 : decode cX8_convert 96 = .ok (.getfield 7, 3) := by decide +kernel
theorem dX8_convert_99 : decode cX8_convert 99 = .ok (.bipush 16, 2) := by decide +kernel
theorem dX8_convert_101 : decode cX8_convert 101 = .ok (.dup2, 1) := by decide +kernel
theorem dX8_convert_102 : decode cX8_convert 102 = .ok (.laload, 1) := by decide +kernel
theorem dX8_convert_103 : decode cX8_convert 103 = .ok (.lconst 1, 1) := by decide +kernel
theorem dX8_convert_104 : decode cX8_convert 104 = .ok (.ladd, 1) := by decide +kernel
theorem dX8_convert_105 : decode cX8_convert 105 = .ok (.lastore, 1) := by decide +kernel
theorem dX8_convert_106 : decode cX8_convert 106 = .ok (.goto (-58), 3) := by decide +kernel
theorem dX8_convert_109 : decode cX8_convert 109 = .ok (.aload_n 0, 1) := by decide +kernel
theorem dX8_convert_110 : decode cX8_convert 110 = .ok (.iload_n 2, 1) := by decide +kernel
theorem dX8_convert_111 : decode cX8_convert 111 = .ok (.ifCond .eq 18, 3) := by decide +kernel
theorem dX8_convert_114 : decode cX8_convert 114 = .ok (.aload_n 0, 1) := by decide +kernel
theorem dX8_convert_115 : decode cX8_convert 115 = .ok (.getfield 97, 3) := by decide +kernel
theorem dX8_convert_118 : decode cX8_convert 118 = .ok (.invokestatic 116, 3) := by decide +kernel
theorem dX8_convert_121 : decode cX8_convert 121 = .ok (.iload_n 2, 1) := by decide +kernel
theorem dX8_convert_122 : decode cX8_convert 122 = .ok (.if_icmp .ne 7, 3) := by decide +kernel
theorem dX8_convert_125 : decode cX8_convert 125 = .ok (.iconst 1, 1) := by decide +kernel
theorem dX8_convert_126 : decode cX8_convert 126 = .ok (.goto 4, 3) := by decide +kernel
theorem dX8_convert_129 : decode cX8_convert 129 = .ok (.iconst 0, 1) := by decide +kernel
theorem dX8_convert_130 : decode cX8_convert 130 = .ok (.putfield 120, 3) := by decide +kernel
theorem dX8_convert_133 : decode cX8_convert 133 = .ok (.aload_n 0, 1) := by decide +kernel
theorem dX8_convert_134 : decode cX8_convert 134 = .ok (.getfield 120, 3) := by decide +kernel
theorem dX8_convert_137 : decode cX8_convert 137 = .ok (.ifCond .ne 47, 3) := by decide +kernel
theorem dX8_convert_140 : decode cX8_convert 140 = .ok (.aload_n 0, 1) := by decide +kernel
theorem dX8_convert_141 : decode cX8_convert 141 = .ok (.getfield 97, 3) := by decide +kernel
theorem dX8_convert_144 : decode cX8_convert 144 = .ok (.lconst 0, 1) := by decide +kernel
theorem dX8_convert_145 : decode cX8_convert 145 = .ok (.lcmp, 1) := by decide +kernel
theorem dX8_convert_146 : decode cX8_convert 146 = .ok (.ifCond .eq 38, 3) := by decide +kernel
theorem dX8_convert_149 : decode cX8_convert 149 = .ok (.aload_n 0, 1) := by decide +kernel
theorem dX8_convert_150 : decode cX8_convert 150 = .ok (.getfield 97, 3) := by decide +kernel
theorem dX8_convert_153 : decode cX8_convert 153 = .ok (.invokestatic 116, 3) := by decide +kernel
theorem dX8_convert_156 : decode cX8_convert 156 = .ok (.iload_n 2, 1) := by decide +kernel
theorem dX8_convert_157 : decode cX8_convert 157 = .ok (.if_icmp .eq 27, 3) := by decide +kernel
theorem dX8_convert_160 : decode cX8_convert 160 = .ok (.aload_n 0, 1) := by decide +kernel
theorem dX8_convert_161 : decode cX8_convert 161 = .ok (.iload_n 2, 1) := by decide +kernel
theorem dX8_convert_162 : decode cX8_convert 162 = .ok (.i2l, 1) := by decide +kernel
theorem dX8_convert_163 : decode cX8_convert 163 = .ok (.ldc2_w 124, 3) := by decide +kernel
theorem dX8_convert_166 : decode cX8_convert 166 = .ok (.lmul, 1) := by decide +kernel
theorem dX8_convert_167 : decode cX8_convert 167 = .ok (.invokevirtual 108, 3) := by decide +kernel
theorem dX8_convert_170 : decode cX8_convert 170 = .ok (.aload_n 0, 1) := by decide +kernel
theorem dX8_convert_171 : decode cX8_convert 171 = .ok (.getfield 7, 3) := by decide +kernel
theorem dX8_convert_174 : decode cX8_convert 174 = .ok (.bipush 17, 2) := by decide +kernel
theorem dX8_convert_176 : decode cX8_convert 176 = .ok (.dup2, 1) := by decide +kernel
theorem dX8_convert_177 : decode cX8_convert 177 = .ok (.laload, 1) := by decide +kernel
theorem dX8_convert_178 : decode cX8_convert 178 = .ok (.lconst 1, 1) := by decide +kernel
theorem dX8_convert_179 : decode cX8_convert 179 = .ok (.ladd, 1) := by decide +kernel
theorem dX8_convert_180 : decode cX8_convert 180 = .ok (.lastore, 1) := by decide +kernel
theorem dX8_convert_181 : decode cX8_convert 181 = .ok (.goto (-48), 3) := by decide +kernel
theorem dX8_convert_184 : decode cX8_convert 184 = .ok (.aload_n 0, 1) := by decide +kernel
theorem dX8_convert_185 : decode cX8_convert 185 = .ok (.getfield 7, 3) := by decide +kernel
theorem dX8_convert_188 : decode cX8_convert 188 = .ok (.bipush 15, 2) := by decide +kernel
theorem dX8_convert_190 : decode cX8_convert 190 = .ok (.ldc2_w 126, 3) := by decide +kernel
theorem dX8_convert_193 : decode cX8_convert 193 = .ok (.aload_n 0, 1) := by decide +kernel
theorem dX8_convert_194 : decode cX8_convert 194 = .ok (.getfield 7, 3) := by decide +kernel
theorem dX8_convert_197 : decode cX8_convert 197 = .ok (.bipush 18, 2) := by decide +kernel
theorem dX8_convert_199 : decode cX8_convert 199 = .ok (.laload, 1) := by decide +kernel
theorem dX8_convert_200 : decode cX8_convert 200 = .ok (.aload_n 0, 1) := by decide +kernel
theorem dX8_convert_201 : decode cX8_convert 201 = .ok (.getfield 7, 3) := by decide +kernel
theorem dX8_convert_204 : decode cX8_convert 204 = .ok (.bipush 19, 2) := by decide +kernel
theorem dX8_convert_206 : decode cX8_convert 206 = .ok (.laload, 1) := by decide +kernel
theorem dX8_convert_207 : decode cX8_convert 207 = .ok (.lsub, 1) := by decide +kernel
theorem dX8_convert_208 : decode cX8_convert 208 = .ok (.lmul, 1) := by decide +kernel
theorem dX8_convert_209 : decode cX8_convert 209 = .ok (.iload_n 2, 1) := by decide +kernel
theorem dX8_convert_210 : decode cX8_convert 210 = .ok (.i2l, 1) := by decide +kernel
theorem dX8_convert_211 : decode cX8_convert 211 = .ok (.ldc2_w 126, 3) := by decide +kernel
theorem dX8_convert_214 : decode cX8_convert 214 = .ok (.aload_n 0, 1) := by decide +kernel
theorem dX8_convert_215 : decode cX8_convert 215 = .ok (.getfield 7, 3) := by decide +kernel
theorem dX8_convert_218 : decode cX8_convert 218 = .ok (.bipush 16, 2) := by decide +kernel
theorem dX8_convert_220 : decode cX8_convert 220 = .ok (.laload, 1) := by decide +kernel
theorem dX8_convert_221 : decode cX8_convert 221 = .ok (.lmul, 1) := by decide +kernel
theorem dX8_convert_222 : decode cX8_convert 222 = .ok (.aload_n 0, 1) := by decide +kernel
theorem dX8_convert_223 : decode cX8_convert 223 = .ok (.getfield 7, 3) := by decide +kernel
theorem dX8_convert_226 : decode cX8_convert 226 = .ok (.bipush 17, 2) := by decide +kernel
theorem dX8_convert_228 : decode cX8_convert 228 = .ok (.laload, 1) := by decide +kernel
theorem dX8_convert_229 : decode cX8_convert 229 = .ok (.lsub, 1) := by decide +kernel
theorem dX8_convert_230 : decode cX8_convert 230 = .ok (.lmul, 1) := by decide +kernel
theorem dX8_convert_231 : decode cX8_convert 231 = .ok (.ladd, 1) := by decide +kernel
theorem dX8_convert_232 : decode cX8_convert 232 = .ok (.lastore, 1) := by decide +kernel
theorem dX8_convert_233 : decode cX8_convert 233 = .ok (.aload_n 0, 1) := by decide +kernel
theorem dX8_convert_234 : decode cX8_convert 234 = .ok (.getfield 7, 3) := by decide +kernel
theorem dX8_convert_237 : decode cX8_convert 237 = .ok (.bipush 21, 2) := by decide +kernel
theorem dX8_convert_239 : decode cX8_convert 239 = .ok (.aload_n 0, 1) := by decide +kernel
theorem dX8_convert_240 : decode cX8_convert 240 = .ok (.getfield 97, 3) := by decide +kernel
theorem dX8_convert_243 : decode cX8_convert 243 = .ok (.lastore, 1) := by decide +kernel
theorem dX8_convert_244 : decode cX8_convert 244 = .ok (.return_, 1) := by decide +kernel
abbrev csX8_changeRange : List (List Cond) := [[.code yX8_changeRange cX8_changeRange 3 none], [.fieldLink RX8 7 "SlopeMeterModel" "at" "[J", .fieldLink RX8 120 "SlopeMeterModel" "isOver" "Z", .constantLong RX8 126 (16), .constantLong RX8 128 (12), .constantLong RX8 69 (3), .methodLink RX8 101 yX8_size, .static yX8_size, .initialized RX8, .code yX8_size cX8_size 2 (some .long)], wsX80]
set_option maxRecDepth 20000 in
theorem hbX8_changeRange : wsX8_changeRange = csX8_changeRange.flatten := rfl
set_option maxRecDepth 20000 in
theorem ggX8_changeRange_X8_size : GoodIn wsX8_changeRange wsX8_size := goodIn_c csX8_changeRange hbX8_changeRange _ [(1, 8)] rfl (by decide +kernel)
set_option maxRecDepth 20000 in
theorem gX8_changeRange_X8_size : GoodIn wsX8_changeRange (va_wsS RX8 101 yX8_size wsX8_size) := goodIn_app (goodIn_c csX8_changeRange hbX8_changeRange [.methodLink RX8 101 yX8_size, .static yX8_size, .initialized yX8_size.cls] [(1, 5), (1, 6), (1, 7)] rfl (by decide +kernel)) ggX8_changeRange_X8_size
theorem dX8_changeRange_0 : decode cX8_changeRange 0 = .ok (.aload_n 0, 1) := by decide +kernel
theorem dX8_changeRange_1 : decode cX8_changeRange 1 = .ok (.getfield 7, 3) := by decide +kernel
theorem dX8_changeRange_4 : decode cX8_changeRange 4 = .ok (.bipush 9, 2) := by decide +kernel
theorem dX8_changeRange_6 : decode cX8_changeRange 6 = .ok (.laload, 1) := by decide +kernel
theorem dX8_changeRange_7 : decode cX8_changeRange 7 = .ok (.lconst 0, 1) := by decide +kernel
theorem dX8_changeRange_8 : decode cX8_changeRange 8 = .ok (.lcmp, 1) := by decide +kernel
theorem dX8_changeRange_9 : decode cX8_changeRange 9 = .ok (.ifCond .ne 4, 3) := by decide +kernel
theorem dX8_changeRange_12 : decode cX8_changeRange 12 = .ok (.return_, 1) := by decide +kernel
theorem dX8_changeRange_13 : decode cX8_changeRange 13 = .ok (.aload_n 0, 1) := by decide +kernel
theorem dX8_changeRange_14 : decode cX8_changeRange 14 = .ok (.getfield 120, 3) := by decide +kernel
theorem dX8_changeRange_17 : decode cX8_changeRange 17 = .ok (.ifCond .ne 21, 3) := by decide +kernel
theorem dX8_changeRange_20 : decode cX8_changeRange 20 = .ok (.lload_n 1, 1) := by decide +kernel
theorem dX8_changeRange_21 : decode cX8_changeRange 21 = .ok (.invokestatic 101, 3) := by decide +kernel
theorem dX8_changeRange_24 : decode cX8_changeRange 24 = .ok (.ldc2_w 126, 3) := by decide +kernel
theorem dX8_changeRange_27 : decode cX8_changeRange 27 = .ok (.aload_n 0, 1) := by decide +kernel
theorem dX8_changeRange_28 : decode cX8_changeRange 28 = .ok (.getfield 7, 3) := by decide +kernel
theorem dX8_changeRange_31 : decode cX8_changeRange 31 = .ok (.iconst 5, 1) := by decide +kernel
theorem dX8_changeRange_32 : decode cX8_changeRange 32 = .ok (.laload, 1) := by decide +kernel
theorem dX8_changeRange_33 : decode cX8_changeRange 33 = .ok (.lmul, 1) := by decide +kernel
theorem dX8_changeRange_34 : decode cX8_changeRange 34 = .ok (.lcmp, 1) := by decide +kernel
theorem dX8_changeRange_35 : decode cX8_changeRange 35 = .ok (.ifCond .le 33, 3) := by decide +kernel
theorem dX8_changeRange_38 : decode cX8_changeRange 38 = .ok (.aload_n 0, 1) := by decide +kernel
theorem dX8_changeRange_39 : decode cX8_changeRange 39 = .ok (.getfield 7, 3) := by decide +kernel
theorem dX8_changeRange_42 : decode cX8_changeRange 42 = .ok (.bipush 10, 2) := by decide +kernel
theorem dX8_changeRange_44 : decode cX8_changeRange 44 = .ok (.dup2, 1) := by decide +kernel
theorem dX8_changeRange_45 : decode cX8_changeRange 45 = .ok (.laload, 1) := by decide +kernel
theorem dX8_changeRange_46 : decode cX8_changeRange 46 = .ok (.aload_n 0, 1) := by decide +kernel
theorem dX8_changeRange_47 : decode cX8_changeRange 47 = .ok (.getfield 7, 3) := by decide +kernel
theorem dX8_changeRange_50 : decode cX8_changeRange 50 = .ok (.bipush 10, 2) := by decide +kernel
theorem dX8_changeRange_52 : decode cX8_changeRange 52 = .ok (.laload, 1) := by decide +kernel
theorem dX8_changeRange_53 : decode cX8_changeRange 53 = .ok (.lconst 0, 1) := by decide +kernel
theorem dX8_changeRange_54 : decode cX8_changeRange 54 = .ok (.lcmp, 1) := by decide +kernel
theorem dX8_changeRange_55 : decode cX8_changeRange 55 = .ok (.ifCond .le 7, 3) := by decide +kernel
theorem dX8_changeRange_58 : decode cX8_changeRange 58 = .ok (.lconst 1, 1) := by decide +kernel
theorem dX8_changeRange_59 : decode cX8_changeRange 59 = .ok (.goto 4, 3) := by decide +kernel
theorem dX8_changeRange_62 : decode cX8_changeRange 62 = .ok (.lconst 0, 1) := by decide +kernel
theorem dX8_changeRange_63 : decode cX8_changeRange 63 = .ok (.lsub, 1) := by decide +kernel
theorem dX8_changeRange_64 : decode cX8_changeRange 64 = .ok (.lastore, 1) := by decide +kernel
theorem dX8_changeRange_65 : decode cX8_changeRange 65 = .ok (.goto 54, 3) := by decide +kernel
theorem dX8_changeRange_68 : decode cX8_changeRange 68 = .ok (.lload_n 1, 1) := by decide +kernel
theorem dX8_changeRange_69 : decode cX8_changeRange 69 = .ok (.invokestatic 101, 3) := by decide +kernel
theorem dX8_changeRange_72 : decode cX8_changeRange 72 = .ok (.ldc2_w 126, 3) := by decide +kernel
theorem dX8_changeRange_75 : decode cX8_changeRange 75 = .ok (.aload_n 0, 1) := by decide +kernel
theorem dX8_changeRange_76 : decode cX8_changeRange 76 = .ok (.getfield 7, 3) := by decide +kernel
theorem dX8_changeRange_79 : decode cX8_changeRange 79 = .ok (.iconst 5, 1) := by decide +kernel
theorem dX8_changeRange_80 : decode cX8_changeRange 80 = .ok (.laload, 1) := by decide +kernel
theorem dX8_changeRange_81 : decode cX8_changeRange 81 = .ok (.lmul, 1) := by decide +kernel
theorem dX8_changeRange_82 : decode cX8_changeRange 82 = .ok (.ldc2_w 128, 3) := by decide +kernel
theorem dX8_changeRange_85 : decode cX8_changeRange 85 = .ok (.ldiv, 1) := by decide +kernel
theorem dX8_changeRange_86 : decode cX8_changeRange 86 = .ok (.lcmp, 1) := by decide +kernel
theorem dX8_changeRange_87 : decode cX8_changeRange 87 = .ok (.ifCond .ge 32, 3) := by decide +kernel
theorem dX8_changeRange_90 : decode cX8_changeRange 90 = .ok (.aload_n 0, 1) := by decide +kernel
theorem dX8_changeRange_91 : decode cX8_changeRange 91 = .ok (.getfield 7, 3) := by decide +kernel
theorem dX8_changeRange_94 : decode cX8_changeRange 94 = .ok (.bipush 10, 2) := by decide +kernel
theorem dX8_changeRange_96 : decode cX8_changeRange 96 = .ok (.dup2, 1) := by decide +kernel
theorem dX8_changeRange_97 : decode cX8_changeRange 97 = .ok (.laload, 1) := by decide +kernel
theorem dX8_changeRange_98 : decode cX8_changeRange 98 = .ok (.aload_n 0, 1) := by decide +kernel
theorem dX8_changeRange_99 : decode cX8_changeRange 99 = .ok (.getfield 7, 3) := by decide +kernel
theorem dX8_changeRange_102 : decode cX8_changeRange 102 = .ok (.bipush 10, 2) := by decide +kernel
theorem dX8_changeRange_104 : decode cX8_changeRange 104 = .ok (.laload, 1) := by decide +kernel
theorem dX8_changeRange_105 : decode cX8_changeRange 105 = .ok (.ldc2_w 69, 3) := by decide +kernel
theorem dX8_changeRange_108 : decode cX8_changeRange 108 = .ok (.lcmp, 1) := by decide +kernel
theorem dX8_changeRange_109 : decode cX8_changeRange 109 = .ok (.ifCond .ge 7, 3) := by decide +kernel
theorem dX8_changeRange_112 : decode cX8_changeRange 112 = .ok (.lconst 1, 1) := by decide +kernel
theorem dX8_changeRange_113 : decode cX8_changeRange 113 = .ok (.goto 4, 3) := by decide +kernel
theorem dX8_changeRange_116 : decode cX8_changeRange 116 = .ok (.lconst 0, 1) := by decide +kernel
theorem dX8_changeRange_117 : decode cX8_changeRange 117 = .ok (.ladd, 1) := by decide +kernel
theorem dX8_changeRange_118 : decode cX8_changeRange 118 = .ok (.lastore, 1) := by decide +kernel
theorem dX8_changeRange_119 : decode cX8_changeRange 119 = .ok (.return_, 1) := by decide +kernel
abbrev csX8_makeReading : List (List Cond) := [[.code yX8_makeReading cX8_makeReading 8 (some .long)], wsX8_makeReading_r1, wsX8_makeReading_r2, wsX8_makeReading_r3, wsX80]
set_option maxRecDepth 20000 in
theorem hbX8_makeReading : wsX8_makeReading = csX8_makeReading.flatten := rfl
set_option maxRecDepth 20000 in
theorem ggX8_makeReading_X8_convert : GoodIn wsX8_makeReading wsX8_convert := goodIn_c csX8_makeReading hbX8_makeReading _ [(1, 8), (1, 0), (1, 9), (1, 10), (1, 11), (1, 3), (1, 1), (1, 12), (1, 13), (1, 14), (1, 15), (1, 7), (1, 16), (1, 17), (1, 18), (1, 19), (1, 20), (1, 21), (1, 22), (1, 23), (2, 0), (2, 1), (2, 2), (2, 3), (2, 4), (2, 5), (2, 6), (2, 7), (2, 8), (2, 9), (2, 10), (2, 11), (2, 12), (2, 13), (2, 14), (2, 15), (2, 16), (2, 17), (2, 18), (2, 19), (2, 20), (2, 21), (2, 22), (2, 23), (3, 0), (3, 1), (3, 2), (3, 3), (3, 4), (4, 0), (4, 1), (4, 2), (4, 3), (4, 4), (4, 5), (4, 6), (4, 7), (4, 8), (4, 9), (4, 10), (4, 11)] rfl (by decide +kernel)
set_option maxRecDepth 20000 in
theorem gX8_makeReading_X8_convert : GoodIn wsX8_makeReading (wsV RX8 130 RX8 yX8_convert wsX8_convert) := goodIn_app (goodIn_c csX8_makeReading hbX8_makeReading [.methodLink RX8 130 yX8_convert, .instanceMethod yX8_convert, .selects RX8 yX8_convert yX8_convert, .initialized RX8] [(1, 4), (1, 5), (1, 6), (1, 7)] rfl (by decide +kernel)) ggX8_makeReading_X8_convert
set_option maxRecDepth 20000 in
theorem ggX8_makeReading_X8_gain : GoodIn wsX8_makeReading wsX8_gain := goodIn_c csX8_makeReading hbX8_makeReading _ [(2, 8), (1, 0), (2, 9), (4, 0), (4, 1), (4, 2), (4, 3), (4, 4), (4, 5), (4, 6), (4, 7), (4, 8), (4, 9), (4, 10), (4, 11)] rfl (by decide +kernel)
set_option maxRecDepth 20000 in
theorem gX8_makeReading_X8_gain : GoodIn wsX8_makeReading (wsV RX8 80 RX8 yX8_gain wsX8_gain) := goodIn_app (goodIn_c csX8_makeReading hbX8_makeReading [.methodLink RX8 80 yX8_gain, .instanceMethod yX8_gain, .selects RX8 yX8_gain yX8_gain, .initialized RX8] [(2, 5), (2, 6), (2, 7), (1, 7)] rfl (by decide +kernel)) ggX8_makeReading_X8_gain
set_option maxRecDepth 20000 in
theorem ggX8_makeReading_X8_changeRange : GoodIn wsX8_makeReading wsX8_changeRange := goodIn_c csX8_makeReading hbX8_makeReading _ [(3, 8), (1, 0), (1, 3), (1, 12), (3, 9), (1, 10), (2, 23), (3, 0), (1, 7), (3, 1), (4, 0), (4, 1), (4, 2), (4, 3), (4, 4), (4, 5), (4, 6), (4, 7), (4, 8), (4, 9), (4, 10), (4, 11)] rfl (by decide +kernel)
set_option maxRecDepth 20000 in
theorem gX8_makeReading_X8_changeRange : GoodIn wsX8_makeReading (wsV RX8 135 RX8 yX8_changeRange wsX8_changeRange) := goodIn_app (goodIn_c csX8_makeReading hbX8_makeReading [.methodLink RX8 135 yX8_changeRange, .instanceMethod yX8_changeRange, .selects RX8 yX8_changeRange yX8_changeRange, .initialized RX8] [(3, 5), (3, 6), (3, 7), (1, 7)] rfl (by decide +kernel)) ggX8_makeReading_X8_changeRange
theorem dX8_makeReading_0 : decode cX8_makeReading 0 = .ok (.aload_n 0, 1) := by decide +kernel
theorem dX8_makeReading_1 : decode cX8_makeReading 1 = .ok (.getfield 7, 3) := by decide +kernel
theorem dX8_makeReading_4 : decode cX8_makeReading 4 = .ok (.bipush 8, 2) := by decide +kernel
theorem dX8_makeReading_6 : decode cX8_makeReading 6 = .ok (.laload, 1) := by decide +kernel
theorem dX8_makeReading_7 : decode cX8_makeReading 7 = .ok (.lconst 0, 1) := by decide +kernel
theorem dX8_makeReading_8 : decode cX8_makeReading 8 = .ok (.lcmp, 1) := by decide +kernel
theorem dX8_makeReading_9 : decode cX8_makeReading 9 = .ok (.ifCond .le 76, 3) := by decide +kernel
theorem dX8_makeReading_12 : decode cX8_makeReading 12 = .ok (.aload_n 0, 1) := by decide +kernel
theorem dX8_makeReading_13 : decode cX8_makeReading 13 = .ok (.getfield 7, 3) := by decide +kernel
theorem dX8_makeReading_16 : decode cX8_makeReading 16 = .ok (.bipush 13, 2) := by decide +kernel
theorem dX8_makeReading_18 : decode cX8_makeReading 18 = .ok (.laload, 1) := by decide +kernel
theorem dX8_makeReading_19 : decode cX8_makeReading 19 = .ok (.lconst 0, 1) := by decide +kernel
theorem dX8_makeReading_20 : decode cX8_makeReading 20 = .ok (.lcmp, 1) := by decide +kernel
theorem dX8_makeReading_21 : decode cX8_makeReading 21 = .ok (.ifCond .ne 7, 3) := by decide +kernel
theorem dX8_makeReading_24 : decode cX8_makeReading 24 = .ok (.iconst 1, 1) := by decide +kernel
theorem dX8_makeReading_25 : decode cX8_makeReading 25 = .ok (.goto 4, 3) := by decide +kernel
theorem dX8_makeReading_28 : decode cX8_makeReading 28 = .ok (.iconst 0, 1) := by decide +kernel
theorem dX8_makeReading_29 : decode cX8_makeReading 29 = .ok (.istore_n 1, 1) := by decide +kernel
theorem dX8_makeReading_30 : decode cX8_makeReading 30 = .ok (.iload_n 1, 1) := by decide +kernel
theorem dX8_makeReading_31 : decode cX8_makeReading 31 = .ok (.ifCond .eq 22, 3) := by decide +kernel
theorem dX8_makeReading_34 : decode cX8_makeReading 34 = .ok (.aload_n 0, 1) := by decide +kernel
theorem dX8_makeReading_35 : decode cX8_makeReading 35 = .ok (.iconst 1, 1) := by decide +kernel
theorem dX8_makeReading_36 : decode cX8_makeReading 36 = .ok (.invokevirtual 130, 3) := by decide +kernel
theorem dX8_makeReading_39 : decode cX8_makeReading 39 = .ok (.aload_n 0, 1) := by decide +kernel
theorem dX8_makeReading_40 : decode cX8_makeReading 40 = .ok (.getfield 7, 3) := by decide +kernel
theorem dX8_makeReading_43 : decode cX8_makeReading 43 = .ok (.bipush 12, 2) := by decide +kernel
theorem dX8_makeReading_45 : decode cX8_makeReading 45 = .ok (.aload_n 0, 1) := by decide +kernel
theorem dX8_makeReading_46 : decode cX8_makeReading 46 = .ok (.getfield 7, 3) := by decide +kernel
theorem dX8_makeReading_49 : decode cX8_makeReading 49 = .ok (.bipush 15, 2) := by decide +kernel
theorem dX8_makeReading_51 : decode cX8_makeReading 51 = .ok (.laload, 1) := by decide +kernel
theorem dX8_makeReading_52 : decode cX8_makeReading 52 = .ok (.lastore, 1) := by decide +kernel
theorem dX8_makeReading_53 : decode cX8_makeReading 53 = .ok (.aload_n 0, 1) := by decide +kernel
theorem dX8_makeReading_54 : decode cX8_makeReading 54 = .ok (.getfield 7, 3) := by decide +kernel
theorem dX8_makeReading_57 : decode cX8_makeReading 57 = .ok (.bipush 13, 2) := by decide +kernel
theorem dX8_makeReading_59 : decode cX8_makeReading 59 = .ok (.iload_n 1, 1) := by decide +kernel
theorem dX8_makeReading_60 : decode cX8_makeReading 60 = .ok (.ifCond .eq 15, 3) := by decide +kernel
theorem dX8_makeReading_63 : decode cX8_makeReading 63 = .ok (.aload_n 0, 1) := by decide +kernel
theorem dX8_makeReading_64 : decode cX8_makeReading 64 = .ok (.getfield 7, 3) := by decide +kernel
theorem dX8_makeReading_67 : decode cX8_makeReading 67 = .ok (.bipush 8, 2) := by decide +kernel
theorem dX8_makeReading_69 : decode cX8_makeReading 69 = .ok (.laload, 1) := by decide +kernel
theorem dX8_makeReading_70 : decode cX8_makeReading 70 = .ok (.lconst 1, 1) := by decide +kernel
theorem dX8_makeReading_71 : decode cX8_makeReading 71 = .ok (.lsub, 1) := by decide +kernel
theorem dX8_makeReading_72 : decode cX8_makeReading 72 = .ok (.goto 12, 3) := by decide +kernel
theorem dX8_makeReading_75 : decode cX8_makeReading 75 = .ok (.aload_n 0, 1) := by decide +kernel
theorem dX8_makeReading_76 : decode cX8_makeReading 76 = .ok (.getfield 7, 3) := by decide +kernel
theorem dX8_makeReading_79 : decode cX8_makeReading 79 = .ok (.bipush 13, 2) := by decide +kernel
theorem dX8_makeReading_81 : decode cX8_makeReading 81 = .ok (.laload, 1) := by decide +kernel
theorem dX8_makeReading_82 : decode cX8_makeReading 82 = .ok (.lconst 1, 1) := by decide +kernel
theorem dX8_makeReading_83 : decode cX8_makeReading 83 = .ok (.lsub, 1) := by decide +kernel
theorem dX8_makeReading_84 : decode cX8_makeReading 84 = .ok (.lastore, 1) := by decide +kernel
theorem dX8_makeReading_85 : decode cX8_makeReading 85 = .ok (.aload_n 0, 1) := by decide +kernel
theorem dX8_makeReading_86 : decode cX8_makeReading 86 = .ok (.getfield 7, 3) := by decide +kernel
theorem dX8_makeReading_89 : decode cX8_makeReading 89 = .ok (.bipush 11, 2) := by decide +kernel
theorem dX8_makeReading_91 : decode cX8_makeReading 91 = .ok (.laload, 1) := by decide +kernel
theorem dX8_makeReading_92 : decode cX8_makeReading 92 = .ok (.lstore_n 1, 1) := by decide +kernel
theorem dX8_makeReading_93 : decode cX8_makeReading 93 = .ok (.aload_n 0, 1) := by decide +kernel
theorem dX8_makeReading_94 : decode cX8_makeReading 94 = .ok (.iconst 0, 1) := by decide +kernel
theorem dX8_makeReading_95 : decode cX8_makeReading 95 = .ok (.invokevirtual 130, 3) := by decide +kernel
theorem dX8_makeReading_98 : decode cX8_makeReading 98 = .ok (.aload_n 0, 1) := by decide +kernel
theorem dX8_makeReading_99 : decode cX8_makeReading 99 = .ok (.getfield 7, 3) := by decide +kernel
theorem dX8_makeReading_102 : decode cX8_makeReading 102 = .ok (.bipush 15, 2) := by decide +kernel
theorem dX8_makeReading_104 : decode cX8_makeReading 104 = .ok (.laload, 1) := by decide +kernel
theorem dX8_makeReading_105 : decode cX8_makeReading 105 = .ok (.aload_n 0, 1) := by decide +kernel
theorem dX8_makeReading_106 : decode cX8_makeReading 106 = .ok (.getfield 7, 3) := by decide +kernel
theorem dX8_makeReading_109 : decode cX8_makeReading 109 = .ok (.bipush 12, 2) := by decide +kernel
theorem dX8_makeReading_111 : decode cX8_makeReading 111 = .ok (.laload, 1) := by decide +kernel
theorem dX8_makeReading_112 : decode cX8_makeReading 112 = .ok (.lsub, 1) := by decide +kernel
theorem dX8_makeReading_113 : decode cX8_makeReading 113 = .ok (.lstore_n 3, 1) := by decide +kernel
theorem dX8_makeReading_114 : decode cX8_makeReading 114 = .ok (.lload_n 3, 1) := by decide +kernel
theorem dX8_makeReading_115 : decode cX8_makeReading 115 = .ok (.ldc2_w 124, 3) := by decide +kernel
theorem dX8_makeReading_118 : decode cX8_makeReading 118 = .ok (.lmul, 1) := by decide +kernel
theorem dX8_makeReading_119 : decode cX8_makeReading 119 = .ok (.aload_n 0, 1) := by decide +kernel
theorem dX8_makeReading_120 : decode cX8_makeReading 120 = .ok (.getfield 7, 3) := by decide +kernel
theorem dX8_makeReading_123 : decode cX8_makeReading 123 = .ok (.iconst 5, 1) := by decide +kernel
theorem dX8_makeReading_124 : decode cX8_makeReading 124 = .ok (.laload, 1) := by decide +kernel
theorem dX8_makeReading_125 : decode cX8_makeReading 125 = .ok (.aload_n 0, 1) := by decide +kernel
theorem dX8_makeReading_126 : decode cX8_makeReading 126 = .ok (.invokevirtual 80, 3) := by decide +kernel
theorem dX8_makeReading_129 : decode cX8_makeReading 129 = .ok (.lmul, 1) := by decide +kernel
theorem dX8_makeReading_130 : decode cX8_makeReading 130 = .ok (.ldiv, 1) := by decide +kernel
theorem dX8_makeReading_131 : decode cX8_makeReading 131 = .ok (.lstore 5, 2) := by decide +kernel
theorem dX8_makeReading_133 : decode cX8_makeReading 133 = .ok (.bipush 23, 2) := by decide +kernel
theorem dX8_makeReading_135 : decode cX8_makeReading 135 = .ok (.bipush 7, 2) := by decide +kernel
theorem dX8_makeReading_137 : decode cX8_makeReading 137 = .ok (.aload_n 0, 1) := by decide +kernel
theorem dX8_makeReading_138 : decode cX8_makeReading 138 = .ok (.getfield 7, 3) := by decide +kernel
theorem dX8_makeReading_141 : decode cX8_makeReading 141 = .ok (.bipush 14, 2) := by decide +kernel
theorem dX8_makeReading_143 : decode cX8_makeReading 143 = .ok (.laload, 1) := by decide +kernel
theorem dX8_makeReading_144 : decode cX8_makeReading 144 = .ok (.ldc2_w 133, 3) := by decide +kernel
theorem dX8_makeReading_147 : decode cX8_makeReading 147 = .ok (.lrem, 1) := by decide +kernel
theorem dX8_makeReading_148 : decode cX8_makeReading 148 = .ok (.l2i, 1) := by decide +kernel
theorem dX8_makeReading_149 : decode cX8_makeReading 149 = .ok (.imul, 1) := by decide +kernel
theorem dX8_makeReading_150 : decode cX8_makeReading 150 = .ok (.iadd, 1) := by decide +kernel
theorem dX8_makeReading_151 : decode cX8_makeReading 151 = .ok (.istore 7, 2) := by decide +kernel
theorem dX8_makeReading_153 : decode cX8_makeReading 153 = .ok (.aload_n 0, 1) := by decide +kernel
theorem dX8_makeReading_154 : decode cX8_makeReading 154 = .ok (.getfield 7, 3) := by decide +kernel
theorem dX8_makeReading_157 : decode cX8_makeReading 157 = .ok (.iload 7, 2) := by decide +kernel
theorem dX8_makeReading_159 : decode cX8_makeReading 159 = .ok (.lload 5, 2) := by decide +kernel
theorem dX8_makeReading_161 : decode cX8_makeReading 161 = .ok (.lastore, 1) := by decide +kernel
theorem dX8_makeReading_162 : decode cX8_makeReading 162 = .ok (.aload_n 0, 1) := by decide +kernel
theorem dX8_makeReading_163 : decode cX8_makeReading 163 = .ok (.getfield 7, 3) := by decide +kernel
theorem dX8_makeReading_166 : decode cX8_makeReading 166 = .ok (.iload 7, 2) := by decide +kernel
theorem dX8_makeReading_168 : decode cX8_makeReading 168 = .ok (.iconst 1, 1) := by decide +kernel
theorem dX8_makeReading_169 : decode cX8_makeReading 169 = .ok (.iadd, 1) := by decide +kernel
theorem dX8_makeReading_170 : decode cX8_makeReading 170 = .ok (.lload_n 3, 1) := by decide +kernel
theorem dX8_makeReading_171 : decode cX8_makeReading 171 = .ok (.lastore, 1) := by decide +kernel
theorem dX8_makeReading_172 : decode cX8_makeReading 172 = .ok (.aload_n 0, 1) := by decide +kernel
theorem dX8_makeReading_173 : decode cX8_makeReading 173 = .ok (.getfield 7, 3) := by decide +kernel
theorem dX8_makeReading_176 : decode cX8_makeReading 176 = .ok (.iload 7, 2) := by decide +kernel
theorem dX8_makeReading_178 : decode cX8_makeReading 178 = .ok (.iconst 2, 1) := by decide +kernel
theorem dX8_makeReading_179 : decode cX8_makeReading 179 = .ok (.iadd, 1) := by decide +kernel
theorem dX8_makeReading_180 : decode cX8_makeReading 180 = .ok (.aload_n 0, 1) := by decide +kernel
theorem dX8_makeReading_181 : decode cX8_makeReading 181 = .ok (.getfield 7, 3) := by decide +kernel
theorem dX8_makeReading_184 : decode cX8_makeReading 184 = .ok (.bipush 10, 2) := by decide +kernel
theorem dX8_makeReading_186 : decode cX8_makeReading 186 = .ok (.laload, 1) := by decide +kernel
theorem dX8_makeReading_187 : decode cX8_makeReading 187 = .ok (.lastore, 1) := by decide +kernel
theorem dX8_makeReading_188 : decode cX8_makeReading 188 = .ok (.aload_n 0, 1) := by decide +kernel
theorem dX8_makeReading_189 : decode cX8_makeReading 189 = .ok (.getfield 7, 3) := by decide +kernel
theorem dX8_makeReading_192 : decode cX8_makeReading 192 = .ok (.iload 7, 2) := by decide +kernel
theorem dX8_makeReading_194 : decode cX8_makeReading 194 = .ok (.iconst 3, 1) := by decide +kernel
theorem dX8_makeReading_195 : decode cX8_makeReading 195 = .ok (.iadd, 1) := by decide +kernel
theorem dX8_makeReading_196 : decode cX8_makeReading 196 = .ok (.aload_n 0, 1) := by decide +kernel
theorem dX8_makeReading_197 : decode cX8_makeReading 197 = .ok (.getfield 120, 3) := by decide +kernel
theorem dX8_makeReading_200 : decode cX8_makeReading 200 = .ok (.ifCond .eq 7, 3) := by decide +kernel
theorem dX8_makeReading_203 : decode cX8_makeReading 203 = .ok (.lconst 1, 1) := by decide +kernel
theorem dX8_makeReading_204 : decode cX8_makeReading 204 = .ok (.goto 4, 3) := by decide +kernel
theorem dX8_makeReading_207 : decode cX8_makeReading 207 = .ok (.lconst 0, 1) := by decide +kernel
theorem dX8_makeReading_208 : decode cX8_makeReading 208 = .ok (.lastore, 1) := by decide +kernel
theorem dX8_makeReading_209 : decode cX8_makeReading 209 = .ok (.aload_n 0, 1) := by decide +kernel
theorem dX8_makeReading_210 : decode cX8_makeReading 210 = .ok (.getfield 7, 3) := by decide +kernel
theorem dX8_makeReading_213 : decode cX8_makeReading 213 = .ok (.iload 7, 2) := by decide +kernel
theorem dX8_makeReading_215 : decode cX8_makeReading 215 = .ok (.iconst 4, 1) := by decide +kernel
theorem dX8_makeReading_216 : decode cX8_makeReading 216 = .ok (.iadd, 1) := by decide +kernel
theorem dX8_makeReading_217 : decode cX8_makeReading 217 = .ok (.lload_n 1, 1) := by decide +kernel
theorem dX8_makeReading_218 : decode cX8_makeReading 218 = .ok (.lastore, 1) := by decide +kernel
theorem dX8_makeReading_219 : decode cX8_makeReading 219 = .ok (.aload_n 0, 1) := by decide +kernel
theorem dX8_makeReading_220 : decode cX8_makeReading 220 = .ok (.getfield 7, 3) := by decide +kernel
theorem dX8_makeReading_223 : decode cX8_makeReading 223 = .ok (.iload 7, 2) := by decide +kernel
theorem dX8_makeReading_225 : decode cX8_makeReading 225 = .ok (.iconst 5, 1) := by decide +kernel
theorem dX8_makeReading_226 : decode cX8_makeReading 226 = .ok (.iadd, 1) := by decide +kernel
theorem dX8_makeReading_227 : decode cX8_makeReading 227 = .ok (.aload_n 0, 1) := by decide +kernel
theorem dX8_makeReading_228 : decode cX8_makeReading 228 = .ok (.getfield 7, 3) := by decide +kernel
theorem dX8_makeReading_231 : decode cX8_makeReading 231 = .ok (.bipush 11, 2) := by decide +kernel
theorem dX8_makeReading_233 : decode cX8_makeReading 233 = .ok (.laload, 1) := by decide +kernel
theorem dX8_makeReading_234 : decode cX8_makeReading 234 = .ok (.lastore, 1) := by decide +kernel
theorem dX8_makeReading_235 : decode cX8_makeReading 235 = .ok (.aload_n 0, 1) := by decide +kernel
theorem dX8_makeReading_236 : decode cX8_makeReading 236 = .ok (.getfield 7, 3) := by decide +kernel
theorem dX8_makeReading_239 : decode cX8_makeReading 239 = .ok (.iload 7, 2) := by decide +kernel
theorem dX8_makeReading_241 : decode cX8_makeReading 241 = .ok (.bipush 6, 2) := by decide +kernel
theorem dX8_makeReading_243 : decode cX8_makeReading 243 = .ok (.iadd, 1) := by decide +kernel
theorem dX8_makeReading_244 : decode cX8_makeReading 244 = .ok (.aload_n 0, 1) := by decide +kernel
theorem dX8_makeReading_245 : decode cX8_makeReading 245 = .ok (.getfield 7, 3) := by decide +kernel
theorem dX8_makeReading_248 : decode cX8_makeReading 248 = .ok (.bipush 12, 2) := by decide +kernel
theorem dX8_makeReading_250 : decode cX8_makeReading 250 = .ok (.laload, 1) := by decide +kernel
theorem dX8_makeReading_251 : decode cX8_makeReading 251 = .ok (.lastore, 1) := by decide +kernel
theorem dX8_makeReading_252 : decode cX8_makeReading 252 = .ok (.aload_n 0, 1) := by decide +kernel
theorem dX8_makeReading_253 : decode cX8_makeReading 253 = .ok (.getfield 7, 3) := by decide +kernel
theorem dX8_makeReading_256 : decode cX8_makeReading 256 = .ok (.bipush 14, 2) := by decide +kernel
theorem dX8_makeReading_258 : decode cX8_makeReading 258 = .ok (.dup2, 1) := by decide +kernel
theorem dX8_makeReading_259 : decode cX8_makeReading 259 = .ok (.laload, 1) := by decide +kernel
theorem dX8_makeReading_260 : decode cX8_makeReading 260 = .ok (.lconst 1, 1) := by decide +kernel
theorem dX8_makeReading_261 : decode cX8_makeReading 261 = .ok (.ladd, 1) := by decide +kernel
theorem dX8_makeReading_262 : decode cX8_makeReading 262 = .ok (.lastore, 1) := by decide +kernel
theorem dX8_makeReading_263 : decode cX8_makeReading 263 = .ok (.aload_n 0, 1) := by decide +kernel
theorem dX8_makeReading_264 : decode cX8_makeReading 264 = .ok (.lload_n 3, 1) := by decide +kernel
theorem dX8_makeReading_265 : decode cX8_makeReading 265 = .ok (.invokevirtual 135, 3) := by decide +kernel
theorem dX8_makeReading_268 : decode cX8_makeReading 268 = .ok (.lload 5, 2) := by decide +kernel
theorem dX8_makeReading_270 : decode cX8_makeReading 270 = .ok (.lreturn, 1) := by decide +kernel
abbrev csX8_read : List (List Cond) := [[.code yX8_read cX8_read 1 (some .long)], wsX8_read_r1, wsX8_read_r2, wsX8_read_r3, wsX80]
set_option maxRecDepth 20000 in
theorem hbX8_read : wsX8_read = csX8_read.flatten := rfl
set_option maxRecDepth 20000 in
theorem ggX8_read_X8_makeReading : GoodIn wsX8_read wsX8_makeReading := goodIn_c csX8_read hbX8_read _ [(1, 7), (1, 0), (1, 8), (1, 9), (1, 10), (1, 11), (1, 12), (1, 13), (1, 6), (1, 14), (1, 15), (1, 16), (1, 17), (1, 18), (1, 19), (1, 20), (1, 21), (1, 22), (1, 23), (2, 0), (2, 1), (2, 2), (2, 3), (2, 4), (2, 5), (2, 6), (2, 7), (2, 8), (2, 9), (2, 10), (2, 11), (2, 12), (2, 13), (2, 14), (2, 15), (2, 16), (2, 17), (2, 18), (2, 19), (2, 20), (2, 21), (2, 22), (2, 23), (3, 0), (3, 1), (3, 2), (3, 3), (3, 4), (3, 5), (3, 6), (3, 7), (3, 8), (3, 9), (3, 10), (3, 11), (3, 12), (3, 13), (3, 14), (3, 15), (4, 0), (4, 1), (4, 2), (4, 3), (4, 4), (4, 5), (4, 6), (4, 7), (4, 8), (4, 9), (4, 10), (4, 11)] rfl (by decide +kernel)
set_option maxRecDepth 20000 in
theorem gX8_read_X8_makeReading : GoodIn wsX8_read (wsV RX8 142 RX8 yX8_makeReading wsX8_makeReading) := goodIn_app (goodIn_c csX8_read hbX8_read [.methodLink RX8 142 yX8_makeReading, .instanceMethod yX8_makeReading, .selects RX8 yX8_makeReading yX8_makeReading, .initialized RX8] [(1, 3), (1, 4), (1, 5), (1, 6)] rfl (by decide +kernel)) ggX8_read_X8_makeReading
theorem dX8_read_0 : decode cX8_read 0 = .ok (.aload_n 0, 1) := by decide +kernel
theorem dX8_read_1 : decode cX8_read 1 = .ok (.getfield 7, 3) := by decide +kernel
theorem dX8_read_4 : decode cX8_read 4 = .ok (.bipush 14, 2) := by decide +kernel
theorem dX8_read_6 : decode cX8_read 6 = .ok (.laload, 1) := by decide +kernel
theorem dX8_read_7 : decode cX8_read 7 = .ok (.ldc2_w 138, 3) := by decide +kernel
theorem dX8_read_10 : decode cX8_read 10 = .ok (.lcmp, 1) := by decide +kernel
theorem dX8_read_11 : decode cX8_read 11 = .ok (.ifCond .ne 9, 3) := by decide +kernel
theorem dX8_read_14 : decode cX8_read 14 = .ok (.ldc2_w 140, 3) := by decide +kernel
theorem dX8_read_17 : decode cX8_read 17 = .ok (.goto 7, 3) := by decide +kernel
theorem dX8_read_20 : decode cX8_read 20 = .ok (.aload_n 0, 1) := by decide +kernel
theorem dX8_read_21 : decode cX8_read 21 = .ok (.invokevirtual 142, 3) := by decide +kernel
theorem dX8_read_24 : decode cX8_read 24 = .ok (.lreturn, 1) := by decide +kernel
abbrev csX8_zero : List (List Cond) := [[.code yX8_zero cX8_zero 1 (some .int)], wsX8_zero_r1, wsX8_zero_r2, wsX8_zero_r3, wsX80]
set_option maxRecDepth 20000 in
theorem hbX8_zero : wsX8_zero = csX8_zero.flatten := rfl
set_option maxRecDepth 20000 in
theorem ggX8_zero_X8_convert : GoodIn wsX8_zero wsX8_convert := goodIn_c csX8_zero hbX8_zero _ [(1, 6), (1, 0), (1, 7), (1, 8), (1, 9), (1, 10), (1, 11), (1, 12), (1, 13), (1, 14), (1, 15), (1, 5), (1, 16), (1, 17), (1, 18), (1, 19), (1, 20), (1, 21), (1, 22), (1, 23), (2, 0), (2, 1), (2, 2), (2, 3), (2, 4), (2, 5), (2, 6), (2, 7), (2, 8), (2, 9), (2, 10), (2, 11), (2, 12), (2, 13), (2, 14), (2, 15), (2, 16), (2, 17), (2, 18), (2, 19), (2, 20), (2, 21), (2, 22), (2, 23), (3, 0), (3, 1), (3, 2), (3, 3), (3, 4), (4, 0), (4, 1), (4, 2), (4, 3), (4, 4), (4, 5), (4, 6), (4, 7), (4, 8), (4, 9), (4, 10), (4, 11)] rfl (by decide +kernel)
set_option maxRecDepth 20000 in
theorem gX8_zero_X8_convert : GoodIn wsX8_zero (wsV RX8 130 RX8 yX8_convert wsX8_convert) := goodIn_app (goodIn_c csX8_zero hbX8_zero [.methodLink RX8 130 yX8_convert, .instanceMethod yX8_convert, .selects RX8 yX8_convert yX8_convert, .initialized RX8] [(1, 2), (1, 3), (1, 4), (1, 5)] rfl (by decide +kernel)) ggX8_zero_X8_convert
theorem dX8_zero_0 : decode cX8_zero 0 = .ok (.aload_n 0, 1) := by decide +kernel
theorem dX8_zero_1 : decode cX8_zero 1 = .ok (.iconst 1, 1) := by decide +kernel
theorem dX8_zero_2 : decode cX8_zero 2 = .ok (.invokevirtual 130, 3) := by decide +kernel
theorem dX8_zero_5 : decode cX8_zero 5 = .ok (.aload_n 0, 1) := by decide +kernel
theorem dX8_zero_6 : decode cX8_zero 6 = .ok (.getfield 7, 3) := by decide +kernel
theorem dX8_zero_9 : decode cX8_zero 9 = .ok (.bipush 12, 2) := by decide +kernel
theorem dX8_zero_11 : decode cX8_zero 11 = .ok (.aload_n 0, 1) := by decide +kernel
theorem dX8_zero_12 : decode cX8_zero 12 = .ok (.getfield 7, 3) := by decide +kernel
theorem dX8_zero_15 : decode cX8_zero 15 = .ok (.bipush 15, 2) := by decide +kernel
theorem dX8_zero_17 : decode cX8_zero 17 = .ok (.laload, 1) := by decide +kernel
theorem dX8_zero_18 : decode cX8_zero 18 = .ok (.lastore, 1) := by decide +kernel
theorem dX8_zero_19 : decode cX8_zero 19 = .ok (.aload_n 0, 1) := by decide +kernel
theorem dX8_zero_20 : decode cX8_zero 20 = .ok (.getfield 7, 3) := by decide +kernel
theorem dX8_zero_23 : decode cX8_zero 23 = .ok (.bipush 12, 2) := by decide +kernel
theorem dX8_zero_25 : decode cX8_zero 25 = .ok (.laload, 1) := by decide +kernel
theorem dX8_zero_26 : decode cX8_zero 26 = .ok (.l2i, 1) := by decide +kernel
theorem dX8_zero_27 : decode cX8_zero 27 = .ok (.ldc 145, 2) := by decide +kernel
theorem dX8_zero_29 : decode cX8_zero 29 = .ok (.iadd, 1) := by decide +kernel
theorem dX8_zero_30 : decode cX8_zero 30 = .ok (.ireturn, 1) := by decide +kernel
abbrev csX8_pass : List (List Cond) := [[.code yX8_pass cX8_pass 2 (some .int)], [.constantLong RX8 54 (100000), .fieldLink RX8 7 "SlopeMeterModel" "at" "[J", .constantLong RX8 146 (1000000000), .methodLink RX8 38 yX8_in, .static yX8_in, .initialized RX8, .code yX8_in cX8_in 6 (some .boolean)], wsX80]
set_option maxRecDepth 20000 in
theorem hbX8_pass : wsX8_pass = csX8_pass.flatten := rfl
set_option maxRecDepth 20000 in
theorem ggX8_pass_X8_in : GoodIn wsX8_pass wsX8_in := goodIn_c csX8_pass hbX8_pass _ [(1, 6)] rfl (by decide +kernel)
set_option maxRecDepth 20000 in
theorem gX8_pass_X8_in : GoodIn wsX8_pass (va_wsS RX8 38 yX8_in wsX8_in) := goodIn_app (goodIn_c csX8_pass hbX8_pass [.methodLink RX8 38 yX8_in, .static yX8_in, .initialized yX8_in.cls] [(1, 3), (1, 4), (1, 5)] rfl (by decide +kernel)) ggX8_pass_X8_in
theorem dX8_pass_0 : decode cX8_pass 0 = .ok (.iload_n 1, 1) := by decide +kernel
theorem dX8_pass_1 : decode cX8_pass 1 = .ok (.i2l, 1) := by decide +kernel
theorem dX8_pass_2 : decode cX8_pass 2 = .ok (.lconst 1, 1) := by decide +kernel
theorem dX8_pass_3 : decode cX8_pass 3 = .ok (.ldc2_w 54, 3) := by decide +kernel
theorem dX8_pass_6 : decode cX8_pass 6 = .ok (.invokestatic 38, 3) := by decide +kernel
theorem dX8_pass_9 : decode cX8_pass 9 = .ok (.ifCond .ne 6, 3) := by decide +kernel
theorem dX8_pass_12 : decode cX8_pass 12 = .ok (.bipush (-2), 2) := by decide +kernel
theorem dX8_pass_14 : decode cX8_pass 14 = .ok (.ireturn, 1) := by decide +kernel
theorem dX8_pass_15 : decode cX8_pass 15 = .ok (.aload_n 0, 1) := by decide +kernel
theorem dX8_pass_16 : decode cX8_pass 16 = .ok (.getfield 7, 3) := by decide +kernel
theorem dX8_pass_19 : decode cX8_pass 19 = .ok (.bipush 11, 2) := by decide +kernel
theorem dX8_pass_21 : decode cX8_pass 21 = .ok (.laload, 1) := by decide +kernel
theorem dX8_pass_22 : decode cX8_pass 22 = .ok (.iload_n 1, 1) := by decide +kernel
theorem dX8_pass_23 : decode cX8_pass 23 = .ok (.i2l, 1) := by decide +kernel
theorem dX8_pass_24 : decode cX8_pass 24 = .ok (.ladd, 1) := by decide +kernel
theorem dX8_pass_25 : decode cX8_pass 25 = .ok (.ldc2_w 146, 3) := by decide +kernel
theorem dX8_pass_28 : decode cX8_pass 28 = .ok (.lcmp, 1) := by decide +kernel
theorem dX8_pass_29 : decode cX8_pass 29 = .ok (.ifCond .le 6, 3) := by decide +kernel
theorem dX8_pass_32 : decode cX8_pass 32 = .ok (.bipush (-5), 2) := by decide +kernel
theorem dX8_pass_34 : decode cX8_pass 34 = .ok (.ireturn, 1) := by decide +kernel
theorem dX8_pass_35 : decode cX8_pass 35 = .ok (.aload_n 0, 1) := by decide +kernel
theorem dX8_pass_36 : decode cX8_pass 36 = .ok (.getfield 7, 3) := by decide +kernel
theorem dX8_pass_39 : decode cX8_pass 39 = .ok (.bipush 11, 2) := by decide +kernel
theorem dX8_pass_41 : decode cX8_pass 41 = .ok (.dup2, 1) := by decide +kernel
theorem dX8_pass_42 : decode cX8_pass 42 = .ok (.laload, 1) := by decide +kernel
theorem dX8_pass_43 : decode cX8_pass 43 = .ok (.iload_n 1, 1) := by decide +kernel
theorem dX8_pass_44 : decode cX8_pass 44 = .ok (.i2l, 1) := by decide +kernel
theorem dX8_pass_45 : decode cX8_pass 45 = .ok (.ladd, 1) := by decide +kernel
theorem dX8_pass_46 : decode cX8_pass 46 = .ok (.lastore, 1) := by decide +kernel
theorem dX8_pass_47 : decode cX8_pass 47 = .ok (.aload_n 0, 1) := by decide +kernel
theorem dX8_pass_48 : decode cX8_pass 48 = .ok (.getfield 7, 3) := by decide +kernel
theorem dX8_pass_51 : decode cX8_pass 51 = .ok (.bipush 11, 2) := by decide +kernel
theorem dX8_pass_53 : decode cX8_pass 53 = .ok (.laload, 1) := by decide +kernel
theorem dX8_pass_54 : decode cX8_pass 54 = .ok (.l2i, 1) := by decide +kernel
theorem dX8_pass_55 : decode cX8_pass 55 = .ok (.ireturn, 1) := by decide +kernel
abbrev csX8_isLogged : List (List Cond) := [[.code yX8_isLogged cX8_isLogged 2 (some .boolean)], [.fieldLink RX8 7 "SlopeMeterModel" "at" "[J", .constantLong RX8 133 (40), .methodLink RX8 38 yX8_in, .static yX8_in, .initialized RX8, .code yX8_in cX8_in 6 (some .boolean)], wsX80]
set_option maxRecDepth 20000 in
theorem hbX8_isLogged : wsX8_isLogged = csX8_isLogged.flatten := rfl
set_option maxRecDepth 20000 in
theorem ggX8_isLogged_X8_in : GoodIn wsX8_isLogged wsX8_in := goodIn_c csX8_isLogged hbX8_isLogged _ [(1, 5)] rfl (by decide +kernel)
set_option maxRecDepth 20000 in
theorem gX8_isLogged_X8_in : GoodIn wsX8_isLogged (va_wsS RX8 38 yX8_in wsX8_in) := goodIn_app (goodIn_c csX8_isLogged hbX8_isLogged [.methodLink RX8 38 yX8_in, .static yX8_in, .initialized yX8_in.cls] [(1, 2), (1, 3), (1, 4)] rfl (by decide +kernel)) ggX8_isLogged_X8_in
theorem dX8_isLogged_0 : decode cX8_isLogged 0 = .ok (.iload_n 1, 1) := by decide +kernel
theorem dX8_isLogged_1 : decode cX8_isLogged 1 = .ok (.i2l, 1) := by decide +kernel
theorem dX8_isLogged_2 : decode cX8_isLogged 2 = .ok (.lconst 0, 1) := by decide +kernel
theorem dX8_isLogged_3 : decode cX8_isLogged 3 = .ok (.aload_n 0, 1) := by decide +kernel
theorem dX8_isLogged_4 : decode cX8_isLogged 4 = .ok (.getfield 7, 3) := by decide +kernel
theorem dX8_isLogged_7 : decode cX8_isLogged 7 = .ok (.bipush 14, 2) := by decide +kernel
theorem dX8_isLogged_9 : decode cX8_isLogged 9 = .ok (.laload, 1) := by decide +kernel
theorem dX8_isLogged_10 : decode cX8_isLogged 10 = .ok (.lconst 1, 1) := by decide +kernel
theorem dX8_isLogged_11 : decode cX8_isLogged 11 = .ok (.lsub, 1) := by decide +kernel
theorem dX8_isLogged_12 : decode cX8_isLogged 12 = .ok (.invokestatic 38, 3) := by decide +kernel
theorem dX8_isLogged_15 : decode cX8_isLogged 15 = .ok (.ifCond .eq 24, 3) := by decide +kernel
theorem dX8_isLogged_18 : decode cX8_isLogged 18 = .ok (.iload_n 1, 1) := by decide +kernel
theorem dX8_isLogged_19 : decode cX8_isLogged 19 = .ok (.i2l, 1) := by decide +kernel
theorem dX8_isLogged_20 : decode cX8_isLogged 20 = .ok (.aload_n 0, 1) := by decide +kernel
theorem dX8_isLogged_21 : decode cX8_isLogged 21 = .ok (.getfield 7, 3) := by decide +kernel
theorem dX8_isLogged_24 : decode cX8_isLogged 24 = .ok (.bipush 14, 2) := by decide +kernel
theorem dX8_isLogged_26 : decode cX8_isLogged 26 = .ok (.laload, 1) := by decide +kernel
theorem dX8_isLogged_27 : decode cX8_isLogged 27 = .ok (.ldc2_w 133, 3) := by decide +kernel
theorem dX8_isLogged_30 : decode cX8_isLogged 30 = .ok (.lsub, 1) := by decide +kernel
theorem dX8_isLogged_31 : decode cX8_isLogged 31 = .ok (.lcmp, 1) := by decide +kernel
theorem dX8_isLogged_32 : decode cX8_isLogged 32 = .ok (.ifCond .lt 7, 3) := by decide +kernel
theorem dX8_isLogged_35 : decode cX8_isLogged 35 = .ok (.iconst 1, 1) := by decide +kernel
theorem dX8_isLogged_36 : decode cX8_isLogged 36 = .ok (.goto 4, 3) := by decide +kernel
theorem dX8_isLogged_39 : decode cX8_isLogged 39 = .ok (.iconst 0, 1) := by decide +kernel
theorem dX8_isLogged_40 : decode cX8_isLogged 40 = .ok (.ireturn, 1) := by decide +kernel
abbrev csX8_log : List (List Cond) := [[.code yX8_log cX8_log 3 (some .long)], [.constantLong RX8 148 (6), .constantLong RX8 92 (-1000000000000000002), .fieldLink RX8 7 "SlopeMeterModel" "at" "[J", .constantLong RX8 153 (-1000000000000000006), .methodLink RX8 38 yX8_in, .static yX8_in, .initialized RX8, .code yX8_in cX8_in 6 (some .boolean), .methodLink RX8 150 yX8_isLogged, .instanceMethod yX8_isLogged, .selects RX8 yX8_isLogged yX8_isLogged, .code yX8_isLogged cX8_isLogged 2 (some .boolean), .constantLong RX8 133 (40)], wsX80]
set_option maxRecDepth 20000 in
theorem hbX8_log : wsX8_log = csX8_log.flatten := rfl
set_option maxRecDepth 20000 in
theorem ggX8_log_X8_in : GoodIn wsX8_log wsX8_in := goodIn_c csX8_log hbX8_log _ [(1, 7)] rfl (by decide +kernel)
set_option maxRecDepth 20000 in
theorem gX8_log_X8_in : GoodIn wsX8_log (va_wsS RX8 38 yX8_in wsX8_in) := goodIn_app (goodIn_c csX8_log hbX8_log [.methodLink RX8 38 yX8_in, .static yX8_in, .initialized yX8_in.cls] [(1, 4), (1, 5), (1, 6)] rfl (by decide +kernel)) ggX8_log_X8_in
set_option maxRecDepth 20000 in
theorem ggX8_log_X8_isLogged : GoodIn wsX8_log wsX8_isLogged := goodIn_c csX8_log hbX8_log _ [(1, 11), (1, 2), (1, 12), (1, 4), (1, 5), (1, 6), (1, 7), (2, 0), (2, 1), (2, 2), (2, 3), (2, 4), (2, 5), (2, 6), (2, 7), (2, 8), (2, 9), (2, 10), (2, 11)] rfl (by decide +kernel)
set_option maxRecDepth 20000 in
theorem gX8_log_X8_isLogged : GoodIn wsX8_log (wsV RX8 150 RX8 yX8_isLogged wsX8_isLogged) := goodIn_app (goodIn_c csX8_log hbX8_log [.methodLink RX8 150 yX8_isLogged, .instanceMethod yX8_isLogged, .selects RX8 yX8_isLogged yX8_isLogged, .initialized RX8] [(1, 8), (1, 9), (1, 10), (1, 6)] rfl (by decide +kernel)) ggX8_log_X8_isLogged
theorem dX8_log_0 : decode cX8_log 0 = .ok (.iload_n 2, 1) := by decide +kernel
theorem dX8_log_1 : decode cX8_log 1 = .ok (.i2l, 1) := by decide +kernel
theorem dX8_log_2 : decode cX8_log 2 = .ok (.lconst 0, 1) := by decide +kernel
theorem dX8_log_3 : decode cX8_log 3 = .ok (.ldc2_w 148, 3) := by decide +kernel
theorem dX8_log_6 : decode cX8_log 6 = .ok (.invokestatic 38, 3) := by decide +kernel
theorem dX8_log_9 : decode cX8_log 9 = .ok (.ifCond .ne 7, 3) := by decide +kernel
theorem dX8_log_12 : decode cX8_log 12 = .ok (.ldc2_w 92, 3) := by decide +kernel
theorem dX8_log_15 : decode cX8_log 15 = .ok (.lreturn, 1) := by decide +kernel
theorem dX8_log_16 : decode cX8_log 16 = .ok (.aload_n 0, 1) := by decide +kernel
theorem dX8_log_17 : decode cX8_log 17 = .ok (.iload_n 1, 1) := by decide +kernel
theorem dX8_log_18 : decode cX8_log 18 = .ok (.invokevirtual 150, 3) := by decide +kernel
theorem dX8_log_21 : decode cX8_log 21 = .ok (.ifCond .eq 23, 3) := by decide +kernel
theorem dX8_log_24 : decode cX8_log 24 = .ok (.aload_n 0, 1) := by decide +kernel
theorem dX8_log_25 : decode cX8_log 25 = .ok (.getfield 7, 3) := by decide +kernel
theorem dX8_log_28 : decode cX8_log 28 = .ok (.bipush 23, 2) := by decide +kernel
theorem dX8_log_30 : decode cX8_log 30 = .ok (.bipush 7, 2) := by decide +kernel
theorem dX8_log_32 : decode cX8_log 32 = .ok (.iload_n 1, 1) := by decide +kernel
theorem dX8_log_33 : decode cX8_log 33 = .ok (.bipush 40, 2) := by decide +kernel
theorem dX8_log_35 : decode cX8_log 35 = .ok (.irem, 1) := by decide +kernel
theorem dX8_log_36 : decode cX8_log 36 = .ok (.imul, 1) := by decide +kernel
theorem dX8_log_37 : decode cX8_log 37 = .ok (.iadd, 1) := by decide +kernel
theorem dX8_log_38 : decode cX8_log 38 = .ok (.iload_n 2, 1) := by decide +kernel
theorem dX8_log_39 : decode cX8_log 39 = .ok (.iadd, 1) := by decide +kernel
theorem dX8_log_40 : decode cX8_log 40 = .ok (.laload, 1) := by decide +kernel
theorem dX8_log_41 : decode cX8_log 41 = .ok (.goto 6, 3) := by decide +kernel
theorem dX8_log_44 : decode cX8_log 44 = .ok (.ldc2_w 153, 3) := by decide +kernel
theorem dX8_log_47 : decode cX8_log 47 = .ok (.lreturn, 1) := by decide +kernel
abbrev csX8_latest : List (List Cond) := [[.code yX8_latest cX8_latest 2 (some .long)], [.constantLong RX8 148 (6), .constantLong RX8 92 (-1000000000000000002), .fieldLink RX8 7 "SlopeMeterModel" "at" "[J", .constantLong RX8 155 (-1000000000000000005), .methodLink RX8 38 yX8_in, .static yX8_in, .initialized RX8, .code yX8_in cX8_in 6 (some .boolean)], wsX80]
set_option maxRecDepth 20000 in
theorem hbX8_latest : wsX8_latest = csX8_latest.flatten := rfl
set_option maxRecDepth 20000 in
theorem ggX8_latest_X8_in : GoodIn wsX8_latest wsX8_in := goodIn_c csX8_latest hbX8_latest _ [(1, 7)] rfl (by decide +kernel)
set_option maxRecDepth 20000 in
theorem gX8_latest_X8_in : GoodIn wsX8_latest (va_wsS RX8 38 yX8_in wsX8_in) := goodIn_app (goodIn_c csX8_latest hbX8_latest [.methodLink RX8 38 yX8_in, .static yX8_in, .initialized yX8_in.cls] [(1, 4), (1, 5), (1, 6)] rfl (by decide +kernel)) ggX8_latest_X8_in
theorem dX8_latest_0 : decode cX8_latest 0 = .ok (.iload_n 1, 1) := by decide +kernel
theorem dX8_latest_1 : decode cX8_latest 1 = .ok (.i2l, 1) := by decide +kernel
theorem dX8_latest_2 : decode cX8_latest 2 = .ok (.lconst 0, 1) := by decide +kernel
theorem dX8_latest_3 : decode cX8_latest 3 = .ok (.ldc2_w 148, 3) := by decide +kernel
theorem dX8_latest_6 : decode cX8_latest 6 = .ok (.invokestatic 38, 3) := by decide +kernel
theorem dX8_latest_9 : decode cX8_latest 9 = .ok (.ifCond .ne 7, 3) := by decide +kernel
theorem dX8_latest_12 : decode cX8_latest 12 = .ok (.ldc2_w 92, 3) := by decide +kernel
theorem dX8_latest_15 : decode cX8_latest 15 = .ok (.lreturn, 1) := by decide +kernel
theorem dX8_latest_16 : decode cX8_latest 16 = .ok (.aload_n 0, 1) := by decide +kernel
theorem dX8_latest_17 : decode cX8_latest 17 = .ok (.getfield 7, 3) := by decide +kernel
theorem dX8_latest_20 : decode cX8_latest 20 = .ok (.bipush 22, 2) := by decide +kernel
theorem dX8_latest_22 : decode cX8_latest 22 = .ok (.laload, 1) := by decide +kernel
theorem dX8_latest_23 : decode cX8_latest 23 = .ok (.lconst 1, 1) := by decide +kernel
theorem dX8_latest_24 : decode cX8_latest 24 = .ok (.lcmp, 1) := by decide +kernel
theorem dX8_latest_25 : decode cX8_latest 25 = .ok (.ifCond .ne 15, 3) := by decide +kernel
theorem dX8_latest_28 : decode cX8_latest 28 = .ok (.aload_n 0, 1) := by decide +kernel
theorem dX8_latest_29 : decode cX8_latest 29 = .ok (.getfield 7, 3) := by decide +kernel
theorem dX8_latest_32 : decode cX8_latest 32 = .ok (.bipush 15, 2) := by decide +kernel
theorem dX8_latest_34 : decode cX8_latest 34 = .ok (.iload_n 1, 1) := by decide +kernel
theorem dX8_latest_35 : decode cX8_latest 35 = .ok (.iadd, 1) := by decide +kernel
theorem dX8_latest_36 : decode cX8_latest 36 = .ok (.laload, 1) := by decide +kernel
theorem dX8_latest_37 : decode cX8_latest 37 = .ok (.goto 6, 3) := by decide +kernel
theorem dX8_latest_40 : decode cX8_latest 40 = .ok (.ldc2_w 155, 3) := by decide +kernel
theorem dX8_latest_43 : decode cX8_latest 43 = .ok (.lreturn, 1) := by decide +kernel
abbrev csX8_statistic : List (List Cond) := [[.code yX8_statistic cX8_statistic 16 (some .long)], [.constantLong RX8 48 (4), .constantLong RX8 92 (-1000000000000000002), .fieldLink RX8 7 "SlopeMeterModel" "at" "[J", .constantLong RX8 153 (-1000000000000000006), .methodLink RX8 38 yX8_in, .static yX8_in, .initialized RX8, .code yX8_in cX8_in 6 (some .boolean), .methodLink RX8 150 yX8_isLogged, .instanceMethod yX8_isLogged, .selects RX8 yX8_isLogged yX8_isLogged, .code yX8_isLogged cX8_isLogged 2 (some .boolean), .constantLong RX8 133 (40)], wsX80]
set_option maxRecDepth 20000 in
theorem hbX8_statistic : wsX8_statistic = csX8_statistic.flatten := rfl
set_option maxRecDepth 20000 in
theorem ggX8_statistic_X8_in : GoodIn wsX8_statistic wsX8_in := goodIn_c csX8_statistic hbX8_statistic _ [(1, 7)] rfl (by decide +kernel)
set_option maxRecDepth 20000 in
theorem gX8_statistic_X8_in : GoodIn wsX8_statistic (va_wsS RX8 38 yX8_in wsX8_in) := goodIn_app (goodIn_c csX8_statistic hbX8_statistic [.methodLink RX8 38 yX8_in, .static yX8_in, .initialized yX8_in.cls] [(1, 4), (1, 5), (1, 6)] rfl (by decide +kernel)) ggX8_statistic_X8_in
set_option maxRecDepth 20000 in
theorem ggX8_statistic_X8_isLogged : GoodIn wsX8_statistic wsX8_isLogged := goodIn_c csX8_statistic hbX8_statistic _ [(1, 11), (1, 2), (1, 12), (1, 4), (1, 5), (1, 6), (1, 7), (2, 0), (2, 1), (2, 2), (2, 3), (2, 4), (2, 5), (2, 6), (2, 7), (2, 8), (2, 9), (2, 10), (2, 11)] rfl (by decide +kernel)
set_option maxRecDepth 20000 in
theorem gX8_statistic_X8_isLogged : GoodIn wsX8_statistic (wsV RX8 150 RX8 yX8_isLogged wsX8_isLogged) := goodIn_app (goodIn_c csX8_statistic hbX8_statistic [.methodLink RX8 150 yX8_isLogged, .instanceMethod yX8_isLogged, .selects RX8 yX8_isLogged yX8_isLogged, .initialized RX8] [(1, 8), (1, 9), (1, 10), (1, 6)] rfl (by decide +kernel)) ggX8_statistic_X8_isLogged
theorem dX8_statistic_0 : decode cX8_statistic 0 = .ok (.iload_n 1, 1) := by decide +kernel
theorem dX8_statistic_1 : decode cX8_statistic 1 = .ok (.ifCond .lt 15, 3) := by decide +kernel
theorem dX8_statistic_4 : decode cX8_statistic 4 = .ok (.iload_n 2, 1) := by decide +kernel
theorem dX8_statistic_5 : decode cX8_statistic 5 = .ok (.i2l, 1) := by decide +kernel
theorem dX8_statistic_6 : decode cX8_statistic 6 = .ok (.lconst 0, 1) := by decide +kernel
theorem dX8_statistic_7 : decode cX8_statistic 7 = .ok (.ldc2_w 48, 3) := by decide +kernel
theorem dX8_statistic_10 : decode cX8_statistic 10 = .ok (.invokestatic 38, 3) := by decide +kernel
theorem dX8_statistic_13 : decode cX8_statistic 13 = .ok (.ifCond .ne 7, 3) := by decide +kernel
theorem dX8_statistic_16 : decode cX8_statistic 16 = .ok (.ldc2_w 92, 3) := by decide +kernel
theorem dX8_statistic_19 : decode cX8_statistic 19 = .ok (.lreturn, 1) := by decide +kernel
theorem dX8_statistic_20 : decode cX8_statistic 20 = .ok (.lconst 0, 1) := by decide +kernel
theorem dX8_statistic_21 : decode cX8_statistic 21 = .ok (.lstore_n 3, 1) := by decide +kernel
theorem dX8_statistic_22 : decode cX8_statistic 22 = .ok (.lconst 0, 1) := by decide +kernel
theorem dX8_statistic_23 : decode cX8_statistic 23 = .ok (.lstore 5, 2) := by decide +kernel
theorem dX8_statistic_25 : decode cX8_statistic 25 = .ok (.lconst 0, 1) := by decide +kernel
theorem dX8_statistic_26 : decode cX8_statistic 26 = .ok (.lstore 7, 2) := by decide +kernel
theorem dX8_statistic_28 : decode cX8_statistic 28 = .ok (.lconst 0, 1) := by decide +kernel
theorem dX8_statistic_29 : decode cX8_statistic 29 = .ok (.lstore 9, 2) := by decide +kernel
theorem dX8_statistic_31 : decode cX8_statistic 31 = .ok (.lconst 0, 1) := by decide +kernel
theorem dX8_statistic_32 : decode cX8_statistic 32 = .ok (.lstore 11, 2) := by decide +kernel
theorem dX8_statistic_34 : decode cX8_statistic 34 = .ok (.iconst 0, 1) := by decide +kernel
theorem dX8_statistic_35 : decode cX8_statistic 35 = .ok (.istore 13, 2) := by decide +kernel
theorem dX8_statistic_37 : decode cX8_statistic 37 = .ok (.iload 13, 2) := by decide +kernel
theorem dX8_statistic_39 : decode cX8_statistic 39 = .ok (.i2l, 1) := by decide +kernel
theorem dX8_statistic_40 : decode cX8_statistic 40 = .ok (.aload_n 0, 1) := by decide +kernel
theorem dX8_statistic_41 : decode cX8_statistic 41 = .ok (.getfield 7, 3) := by decide +kernel
theorem dX8_statistic_44 : decode cX8_statistic 44 = .ok (.bipush 14, 2) := by decide +kernel
theorem dX8_statistic_46 : decode cX8_statistic 46 = .ok (.laload, 1) := by decide +kernel
theorem dX8_statistic_47 : decode cX8_statistic 47 = .ok (.lcmp, 1) := by decide +kernel
theorem dX8_statistic_48 : decode cX8_statistic 48 = .ok (.ifCond .ge 122, 3) := by decide +kernel
theorem dX8_statistic_51 : decode cX8_statistic 51 = .ok (.aload_n 0, 1) := by decide +kernel
theorem dX8_statistic_52 : decode cX8_statistic 52 = .ok (.iload 13, 2) := by decide +kernel
theorem dX8_statistic_54 : decode cX8_statistic 54 = .ok (.invokevirtual 150, 3) := by decide +kernel
theorem dX8_statistic_57 : decode cX8_statistic 57 = .ok (.ifCond .eq 107, 3) := by decide +kernel
theorem dX8_statistic_60 : decode cX8_statistic 60 = .ok (.iload 13, 2) := by decide +kernel
theorem dX8_statistic_62 : decode cX8_statistic 62 = .ok (.iload_n 1, 1) := by decide +kernel
theorem dX8_statistic_63 : decode cX8_statistic 63 = .ok (.if_icmp .lt 101, 3) := by decide +kernel
theorem dX8_statistic_66 : decode cX8_statistic 66 = .ok (.aload_n 0, 1) := by decide +kernel
theorem dX8_statistic_67 : decode cX8_statistic 67 = .ok (.getfield 7, 3) := by decide +kernel
theorem dX8_statistic_70 : decode cX8_statistic 70 = .ok (.bipush 23, 2) := by decide +kernel
theorem dX8_statistic_72 : decode cX8_statistic 72 = .ok (.bipush 7, 2) := by decide +kernel
theorem dX8_statistic_74 : decode cX8_statistic 74 = .ok (.iload 13, 2) := by decide +kernel
theorem dX8_statistic_76 : decode cX8_statistic 76 = .ok (.bipush 40, 2) := by decide +kernel
theorem dX8_statistic_78 : decode cX8_statistic 78 = .ok (.irem, 1) := by decide +kernel
theorem dX8_statistic_79 : decode cX8_statistic 79 = .ok (.imul, 1) := by decide +kernel
theorem dX8_statistic_80 : decode cX8_statistic 80 = .ok (.iadd, 1) := by decide +kernel
theorem dX8_statistic_81 : decode cX8_statistic 81 = .ok (.laload, 1) := by decide +kernel
theorem dX8_statistic_82 : decode cX8_statistic 82 = .ok (.lstore 14, 2) := by decide +kernel
theorem dX8_statistic_84 : decode cX8_statistic 84 = .ok (.lload_n 3, 1) := by decide +kernel
theorem dX8_statistic_85 : decode cX8_statistic 85 = .ok (.lconst 0, 1) := by decide +kernel
theorem dX8_statistic_86 : decode cX8_statistic 86 = .ok (.lcmp, 1) := by decide +kernel
theorem dX8_statistic_87 : decode cX8_statistic 87 = .ok (.ifCond .eq 11, 3) := by decide +kernel
theorem dX8_statistic_90 : decode cX8_statistic 90 = .ok (.lload 14, 2) := by decide +kernel
theorem dX8_statistic_92 : decode cX8_statistic 92 = .ok (.lload 5, 2) := by decide +kernel
theorem dX8_statistic_94 : decode cX8_statistic 94 = .ok (.lcmp, 1) := by decide +kernel
theorem dX8_statistic_95 : decode cX8_statistic 95 = .ok (.ifCond .ge 8, 3) := by decide +kernel
theorem dX8_statistic_98 : decode cX8_statistic 98 = .ok (.lload 14, 2) := by decide +kernel
theorem dX8_statistic_100 : decode cX8_statistic 100 = .ok (.goto 5, 3) := by decide +kernel
theorem dX8_statistic_103 : decode cX8_statistic 103 = .ok (.lload 5, 2) := by decide +kernel
theorem dX8_statistic_105 : decode cX8_statistic 105 = .ok (.lstore 5, 2) := by decide +kernel
theorem dX8_statistic_107 : decode cX8_statistic 107 = .ok (.lload_n 3, 1) := by decide +kernel
theorem dX8_statistic_108 : decode cX8_statistic 108 = .ok (.lconst 0, 1) := by decide +kernel
theorem dX8_statistic_109 : decode cX8_statistic 109 = .ok (.lcmp, 1) := by decide +kernel
theorem dX8_statistic_110 : decode cX8_statistic 110 = .ok (.ifCond .eq 11, 3) := by decide +kernel
theorem dX8_statistic_113 : decode cX8_statistic 113 = .ok (.lload 14, 2) := by decide +kernel
theorem dX8_statistic_115 : decode cX8_statistic 115 = .ok (.lload 7, 2) := by decide +kernel
theorem dX8_statistic_117 : decode cX8_statistic 117 = .ok (.lcmp, 1) := by decide +kernel
theorem dX8_statistic_118 : decode cX8_statistic 118 = .ok (.ifCond .le 8, 3) := by decide +kernel
theorem dX8_statistic_121 : decode cX8_statistic 121 = .ok (.lload 14, 2) := by decide +kernel
theorem dX8_statistic_123 : decode cX8_statistic 123 = .ok (.goto 5, 3) := by decide +kernel
theorem dX8_statistic_126 : decode cX8_statistic 126 = .ok (.lload 7, 2) := by decide +kernel
theorem dX8_statistic_128 : decode cX8_statistic 128 = .ok (.lstore 7, 2) := by decide +kernel
theorem dX8_statistic_130 : decode cX8_statistic 130 = .ok (.lload 9, 2) := by decide +kernel
theorem dX8_statistic_132 : decode cX8_statistic 132 = .ok (.lload 14, 2) := by decide +kernel
theorem dX8_statistic_134 : decode cX8_statistic 134 = .ok (.ladd, 1) := by decide +kernel
theorem dX8_statistic_135 : decode cX8_statistic 135 = .ok (.lstore 9, 2) := by decide +kernel
theorem dX8_statistic_137 : decode cX8_statistic 137 = .ok (.lload 11, 2) := by decide +kernel
theorem dX8_statistic_139 : decode cX8_statistic 139 = .ok (.aload_n 0, 1) := by decide +kernel
theorem dX8_statistic_140 : decode cX8_statistic 140 = .ok (.getfield 7, 3) := by decide +kernel
theorem dX8_statistic_143 : decode cX8_statistic 143 = .ok (.bipush 23, 2) := by decide +kernel
theorem dX8_statistic_145 : decode cX8_statistic 145 = .ok (.bipush 7, 2) := by decide +kernel
theorem dX8_statistic_147 : decode cX8_statistic 147 = .ok (.iload 13, 2) := by decide +kernel
theorem dX8_statistic_149 : decode cX8_statistic 149 = .ok (.bipush 40, 2) := by decide +kernel
theorem dX8_statistic_151 : decode cX8_statistic 151 = .ok (.irem, 1) := by decide +kernel
theorem dX8_statistic_152 : decode cX8_statistic 152 = .ok (.imul, 1) := by decide +kernel
theorem dX8_statistic_153 : decode cX8_statistic 153 = .ok (.iadd, 1) := by decide +kernel
theorem dX8_statistic_154 : decode cX8_statistic 154 = .ok (.iconst 3, 1) := by decide +kernel
theorem dX8_statistic_155 : decode cX8_statistic 155 = .ok (.iadd, 1) := by decide +kernel
theorem dX8_statistic_156 : decode cX8_statistic 156 = .ok (.laload, 1) := by decide +kernel
theorem dX8_statistic_157 : decode cX8_statistic 157 = .ok (.ladd, 1) := by decide +kernel
theorem dX8_statistic_158 : decode cX8_statistic 158 = .ok (.lstore 11, 2) := by decide +kernel
theorem dX8_statistic_160 : decode cX8_statistic 160 = .ok (.lload_n 3, 1) := by decide +kernel
theorem dX8_statistic_161 : decode cX8_statistic 161 = .ok (.lconst 1, 1) := by decide +kernel
theorem dX8_statistic_162 : decode cX8_statistic 162 = .ok (.ladd, 1) := by decide +kernel
theorem dX8_statistic_163 : decode cX8_statistic 163 = .ok (.lstore_n 3, 1) := by decide +kernel
theorem dX8_statistic_164 : decode cX8_statistic 164 = .ok (.iinc 13 1, 3) := by decide +kernel
theorem dX8_statistic_167 : decode cX8_statistic 167 = .ok (.goto (-130), 3) := by decide +kernel
theorem dX8_statistic_170 : decode cX8_statistic 170 = .ok (.iload_n 2, 1) := by decide +kernel
theorem dX8_statistic_171 : decode cX8_statistic 171 = .ok (.ifCond .eq 8, 3) := by decide +kernel
theorem dX8_statistic_174 : decode cX8_statistic 174 = .ok (.iload_n 2, 1) := by decide +kernel
theorem dX8_statistic_175 : decode cX8_statistic 175 = .ok (.iconst 4, 1) := by decide +kernel
theorem dX8_statistic_176 : decode cX8_statistic 176 = .ok (.if_icmp .ne 14, 3) := by decide +kernel
theorem dX8_statistic_179 : decode cX8_statistic 179 = .ok (.iload_n 2, 1) := by decide +kernel
theorem dX8_statistic_180 : decode cX8_statistic 180 = .ok (.ifCond .ne 7, 3) := by decide +kernel
theorem dX8_statistic_183 : decode cX8_statistic 183 = .ok (.lload_n 3, 1) := by decide +kernel
theorem dX8_statistic_184 : decode cX8_statistic 184 = .ok (.goto 5, 3) := by decide +kernel
theorem dX8_statistic_187 : decode cX8_statistic 187 = .ok (.lload 11, 2) := by decide +kernel
theorem dX8_statistic_189 : decode cX8_statistic 189 = .ok (.lreturn, 1) := by decide +kernel
theorem dX8_statistic_190 : decode cX8_statistic 190 = .ok (.lload_n 3, 1) := by decide +kernel
theorem dX8_statistic_191 : decode cX8_statistic 191 = .ok (.lconst 0, 1) := by decide +kernel
theorem dX8_statistic_192 : decode cX8_statistic 192 = .ok (.lcmp, 1) := by decide +kernel
theorem dX8_statistic_193 : decode cX8_statistic 193 = .ok (.ifCond .ne 9, 3) := by decide +kernel
theorem dX8_statistic_196 : decode cX8_statistic 196 = .ok (.ldc2_w 153, 3) := by decide +kernel
theorem dX8_statistic_199 : decode cX8_statistic 199 = .ok (.goto 27, 3) := by decide +kernel
theorem dX8_statistic_202 : decode cX8_statistic 202 = .ok (.iload_n 2, 1) := by decide +kernel
theorem dX8_statistic_203 : decode cX8_statistic 203 = .ok (.iconst 1, 1) := by decide +kernel
theorem dX8_statistic_204 : decode cX8_statistic 204 = .ok (.if_icmp .ne 8, 3) := by decide +kernel
theorem dX8_statistic_207 : decode cX8_statistic 207 = .ok (.lload 5, 2) := by decide +kernel
theorem dX8_statistic_209 : decode cX8_statistic 209 = .ok (.goto 17, 3) := by decide +kernel
theorem dX8_statistic_212 : decode cX8_statistic 212 = .ok (.iload_n 2, 1) := by decide +kernel
theorem dX8_statistic_213 : decode cX8_statistic 213 = .ok (.iconst 2, 1) := by decide +kernel
theorem dX8_statistic_214 : decode cX8_statistic 214 = .ok (.if_icmp .ne 8, 3) := by decide +kernel
theorem dX8_statistic_217 : decode cX8_statistic 217 = .ok (.lload 7, 2) := by decide +kernel
theorem dX8_statistic_219 : decode cX8_statistic 219 = .ok (.goto 7, 3) := by decide +kernel
theorem dX8_statistic_222 : decode cX8_statistic 222 = .ok (.lload 9, 2) := by decide +kernel
theorem dX8_statistic_224 : decode cX8_statistic 224 = .ok (.lload_n 3, 1) := by decide +kernel
theorem dX8_statistic_225 : decode cX8_statistic 225 = .ok (.ldiv, 1) := by decide +kernel
theorem dX8_statistic_226 : decode cX8_statistic 226 = .ok (.lreturn, 1) := by decide +kernel
abbrev csX8_tryReading : List (List Cond) := [[.code yX8_tryReading cX8_tryReading 7 (some .long)], wsX8_tryReading_r1, wsX8_tryReading_r2, wsX8_tryReading_r3, wsX80]
set_option maxRecDepth 20000 in
theorem hbX8_tryReading : wsX8_tryReading = csX8_tryReading.flatten := rfl
set_option maxRecDepth 20000 in
theorem ggX8_tryReading_X8_putAside : GoodIn wsX8_tryReading wsX8_putAside := goodIn_c csX8_tryReading hbX8_tryReading _ [(1, 5), (1, 6), (1, 0), (4, 0), (4, 1), (4, 2), (4, 3), (4, 4), (4, 5), (4, 6), (4, 7), (4, 8), (4, 9), (4, 10), (4, 11)] rfl (by decide +kernel)
set_option maxRecDepth 20000 in
theorem gX8_tryReading_X8_putAside : GoodIn wsX8_tryReading (wsV RX8 157 RX8 yX8_putAside wsX8_putAside) := goodIn_app (goodIn_c csX8_tryReading hbX8_tryReading [.methodLink RX8 157 yX8_putAside, .instanceMethod yX8_putAside, .selects RX8 yX8_putAside yX8_putAside, .initialized RX8] [(1, 1), (1, 2), (1, 3), (1, 4)] rfl (by decide +kernel)) ggX8_tryReading_X8_putAside
set_option maxRecDepth 20000 in
theorem ggX8_tryReading_X8_makeReading : GoodIn wsX8_tryReading wsX8_makeReading := goodIn_c csX8_tryReading hbX8_tryReading _ [(1, 10), (1, 0), (1, 11), (1, 12), (1, 13), (1, 14), (1, 15), (1, 16), (1, 4), (1, 17), (1, 18), (1, 19), (1, 20), (1, 21), (1, 22), (1, 23), (2, 0), (2, 1), (2, 2), (2, 3), (2, 4), (2, 5), (2, 6), (2, 7), (2, 8), (2, 9), (2, 10), (2, 11), (2, 12), (2, 13), (2, 14), (2, 15), (2, 16), (2, 17), (2, 18), (2, 19), (2, 20), (2, 21), (2, 22), (2, 23), (3, 0), (3, 1), (3, 2), (3, 3), (3, 4), (3, 5), (3, 6), (3, 7), (3, 8), (3, 9), (3, 10), (3, 11), (3, 12), (3, 13), (3, 14), (3, 15), (3, 16), (3, 17), (3, 18), (4, 0), (4, 1), (4, 2), (4, 3), (4, 4), (4, 5), (4, 6), (4, 7), (4, 8), (4, 9), (4, 10), (4, 11)] rfl (by decide +kernel)
set_option maxRecDepth 20000 in
theorem gX8_tryReading_X8_makeReading : GoodIn wsX8_tryReading (wsV RX8 142 RX8 yX8_makeReading wsX8_makeReading) := goodIn_app (goodIn_c csX8_tryReading hbX8_tryReading [.methodLink RX8 142 yX8_makeReading, .instanceMethod yX8_makeReading, .selects RX8 yX8_makeReading yX8_makeReading, .initialized RX8] [(1, 7), (1, 8), (1, 9), (1, 4)] rfl (by decide +kernel)) ggX8_tryReading_X8_makeReading
set_option maxRecDepth 20000 in
theorem ggX8_tryReading_X8_putBack : GoodIn wsX8_tryReading wsX8_putBack := goodIn_c csX8_tryReading hbX8_tryReading _ [(3, 22), (1, 0), (1, 6), (4, 0), (4, 1), (4, 2), (4, 3), (4, 4), (4, 5), (4, 6), (4, 7), (4, 8), (4, 9), (4, 10), (4, 11)] rfl (by decide +kernel)
set_option maxRecDepth 20000 in
theorem gX8_tryReading_X8_putBack : GoodIn wsX8_tryReading (wsV RX8 160 RX8 yX8_putBack wsX8_putBack) := goodIn_app (goodIn_c csX8_tryReading hbX8_tryReading [.methodLink RX8 160 yX8_putBack, .instanceMethod yX8_putBack, .selects RX8 yX8_putBack yX8_putBack, .initialized RX8] [(3, 19), (3, 20), (3, 21), (1, 4)] rfl (by decide +kernel)) ggX8_tryReading_X8_putBack
theorem dX8_tryReading_0 : decode cX8_tryReading 0 = .ok (.aload_n 0, 1) := by decide +kernel
theorem dX8_tryReading_1 : decode cX8_tryReading 1 = .ok (.invokevirtual 157, 3) := by decide +kernel
theorem dX8_tryReading_4 : decode cX8_tryReading 4 = .ok (.aload_n 0, 1) := by decide +kernel
theorem dX8_tryReading_5 : decode cX8_tryReading 5 = .ok (.getfield 7, 3) := by decide +kernel
theorem dX8_tryReading_8 : decode cX8_tryReading 8 = .ok (.bipush 11, 2) := by decide +kernel
theorem dX8_tryReading_10 : decode cX8_tryReading 10 = .ok (.dup2, 1) := by decide +kernel
theorem dX8_tryReading_11 : decode cX8_tryReading 11 = .ok (.laload, 1) := by decide +kernel
theorem dX8_tryReading_12 : decode cX8_tryReading 12 = .ok (.lload_n 1, 1) := by decide +kernel
theorem dX8_tryReading_13 : decode cX8_tryReading 13 = .ok (.ladd, 1) := by decide +kernel
theorem dX8_tryReading_14 : decode cX8_tryReading 14 = .ok (.lastore, 1) := by decide +kernel
theorem dX8_tryReading_15 : decode cX8_tryReading 15 = .ok (.aload_n 0, 1) := by decide +kernel
theorem dX8_tryReading_16 : decode cX8_tryReading 16 = .ok (.getfield 7, 3) := by decide +kernel
theorem dX8_tryReading_19 : decode cX8_tryReading 19 = .ok (.iconst 0, 1) := by decide +kernel
theorem dX8_tryReading_20 : decode cX8_tryReading 20 = .ok (.lload_n 3, 1) := by decide +kernel
theorem dX8_tryReading_21 : decode cX8_tryReading 21 = .ok (.lastore, 1) := by decide +kernel
theorem dX8_tryReading_22 : decode cX8_tryReading 22 = .ok (.aload_n 0, 1) := by decide +kernel
theorem dX8_tryReading_23 : decode cX8_tryReading 23 = .ok (.invokevirtual 142, 3) := by decide +kernel
theorem dX8_tryReading_26 : decode cX8_tryReading 26 = .ok (.lstore 5, 2) := by decide +kernel
theorem dX8_tryReading_28 : decode cX8_tryReading 28 = .ok (.aload_n 0, 1) := by decide +kernel
theorem dX8_tryReading_29 : decode cX8_tryReading 29 = .ok (.invokevirtual 160, 3) := by decide +kernel
theorem dX8_tryReading_32 : decode cX8_tryReading 32 = .ok (.lload 5, 2) := by decide +kernel
theorem dX8_tryReading_34 : decode cX8_tryReading 34 = .ok (.lreturn, 1) := by decide +kernel
abbrev csX8_wouldRead : List (List Cond) := [[.code yX8_wouldRead cX8_wouldRead 2 (some .long)], wsX8_wouldRead_r1, wsX8_wouldRead_r2, wsX8_wouldRead_r3, wsX8_wouldRead_r4, wsX80]
set_option maxRecDepth 20000 in
theorem hbX8_wouldRead : wsX8_wouldRead = csX8_wouldRead.flatten := rfl
set_option maxRecDepth 20000 in
theorem ggX8_wouldRead_X8_isLevel : GoodIn wsX8_wouldRead wsX8_isLevel := goodIn_c csX8_wouldRead hbX8_wouldRead _ [(1, 4), (1, 5), (1, 6), (1, 7), (1, 8), (1, 3), (1, 9)] rfl (by decide +kernel)
set_option maxRecDepth 20000 in
theorem gX8_wouldRead_X8_isLevel : GoodIn wsX8_wouldRead (va_wsS RX8 42 yX8_isLevel wsX8_isLevel) := goodIn_app (goodIn_c csX8_wouldRead hbX8_wouldRead [.methodLink RX8 42 yX8_isLevel, .static yX8_isLevel, .initialized yX8_isLevel.cls] [(1, 1), (1, 2), (1, 3)] rfl (by decide +kernel)) ggX8_wouldRead_X8_isLevel
set_option maxRecDepth 20000 in
theorem ggX8_wouldRead_X8_tryReading : GoodIn wsX8_wouldRead wsX8_tryReading := goodIn_c csX8_wouldRead hbX8_wouldRead _ [(1, 13), (1, 14), (1, 15), (1, 16), (1, 17), (1, 3), (1, 18), (1, 19), (1, 20), (1, 21), (1, 22), (1, 23), (2, 0), (2, 1), (2, 2), (2, 3), (2, 4), (2, 5), (2, 6), (2, 7), (2, 8), (2, 9), (2, 10), (2, 11), (2, 12), (2, 13), (2, 14), (2, 15), (2, 16), (2, 17), (2, 18), (2, 19), (2, 20), (2, 21), (2, 22), (2, 23), (3, 0), (3, 1), (3, 2), (3, 3), (3, 4), (3, 5), (3, 6), (3, 7), (3, 8), (3, 9), (3, 10), (3, 11), (3, 12), (3, 13), (3, 14), (3, 15), (3, 16), (3, 17), (3, 18), (3, 19), (3, 20), (3, 21), (3, 22), (3, 23), (4, 0), (4, 1), (4, 2), (4, 3), (4, 4), (4, 5), (4, 6), (4, 7), (4, 8), (4, 9), (4, 10), (4, 11), (5, 0), (5, 1), (5, 2), (5, 3), (5, 4), (5, 5), (5, 6), (5, 7), (5, 8), (5, 9), (5, 10), (5, 11)] rfl (by decide +kernel)
set_option maxRecDepth 20000 in
theorem gX8_wouldRead_X8_tryReading : GoodIn wsX8_wouldRead (wsV RX8 163 RX8 yX8_tryReading wsX8_tryReading) := goodIn_app (goodIn_c csX8_wouldRead hbX8_wouldRead [.methodLink RX8 163 yX8_tryReading, .instanceMethod yX8_tryReading, .selects RX8 yX8_tryReading yX8_tryReading, .initialized RX8] [(1, 10), (1, 11), (1, 12), (1, 3)] rfl (by decide +kernel)) ggX8_wouldRead_X8_tryReading
theorem dX8_wouldRead_0 : decode cX8_wouldRead 0 = .ok (.iload_n 1, 1) := by decide +kernel
theorem dX8_wouldRead_1 : decode cX8_wouldRead 1 = .ok (.invokestatic 42, 3) := by decide +kernel
theorem dX8_wouldRead_4 : decode cX8_wouldRead 4 = .ok (.ifCond .eq 13, 3) := by decide +kernel
theorem dX8_wouldRead_7 : decode cX8_wouldRead 7 = .ok (.aload_n 0, 1) := by decide +kernel
theorem dX8_wouldRead_8 : decode cX8_wouldRead 8 = .ok (.lconst 0, 1) := by decide +kernel
theorem dX8_wouldRead_9 : decode cX8_wouldRead 9 = .ok (.iload_n 1, 1) := by decide +kernel
theorem dX8_wouldRead_10 : decode cX8_wouldRead 10 = .ok (.i2l, 1) := by decide +kernel
theorem dX8_wouldRead_11 : decode cX8_wouldRead 11 = .ok (.invokevirtual 163, 3) := by decide +kernel
theorem dX8_wouldRead_14 : decode cX8_wouldRead 14 = .ok (.goto 6, 3) := by decide +kernel
theorem dX8_wouldRead_17 : decode cX8_wouldRead 17 = .ok (.ldc2_w 92, 3) := by decide +kernel
theorem dX8_wouldRead_20 : decode cX8_wouldRead 20 = .ok (.lreturn, 1) := by decide +kernel
abbrev csX8_rippleOf : List (List Cond) := [[.code yX8_rippleOf cX8_rippleOf 9 (some .long)], wsX8_rippleOf_r1, wsX8_rippleOf_r2, wsX8_rippleOf_r3, wsX8_rippleOf_r4, wsX80]
set_option maxRecDepth 20000 in
theorem hbX8_rippleOf : wsX8_rippleOf = csX8_rippleOf.flatten := rfl
set_option maxRecDepth 20000 in
theorem ggX8_rippleOf_X8_tryReading : GoodIn wsX8_rippleOf wsX8_tryReading := goodIn_c csX8_rippleOf hbX8_rippleOf _ [(1, 5), (1, 0), (1, 6), (1, 7), (1, 8), (1, 4), (1, 9), (1, 10), (1, 11), (1, 12), (1, 13), (1, 14), (1, 15), (1, 16), (1, 17), (1, 18), (1, 19), (1, 20), (1, 21), (1, 22), (1, 23), (2, 0), (2, 1), (2, 2), (2, 3), (2, 4), (2, 5), (2, 6), (2, 7), (2, 8), (2, 9), (2, 10), (2, 11), (2, 12), (2, 13), (2, 14), (2, 15), (2, 16), (2, 17), (2, 18), (2, 19), (2, 20), (2, 21), (2, 22), (2, 23), (3, 0), (3, 1), (3, 2), (3, 3), (3, 4), (3, 5), (3, 6), (3, 7), (3, 8), (3, 9), (3, 10), (3, 11), (3, 12), (3, 13), (3, 14), (3, 15), (3, 16), (3, 17), (3, 18), (3, 19), (3, 20), (3, 21), (3, 22), (3, 23), (4, 0), (4, 1), (4, 2), (5, 0), (5, 1), (5, 2), (5, 3), (5, 4), (5, 5), (5, 6), (5, 7), (5, 8), (5, 9), (5, 10), (5, 11)] rfl (by decide +kernel)
set_option maxRecDepth 20000 in
theorem gX8_rippleOf_X8_tryReading : GoodIn wsX8_rippleOf (wsV RX8 163 RX8 yX8_tryReading wsX8_tryReading) := goodIn_app (goodIn_c csX8_rippleOf hbX8_rippleOf [.methodLink RX8 163 yX8_tryReading, .instanceMethod yX8_tryReading, .selects RX8 yX8_tryReading yX8_tryReading, .initialized RX8] [(1, 1), (1, 2), (1, 3), (1, 4)] rfl (by decide +kernel)) ggX8_rippleOf_X8_tryReading
theorem dX8_rippleOf_0 : decode cX8_rippleOf 0 = .ok (.lconst 0, 1) := by decide +kernel
theorem dX8_rippleOf_1 : decode cX8_rippleOf 1 = .ok (.lstore_n 2, 1) := by decide +kernel
theorem dX8_rippleOf_2 : decode cX8_rippleOf 2 = .ok (.lconst 0, 1) := by decide +kernel
theorem dX8_rippleOf_3 : decode cX8_rippleOf 3 = .ok (.lstore 4, 2) := by decide +kernel
theorem dX8_rippleOf_5 : decode cX8_rippleOf 5 = .ok (.iconst 0, 1) := by decide +kernel
theorem dX8_rippleOf_6 : decode cX8_rippleOf 6 = .ok (.istore 6, 2) := by decide +kernel
theorem dX8_rippleOf_8 : decode cX8_rippleOf 8 = .ok (.iload 6, 2) := by decide +kernel
theorem dX8_rippleOf_10 : decode cX8_rippleOf 10 = .ok (.iload_n 1, 1) := by decide +kernel
theorem dX8_rippleOf_11 : decode cX8_rippleOf 11 = .ok (.if_icmp .ge 75, 3) := by decide +kernel
theorem dX8_rippleOf_14 : decode cX8_rippleOf 14 = .ok (.aload_n 0, 1) := by decide +kernel
theorem dX8_rippleOf_15 : decode cX8_rippleOf 15 = .ok (.iload 6, 2) := by decide +kernel
theorem dX8_rippleOf_17 : decode cX8_rippleOf 17 = .ok (.i2l, 1) := by decide +kernel
theorem dX8_rippleOf_18 : decode cX8_rippleOf 18 = .ok (.aload_n 0, 1) := by decide +kernel
theorem dX8_rippleOf_19 : decode cX8_rippleOf 19 = .ok (.getfield 7, 3) := by decide +kernel
theorem dX8_rippleOf_22 : decode cX8_rippleOf 22 = .ok (.iconst 2, 1) := by decide +kernel
theorem dX8_rippleOf_23 : decode cX8_rippleOf 23 = .ok (.laload, 1) := by decide +kernel
theorem dX8_rippleOf_24 : decode cX8_rippleOf 24 = .ok (.lmul, 1) := by decide +kernel
theorem dX8_rippleOf_25 : decode cX8_rippleOf 25 = .ok (.iload_n 1, 1) := by decide +kernel
theorem dX8_rippleOf_26 : decode cX8_rippleOf 26 = .ok (.i2l, 1) := by decide +kernel
theorem dX8_rippleOf_27 : decode cX8_rippleOf 27 = .ok (.ldiv, 1) := by decide +kernel
theorem dX8_rippleOf_28 : decode cX8_rippleOf 28 = .ok (.aload_n 0, 1) := by decide +kernel
theorem dX8_rippleOf_29 : decode cX8_rippleOf 29 = .ok (.getfield 7, 3) := by decide +kernel
theorem dX8_rippleOf_32 : decode cX8_rippleOf 32 = .ok (.iconst 0, 1) := by decide +kernel
theorem dX8_rippleOf_33 : decode cX8_rippleOf 33 = .ok (.laload, 1) := by decide +kernel
theorem dX8_rippleOf_34 : decode cX8_rippleOf 34 = .ok (.invokevirtual 163, 3) := by decide +kernel
theorem dX8_rippleOf_37 : decode cX8_rippleOf 37 = .ok (.lstore 7, 2) := by decide +kernel
theorem dX8_rippleOf_39 : decode cX8_rippleOf 39 = .ok (.iload 6, 2) := by decide +kernel
theorem dX8_rippleOf_41 : decode cX8_rippleOf 41 = .ok (.ifCond .eq 10, 3) := by decide +kernel
theorem dX8_rippleOf_44 : decode cX8_rippleOf 44 = .ok (.lload 7, 2) := by decide +kernel
theorem dX8_rippleOf_46 : decode cX8_rippleOf 46 = .ok (.lload_n 2, 1) := by decide +kernel
theorem dX8_rippleOf_47 : decode cX8_rippleOf 47 = .ok (.lcmp, 1) := by decide +kernel
theorem dX8_rippleOf_48 : decode cX8_rippleOf 48 = .ok (.ifCond .ge 8, 3) := by decide +kernel
theorem dX8_rippleOf_51 : decode cX8_rippleOf 51 = .ok (.lload 7, 2) := by decide +kernel
theorem dX8_rippleOf_53 : decode cX8_rippleOf 53 = .ok (.goto 4, 3) := by decide +kernel
theorem dX8_rippleOf_56 : decode cX8_rippleOf 56 = .ok (.lload_n 2, 1) := by decide +kernel
theorem dX8_rippleOf_57 : decode cX8_rippleOf 57 = .ok (.lstore_n 2, 1) := by decide +kernel
theorem dX8_rippleOf_58 : decode cX8_rippleOf 58 = .ok (.iload 6, 2) := by decide +kernel
theorem dX8_rippleOf_60 : decode cX8_rippleOf 60 = .ok (.ifCond .eq 11, 3) := by decide +kernel
theorem dX8_rippleOf_63 : decode cX8_rippleOf 63 = .ok (.lload 7, 2) := by decide +kernel
theorem dX8_rippleOf_65 : decode cX8_rippleOf 65 = .ok (.lload 4, 2) := by decide +kernel
theorem dX8_rippleOf_67 : decode cX8_rippleOf 67 = .ok (.lcmp, 1) := by decide +kernel
theorem dX8_rippleOf_68 : decode cX8_rippleOf 68 = .ok (.ifCond .le 8, 3) := by decide +kernel
theorem dX8_rippleOf_71 : decode cX8_rippleOf 71 = .ok (.lload 7, 2) := by decide +kernel
theorem dX8_rippleOf_73 : decode cX8_rippleOf 73 = .ok (.goto 5, 3) := by decide +kernel
theorem dX8_rippleOf_76 : decode cX8_rippleOf 76 = .ok (.lload 4, 2) := by decide +kernel
theorem dX8_rippleOf_78 : decode cX8_rippleOf 78 = .ok (.lstore 4, 2) := by decide +kernel
theorem dX8_rippleOf_80 : decode cX8_rippleOf 80 = .ok (.iinc 6 1, 3) := by decide +kernel
theorem dX8_rippleOf_83 : decode cX8_rippleOf 83 = .ok (.goto (-75), 3) := by decide +kernel
theorem dX8_rippleOf_86 : decode cX8_rippleOf 86 = .ok (.lload 4, 2) := by decide +kernel
theorem dX8_rippleOf_88 : decode cX8_rippleOf 88 = .ok (.lload_n 2, 1) := by decide +kernel
theorem dX8_rippleOf_89 : decode cX8_rippleOf 89 = .ok (.lsub, 1) := by decide +kernel
theorem dX8_rippleOf_90 : decode cX8_rippleOf 90 = .ok (.lreturn, 1) := by decide +kernel
abbrev csX8_ripple : List (List Cond) := [[.code yX8_ripple cX8_ripple 2 (some .long)], wsX8_ripple_r1, wsX8_ripple_r2, wsX8_ripple_r3, wsX8_ripple_r4, wsX80]
set_option maxRecDepth 20000 in
theorem hbX8_ripple : wsX8_ripple = csX8_ripple.flatten := rfl
set_option maxRecDepth 20000 in
theorem ggX8_ripple_X8_in : GoodIn wsX8_ripple wsX8_in := goodIn_c csX8_ripple hbX8_ripple _ [(1, 5)] rfl (by decide +kernel)
set_option maxRecDepth 20000 in
theorem gX8_ripple_X8_in : GoodIn wsX8_ripple (va_wsS RX8 38 yX8_in wsX8_in) := goodIn_app (goodIn_c csX8_ripple hbX8_ripple [.methodLink RX8 38 yX8_in, .static yX8_in, .initialized yX8_in.cls] [(1, 2), (1, 3), (1, 4)] rfl (by decide +kernel)) ggX8_ripple_X8_in
set_option maxRecDepth 20000 in
theorem ggX8_ripple_X8_rippleOf : GoodIn wsX8_ripple wsX8_rippleOf := goodIn_c csX8_ripple hbX8_ripple _ [(1, 9), (1, 10), (1, 11), (1, 12), (1, 13), (1, 4), (1, 14), (1, 15), (1, 16), (1, 17), (1, 18), (1, 19), (1, 20), (1, 21), (1, 22), (1, 23), (2, 0), (2, 1), (2, 2), (2, 3), (2, 4), (2, 5), (2, 6), (2, 7), (2, 8), (2, 9), (1, 0), (2, 10), (2, 11), (2, 12), (2, 13), (2, 14), (2, 15), (2, 16), (2, 17), (2, 18), (2, 19), (2, 20), (2, 21), (2, 22), (2, 23), (3, 0), (3, 1), (3, 2), (3, 3), (3, 4), (3, 5), (3, 6), (3, 7), (3, 8), (3, 9), (3, 10), (3, 11), (3, 12), (3, 13), (3, 14), (3, 15), (3, 16), (3, 17), (3, 18), (3, 19), (3, 20), (3, 21), (3, 22), (3, 23), (4, 0), (4, 1), (4, 2), (4, 3), (4, 4), (4, 5), (4, 6), (4, 7), (4, 8), (4, 9), (4, 10), (5, 0), (5, 1), (5, 2), (5, 3), (5, 4), (5, 5), (5, 6), (5, 7), (5, 8), (5, 9), (5, 10), (5, 11)] rfl (by decide +kernel)
set_option maxRecDepth 20000 in
theorem gX8_ripple_X8_rippleOf : GoodIn wsX8_ripple (wsV RX8 166 RX8 yX8_rippleOf wsX8_rippleOf) := goodIn_app (goodIn_c csX8_ripple hbX8_ripple [.methodLink RX8 166 yX8_rippleOf, .instanceMethod yX8_rippleOf, .selects RX8 yX8_rippleOf yX8_rippleOf, .initialized RX8] [(1, 6), (1, 7), (1, 8), (1, 4)] rfl (by decide +kernel)) ggX8_ripple_X8_rippleOf
theorem dX8_ripple_0 : decode cX8_ripple 0 = .ok (.iload_n 1, 1) := by decide +kernel
theorem dX8_ripple_1 : decode cX8_ripple 1 = .ok (.i2l, 1) := by decide +kernel
theorem dX8_ripple_2 : decode cX8_ripple 2 = .ok (.lconst 1, 1) := by decide +kernel
theorem dX8_ripple_3 : decode cX8_ripple 3 = .ok (.ldc2_w 126, 3) := by decide +kernel
theorem dX8_ripple_6 : decode cX8_ripple 6 = .ok (.invokestatic 38, 3) := by decide +kernel
theorem dX8_ripple_9 : decode cX8_ripple 9 = .ok (.ifCond .eq 11, 3) := by decide +kernel
theorem dX8_ripple_12 : decode cX8_ripple 12 = .ok (.aload_n 0, 1) := by decide +kernel
theorem dX8_ripple_13 : decode cX8_ripple 13 = .ok (.iload_n 1, 1) := by decide +kernel
theorem dX8_ripple_14 : decode cX8_ripple 14 = .ok (.invokevirtual 166, 3) := by decide +kernel
theorem dX8_ripple_17 : decode cX8_ripple 17 = .ok (.goto 6, 3) := by decide +kernel
theorem dX8_ripple_20 : decode cX8_ripple 20 = .ok (.ldc2_w 92, 3) := by decide +kernel
theorem dX8_ripple_23 : decode cX8_ripple 23 = .ok (.lreturn, 1) := by decide +kernel
abbrev csX8_bestWindow : List (List Cond) := [[.code yX8_bestWindow cX8_bestWindow 12 (some .int)], wsX8_bestWindow_r1, wsX8_bestWindow_r2, wsX8_bestWindow_r3, wsX8_bestWindow_r4, wsX80]
set_option maxRecDepth 20000 in
theorem hbX8_bestWindow : wsX8_bestWindow = csX8_bestWindow.flatten := rfl
set_option maxRecDepth 20000 in
theorem ggX8_bestWindow_X8_in : GoodIn wsX8_bestWindow wsX8_in := goodIn_c csX8_bestWindow hbX8_bestWindow _ [(1, 8)] rfl (by decide +kernel)
set_option maxRecDepth 20000 in
theorem gX8_bestWindow_X8_in : GoodIn wsX8_bestWindow (va_wsS RX8 38 yX8_in wsX8_in) := goodIn_app (goodIn_c csX8_bestWindow hbX8_bestWindow [.methodLink RX8 38 yX8_in, .static yX8_in, .initialized yX8_in.cls] [(1, 5), (1, 6), (1, 7)] rfl (by decide +kernel)) ggX8_bestWindow_X8_in
set_option maxRecDepth 20000 in
theorem ggX8_bestWindow_X8_rippleOf : GoodIn wsX8_bestWindow wsX8_rippleOf := goodIn_c csX8_bestWindow hbX8_bestWindow _ [(1, 12), (1, 4), (1, 13), (1, 14), (1, 15), (1, 7), (1, 16), (1, 17), (1, 18), (1, 19), (1, 20), (1, 21), (1, 22), (1, 23), (2, 0), (2, 1), (2, 2), (2, 3), (2, 4), (2, 5), (2, 6), (2, 7), (2, 8), (2, 9), (2, 10), (2, 11), (2, 12), (2, 13), (2, 14), (2, 15), (2, 16), (2, 17), (2, 18), (2, 19), (2, 20), (2, 21), (2, 22), (2, 23), (3, 0), (3, 1), (3, 2), (1, 0), (3, 3), (3, 4), (3, 5), (3, 6), (3, 7), (3, 8), (3, 9), (3, 10), (3, 11), (3, 12), (3, 13), (3, 14), (3, 15), (3, 16), (3, 17), (3, 18), (3, 19), (3, 20), (3, 21), (3, 22), (3, 23), (4, 0), (4, 1), (4, 2), (4, 3), (4, 4), (4, 5), (4, 6), (4, 7), (1, 3), (4, 8), (4, 9), (4, 10), (4, 11), (5, 0), (5, 1), (5, 2), (5, 3), (5, 4), (5, 5), (5, 6), (5, 7), (5, 8), (5, 9), (5, 10), (5, 11)] rfl (by decide +kernel)
set_option maxRecDepth 20000 in
theorem gX8_bestWindow_X8_rippleOf : GoodIn wsX8_bestWindow (wsV RX8 166 RX8 yX8_rippleOf wsX8_rippleOf) := goodIn_app (goodIn_c csX8_bestWindow hbX8_bestWindow [.methodLink RX8 166 yX8_rippleOf, .instanceMethod yX8_rippleOf, .selects RX8 yX8_rippleOf yX8_rippleOf, .initialized RX8] [(1, 9), (1, 10), (1, 11), (1, 7)] rfl (by decide +kernel)) ggX8_bestWindow_X8_rippleOf
theorem dX8_bestWindow_0 : decode cX8_bestWindow 0 = .ok (.iload_n 1, 1) := by decide +kernel
theorem dX8_bestWindow_1 : decode cX8_bestWindow 1 = .ok (.i2l, 1) := by decide +kernel
theorem dX8_bestWindow_2 : decode cX8_bestWindow 2 = .ok (.ldc2_w 48, 3) := by decide +kernel
theorem dX8_bestWindow_5 : decode cX8_bestWindow 5 = .ok (.ldc2_w 50, 3) := by decide +kernel
theorem dX8_bestWindow_8 : decode cX8_bestWindow 8 = .ok (.invokestatic 38, 3) := by decide +kernel
theorem dX8_bestWindow_11 : decode cX8_bestWindow 11 = .ok (.ifCond .eq 40, 3) := by decide +kernel
theorem dX8_bestWindow_14 : decode cX8_bestWindow 14 = .ok (.iload_n 2, 1) := by decide +kernel
theorem dX8_bestWindow_15 : decode cX8_bestWindow 15 = .ok (.i2l, 1) := by decide +kernel
theorem dX8_bestWindow_16 : decode cX8_bestWindow 16 = .ok (.lconst 1, 1) := by decide +kernel
theorem dX8_bestWindow_17 : decode cX8_bestWindow 17 = .ok (.ldc2_w 30, 3) := by decide +kernel
theorem dX8_bestWindow_20 : decode cX8_bestWindow 20 = .ok (.invokestatic 38, 3) := by decide +kernel
theorem dX8_bestWindow_23 : decode cX8_bestWindow 23 = .ok (.ifCond .eq 28, 3) := by decide +kernel
theorem dX8_bestWindow_26 : decode cX8_bestWindow 26 = .ok (.iload_n 3, 1) := by decide +kernel
theorem dX8_bestWindow_27 : decode cX8_bestWindow 27 = .ok (.i2l, 1) := by decide +kernel
theorem dX8_bestWindow_28 : decode cX8_bestWindow 28 = .ok (.lconst 1, 1) := by decide +kernel
theorem dX8_bestWindow_29 : decode cX8_bestWindow 29 = .ok (.ldc2_w 128, 3) := by decide +kernel
theorem dX8_bestWindow_32 : decode cX8_bestWindow 32 = .ok (.invokestatic 38, 3) := by decide +kernel
theorem dX8_bestWindow_35 : decode cX8_bestWindow 35 = .ok (.ifCond .eq 16, 3) := by decide +kernel
theorem dX8_bestWindow_38 : decode cX8_bestWindow 38 = .ok (.iload_n 1, 1) := by decide +kernel
theorem dX8_bestWindow_39 : decode cX8_bestWindow 39 = .ok (.iload_n 2, 1) := by decide +kernel
theorem dX8_bestWindow_40 : decode cX8_bestWindow 40 = .ok (.iload_n 3, 1) := by decide +kernel
theorem dX8_bestWindow_41 : decode cX8_bestWindow 41 = .ok (.iconst 1, 1) := by decide +kernel
theorem dX8_bestWindow_42 : decode cX8_bestWindow 42 = .ok (.isub, 1) := by decide +kernel
theorem dX8_bestWindow_43 : decode cX8_bestWindow 43 = .ok (.imul, 1) := by decide +kernel
theorem dX8_bestWindow_44 : decode cX8_bestWindow 44 = .ok (.iadd, 1) := by decide +kernel
theorem dX8_bestWindow_45 : decode cX8_bestWindow 45 = .ok (.sipush 400, 3) := by decide +kernel
theorem dX8_bestWindow_48 : decode cX8_bestWindow 48 = .ok (.if_icmp .le 6, 3) := by decide +kernel
theorem dX8_bestWindow_51 : decode cX8_bestWindow 51 = .ok (.bipush (-2), 2) := by decide +kernel
theorem dX8_bestWindow_53 : decode cX8_bestWindow 53 = .ok (.ireturn, 1) := by decide +kernel
theorem dX8_bestWindow_54 : decode cX8_bestWindow 54 = .ok (.aload_n 0, 1) := by decide +kernel
theorem dX8_bestWindow_55 : decode cX8_bestWindow 55 = .ok (.getfield 7, 3) := by decide +kernel
theorem dX8_bestWindow_58 : decode cX8_bestWindow 58 = .ok (.iconst 5, 1) := by decide +kernel
theorem dX8_bestWindow_59 : decode cX8_bestWindow 59 = .ok (.laload, 1) := by decide +kernel
theorem dX8_bestWindow_60 : decode cX8_bestWindow 60 = .ok (.lstore 4, 2) := by decide +kernel
theorem dX8_bestWindow_62 : decode cX8_bestWindow 62 = .ok (.iload_n 1, 1) := by decide +kernel
theorem dX8_bestWindow_63 : decode cX8_bestWindow 63 = .ok (.istore 6, 2) := by decide +kernel
theorem dX8_bestWindow_65 : decode cX8_bestWindow 65 = .ok (.lconst 0, 1) := by decide +kernel
theorem dX8_bestWindow_66 : decode cX8_bestWindow 66 = .ok (.lstore 7, 2) := by decide +kernel
theorem dX8_bestWindow_68 : decode cX8_bestWindow 68 = .ok (.iconst 0, 1) := by decide +kernel
theorem dX8_bestWindow_69 : decode cX8_bestWindow 69 = .ok (.istore 9, 2) := by decide +kernel
theorem dX8_bestWindow_71 : decode cX8_bestWindow 71 = .ok (.iload 9, 2) := by decide +kernel
theorem dX8_bestWindow_73 : decode cX8_bestWindow 73 = .ok (.iload_n 3, 1) := by decide +kernel
theorem dX8_bestWindow_74 : decode cX8_bestWindow 74 = .ok (.if_icmp .ge 78, 3) := by decide +kernel
theorem dX8_bestWindow_77 : decode cX8_bestWindow 77 = .ok (.aload_n 0, 1) := by decide +kernel
theorem dX8_bestWindow_78 : decode cX8_bestWindow 78 = .ok (.getfield 7, 3) := by decide +kernel
theorem dX8_bestWindow_81 : decode cX8_bestWindow 81 = .ok (.iconst 5, 1) := by decide +kernel
theorem dX8_bestWindow_82 : decode cX8_bestWindow 82 = .ok (.iload_n 1, 1) := by decide +kernel
theorem dX8_bestWindow_83 : decode cX8_bestWindow 83 = .ok (.iload_n 2, 1) := by decide +kernel
theorem dX8_bestWindow_84 : decode cX8_bestWindow 84 = .ok (.iload 9, 2) := by decide +kernel
theorem dX8_bestWindow_86 : decode cX8_bestWindow 86 = .ok (.imul, 1) := by decide +kernel
theorem dX8_bestWindow_87 : decode cX8_bestWindow 87 = .ok (.iadd, 1) := by decide +kernel
theorem dX8_bestWindow_88 : decode cX8_bestWindow 88 = .ok (.i2l, 1) := by decide +kernel
theorem dX8_bestWindow_89 : decode cX8_bestWindow 89 = .ok (.lastore, 1) := by decide +kernel
theorem dX8_bestWindow_90 : decode cX8_bestWindow 90 = .ok (.aload_n 0, 1) := by decide +kernel
theorem dX8_bestWindow_91 : decode cX8_bestWindow 91 = .ok (.bipush 8, 2) := by decide +kernel
theorem dX8_bestWindow_93 : decode cX8_bestWindow 93 = .ok (.invokevirtual 166, 3) := by decide +kernel
theorem dX8_bestWindow_96 : decode cX8_bestWindow 96 = .ok (.lstore 10, 2) := by decide +kernel
theorem dX8_bestWindow_98 : decode cX8_bestWindow 98 = .ok (.iload 9, 2) := by decide +kernel
theorem dX8_bestWindow_100 : decode cX8_bestWindow 100 = .ok (.ifCond .le 20, 3) := by decide +kernel
theorem dX8_bestWindow_103 : decode cX8_bestWindow 103 = .ok (.lload 10, 2) := by decide +kernel
theorem dX8_bestWindow_105 : decode cX8_bestWindow 105 = .ok (.lload 7, 2) := by decide +kernel
theorem dX8_bestWindow_107 : decode cX8_bestWindow 107 = .ok (.lcmp, 1) := by decide +kernel
theorem dX8_bestWindow_108 : decode cX8_bestWindow 108 = .ok (.ifCond .ge 12, 3) := by decide +kernel
theorem dX8_bestWindow_111 : decode cX8_bestWindow 111 = .ok (.iload_n 1, 1) := by decide +kernel
theorem dX8_bestWindow_112 : decode cX8_bestWindow 112 = .ok (.iload_n 2, 1) := by decide +kernel
theorem dX8_bestWindow_113 : decode cX8_bestWindow 113 = .ok (.iload 9, 2) := by decide +kernel
theorem dX8_bestWindow_115 : decode cX8_bestWindow 115 = .ok (.imul, 1) := by decide +kernel
theorem dX8_bestWindow_116 : decode cX8_bestWindow 116 = .ok (.iadd, 1) := by decide +kernel
theorem dX8_bestWindow_117 : decode cX8_bestWindow 117 = .ok (.goto 5, 3) := by decide +kernel
theorem dX8_bestWindow_120 : decode cX8_bestWindow 120 = .ok (.iload 6, 2) := by decide +kernel
theorem dX8_bestWindow_122 : decode cX8_bestWindow 122 = .ok (.istore 6, 2) := by decide +kernel
theorem dX8_bestWindow_124 : decode cX8_bestWindow 124 = .ok (.iload 9, 2) := by decide +kernel
theorem dX8_bestWindow_126 : decode cX8_bestWindow 126 = .ok (.ifCond .eq 11, 3) := by decide +kernel
theorem dX8_bestWindow_129 : decode cX8_bestWindow 129 = .ok (.lload 10, 2) := by decide +kernel
theorem dX8_bestWindow_131 : decode cX8_bestWindow 131 = .ok (.lload 7, 2) := by decide +kernel
theorem dX8_bestWindow_133 : decode cX8_bestWindow 133 = .ok (.lcmp, 1) := by decide +kernel
theorem dX8_bestWindow_134 : decode cX8_bestWindow 134 = .ok (.ifCond .ge 8, 3) := by decide +kernel
theorem dX8_bestWindow_137 : decode cX8_bestWindow 137 = .ok (.lload 10, 2) := by decide +kernel
theorem dX8_bestWindow_139 : decode cX8_bestWindow 139 = .ok (.goto 5, 3) := by decide +kernel
theorem dX8_bestWindow_142 : decode cX8_bestWindow 142 = .ok (.lload 7, 2) := by decide +kernel
theorem dX8_bestWindow_144 : decode cX8_bestWindow 144 = .ok (.lstore 7, 2) := by decide +kernel
theorem dX8_bestWindow_146 : decode cX8_bestWindow 146 = .ok (.iinc 9 1, 3) := by decide +kernel
theorem dX8_bestWindow_149 : decode cX8_bestWindow 149 = .ok (.goto (-78), 3) := by decide +kernel
theorem dX8_bestWindow_152 : decode cX8_bestWindow 152 = .ok (.aload_n 0, 1) := by decide +kernel
theorem dX8_bestWindow_153 : decode cX8_bestWindow 153 = .ok (.getfield 7, 3) := by decide +kernel
theorem dX8_bestWindow_156 : decode cX8_bestWindow 156 = .ok (.iconst 5, 1) := by decide +kernel
theorem dX8_bestWindow_157 : decode cX8_bestWindow 157 = .ok (.lload 4, 2) := by decide +kernel
theorem dX8_bestWindow_159 : decode cX8_bestWindow 159 = .ok (.lastore, 1) := by decide +kernel
theorem dX8_bestWindow_160 : decode cX8_bestWindow 160 = .ok (.iload 6, 2) := by decide +kernel
theorem dX8_bestWindow_162 : decode cX8_bestWindow 162 = .ok (.ireturn, 1) := by decide +kernel
abbrev csX8_order : List (List Cond) := [[.code yX8_order cX8_order 11 (some .int)], wsX8_order_r1, wsX8_order_r2, wsX8_order_r3, wsX8_order_r4, wsX80]
set_option maxRecDepth 20000 in
theorem hbX8_order : wsX8_order = csX8_order.flatten := rfl
set_option maxRecDepth 20000 in
theorem ggX8_order_X8_isLevel : GoodIn wsX8_order wsX8_isLevel := goodIn_c csX8_order hbX8_order _ [(1, 7), (1, 8), (1, 9), (1, 10), (1, 11), (1, 6), (1, 12)] rfl (by decide +kernel)
set_option maxRecDepth 20000 in
theorem gX8_order_X8_isLevel : GoodIn wsX8_order (va_wsS RX8 42 yX8_isLevel wsX8_isLevel) := goodIn_app (goodIn_c csX8_order hbX8_order [.methodLink RX8 42 yX8_isLevel, .static yX8_isLevel, .initialized yX8_isLevel.cls] [(1, 4), (1, 5), (1, 6)] rfl (by decide +kernel)) ggX8_order_X8_isLevel
set_option maxRecDepth 20000 in
theorem ggX8_order_X8_in : GoodIn wsX8_order wsX8_in := goodIn_c csX8_order hbX8_order _ [(1, 12)] rfl (by decide +kernel)
set_option maxRecDepth 20000 in
theorem gX8_order_X8_in : GoodIn wsX8_order (va_wsS RX8 38 yX8_in wsX8_in) := goodIn_app (goodIn_c csX8_order hbX8_order [.methodLink RX8 38 yX8_in, .static yX8_in, .initialized yX8_in.cls] [(1, 10), (1, 11), (1, 6)] rfl (by decide +kernel)) ggX8_order_X8_in
set_option maxRecDepth 20000 in
theorem ggX8_order_X8_tryReading : GoodIn wsX8_order wsX8_tryReading := goodIn_c csX8_order hbX8_order _ [(1, 16), (1, 17), (1, 18), (1, 19), (1, 20), (1, 6), (1, 21), (1, 22), (1, 23), (2, 0), (2, 1), (2, 2), (2, 3), (1, 2), (2, 4), (2, 5), (2, 6), (2, 7), (2, 8), (2, 9), (2, 10), (2, 11), (2, 12), (2, 13), (2, 14), (2, 15), (2, 16), (2, 17), (2, 18), (2, 19), (2, 20), (2, 21), (2, 22), (2, 23), (3, 0), (3, 1), (3, 2), (3, 3), (1, 1), (3, 4), (3, 5), (3, 6), (3, 7), (3, 8), (3, 9), (3, 10), (3, 11), (3, 12), (3, 13), (3, 14), (3, 15), (3, 16), (3, 17), (3, 18), (3, 19), (3, 20), (3, 21), (3, 22), (3, 23), (4, 0), (4, 1), (4, 2), (4, 3), (4, 4), (4, 5), (4, 6), (4, 7), (4, 8), (4, 9), (4, 10), (4, 11), (4, 12), (5, 0), (5, 1), (5, 2), (5, 3), (5, 4), (5, 5), (5, 6), (5, 7), (5, 8), (5, 9), (5, 10), (5, 11)] rfl (by decide +kernel)
set_option maxRecDepth 20000 in
theorem gX8_order_X8_tryReading : GoodIn wsX8_order (wsV RX8 163 RX8 yX8_tryReading wsX8_tryReading) := goodIn_app (goodIn_c csX8_order hbX8_order [.methodLink RX8 163 yX8_tryReading, .instanceMethod yX8_tryReading, .selects RX8 yX8_tryReading yX8_tryReading, .initialized RX8] [(1, 13), (1, 14), (1, 15), (1, 6)] rfl (by decide +kernel)) ggX8_order_X8_tryReading
theorem dX8_order_0 : decode cX8_order 0 = .ok (.iload_n 1, 1) := by decide +kernel
theorem dX8_order_1 : decode cX8_order 1 = .ok (.invokestatic 42, 3) := by decide +kernel
theorem dX8_order_4 : decode cX8_order 4 = .ok (.ifCond .eq 52, 3) := by decide +kernel
theorem dX8_order_7 : decode cX8_order 7 = .ok (.iload_n 2, 1) := by decide +kernel
theorem dX8_order_8 : decode cX8_order 8 = .ok (.i2l, 1) := by decide +kernel
theorem dX8_order_9 : decode cX8_order 9 = .ok (.lconst 1, 1) := by decide +kernel
theorem dX8_order_10 : decode cX8_order 10 = .ok (.ldc2_w 54, 3) := by decide +kernel
theorem dX8_order_13 : decode cX8_order 13 = .ok (.invokestatic 38, 3) := by decide +kernel
theorem dX8_order_16 : decode cX8_order 16 = .ok (.ifCond .eq 40, 3) := by decide +kernel
theorem dX8_order_19 : decode cX8_order 19 = .ok (.iload_n 3, 1) := by decide +kernel
theorem dX8_order_20 : decode cX8_order 20 = .ok (.i2l, 1) := by decide +kernel
theorem dX8_order_21 : decode cX8_order 21 = .ok (.ldc2_w 75, 3) := by decide +kernel
theorem dX8_order_24 : decode cX8_order 24 = .ok (.ldc2_w 133, 3) := by decide +kernel
theorem dX8_order_27 : decode cX8_order 27 = .ok (.invokestatic 38, 3) := by decide +kernel
theorem dX8_order_30 : decode cX8_order 30 = .ok (.ifCond .eq 26, 3) := by decide +kernel
theorem dX8_order_33 : decode cX8_order 33 = .ok (.iload_n 1, 1) := by decide +kernel
theorem dX8_order_34 : decode cX8_order 34 = .ok (.iload_n 2, 1) := by decide +kernel
theorem dX8_order_35 : decode cX8_order 35 = .ok (.iload_n 3, 1) := by decide +kernel
theorem dX8_order_36 : decode cX8_order 36 = .ok (.iconst 1, 1) := by decide +kernel
theorem dX8_order_37 : decode cX8_order 37 = .ok (.isub, 1) := by decide +kernel
theorem dX8_order_38 : decode cX8_order 38 = .ok (.imul, 1) := by decide +kernel
theorem dX8_order_39 : decode cX8_order 39 = .ok (.iadd, 1) := by decide +kernel
theorem dX8_order_40 : decode cX8_order 40 = .ok (.ldc 170, 2) := by decide +kernel
theorem dX8_order_42 : decode cX8_order 42 = .ok (.if_icmp .gt 14, 3) := by decide +kernel
theorem dX8_order_45 : decode cX8_order 45 = .ok (.iload 4, 2) := by decide +kernel
theorem dX8_order_47 : decode cX8_order 47 = .ok (.i2l, 1) := by decide +kernel
theorem dX8_order_48 : decode cX8_order 48 = .ok (.lconst 0, 1) := by decide +kernel
theorem dX8_order_49 : decode cX8_order 49 = .ok (.lconst 1, 1) := by decide +kernel
theorem dX8_order_50 : decode cX8_order 50 = .ok (.invokestatic 38, 3) := by decide +kernel
theorem dX8_order_53 : decode cX8_order 53 = .ok (.ifCond .ne 6, 3) := by decide +kernel
theorem dX8_order_56 : decode cX8_order 56 = .ok (.bipush (-2), 2) := by decide +kernel
theorem dX8_order_58 : decode cX8_order 58 = .ok (.ireturn, 1) := by decide +kernel
theorem dX8_order_59 : decode cX8_order 59 = .ok (.iconst 0, 1) := by decide +kernel
theorem dX8_order_60 : decode cX8_order 60 = .ok (.istore 5, 2) := by decide +kernel
theorem dX8_order_62 : decode cX8_order 62 = .ok (.aload_n 0, 1) := by decide +kernel
theorem dX8_order_63 : decode cX8_order 63 = .ok (.lconst 0, 1) := by decide +kernel
theorem dX8_order_64 : decode cX8_order 64 = .ok (.iload_n 1, 1) := by decide +kernel
theorem dX8_order_65 : decode cX8_order 65 = .ok (.i2l, 1) := by decide +kernel
theorem dX8_order_66 : decode cX8_order 66 = .ok (.invokevirtual 163, 3) := by decide +kernel
theorem dX8_order_69 : decode cX8_order 69 = .ok (.lstore 6, 2) := by decide +kernel
theorem dX8_order_71 : decode cX8_order 71 = .ok (.iconst 1, 1) := by decide +kernel
theorem dX8_order_72 : decode cX8_order 72 = .ok (.istore 8, 2) := by decide +kernel
theorem dX8_order_74 : decode cX8_order 74 = .ok (.iload 8, 2) := by decide +kernel
theorem dX8_order_76 : decode cX8_order 76 = .ok (.iload_n 3, 1) := by decide +kernel
theorem dX8_order_77 : decode cX8_order 77 = .ok (.if_icmp .ge 66, 3) := by decide +kernel
theorem dX8_order_80 : decode cX8_order 80 = .ok (.aload_n 0, 1) := by decide +kernel
theorem dX8_order_81 : decode cX8_order 81 = .ok (.lconst 0, 1) := by decide +kernel
theorem dX8_order_82 : decode cX8_order 82 = .ok (.iload_n 1, 1) := by decide +kernel
theorem dX8_order_83 : decode cX8_order 83 = .ok (.iload_n 2, 1) := by decide +kernel
theorem dX8_order_84 : decode cX8_order 84 = .ok (.iload 8, 2) := by decide +kernel
theorem dX8_order_86 : decode cX8_order 86 = .ok (.imul, 1) := by decide +kernel
theorem dX8_order_87 : decode cX8_order 87 = .ok (.iadd, 1) := by decide +kernel
theorem dX8_order_88 : decode cX8_order 88 = .ok (.i2l, 1) := by decide +kernel
theorem dX8_order_89 : decode cX8_order 89 = .ok (.invokevirtual 163, 3) := by decide +kernel
theorem dX8_order_92 : decode cX8_order 92 = .ok (.lstore 9, 2) := by decide +kernel
theorem dX8_order_94 : decode cX8_order 94 = .ok (.iload 5, 2) := by decide +kernel
theorem dX8_order_96 : decode cX8_order 96 = .ok (.iload 4, 2) := by decide +kernel
theorem dX8_order_98 : decode cX8_order 98 = .ok (.ifCond .ne 19, 3) := by decide +kernel
theorem dX8_order_101 : decode cX8_order 101 = .ok (.lload 9, 2) := by decide +kernel
theorem dX8_order_103 : decode cX8_order 103 = .ok (.lload 6, 2) := by decide +kernel
theorem dX8_order_105 : decode cX8_order 105 = .ok (.lcmp, 1) := by decide +kernel
theorem dX8_order_106 : decode cX8_order 106 = .ok (.ifCond .ge 7, 3) := by decide +kernel
theorem dX8_order_109 : decode cX8_order 109 = .ok (.iconst 1, 1) := by decide +kernel
theorem dX8_order_110 : decode cX8_order 110 = .ok (.goto 20, 3) := by decide +kernel
theorem dX8_order_113 : decode cX8_order 113 = .ok (.iconst 0, 1) := by decide +kernel
theorem dX8_order_114 : decode cX8_order 114 = .ok (.goto 16, 3) := by decide +kernel
theorem dX8_order_117 : decode cX8_order 117 = .ok (.lload 9, 2) := by decide +kernel
theorem dX8_order_119 : decode cX8_order 119 = .ok (.lload 6, 2) := by decide +kernel
theorem dX8_order_121 : decode cX8_order 121 = .ok (.lcmp, 1) := by decide +kernel
theorem dX8_order_122 : decode cX8_order 122 = .ok (.ifCond .ne 7, 3) := by decide +kernel
theorem dX8_order_125 : decode cX8_order 125 = .ok (.iconst 1, 1) := by decide +kernel
theorem dX8_order_126 : decode cX8_order 126 = .ok (.goto 4, 3) := by decide +kernel
theorem dX8_order_129 : decode cX8_order 129 = .ok (.iconst 0, 1) := by decide +kernel
theorem dX8_order_130 : decode cX8_order 130 = .ok (.iadd, 1) := by decide +kernel
theorem dX8_order_131 : decode cX8_order 131 = .ok (.istore 5, 2) := by decide +kernel
theorem dX8_order_133 : decode cX8_order 133 = .ok (.lload 9, 2) := by decide +kernel
theorem dX8_order_135 : decode cX8_order 135 = .ok (.lstore 6, 2) := by decide +kernel
theorem dX8_order_137 : decode cX8_order 137 = .ok (.iinc 8 1, 3) := by decide +kernel
theorem dX8_order_140 : decode cX8_order 140 = .ok (.goto (-66), 3) := by decide +kernel
theorem dX8_order_143 : decode cX8_order 143 = .ok (.iload 5, 2) := by decide +kernel
theorem dX8_order_145 : decode cX8_order 145 = .ok (.ireturn, 1) := by decide +kernel
abbrev csX8_levelFor : List (List Cond) := [[.code yX8_levelFor cX8_levelFor 6 (some .long)], wsX8_levelFor_r1, wsX8_levelFor_r2, wsX8_levelFor_r3, wsX8_levelFor_r4, wsX80]
set_option maxRecDepth 20000 in
theorem hbX8_levelFor : wsX8_levelFor = csX8_levelFor.flatten := rfl
set_option maxRecDepth 20000 in
theorem ggX8_levelFor_X8_in : GoodIn wsX8_levelFor wsX8_in := goodIn_c csX8_levelFor hbX8_levelFor _ [(1, 10)] rfl (by decide +kernel)
set_option maxRecDepth 20000 in
theorem gX8_levelFor_X8_in : GoodIn wsX8_levelFor (va_wsS RX8 38 yX8_in wsX8_in) := goodIn_app (goodIn_c csX8_levelFor hbX8_levelFor [.methodLink RX8 38 yX8_in, .static yX8_in, .initialized yX8_in.cls] [(1, 7), (1, 8), (1, 9)] rfl (by decide +kernel)) ggX8_levelFor_X8_in
set_option maxRecDepth 20000 in
theorem ggX8_levelFor_X8_tryReading : GoodIn wsX8_levelFor wsX8_tryReading := goodIn_c csX8_levelFor hbX8_levelFor _ [(1, 14), (1, 15), (1, 16), (1, 17), (1, 18), (1, 9), (1, 19), (1, 20), (1, 21), (1, 22), (1, 23), (2, 0), (2, 1), (2, 2), (2, 3), (2, 4), (2, 5), (2, 6), (2, 7), (2, 8), (2, 9), (2, 10), (2, 11), (2, 12), (2, 13), (2, 14), (2, 15), (2, 16), (2, 17), (2, 18), (2, 19), (2, 20), (2, 21), (2, 22), (2, 23), (3, 0), (3, 1), (3, 2), (3, 3), (3, 4), (3, 5), (3, 6), (3, 7), (3, 8), (3, 9), (3, 10), (3, 11), (3, 12), (3, 13), (3, 14), (3, 15), (3, 16), (3, 17), (3, 18), (3, 19), (3, 20), (3, 21), (3, 22), (3, 23), (4, 0), (4, 1), (4, 2), (4, 3), (4, 4), (4, 5), (4, 6), (4, 7), (4, 8), (4, 9), (4, 10), (4, 11), (4, 12), (5, 0), (5, 1), (5, 2), (5, 3), (5, 4), (5, 5), (5, 6), (5, 7), (5, 8), (5, 9), (5, 10), (5, 11)] rfl (by decide +kernel)
set_option maxRecDepth 20000 in
theorem gX8_levelFor_X8_tryReading : GoodIn wsX8_levelFor (wsV RX8 163 RX8 yX8_tryReading wsX8_tryReading) := goodIn_app (goodIn_c csX8_levelFor hbX8_levelFor [.methodLink RX8 163 yX8_tryReading, .instanceMethod yX8_tryReading, .selects RX8 yX8_tryReading yX8_tryReading, .initialized RX8] [(1, 11), (1, 12), (1, 13), (1, 9)] rfl (by decide +kernel)) ggX8_levelFor_X8_tryReading
theorem dX8_levelFor_0 : decode cX8_levelFor 0 = .ok (.iload_n 1, 1) := by decide +kernel
theorem dX8_levelFor_1 : decode cX8_levelFor 1 = .ok (.i2l, 1) := by decide +kernel
theorem dX8_levelFor_2 : decode cX8_levelFor 2 = .ok (.ldc2_w 171, 3) := by decide +kernel
theorem dX8_levelFor_5 : decode cX8_levelFor 5 = .ok (.ldc2_w 173, 3) := by decide +kernel
theorem dX8_levelFor_8 : decode cX8_levelFor 8 = .ok (.invokestatic 38, 3) := by decide +kernel
theorem dX8_levelFor_11 : decode cX8_levelFor 11 = .ok (.ifCond .ne 7, 3) := by decide +kernel
theorem dX8_levelFor_14 : decode cX8_levelFor 14 = .ok (.ldc2_w 92, 3) := by decide +kernel
theorem dX8_levelFor_17 : decode cX8_levelFor 17 = .ok (.lreturn, 1) := by decide +kernel
theorem dX8_levelFor_18 : decode cX8_levelFor 18 = .ok (.aload_n 0, 1) := by decide +kernel
theorem dX8_levelFor_19 : decode cX8_levelFor 19 = .ok (.lconst 0, 1) := by decide +kernel
theorem dX8_levelFor_20 : decode cX8_levelFor 20 = .ok (.ldc2_w 36, 3) := by decide +kernel
theorem dX8_levelFor_23 : decode cX8_levelFor 23 = .ok (.invokevirtual 163, 3) := by decide +kernel
theorem dX8_levelFor_26 : decode cX8_levelFor 26 = .ok (.iload_n 1, 1) := by decide +kernel
theorem dX8_levelFor_27 : decode cX8_levelFor 27 = .ok (.i2l, 1) := by decide +kernel
theorem dX8_levelFor_28 : decode cX8_levelFor 28 = .ok (.lcmp, 1) := by decide +kernel
theorem dX8_levelFor_29 : decode cX8_levelFor 29 = .ok (.ifCond .ge 7, 3) := by decide +kernel
theorem dX8_levelFor_32 : decode cX8_levelFor 32 = .ok (.ldc2_w 153, 3) := by decide +kernel
theorem dX8_levelFor_35 : decode cX8_levelFor 35 = .ok (.lreturn, 1) := by decide +kernel
theorem dX8_levelFor_36 : decode cX8_levelFor 36 = .ok (.ldc 175, 2) := by decide +kernel
theorem dX8_levelFor_38 : decode cX8_levelFor 38 = .ok (.istore_n 2, 1) := by decide +kernel
theorem dX8_levelFor_39 : decode cX8_levelFor 39 = .ok (.ldc 170, 2) := by decide +kernel
theorem dX8_levelFor_41 : decode cX8_levelFor 41 = .ok (.istore_n 3, 1) := by decide +kernel
theorem dX8_levelFor_42 : decode cX8_levelFor 42 = .ok (.iload_n 2, 1) := by decide +kernel
theorem dX8_levelFor_43 : decode cX8_levelFor 43 = .ok (.iload_n 3, 1) := by decide +kernel
theorem dX8_levelFor_44 : decode cX8_levelFor 44 = .ok (.if_icmp .ge 57, 3) := by decide +kernel
theorem dX8_levelFor_47 : decode cX8_levelFor 47 = .ok (.iload_n 2, 1) := by decide +kernel
theorem dX8_levelFor_48 : decode cX8_levelFor 48 = .ok (.iload_n 3, 1) := by decide +kernel
theorem dX8_levelFor_49 : decode cX8_levelFor 49 = .ok (.iadd, 1) := by decide +kernel
theorem dX8_levelFor_50 : decode cX8_levelFor 50 = .ok (.istore 4, 2) := by decide +kernel
theorem dX8_levelFor_52 : decode cX8_levelFor 52 = .ok (.iload 4, 2) := by decide +kernel
theorem dX8_levelFor_54 : decode cX8_levelFor 54 = .ok (.ifCond .lt 10, 3) := by decide +kernel
theorem dX8_levelFor_57 : decode cX8_levelFor 57 = .ok (.iload 4, 2) := by decide +kernel
theorem dX8_levelFor_59 : decode cX8_levelFor 59 = .ok (.iconst 2, 1) := by decide +kernel
theorem dX8_levelFor_60 : decode cX8_levelFor 60 = .ok (.idiv, 1) := by decide +kernel
theorem dX8_levelFor_61 : decode cX8_levelFor 61 = .ok (.goto 10, 3) := by decide +kernel
theorem dX8_levelFor_64 : decode cX8_levelFor 64 = .ok (.iconst 1, 1) := by decide +kernel
theorem dX8_levelFor_65 : decode cX8_levelFor 65 = .ok (.iload 4, 2) := by decide +kernel
theorem dX8_levelFor_67 : decode cX8_levelFor 67 = .ok (.isub, 1) := by decide +kernel
theorem dX8_levelFor_68 : decode cX8_levelFor 68 = .ok (.iconst 2, 1) := by decide +kernel
theorem dX8_levelFor_69 : decode cX8_levelFor 69 = .ok (.idiv, 1) := by decide +kernel
theorem dX8_levelFor_70 : decode cX8_levelFor 70 = .ok (.ineg, 1) := by decide +kernel
theorem dX8_levelFor_71 : decode cX8_levelFor 71 = .ok (.istore 5, 2) := by decide +kernel
theorem dX8_levelFor_73 : decode cX8_levelFor 73 = .ok (.aload_n 0, 1) := by decide +kernel
theorem dX8_levelFor_74 : decode cX8_levelFor 74 = .ok (.lconst 0, 1) := by decide +kernel
theorem dX8_levelFor_75 : decode cX8_levelFor 75 = .ok (.iload 5, 2) := by decide +kernel
theorem dX8_levelFor_77 : decode cX8_levelFor 77 = .ok (.i2l, 1) := by decide +kernel
theorem dX8_levelFor_78 : decode cX8_levelFor 78 = .ok (.invokevirtual 163, 3) := by decide +kernel
theorem dX8_levelFor_81 : decode cX8_levelFor 81 = .ok (.iload_n 1, 1) := by decide +kernel
theorem dX8_levelFor_82 : decode cX8_levelFor 82 = .ok (.i2l, 1) := by decide +kernel
theorem dX8_levelFor_83 : decode cX8_levelFor 83 = .ok (.lcmp, 1) := by decide +kernel
theorem dX8_levelFor_84 : decode cX8_levelFor 84 = .ok (.ifCond .lt 9, 3) := by decide +kernel
theorem dX8_levelFor_87 : decode cX8_levelFor 87 = .ok (.iload 5, 2) := by decide +kernel
theorem dX8_levelFor_89 : decode cX8_levelFor 89 = .ok (.istore_n 3, 1) := by decide +kernel
theorem dX8_levelFor_90 : decode cX8_levelFor 90 = .ok (.goto 8, 3) := by decide +kernel
theorem dX8_levelFor_93 : decode cX8_levelFor 93 = .ok (.iload 5, 2) := by decide +kernel
theorem dX8_levelFor_95 : decode cX8_levelFor 95 = .ok (.iconst 1, 1) := by decide +kernel
theorem dX8_levelFor_96 : decode cX8_levelFor 96 = .ok (.iadd, 1) := by decide +kernel
theorem dX8_levelFor_97 : decode cX8_levelFor 97 = .ok (.istore_n 2, 1) := by decide +kernel
theorem dX8_levelFor_98 : decode cX8_levelFor 98 = .ok (.goto (-56), 3) := by decide +kernel
theorem dX8_levelFor_101 : decode cX8_levelFor 101 = .ok (.iload_n 2, 1) := by decide +kernel
theorem dX8_levelFor_102 : decode cX8_levelFor 102 = .ok (.i2l, 1) := by decide +kernel
theorem dX8_levelFor_103 : decode cX8_levelFor 103 = .ok (.lreturn, 1) := by decide +kernel
abbrev csX8_settle : List (List Cond) := [[.code yX8_settle cX8_settle 5 (some .int)], wsX8_settle_r1, wsX8_settle_r2, wsX8_settle_r3, wsX80]
set_option maxRecDepth 20000 in
theorem hbX8_settle : wsX8_settle = csX8_settle.flatten := rfl
set_option maxRecDepth 20000 in
theorem ggX8_settle_X8_putAside : GoodIn wsX8_settle wsX8_putAside := goodIn_c csX8_settle hbX8_settle _ [(1, 5), (1, 6), (1, 0), (4, 0), (4, 1), (4, 2), (4, 3), (4, 4), (4, 5), (4, 6), (4, 7), (4, 8), (4, 9), (4, 10), (4, 11)] rfl (by decide +kernel)
set_option maxRecDepth 20000 in
theorem gX8_settle_X8_putAside : GoodIn wsX8_settle (wsV RX8 157 RX8 yX8_putAside wsX8_putAside) := goodIn_app (goodIn_c csX8_settle hbX8_settle [.methodLink RX8 157 yX8_putAside, .instanceMethod yX8_putAside, .selects RX8 yX8_putAside yX8_putAside, .initialized RX8] [(1, 1), (1, 2), (1, 3), (1, 4)] rfl (by decide +kernel)) ggX8_settle_X8_putAside
set_option maxRecDepth 20000 in
theorem ggX8_settle_X8_makeReading : GoodIn wsX8_settle wsX8_makeReading := goodIn_c csX8_settle hbX8_settle _ [(1, 10), (1, 0), (1, 11), (1, 12), (1, 13), (1, 14), (1, 15), (1, 16), (1, 4), (1, 17), (1, 18), (1, 19), (1, 20), (1, 21), (1, 22), (1, 23), (2, 0), (2, 1), (2, 2), (2, 3), (2, 4), (2, 5), (2, 6), (2, 7), (2, 8), (2, 9), (2, 10), (2, 11), (2, 12), (2, 13), (2, 14), (2, 15), (2, 16), (2, 17), (2, 18), (2, 19), (2, 20), (2, 21), (2, 22), (2, 23), (3, 0), (3, 1), (3, 2), (3, 3), (3, 4), (3, 5), (3, 6), (3, 7), (3, 8), (3, 9), (3, 10), (3, 11), (3, 12), (3, 13), (3, 14), (3, 15), (3, 16), (3, 17), (3, 18), (4, 0), (4, 1), (4, 2), (4, 3), (4, 4), (4, 5), (4, 6), (4, 7), (4, 8), (4, 9), (4, 10), (4, 11)] rfl (by decide +kernel)
set_option maxRecDepth 20000 in
theorem gX8_settle_X8_makeReading : GoodIn wsX8_settle (wsV RX8 142 RX8 yX8_makeReading wsX8_makeReading) := goodIn_app (goodIn_c csX8_settle hbX8_settle [.methodLink RX8 142 yX8_makeReading, .instanceMethod yX8_makeReading, .selects RX8 yX8_makeReading yX8_makeReading, .initialized RX8] [(1, 7), (1, 8), (1, 9), (1, 4)] rfl (by decide +kernel)) ggX8_settle_X8_makeReading
set_option maxRecDepth 20000 in
theorem ggX8_settle_X8_putBack : GoodIn wsX8_settle wsX8_putBack := goodIn_c csX8_settle hbX8_settle _ [(3, 22), (1, 0), (1, 6), (4, 0), (4, 1), (4, 2), (4, 3), (4, 4), (4, 5), (4, 6), (4, 7), (4, 8), (4, 9), (4, 10), (4, 11)] rfl (by decide +kernel)
set_option maxRecDepth 20000 in
theorem gX8_settle_X8_putBack : GoodIn wsX8_settle (wsV RX8 160 RX8 yX8_putBack wsX8_putBack) := goodIn_app (goodIn_c csX8_settle hbX8_settle [.methodLink RX8 160 yX8_putBack, .instanceMethod yX8_putBack, .selects RX8 yX8_putBack yX8_putBack, .initialized RX8] [(3, 19), (3, 20), (3, 21), (1, 4)] rfl (by decide +kernel)) ggX8_settle_X8_putBack
theorem dX8_settle_0 : decode cX8_settle 0 = .ok (.aload_n 0, 1) := by decide +kernel
theorem dX8_settle_1 : decode cX8_settle 1 = .ok (.invokevirtual 157, 3) := by decide +kernel
theorem dX8_settle_4 : decode cX8_settle 4 = .ok (.bipush (-6), 2) := by decide +kernel
theorem dX8_settle_6 : decode cX8_settle 6 = .ok (.istore_n 1, 1) := by decide +kernel
theorem dX8_settle_7 : decode cX8_settle 7 = .ok (.iconst 0, 1) := by decide +kernel
theorem dX8_settle_8 : decode cX8_settle 8 = .ok (.istore_n 2, 1) := by decide +kernel
theorem dX8_settle_9 : decode cX8_settle 9 = .ok (.iload_n 2, 1) := by decide +kernel
theorem dX8_settle_10 : decode cX8_settle 10 = .ok (.bipush 20, 2) := by decide +kernel
theorem dX8_settle_12 : decode cX8_settle 12 = .ok (.if_icmp .gt 45, 3) := by decide +kernel
theorem dX8_settle_15 : decode cX8_settle 15 = .ok (.iload_n 1, 1) := by decide +kernel
theorem dX8_settle_16 : decode cX8_settle 16 = .ok (.ifCond .ge 41, 3) := by decide +kernel
theorem dX8_settle_19 : decode cX8_settle 19 = .ok (.aload_n 0, 1) := by decide +kernel
theorem dX8_settle_20 : decode cX8_settle 20 = .ok (.getfield 7, 3) := by decide +kernel
theorem dX8_settle_23 : decode cX8_settle 23 = .ok (.bipush 10, 2) := by decide +kernel
theorem dX8_settle_25 : decode cX8_settle 25 = .ok (.laload, 1) := by decide +kernel
theorem dX8_settle_26 : decode cX8_settle 26 = .ok (.lstore_n 3, 1) := by decide +kernel
theorem dX8_settle_27 : decode cX8_settle 27 = .ok (.aload_n 0, 1) := by decide +kernel
theorem dX8_settle_28 : decode cX8_settle 28 = .ok (.invokevirtual 142, 3) := by decide +kernel
theorem dX8_settle_31 : decode cX8_settle 31 = .ok (.pop2, 1) := by decide +kernel
theorem dX8_settle_32 : decode cX8_settle 32 = .ok (.aload_n 0, 1) := by decide +kernel
theorem dX8_settle_33 : decode cX8_settle 33 = .ok (.getfield 7, 3) := by decide +kernel
theorem dX8_settle_36 : decode cX8_settle 36 = .ok (.bipush 10, 2) := by decide +kernel
theorem dX8_settle_38 : decode cX8_settle 38 = .ok (.laload, 1) := by decide +kernel
theorem dX8_settle_39 : decode cX8_settle 39 = .ok (.lload_n 3, 1) := by decide +kernel
theorem dX8_settle_40 : decode cX8_settle 40 = .ok (.lcmp, 1) := by decide +kernel
theorem dX8_settle_41 : decode cX8_settle 41 = .ok (.ifCond .ne 7, 3) := by decide +kernel
theorem dX8_settle_44 : decode cX8_settle 44 = .ok (.iload_n 2, 1) := by decide +kernel
theorem dX8_settle_45 : decode cX8_settle 45 = .ok (.goto 5, 3) := by decide +kernel
theorem dX8_settle_48 : decode cX8_settle 48 = .ok (.bipush (-6), 2) := by decide +kernel
theorem dX8_settle_50 : decode cX8_settle 50 = .ok (.istore_n 1, 1) := by decide +kernel
theorem dX8_settle_51 : decode cX8_settle 51 = .ok (.iinc 2 1, 3) := by decide +kernel
theorem dX8_settle_54 : decode cX8_settle 54 = .ok (.goto (-45), 3) := by decide +kernel
theorem dX8_settle_57 : decode cX8_settle 57 = .ok (.aload_n 0, 1) := by decide +kernel
theorem dX8_settle_58 : decode cX8_settle 58 = .ok (.invokevirtual 160, 3) := by decide +kernel
theorem dX8_settle_61 : decode cX8_settle 61 = .ok (.iload_n 1, 1) := by decide +kernel
theorem dX8_settle_62 : decode cX8_settle 62 = .ok (.ireturn, 1) := by decide +kernel
abbrev csX8_say : List (List Cond) := [[.code yX8_say cX8_say 2 (some .int)], [.constantLong RX8 176 (33), .constantLong RX8 178 (126), .fieldLink RX8 180 "SlopeMeterModel" "padMany" "I", .fieldLink RX8 23 "SlopeMeterModel" "pad" "[I", .methodLink RX8 38 yX8_in, .static yX8_in, .initialized RX8, .code yX8_in cX8_in 6 (some .boolean)], wsX80]
set_option maxRecDepth 20000 in
theorem hbX8_say : wsX8_say = csX8_say.flatten := rfl
set_option maxRecDepth 20000 in
theorem ggX8_say_X8_in : GoodIn wsX8_say wsX8_in := goodIn_c csX8_say hbX8_say _ [(1, 7)] rfl (by decide +kernel)
set_option maxRecDepth 20000 in
theorem gX8_say_X8_in : GoodIn wsX8_say (va_wsS RX8 38 yX8_in wsX8_in) := goodIn_app (goodIn_c csX8_say hbX8_say [.methodLink RX8 38 yX8_in, .static yX8_in, .initialized yX8_in.cls] [(1, 4), (1, 5), (1, 6)] rfl (by decide +kernel)) ggX8_say_X8_in
theorem dX8_say_0 : decode cX8_say 0 = .ok (.iload_n 1, 1) := by decide +kernel
theorem dX8_say_1 : decode cX8_say 1 = .ok (.i2l, 1) := by decide +kernel
theorem dX8_say_2 : decode cX8_say 2 = .ok (.ldc2_w 176, 3) := by decide +kernel
theorem dX8_say_5 : decode cX8_say 5 = .ok (.ldc2_w 178, 3) := by decide +kernel
theorem dX8_say_8 : decode cX8_say 8 = .ok (.invokestatic 38, 3) := by decide +kernel
theorem dX8_say_11 : decode cX8_say 11 = .ok (.ifCond .ne 6, 3) := by decide +kernel
theorem dX8_say_14 : decode cX8_say 14 = .ok (.bipush (-2), 2) := by decide +kernel
theorem dX8_say_16 : decode cX8_say 16 = .ok (.ireturn, 1) := by decide +kernel
theorem dX8_say_17 : decode cX8_say 17 = .ok (.aload_n 0, 1) := by decide +kernel
theorem dX8_say_18 : decode cX8_say 18 = .ok (.getfield 180, 3) := by decide +kernel
theorem dX8_say_21 : decode cX8_say 21 = .ok (.bipush 60, 2) := by decide +kernel
theorem dX8_say_23 : decode cX8_say 23 = .ok (.if_icmp .ne 6, 3) := by decide +kernel
theorem dX8_say_26 : decode cX8_say 26 = .ok (.bipush (-4), 2) := by decide +kernel
theorem dX8_say_28 : decode cX8_say 28 = .ok (.ireturn, 1) := by decide +kernel
theorem dX8_say_29 : decode cX8_say 29 = .ok (.aload_n 0, 1) := by decide +kernel
theorem dX8_say_30 : decode cX8_say 30 = .ok (.getfield 23, 3) := by decide +kernel
theorem dX8_say_33 : decode cX8_say 33 = .ok (.aload_n 0, 1) := by decide +kernel
theorem dX8_say_34 : decode cX8_say 34 = .ok (.getfield 180, 3) := by decide +kernel
theorem dX8_say_37 : decode cX8_say 37 = .ok (.iload_n 1, 1) := by decide +kernel
theorem dX8_say_38 : decode cX8_say 38 = .ok (.iastore, 1) := by decide +kernel
theorem dX8_say_39 : decode cX8_say 39 = .ok (.aload_n 0, 1) := by decide +kernel
theorem dX8_say_40 : decode cX8_say 40 = .ok (.dup, 1) := by decide +kernel
theorem dX8_say_41 : decode cX8_say 41 = .ok (.getfield 180, 3) := by decide +kernel
theorem dX8_say_44 : decode cX8_say 44 = .ok (.iconst 1, 1) := by decide +kernel
theorem dX8_say_45 : decode cX8_say 45 = .ok (.iadd, 1) := by decide +kernel
theorem dX8_say_46 : decode cX8_say 46 = .ok (.putfield 180, 3) := by decide +kernel
theorem dX8_say_49 : decode cX8_say 49 = .ok (.aload_n 0, 1) := by decide +kernel
theorem dX8_say_50 : decode cX8_say 50 = .ok (.getfield 180, 3) := by decide +kernel
theorem dX8_say_53 : decode cX8_say 53 = .ok (.ireturn, 1) := by decide +kernel
theorem dX8_wipe_0 : decode cX8_wipe 0 = .ok (.aload_n 0, 1) := by decide +kernel
theorem dX8_wipe_1 : decode cX8_wipe 1 = .ok (.getfield 180, 3) := by decide +kernel
theorem dX8_wipe_4 : decode cX8_wipe 4 = .ok (.istore_n 1, 1) := by decide +kernel
theorem dX8_wipe_5 : decode cX8_wipe 5 = .ok (.aload_n 0, 1) := by decide +kernel
theorem dX8_wipe_6 : decode cX8_wipe 6 = .ok (.iconst 0, 1) := by decide +kernel
theorem dX8_wipe_7 : decode cX8_wipe 7 = .ok (.putfield 180, 3) := by decide +kernel
theorem dX8_wipe_10 : decode cX8_wipe 10 = .ok (.iload_n 1, 1) := by decide +kernel
theorem dX8_wipe_11 : decode cX8_wipe 11 = .ok (.ireturn, 1) := by decide +kernel
theorem dX8_nextSign_0 : decode cX8_nextSign 0 = .ok (.aload_n 0, 1) := by decide +kernel
theorem dX8_nextSign_1 : decode cX8_nextSign 1 = .ok (.getfield 184, 3) := by decide +kernel
theorem dX8_nextSign_4 : decode cX8_nextSign 4 = .ok (.aload_n 0, 1) := by decide +kernel
theorem dX8_nextSign_5 : decode cX8_nextSign 5 = .ok (.getfield 180, 3) := by decide +kernel
theorem dX8_nextSign_8 : decode cX8_nextSign 8 = .ok (.if_icmp .ge 15, 3) := by decide +kernel
theorem dX8_nextSign_11 : decode cX8_nextSign 11 = .ok (.aload_n 0, 1) := by decide +kernel
theorem dX8_nextSign_12 : decode cX8_nextSign 12 = .ok (.getfield 23, 3) := by decide +kernel
theorem dX8_nextSign_15 : decode cX8_nextSign 15 = .ok (.aload_n 0, 1) := by decide +kernel
theorem dX8_nextSign_16 : decode cX8_nextSign 16 = .ok (.getfield 184, 3) := by decide +kernel
theorem dX8_nextSign_19 : decode cX8_nextSign 19 = .ok (.iaload, 1) := by decide +kernel
theorem dX8_nextSign_20 : decode cX8_nextSign 20 = .ok (.goto 4, 3) := by decide +kernel
theorem dX8_nextSign_23 : decode cX8_nextSign 23 = .ok (.iconst 0, 1) := by decide +kernel
theorem dX8_nextSign_24 : decode cX8_nextSign 24 = .ok (.ireturn, 1) := by decide +kernel
abbrev csX8_takeNumber : List (List Cond) := [[.code yX8_takeNumber cX8_takeNumber 4 (some .int)], [.constantLong RX8 191 (9), .fieldLink RX8 193 "SlopeMeterModel" "isWrong" "Z", .fieldLink RX8 184 "SlopeMeterModel" "reading" "I", .constantLong RX8 196 (48), .constantLong RX8 198 (57), .methodLink RX8 187 yX8_nextSign, .instanceMethod yX8_nextSign, .selects RX8 yX8_nextSign yX8_nextSign, .initialized RX8, .code yX8_nextSign cX8_nextSign 1 (some .int), .fieldLink RX8 180 "SlopeMeterModel" "padMany" "I", .fieldLink RX8 23 "SlopeMeterModel" "pad" "[I", .methodLink RX8 38 yX8_in, .static yX8_in, .code yX8_in cX8_in 6 (some .boolean)], wsX80]
set_option maxRecDepth 20000 in
theorem hbX8_takeNumber : wsX8_takeNumber = csX8_takeNumber.flatten := rfl
set_option maxRecDepth 20000 in
theorem ggX8_takeNumber_X8_nextSign : GoodIn wsX8_takeNumber wsX8_nextSign := goodIn_c csX8_takeNumber hbX8_takeNumber _ [(1, 9), (1, 2), (1, 10), (1, 11), (2, 0), (2, 1), (2, 2), (2, 3), (2, 4), (2, 5), (2, 6), (2, 7), (2, 8), (2, 9), (2, 10), (2, 11)] rfl (by decide +kernel)
set_option maxRecDepth 20000 in
theorem gX8_takeNumber_X8_nextSign : GoodIn wsX8_takeNumber (wsV RX8 187 RX8 yX8_nextSign wsX8_nextSign) := goodIn_app (goodIn_c csX8_takeNumber hbX8_takeNumber [.methodLink RX8 187 yX8_nextSign, .instanceMethod yX8_nextSign, .selects RX8 yX8_nextSign yX8_nextSign, .initialized RX8] [(1, 5), (1, 6), (1, 7), (1, 8)] rfl (by decide +kernel)) ggX8_takeNumber_X8_nextSign
set_option maxRecDepth 20000 in
theorem ggX8_takeNumber_X8_in : GoodIn wsX8_takeNumber wsX8_in := goodIn_c csX8_takeNumber hbX8_takeNumber _ [(1, 14)] rfl (by decide +kernel)
set_option maxRecDepth 20000 in
theorem gX8_takeNumber_X8_in : GoodIn wsX8_takeNumber (va_wsS RX8 38 yX8_in wsX8_in) := goodIn_app (goodIn_c csX8_takeNumber hbX8_takeNumber [.methodLink RX8 38 yX8_in, .static yX8_in, .initialized yX8_in.cls] [(1, 12), (1, 13), (1, 8)] rfl (by decide +kernel)) ggX8_takeNumber_X8_in
theorem dX8_takeNumber_0 : decode cX8_takeNumber 0 = .ok (.aload_n 0, 1) := by decide +kernel
theorem dX8_takeNumber_1 : decode cX8_takeNumber 1 = .ok (.invokevirtual 187, 3) := by decide +kernel
theorem dX8_takeNumber_4 : decode cX8_takeNumber 4 = .ok (.bipush 48, 2) := by decide +kernel
theorem dX8_takeNumber_6 : decode cX8_takeNumber 6 = .ok (.isub, 1) := by decide +kernel
theorem dX8_takeNumber_7 : decode cX8_takeNumber 7 = .ok (.istore_n 3, 1) := by decide +kernel
theorem dX8_takeNumber_8 : decode cX8_takeNumber 8 = .ok (.iload_n 3, 1) := by decide +kernel
theorem dX8_takeNumber_9 : decode cX8_takeNumber 9 = .ok (.i2l, 1) := by decide +kernel
theorem dX8_takeNumber_10 : decode cX8_takeNumber 10 = .ok (.iload_n 1, 1) := by decide +kernel
theorem dX8_takeNumber_11 : decode cX8_takeNumber 11 = .ok (.i2l, 1) := by decide +kernel
theorem dX8_takeNumber_12 : decode cX8_takeNumber 12 = .ok (.ldc2_w 191, 3) := by decide +kernel
theorem dX8_takeNumber_15 : decode cX8_takeNumber 15 = .ok (.invokestatic 38, 3) := by decide +kernel
theorem dX8_takeNumber_18 : decode cX8_takeNumber 18 = .ok (.ifCond .ne 10, 3) := by decide +kernel
theorem dX8_takeNumber_21 : decode cX8_takeNumber 21 = .ok (.aload_n 0, 1) := by decide +kernel
theorem dX8_takeNumber_22 : decode cX8_takeNumber 22 = .ok (.iconst 1, 1) := by decide +kernel
theorem dX8_takeNumber_23 : decode cX8_takeNumber 23 = .ok (.putfield 193, 3) := by decide +kernel
theorem dX8_takeNumber_26 : decode cX8_takeNumber 26 = .ok (.iconst 0, 1) := by decide +kernel
theorem dX8_takeNumber_27 : decode cX8_takeNumber 27 = .ok (.ireturn, 1) := by decide +kernel
theorem dX8_takeNumber_28 : decode cX8_takeNumber 28 = .ok (.aload_n 0, 1) := by decide +kernel
theorem dX8_takeNumber_29 : decode cX8_takeNumber 29 = .ok (.dup, 1) := by decide +kernel
theorem dX8_takeNumber_30 : decode cX8_takeNumber 30 = .ok (.getfield 184, 3) := by decide +kernel
theorem dX8_takeNumber_33 : decode cX8_takeNumber 33 = .ok (.iconst 1, 1) := by decide +kernel
theorem dX8_takeNumber_34 : decode cX8_takeNumber 34 = .ok (.iadd, 1) := by decide +kernel
theorem dX8_takeNumber_35 : decode cX8_takeNumber 35 = .ok (.putfield 184, 3) := by decide +kernel
theorem dX8_takeNumber_38 : decode cX8_takeNumber 38 = .ok (.iload_n 3, 1) := by decide +kernel
theorem dX8_takeNumber_39 : decode cX8_takeNumber 39 = .ok (.ifCond .le 62, 3) := by decide +kernel
theorem dX8_takeNumber_42 : decode cX8_takeNumber 42 = .ok (.aload_n 0, 1) := by decide +kernel
theorem dX8_takeNumber_43 : decode cX8_takeNumber 43 = .ok (.invokevirtual 187, 3) := by decide +kernel
theorem dX8_takeNumber_46 : decode cX8_takeNumber 46 = .ok (.i2l, 1) := by decide +kernel
theorem dX8_takeNumber_47 : decode cX8_takeNumber 47 = .ok (.ldc2_w 196, 3) := by decide +kernel
theorem dX8_takeNumber_50 : decode cX8_takeNumber 50 = .ok (.ldc2_w 198, 3) := by decide +kernel
theorem dX8_takeNumber_53 : decode cX8_takeNumber 53 = .ok (.invokestatic 38, 3) := by decide +kernel
theorem dX8_takeNumber_56 : decode cX8_takeNumber 56 = .ok (.ifCond .eq 45, 3) := by decide +kernel
theorem dX8_takeNumber_59 : decode cX8_takeNumber 59 = .ok (.bipush 10, 2) := by decide +kernel
theorem dX8_takeNumber_61 : decode cX8_takeNumber 61 = .ok (.iload_n 3, 1) := by decide +kernel
theorem dX8_takeNumber_62 : decode cX8_takeNumber 62 = .ok (.imul, 1) := by decide +kernel
theorem dX8_takeNumber_63 : decode cX8_takeNumber 63 = .ok (.aload_n 0, 1) := by decide +kernel
theorem dX8_takeNumber_64 : decode cX8_takeNumber 64 = .ok (.invokevirtual 187, 3) := by decide +kernel
theorem dX8_takeNumber_67 : decode cX8_takeNumber 67 = .ok (.iadd, 1) := by decide +kernel
theorem dX8_takeNumber_68 : decode cX8_takeNumber 68 = .ok (.bipush 48, 2) := by decide +kernel
theorem dX8_takeNumber_70 : decode cX8_takeNumber 70 = .ok (.isub, 1) := by decide +kernel
theorem dX8_takeNumber_71 : decode cX8_takeNumber 71 = .ok (.iload_n 2, 1) := by decide +kernel
theorem dX8_takeNumber_72 : decode cX8_takeNumber 72 = .ok (.if_icmp .gt 29, 3) := by decide +kernel
theorem dX8_takeNumber_75 : decode cX8_takeNumber 75 = .ok (.bipush 10, 2) := by decide +kernel
theorem dX8_takeNumber_77 : decode cX8_takeNumber 77 = .ok (.iload_n 3, 1) := by decide +kernel
theorem dX8_takeNumber_78 : decode cX8_takeNumber 78 = .ok (.imul, 1) := by decide +kernel
theorem dX8_takeNumber_79 : decode cX8_takeNumber 79 = .ok (.aload_n 0, 1) := by decide +kernel
theorem dX8_takeNumber_80 : decode cX8_takeNumber 80 = .ok (.invokevirtual 187, 3) := by decide +kernel
theorem dX8_takeNumber_83 : decode cX8_takeNumber 83 = .ok (.iadd, 1) := by decide +kernel
theorem dX8_takeNumber_84 : decode cX8_takeNumber 84 = .ok (.bipush 48, 2) := by decide +kernel
theorem dX8_takeNumber_86 : decode cX8_takeNumber 86 = .ok (.isub, 1) := by decide +kernel
theorem dX8_takeNumber_87 : decode cX8_takeNumber 87 = .ok (.istore_n 3, 1) := by decide +kernel
theorem dX8_takeNumber_88 : decode cX8_takeNumber 88 = .ok (.aload_n 0, 1) := by decide +kernel
theorem dX8_takeNumber_89 : decode cX8_takeNumber 89 = .ok (.dup, 1) := by decide +kernel
theorem dX8_takeNumber_90 : decode cX8_takeNumber 90 = .ok (.getfield 184, 3) := by decide +kernel
theorem dX8_takeNumber_93 : decode cX8_takeNumber 93 = .ok (.iconst 1, 1) := by decide +kernel
theorem dX8_takeNumber_94 : decode cX8_takeNumber 94 = .ok (.iadd, 1) := by decide +kernel
theorem dX8_takeNumber_95 : decode cX8_takeNumber 95 = .ok (.putfield 184, 3) := by decide +kernel
theorem dX8_takeNumber_98 : decode cX8_takeNumber 98 = .ok (.goto (-60), 3) := by decide +kernel
theorem dX8_takeNumber_101 : decode cX8_takeNumber 101 = .ok (.iload_n 3, 1) := by decide +kernel
theorem dX8_takeNumber_102 : decode cX8_takeNumber 102 = .ok (.ireturn, 1) := by decide +kernel
abbrev csX8_takeLevel : List (List Cond) := [[.code yX8_takeLevel cX8_takeLevel 3 (some .int)], [.fieldLink RX8 184 "SlopeMeterModel" "reading" "I", .constant RX8 170 (3000000), .methodLink RX8 187 yX8_nextSign, .instanceMethod yX8_nextSign, .selects RX8 yX8_nextSign yX8_nextSign, .initialized RX8, .code yX8_nextSign cX8_nextSign 1 (some .int), .fieldLink RX8 180 "SlopeMeterModel" "padMany" "I", .fieldLink RX8 23 "SlopeMeterModel" "pad" "[I", .methodLink RX8 200 yX8_takeNumber, .instanceMethod yX8_takeNumber, .selects RX8 yX8_takeNumber yX8_takeNumber, .code yX8_takeNumber cX8_takeNumber 4 (some .int), .constantLong RX8 191 (9), .fieldLink RX8 193 "SlopeMeterModel" "isWrong" "Z", .constantLong RX8 196 (48), .constantLong RX8 198 (57), .methodLink RX8 38 yX8_in, .static yX8_in, .code yX8_in cX8_in 6 (some .boolean)], wsX80]
set_option maxRecDepth 20000 in
theorem hbX8_takeLevel : wsX8_takeLevel = csX8_takeLevel.flatten := rfl
set_option maxRecDepth 20000 in
theorem ggX8_takeLevel_X8_nextSign : GoodIn wsX8_takeLevel wsX8_nextSign := goodIn_c csX8_takeLevel hbX8_takeLevel _ [(1, 6), (1, 0), (1, 7), (1, 8), (2, 0), (2, 1), (2, 2), (2, 3), (2, 4), (2, 5), (2, 6), (2, 7), (2, 8), (2, 9), (2, 10), (2, 11)] rfl (by decide +kernel)
set_option maxRecDepth 20000 in
theorem gX8_takeLevel_X8_nextSign : GoodIn wsX8_takeLevel (wsV RX8 187 RX8 yX8_nextSign wsX8_nextSign) := goodIn_app (goodIn_c csX8_takeLevel hbX8_takeLevel [.methodLink RX8 187 yX8_nextSign, .instanceMethod yX8_nextSign, .selects RX8 yX8_nextSign yX8_nextSign, .initialized RX8] [(1, 2), (1, 3), (1, 4), (1, 5)] rfl (by decide +kernel)) ggX8_takeLevel_X8_nextSign
set_option maxRecDepth 20000 in
theorem ggX8_takeLevel_X8_takeNumber : GoodIn wsX8_takeLevel wsX8_takeNumber := goodIn_c csX8_takeLevel hbX8_takeLevel _ [(1, 12), (1, 13), (1, 14), (1, 0), (1, 15), (1, 16), (1, 2), (1, 3), (1, 4), (1, 5), (1, 6), (1, 7), (1, 8), (1, 17), (1, 18), (1, 19), (2, 0), (2, 1), (2, 2), (2, 3), (2, 4), (2, 5), (2, 6), (2, 7), (2, 8), (2, 9), (2, 10), (2, 11)] rfl (by decide +kernel)
set_option maxRecDepth 20000 in
theorem gX8_takeLevel_X8_takeNumber : GoodIn wsX8_takeLevel (wsV RX8 200 RX8 yX8_takeNumber wsX8_takeNumber) := goodIn_app (goodIn_c csX8_takeLevel hbX8_takeLevel [.methodLink RX8 200 yX8_takeNumber, .instanceMethod yX8_takeNumber, .selects RX8 yX8_takeNumber yX8_takeNumber, .initialized RX8] [(1, 9), (1, 10), (1, 11), (1, 5)] rfl (by decide +kernel)) ggX8_takeLevel_X8_takeNumber
theorem dX8_takeLevel_0 : decode cX8_takeLevel 0 = .ok (.aload_n 0, 1) := by decide +kernel
theorem dX8_takeLevel_1 : decode cX8_takeLevel 1 = .ok (.invokevirtual 187, 3) := by decide +kernel
theorem dX8_takeLevel_4 : decode cX8_takeLevel 4 = .ok (.bipush 45, 2) := by decide +kernel
theorem dX8_takeLevel_6 : decode cX8_takeLevel 6 = .ok (.if_icmp .ne 7, 3) := by decide +kernel
theorem dX8_takeLevel_9 : decode cX8_takeLevel 9 = .ok (.iconst 1, 1) := by decide +kernel
theorem dX8_takeLevel_10 : decode cX8_takeLevel 10 = .ok (.goto 4, 3) := by decide +kernel
theorem dX8_takeLevel_13 : decode cX8_takeLevel 13 = .ok (.iconst 0, 1) := by decide +kernel
theorem dX8_takeLevel_14 : decode cX8_takeLevel 14 = .ok (.istore_n 1, 1) := by decide +kernel
theorem dX8_takeLevel_15 : decode cX8_takeLevel 15 = .ok (.aload_n 0, 1) := by decide +kernel
theorem dX8_takeLevel_16 : decode cX8_takeLevel 16 = .ok (.dup, 1) := by decide +kernel
theorem dX8_takeLevel_17 : decode cX8_takeLevel 17 = .ok (.getfield 184, 3) := by decide +kernel
theorem dX8_takeLevel_20 : decode cX8_takeLevel 20 = .ok (.iload_n 1, 1) := by decide +kernel
theorem dX8_takeLevel_21 : decode cX8_takeLevel 21 = .ok (.ifCond .eq 7, 3) := by decide +kernel
theorem dX8_takeLevel_24 : decode cX8_takeLevel 24 = .ok (.iconst 1, 1) := by decide +kernel
theorem dX8_takeLevel_25 : decode cX8_takeLevel 25 = .ok (.goto 4, 3) := by decide +kernel
theorem dX8_takeLevel_28 : decode cX8_takeLevel 28 = .ok (.iconst 0, 1) := by decide +kernel
theorem dX8_takeLevel_29 : decode cX8_takeLevel 29 = .ok (.iadd, 1) := by decide +kernel
theorem dX8_takeLevel_30 : decode cX8_takeLevel 30 = .ok (.putfield 184, 3) := by decide +kernel
theorem dX8_takeLevel_33 : decode cX8_takeLevel 33 = .ok (.aload_n 0, 1) := by decide +kernel
theorem dX8_takeLevel_34 : decode cX8_takeLevel 34 = .ok (.iconst 0, 1) := by decide +kernel
theorem dX8_takeLevel_35 : decode cX8_takeLevel 35 = .ok (.ldc 170, 2) := by decide +kernel
theorem dX8_takeLevel_37 : decode cX8_takeLevel 37 = .ok (.invokevirtual 200, 3) := by decide +kernel
theorem dX8_takeLevel_40 : decode cX8_takeLevel 40 = .ok (.istore_n 2, 1) := by decide +kernel
theorem dX8_takeLevel_41 : decode cX8_takeLevel 41 = .ok (.iload_n 1, 1) := by decide +kernel
theorem dX8_takeLevel_42 : decode cX8_takeLevel 42 = .ok (.ifCond .eq 8, 3) := by decide +kernel
theorem dX8_takeLevel_45 : decode cX8_takeLevel 45 = .ok (.iload_n 2, 1) := by decide +kernel
theorem dX8_takeLevel_46 : decode cX8_takeLevel 46 = .ok (.ineg, 1) := by decide +kernel
theorem dX8_takeLevel_47 : decode cX8_takeLevel 47 = .ok (.goto 4, 3) := by decide +kernel
theorem dX8_takeLevel_50 : decode cX8_takeLevel 50 = .ok (.iload_n 2, 1) := by decide +kernel
theorem dX8_takeLevel_51 : decode cX8_takeLevel 51 = .ok (.ireturn, 1) := by decide +kernel
abbrev csX8_takeRange : List (List Cond) := [[.code yX8_takeRange cX8_takeRange 2 (some .int)], [.constantLong RX8 69 (3), .fieldLink RX8 193 "SlopeMeterModel" "isWrong" "Z", .fieldLink RX8 184 "SlopeMeterModel" "reading" "I", .methodLink RX8 187 yX8_nextSign, .instanceMethod yX8_nextSign, .selects RX8 yX8_nextSign yX8_nextSign, .initialized RX8, .code yX8_nextSign cX8_nextSign 1 (some .int), .fieldLink RX8 180 "SlopeMeterModel" "padMany" "I", .fieldLink RX8 23 "SlopeMeterModel" "pad" "[I", .methodLink RX8 38 yX8_in, .static yX8_in, .code yX8_in cX8_in 6 (some .boolean)], wsX80]
set_option maxRecDepth 20000 in
theorem hbX8_takeRange : wsX8_takeRange = csX8_takeRange.flatten := rfl
set_option maxRecDepth 20000 in
theorem ggX8_takeRange_X8_nextSign : GoodIn wsX8_takeRange wsX8_nextSign := goodIn_c csX8_takeRange hbX8_takeRange _ [(1, 7), (1, 2), (1, 8), (1, 9), (2, 0), (2, 1), (2, 2), (2, 3), (2, 4), (2, 5), (2, 6), (2, 7), (2, 8), (2, 9), (2, 10), (2, 11)] rfl (by decide +kernel)
set_option maxRecDepth 20000 in
theorem gX8_takeRange_X8_nextSign : GoodIn wsX8_takeRange (wsV RX8 187 RX8 yX8_nextSign wsX8_nextSign) := goodIn_app (goodIn_c csX8_takeRange hbX8_takeRange [.methodLink RX8 187 yX8_nextSign, .instanceMethod yX8_nextSign, .selects RX8 yX8_nextSign yX8_nextSign, .initialized RX8] [(1, 3), (1, 4), (1, 5), (1, 6)] rfl (by decide +kernel)) ggX8_takeRange_X8_nextSign
set_option maxRecDepth 20000 in
theorem ggX8_takeRange_X8_in : GoodIn wsX8_takeRange wsX8_in := goodIn_c csX8_takeRange hbX8_takeRange _ [(1, 12)] rfl (by decide +kernel)
set_option maxRecDepth 20000 in
theorem gX8_takeRange_X8_in : GoodIn wsX8_takeRange (va_wsS RX8 38 yX8_in wsX8_in) := goodIn_app (goodIn_c csX8_takeRange hbX8_takeRange [.methodLink RX8 38 yX8_in, .static yX8_in, .initialized yX8_in.cls] [(1, 10), (1, 11), (1, 6)] rfl (by decide +kernel)) ggX8_takeRange_X8_in
theorem dX8_takeRange_0 : decode cX8_takeRange 0 = .ok (.aload_n 0, 1) := by decide +kernel
theorem dX8_takeRange_1 : decode cX8_takeRange 1 = .ok (.invokevirtual 187, 3) := by decide +kernel
theorem dX8_takeRange_4 : decode cX8_takeRange 4 = .ok (.bipush 48, 2) := by decide +kernel
theorem dX8_takeRange_6 : decode cX8_takeRange 6 = .ok (.isub, 1) := by decide +kernel
theorem dX8_takeRange_7 : decode cX8_takeRange 7 = .ok (.istore_n 1, 1) := by decide +kernel
theorem dX8_takeRange_8 : decode cX8_takeRange 8 = .ok (.iload_n 1, 1) := by decide +kernel
theorem dX8_takeRange_9 : decode cX8_takeRange 9 = .ok (.i2l, 1) := by decide +kernel
theorem dX8_takeRange_10 : decode cX8_takeRange 10 = .ok (.lconst 0, 1) := by decide +kernel
theorem dX8_takeRange_11 : decode cX8_takeRange 11 = .ok (.ldc2_w 69, 3) := by decide +kernel
theorem dX8_takeRange_14 : decode cX8_takeRange 14 = .ok (.invokestatic 38, 3) := by decide +kernel
theorem dX8_takeRange_17 : decode cX8_takeRange 17 = .ok (.ifCond .ne 10, 3) := by decide +kernel
theorem dX8_takeRange_20 : decode cX8_takeRange 20 = .ok (.aload_n 0, 1) := by decide +kernel
theorem dX8_takeRange_21 : decode cX8_takeRange 21 = .ok (.iconst 1, 1) := by decide +kernel
theorem dX8_takeRange_22 : decode cX8_takeRange 22 = .ok (.putfield 193, 3) := by decide +kernel
theorem dX8_takeRange_25 : decode cX8_takeRange 25 = .ok (.iconst 0, 1) := by decide +kernel
theorem dX8_takeRange_26 : decode cX8_takeRange 26 = .ok (.ireturn, 1) := by decide +kernel
theorem dX8_takeRange_27 : decode cX8_takeRange 27 = .ok (.aload_n 0, 1) := by decide +kernel
theorem dX8_takeRange_28 : decode cX8_takeRange 28 = .ok (.dup, 1) := by decide +kernel
theorem dX8_takeRange_29 : decode cX8_takeRange 29 = .ok (.getfield 184, 3) := by decide +kernel
theorem dX8_takeRange_32 : decode cX8_takeRange 32 = .ok (.iconst 1, 1) := by decide +kernel
theorem dX8_takeRange_33 : decode cX8_takeRange 33 = .ok (.iadd, 1) := by decide +kernel
theorem dX8_takeRange_34 : decode cX8_takeRange 34 = .ok (.putfield 184, 3) := by decide +kernel
theorem dX8_takeRange_37 : decode cX8_takeRange 37 = .ok (.iload_n 1, 1) := by decide +kernel
theorem dX8_takeRange_38 : decode cX8_takeRange 38 = .ok (.ireturn, 1) := by decide +kernel
abbrev csX8_readStep : List (List Cond) := [[.code yX8_readStep cX8_readStep 3 none], wsX8_readStep_r1, wsX8_readStep_r2, wsX80]
set_option maxRecDepth 20000 in
theorem hbX8_readStep : wsX8_readStep = csX8_readStep.flatten := rfl
set_option maxRecDepth 20000 in
theorem ggX8_readStep_X8_nextSign : GoodIn wsX8_readStep wsX8_nextSign := goodIn_c csX8_readStep hbX8_readStep _ [(1, 10), (1, 1), (1, 11), (1, 12), (3, 0), (3, 1), (3, 2), (3, 3), (3, 4), (3, 5), (3, 6), (3, 7), (3, 8), (3, 9), (3, 10), (3, 11)] rfl (by decide +kernel)
set_option maxRecDepth 20000 in
theorem gX8_readStep_X8_nextSign : GoodIn wsX8_readStep (wsV RX8 187 RX8 yX8_nextSign wsX8_nextSign) := goodIn_app (goodIn_c csX8_readStep hbX8_readStep [.methodLink RX8 187 yX8_nextSign, .instanceMethod yX8_nextSign, .selects RX8 yX8_nextSign yX8_nextSign, .initialized RX8] [(1, 6), (1, 7), (1, 8), (1, 9)] rfl (by decide +kernel)) ggX8_readStep_X8_nextSign
set_option maxRecDepth 20000 in
theorem ggX8_readStep_X8_in : GoodIn wsX8_readStep wsX8_in := goodIn_c csX8_readStep hbX8_readStep _ [(1, 15)] rfl (by decide +kernel)
set_option maxRecDepth 20000 in
theorem gX8_readStep_X8_in : GoodIn wsX8_readStep (va_wsS RX8 38 yX8_in wsX8_in) := goodIn_app (goodIn_c csX8_readStep hbX8_readStep [.methodLink RX8 38 yX8_in, .static yX8_in, .initialized yX8_in.cls] [(1, 13), (1, 14), (1, 9)] rfl (by decide +kernel)) ggX8_readStep_X8_in
set_option maxRecDepth 20000 in
theorem ggX8_readStep_X8_takeNumber : GoodIn wsX8_readStep wsX8_takeNumber := goodIn_c csX8_readStep hbX8_readStep _ [(1, 19), (1, 20), (1, 0), (1, 1), (1, 21), (1, 3), (1, 6), (1, 7), (1, 8), (1, 9), (1, 10), (1, 11), (1, 12), (1, 13), (1, 14), (1, 15), (3, 0), (3, 1), (3, 2), (3, 3), (3, 4), (3, 5), (3, 6), (3, 7), (3, 8), (3, 9), (3, 10), (3, 11)] rfl (by decide +kernel)
set_option maxRecDepth 20000 in
theorem gX8_readStep_X8_takeNumber : GoodIn wsX8_readStep (wsV RX8 200 RX8 yX8_takeNumber wsX8_takeNumber) := goodIn_app (goodIn_c csX8_readStep hbX8_readStep [.methodLink RX8 200 yX8_takeNumber, .instanceMethod yX8_takeNumber, .selects RX8 yX8_takeNumber yX8_takeNumber, .initialized RX8] [(1, 16), (1, 17), (1, 18), (1, 9)] rfl (by decide +kernel)) ggX8_readStep_X8_takeNumber
set_option maxRecDepth 20000 in
theorem ggX8_readStep_X8_takeLevel : GoodIn wsX8_readStep wsX8_takeLevel := goodIn_c csX8_readStep hbX8_readStep _ [(2, 1), (1, 1), (2, 2), (1, 6), (1, 7), (1, 8), (1, 9), (1, 10), (1, 11), (1, 12), (1, 16), (1, 17), (1, 18), (1, 19), (1, 20), (1, 0), (1, 21), (1, 3), (1, 13), (1, 14), (1, 15), (3, 0), (3, 1), (3, 2), (3, 3), (3, 4), (3, 5), (3, 6), (3, 7), (3, 8), (3, 9), (3, 10), (3, 11)] rfl (by decide +kernel)
set_option maxRecDepth 20000 in
theorem gX8_readStep_X8_takeLevel : GoodIn wsX8_readStep (wsV RX8 206 RX8 yX8_takeLevel wsX8_takeLevel) := goodIn_app (goodIn_c csX8_readStep hbX8_readStep [.methodLink RX8 206 yX8_takeLevel, .instanceMethod yX8_takeLevel, .selects RX8 yX8_takeLevel yX8_takeLevel, .initialized RX8] [(1, 22), (1, 23), (2, 0), (1, 9)] rfl (by decide +kernel)) ggX8_readStep_X8_takeLevel
set_option maxRecDepth 20000 in
theorem ggX8_readStep_X8_takeRange : GoodIn wsX8_readStep wsX8_takeRange := goodIn_c csX8_readStep hbX8_readStep _ [(2, 6), (2, 7), (1, 0), (1, 1), (1, 6), (1, 7), (1, 8), (1, 9), (1, 10), (1, 11), (1, 12), (1, 13), (1, 14), (1, 15), (3, 0), (3, 1), (3, 2), (3, 3), (3, 4), (3, 5), (3, 6), (3, 7), (3, 8), (3, 9), (3, 10), (3, 11)] rfl (by decide +kernel)
set_option maxRecDepth 20000 in
theorem gX8_readStep_X8_takeRange : GoodIn wsX8_readStep (wsV RX8 209 RX8 yX8_takeRange wsX8_takeRange) := goodIn_app (goodIn_c csX8_readStep hbX8_readStep [.methodLink RX8 209 yX8_takeRange, .instanceMethod yX8_takeRange, .selects RX8 yX8_takeRange yX8_takeRange, .initialized RX8] [(2, 3), (2, 4), (2, 5), (1, 9)] rfl (by decide +kernel)) ggX8_readStep_X8_takeRange
theorem dX8_readStep_0 : decode cX8_readStep 0 = .ok (.aload_n 0, 1) := by decide +kernel
theorem dX8_readStep_1 : decode cX8_readStep 1 = .ok (.invokevirtual 187, 3) := by decide +kernel
theorem dX8_readStep_4 : decode cX8_readStep 4 = .ok (.istore_n 1, 1) := by decide +kernel
theorem dX8_readStep_5 : decode cX8_readStep 5 = .ok (.iload_n 1, 1) := by decide +kernel
theorem dX8_readStep_6 : decode cX8_readStep 6 = .ok (.bipush 114, 2) := by decide +kernel
theorem dX8_readStep_8 : decode cX8_readStep 8 = .ok (.if_icmp .eq 33, 3) := by decide +kernel
theorem dX8_readStep_11 : decode cX8_readStep 11 = .ok (.iload_n 1, 1) := by decide +kernel
theorem dX8_readStep_12 : decode cX8_readStep 12 = .ok (.bipush 122, 2) := by decide +kernel
theorem dX8_readStep_14 : decode cX8_readStep 14 = .ok (.if_icmp .eq 27, 3) := by decide +kernel
theorem dX8_readStep_17 : decode cX8_readStep 17 = .ok (.iload_n 1, 1) := by decide +kernel
theorem dX8_readStep_18 : decode cX8_readStep 18 = .ok (.bipush 119, 2) := by decide +kernel
theorem dX8_readStep_20 : decode cX8_readStep 20 = .ok (.if_icmp .eq 21, 3) := by decide +kernel
theorem dX8_readStep_23 : decode cX8_readStep 23 = .ok (.iload_n 1, 1) := by decide +kernel
theorem dX8_readStep_24 : decode cX8_readStep 24 = .ok (.bipush 108, 2) := by decide +kernel
theorem dX8_readStep_26 : decode cX8_readStep 26 = .ok (.if_icmp .eq 15, 3) := by decide +kernel
theorem dX8_readStep_29 : decode cX8_readStep 29 = .ok (.iload_n 1, 1) := by decide +kernel
theorem dX8_readStep_30 : decode cX8_readStep 30 = .ok (.bipush 103, 2) := by decide +kernel
theorem dX8_readStep_32 : decode cX8_readStep 32 = .ok (.if_icmp .eq 9, 3) := by decide +kernel
theorem dX8_readStep_35 : decode cX8_readStep 35 = .ok (.aload_n 0, 1) := by decide +kernel
theorem dX8_readStep_36 : decode cX8_readStep 36 = .ok (.iconst 1, 1) := by decide +kernel
theorem dX8_readStep_37 : decode cX8_readStep 37 = .ok (.putfield 193, 3) := by decide +kernel
theorem dX8_readStep_40 : decode cX8_readStep 40 = .ok (.return_, 1) := by decide +kernel
theorem dX8_readStep_41 : decode cX8_readStep 41 = .ok (.aload_n 0, 1) := by decide +kernel
theorem dX8_readStep_42 : decode cX8_readStep 42 = .ok (.dup, 1) := by decide +kernel
theorem dX8_readStep_43 : decode cX8_readStep 43 = .ok (.getfield 184, 3) := by decide +kernel
theorem dX8_readStep_46 : decode cX8_readStep 46 = .ok (.iconst 1, 1) := by decide +kernel
theorem dX8_readStep_47 : decode cX8_readStep 47 = .ok (.iadd, 1) := by decide +kernel
theorem dX8_readStep_48 : decode cX8_readStep 48 = .ok (.putfield 184, 3) := by decide +kernel
theorem dX8_readStep_51 : decode cX8_readStep 51 = .ok (.iconst 0, 1) := by decide +kernel
theorem dX8_readStep_52 : decode cX8_readStep 52 = .ok (.istore_n 2, 1) := by decide +kernel
theorem dX8_readStep_53 : decode cX8_readStep 53 = .ok (.iload_n 1, 1) := by decide +kernel
theorem dX8_readStep_54 : decode cX8_readStep 54 = .ok (.lookupswitch 102 #[(103, 94), (108, 86), (114, 42), (119, 74)], 42) := by decide +kernel
theorem dX8_readStep_96 : decode cX8_readStep 96 = .ok (.aload_n 0, 1) := by decide +kernel
theorem dX8_readStep_97 : decode cX8_readStep 97 = .ok (.invokevirtual 187, 3) := by decide +kernel
theorem dX8_readStep_100 : decode cX8_readStep 100 = .ok (.i2l, 1) := by decide +kernel
theorem dX8_readStep_101 : decode cX8_readStep 101 = .ok (.ldc2_w 204, 3) := by decide +kernel
theorem dX8_readStep_104 : decode cX8_readStep 104 = .ok (.ldc2_w 198, 3) := by decide +kernel
theorem dX8_readStep_107 : decode cX8_readStep 107 = .ok (.invokestatic 38, 3) := by decide +kernel
theorem dX8_readStep_110 : decode cX8_readStep 110 = .ok (.ifCond .eq 13, 3) := by decide +kernel
theorem dX8_readStep_113 : decode cX8_readStep 113 = .ok (.aload_n 0, 1) := by decide +kernel
theorem dX8_readStep_114 : decode cX8_readStep 114 = .ok (.iconst 1, 1) := by decide +kernel
theorem dX8_readStep_115 : decode cX8_readStep 115 = .ok (.bipush 99, 2) := by decide +kernel
theorem dX8_readStep_117 : decode cX8_readStep 117 = .ok (.invokevirtual 200, 3) := by decide +kernel
theorem dX8_readStep_120 : decode cX8_readStep 120 = .ok (.goto 4, 3) := by decide +kernel
theorem dX8_readStep_123 : decode cX8_readStep 123 = .ok (.iconst 1, 1) := by decide +kernel
theorem dX8_readStep_124 : decode cX8_readStep 124 = .ok (.istore_n 2, 1) := by decide +kernel
theorem dX8_readStep_125 : decode cX8_readStep 125 = .ok (.goto 31, 3) := by decide +kernel
theorem dX8_readStep_128 : decode cX8_readStep 128 = .ok (.aload_n 0, 1) := by decide +kernel
theorem dX8_readStep_129 : decode cX8_readStep 129 = .ok (.iconst 1, 1) := by decide +kernel
theorem dX8_readStep_130 : decode cX8_readStep 130 = .ok (.sipush 9999, 3) := by decide +kernel
theorem dX8_readStep_133 : decode cX8_readStep 133 = .ok (.invokevirtual 200, 3) := by decide +kernel
theorem dX8_readStep_136 : decode cX8_readStep 136 = .ok (.istore_n 2, 1) := by decide +kernel
theorem dX8_readStep_137 : decode cX8_readStep 137 = .ok (.goto 19, 3) := by decide +kernel
theorem dX8_readStep_140 : decode cX8_readStep 140 = .ok (.aload_n 0, 1) := by decide +kernel
theorem dX8_readStep_141 : decode cX8_readStep 141 = .ok (.invokevirtual 206, 3) := by decide +kernel
theorem dX8_readStep_144 : decode cX8_readStep 144 = .ok (.istore_n 2, 1) := by decide +kernel
theorem dX8_readStep_145 : decode cX8_readStep 145 = .ok (.goto 11, 3) := by decide +kernel
theorem dX8_readStep_148 : decode cX8_readStep 148 = .ok (.aload_n 0, 1) := by decide +kernel
theorem dX8_readStep_149 : decode cX8_readStep 149 = .ok (.invokevirtual 209, 3) := by decide +kernel
theorem dX8_readStep_152 : decode cX8_readStep 152 = .ok (.istore_n 2, 1) := by decide +kernel
theorem dX8_readStep_153 : decode cX8_readStep 153 = .ok (.goto 3, 3) := by decide +kernel
theorem dX8_readStep_156 : decode cX8_readStep 156 = .ok (.aload_n 0, 1) := by decide +kernel
theorem dX8_readStep_157 : decode cX8_readStep 157 = .ok (.getfield 27, 3) := by decide +kernel
theorem dX8_readStep_160 : decode cX8_readStep 160 = .ok (.iconst 2, 1) := by decide +kernel
theorem dX8_readStep_161 : decode cX8_readStep 161 = .ok (.aload_n 0, 1) := by decide +kernel
theorem dX8_readStep_162 : decode cX8_readStep 162 = .ok (.getfield 212, 3) := by decide +kernel
theorem dX8_readStep_165 : decode cX8_readStep 165 = .ok (.imul, 1) := by decide +kernel
theorem dX8_readStep_166 : decode cX8_readStep 166 = .ok (.iload_n 1, 1) := by decide +kernel
theorem dX8_readStep_167 : decode cX8_readStep 167 = .ok (.iastore, 1) := by decide +kernel
theorem dX8_readStep_168 : decode cX8_readStep 168 = .ok (.aload_n 0, 1) := by decide +kernel
theorem dX8_readStep_169 : decode cX8_readStep 169 = .ok (.getfield 27, 3) := by decide +kernel
theorem dX8_readStep_172 : decode cX8_readStep 172 = .ok (.iconst 2, 1) := by decide +kernel
theorem dX8_readStep_173 : decode cX8_readStep 173 = .ok (.aload_n 0, 1) := by decide +kernel
theorem dX8_readStep_174 : decode cX8_readStep 174 = .ok (.getfield 212, 3) := by decide +kernel
theorem dX8_readStep_177 : decode cX8_readStep 177 = .ok (.imul, 1) := by decide +kernel
theorem dX8_readStep_178 : decode cX8_readStep 178 = .ok (.iconst 1, 1) := by decide +kernel
theorem dX8_readStep_179 : decode cX8_readStep 179 = .ok (.iadd, 1) := by decide +kernel
theorem dX8_readStep_180 : decode cX8_readStep 180 = .ok (.iload_n 2, 1) := by decide +kernel
theorem dX8_readStep_181 : decode cX8_readStep 181 = .ok (.iastore, 1) := by decide +kernel
theorem dX8_readStep_182 : decode cX8_readStep 182 = .ok (.aload_n 0, 1) := by decide +kernel
theorem dX8_readStep_183 : decode cX8_readStep 183 = .ok (.dup, 1) := by decide +kernel
theorem dX8_readStep_184 : decode cX8_readStep 184 = .ok (.getfield 212, 3) := by decide +kernel
theorem dX8_readStep_187 : decode cX8_readStep 187 = .ok (.iconst 1, 1) := by decide +kernel
theorem dX8_readStep_188 : decode cX8_readStep 188 = .ok (.iadd, 1) := by decide +kernel
theorem dX8_readStep_189 : decode cX8_readStep 189 = .ok (.putfield 212, 3) := by decide +kernel
theorem dX8_readStep_192 : decode cX8_readStep 192 = .ok (.return_, 1) := by decide +kernel
abbrev csX8_fault : List (List Cond) := [[.code yX8_fault cX8_fault 1 (some .int)], wsX8_fault_r1, wsX8_fault_r2, wsX80]
set_option maxRecDepth 20000 in
theorem hbX8_fault : wsX8_fault = csX8_fault.flatten := rfl
set_option maxRecDepth 20000 in
theorem ggX8_fault_X8_readStep : GoodIn wsX8_fault wsX8_readStep := goodIn_c csX8_fault hbX8_fault _ [(1, 8), (1, 1), (1, 0), (1, 9), (1, 10), (1, 11), (1, 2), (1, 12), (1, 13), (1, 14), (1, 7), (1, 15), (1, 3), (1, 16), (1, 17), (1, 18), (1, 19), (1, 20), (1, 21), (1, 22), (1, 23), (2, 0), (2, 1), (2, 2), (2, 3), (2, 4), (2, 5), (2, 6), (2, 7), (2, 8), (2, 9), (2, 10), (2, 11), (3, 0), (3, 1), (3, 2), (3, 3), (3, 4), (3, 5), (3, 6), (3, 7), (3, 8), (3, 9), (3, 10), (3, 11)] rfl (by decide +kernel)
set_option maxRecDepth 20000 in
theorem gX8_fault_X8_readStep : GoodIn wsX8_fault (wsV RX8 215 RX8 yX8_readStep wsX8_readStep) := goodIn_app (goodIn_c csX8_fault hbX8_fault [.methodLink RX8 215 yX8_readStep, .instanceMethod yX8_readStep, .selects RX8 yX8_readStep yX8_readStep, .initialized RX8] [(1, 4), (1, 5), (1, 6), (1, 7)] rfl (by decide +kernel)) ggX8_fault_X8_readStep
set_option maxRecDepth 20000 in
theorem ggX8_fault_X8_nextSign : GoodIn wsX8_fault wsX8_nextSign := goodIn_c csX8_fault hbX8_fault _ [(1, 15), (1, 0), (1, 3), (1, 16), (3, 0), (3, 1), (3, 2), (3, 3), (3, 4), (3, 5), (3, 6), (3, 7), (3, 8), (3, 9), (3, 10), (3, 11)] rfl (by decide +kernel)
set_option maxRecDepth 20000 in
theorem gX8_fault_X8_nextSign : GoodIn wsX8_fault (wsV RX8 187 RX8 yX8_nextSign wsX8_nextSign) := goodIn_app (goodIn_c csX8_fault hbX8_fault [.methodLink RX8 187 yX8_nextSign, .instanceMethod yX8_nextSign, .selects RX8 yX8_nextSign yX8_nextSign, .initialized RX8] [(1, 12), (1, 13), (1, 14), (1, 7)] rfl (by decide +kernel)) ggX8_fault_X8_nextSign
theorem dX8_fault_0 : decode cX8_fault 0 = .ok (.aload_n 0, 1) := by decide +kernel
theorem dX8_fault_1 : decode cX8_fault 1 = .ok (.iconst 0, 1) := by decide +kernel
theorem dX8_fault_2 : decode cX8_fault 2 = .ok (.putfield 184, 3) := by decide +kernel
theorem dX8_fault_5 : decode cX8_fault 5 = .ok (.aload_n 0, 1) := by decide +kernel
theorem dX8_fault_6 : decode cX8_fault 6 = .ok (.iconst 0, 1) := by decide +kernel
theorem dX8_fault_7 : decode cX8_fault 7 = .ok (.putfield 193, 3) := by decide +kernel
theorem dX8_fault_10 : decode cX8_fault 10 = .ok (.aload_n 0, 1) := by decide +kernel
theorem dX8_fault_11 : decode cX8_fault 11 = .ok (.iconst 0, 1) := by decide +kernel
theorem dX8_fault_12 : decode cX8_fault 12 = .ok (.putfield 212, 3) := by decide +kernel
theorem dX8_fault_15 : decode cX8_fault 15 = .ok (.aload_n 0, 1) := by decide +kernel
theorem dX8_fault_16 : decode cX8_fault 16 = .ok (.invokevirtual 215, 3) := by decide +kernel
theorem dX8_fault_19 : decode cX8_fault 19 = .ok (.aload_n 0, 1) := by decide +kernel
theorem dX8_fault_20 : decode cX8_fault 20 = .ok (.getfield 193, 3) := by decide +kernel
theorem dX8_fault_23 : decode cX8_fault 23 = .ok (.ifCond .ne 29, 3) := by decide +kernel
theorem dX8_fault_26 : decode cX8_fault 26 = .ok (.aload_n 0, 1) := by decide +kernel
theorem dX8_fault_27 : decode cX8_fault 27 = .ok (.invokevirtual 187, 3) := by decide +kernel
theorem dX8_fault_30 : decode cX8_fault 30 = .ok (.bipush 44, 2) := by decide +kernel
theorem dX8_fault_32 : decode cX8_fault 32 = .ok (.if_icmp .ne 20, 3) := by decide +kernel
theorem dX8_fault_35 : decode cX8_fault 35 = .ok (.aload_n 0, 1) := by decide +kernel
theorem dX8_fault_36 : decode cX8_fault 36 = .ok (.dup, 1) := by decide +kernel
theorem dX8_fault_37 : decode cX8_fault 37 = .ok (.getfield 184, 3) := by decide +kernel
theorem dX8_fault_40 : decode cX8_fault 40 = .ok (.iconst 1, 1) := by decide +kernel
theorem dX8_fault_41 : decode cX8_fault 41 = .ok (.iadd, 1) := by decide +kernel
theorem dX8_fault_42 : decode cX8_fault 42 = .ok (.putfield 184, 3) := by decide +kernel
theorem dX8_fault_45 : decode cX8_fault 45 = .ok (.aload_n 0, 1) := by decide +kernel
theorem dX8_fault_46 : decode cX8_fault 46 = .ok (.invokevirtual 215, 3) := by decide +kernel
theorem dX8_fault_49 : decode cX8_fault 49 = .ok (.goto (-30), 3) := by decide +kernel
theorem dX8_fault_52 : decode cX8_fault 52 = .ok (.aload_n 0, 1) := by decide +kernel
theorem dX8_fault_53 : decode cX8_fault 53 = .ok (.getfield 193, 3) := by decide +kernel
theorem dX8_fault_56 : decode cX8_fault 56 = .ok (.ifCond .ne 14, 3) := by decide +kernel
theorem dX8_fault_59 : decode cX8_fault 59 = .ok (.aload_n 0, 1) := by decide +kernel
theorem dX8_fault_60 : decode cX8_fault 60 = .ok (.getfield 184, 3) := by decide +kernel
theorem dX8_fault_63 : decode cX8_fault 63 = .ok (.aload_n 0, 1) := by decide +kernel
theorem dX8_fault_64 : decode cX8_fault 64 = .ok (.getfield 180, 3) := by decide +kernel
theorem dX8_fault_67 : decode cX8_fault 67 = .ok (.if_icmp .ge 10, 3) := by decide +kernel
theorem dX8_fault_70 : decode cX8_fault 70 = .ok (.aload_n 0, 1) := by decide +kernel
theorem dX8_fault_71 : decode cX8_fault 71 = .ok (.getfield 184, 3) := by decide +kernel
theorem dX8_fault_74 : decode cX8_fault 74 = .ok (.goto 5, 3) := by decide +kernel
theorem dX8_fault_77 : decode cX8_fault 77 = .ok (.bipush (-6), 2) := by decide +kernel
theorem dX8_fault_79 : decode cX8_fault 79 = .ok (.ireturn, 1) := by decide +kernel
theorem dX8_readingsOfSteps_0 : decode cX8_readingsOfSteps 0 = .ok (.iconst 0, 1) := by decide +kernel
theorem dX8_readingsOfSteps_1 : decode cX8_readingsOfSteps 1 = .ok (.istore_n 1, 1) := by decide +kernel
theorem dX8_readingsOfSteps_2 : decode cX8_readingsOfSteps 2 = .ok (.iconst 0, 1) := by decide +kernel
theorem dX8_readingsOfSteps_3 : decode cX8_readingsOfSteps 3 = .ok (.istore_n 2, 1) := by decide +kernel
theorem dX8_readingsOfSteps_4 : decode cX8_readingsOfSteps 4 = .ok (.iload_n 2, 1) := by decide +kernel
theorem dX8_readingsOfSteps_5 : decode cX8_readingsOfSteps 5 = .ok (.aload_n 0, 1) := by decide +kernel
theorem dX8_readingsOfSteps_6 : decode cX8_readingsOfSteps 6 = .ok (.getfield 212, 3) := by decide +kernel
theorem dX8_readingsOfSteps_9 : decode cX8_readingsOfSteps 9 = .ok (.if_icmp .ge 39, 3) := by decide +kernel
theorem dX8_readingsOfSteps_12 : decode cX8_readingsOfSteps 12 = .ok (.iload_n 1, 1) := by decide +kernel
theorem dX8_readingsOfSteps_13 : decode cX8_readingsOfSteps 13 = .ok (.aload_n 0, 1) := by decide +kernel
theorem dX8_readingsOfSteps_14 : decode cX8_readingsOfSteps 14 = .ok (.getfield 27, 3) := by decide +kernel
theorem dX8_readingsOfSteps_17 : decode cX8_readingsOfSteps 17 = .ok (.iconst 2, 1) := by decide +kernel
theorem dX8_readingsOfSteps_18 : decode cX8_readingsOfSteps 18 = .ok (.iload_n 2, 1) := by decide +kernel
theorem dX8_readingsOfSteps_19 : decode cX8_readingsOfSteps 19 = .ok (.imul, 1) := by decide +kernel
theorem dX8_readingsOfSteps_20 : decode cX8_readingsOfSteps 20 = .ok (.iaload, 1) := by decide +kernel
theorem dX8_readingsOfSteps_21 : decode cX8_readingsOfSteps 21 = .ok (.bipush 114, 2) := by decide +kernel
theorem dX8_readingsOfSteps_23 : decode cX8_readingsOfSteps 23 = .ok (.if_icmp .ne 16, 3) := by decide +kernel
theorem dX8_readingsOfSteps_26 : decode cX8_readingsOfSteps 26 = .ok (.aload_n 0, 1) := by decide +kernel
theorem dX8_readingsOfSteps_27 : decode cX8_readingsOfSteps 27 = .ok (.getfield 27, 3) := by decide +kernel
theorem dX8_readingsOfSteps_30 : decode cX8_readingsOfSteps 30 = .ok (.iconst 2, 1) := by decide +kernel
theorem dX8_readingsOfSteps_31 : decode cX8_readingsOfSteps 31 = .ok (.iload_n 2, 1) := by decide +kernel
theorem dX8_readingsOfSteps_32 : decode cX8_readingsOfSteps 32 = .ok (.imul, 1) := by decide +kernel
theorem dX8_readingsOfSteps_33 : decode cX8_readingsOfSteps 33 = .ok (.iconst 1, 1) := by decide +kernel
theorem dX8_readingsOfSteps_34 : decode cX8_readingsOfSteps 34 = .ok (.iadd, 1) := by decide +kernel
theorem dX8_readingsOfSteps_35 : decode cX8_readingsOfSteps 35 = .ok (.iaload, 1) := by decide +kernel
theorem dX8_readingsOfSteps_36 : decode cX8_readingsOfSteps 36 = .ok (.goto 4, 3) := by decide +kernel
theorem dX8_readingsOfSteps_39 : decode cX8_readingsOfSteps 39 = .ok (.iconst 0, 1) := by decide +kernel
theorem dX8_readingsOfSteps_40 : decode cX8_readingsOfSteps 40 = .ok (.iadd, 1) := by decide +kernel
theorem dX8_readingsOfSteps_41 : decode cX8_readingsOfSteps 41 = .ok (.istore_n 1, 1) := by decide +kernel
theorem dX8_readingsOfSteps_42 : decode cX8_readingsOfSteps 42 = .ok (.iinc 2 1, 3) := by decide +kernel
theorem dX8_readingsOfSteps_45 : decode cX8_readingsOfSteps 45 = .ok (.goto (-41), 3) := by decide +kernel
theorem dX8_readingsOfSteps_48 : decode cX8_readingsOfSteps 48 = .ok (.iload_n 1, 1) := by decide +kernel
theorem dX8_readingsOfSteps_49 : decode cX8_readingsOfSteps 49 = .ok (.ireturn, 1) := by decide +kernel
abbrev csX8_carriesOut : List (List Cond) := [[.code yX8_carriesOut cX8_carriesOut 4 (some .boolean)], wsX8_carriesOut_r1, wsX8_carriesOut_r2, wsX8_carriesOut_r3, wsX8_carriesOut_r4, wsX80]
set_option maxRecDepth 20000 in
theorem hbX8_carriesOut : wsX8_carriesOut = csX8_carriesOut.flatten := rfl
set_option maxRecDepth 20000 in
theorem ggX8_carriesOut_X8_makeReading : GoodIn wsX8_carriesOut wsX8_makeReading := goodIn_c csX8_carriesOut hbX8_carriesOut _ [(1, 5), (1, 0), (1, 6), (1, 7), (1, 8), (1, 9), (1, 10), (1, 11), (1, 4), (1, 12), (1, 13), (1, 14), (1, 15), (1, 16), (1, 17), (1, 18), (1, 19), (1, 20), (1, 21), (1, 22), (1, 23), (2, 0), (2, 1), (2, 2), (2, 3), (2, 4), (2, 5), (2, 6), (2, 7), (2, 8), (2, 9), (2, 10), (2, 11), (2, 12), (2, 13), (2, 14), (2, 15), (2, 16), (2, 17), (2, 18), (2, 19), (2, 20), (2, 21), (2, 22), (2, 23), (3, 0), (3, 1), (3, 2), (3, 3), (3, 4), (3, 5), (3, 6), (3, 7), (3, 8), (3, 9), (3, 10), (3, 11), (3, 12), (3, 13), (5, 0), (5, 1), (5, 2), (5, 3), (5, 4), (5, 5), (5, 6), (5, 7), (5, 8), (5, 9), (5, 10), (5, 11)] rfl (by decide +kernel)
set_option maxRecDepth 20000 in
theorem gX8_carriesOut_X8_makeReading : GoodIn wsX8_carriesOut (wsV RX8 142 RX8 yX8_makeReading wsX8_makeReading) := goodIn_app (goodIn_c csX8_carriesOut hbX8_carriesOut [.methodLink RX8 142 yX8_makeReading, .instanceMethod yX8_makeReading, .selects RX8 yX8_makeReading yX8_makeReading, .initialized RX8] [(1, 1), (1, 2), (1, 3), (1, 4)] rfl (by decide +kernel)) ggX8_carriesOut_X8_makeReading
set_option maxRecDepth 20000 in
theorem ggX8_carriesOut_X8_zero : GoodIn wsX8_carriesOut wsX8_zero := goodIn_c csX8_carriesOut hbX8_carriesOut _ [(3, 17), (1, 0), (3, 18), (1, 9), (1, 10), (1, 11), (1, 4), (1, 12), (1, 13), (1, 14), (1, 15), (1, 8), (1, 6), (1, 16), (1, 17), (1, 18), (1, 19), (1, 20), (1, 21), (1, 22), (1, 23), (2, 0), (2, 1), (2, 2), (2, 3), (2, 4), (2, 5), (2, 6), (2, 7), (2, 8), (2, 9), (2, 10), (2, 11), (2, 12), (2, 13), (2, 14), (2, 15), (2, 16), (2, 17), (2, 18), (2, 19), (2, 20), (2, 21), (2, 22), (2, 23), (3, 0), (3, 1), (3, 2), (3, 3), (3, 4), (3, 5), (3, 6), (3, 7), (3, 8), (5, 0), (5, 1), (5, 2), (5, 3), (5, 4), (5, 5), (5, 6), (5, 7), (5, 8), (5, 9), (5, 10), (5, 11)] rfl (by decide +kernel)
set_option maxRecDepth 20000 in
theorem gX8_carriesOut_X8_zero : GoodIn wsX8_carriesOut (wsV RX8 218 RX8 yX8_zero wsX8_zero) := goodIn_app (goodIn_c csX8_carriesOut hbX8_carriesOut [.methodLink RX8 218 yX8_zero, .instanceMethod yX8_zero, .selects RX8 yX8_zero yX8_zero, .initialized RX8] [(3, 14), (3, 15), (3, 16), (1, 4)] rfl (by decide +kernel)) ggX8_carriesOut_X8_zero
set_option maxRecDepth 20000 in
theorem ggX8_carriesOut_X8_pass : GoodIn wsX8_carriesOut wsX8_pass := goodIn_c csX8_carriesOut hbX8_carriesOut _ [(3, 22), (3, 23), (1, 0), (4, 0), (4, 1), (4, 2), (1, 4), (4, 3), (5, 0), (5, 1), (5, 2), (5, 3), (5, 4), (5, 5), (5, 6), (5, 7), (5, 8), (5, 9), (5, 10), (5, 11)] rfl (by decide +kernel)
set_option maxRecDepth 20000 in
theorem gX8_carriesOut_X8_pass : GoodIn wsX8_carriesOut (wsV RX8 221 RX8 yX8_pass wsX8_pass) := goodIn_app (goodIn_c csX8_carriesOut hbX8_carriesOut [.methodLink RX8 221 yX8_pass, .instanceMethod yX8_pass, .selects RX8 yX8_pass yX8_pass, .initialized RX8] [(3, 19), (3, 20), (3, 21), (1, 4)] rfl (by decide +kernel)) ggX8_carriesOut_X8_pass
theorem dX8_carriesOut_0 : decode cX8_carriesOut 0 = .ok (.iload_n 1, 1) := by decide +kernel
theorem dX8_carriesOut_1 : decode cX8_carriesOut 1 = .ok (.lookupswitch 94 #[(108, 84), (114, 43), (119, 70), (122, 63)], 43) := by decide +kernel
theorem dX8_carriesOut_44 : decode cX8_carriesOut 44 = .ok (.iconst 0, 1) := by decide +kernel
theorem dX8_carriesOut_45 : decode cX8_carriesOut 45 = .ok (.istore_n 3, 1) := by decide +kernel
theorem dX8_carriesOut_46 : decode cX8_carriesOut 46 = .ok (.iload_n 3, 1) := by decide +kernel
theorem dX8_carriesOut_47 : decode cX8_carriesOut 47 = .ok (.iload_n 2, 1) := by decide +kernel
theorem dX8_carriesOut_48 : decode cX8_carriesOut 48 = .ok (.if_icmp .ge 14, 3) := by decide +kernel
theorem dX8_carriesOut_51 : decode cX8_carriesOut 51 = .ok (.aload_n 0, 1) := by decide +kernel
theorem dX8_carriesOut_52 : decode cX8_carriesOut 52 = .ok (.invokevirtual 142, 3) := by decide +kernel
theorem dX8_carriesOut_55 : decode cX8_carriesOut 55 = .ok (.pop2, 1) := by decide +kernel
theorem dX8_carriesOut_56 : decode cX8_carriesOut 56 = .ok (.iinc 3 1, 3) := by decide +kernel
theorem dX8_carriesOut_59 : decode cX8_carriesOut 59 = .ok (.goto (-13), 3) := by decide +kernel
theorem dX8_carriesOut_62 : decode cX8_carriesOut 62 = .ok (.iconst 1, 1) := by decide +kernel
theorem dX8_carriesOut_63 : decode cX8_carriesOut 63 = .ok (.ireturn, 1) := by decide +kernel
theorem dX8_carriesOut_64 : decode cX8_carriesOut 64 = .ok (.aload_n 0, 1) := by decide +kernel
theorem dX8_carriesOut_65 : decode cX8_carriesOut 65 = .ok (.invokevirtual 218, 3) := by decide +kernel
theorem dX8_carriesOut_68 : decode cX8_carriesOut 68 = .ok (.pop, 1) := by decide +kernel
theorem dX8_carriesOut_69 : decode cX8_carriesOut 69 = .ok (.iconst 1, 1) := by decide +kernel
theorem dX8_carriesOut_70 : decode cX8_carriesOut 70 = .ok (.ireturn, 1) := by decide +kernel
theorem dX8_carriesOut_71 : decode cX8_carriesOut 71 = .ok (.aload_n 0, 1) := by decide +kernel
theorem dX8_carriesOut_72 : decode cX8_carriesOut 72 = .ok (.iload_n 2, 1) := by decide +kernel
theorem dX8_carriesOut_73 : decode cX8_carriesOut 73 = .ok (.invokevirtual 221, 3) := by decide +kernel
theorem dX8_carriesOut_76 : decode cX8_carriesOut 76 = .ok (.ifCond .lt 7, 3) := by decide +kernel
theorem dX8_carriesOut_79 : decode cX8_carriesOut 79 = .ok (.iconst 1, 1) := by decide +kernel
theorem dX8_carriesOut_80 : decode cX8_carriesOut 80 = .ok (.goto 4, 3) := by decide +kernel
theorem dX8_carriesOut_83 : decode cX8_carriesOut 83 = .ok (.iconst 0, 1) := by decide +kernel
theorem dX8_carriesOut_84 : decode cX8_carriesOut 84 = .ok (.ireturn, 1) := by decide +kernel
theorem dX8_carriesOut_85 : decode cX8_carriesOut 85 = .ok (.aload_n 0, 1) := by decide +kernel
theorem dX8_carriesOut_86 : decode cX8_carriesOut 86 = .ok (.getfield 7, 3) := by decide +kernel
theorem dX8_carriesOut_89 : decode cX8_carriesOut 89 = .ok (.iconst 0, 1) := by decide +kernel
theorem dX8_carriesOut_90 : decode cX8_carriesOut 90 = .ok (.iload_n 2, 1) := by decide +kernel
theorem dX8_carriesOut_91 : decode cX8_carriesOut 91 = .ok (.i2l, 1) := by decide +kernel
theorem dX8_carriesOut_92 : decode cX8_carriesOut 92 = .ok (.lastore, 1) := by decide +kernel
theorem dX8_carriesOut_93 : decode cX8_carriesOut 93 = .ok (.iconst 1, 1) := by decide +kernel
theorem dX8_carriesOut_94 : decode cX8_carriesOut 94 = .ok (.ireturn, 1) := by decide +kernel
theorem dX8_carriesOut_95 : decode cX8_carriesOut 95 = .ok (.aload_n 0, 1) := by decide +kernel
theorem dX8_carriesOut_96 : decode cX8_carriesOut 96 = .ok (.getfield 7, 3) := by decide +kernel
theorem dX8_carriesOut_99 : decode cX8_carriesOut 99 = .ok (.bipush 10, 2) := by decide +kernel
theorem dX8_carriesOut_101 : decode cX8_carriesOut 101 = .ok (.iload_n 2, 1) := by decide +kernel
theorem dX8_carriesOut_102 : decode cX8_carriesOut 102 = .ok (.i2l, 1) := by decide +kernel
theorem dX8_carriesOut_103 : decode cX8_carriesOut 103 = .ok (.lastore, 1) := by decide +kernel
theorem dX8_carriesOut_104 : decode cX8_carriesOut 104 = .ok (.iconst 1, 1) := by decide +kernel
theorem dX8_carriesOut_105 : decode cX8_carriesOut 105 = .ok (.ireturn, 1) := by decide +kernel
abbrev csX8_run : List (List Cond) := [[.code yX8_run cX8_run 3 (some .int)], wsX8_run_r1, wsX8_run_r2, wsX8_run_r3, wsX8_run_r4, wsX8_run_r5, wsX8_run_r6, wsX80]
set_option maxRecDepth 20000 in
theorem hbX8_run : wsX8_run = csX8_run.flatten := rfl
set_option maxRecDepth 20000 in
theorem ggX8_run_X8_fault : GoodIn wsX8_run wsX8_fault := goodIn_c csX8_run hbX8_run _ [(1, 9), (1, 10), (1, 11), (1, 2), (1, 4), (1, 12), (1, 13), (1, 14), (1, 8), (1, 15), (1, 16), (1, 17), (1, 3), (1, 18), (1, 19), (1, 20), (1, 21), (1, 22), (1, 23), (2, 0), (2, 1), (2, 2), (2, 3), (2, 4), (2, 5), (2, 6), (2, 7), (2, 8), (2, 9), (2, 10), (2, 11), (2, 12), (2, 13), (2, 14), (2, 15), (2, 16), (2, 17), (7, 0), (7, 1), (7, 2), (7, 3), (7, 4), (7, 5), (7, 6), (7, 7), (7, 8), (7, 9), (7, 10), (7, 11)] rfl (by decide +kernel)
set_option maxRecDepth 20000 in
theorem gX8_run_X8_fault : GoodIn wsX8_run (wsV RX8 225 RX8 yX8_fault wsX8_fault) := goodIn_app (goodIn_c csX8_run hbX8_run [.methodLink RX8 225 yX8_fault, .instanceMethod yX8_fault, .selects RX8 yX8_fault yX8_fault, .initialized RX8] [(1, 5), (1, 6), (1, 7), (1, 8)] rfl (by decide +kernel)) ggX8_run_X8_fault
set_option maxRecDepth 20000 in
theorem ggX8_run_X8_readingsOfSteps : GoodIn wsX8_run wsX8_readingsOfSteps := goodIn_c csX8_run hbX8_run _ [(2, 21), (1, 2), (1, 3), (7, 0), (7, 1), (7, 2), (7, 3), (7, 4), (7, 5), (7, 6), (7, 7), (7, 8), (7, 9), (7, 10), (7, 11)] rfl (by decide +kernel)
set_option maxRecDepth 20000 in
theorem gX8_run_X8_readingsOfSteps : GoodIn wsX8_run (wsV RX8 228 RX8 yX8_readingsOfSteps wsX8_readingsOfSteps) := goodIn_app (goodIn_c csX8_run hbX8_run [.methodLink RX8 228 yX8_readingsOfSteps, .instanceMethod yX8_readingsOfSteps, .selects RX8 yX8_readingsOfSteps yX8_readingsOfSteps, .initialized RX8] [(2, 18), (2, 19), (2, 20), (1, 8)] rfl (by decide +kernel)) ggX8_run_X8_readingsOfSteps
set_option maxRecDepth 20000 in
theorem ggX8_run_X8_putAside : GoodIn wsX8_run wsX8_putAside := goodIn_c csX8_run hbX8_run _ [(3, 1), (3, 2), (1, 0), (7, 0), (7, 1), (7, 2), (7, 3), (7, 4), (7, 5), (7, 6), (7, 7), (7, 8), (7, 9), (7, 10), (7, 11)] rfl (by decide +kernel)
set_option maxRecDepth 20000 in
theorem gX8_run_X8_putAside : GoodIn wsX8_run (wsV RX8 157 RX8 yX8_putAside wsX8_putAside) := goodIn_app (goodIn_c csX8_run hbX8_run [.methodLink RX8 157 yX8_putAside, .instanceMethod yX8_putAside, .selects RX8 yX8_putAside yX8_putAside, .initialized RX8] [(2, 22), (2, 23), (3, 0), (1, 8)] rfl (by decide +kernel)) ggX8_run_X8_putAside
set_option maxRecDepth 20000 in
theorem ggX8_run_X8_carriesOut : GoodIn wsX8_run wsX8_carriesOut := goodIn_c csX8_run hbX8_run _ [(3, 6), (1, 0), (3, 7), (3, 8), (3, 9), (1, 8), (3, 10), (3, 11), (3, 12), (3, 13), (3, 14), (3, 15), (3, 16), (3, 17), (3, 18), (2, 17), (3, 19), (3, 20), (3, 21), (3, 22), (3, 23), (4, 0), (4, 1), (4, 2), (4, 3), (4, 4), (4, 5), (4, 6), (4, 7), (4, 8), (4, 9), (4, 10), (4, 11), (4, 12), (4, 13), (4, 14), (4, 15), (4, 16), (4, 17), (4, 18), (4, 19), (4, 20), (4, 21), (4, 22), (4, 23), (5, 0), (5, 1), (5, 2), (5, 3), (5, 4), (5, 5), (5, 6), (5, 7), (5, 8), (5, 9), (5, 10), (5, 11), (5, 12), (5, 13), (5, 14), (5, 15), (5, 16), (5, 17), (5, 18), (5, 19), (5, 20), (5, 21), (5, 22), (5, 23), (6, 0), (6, 1), (6, 2), (6, 3), (6, 4), (1, 23), (2, 0), (2, 1), (7, 0), (7, 1), (7, 2), (7, 3), (7, 4), (7, 5), (7, 6), (7, 7), (7, 8), (7, 9), (7, 10), (7, 11)] rfl (by decide +kernel)
set_option maxRecDepth 20000 in
theorem gX8_run_X8_carriesOut : GoodIn wsX8_run (wsV RX8 231 RX8 yX8_carriesOut wsX8_carriesOut) := goodIn_app (goodIn_c csX8_run hbX8_run [.methodLink RX8 231 yX8_carriesOut, .instanceMethod yX8_carriesOut, .selects RX8 yX8_carriesOut yX8_carriesOut, .initialized RX8] [(3, 3), (3, 4), (3, 5), (1, 8)] rfl (by decide +kernel)) ggX8_run_X8_carriesOut
set_option maxRecDepth 20000 in
theorem ggX8_run_X8_putBack : GoodIn wsX8_run wsX8_putBack := goodIn_c csX8_run hbX8_run _ [(6, 8), (1, 0), (3, 2), (7, 0), (7, 1), (7, 2), (7, 3), (7, 4), (7, 5), (7, 6), (7, 7), (7, 8), (7, 9), (7, 10), (7, 11)] rfl (by decide +kernel)
set_option maxRecDepth 20000 in
theorem gX8_run_X8_putBack : GoodIn wsX8_run (wsV RX8 160 RX8 yX8_putBack wsX8_putBack) := goodIn_app (goodIn_c csX8_run hbX8_run [.methodLink RX8 160 yX8_putBack, .instanceMethod yX8_putBack, .selects RX8 yX8_putBack yX8_putBack, .initialized RX8] [(6, 5), (6, 6), (6, 7), (1, 8)] rfl (by decide +kernel)) ggX8_run_X8_putBack
theorem dX8_run_0 : decode cX8_run 0 = .ok (.aload_n 0, 1) := by decide +kernel
theorem dX8_run_1 : decode cX8_run 1 = .ok (.invokevirtual 225, 3) := by decide +kernel
theorem dX8_run_4 : decode cX8_run 4 = .ok (.bipush (-6), 2) := by decide +kernel
theorem dX8_run_6 : decode cX8_run 6 = .ok (.if_icmp .eq 6, 3) := by decide +kernel
theorem dX8_run_9 : decode cX8_run 9 = .ok (.bipush (-3), 2) := by decide +kernel
theorem dX8_run_11 : decode cX8_run 11 = .ok (.ireturn, 1) := by decide +kernel
theorem dX8_run_12 : decode cX8_run 12 = .ok (.aload_n 0, 1) := by decide +kernel
theorem dX8_run_13 : decode cX8_run 13 = .ok (.invokevirtual 228, 3) := by decide +kernel
theorem dX8_run_16 : decode cX8_run 16 = .ok (.istore_n 1, 1) := by decide +kernel
theorem dX8_run_17 : decode cX8_run 17 = .ok (.aload_n 0, 1) := by decide +kernel
theorem dX8_run_18 : decode cX8_run 18 = .ok (.getfield 7, 3) := by decide +kernel
theorem dX8_run_21 : decode cX8_run 21 = .ok (.bipush 14, 2) := by decide +kernel
theorem dX8_run_23 : decode cX8_run 23 = .ok (.laload, 1) := by decide +kernel
theorem dX8_run_24 : decode cX8_run 24 = .ok (.iload_n 1, 1) := by decide +kernel
theorem dX8_run_25 : decode cX8_run 25 = .ok (.i2l, 1) := by decide +kernel
theorem dX8_run_26 : decode cX8_run 26 = .ok (.ladd, 1) := by decide +kernel
theorem dX8_run_27 : decode cX8_run 27 = .ok (.ldc2_w 138, 3) := by decide +kernel
theorem dX8_run_30 : decode cX8_run 30 = .ok (.lcmp, 1) := by decide +kernel
theorem dX8_run_31 : decode cX8_run 31 = .ok (.ifCond .le 6, 3) := by decide +kernel
theorem dX8_run_34 : decode cX8_run 34 = .ok (.bipush (-4), 2) := by decide +kernel
theorem dX8_run_36 : decode cX8_run 36 = .ok (.ireturn, 1) := by decide +kernel
theorem dX8_run_37 : decode cX8_run 37 = .ok (.aload_n 0, 1) := by decide +kernel
theorem dX8_run_38 : decode cX8_run 38 = .ok (.invokevirtual 157, 3) := by decide +kernel
theorem dX8_run_41 : decode cX8_run 41 = .ok (.iconst 0, 1) := by decide +kernel
theorem dX8_run_42 : decode cX8_run 42 = .ok (.istore_n 2, 1) := by decide +kernel
theorem dX8_run_43 : decode cX8_run 43 = .ok (.iload_n 2, 1) := by decide +kernel
theorem dX8_run_44 : decode cX8_run 44 = .ok (.aload_n 0, 1) := by decide +kernel
theorem dX8_run_45 : decode cX8_run 45 = .ok (.getfield 212, 3) := by decide +kernel
theorem dX8_run_48 : decode cX8_run 48 = .ok (.if_icmp .ge 41, 3) := by decide +kernel
theorem dX8_run_51 : decode cX8_run 51 = .ok (.aload_n 0, 1) := by decide +kernel
theorem dX8_run_52 : decode cX8_run 52 = .ok (.aload_n 0, 1) := by decide +kernel
theorem dX8_run_53 : decode cX8_run 53 = .ok (.getfield 27, 3) := by decide +kernel
theorem dX8_run_56 : decode cX8_run 56 = .ok (.iconst 2, 1) := by decide +kernel
theorem dX8_run_57 : decode cX8_run 57 = .ok (.iload_n 2, 1) := by decide +kernel
theorem dX8_run_58 : decode cX8_run 58 = .ok (.imul, 1) := by decide +kernel
theorem dX8_run_59 : decode cX8_run 59 = .ok (.iaload, 1) := by decide +kernel
theorem dX8_run_60 : decode cX8_run 60 = .ok (.aload_n 0, 1) := by decide +kernel
theorem dX8_run_61 : decode cX8_run 61 = .ok (.getfield 27, 3) := by decide +kernel
theorem dX8_run_64 : decode cX8_run 64 = .ok (.iconst 2, 1) := by decide +kernel
theorem dX8_run_65 : decode cX8_run 65 = .ok (.iload_n 2, 1) := by decide +kernel
theorem dX8_run_66 : decode cX8_run 66 = .ok (.imul, 1) := by decide +kernel
theorem dX8_run_67 : decode cX8_run 67 = .ok (.iconst 1, 1) := by decide +kernel
theorem dX8_run_68 : decode cX8_run 68 = .ok (.iadd, 1) := by decide +kernel
theorem dX8_run_69 : decode cX8_run 69 = .ok (.iaload, 1) := by decide +kernel
theorem dX8_run_70 : decode cX8_run 70 = .ok (.invokevirtual 231, 3) := by decide +kernel
theorem dX8_run_73 : decode cX8_run 73 = .ok (.ifCond .ne 10, 3) := by decide +kernel
theorem dX8_run_76 : decode cX8_run 76 = .ok (.aload_n 0, 1) := by decide +kernel
theorem dX8_run_77 : decode cX8_run 77 = .ok (.invokevirtual 160, 3) := by decide +kernel
theorem dX8_run_80 : decode cX8_run 80 = .ok (.bipush (-5), 2) := by decide +kernel
theorem dX8_run_82 : decode cX8_run 82 = .ok (.ireturn, 1) := by decide +kernel
theorem dX8_run_83 : decode cX8_run 83 = .ok (.iinc 2 1, 3) := by decide +kernel
theorem dX8_run_86 : decode cX8_run 86 = .ok (.goto (-43), 3) := by decide +kernel
theorem dX8_run_89 : decode cX8_run 89 = .ok (.aload_n 0, 1) := by decide +kernel
theorem dX8_run_90 : decode cX8_run 90 = .ok (.iconst 0, 1) := by decide +kernel
theorem dX8_run_91 : decode cX8_run 91 = .ok (.putfield 180, 3) := by decide +kernel
theorem dX8_run_94 : decode cX8_run 94 = .ok (.iload_n 1, 1) := by decide +kernel
theorem dX8_run_95 : decode cX8_run 95 = .ok (.ireturn, 1) := by decide +kernel
theorem dX8_count_0 : decode cX8_count 0 = .ok (.iload_n 1, 1) := by decide +kernel
theorem dX8_count_1 : decode cX8_count 1 = .ok (.tableswitch 111 0 5 #[39, 48, 57, 68, 80, 106], 39) := by decide +kernel
theorem dX8_count_40 : decode cX8_count 40 = .ok (.aload_n 0, 1) := by decide +kernel
theorem dX8_count_41 : decode cX8_count 41 = .ok (.getfield 7, 3) := by decide +kernel
theorem dX8_count_44 : decode cX8_count 44 = .ok (.bipush 11, 2) := by decide +kernel
theorem dX8_count_46 : decode cX8_count 46 = .ok (.laload, 1) := by decide +kernel
theorem dX8_count_47 : decode cX8_count 47 = .ok (.l2i, 1) := by decide +kernel
theorem dX8_count_48 : decode cX8_count 48 = .ok (.ireturn, 1) := by decide +kernel
theorem dX8_count_49 : decode cX8_count 49 = .ok (.aload_n 0, 1) := by decide +kernel
theorem dX8_count_50 : decode cX8_count 50 = .ok (.getfield 7, 3) := by decide +kernel
theorem dX8_count_53 : decode cX8_count 53 = .ok (.bipush 14, 2) := by decide +kernel
theorem dX8_count_55 : decode cX8_count 55 = .ok (.laload, 1) := by decide +kernel
theorem dX8_count_56 : decode cX8_count 56 = .ok (.l2i, 1) := by decide +kernel
theorem dX8_count_57 : decode cX8_count 57 = .ok (.ireturn, 1) := by decide +kernel
theorem dX8_count_58 : decode cX8_count 58 = .ok (.aload_n 0, 1) := by decide +kernel
theorem dX8_count_59 : decode cX8_count 59 = .ok (.getfield 7, 3) := by decide +kernel
theorem dX8_count_62 : decode cX8_count 62 = .ok (.iconst 0, 1) := by decide +kernel
theorem dX8_count_63 : decode cX8_count 63 = .ok (.laload, 1) := by decide +kernel
theorem dX8_count_64 : decode cX8_count 64 = .ok (.l2i, 1) := by decide +kernel
theorem dX8_count_65 : decode cX8_count 65 = .ok (.ldc 145, 2) := by decide +kernel
theorem dX8_count_67 : decode cX8_count 67 = .ok (.iadd, 1) := by decide +kernel
theorem dX8_count_68 : decode cX8_count 68 = .ok (.ireturn, 1) := by decide +kernel
theorem dX8_count_69 : decode cX8_count 69 = .ok (.aload_n 0, 1) := by decide +kernel
theorem dX8_count_70 : decode cX8_count 70 = .ok (.getfield 7, 3) := by decide +kernel
theorem dX8_count_73 : decode cX8_count 73 = .ok (.bipush 12, 2) := by decide +kernel
theorem dX8_count_75 : decode cX8_count 75 = .ok (.laload, 1) := by decide +kernel
theorem dX8_count_76 : decode cX8_count 76 = .ok (.l2i, 1) := by decide +kernel
theorem dX8_count_77 : decode cX8_count 77 = .ok (.ldc 145, 2) := by decide +kernel
theorem dX8_count_79 : decode cX8_count 79 = .ok (.iadd, 1) := by decide +kernel
theorem dX8_count_80 : decode cX8_count 80 = .ok (.ireturn, 1) := by decide +kernel
theorem dX8_count_81 : decode cX8_count 81 = .ok (.aload_n 0, 1) := by decide +kernel
theorem dX8_count_82 : decode cX8_count 82 = .ok (.getfield 7, 3) := by decide +kernel
theorem dX8_count_85 : decode cX8_count 85 = .ok (.bipush 8, 2) := by decide +kernel
theorem dX8_count_87 : decode cX8_count 87 = .ok (.laload, 1) := by decide +kernel
theorem dX8_count_88 : decode cX8_count 88 = .ok (.lconst 0, 1) := by decide +kernel
theorem dX8_count_89 : decode cX8_count 89 = .ok (.lcmp, 1) := by decide +kernel
theorem dX8_count_90 : decode cX8_count 90 = .ok (.ifCond .le 14, 3) := by decide +kernel
theorem dX8_count_93 : decode cX8_count 93 = .ok (.aload_n 0, 1) := by decide +kernel
theorem dX8_count_94 : decode cX8_count 94 = .ok (.getfield 7, 3) := by decide +kernel
theorem dX8_count_97 : decode cX8_count 97 = .ok (.bipush 13, 2) := by decide +kernel
theorem dX8_count_99 : decode cX8_count 99 = .ok (.laload, 1) := by decide +kernel
theorem dX8_count_100 : decode cX8_count 100 = .ok (.l2i, 1) := by decide +kernel
theorem dX8_count_101 : decode cX8_count 101 = .ok (.goto 5, 3) := by decide +kernel
theorem dX8_count_104 : decode cX8_count 104 = .ok (.bipush (-6), 2) := by decide +kernel
theorem dX8_count_106 : decode cX8_count 106 = .ok (.ireturn, 1) := by decide +kernel
theorem dX8_count_107 : decode cX8_count 107 = .ok (.aload_n 0, 1) := by decide +kernel
theorem dX8_count_108 : decode cX8_count 108 = .ok (.getfield 180, 3) := by decide +kernel
theorem dX8_count_111 : decode cX8_count 111 = .ok (.ireturn, 1) := by decide +kernel
theorem dX8_count_112 : decode cX8_count 112 = .ok (.bipush (-2), 2) := by decide +kernel
theorem dX8_count_114 : decode cX8_count 114 = .ok (.ireturn, 1) := by decide +kernel
abbrev csX8_save : List (List Cond) := [[.code yX8_save cX8_save 3 (some .int)], [.fieldLink RX8 16 "SlopeMeterModel" "slots" "[J", .fieldLink RX8 7 "SlopeMeterModel" "at" "[J", .fieldLink RX8 19 "SlopeMeterModel" "isSaved" "[Z", .methodLink RX8 38 yX8_in, .static yX8_in, .initialized RX8, .code yX8_in cX8_in 6 (some .boolean)], wsX80]
set_option maxRecDepth 20000 in
theorem hbX8_save : wsX8_save = csX8_save.flatten := rfl
set_option maxRecDepth 20000 in
theorem ggX8_save_X8_in : GoodIn wsX8_save wsX8_in := goodIn_c csX8_save hbX8_save _ [(1, 6)] rfl (by decide +kernel)
set_option maxRecDepth 20000 in
theorem gX8_save_X8_in : GoodIn wsX8_save (va_wsS RX8 38 yX8_in wsX8_in) := goodIn_app (goodIn_c csX8_save hbX8_save [.methodLink RX8 38 yX8_in, .static yX8_in, .initialized yX8_in.cls] [(1, 3), (1, 4), (1, 5)] rfl (by decide +kernel)) ggX8_save_X8_in
theorem dX8_save_0 : decode cX8_save 0 = .ok (.iload_n 1, 1) := by decide +kernel
theorem dX8_save_1 : decode cX8_save 1 = .ok (.i2l, 1) := by decide +kernel
theorem dX8_save_2 : decode cX8_save 2 = .ok (.lconst 0, 1) := by decide +kernel
theorem dX8_save_3 : decode cX8_save 3 = .ok (.lconst 1, 1) := by decide +kernel
theorem dX8_save_4 : decode cX8_save 4 = .ok (.invokestatic 38, 3) := by decide +kernel
theorem dX8_save_7 : decode cX8_save 7 = .ok (.ifCond .ne 6, 3) := by decide +kernel
theorem dX8_save_10 : decode cX8_save 10 = .ok (.bipush (-2), 2) := by decide +kernel
theorem dX8_save_12 : decode cX8_save 12 = .ok (.ireturn, 1) := by decide +kernel
theorem dX8_save_13 : decode cX8_save 13 = .ok (.iconst 0, 1) := by decide +kernel
theorem dX8_save_14 : decode cX8_save 14 = .ok (.istore_n 2, 1) := by decide +kernel
theorem dX8_save_15 : decode cX8_save 15 = .ok (.iload_n 2, 1) := by decide +kernel
theorem dX8_save_16 : decode cX8_save 16 = .ok (.sipush 303, 3) := by decide +kernel
theorem dX8_save_19 : decode cX8_save 19 = .ok (.if_icmp .ge 27, 3) := by decide +kernel
theorem dX8_save_22 : decode cX8_save 22 = .ok (.aload_n 0, 1) := by decide +kernel
theorem dX8_save_23 : decode cX8_save 23 = .ok (.getfield 16, 3) := by decide +kernel
theorem dX8_save_26 : decode cX8_save 26 = .ok (.sipush 303, 3) := by decide +kernel
theorem dX8_save_29 : decode cX8_save 29 = .ok (.iload_n 1, 1) := by decide +kernel
theorem dX8_save_30 : decode cX8_save 30 = .ok (.imul, 1) := by decide +kernel
theorem dX8_save_31 : decode cX8_save 31 = .ok (.iload_n 2, 1) := by decide +kernel
theorem dX8_save_32 : decode cX8_save 32 = .ok (.iadd, 1) := by decide +kernel
theorem dX8_save_33 : decode cX8_save 33 = .ok (.aload_n 0, 1) := by decide +kernel
theorem dX8_save_34 : decode cX8_save 34 = .ok (.getfield 7, 3) := by decide +kernel
theorem dX8_save_37 : decode cX8_save 37 = .ok (.iload_n 2, 1) := by decide +kernel
theorem dX8_save_38 : decode cX8_save 38 = .ok (.laload, 1) := by decide +kernel
theorem dX8_save_39 : decode cX8_save 39 = .ok (.lastore, 1) := by decide +kernel
theorem dX8_save_40 : decode cX8_save 40 = .ok (.iinc 2 1, 3) := by decide +kernel
theorem dX8_save_43 : decode cX8_save 43 = .ok (.goto (-28), 3) := by decide +kernel
theorem dX8_save_46 : decode cX8_save 46 = .ok (.aload_n 0, 1) := by decide +kernel
theorem dX8_save_47 : decode cX8_save 47 = .ok (.getfield 19, 3) := by decide +kernel
theorem dX8_save_50 : decode cX8_save 50 = .ok (.iload_n 1, 1) := by decide +kernel
theorem dX8_save_51 : decode cX8_save 51 = .ok (.iconst 1, 1) := by decide +kernel
theorem dX8_save_52 : decode cX8_save 52 = .ok (.bastore, 1) := by decide +kernel
theorem dX8_save_53 : decode cX8_save 53 = .ok (.aload_n 0, 1) := by decide +kernel
theorem dX8_save_54 : decode cX8_save 54 = .ok (.getfield 7, 3) := by decide +kernel
theorem dX8_save_57 : decode cX8_save 57 = .ok (.bipush 14, 2) := by decide +kernel
theorem dX8_save_59 : decode cX8_save 59 = .ok (.laload, 1) := by decide +kernel
theorem dX8_save_60 : decode cX8_save 60 = .ok (.l2i, 1) := by decide +kernel
theorem dX8_save_61 : decode cX8_save 61 = .ok (.ireturn, 1) := by decide +kernel
abbrev csX8_restore : List (List Cond) := [[.code yX8_restore cX8_restore 3 (some .int)], [.fieldLink RX8 19 "SlopeMeterModel" "isSaved" "[Z", .fieldLink RX8 7 "SlopeMeterModel" "at" "[J", .fieldLink RX8 16 "SlopeMeterModel" "slots" "[J", .methodLink RX8 38 yX8_in, .static yX8_in, .initialized RX8, .code yX8_in cX8_in 6 (some .boolean)], wsX80]
set_option maxRecDepth 20000 in
theorem hbX8_restore : wsX8_restore = csX8_restore.flatten := rfl
set_option maxRecDepth 20000 in
theorem ggX8_restore_X8_in : GoodIn wsX8_restore wsX8_in := goodIn_c csX8_restore hbX8_restore _ [(1, 6)] rfl (by decide +kernel)
set_option maxRecDepth 20000 in
theorem gX8_restore_X8_in : GoodIn wsX8_restore (va_wsS RX8 38 yX8_in wsX8_in) := goodIn_app (goodIn_c csX8_restore hbX8_restore [.methodLink RX8 38 yX8_in, .static yX8_in, .initialized yX8_in.cls] [(1, 3), (1, 4), (1, 5)] rfl (by decide +kernel)) ggX8_restore_X8_in
theorem dX8_restore_0 : decode cX8_restore 0 = .ok (.iload_n 1, 1) := by decide +kernel
theorem dX8_restore_1 : decode cX8_restore 1 = .ok (.i2l, 1) := by decide +kernel
theorem dX8_restore_2 : decode cX8_restore 2 = .ok (.lconst 0, 1) := by decide +kernel
theorem dX8_restore_3 : decode cX8_restore 3 = .ok (.lconst 1, 1) := by decide +kernel
theorem dX8_restore_4 : decode cX8_restore 4 = .ok (.invokestatic 38, 3) := by decide +kernel
theorem dX8_restore_7 : decode cX8_restore 7 = .ok (.ifCond .ne 6, 3) := by decide +kernel
theorem dX8_restore_10 : decode cX8_restore 10 = .ok (.bipush (-2), 2) := by decide +kernel
theorem dX8_restore_12 : decode cX8_restore 12 = .ok (.ireturn, 1) := by decide +kernel
theorem dX8_restore_13 : decode cX8_restore 13 = .ok (.aload_n 0, 1) := by decide +kernel
theorem dX8_restore_14 : decode cX8_restore 14 = .ok (.getfield 19, 3) := by decide +kernel
theorem dX8_restore_17 : decode cX8_restore 17 = .ok (.iload_n 1, 1) := by decide +kernel
theorem dX8_restore_18 : decode cX8_restore 18 = .ok (.baload, 1) := by decide +kernel
theorem dX8_restore_19 : decode cX8_restore 19 = .ok (.ifCond .ne 6, 3) := by decide +kernel
theorem dX8_restore_22 : decode cX8_restore 22 = .ok (.bipush (-5), 2) := by decide +kernel
theorem dX8_restore_24 : decode cX8_restore 24 = .ok (.ireturn, 1) := by decide +kernel
theorem dX8_restore_25 : decode cX8_restore 25 = .ok (.iconst 0, 1) := by decide +kernel
theorem dX8_restore_26 : decode cX8_restore 26 = .ok (.istore_n 2, 1) := by decide +kernel
theorem dX8_restore_27 : decode cX8_restore 27 = .ok (.iload_n 2, 1) := by decide +kernel
theorem dX8_restore_28 : decode cX8_restore 28 = .ok (.sipush 303, 3) := by decide +kernel
theorem dX8_restore_31 : decode cX8_restore 31 = .ok (.if_icmp .ge 27, 3) := by decide +kernel
theorem dX8_restore_34 : decode cX8_restore 34 = .ok (.aload_n 0, 1) := by decide +kernel
theorem dX8_restore_35 : decode cX8_restore 35 = .ok (.getfield 7, 3) := by decide +kernel
theorem dX8_restore_38 : decode cX8_restore 38 = .ok (.iload_n 2, 1) := by decide +kernel
theorem dX8_restore_39 : decode cX8_restore 39 = .ok (.aload_n 0, 1) := by decide +kernel
theorem dX8_restore_40 : decode cX8_restore 40 = .ok (.getfield 16, 3) := by decide +kernel
theorem dX8_restore_43 : decode cX8_restore 43 = .ok (.sipush 303, 3) := by decide +kernel
theorem dX8_restore_46 : decode cX8_restore 46 = .ok (.iload_n 1, 1) := by decide +kernel
theorem dX8_restore_47 : decode cX8_restore 47 = .ok (.imul, 1) := by decide +kernel
theorem dX8_restore_48 : decode cX8_restore 48 = .ok (.iload_n 2, 1) := by decide +kernel
theorem dX8_restore_49 : decode cX8_restore 49 = .ok (.iadd, 1) := by decide +kernel
theorem dX8_restore_50 : decode cX8_restore 50 = .ok (.laload, 1) := by decide +kernel
theorem dX8_restore_51 : decode cX8_restore 51 = .ok (.lastore, 1) := by decide +kernel
theorem dX8_restore_52 : decode cX8_restore 52 = .ok (.iinc 2 1, 3) := by decide +kernel
theorem dX8_restore_55 : decode cX8_restore 55 = .ok (.goto (-28), 3) := by decide +kernel
theorem dX8_restore_58 : decode cX8_restore 58 = .ok (.aload_n 0, 1) := by decide +kernel
theorem dX8_restore_59 : decode cX8_restore 59 = .ok (.getfield 7, 3) := by decide +kernel
theorem dX8_restore_62 : decode cX8_restore 62 = .ok (.bipush 14, 2) := by decide +kernel
theorem dX8_restore_64 : decode cX8_restore 64 = .ok (.laload, 1) := by decide +kernel
theorem dX8_restore_65 : decode cX8_restore 65 = .ok (.l2i, 1) := by decide +kernel
theorem dX8_restore_66 : decode cX8_restore 66 = .ok (.ireturn, 1) := by decide +kernel
/-! END e -/
