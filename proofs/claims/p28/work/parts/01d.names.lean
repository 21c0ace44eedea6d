abbrev csX7_init : List (List Cond) := [[.code yX7_init cX7_init 2 none], wsX7_init_r1, wsX7_init_r2, wsX7_init_r3, wsX60, wsX70, wsX20, wsX30, wsX10, wsX50, wsX40, wsX00]
set_option maxRecDepth 20000 in
theorem hbX7_init : wsX7_init = csX7_init.flatten := rfl
set_option maxRecDepth 20000 in
theorem ggX7_init_X6_init : GoodIn wsX7_init wsX6_init := goodIn_c csX7_init hbX7_init _ [(1, 20), (1, 21), (1, 1), (1, 2), (1, 22), (1, 12), (1, 13), (1, 23), (2, 0), (2, 1), (2, 2), (2, 3), (2, 4), (2, 5), (2, 6), (2, 7), (2, 8), (2, 9), (2, 10), (2, 11), (2, 12), (2, 13), (2, 14), (2, 15), (2, 16), (2, 17), (2, 18), (2, 19), (2, 20), (2, 21), (2, 22), (2, 23), (3, 0), (3, 1), (3, 2), (3, 3), (3, 4), (3, 5), (3, 6), (3, 7), (3, 8), (3, 9), (3, 10), (3, 11), (3, 12), (6, 0), (6, 1), (6, 2), (6, 3), (6, 4), (6, 5), (6, 6), (6, 7), (6, 8), (4, 0), (4, 1), (8, 0), (8, 1), (9, 0), (9, 1), (9, 2), (9, 3), (9, 4), (10, 0), (10, 1), (10, 2), (10, 3), (10, 4), (10, 5), (11, 0), (11, 1), (11, 2), (11, 3), (11, 4), (11, 5), (11, 6), (11, 7), (11, 8)] rfl (by decide +kernel)
set_option maxRecDepth 20000 in
theorem gX7_init_X6_init_n9 : GoodIn wsX7_init (wsX6_init) := ggX7_init_X6_init
set_option maxRecDepth 20000 in
theorem ggX7_init_X2_init : GoodIn wsX7_init wsX2_init := goodIn_c csX7_init hbX7_init _ [(2, 5), (2, 6), (1, 1), (1, 2), (2, 7), (2, 8), (2, 9), (2, 10), (2, 11), (2, 12), (2, 13), (2, 14), (2, 15), (2, 16), (2, 17), (2, 18), (2, 19), (2, 20), (2, 21), (2, 22), (2, 23), (3, 0), (3, 1), (3, 2), (3, 3), (3, 4), (3, 5), (3, 6), (3, 7), (9, 0), (9, 1), (9, 2), (9, 3), (9, 4), (6, 0), (6, 1), (6, 2), (6, 3), (6, 4), (6, 5), (6, 6), (6, 7), (6, 8), (10, 0), (10, 1), (10, 2), (10, 3), (10, 4), (10, 5), (11, 0), (11, 1), (11, 2), (11, 3), (11, 4), (11, 5), (11, 6), (11, 7), (11, 8)] rfl (by decide +kernel)
set_option maxRecDepth 20000 in
theorem gX7_init_X2_init_n29 : GoodIn wsX7_init (wsX2_init) := ggX7_init_X2_init
set_option maxRecDepth 20000 in
theorem ggX7_init_X3_init : GoodIn wsX7_init wsX3_init := goodIn_c csX7_init hbX7_init _ [(3, 14), (3, 15), (1, 1), (1, 2), (3, 16), (3, 17), (3, 18), (3, 19), (3, 20), (7, 0), (7, 1), (7, 2), (7, 3), (7, 4), (7, 5), (7, 6)] rfl (by decide +kernel)
set_option maxRecDepth 20000 in
theorem gX7_init_X3_init_n36 : GoodIn wsX7_init (wsX3_init) := ggX7_init_X3_init
theorem dX7_init_0 : decode cX7_init 0 = .ok (.aload_n 0, 1) := by decide +kernel
theorem dX7_init_1 : decode cX7_init 1 = .ok (.invokespecial 1, 3) := by decide +kernel
theorem dX7_init_4 : decode cX7_init 4 = .ok (.aload_n 0, 1) := by decide +kernel
theorem dX7_init_5 : decode cX7_init 5 = .ok (.new 7, 3) := by decide +kernel
theorem dX7_init_8 : decode cX7_init 8 = .ok (.dup, 1) := by decide +kernel
theorem dX7_init_9 : decode cX7_init 9 = .ok (.invokespecial 9, 3) := by decide +kernel
theorem dX7_init_12 : decode cX7_init 12 = .ok (.putfield 10, 3) := by decide +kernel
theorem dX7_init_15 : decode cX7_init 15 = .ok (.aload_n 0, 1) := by decide +kernel
theorem dX7_init_16 : decode cX7_init 16 = .ok (.new 7, 3) := by decide +kernel
theorem dX7_init_19 : decode cX7_init 19 = .ok (.dup, 1) := by decide +kernel
theorem dX7_init_20 : decode cX7_init 20 = .ok (.invokespecial 9, 3) := by decide +kernel
theorem dX7_init_23 : decode cX7_init 23 = .ok (.putfield 16, 3) := by decide +kernel
theorem dX7_init_26 : decode cX7_init 26 = .ok (.aload_n 0, 1) := by decide +kernel
theorem dX7_init_27 : decode cX7_init 27 = .ok (.iconst 2, 1) := by decide +kernel
theorem dX7_init_28 : decode cX7_init 28 = .ok (.anewarray 7, 3) := by decide +kernel
theorem dX7_init_31 : decode cX7_init 31 = .ok (.putfield 19, 3) := by decide +kernel
theorem dX7_init_34 : decode cX7_init 34 = .ok (.iconst 0, 1) := by decide +kernel
theorem dX7_init_35 : decode cX7_init 35 = .ok (.istore_n 1, 1) := by decide +kernel
theorem dX7_init_36 : decode cX7_init 36 = .ok (.iload_n 1, 1) := by decide +kernel
theorem dX7_init_37 : decode cX7_init 37 = .ok (.aload_n 0, 1) := by decide +kernel
theorem dX7_init_38 : decode cX7_init 38 = .ok (.getfield 19, 3) := by decide +kernel
theorem dX7_init_41 : decode cX7_init 41 = .ok (.arraylength, 1) := by decide +kernel
theorem dX7_init_42 : decode cX7_init 42 = .ok (.if_icmp .ge 22, 3) := by decide +kernel
theorem dX7_init_45 : decode cX7_init 45 = .ok (.aload_n 0, 1) := by decide +kernel
theorem dX7_init_46 : decode cX7_init 46 = .ok (.getfield 19, 3) := by decide +kernel
theorem dX7_init_49 : decode cX7_init 49 = .ok (.iload_n 1, 1) := by decide +kernel
theorem dX7_init_50 : decode cX7_init 50 = .ok (.new 7, 3) := by decide +kernel
theorem dX7_init_53 : decode cX7_init 53 = .ok (.dup, 1) := by decide +kernel
theorem dX7_init_54 : decode cX7_init 54 = .ok (.invokespecial 9, 3) := by decide +kernel
theorem dX7_init_57 : decode cX7_init 57 = .ok (.aastore, 1) := by decide +kernel
theorem dX7_init_58 : decode cX7_init 58 = .ok (.iinc 1 1, 3) := by decide +kernel
theorem dX7_init_61 : decode cX7_init 61 = .ok (.goto (-25), 3) := by decide +kernel
theorem dX7_init_64 : decode cX7_init 64 = .ok (.aload_n 0, 1) := by decide +kernel
theorem dX7_init_65 : decode cX7_init 65 = .ok (.iconst 2, 1) := by decide +kernel
theorem dX7_init_66 : decode cX7_init 66 = .ok (.newarray .boolean, 2) := by decide +kernel
theorem dX7_init_68 : decode cX7_init 68 = .ok (.putfield 23, 3) := by decide +kernel
theorem dX7_init_71 : decode cX7_init 71 = .ok (.aload_n 0, 1) := by decide +kernel
theorem dX7_init_72 : decode cX7_init 72 = .ok (.new 27, 3) := by decide +kernel
theorem dX7_init_75 : decode cX7_init 75 = .ok (.dup, 1) := by decide +kernel
theorem dX7_init_76 : decode cX7_init 76 = .ok (.invokespecial 29, 3) := by decide +kernel
theorem dX7_init_79 : decode cX7_init 79 = .ok (.putfield 30, 3) := by decide +kernel
theorem dX7_init_82 : decode cX7_init 82 = .ok (.aload_n 0, 1) := by decide +kernel
theorem dX7_init_83 : decode cX7_init 83 = .ok (.new 34, 3) := by decide +kernel
theorem dX7_init_86 : decode cX7_init 86 = .ok (.dup, 1) := by decide +kernel
theorem dX7_init_87 : decode cX7_init 87 = .ok (.invokespecial 36, 3) := by decide +kernel
theorem dX7_init_90 : decode cX7_init 90 = .ok (.putfield 37, 3) := by decide +kernel
theorem dX7_init_93 : decode cX7_init 93 = .ok (.return_, 1) := by decide +kernel
abbrev csX7_setLevel : List (List Cond) := [[.code yX7_setLevel cX7_setLevel 2 (some .int)], [.constant RX7 41 (-3000000), .constant RX7 42 (3000000), .fieldLink RX7 10 "SlopeMeter" "state" "LSlopeMeter$State;", .fieldLink RX7 47 "SlopeMeter$State" "meter" "LSlopeMeter$Meter;", .fieldLink RX7 50 "SlopeMeter$Meter" "signal" "LSlopeMeter$Signal;", .fieldLink RX7 54 "SlopeMeter$Signal" "level" "I", .fieldLink RX7 60 "SlopeMeter$State" "log" "LSlopeMeter$Log;", .fieldLink RX7 64 "SlopeMeter$Log" "readings" "I", .methodLink RX7 43 yX7_isOutside, .static yX7_isOutside, .initialized RX7, .code yX7_isOutside cX7_isOutside 3 (some .boolean)], wsX70, wsX60, wsX20, wsX50, wsX10]
set_option maxRecDepth 20000 in
theorem hbX7_setLevel : wsX7_setLevel = csX7_setLevel.flatten := rfl
set_option maxRecDepth 20000 in
theorem ggX7_setLevel_X7_isOutside : GoodIn wsX7_setLevel wsX7_isOutside := goodIn_c csX7_setLevel hbX7_setLevel _ [(1, 11)] rfl (by decide +kernel)
set_option maxRecDepth 20000 in
theorem gX7_setLevel_X7_isOutside : GoodIn wsX7_setLevel (va_wsS RX7 43 yX7_isOutside wsX7_isOutside) := goodIn_app (goodIn_c csX7_setLevel hbX7_setLevel [.methodLink RX7 43 yX7_isOutside, .static yX7_isOutside, .initialized yX7_isOutside.cls] [(1, 8), (1, 9), (1, 10)] rfl (by decide +kernel)) ggX7_setLevel_X7_isOutside
theorem dX7_setLevel_0 : decode cX7_setLevel 0 = .ok (.iload_n 1, 1) := by decide +kernel
theorem dX7_setLevel_1 : decode cX7_setLevel 1 = .ok (.ldc 41, 2) := by decide +kernel
theorem dX7_setLevel_3 : decode cX7_setLevel 3 = .ok (.ldc 42, 2) := by decide +kernel
theorem dX7_setLevel_5 : decode cX7_setLevel 5 = .ok (.invokestatic 43, 3) := by decide +kernel
theorem dX7_setLevel_8 : decode cX7_setLevel 8 = .ok (.ifCond .eq 6, 3) := by decide +kernel
theorem dX7_setLevel_11 : decode cX7_setLevel 11 = .ok (.bipush (-2), 2) := by decide +kernel
theorem dX7_setLevel_13 : decode cX7_setLevel 13 = .ok (.ireturn, 1) := by decide +kernel
theorem dX7_setLevel_14 : decode cX7_setLevel 14 = .ok (.aload_n 0, 1) := by decide +kernel
theorem dX7_setLevel_15 : decode cX7_setLevel 15 = .ok (.getfield 10, 3) := by decide +kernel
theorem dX7_setLevel_18 : decode cX7_setLevel 18 = .ok (.getfield 47, 3) := by decide +kernel
theorem dX7_setLevel_21 : decode cX7_setLevel 21 = .ok (.getfield 50, 3) := by decide +kernel
theorem dX7_setLevel_24 : decode cX7_setLevel 24 = .ok (.iload_n 1, 1) := by decide +kernel
theorem dX7_setLevel_25 : decode cX7_setLevel 25 = .ok (.putfield 54, 3) := by decide +kernel
theorem dX7_setLevel_28 : decode cX7_setLevel 28 = .ok (.aload_n 0, 1) := by decide +kernel
theorem dX7_setLevel_29 : decode cX7_setLevel 29 = .ok (.getfield 10, 3) := by decide +kernel
theorem dX7_setLevel_32 : decode cX7_setLevel 32 = .ok (.getfield 60, 3) := by decide +kernel
theorem dX7_setLevel_35 : decode cX7_setLevel 35 = .ok (.getfield 64, 3) := by decide +kernel
theorem dX7_setLevel_38 : decode cX7_setLevel 38 = .ok (.ireturn, 1) := by decide +kernel
abbrev csX7_setHum : List (List Cond) := [[.code yX7_setHum cX7_setHum 5 (some .int)], [.constant RX7 69 (1000000), .fieldLink RX7 10 "SlopeMeter" "state" "LSlopeMeter$State;", .fieldLink RX7 47 "SlopeMeter$State" "meter" "LSlopeMeter$Meter;", .fieldLink RX7 50 "SlopeMeter$Meter" "signal" "LSlopeMeter$Signal;", .fieldLink RX7 70 "SlopeMeter$Signal" "period" "I", .fieldLink RX7 73 "SlopeMeter$Signal" "amplitude" "I", .methodLink RX7 43 yX7_isOutside, .static yX7_isOutside, .initialized RX7, .code yX7_isOutside cX7_isOutside 3 (some .boolean)], wsX70, wsX60, wsX20, wsX50]
set_option maxRecDepth 20000 in
theorem hbX7_setHum : wsX7_setHum = csX7_setHum.flatten := rfl
set_option maxRecDepth 20000 in
theorem ggX7_setHum_X7_isOutside : GoodIn wsX7_setHum wsX7_isOutside := goodIn_c csX7_setHum hbX7_setHum _ [(1, 9)] rfl (by decide +kernel)
set_option maxRecDepth 20000 in
theorem gX7_setHum_X7_isOutside : GoodIn wsX7_setHum (va_wsS RX7 43 yX7_isOutside wsX7_isOutside) := goodIn_app (goodIn_c csX7_setHum hbX7_setHum [.methodLink RX7 43 yX7_isOutside, .static yX7_isOutside, .initialized yX7_isOutside.cls] [(1, 6), (1, 7), (1, 8)] rfl (by decide +kernel)) ggX7_setHum_X7_isOutside
theorem dX7_setHum_0 : decode cX7_setHum 0 = .ok (.iload_n 1, 1) := by decide +kernel
theorem dX7_setHum_1 : decode cX7_setHum 1 = .ok (.iconst 0, 1) := by decide +kernel
theorem dX7_setHum_2 : decode cX7_setHum 2 = .ok (.ldc 69, 2) := by decide +kernel
theorem dX7_setHum_4 : decode cX7_setHum 4 = .ok (.invokestatic 43, 3) := by decide +kernel
theorem dX7_setHum_7 : decode cX7_setHum 7 = .ok (.ifCond .ne 20, 3) := by decide +kernel
theorem dX7_setHum_10 : decode cX7_setHum 10 = .ok (.iload_n 2, 1) := by decide +kernel
theorem dX7_setHum_11 : decode cX7_setHum 11 = .ok (.iconst 4, 1) := by decide +kernel
theorem dX7_setHum_12 : decode cX7_setHum 12 = .ok (.sipush 400, 3) := by decide +kernel
theorem dX7_setHum_15 : decode cX7_setHum 15 = .ok (.invokestatic 43, 3) := by decide +kernel
theorem dX7_setHum_18 : decode cX7_setHum 18 = .ok (.ifCond .ne 9, 3) := by decide +kernel
theorem dX7_setHum_21 : decode cX7_setHum 21 = .ok (.iload_n 2, 1) := by decide +kernel
theorem dX7_setHum_22 : decode cX7_setHum 22 = .ok (.iconst 4, 1) := by decide +kernel
theorem dX7_setHum_23 : decode cX7_setHum 23 = .ok (.irem, 1) := by decide +kernel
theorem dX7_setHum_24 : decode cX7_setHum 24 = .ok (.ifCond .eq 6, 3) := by decide +kernel
theorem dX7_setHum_27 : decode cX7_setHum 27 = .ok (.bipush (-2), 2) := by decide +kernel
theorem dX7_setHum_29 : decode cX7_setHum 29 = .ok (.ireturn, 1) := by decide +kernel
theorem dX7_setHum_30 : decode cX7_setHum 30 = .ok (.aload_n 0, 1) := by decide +kernel
theorem dX7_setHum_31 : decode cX7_setHum 31 = .ok (.getfield 10, 3) := by decide +kernel
theorem dX7_setHum_34 : decode cX7_setHum 34 = .ok (.getfield 47, 3) := by decide +kernel
theorem dX7_setHum_37 : decode cX7_setHum 37 = .ok (.getfield 50, 3) := by decide +kernel
theorem dX7_setHum_40 : decode cX7_setHum 40 = .ok (.astore_n 3, 1) := by decide +kernel
theorem dX7_setHum_41 : decode cX7_setHum 41 = .ok (.aload_n 3, 1) := by decide +kernel
theorem dX7_setHum_42 : decode cX7_setHum 42 = .ok (.getfield 70, 3) := by decide +kernel
theorem dX7_setHum_45 : decode cX7_setHum 45 = .ok (.istore 4, 2) := by decide +kernel
theorem dX7_setHum_47 : decode cX7_setHum 47 = .ok (.aload_n 3, 1) := by decide +kernel
theorem dX7_setHum_48 : decode cX7_setHum 48 = .ok (.iload_n 1, 1) := by decide +kernel
theorem dX7_setHum_49 : decode cX7_setHum 49 = .ok (.putfield 73, 3) := by decide +kernel
theorem dX7_setHum_52 : decode cX7_setHum 52 = .ok (.aload_n 3, 1) := by decide +kernel
theorem dX7_setHum_53 : decode cX7_setHum 53 = .ok (.iload_n 2, 1) := by decide +kernel
theorem dX7_setHum_54 : decode cX7_setHum 54 = .ok (.putfield 70, 3) := by decide +kernel
theorem dX7_setHum_57 : decode cX7_setHum 57 = .ok (.iload 4, 2) := by decide +kernel
theorem dX7_setHum_59 : decode cX7_setHum 59 = .ok (.ireturn, 1) := by decide +kernel
abbrev csX7_setOffset : List (List Cond) := [[.code yX7_setOffset cX7_setOffset 4 (some .int)], [.constant RX7 76 (-100000), .constant RX7 77 (100000), .fieldLink RX7 10 "SlopeMeter" "state" "LSlopeMeter$State;", .fieldLink RX7 47 "SlopeMeter$State" "meter" "LSlopeMeter$Meter;", .fieldLink RX7 50 "SlopeMeter$Meter" "signal" "LSlopeMeter$Signal;", .fieldLink RX7 78 "SlopeMeter$Signal" "bias" "I", .fieldLink RX7 81 "SlopeMeter$Signal" "drift" "I", .fieldLink RX7 84 "SlopeMeter$Meter" "time" "I", .constant RX7 91 (100000000), .methodLink RX7 43 yX7_isOutside, .static yX7_isOutside, .initialized RX7, .code yX7_isOutside cX7_isOutside 3 (some .boolean), .methodLink RX7 87 yX5_offsetAt, .instanceMethod yX5_offsetAt, .selects RX5 yX5_offsetAt yX5_offsetAt, .initialized RX5, .code yX5_offsetAt cX5_offsetAt 2 (some .long), .fieldLink RX5 21 "SlopeMeter$Signal" "bias" "I", .fieldLink RX5 24 "SlopeMeter$Signal" "drift" "I", .constantLong RX5 37 (1000), .constantLong RX5 39 (500000), .static yX7_limited, .code yX7_limited cX7_limited 4 (some .long)], wsX70, wsX60, wsX20, wsX50]
set_option maxRecDepth 20000 in
theorem hbX7_setOffset : wsX7_setOffset = csX7_setOffset.flatten := rfl
set_option maxRecDepth 20000 in
theorem ggX7_setOffset_X7_isOutside : GoodIn wsX7_setOffset wsX7_isOutside := goodIn_c csX7_setOffset hbX7_setOffset _ [(1, 12)] rfl (by decide +kernel)
set_option maxRecDepth 20000 in
theorem gX7_setOffset_X7_isOutside : GoodIn wsX7_setOffset (va_wsS RX7 43 yX7_isOutside wsX7_isOutside) := goodIn_app (goodIn_c csX7_setOffset hbX7_setOffset [.methodLink RX7 43 yX7_isOutside, .static yX7_isOutside, .initialized yX7_isOutside.cls] [(1, 9), (1, 10), (1, 11)] rfl (by decide +kernel)) ggX7_setOffset_X7_isOutside
set_option maxRecDepth 20000 in
theorem ggX7_setOffset_X5_offsetAt : GoodIn wsX7_setOffset wsX5_offsetAt := goodIn_c csX7_setOffset hbX7_setOffset _ [(1, 17), (1, 18), (1, 19), (1, 20), (1, 21), (1, 22), (1, 11), (1, 23), (5, 0), (5, 1), (5, 2), (5, 3), (5, 4)] rfl (by decide +kernel)
set_option maxRecDepth 20000 in
theorem gX7_setOffset_X5_offsetAt : GoodIn wsX7_setOffset (wsV RX7 87 RX5 yX5_offsetAt wsX5_offsetAt) := goodIn_app (goodIn_c csX7_setOffset hbX7_setOffset [.methodLink RX7 87 yX5_offsetAt, .instanceMethod yX5_offsetAt, .selects RX5 yX5_offsetAt yX5_offsetAt, .initialized RX5] [(1, 13), (1, 14), (1, 15), (1, 16)] rfl (by decide +kernel)) ggX7_setOffset_X5_offsetAt
theorem dX7_setOffset_0 : decode cX7_setOffset 0 = .ok (.iload_n 1, 1) := by decide +kernel
theorem dX7_setOffset_1 : decode cX7_setOffset 1 = .ok (.ldc 76, 2) := by decide +kernel
theorem dX7_setOffset_3 : decode cX7_setOffset 3 = .ok (.ldc 77, 2) := by decide +kernel
theorem dX7_setOffset_5 : decode cX7_setOffset 5 = .ok (.invokestatic 43, 3) := by decide +kernel
theorem dX7_setOffset_8 : decode cX7_setOffset 8 = .ok (.ifCond .ne 16, 3) := by decide +kernel
theorem dX7_setOffset_11 : decode cX7_setOffset 11 = .ok (.iload_n 2, 1) := by decide +kernel
theorem dX7_setOffset_12 : decode cX7_setOffset 12 = .ok (.sipush (-1000), 3) := by decide +kernel
theorem dX7_setOffset_15 : decode cX7_setOffset 15 = .ok (.sipush 1000, 3) := by decide +kernel
theorem dX7_setOffset_18 : decode cX7_setOffset 18 = .ok (.invokestatic 43, 3) := by decide +kernel
theorem dX7_setOffset_21 : decode cX7_setOffset 21 = .ok (.ifCond .eq 6, 3) := by decide +kernel
theorem dX7_setOffset_24 : decode cX7_setOffset 24 = .ok (.bipush (-2), 2) := by decide +kernel
theorem dX7_setOffset_26 : decode cX7_setOffset 26 = .ok (.ireturn, 1) := by decide +kernel
theorem dX7_setOffset_27 : decode cX7_setOffset 27 = .ok (.aload_n 0, 1) := by decide +kernel
theorem dX7_setOffset_28 : decode cX7_setOffset 28 = .ok (.getfield 10, 3) := by decide +kernel
theorem dX7_setOffset_31 : decode cX7_setOffset 31 = .ok (.getfield 47, 3) := by decide +kernel
theorem dX7_setOffset_34 : decode cX7_setOffset 34 = .ok (.getfield 50, 3) := by decide +kernel
theorem dX7_setOffset_37 : decode cX7_setOffset 37 = .ok (.astore_n 3, 1) := by decide +kernel
theorem dX7_setOffset_38 : decode cX7_setOffset 38 = .ok (.aload_n 3, 1) := by decide +kernel
theorem dX7_setOffset_39 : decode cX7_setOffset 39 = .ok (.iload_n 1, 1) := by decide +kernel
theorem dX7_setOffset_40 : decode cX7_setOffset 40 = .ok (.putfield 78, 3) := by decide +kernel
theorem dX7_setOffset_43 : decode cX7_setOffset 43 = .ok (.aload_n 3, 1) := by decide +kernel
theorem dX7_setOffset_44 : decode cX7_setOffset 44 = .ok (.iload_n 2, 1) := by decide +kernel
theorem dX7_setOffset_45 : decode cX7_setOffset 45 = .ok (.putfield 81, 3) := by decide +kernel
theorem dX7_setOffset_48 : decode cX7_setOffset 48 = .ok (.aload_n 3, 1) := by decide +kernel
theorem dX7_setOffset_49 : decode cX7_setOffset 49 = .ok (.aload_n 0, 1) := by decide +kernel
theorem dX7_setOffset_50 : decode cX7_setOffset 50 = .ok (.getfield 10, 3) := by decide +kernel
theorem dX7_setOffset_53 : decode cX7_setOffset 53 = .ok (.getfield 47, 3) := by decide +kernel
theorem dX7_setOffset_56 : decode cX7_setOffset 56 = .ok (.getfield 84, 3) := by decide +kernel
theorem dX7_setOffset_59 : decode cX7_setOffset 59 = .ok (.invokevirtual 87, 3) := by decide +kernel
theorem dX7_setOffset_62 : decode cX7_setOffset 62 = .ok (.l2i, 1) := by decide +kernel
theorem dX7_setOffset_63 : decode cX7_setOffset 63 = .ok (.ldc 91, 2) := by decide +kernel
theorem dX7_setOffset_65 : decode cX7_setOffset 65 = .ok (.iadd, 1) := by decide +kernel
theorem dX7_setOffset_66 : decode cX7_setOffset 66 = .ok (.ireturn, 1) := by decide +kernel
abbrev csX7_set : List (List Cond) := [[.code yX7_set cX7_set 4 (some .int)], wsX7_set_r1, wsX7_set_r2, wsX70, wsX60, wsX20, wsX40]
set_option maxRecDepth 20000 in
theorem hbX7_set : wsX7_set = csX7_set.flatten := rfl
set_option maxRecDepth 20000 in
theorem ggX7_set_X7_isNoSetting : GoodIn wsX7_set wsX7_isNoSetting := goodIn_c csX7_set hbX7_set _ [(1, 7), (1, 8), (1, 9)] rfl (by decide +kernel)
set_option maxRecDepth 20000 in
theorem gX7_set_X7_isNoSetting : GoodIn wsX7_set (va_wsS RX7 92 yX7_isNoSetting wsX7_isNoSetting) := goodIn_app (goodIn_c csX7_set hbX7_set [.methodLink RX7 92 yX7_isNoSetting, .static yX7_isNoSetting, .initialized yX7_isNoSetting.cls] [(1, 4), (1, 5), (1, 6)] rfl (by decide +kernel)) ggX7_set_X7_isNoSetting
set_option maxRecDepth 20000 in
theorem ggX7_set_X7_leastOf : GoodIn wsX7_set wsX7_leastOf := goodIn_c csX7_set hbX7_set _ [(1, 12), (1, 8), (1, 4), (1, 5), (1, 6), (1, 7), (1, 9)] rfl (by decide +kernel)
set_option maxRecDepth 20000 in
theorem gX7_set_X7_leastOf : GoodIn wsX7_set (va_wsS RX7 96 yX7_leastOf wsX7_leastOf) := goodIn_app (goodIn_c csX7_set hbX7_set [.methodLink RX7 96 yX7_leastOf, .static yX7_leastOf, .initialized yX7_leastOf.cls] [(1, 10), (1, 11), (1, 6)] rfl (by decide +kernel)) ggX7_set_X7_leastOf
set_option maxRecDepth 20000 in
theorem ggX7_set_X7_mostOf : GoodIn wsX7_set wsX7_mostOf := goodIn_c csX7_set hbX7_set _ [(1, 15), (1, 9), (1, 4), (1, 5), (1, 6), (1, 7), (1, 8)] rfl (by decide +kernel)
set_option maxRecDepth 20000 in
theorem gX7_set_X7_mostOf : GoodIn wsX7_set (va_wsS RX7 100 yX7_mostOf wsX7_mostOf) := goodIn_app (goodIn_c csX7_set hbX7_set [.methodLink RX7 100 yX7_mostOf, .static yX7_mostOf, .initialized yX7_mostOf.cls] [(1, 13), (1, 14), (1, 6)] rfl (by decide +kernel)) ggX7_set_X7_mostOf
set_option maxRecDepth 20000 in
theorem ggX7_set_X7_isOutside : GoodIn wsX7_set wsX7_isOutside := goodIn_c csX7_set hbX7_set _ [(1, 18)] rfl (by decide +kernel)
set_option maxRecDepth 20000 in
theorem gX7_set_X7_isOutside : GoodIn wsX7_set (va_wsS RX7 43 yX7_isOutside wsX7_isOutside) := goodIn_app (goodIn_c csX7_set hbX7_set [.methodLink RX7 43 yX7_isOutside, .static yX7_isOutside, .initialized yX7_isOutside.cls] [(1, 16), (1, 17), (1, 6)] rfl (by decide +kernel)) ggX7_set_X7_isOutside
set_option maxRecDepth 20000 in
theorem ggX7_set_X4_valueOf : GoodIn wsX7_set wsX4_valueOf := goodIn_c csX7_set hbX7_set _ [(1, 23), (2, 0), (2, 1), (2, 2), (2, 3), (2, 4), (2, 5), (6, 0), (6, 1), (6, 2), (6, 3), (6, 4), (6, 5)] rfl (by decide +kernel)
set_option maxRecDepth 20000 in
theorem gX7_set_X4_valueOf : GoodIn wsX7_set (wsV RX7 107 RX4 yX4_valueOf wsX4_valueOf) := goodIn_app (goodIn_c csX7_set hbX7_set [.methodLink RX7 107 yX4_valueOf, .instanceMethod yX4_valueOf, .selects RX4 yX4_valueOf yX4_valueOf, .initialized RX4] [(1, 19), (1, 20), (1, 21), (1, 22)] rfl (by decide +kernel)) ggX7_set_X4_valueOf
set_option maxRecDepth 20000 in
theorem ggX7_set_X4_change : GoodIn wsX7_set wsX4_change := goodIn_c csX7_set hbX7_set _ [(2, 9), (2, 0), (2, 1), (2, 2), (2, 3), (2, 4), (2, 5), (6, 0), (6, 1), (6, 2), (6, 3), (6, 4), (6, 5)] rfl (by decide +kernel)
set_option maxRecDepth 20000 in
theorem gX7_set_X4_change : GoodIn wsX7_set (wsV RX7 112 RX4 yX4_change wsX4_change) := goodIn_app (goodIn_c csX7_set hbX7_set [.methodLink RX7 112 yX4_change, .instanceMethod yX4_change, .selects RX4 yX4_change yX4_change, .initialized RX4] [(2, 6), (2, 7), (2, 8), (1, 22)] rfl (by decide +kernel)) ggX7_set_X4_change
theorem dX7_set_0 : decode cX7_set 0 = .ok (.iload_n 1, 1) := by decide +kernel
theorem dX7_set_1 : decode cX7_set 1 = .ok (.invokestatic 92, 3) := by decide +kernel
theorem dX7_set_4 : decode cX7_set 4 = .ok (.ifCond .ne 18, 3) := by decide +kernel
theorem dX7_set_7 : decode cX7_set 7 = .ok (.iload_n 2, 1) := by decide +kernel
theorem dX7_set_8 : decode cX7_set 8 = .ok (.iload_n 1, 1) := by decide +kernel
theorem dX7_set_9 : decode cX7_set 9 = .ok (.invokestatic 96, 3) := by decide +kernel
theorem dX7_set_12 : decode cX7_set 12 = .ok (.iload_n 1, 1) := by decide +kernel
theorem dX7_set_13 : decode cX7_set 13 = .ok (.invokestatic 100, 3) := by decide +kernel
theorem dX7_set_16 : decode cX7_set 16 = .ok (.invokestatic 43, 3) := by decide +kernel
theorem dX7_set_19 : decode cX7_set 19 = .ok (.ifCond .eq 6, 3) := by decide +kernel
theorem dX7_set_22 : decode cX7_set 22 = .ok (.bipush (-2), 2) := by decide +kernel
theorem dX7_set_24 : decode cX7_set 24 = .ok (.ireturn, 1) := by decide +kernel
theorem dX7_set_25 : decode cX7_set 25 = .ok (.aload_n 0, 1) := by decide +kernel
theorem dX7_set_26 : decode cX7_set 26 = .ok (.getfield 10, 3) := by decide +kernel
theorem dX7_set_29 : decode cX7_set 29 = .ok (.getfield 47, 3) := by decide +kernel
theorem dX7_set_32 : decode cX7_set 32 = .ok (.getfield 103, 3) := by decide +kernel
theorem dX7_set_35 : decode cX7_set 35 = .ok (.iload_n 1, 1) := by decide +kernel
theorem dX7_set_36 : decode cX7_set 36 = .ok (.invokevirtual 107, 3) := by decide +kernel
theorem dX7_set_39 : decode cX7_set 39 = .ok (.istore_n 3, 1) := by decide +kernel
theorem dX7_set_40 : decode cX7_set 40 = .ok (.aload_n 0, 1) := by decide +kernel
theorem dX7_set_41 : decode cX7_set 41 = .ok (.getfield 10, 3) := by decide +kernel
theorem dX7_set_44 : decode cX7_set 44 = .ok (.getfield 47, 3) := by decide +kernel
theorem dX7_set_47 : decode cX7_set 47 = .ok (.getfield 103, 3) := by decide +kernel
theorem dX7_set_50 : decode cX7_set 50 = .ok (.iload_n 1, 1) := by decide +kernel
theorem dX7_set_51 : decode cX7_set 51 = .ok (.iload_n 2, 1) := by decide +kernel
theorem dX7_set_52 : decode cX7_set 52 = .ok (.invokevirtual 112, 3) := by decide +kernel
theorem dX7_set_55 : decode cX7_set 55 = .ok (.iload_n 1, 1) := by decide +kernel
theorem dX7_set_56 : decode cX7_set 56 = .ok (.iconst 3, 1) := by decide +kernel
theorem dX7_set_57 : decode cX7_set 57 = .ok (.if_icmp .ne 14, 3) := by decide +kernel
theorem dX7_set_60 : decode cX7_set 60 = .ok (.aload_n 0, 1) := by decide +kernel
theorem dX7_set_61 : decode cX7_set 61 = .ok (.getfield 10, 3) := by decide +kernel
theorem dX7_set_64 : decode cX7_set 64 = .ok (.getfield 47, 3) := by decide +kernel
theorem dX7_set_67 : decode cX7_set 67 = .ok (.iconst 0, 1) := by decide +kernel
theorem dX7_set_68 : decode cX7_set 68 = .ok (.putfield 116, 3) := by decide +kernel
theorem dX7_set_71 : decode cX7_set 71 = .ok (.iload_n 3, 1) := by decide +kernel
theorem dX7_set_72 : decode cX7_set 72 = .ok (.ireturn, 1) := by decide +kernel
abbrev csX7_get : List (List Cond) := [[.code yX7_get cX7_get 2 (some .int)], [.fieldLink RX7 10 "SlopeMeter" "state" "LSlopeMeter$State;", .fieldLink RX7 47 "SlopeMeter$State" "meter" "LSlopeMeter$Meter;", .fieldLink RX7 103 "SlopeMeter$Meter" "settings" "LSlopeMeter$Settings;", .methodLink RX7 92 yX7_isNoSetting, .static yX7_isNoSetting, .initialized RX7, .code yX7_isNoSetting cX7_isNoSetting 1 (some .boolean), .fieldLink RX7 235 "SlopeMeter" "LEAST_SETTINGS" "[I", .fieldLink RX7 239 "SlopeMeter" "MOST_SETTINGS" "[I", .methodLink RX7 107 yX4_valueOf, .instanceMethod yX4_valueOf, .selects RX4 yX4_valueOf yX4_valueOf, .initialized RX4, .code yX4_valueOf cX4_valueOf 2 (some .int), .fieldLink RX4 9 "SlopeMeter$Settings" "window" "I", .fieldLink RX4 15 "SlopeMeter$Settings" "slotTicks" "I", .fieldLink RX4 18 "SlopeMeter$Settings" "mode" "I", .fieldLink RX4 21 "SlopeMeter$Settings" "zeroEvery" "I", .fieldLink RX4 24 "SlopeMeter$Settings" "auto" "I", .fieldLink RX4 27 "SlopeMeter$Settings" "range" "I"], wsX70, wsX60, wsX20, wsX40]
set_option maxRecDepth 20000 in
theorem hbX7_get : wsX7_get = csX7_get.flatten := rfl
set_option maxRecDepth 20000 in
theorem ggX7_get_X7_isNoSetting : GoodIn wsX7_get wsX7_isNoSetting := goodIn_c csX7_get hbX7_get _ [(1, 6), (1, 7), (1, 8)] rfl (by decide +kernel)
set_option maxRecDepth 20000 in
theorem gX7_get_X7_isNoSetting : GoodIn wsX7_get (va_wsS RX7 92 yX7_isNoSetting wsX7_isNoSetting) := goodIn_app (goodIn_c csX7_get hbX7_get [.methodLink RX7 92 yX7_isNoSetting, .static yX7_isNoSetting, .initialized yX7_isNoSetting.cls] [(1, 3), (1, 4), (1, 5)] rfl (by decide +kernel)) ggX7_get_X7_isNoSetting
set_option maxRecDepth 20000 in
theorem ggX7_get_X4_valueOf : GoodIn wsX7_get wsX4_valueOf := goodIn_c csX7_get hbX7_get _ [(1, 13), (1, 14), (1, 15), (1, 16), (1, 17), (1, 18), (1, 19), (5, 0), (5, 1), (5, 2), (5, 3), (5, 4), (5, 5)] rfl (by decide +kernel)
set_option maxRecDepth 20000 in
theorem gX7_get_X4_valueOf : GoodIn wsX7_get (wsV RX7 107 RX4 yX4_valueOf wsX4_valueOf) := goodIn_app (goodIn_c csX7_get hbX7_get [.methodLink RX7 107 yX4_valueOf, .instanceMethod yX4_valueOf, .selects RX4 yX4_valueOf yX4_valueOf, .initialized RX4] [(1, 9), (1, 10), (1, 11), (1, 12)] rfl (by decide +kernel)) ggX7_get_X4_valueOf
theorem dX7_get_0 : decode cX7_get 0 = .ok (.iload_n 1, 1) := by decide +kernel
theorem dX7_get_1 : decode cX7_get 1 = .ok (.invokestatic 92, 3) := by decide +kernel
theorem dX7_get_4 : decode cX7_get 4 = .ok (.ifCond .eq 6, 3) := by decide +kernel
theorem dX7_get_7 : decode cX7_get 7 = .ok (.bipush (-2), 2) := by decide +kernel
theorem dX7_get_9 : decode cX7_get 9 = .ok (.ireturn, 1) := by decide +kernel
theorem dX7_get_10 : decode cX7_get 10 = .ok (.aload_n 0, 1) := by decide +kernel
theorem dX7_get_11 : decode cX7_get 11 = .ok (.getfield 10, 3) := by decide +kernel
theorem dX7_get_14 : decode cX7_get 14 = .ok (.getfield 47, 3) := by decide +kernel
theorem dX7_get_17 : decode cX7_get 17 = .ok (.getfield 103, 3) := by decide +kernel
theorem dX7_get_20 : decode cX7_get 20 = .ok (.iload_n 1, 1) := by decide +kernel
theorem dX7_get_21 : decode cX7_get 21 = .ok (.invokevirtual 107, 3) := by decide +kernel
theorem dX7_get_24 : decode cX7_get 24 = .ok (.ireturn, 1) := by decide +kernel
abbrev csX7_probe : List (List Cond) := [[.code yX7_probe cX7_probe 5 (some .long)], wsX7_probe_r1, wsX7_probe_r2, wsX70, wsX60, wsX20, wsX40, wsX50]
set_option maxRecDepth 20000 in
theorem hbX7_probe : wsX7_probe = csX7_probe.flatten := rfl
set_option maxRecDepth 20000 in
theorem ggX7_probe_X7_isOutside : GoodIn wsX7_probe wsX7_isOutside := goodIn_c csX7_probe hbX7_probe _ [(1, 11)] rfl (by decide +kernel)
set_option maxRecDepth 20000 in
theorem gX7_probe_X7_isOutside : GoodIn wsX7_probe (va_wsS RX7 43 yX7_isOutside wsX7_isOutside) := goodIn_app (goodIn_c csX7_probe hbX7_probe [.methodLink RX7 43 yX7_isOutside, .static yX7_isOutside, .initialized yX7_isOutside.cls] [(1, 8), (1, 9), (1, 10)] rfl (by decide +kernel)) ggX7_probe_X7_isOutside
set_option maxRecDepth 20000 in
theorem ggX7_probe_X5_humAt : GoodIn wsX7_probe wsX5_humAt := goodIn_c csX7_probe hbX7_probe _ [(1, 16), (1, 17), (1, 18), (7, 0), (7, 1), (7, 2), (7, 3), (7, 4)] rfl (by decide +kernel)
set_option maxRecDepth 20000 in
theorem gX7_probe_X5_humAt : GoodIn wsX7_probe (wsV RX7 121 RX5 yX5_humAt wsX5_humAt) := goodIn_app (goodIn_c csX7_probe hbX7_probe [.methodLink RX7 121 yX5_humAt, .instanceMethod yX5_humAt, .selects RX5 yX5_humAt yX5_humAt, .initialized RX5] [(1, 12), (1, 13), (1, 14), (1, 15)] rfl (by decide +kernel)) ggX7_probe_X5_humAt
set_option maxRecDepth 20000 in
theorem ggX7_probe_X7_gainOf : GoodIn wsX7_probe wsX7_gainOf := goodIn_c csX7_probe hbX7_probe _ [(1, 21), (1, 22)] rfl (by decide +kernel)
set_option maxRecDepth 20000 in
theorem gX7_probe_X7_gainOf : GoodIn wsX7_probe (va_wsS RX7 127 yX7_gainOf wsX7_gainOf) := goodIn_app (goodIn_c csX7_probe hbX7_probe [.methodLink RX7 127 yX7_gainOf, .static yX7_gainOf, .initialized yX7_gainOf.cls] [(1, 19), (1, 20), (1, 10)] rfl (by decide +kernel)) ggX7_probe_X7_gainOf
set_option maxRecDepth 20000 in
theorem ggX7_probe_X5_inputAt : GoodIn wsX7_probe wsX5_inputAt := goodIn_c csX7_probe hbX7_probe _ [(2, 2), (2, 3), (2, 4), (2, 5), (1, 13), (1, 14), (1, 15), (1, 16), (1, 17), (1, 18), (2, 6), (1, 10), (2, 7), (7, 0), (7, 1), (7, 2), (7, 3), (7, 4)] rfl (by decide +kernel)
set_option maxRecDepth 20000 in
theorem gX7_probe_X5_inputAt : GoodIn wsX7_probe (wsV RX7 130 RX5 yX5_inputAt wsX5_inputAt) := goodIn_app (goodIn_c csX7_probe hbX7_probe [.methodLink RX7 130 yX5_inputAt, .instanceMethod yX5_inputAt, .selects RX5 yX5_inputAt yX5_inputAt, .initialized RX5] [(1, 23), (2, 0), (2, 1), (1, 15)] rfl (by decide +kernel)) ggX7_probe_X5_inputAt
set_option maxRecDepth 20000 in
theorem ggX7_probe_X5_offsetAt : GoodIn wsX7_probe wsX5_offsetAt := goodIn_c csX7_probe hbX7_probe _ [(2, 11), (2, 12), (2, 13), (2, 14), (2, 15), (2, 6), (1, 10), (2, 7), (7, 0), (7, 1), (7, 2), (7, 3), (7, 4)] rfl (by decide +kernel)
set_option maxRecDepth 20000 in
theorem gX7_probe_X5_offsetAt : GoodIn wsX7_probe (wsV RX7 87 RX5 yX5_offsetAt wsX5_offsetAt) := goodIn_app (goodIn_c csX7_probe hbX7_probe [.methodLink RX7 87 yX5_offsetAt, .instanceMethod yX5_offsetAt, .selects RX5 yX5_offsetAt yX5_offsetAt, .initialized RX5] [(2, 8), (2, 9), (2, 10), (1, 15)] rfl (by decide +kernel)) ggX7_probe_X5_offsetAt
theorem dX7_probe_0 : decode cX7_probe 0 = .ok (.iload_n 1, 1) := by decide +kernel
theorem dX7_probe_1 : decode cX7_probe 1 = .ok (.iconst 0, 1) := by decide +kernel
theorem dX7_probe_2 : decode cX7_probe 2 = .ok (.ldc 77, 2) := by decide +kernel
theorem dX7_probe_4 : decode cX7_probe 4 = .ok (.invokestatic 43, 3) := by decide +kernel
theorem dX7_probe_7 : decode cX7_probe 7 = .ok (.ifCond .ne 12, 3) := by decide +kernel
theorem dX7_probe_10 : decode cX7_probe 10 = .ok (.iload_n 2, 1) := by decide +kernel
theorem dX7_probe_11 : decode cX7_probe 11 = .ok (.iconst 0, 1) := by decide +kernel
theorem dX7_probe_12 : decode cX7_probe 12 = .ok (.iconst 2, 1) := by decide +kernel
theorem dX7_probe_13 : decode cX7_probe 13 = .ok (.invokestatic 43, 3) := by decide +kernel
theorem dX7_probe_16 : decode cX7_probe 16 = .ok (.ifCond .eq 7, 3) := by decide +kernel
theorem dX7_probe_19 : decode cX7_probe 19 = .ok (.ldc2_w 119, 3) := by decide +kernel
theorem dX7_probe_22 : decode cX7_probe 22 = .ok (.lreturn, 1) := by decide +kernel
theorem dX7_probe_23 : decode cX7_probe 23 = .ok (.aload_n 0, 1) := by decide +kernel
theorem dX7_probe_24 : decode cX7_probe 24 = .ok (.getfield 10, 3) := by decide +kernel
theorem dX7_probe_27 : decode cX7_probe 27 = .ok (.getfield 47, 3) := by decide +kernel
theorem dX7_probe_30 : decode cX7_probe 30 = .ok (.getfield 50, 3) := by decide +kernel
theorem dX7_probe_33 : decode cX7_probe 33 = .ok (.astore_n 3, 1) := by decide +kernel
theorem dX7_probe_34 : decode cX7_probe 34 = .ok (.aload_n 0, 1) := by decide +kernel
theorem dX7_probe_35 : decode cX7_probe 35 = .ok (.getfield 10, 3) := by decide +kernel
theorem dX7_probe_38 : decode cX7_probe 38 = .ok (.getfield 47, 3) := by decide +kernel
theorem dX7_probe_41 : decode cX7_probe 41 = .ok (.getfield 84, 3) := by decide +kernel
theorem dX7_probe_44 : decode cX7_probe 44 = .ok (.iload_n 1, 1) := by decide +kernel
theorem dX7_probe_45 : decode cX7_probe 45 = .ok (.iadd, 1) := by decide +kernel
theorem dX7_probe_46 : decode cX7_probe 46 = .ok (.istore 4, 2) := by decide +kernel
theorem dX7_probe_48 : decode cX7_probe 48 = .ok (.iload_n 2, 1) := by decide +kernel
theorem dX7_probe_49 : decode cX7_probe 49 = .ok (.ifCond .ne 11, 3) := by decide +kernel
theorem dX7_probe_52 : decode cX7_probe 52 = .ok (.aload_n 3, 1) := by decide +kernel
theorem dX7_probe_53 : decode cX7_probe 53 = .ok (.iload 4, 2) := by decide +kernel
theorem dX7_probe_55 : decode cX7_probe 55 = .ok (.invokevirtual 121, 3) := by decide +kernel
theorem dX7_probe_58 : decode cX7_probe 58 = .ok (.i2l, 1) := by decide +kernel
theorem dX7_probe_59 : decode cX7_probe 59 = .ok (.lreturn, 1) := by decide +kernel
theorem dX7_probe_60 : decode cX7_probe 60 = .ok (.iload_n 2, 1) := by decide +kernel
theorem dX7_probe_61 : decode cX7_probe 61 = .ok (.iconst 1, 1) := by decide +kernel
theorem dX7_probe_62 : decode cX7_probe 62 = .ok (.if_icmp .ne 26, 3) := by decide +kernel
theorem dX7_probe_65 : decode cX7_probe 65 = .ok (.aload_n 3, 1) := by decide +kernel
theorem dX7_probe_66 : decode cX7_probe 66 = .ok (.iload 4, 2) := by decide +kernel
theorem dX7_probe_68 : decode cX7_probe 68 = .ok (.aload_n 0, 1) := by decide +kernel
theorem dX7_probe_69 : decode cX7_probe 69 = .ok (.getfield 10, 3) := by decide +kernel
theorem dX7_probe_72 : decode cX7_probe 72 = .ok (.getfield 47, 3) := by decide +kernel
theorem dX7_probe_75 : decode cX7_probe 75 = .ok (.getfield 103, 3) := by decide +kernel
theorem dX7_probe_78 : decode cX7_probe 78 = .ok (.getfield 124, 3) := by decide +kernel
theorem dX7_probe_81 : decode cX7_probe 81 = .ok (.invokestatic 127, 3) := by decide +kernel
theorem dX7_probe_84 : decode cX7_probe 84 = .ok (.invokevirtual 130, 3) := by decide +kernel
theorem dX7_probe_87 : decode cX7_probe 87 = .ok (.lreturn, 1) := by decide +kernel
theorem dX7_probe_88 : decode cX7_probe 88 = .ok (.aload_n 3, 1) := by decide +kernel
theorem dX7_probe_89 : decode cX7_probe 89 = .ok (.iload 4, 2) := by decide +kernel
theorem dX7_probe_91 : decode cX7_probe 91 = .ok (.invokevirtual 87, 3) := by decide +kernel
theorem dX7_probe_94 : decode cX7_probe 94 = .ok (.lreturn, 1) := by decide +kernel
abbrev csX7_read : List (List Cond) := [[.code yX7_read cX7_read 1 (some .long)], wsX7_read_r1, wsX7_read_r2, wsX7_read_r3, wsX7_read_r4, wsX7_read_r5, wsX7_read_r6, wsX7_read_r7, wsX70, wsX60, wsX10, wsX20, wsX40, wsX00, wsX50]
set_option maxRecDepth 20000 in
theorem hbX7_read : wsX7_read = csX7_read.flatten := rfl
set_option maxRecDepth 20000 in
theorem ggX7_read_X6_makeReading : GoodIn wsX7_read wsX6_makeReading := goodIn_c csX7_read hbX7_read _ [(1, 8), (1, 9), (1, 10), (1, 11), (1, 12), (1, 13), (1, 14), (1, 15), (1, 16), (1, 17), (1, 18), (1, 19), (1, 20), (1, 21), (1, 22), (1, 23), (2, 0), (2, 1), (2, 2), (2, 3), (2, 4), (2, 5), (2, 6), (2, 7), (2, 8), (2, 9), (2, 10), (2, 11), (2, 12), (2, 13), (2, 14), (2, 15), (2, 16), (2, 17), (2, 18), (2, 19), (2, 20), (2, 21), (2, 22), (2, 23), (3, 0), (3, 1), (3, 2), (3, 3), (3, 4), (3, 5), (3, 6), (3, 7), (3, 8), (3, 9), (3, 10), (3, 11), (3, 12), (3, 13), (3, 14), (3, 15), (3, 16), (3, 17), (3, 18), (3, 19), (3, 20), (3, 21), (3, 22), (3, 23), (4, 0), (4, 1), (4, 2), (4, 3), (4, 4), (4, 5), (4, 6), (4, 7), (4, 8), (4, 9), (4, 10), (4, 11), (4, 12), (4, 13), (4, 14), (4, 15), (4, 16), (4, 17), (4, 18), (4, 19), (4, 20), (4, 21), (4, 22), (4, 23), (5, 0), (5, 1), (5, 2), (5, 3), (5, 4), (5, 5), (5, 6), (5, 7), (5, 8), (5, 9), (5, 10), (5, 11), (5, 12), (5, 13), (5, 14), (5, 15), (5, 16), (5, 17), (5, 18), (5, 19), (5, 20), (5, 21), (5, 22), (5, 23), (6, 0), (6, 1), (6, 2), (6, 3), (6, 4), (6, 5), (6, 6), (6, 7), (6, 8), (6, 9), (6, 10), (6, 11), (6, 12), (6, 13), (6, 14), (6, 15), (6, 16), (6, 17), (6, 18), (6, 19), (6, 20), (6, 21), (6, 22), (6, 23), (7, 0), (7, 1), (7, 2), (7, 3), (9, 0), (9, 1), (11, 0), (11, 1), (11, 2), (11, 3), (11, 4), (11, 5), (11, 6), (11, 7), (11, 8), (12, 0), (12, 1), (12, 2), (12, 3), (12, 4), (12, 5), (13, 0), (13, 1), (13, 2), (13, 3), (13, 4), (13, 5), (13, 6), (13, 7), (13, 8), (14, 0), (14, 1), (14, 2), (14, 3), (14, 4), (10, 0), (10, 1)] rfl (by decide +kernel)
set_option maxRecDepth 20000 in
theorem gX7_read_X6_makeReading : GoodIn wsX7_read (wsV RX7 136 RX6 yX6_makeReading wsX6_makeReading) := goodIn_app (goodIn_c csX7_read hbX7_read [.methodLink RX7 136 yX6_makeReading, .instanceMethod yX6_makeReading, .selects RX6 yX6_makeReading yX6_makeReading, .initialized RX6] [(1, 4), (1, 5), (1, 6), (1, 7)] rfl (by decide +kernel)) ggX7_read_X6_makeReading
theorem dX7_read_0 : decode cX7_read 0 = .ok (.aload_n 0, 1) := by decide +kernel
theorem dX7_read_1 : decode cX7_read 1 = .ok (.getfield 10, 3) := by decide +kernel
theorem dX7_read_4 : decode cX7_read 4 = .ok (.getfield 60, 3) := by decide +kernel
theorem dX7_read_7 : decode cX7_read 7 = .ok (.getfield 64, 3) := by decide +kernel
theorem dX7_read_10 : decode cX7_read 10 = .ok (.sipush 10000, 3) := by decide +kernel
theorem dX7_read_13 : decode cX7_read 13 = .ok (.if_icmp .lt 7, 3) := by decide +kernel
theorem dX7_read_16 : decode cX7_read 16 = .ok (.ldc2_w 134, 3) := by decide +kernel
theorem dX7_read_19 : decode cX7_read 19 = .ok (.lreturn, 1) := by decide +kernel
theorem dX7_read_20 : decode cX7_read 20 = .ok (.aload_n 0, 1) := by decide +kernel
theorem dX7_read_21 : decode cX7_read 21 = .ok (.getfield 10, 3) := by decide +kernel
theorem dX7_read_24 : decode cX7_read 24 = .ok (.invokevirtual 136, 3) := by decide +kernel
theorem dX7_read_27 : decode cX7_read 27 = .ok (.lreturn, 1) := by decide +kernel
abbrev csX7_zero : List (List Cond) := [[.code yX7_zero cX7_zero 1 (some .int)], wsX7_zero_r1, wsX7_zero_r2, wsX7_zero_r3, wsX7_zero_r4, wsX70, wsX60, wsX20, wsX00, wsX40, wsX50]
set_option maxRecDepth 20000 in
theorem hbX7_zero : wsX7_zero = csX7_zero.flatten := rfl
set_option maxRecDepth 20000 in
theorem ggX7_zero_X2_convertZero : GoodIn wsX7_zero wsX2_convertZero := goodIn_c csX7_zero hbX7_zero _ [(1, 8), (1, 9), (1, 10), (1, 11), (1, 12), (1, 13), (1, 14), (1, 7), (1, 15), (1, 16), (1, 17), (1, 18), (1, 19), (1, 20), (1, 21), (1, 22), (1, 23), (2, 0), (2, 1), (2, 2), (2, 3), (2, 4), (2, 5), (2, 6), (2, 7), (2, 8), (2, 9), (2, 10), (2, 11), (2, 12), (2, 13), (2, 14), (2, 15), (2, 16), (2, 17), (2, 18), (2, 19), (2, 20), (2, 21), (2, 22), (2, 23), (3, 0), (3, 1), (3, 2), (3, 3), (3, 4), (3, 5), (3, 6), (3, 7), (3, 8), (3, 9), (3, 10), (3, 11), (3, 12), (3, 13), (3, 14), (3, 15), (3, 16), (3, 17), (3, 18), (3, 19), (3, 20), (3, 21), (3, 22), (3, 23), (4, 0), (4, 1), (4, 2), (4, 3), (4, 4), (4, 5), (4, 6), (4, 7), (4, 8), (4, 9), (4, 10), (4, 11), (4, 12), (4, 13), (7, 0), (7, 1), (7, 2), (7, 3), (7, 4), (7, 5), (7, 6), (7, 7), (7, 8), (8, 0), (8, 1), (8, 2), (8, 3), (8, 4), (8, 5), (8, 6), (8, 7), (8, 8), (9, 0), (9, 1), (9, 2), (9, 3), (9, 4), (9, 5), (10, 0), (10, 1), (10, 2), (10, 3), (10, 4)] rfl (by decide +kernel)
set_option maxRecDepth 20000 in
theorem gX7_zero_X2_convertZero : GoodIn wsX7_zero (wsV RX7 140 RX2 yX2_convertZero wsX2_convertZero) := goodIn_app (goodIn_c csX7_zero hbX7_zero [.methodLink RX7 140 yX2_convertZero, .instanceMethod yX2_convertZero, .selects RX2 yX2_convertZero yX2_convertZero, .initialized RX2] [(1, 4), (1, 5), (1, 6), (1, 7)] rfl (by decide +kernel)) ggX7_zero_X2_convertZero
theorem dX7_zero_0 : decode cX7_zero 0 = .ok (.aload_n 0, 1) := by decide +kernel
theorem dX7_zero_1 : decode cX7_zero 1 = .ok (.getfield 10, 3) := by decide +kernel
theorem dX7_zero_4 : decode cX7_zero 4 = .ok (.getfield 47, 3) := by decide +kernel
theorem dX7_zero_7 : decode cX7_zero 7 = .ok (.invokevirtual 140, 3) := by decide +kernel
theorem dX7_zero_10 : decode cX7_zero 10 = .ok (.aload_n 0, 1) := by decide +kernel
theorem dX7_zero_11 : decode cX7_zero 11 = .ok (.getfield 10, 3) := by decide +kernel
theorem dX7_zero_14 : decode cX7_zero 14 = .ok (.getfield 47, 3) := by decide +kernel
theorem dX7_zero_17 : decode cX7_zero 17 = .ok (.getfield 143, 3) := by decide +kernel
theorem dX7_zero_20 : decode cX7_zero 20 = .ok (.ldc 146, 2) := by decide +kernel
theorem dX7_zero_22 : decode cX7_zero 22 = .ok (.iadd, 1) := by decide +kernel
theorem dX7_zero_23 : decode cX7_zero 23 = .ok (.ireturn, 1) := by decide +kernel
abbrev csX7_pass : List (List Cond) := [[.code yX7_pass cX7_pass 2 (some .int)], [.constant RX7 77 (100000), .fieldLink RX7 10 "SlopeMeter" "state" "LSlopeMeter$State;", .fieldLink RX7 47 "SlopeMeter$State" "meter" "LSlopeMeter$Meter;", .fieldLink RX7 84 "SlopeMeter$Meter" "time" "I", .methodLink RX7 43 yX7_isOutside, .static yX7_isOutside, .initialized RX7, .code yX7_isOutside cX7_isOutside 3 (some .boolean), .methodLink RX7 147 yX2_canWait, .instanceMethod yX2_canWait, .selects RX2 yX2_canWait yX2_canWait, .initialized RX2, .code yX2_canWait cX2_canWait 2 (some .boolean), .fieldLink RX2 42 "SlopeMeter$Meter" "time" "I", .constant RX2 62 (1000000000)], wsX70, wsX60, wsX20]
set_option maxRecDepth 20000 in
theorem hbX7_pass : wsX7_pass = csX7_pass.flatten := rfl
set_option maxRecDepth 20000 in
theorem ggX7_pass_X7_isOutside : GoodIn wsX7_pass wsX7_isOutside := goodIn_c csX7_pass hbX7_pass _ [(1, 7)] rfl (by decide +kernel)
set_option maxRecDepth 20000 in
theorem gX7_pass_X7_isOutside : GoodIn wsX7_pass (va_wsS RX7 43 yX7_isOutside wsX7_isOutside) := goodIn_app (goodIn_c csX7_pass hbX7_pass [.methodLink RX7 43 yX7_isOutside, .static yX7_isOutside, .initialized yX7_isOutside.cls] [(1, 4), (1, 5), (1, 6)] rfl (by decide +kernel)) ggX7_pass_X7_isOutside
set_option maxRecDepth 20000 in
theorem ggX7_pass_X2_canWait : GoodIn wsX7_pass wsX2_canWait := goodIn_c csX7_pass hbX7_pass _ [(1, 12), (1, 13), (1, 14), (4, 0), (4, 1), (4, 2), (4, 3), (4, 4), (4, 5), (4, 6), (4, 7), (4, 8)] rfl (by decide +kernel)
set_option maxRecDepth 20000 in
theorem gX7_pass_X2_canWait : GoodIn wsX7_pass (wsV RX7 147 RX2 yX2_canWait wsX2_canWait) := goodIn_app (goodIn_c csX7_pass hbX7_pass [.methodLink RX7 147 yX2_canWait, .instanceMethod yX2_canWait, .selects RX2 yX2_canWait yX2_canWait, .initialized RX2] [(1, 8), (1, 9), (1, 10), (1, 11)] rfl (by decide +kernel)) ggX7_pass_X2_canWait
theorem dX7_pass_0 : decode cX7_pass 0 = .ok (.iload_n 1, 1) := by decide +kernel
theorem dX7_pass_1 : decode cX7_pass 1 = .ok (.iconst 1, 1) := by decide +kernel
theorem dX7_pass_2 : decode cX7_pass 2 = .ok (.ldc 77, 2) := by decide +kernel
theorem dX7_pass_4 : decode cX7_pass 4 = .ok (.invokestatic 43, 3) := by decide +kernel
theorem dX7_pass_7 : decode cX7_pass 7 = .ok (.ifCond .eq 6, 3) := by decide +kernel
theorem dX7_pass_10 : decode cX7_pass 10 = .ok (.bipush (-2), 2) := by decide +kernel
theorem dX7_pass_12 : decode cX7_pass 12 = .ok (.ireturn, 1) := by decide +kernel
theorem dX7_pass_13 : decode cX7_pass 13 = .ok (.aload_n 0, 1) := by decide +kernel
theorem dX7_pass_14 : decode cX7_pass 14 = .ok (.getfield 10, 3) := by decide +kernel
theorem dX7_pass_17 : decode cX7_pass 17 = .ok (.getfield 47, 3) := by decide +kernel
theorem dX7_pass_20 : decode cX7_pass 20 = .ok (.iload_n 1, 1) := by decide +kernel
theorem dX7_pass_21 : decode cX7_pass 21 = .ok (.invokevirtual 147, 3) := by decide +kernel
theorem dX7_pass_24 : decode cX7_pass 24 = .ok (.ifCond .ne 6, 3) := by decide +kernel
theorem dX7_pass_27 : decode cX7_pass 27 = .ok (.bipush (-5), 2) := by decide +kernel
theorem dX7_pass_29 : decode cX7_pass 29 = .ok (.ireturn, 1) := by decide +kernel
theorem dX7_pass_30 : decode cX7_pass 30 = .ok (.aload_n 0, 1) := by decide +kernel
theorem dX7_pass_31 : decode cX7_pass 31 = .ok (.getfield 10, 3) := by decide +kernel
theorem dX7_pass_34 : decode cX7_pass 34 = .ok (.getfield 47, 3) := by decide +kernel
theorem dX7_pass_37 : decode cX7_pass 37 = .ok (.dup, 1) := by decide +kernel
theorem dX7_pass_38 : decode cX7_pass 38 = .ok (.getfield 84, 3) := by decide +kernel
theorem dX7_pass_41 : decode cX7_pass 41 = .ok (.iload_n 1, 1) := by decide +kernel
theorem dX7_pass_42 : decode cX7_pass 42 = .ok (.iadd, 1) := by decide +kernel
theorem dX7_pass_43 : decode cX7_pass 43 = .ok (.putfield 84, 3) := by decide +kernel
theorem dX7_pass_46 : decode cX7_pass 46 = .ok (.aload_n 0, 1) := by decide +kernel
theorem dX7_pass_47 : decode cX7_pass 47 = .ok (.getfield 10, 3) := by decide +kernel
theorem dX7_pass_50 : decode cX7_pass 50 = .ok (.getfield 47, 3) := by decide +kernel
theorem dX7_pass_53 : decode cX7_pass 53 = .ok (.getfield 84, 3) := by decide +kernel
theorem dX7_pass_56 : decode cX7_pass 56 = .ok (.ireturn, 1) := by decide +kernel
abbrev csX7_log : List (List Cond) := [[.code yX7_log cX7_log 3 (some .long)], wsX7_log_r1, wsX7_log_r2, wsX70, wsX60, wsX10]
set_option maxRecDepth 20000 in
theorem hbX7_log : wsX7_log = csX7_log.flatten := rfl
set_option maxRecDepth 20000 in
theorem ggX7_log_X7_isOutside : GoodIn wsX7_log wsX7_isOutside := goodIn_c csX7_log hbX7_log _ [(1, 7)] rfl (by decide +kernel)
set_option maxRecDepth 20000 in
theorem gX7_log_X7_isOutside : GoodIn wsX7_log (va_wsS RX7 43 yX7_isOutside wsX7_isOutside) := goodIn_app (goodIn_c csX7_log hbX7_log [.methodLink RX7 43 yX7_isOutside, .static yX7_isOutside, .initialized yX7_isOutside.cls] [(1, 4), (1, 5), (1, 6)] rfl (by decide +kernel)) ggX7_log_X7_isOutside
set_option maxRecDepth 20000 in
theorem ggX7_log_X1_keeps : GoodIn wsX7_log wsX1_keeps := goodIn_c csX7_log hbX7_log _ [(1, 12), (1, 13), (1, 14), (1, 15), (1, 16), (1, 11), (1, 17), (1, 18), (1, 19), (1, 20), (1, 21), (5, 0), (5, 1)] rfl (by decide +kernel)
set_option maxRecDepth 20000 in
theorem gX7_log_X1_keeps : GoodIn wsX7_log (wsV RX7 150 RX1 yX1_keeps wsX1_keeps) := goodIn_app (goodIn_c csX7_log hbX7_log [.methodLink RX7 150 yX1_keeps, .instanceMethod yX1_keeps, .selects RX1 yX1_keeps yX1_keeps, .initialized RX1] [(1, 8), (1, 9), (1, 10), (1, 11)] rfl (by decide +kernel)) ggX7_log_X1_keeps
set_option maxRecDepth 20000 in
theorem ggX7_log_X1_numberOf : GoodIn wsX7_log wsX1_numberOf := goodIn_c csX7_log hbX7_log _ [(2, 1), (2, 2), (2, 3), (2, 4), (1, 11), (2, 5), (2, 6), (2, 7), (2, 8), (2, 9), (5, 0), (5, 1)] rfl (by decide +kernel)
set_option maxRecDepth 20000 in
theorem gX7_log_X1_numberOf : GoodIn wsX7_log (wsV RX7 155 RX1 yX1_numberOf wsX1_numberOf) := goodIn_app (goodIn_c csX7_log hbX7_log [.methodLink RX7 155 yX1_numberOf, .instanceMethod yX1_numberOf, .selects RX1 yX1_numberOf yX1_numberOf, .initialized RX1] [(1, 22), (1, 23), (2, 0), (1, 11)] rfl (by decide +kernel)) ggX7_log_X1_numberOf
theorem dX7_log_0 : decode cX7_log 0 = .ok (.iload_n 2, 1) := by decide +kernel
theorem dX7_log_1 : decode cX7_log 1 = .ok (.iconst 0, 1) := by decide +kernel
theorem dX7_log_2 : decode cX7_log 2 = .ok (.bipush 6, 2) := by decide +kernel
theorem dX7_log_4 : decode cX7_log 4 = .ok (.invokestatic 43, 3) := by decide +kernel
theorem dX7_log_7 : decode cX7_log 7 = .ok (.ifCond .eq 7, 3) := by decide +kernel
theorem dX7_log_10 : decode cX7_log 10 = .ok (.ldc2_w 119, 3) := by decide +kernel
theorem dX7_log_13 : decode cX7_log 13 = .ok (.lreturn, 1) := by decide +kernel
theorem dX7_log_14 : decode cX7_log 14 = .ok (.aload_n 0, 1) := by decide +kernel
theorem dX7_log_15 : decode cX7_log 15 = .ok (.getfield 10, 3) := by decide +kernel
theorem dX7_log_18 : decode cX7_log 18 = .ok (.getfield 60, 3) := by decide +kernel
theorem dX7_log_21 : decode cX7_log 21 = .ok (.iload_n 1, 1) := by decide +kernel
theorem dX7_log_22 : decode cX7_log 22 = .ok (.invokevirtual 150, 3) := by decide +kernel
theorem dX7_log_25 : decode cX7_log 25 = .ok (.ifCond .ne 7, 3) := by decide +kernel
theorem dX7_log_28 : decode cX7_log 28 = .ok (.ldc2_w 153, 3) := by decide +kernel
theorem dX7_log_31 : decode cX7_log 31 = .ok (.lreturn, 1) := by decide +kernel
theorem dX7_log_32 : decode cX7_log 32 = .ok (.aload_n 0, 1) := by decide +kernel
theorem dX7_log_33 : decode cX7_log 33 = .ok (.getfield 10, 3) := by decide +kernel
theorem dX7_log_36 : decode cX7_log 36 = .ok (.getfield 60, 3) := by decide +kernel
theorem dX7_log_39 : decode cX7_log 39 = .ok (.iload_n 1, 1) := by decide +kernel
theorem dX7_log_40 : decode cX7_log 40 = .ok (.iload_n 2, 1) := by decide +kernel
theorem dX7_log_41 : decode cX7_log 41 = .ok (.invokevirtual 155, 3) := by decide +kernel
theorem dX7_log_44 : decode cX7_log 44 = .ok (.lreturn, 1) := by decide +kernel
abbrev csX7_latest : List (List Cond) := [[.code yX7_latest cX7_latest 2 (some .long)], [.constantLong RX7 119 (-1000000000000000002), .fieldLink RX7 10 "SlopeMeter" "state" "LSlopeMeter$State;", .fieldLink RX7 47 "SlopeMeter$State" "meter" "LSlopeMeter$Meter;", .fieldLink RX7 158 "SlopeMeter$Meter" "conversion" "LSlopeMeter$Conversion;", .fieldLink RX7 162 "SlopeMeter$Conversion" "isMade" "Z", .constantLong RX7 168 (-1000000000000000005), .methodLink RX7 43 yX7_isOutside, .static yX7_isOutside, .initialized RX7, .code yX7_isOutside cX7_isOutside 3 (some .boolean), .methodLink RX7 170 yX0_numberOf, .instanceMethod yX0_numberOf, .selects RX0 yX0_numberOf yX0_numberOf, .initialized RX0, .code yX0_numberOf cX0_numberOf 2 (some .long), .fieldLink RX0 18 "SlopeMeter$Conversion" "counts" "I", .fieldLink RX0 22 "SlopeMeter$Conversion" "downTicks" "I", .fieldLink RX0 25 "SlopeMeter$Conversion" "fineTicks" "I", .fieldLink RX0 28 "SlopeMeter$Conversion" "subtractedTicks" "I", .fieldLink RX0 31 "SlopeMeter$Conversion" "addedTicks" "I", .fieldLink RX0 34 "SlopeMeter$Conversion" "peak" "J", .fieldLink RX0 38 "SlopeMeter$Conversion" "integral" "J"], wsX70, wsX60, wsX20, wsX00]
set_option maxRecDepth 20000 in
theorem hbX7_latest : wsX7_latest = csX7_latest.flatten := rfl
set_option maxRecDepth 20000 in
theorem ggX7_latest_X7_isOutside : GoodIn wsX7_latest wsX7_isOutside := goodIn_c csX7_latest hbX7_latest _ [(1, 9)] rfl (by decide +kernel)
set_option maxRecDepth 20000 in
theorem gX7_latest_X7_isOutside : GoodIn wsX7_latest (va_wsS RX7 43 yX7_isOutside wsX7_isOutside) := goodIn_app (goodIn_c csX7_latest hbX7_latest [.methodLink RX7 43 yX7_isOutside, .static yX7_isOutside, .initialized yX7_isOutside.cls] [(1, 6), (1, 7), (1, 8)] rfl (by decide +kernel)) ggX7_latest_X7_isOutside
set_option maxRecDepth 20000 in
theorem ggX7_latest_X0_numberOf : GoodIn wsX7_latest wsX0_numberOf := goodIn_c csX7_latest hbX7_latest _ [(1, 14), (1, 15), (1, 16), (1, 17), (1, 18), (1, 19), (1, 20), (1, 21), (5, 0), (5, 1), (5, 2), (5, 3), (5, 4), (5, 5), (5, 6), (5, 7), (5, 8)] rfl (by decide +kernel)
set_option maxRecDepth 20000 in
theorem gX7_latest_X0_numberOf : GoodIn wsX7_latest (wsV RX7 170 RX0 yX0_numberOf wsX0_numberOf) := goodIn_app (goodIn_c csX7_latest hbX7_latest [.methodLink RX7 170 yX0_numberOf, .instanceMethod yX0_numberOf, .selects RX0 yX0_numberOf yX0_numberOf, .initialized RX0] [(1, 10), (1, 11), (1, 12), (1, 13)] rfl (by decide +kernel)) ggX7_latest_X0_numberOf
theorem dX7_latest_0 : decode cX7_latest 0 = .ok (.iload_n 1, 1) := by decide +kernel
theorem dX7_latest_1 : decode cX7_latest 1 = .ok (.iconst 0, 1) := by decide +kernel
theorem dX7_latest_2 : decode cX7_latest 2 = .ok (.bipush 6, 2) := by decide +kernel
theorem dX7_latest_4 : decode cX7_latest 4 = .ok (.invokestatic 43, 3) := by decide +kernel
theorem dX7_latest_7 : decode cX7_latest 7 = .ok (.ifCond .eq 7, 3) := by decide +kernel
theorem dX7_latest_10 : decode cX7_latest 10 = .ok (.ldc2_w 119, 3) := by decide +kernel
theorem dX7_latest_13 : decode cX7_latest 13 = .ok (.lreturn, 1) := by decide +kernel
theorem dX7_latest_14 : decode cX7_latest 14 = .ok (.aload_n 0, 1) := by decide +kernel
theorem dX7_latest_15 : decode cX7_latest 15 = .ok (.getfield 10, 3) := by decide +kernel
theorem dX7_latest_18 : decode cX7_latest 18 = .ok (.getfield 47, 3) := by decide +kernel
theorem dX7_latest_21 : decode cX7_latest 21 = .ok (.getfield 158, 3) := by decide +kernel
theorem dX7_latest_24 : decode cX7_latest 24 = .ok (.getfield 162, 3) := by decide +kernel
theorem dX7_latest_27 : decode cX7_latest 27 = .ok (.ifCond .ne 7, 3) := by decide +kernel
theorem dX7_latest_30 : decode cX7_latest 30 = .ok (.ldc2_w 168, 3) := by decide +kernel
theorem dX7_latest_33 : decode cX7_latest 33 = .ok (.lreturn, 1) := by decide +kernel
theorem dX7_latest_34 : decode cX7_latest 34 = .ok (.aload_n 0, 1) := by decide +kernel
theorem dX7_latest_35 : decode cX7_latest 35 = .ok (.getfield 10, 3) := by decide +kernel
theorem dX7_latest_38 : decode cX7_latest 38 = .ok (.getfield 47, 3) := by decide +kernel
theorem dX7_latest_41 : decode cX7_latest 41 = .ok (.getfield 158, 3) := by decide +kernel
theorem dX7_latest_44 : decode cX7_latest 44 = .ok (.iload_n 1, 1) := by decide +kernel
theorem dX7_latest_45 : decode cX7_latest 45 = .ok (.invokevirtual 170, 3) := by decide +kernel
theorem dX7_latest_48 : decode cX7_latest 48 = .ok (.lreturn, 1) := by decide +kernel
abbrev csX7_statistic : List (List Cond) := [[.code yX7_statistic cX7_statistic 3 (some .long)], wsX7_statistic_r1, wsX7_statistic_r2, wsX7_statistic_r3, wsX70, wsX60, wsX10]
set_option maxRecDepth 20000 in
theorem hbX7_statistic : wsX7_statistic = csX7_statistic.flatten := rfl
set_option maxRecDepth 20000 in
theorem ggX7_statistic_X7_isOutside : GoodIn wsX7_statistic wsX7_isOutside := goodIn_c csX7_statistic hbX7_statistic _ [(1, 7)] rfl (by decide +kernel)
set_option maxRecDepth 20000 in
theorem gX7_statistic_X7_isOutside : GoodIn wsX7_statistic (va_wsS RX7 43 yX7_isOutside wsX7_isOutside) := goodIn_app (goodIn_c csX7_statistic hbX7_statistic [.methodLink RX7 43 yX7_isOutside, .static yX7_isOutside, .initialized yX7_isOutside.cls] [(1, 4), (1, 5), (1, 6)] rfl (by decide +kernel)) ggX7_statistic_X7_isOutside
set_option maxRecDepth 20000 in
theorem ggX7_statistic_X1_numberFrom : GoodIn wsX7_statistic wsX1_numberFrom := goodIn_c csX7_statistic hbX7_statistic _ [(1, 12), (1, 13), (1, 14), (1, 15), (1, 16), (1, 17), (1, 18), (1, 19), (1, 20), (1, 11), (1, 21), (6, 0), (6, 1)] rfl (by decide +kernel)
set_option maxRecDepth 20000 in
theorem gX7_statistic_X1_numberFrom : GoodIn wsX7_statistic (wsV RX7 172 RX1 yX1_numberFrom wsX1_numberFrom) := goodIn_app (goodIn_c csX7_statistic hbX7_statistic [.methodLink RX7 172 yX1_numberFrom, .instanceMethod yX1_numberFrom, .selects RX1 yX1_numberFrom yX1_numberFrom, .initialized RX1] [(1, 8), (1, 9), (1, 10), (1, 11)] rfl (by decide +kernel)) ggX7_statistic_X1_numberFrom
set_option maxRecDepth 20000 in
theorem ggX7_statistic_X1_sumFrom : GoodIn wsX7_statistic wsX1_sumFrom := goodIn_c csX7_statistic hbX7_statistic _ [(2, 1), (1, 13), (1, 18), (1, 19), (1, 20), (1, 11), (1, 21), (1, 14), (1, 15), (1, 16), (1, 17), (2, 2), (2, 3), (2, 4), (2, 5), (2, 6), (2, 7), (2, 8), (2, 9), (2, 10), (2, 11), (2, 12), (2, 13), (6, 0), (6, 1)] rfl (by decide +kernel)
set_option maxRecDepth 20000 in
theorem gX7_statistic_X1_sumFrom : GoodIn wsX7_statistic (wsV RX7 175 RX1 yX1_sumFrom wsX1_sumFrom) := goodIn_app (goodIn_c csX7_statistic hbX7_statistic [.methodLink RX7 175 yX1_sumFrom, .instanceMethod yX1_sumFrom, .selects RX1 yX1_sumFrom yX1_sumFrom, .initialized RX1] [(1, 22), (1, 23), (2, 0), (1, 11)] rfl (by decide +kernel)) ggX7_statistic_X1_sumFrom
set_option maxRecDepth 20000 in
theorem ggX7_statistic_X1_leastFrom : GoodIn wsX7_statistic wsX1_leastFrom := goodIn_c csX7_statistic hbX7_statistic _ [(2, 17), (1, 13), (2, 18), (2, 19), (1, 16), (2, 20), (1, 18), (1, 19), (1, 20), (1, 11), (1, 21), (1, 14), (1, 15), (1, 17), (2, 2), (2, 3), (2, 4), (2, 5), (2, 6), (2, 7), (2, 8), (2, 9), (2, 10), (2, 11), (2, 12), (2, 13), (6, 0), (6, 1)] rfl (by decide +kernel)
set_option maxRecDepth 20000 in
theorem gX7_statistic_X1_leastFrom : GoodIn wsX7_statistic (wsV RX7 178 RX1 yX1_leastFrom wsX1_leastFrom) := goodIn_app (goodIn_c csX7_statistic hbX7_statistic [.methodLink RX7 178 yX1_leastFrom, .instanceMethod yX1_leastFrom, .selects RX1 yX1_leastFrom yX1_leastFrom, .initialized RX1] [(2, 14), (2, 15), (2, 16), (1, 11)] rfl (by decide +kernel)) ggX7_statistic_X1_leastFrom
set_option maxRecDepth 20000 in
theorem ggX7_statistic_X1_greatestFrom : GoodIn wsX7_statistic wsX1_greatestFrom := goodIn_c csX7_statistic hbX7_statistic _ [(3, 0), (1, 13), (3, 1), (3, 2), (1, 16), (3, 3), (1, 18), (1, 19), (1, 20), (1, 11), (1, 21), (1, 14), (1, 15), (1, 17), (2, 2), (2, 3), (2, 4), (2, 5), (2, 6), (2, 7), (2, 8), (2, 9), (2, 10), (2, 11), (2, 12), (2, 13), (6, 0), (6, 1)] rfl (by decide +kernel)
set_option maxRecDepth 20000 in
theorem gX7_statistic_X1_greatestFrom : GoodIn wsX7_statistic (wsV RX7 181 RX1 yX1_greatestFrom wsX1_greatestFrom) := goodIn_app (goodIn_c csX7_statistic hbX7_statistic [.methodLink RX7 181 yX1_greatestFrom, .instanceMethod yX1_greatestFrom, .selects RX1 yX1_greatestFrom yX1_greatestFrom, .initialized RX1] [(2, 21), (2, 22), (2, 23), (1, 11)] rfl (by decide +kernel)) ggX7_statistic_X1_greatestFrom
set_option maxRecDepth 20000 in
theorem ggX7_statistic_X1_meanFrom : GoodIn wsX7_statistic wsX1_meanFrom := goodIn_c csX7_statistic hbX7_statistic _ [(3, 7), (3, 8), (1, 9), (1, 10), (1, 11), (1, 12), (1, 13), (1, 14), (1, 15), (1, 16), (1, 17), (1, 18), (1, 19), (1, 20), (1, 21), (3, 9), (1, 23), (2, 0), (2, 1), (2, 2), (2, 3), (2, 4), (2, 5), (2, 6), (2, 7), (2, 8), (2, 9), (2, 10), (2, 11), (2, 12), (2, 13), (6, 0), (6, 1)] rfl (by decide +kernel)
set_option maxRecDepth 20000 in
theorem gX7_statistic_X1_meanFrom : GoodIn wsX7_statistic (wsV RX7 184 RX1 yX1_meanFrom wsX1_meanFrom) := goodIn_app (goodIn_c csX7_statistic hbX7_statistic [.methodLink RX7 184 yX1_meanFrom, .instanceMethod yX1_meanFrom, .selects RX1 yX1_meanFrom yX1_meanFrom, .initialized RX1] [(3, 4), (3, 5), (3, 6), (1, 11)] rfl (by decide +kernel)) ggX7_statistic_X1_meanFrom
theorem dX7_statistic_0 : decode cX7_statistic 0 = .ok (.iload_n 1, 1) := by decide +kernel
theorem dX7_statistic_1 : decode cX7_statistic 1 = .ok (.ifCond .lt 12, 3) := by decide +kernel
theorem dX7_statistic_4 : decode cX7_statistic 4 = .ok (.iload_n 2, 1) := by decide +kernel
theorem dX7_statistic_5 : decode cX7_statistic 5 = .ok (.iconst 0, 1) := by decide +kernel
theorem dX7_statistic_6 : decode cX7_statistic 6 = .ok (.iconst 4, 1) := by decide +kernel
theorem dX7_statistic_7 : decode cX7_statistic 7 = .ok (.invokestatic 43, 3) := by decide +kernel
theorem dX7_statistic_10 : decode cX7_statistic 10 = .ok (.ifCond .eq 7, 3) := by decide +kernel
theorem dX7_statistic_13 : decode cX7_statistic 13 = .ok (.ldc2_w 119, 3) := by decide +kernel
theorem dX7_statistic_16 : decode cX7_statistic 16 = .ok (.lreturn, 1) := by decide +kernel
theorem dX7_statistic_17 : decode cX7_statistic 17 = .ok (.iload_n 2, 1) := by decide +kernel
theorem dX7_statistic_18 : decode cX7_statistic 18 = .ok (.ifCond .ne 16, 3) := by decide +kernel
theorem dX7_statistic_21 : decode cX7_statistic 21 = .ok (.aload_n 0, 1) := by decide +kernel
theorem dX7_statistic_22 : decode cX7_statistic 22 = .ok (.getfield 10, 3) := by decide +kernel
theorem dX7_statistic_25 : decode cX7_statistic 25 = .ok (.getfield 60, 3) := by decide +kernel
theorem dX7_statistic_28 : decode cX7_statistic 28 = .ok (.iload_n 1, 1) := by decide +kernel
theorem dX7_statistic_29 : decode cX7_statistic 29 = .ok (.invokevirtual 172, 3) := by decide +kernel
theorem dX7_statistic_32 : decode cX7_statistic 32 = .ok (.i2l, 1) := by decide +kernel
theorem dX7_statistic_33 : decode cX7_statistic 33 = .ok (.lreturn, 1) := by decide +kernel
theorem dX7_statistic_34 : decode cX7_statistic 34 = .ok (.iload_n 2, 1) := by decide +kernel
theorem dX7_statistic_35 : decode cX7_statistic 35 = .ok (.iconst 4, 1) := by decide +kernel
theorem dX7_statistic_36 : decode cX7_statistic 36 = .ok (.if_icmp .ne 16, 3) := by decide +kernel
theorem dX7_statistic_39 : decode cX7_statistic 39 = .ok (.aload_n 0, 1) := by decide +kernel
theorem dX7_statistic_40 : decode cX7_statistic 40 = .ok (.getfield 10, 3) := by decide +kernel
theorem dX7_statistic_43 : decode cX7_statistic 43 = .ok (.getfield 60, 3) := by decide +kernel
theorem dX7_statistic_46 : decode cX7_statistic 46 = .ok (.iload_n 1, 1) := by decide +kernel
theorem dX7_statistic_47 : decode cX7_statistic 47 = .ok (.iconst 3, 1) := by decide +kernel
theorem dX7_statistic_48 : decode cX7_statistic 48 = .ok (.invokevirtual 175, 3) := by decide +kernel
theorem dX7_statistic_51 : decode cX7_statistic 51 = .ok (.lreturn, 1) := by decide +kernel
theorem dX7_statistic_52 : decode cX7_statistic 52 = .ok (.aload_n 0, 1) := by decide +kernel
theorem dX7_statistic_53 : decode cX7_statistic 53 = .ok (.getfield 10, 3) := by decide +kernel
theorem dX7_statistic_56 : decode cX7_statistic 56 = .ok (.getfield 60, 3) := by decide +kernel
theorem dX7_statistic_59 : decode cX7_statistic 59 = .ok (.iload_n 1, 1) := by decide +kernel
theorem dX7_statistic_60 : decode cX7_statistic 60 = .ok (.invokevirtual 172, 3) := by decide +kernel
theorem dX7_statistic_63 : decode cX7_statistic 63 = .ok (.ifCond .ne 7, 3) := by decide +kernel
theorem dX7_statistic_66 : decode cX7_statistic 66 = .ok (.ldc2_w 153, 3) := by decide +kernel
theorem dX7_statistic_69 : decode cX7_statistic 69 = .ok (.lreturn, 1) := by decide +kernel
theorem dX7_statistic_70 : decode cX7_statistic 70 = .ok (.iload_n 2, 1) := by decide +kernel
theorem dX7_statistic_71 : decode cX7_statistic 71 = .ok (.iconst 1, 1) := by decide +kernel
theorem dX7_statistic_72 : decode cX7_statistic 72 = .ok (.if_icmp .ne 15, 3) := by decide +kernel
theorem dX7_statistic_75 : decode cX7_statistic 75 = .ok (.aload_n 0, 1) := by decide +kernel
theorem dX7_statistic_76 : decode cX7_statistic 76 = .ok (.getfield 10, 3) := by decide +kernel
theorem dX7_statistic_79 : decode cX7_statistic 79 = .ok (.getfield 60, 3) := by decide +kernel
theorem dX7_statistic_82 : decode cX7_statistic 82 = .ok (.iload_n 1, 1) := by decide +kernel
theorem dX7_statistic_83 : decode cX7_statistic 83 = .ok (.invokevirtual 178, 3) := by decide +kernel
theorem dX7_statistic_86 : decode cX7_statistic 86 = .ok (.lreturn, 1) := by decide +kernel
theorem dX7_statistic_87 : decode cX7_statistic 87 = .ok (.iload_n 2, 1) := by decide +kernel
theorem dX7_statistic_88 : decode cX7_statistic 88 = .ok (.iconst 2, 1) := by decide +kernel
theorem dX7_statistic_89 : decode cX7_statistic 89 = .ok (.if_icmp .ne 17, 3) := by decide +kernel
theorem dX7_statistic_92 : decode cX7_statistic 92 = .ok (.aload_n 0, 1) := by decide +kernel
theorem dX7_statistic_93 : decode cX7_statistic 93 = .ok (.getfield 10, 3) := by decide +kernel
theorem dX7_statistic_96 : decode cX7_statistic 96 = .ok (.getfield 60, 3) := by decide +kernel
theorem dX7_statistic_99 : decode cX7_statistic 99 = .ok (.iload_n 1, 1) := by decide +kernel
theorem dX7_statistic_100 : decode cX7_statistic 100 = .ok (.invokevirtual 181, 3) := by decide +kernel
theorem dX7_statistic_103 : decode cX7_statistic 103 = .ok (.goto 14, 3) := by decide +kernel
theorem dX7_statistic_106 : decode cX7_statistic 106 = .ok (.aload_n 0, 1) := by decide +kernel
theorem dX7_statistic_107 : decode cX7_statistic 107 = .ok (.getfield 10, 3) := by decide +kernel
theorem dX7_statistic_110 : decode cX7_statistic 110 = .ok (.getfield 60, 3) := by decide +kernel
theorem dX7_statistic_113 : decode cX7_statistic 113 = .ok (.iload_n 1, 1) := by decide +kernel
theorem dX7_statistic_114 : decode cX7_statistic 114 = .ok (.invokevirtual 184, 3) := by decide +kernel
theorem dX7_statistic_117 : decode cX7_statistic 117 = .ok (.lreturn, 1) := by decide +kernel
abbrev csX7_wouldRead : List (List Cond) := [[.code yX7_wouldRead cX7_wouldRead 2 (some .long)], wsX7_wouldRead_r1, wsX7_wouldRead_r2, wsX7_wouldRead_r3, wsX7_wouldRead_r4, wsX7_wouldRead_r5, wsX7_wouldRead_r6, wsX7_wouldRead_r7, wsX70, wsX60, wsX20, wsX50, wsX40, wsX00]
set_option maxRecDepth 20000 in
theorem hbX7_wouldRead : wsX7_wouldRead = csX7_wouldRead.flatten := rfl
set_option maxRecDepth 20000 in
theorem ggX7_wouldRead_X7_isOutside : GoodIn wsX7_wouldRead wsX7_isOutside := goodIn_c csX7_wouldRead hbX7_wouldRead _ [(1, 6)] rfl (by decide +kernel)
set_option maxRecDepth 20000 in
theorem gX7_wouldRead_X7_isOutside : GoodIn wsX7_wouldRead (va_wsS RX7 43 yX7_isOutside wsX7_isOutside) := goodIn_app (goodIn_c csX7_wouldRead hbX7_wouldRead [.methodLink RX7 43 yX7_isOutside, .static yX7_isOutside, .initialized yX7_isOutside.cls] [(1, 3), (1, 4), (1, 5)] rfl (by decide +kernel)) ggX7_wouldRead_X7_isOutside
set_option maxRecDepth 20000 in
theorem ggX7_wouldRead_X7_valueWithLevel : GoodIn wsX7_wouldRead wsX7_valueWithLevel := goodIn_c csX7_wouldRead hbX7_wouldRead _ [(1, 10), (1, 11), (1, 12), (1, 13), (1, 14), (1, 15), (1, 16), (1, 17), (1, 18), (1, 19), (1, 20), (1, 21), (1, 22), (1, 23), (2, 0), (2, 1), (2, 2), (2, 3), (2, 4), (2, 5), (2, 6), (2, 7), (2, 8), (2, 9), (2, 10), (2, 11), (2, 12), (2, 13), (2, 14), (2, 15), (2, 16), (2, 17), (2, 18), (2, 19), (2, 20), (2, 21), (2, 22), (2, 23), (3, 0), (3, 1), (3, 2), (3, 3), (3, 4), (3, 5), (3, 6), (3, 7), (3, 8), (3, 9), (3, 10), (3, 11), (3, 12), (3, 13), (3, 14), (3, 15), (3, 16), (3, 17), (3, 18), (3, 19), (3, 20), (3, 21), (3, 22), (3, 23), (4, 0), (4, 1), (4, 2), (4, 3), (4, 4), (4, 5), (4, 6), (4, 7), (4, 8), (4, 9), (4, 10), (4, 11), (4, 12), (4, 13), (4, 14), (4, 15), (4, 16), (4, 17), (4, 18), (4, 19), (4, 20), (4, 21), (4, 22), (4, 23), (5, 0), (5, 1), (5, 2), (5, 3), (5, 4), (5, 5), (5, 6), (5, 7), (5, 8), (5, 9), (5, 10), (1, 5), (5, 11), (5, 12), (5, 13), (5, 14), (5, 15), (5, 16), (5, 17), (5, 18), (5, 19), (5, 20), (5, 21), (5, 22), (5, 23), (6, 0), (6, 1), (6, 2), (6, 3), (6, 4), (6, 5), (6, 6), (6, 7), (6, 8), (6, 9), (6, 10), (6, 11), (6, 12), (6, 13), (6, 14), (6, 15), (6, 16), (6, 17), (6, 18), (6, 19), (6, 20), (6, 21), (6, 22), (6, 23), (7, 0), (7, 1), (7, 2), (8, 0), (8, 1), (8, 2), (8, 3), (8, 4), (8, 5), (9, 0), (9, 1), (10, 0), (10, 1), (10, 2), (10, 3), (10, 4), (10, 5), (10, 6), (10, 7), (10, 8), (11, 0), (11, 1), (11, 2), (11, 3), (11, 4), (12, 0), (12, 1), (12, 2), (12, 3), (12, 4), (12, 5), (13, 0), (13, 1), (13, 2), (13, 3), (13, 4), (13, 5), (13, 6), (13, 7), (13, 8)] rfl (by decide +kernel)
set_option maxRecDepth 20000 in
theorem gX7_wouldRead_X7_valueWithLevel : GoodIn wsX7_wouldRead (wsV RX7 187 RX7 yX7_valueWithLevel wsX7_valueWithLevel) := goodIn_app (goodIn_c csX7_wouldRead hbX7_wouldRead [.methodLink RX7 187 yX7_valueWithLevel, .instanceMethod yX7_valueWithLevel, .selects RX7 yX7_valueWithLevel yX7_valueWithLevel, .initialized RX7] [(1, 7), (1, 8), (1, 9), (1, 5)] rfl (by decide +kernel)) ggX7_wouldRead_X7_valueWithLevel
theorem dX7_wouldRead_0 : decode cX7_wouldRead 0 = .ok (.iload_n 1, 1) := by decide +kernel
theorem dX7_wouldRead_1 : decode cX7_wouldRead 1 = .ok (.ldc 41, 2) := by decide +kernel
theorem dX7_wouldRead_3 : decode cX7_wouldRead 3 = .ok (.ldc 42, 2) := by decide +kernel
theorem dX7_wouldRead_5 : decode cX7_wouldRead 5 = .ok (.invokestatic 43, 3) := by decide +kernel
theorem dX7_wouldRead_8 : decode cX7_wouldRead 8 = .ok (.ifCond .eq 7, 3) := by decide +kernel
theorem dX7_wouldRead_11 : decode cX7_wouldRead 11 = .ok (.ldc2_w 119, 3) := by decide +kernel
theorem dX7_wouldRead_14 : decode cX7_wouldRead 14 = .ok (.lreturn, 1) := by decide +kernel
theorem dX7_wouldRead_15 : decode cX7_wouldRead 15 = .ok (.aload_n 0, 1) := by decide +kernel
theorem dX7_wouldRead_16 : decode cX7_wouldRead 16 = .ok (.iload_n 1, 1) := by decide +kernel
theorem dX7_wouldRead_17 : decode cX7_wouldRead 17 = .ok (.invokevirtual 187, 3) := by decide +kernel
theorem dX7_wouldRead_20 : decode cX7_wouldRead 20 = .ok (.lreturn, 1) := by decide +kernel
abbrev csX7_ripple : List (List Cond) := [[.code yX7_ripple cX7_ripple 2 (some .long)], wsX7_ripple_r1, wsX7_ripple_r2, wsX7_ripple_r3, wsX7_ripple_r4, wsX7_ripple_r5, wsX7_ripple_r6, wsX7_ripple_r7, wsX70, wsX60, wsX20, wsX40, wsX50, wsX00]
set_option maxRecDepth 20000 in
theorem hbX7_ripple : wsX7_ripple = csX7_ripple.flatten := rfl
set_option maxRecDepth 20000 in
theorem ggX7_ripple_X7_isOutside : GoodIn wsX7_ripple wsX7_isOutside := goodIn_c csX7_ripple hbX7_ripple _ [(1, 8)] rfl (by decide +kernel)
set_option maxRecDepth 20000 in
theorem gX7_ripple_X7_isOutside : GoodIn wsX7_ripple (va_wsS RX7 43 yX7_isOutside wsX7_isOutside) := goodIn_app (goodIn_c csX7_ripple hbX7_ripple [.methodLink RX7 43 yX7_isOutside, .static yX7_isOutside, .initialized yX7_isOutside.cls] [(1, 5), (1, 6), (1, 7)] rfl (by decide +kernel)) ggX7_ripple_X7_isOutside
set_option maxRecDepth 20000 in
theorem ggX7_ripple_X7_rippleWith : GoodIn wsX7_ripple wsX7_rippleWith := goodIn_c csX7_ripple hbX7_ripple _ [(1, 12), (1, 13), (1, 1), (1, 2), (1, 3), (1, 4), (1, 14), (1, 15), (1, 16), (1, 17), (1, 18), (1, 19), (1, 20), (1, 21), (1, 22), (1, 23), (2, 0), (2, 1), (2, 2), (2, 3), (2, 4), (2, 5), (2, 6), (2, 7), (2, 8), (2, 9), (2, 10), (2, 11), (2, 12), (2, 13), (2, 14), (2, 15), (2, 16), (2, 17), (2, 18), (2, 19), (2, 20), (2, 21), (2, 22), (2, 23), (3, 0), (3, 1), (3, 2), (3, 3), (3, 4), (3, 5), (3, 6), (3, 7), (3, 8), (3, 9), (3, 10), (3, 11), (3, 12), (3, 13), (3, 14), (3, 15), (3, 16), (3, 17), (3, 18), (3, 19), (3, 20), (3, 21), (3, 22), (3, 23), (4, 0), (4, 1), (4, 2), (4, 3), (4, 4), (4, 5), (4, 6), (4, 7), (4, 8), (4, 9), (4, 10), (4, 11), (4, 12), (4, 13), (4, 14), (4, 15), (4, 16), (4, 17), (4, 18), (4, 19), (4, 20), (4, 21), (4, 22), (4, 23), (5, 0), (5, 1), (5, 2), (5, 3), (5, 4), (5, 5), (5, 6), (5, 7), (5, 8), (5, 9), (5, 10), (5, 11), (5, 12), (5, 13), (5, 14), (5, 15), (5, 16), (5, 17), (5, 18), (1, 7), (5, 19), (5, 20), (5, 21), (5, 22), (5, 23), (6, 0), (6, 1), (6, 2), (6, 3), (6, 4), (6, 5), (6, 6), (6, 7), (6, 8), (6, 9), (6, 10), (6, 11), (6, 12), (6, 13), (6, 14), (6, 15), (6, 16), (6, 17), (6, 18), (6, 19), (6, 20), (6, 21), (6, 22), (6, 23), (7, 0), (7, 1), (7, 2), (7, 3), (7, 4), (7, 5), (7, 6), (7, 7), (7, 8), (7, 9), (8, 0), (8, 1), (8, 2), (8, 3), (8, 4), (8, 5), (9, 0), (9, 1), (10, 0), (10, 1), (10, 2), (10, 3), (10, 4), (10, 5), (10, 6), (10, 7), (10, 8), (11, 0), (11, 1), (11, 2), (11, 3), (11, 4), (11, 5), (12, 0), (12, 1), (12, 2), (12, 3), (12, 4), (13, 0), (13, 1), (13, 2), (13, 3), (13, 4), (13, 5), (13, 6), (13, 7), (13, 8)] rfl (by decide +kernel)
set_option maxRecDepth 20000 in
theorem gX7_ripple_X7_rippleWith : GoodIn wsX7_ripple (wsV RX7 193 RX7 yX7_rippleWith wsX7_rippleWith) := goodIn_app (goodIn_c csX7_ripple hbX7_ripple [.methodLink RX7 193 yX7_rippleWith, .instanceMethod yX7_rippleWith, .selects RX7 yX7_rippleWith yX7_rippleWith, .initialized RX7] [(1, 9), (1, 10), (1, 11), (1, 7)] rfl (by decide +kernel)) ggX7_ripple_X7_rippleWith
theorem dX7_ripple_0 : decode cX7_ripple 0 = .ok (.iload_n 1, 1) := by decide +kernel
theorem dX7_ripple_1 : decode cX7_ripple 1 = .ok (.iconst 1, 1) := by decide +kernel
theorem dX7_ripple_2 : decode cX7_ripple 2 = .ok (.bipush 16, 2) := by decide +kernel
theorem dX7_ripple_4 : decode cX7_ripple 4 = .ok (.invokestatic 43, 3) := by decide +kernel
theorem dX7_ripple_7 : decode cX7_ripple 7 = .ok (.ifCond .eq 7, 3) := by decide +kernel
theorem dX7_ripple_10 : decode cX7_ripple 10 = .ok (.ldc2_w 119, 3) := by decide +kernel
theorem dX7_ripple_13 : decode cX7_ripple 13 = .ok (.lreturn, 1) := by decide +kernel
theorem dX7_ripple_14 : decode cX7_ripple 14 = .ok (.aload_n 0, 1) := by decide +kernel
theorem dX7_ripple_15 : decode cX7_ripple 15 = .ok (.aload_n 0, 1) := by decide +kernel
theorem dX7_ripple_16 : decode cX7_ripple 16 = .ok (.getfield 10, 3) := by decide +kernel
theorem dX7_ripple_19 : decode cX7_ripple 19 = .ok (.getfield 47, 3) := by decide +kernel
theorem dX7_ripple_22 : decode cX7_ripple 22 = .ok (.getfield 103, 3) := by decide +kernel
theorem dX7_ripple_25 : decode cX7_ripple 25 = .ok (.getfield 190, 3) := by decide +kernel
theorem dX7_ripple_28 : decode cX7_ripple 28 = .ok (.iload_n 1, 1) := by decide +kernel
theorem dX7_ripple_29 : decode cX7_ripple 29 = .ok (.invokevirtual 193, 3) := by decide +kernel
theorem dX7_ripple_32 : decode cX7_ripple 32 = .ok (.lreturn, 1) := by decide +kernel
abbrev csX7_bestWindow : List (List Cond) := [[.code yX7_bestWindow cX7_bestWindow 11 (some .int)], wsX7_bestWindow_r1, wsX7_bestWindow_r2, wsX7_bestWindow_r3, wsX7_bestWindow_r4, wsX7_bestWindow_r5, wsX7_bestWindow_r6, wsX7_bestWindow_r7, wsX70, wsX60, wsX20, wsX40, wsX50, wsX00]
set_option maxRecDepth 20000 in
theorem hbX7_bestWindow : wsX7_bestWindow = csX7_bestWindow.flatten := rfl
set_option maxRecDepth 20000 in
theorem ggX7_bestWindow_X7_leastOf : GoodIn wsX7_bestWindow wsX7_leastOf := goodIn_c csX7_bestWindow hbX7_bestWindow _ [(1, 3), (1, 4), (1, 5), (1, 6), (1, 2), (1, 7), (1, 8)] rfl (by decide +kernel)
set_option maxRecDepth 20000 in
theorem gX7_bestWindow_X7_leastOf : GoodIn wsX7_bestWindow (va_wsS RX7 96 yX7_leastOf wsX7_leastOf) := goodIn_app (goodIn_c csX7_bestWindow hbX7_bestWindow [.methodLink RX7 96 yX7_leastOf, .static yX7_leastOf, .initialized yX7_leastOf.cls] [(1, 0), (1, 1), (1, 2)] rfl (by decide +kernel)) ggX7_bestWindow_X7_leastOf
set_option maxRecDepth 20000 in
theorem ggX7_bestWindow_X7_mostOf : GoodIn wsX7_bestWindow wsX7_mostOf := goodIn_c csX7_bestWindow hbX7_bestWindow _ [(1, 11), (1, 8), (1, 5), (1, 6), (1, 2), (1, 7), (1, 4)] rfl (by decide +kernel)
set_option maxRecDepth 20000 in
theorem gX7_bestWindow_X7_mostOf : GoodIn wsX7_bestWindow (va_wsS RX7 100 yX7_mostOf wsX7_mostOf) := goodIn_app (goodIn_c csX7_bestWindow hbX7_bestWindow [.methodLink RX7 100 yX7_mostOf, .static yX7_mostOf, .initialized yX7_mostOf.cls] [(1, 9), (1, 10), (1, 2)] rfl (by decide +kernel)) ggX7_bestWindow_X7_mostOf
set_option maxRecDepth 20000 in
theorem ggX7_bestWindow_X7_isOutside : GoodIn wsX7_bestWindow wsX7_isOutside := goodIn_c csX7_bestWindow hbX7_bestWindow _ [(1, 14)] rfl (by decide +kernel)
set_option maxRecDepth 20000 in
theorem gX7_bestWindow_X7_isOutside : GoodIn wsX7_bestWindow (va_wsS RX7 43 yX7_isOutside wsX7_isOutside) := goodIn_app (goodIn_c csX7_bestWindow hbX7_bestWindow [.methodLink RX7 43 yX7_isOutside, .static yX7_isOutside, .initialized yX7_isOutside.cls] [(1, 12), (1, 13), (1, 2)] rfl (by decide +kernel)) ggX7_bestWindow_X7_isOutside
set_option maxRecDepth 20000 in
theorem ggX7_bestWindow_X7_rippleWith : GoodIn wsX7_bestWindow wsX7_rippleWith := goodIn_c csX7_bestWindow hbX7_bestWindow _ [(1, 18), (1, 19), (1, 20), (1, 21), (1, 22), (1, 23), (2, 0), (2, 1), (2, 2), (2, 3), (2, 4), (2, 5), (2, 6), (2, 7), (2, 8), (2, 9), (2, 10), (2, 11), (2, 12), (2, 13), (2, 14), (2, 15), (2, 16), (2, 17), (2, 18), (2, 19), (2, 20), (2, 21), (2, 22), (2, 23), (3, 0), (3, 1), (3, 2), (3, 3), (3, 4), (3, 5), (3, 6), (3, 7), (3, 8), (3, 9), (3, 10), (3, 11), (3, 12), (3, 13), (3, 14), (3, 15), (3, 16), (3, 17), (3, 18), (3, 19), (3, 20), (3, 21), (3, 22), (3, 23), (4, 0), (4, 1), (4, 2), (4, 3), (4, 4), (4, 5), (4, 6), (4, 7), (4, 8), (4, 9), (4, 10), (4, 11), (4, 12), (4, 13), (4, 14), (4, 15), (4, 16), (4, 17), (4, 18), (4, 19), (4, 20), (4, 21), (4, 22), (4, 23), (5, 0), (5, 1), (5, 2), (5, 3), (5, 4), (5, 5), (5, 6), (5, 7), (5, 8), (5, 9), (5, 10), (5, 11), (5, 12), (5, 13), (5, 14), (5, 15), (5, 16), (5, 17), (5, 18), (5, 19), (5, 20), (5, 21), (5, 22), (5, 23), (6, 0), (6, 1), (6, 2), (6, 3), (6, 4), (1, 2), (6, 5), (6, 6), (6, 7), (6, 8), (6, 9), (6, 10), (6, 11), (6, 12), (6, 13), (6, 14), (6, 15), (6, 16), (6, 17), (6, 18), (6, 19), (6, 20), (6, 21), (6, 22), (6, 23), (7, 0), (7, 1), (7, 2), (7, 3), (7, 4), (7, 5), (7, 6), (7, 7), (7, 8), (7, 9), (7, 10), (7, 11), (7, 12), (7, 13), (7, 14), (7, 15), (7, 16), (7, 17), (7, 18), (7, 19), (8, 0), (8, 1), (8, 2), (8, 3), (8, 4), (8, 5), (9, 0), (9, 1), (10, 0), (10, 1), (10, 2), (10, 3), (10, 4), (10, 5), (10, 6), (10, 7), (10, 8), (11, 0), (11, 1), (11, 2), (11, 3), (11, 4), (11, 5), (12, 0), (12, 1), (12, 2), (12, 3), (12, 4), (13, 0), (13, 1), (13, 2), (13, 3), (13, 4), (13, 5), (13, 6), (13, 7), (13, 8)] rfl (by decide +kernel)
set_option maxRecDepth 20000 in
theorem gX7_bestWindow_X7_rippleWith : GoodIn wsX7_bestWindow (wsV RX7 193 RX7 yX7_rippleWith wsX7_rippleWith) := goodIn_app (goodIn_c csX7_bestWindow hbX7_bestWindow [.methodLink RX7 193 yX7_rippleWith, .instanceMethod yX7_rippleWith, .selects RX7 yX7_rippleWith yX7_rippleWith, .initialized RX7] [(1, 15), (1, 16), (1, 17), (1, 2)] rfl (by decide +kernel)) ggX7_bestWindow_X7_rippleWith
theorem dX7_bestWindow_0 : decode cX7_bestWindow 0 = .ok (.iload_n 1, 1) := by decide +kernel
theorem dX7_bestWindow_1 : decode cX7_bestWindow 1 = .ok (.iconst 0, 1) := by decide +kernel
theorem dX7_bestWindow_2 : decode cX7_bestWindow 2 = .ok (.invokestatic 96, 3) := by decide +kernel
theorem dX7_bestWindow_5 : decode cX7_bestWindow 5 = .ok (.iconst 0, 1) := by decide +kernel
theorem dX7_bestWindow_6 : decode cX7_bestWindow 6 = .ok (.invokestatic 100, 3) := by decide +kernel
theorem dX7_bestWindow_9 : decode cX7_bestWindow 9 = .ok (.invokestatic 43, 3) := by decide +kernel
theorem dX7_bestWindow_12 : decode cX7_bestWindow 12 = .ok (.ifCond .ne 37, 3) := by decide +kernel
theorem dX7_bestWindow_15 : decode cX7_bestWindow 15 = .ok (.iload_n 2, 1) := by decide +kernel
theorem dX7_bestWindow_16 : decode cX7_bestWindow 16 = .ok (.iconst 1, 1) := by decide +kernel
theorem dX7_bestWindow_17 : decode cX7_bestWindow 17 = .ok (.bipush 100, 2) := by decide +kernel
theorem dX7_bestWindow_19 : decode cX7_bestWindow 19 = .ok (.invokestatic 43, 3) := by decide +kernel
theorem dX7_bestWindow_22 : decode cX7_bestWindow 22 = .ok (.ifCond .ne 27, 3) := by decide +kernel
theorem dX7_bestWindow_25 : decode cX7_bestWindow 25 = .ok (.iload_n 3, 1) := by decide +kernel
theorem dX7_bestWindow_26 : decode cX7_bestWindow 26 = .ok (.iconst 1, 1) := by decide +kernel
theorem dX7_bestWindow_27 : decode cX7_bestWindow 27 = .ok (.bipush 12, 2) := by decide +kernel
theorem dX7_bestWindow_29 : decode cX7_bestWindow 29 = .ok (.invokestatic 43, 3) := by decide +kernel
theorem dX7_bestWindow_32 : decode cX7_bestWindow 32 = .ok (.ifCond .ne 17, 3) := by decide +kernel
theorem dX7_bestWindow_35 : decode cX7_bestWindow 35 = .ok (.iload_n 1, 1) := by decide +kernel
theorem dX7_bestWindow_36 : decode cX7_bestWindow 36 = .ok (.iload_n 3, 1) := by decide +kernel
theorem dX7_bestWindow_37 : decode cX7_bestWindow 37 = .ok (.iconst 1, 1) := by decide +kernel
theorem dX7_bestWindow_38 : decode cX7_bestWindow 38 = .ok (.isub, 1) := by decide +kernel
theorem dX7_bestWindow_39 : decode cX7_bestWindow 39 = .ok (.iload_n 2, 1) := by decide +kernel
theorem dX7_bestWindow_40 : decode cX7_bestWindow 40 = .ok (.imul, 1) := by decide +kernel
theorem dX7_bestWindow_41 : decode cX7_bestWindow 41 = .ok (.iadd, 1) := by decide +kernel
theorem dX7_bestWindow_42 : decode cX7_bestWindow 42 = .ok (.iconst 0, 1) := by decide +kernel
theorem dX7_bestWindow_43 : decode cX7_bestWindow 43 = .ok (.invokestatic 100, 3) := by decide +kernel
theorem dX7_bestWindow_46 : decode cX7_bestWindow 46 = .ok (.if_icmp .le 6, 3) := by decide +kernel
theorem dX7_bestWindow_49 : decode cX7_bestWindow 49 = .ok (.bipush (-2), 2) := by decide +kernel
theorem dX7_bestWindow_51 : decode cX7_bestWindow 51 = .ok (.ireturn, 1) := by decide +kernel
theorem dX7_bestWindow_52 : decode cX7_bestWindow 52 = .ok (.iload_n 1, 1) := by decide +kernel
theorem dX7_bestWindow_53 : decode cX7_bestWindow 53 = .ok (.istore 4, 2) := by decide +kernel
theorem dX7_bestWindow_55 : decode cX7_bestWindow 55 = .ok (.aload_n 0, 1) := by decide +kernel
theorem dX7_bestWindow_56 : decode cX7_bestWindow 56 = .ok (.iload_n 1, 1) := by decide +kernel
theorem dX7_bestWindow_57 : decode cX7_bestWindow 57 = .ok (.bipush 8, 2) := by decide +kernel
theorem dX7_bestWindow_59 : decode cX7_bestWindow 59 = .ok (.invokevirtual 193, 3) := by decide +kernel
theorem dX7_bestWindow_62 : decode cX7_bestWindow 62 = .ok (.lstore 5, 2) := by decide +kernel
theorem dX7_bestWindow_64 : decode cX7_bestWindow 64 = .ok (.iconst 1, 1) := by decide +kernel
theorem dX7_bestWindow_65 : decode cX7_bestWindow 65 = .ok (.istore 7, 2) := by decide +kernel
theorem dX7_bestWindow_67 : decode cX7_bestWindow 67 = .ok (.iload 7, 2) := by decide +kernel
theorem dX7_bestWindow_69 : decode cX7_bestWindow 69 = .ok (.iload_n 3, 1) := by decide +kernel
theorem dX7_bestWindow_70 : decode cX7_bestWindow 70 = .ok (.if_icmp .ge 43, 3) := by decide +kernel
theorem dX7_bestWindow_73 : decode cX7_bestWindow 73 = .ok (.iload_n 1, 1) := by decide +kernel
theorem dX7_bestWindow_74 : decode cX7_bestWindow 74 = .ok (.iload 7, 2) := by decide +kernel
theorem dX7_bestWindow_76 : decode cX7_bestWindow 76 = .ok (.iload_n 2, 1) := by decide +kernel
theorem dX7_bestWindow_77 : decode cX7_bestWindow 77 = .ok (.imul, 1) := by decide +kernel
theorem dX7_bestWindow_78 : decode cX7_bestWindow 78 = .ok (.iadd, 1) := by decide +kernel
theorem dX7_bestWindow_79 : decode cX7_bestWindow 79 = .ok (.istore 8, 2) := by decide +kernel
theorem dX7_bestWindow_81 : decode cX7_bestWindow 81 = .ok (.aload_n 0, 1) := by decide +kernel
theorem dX7_bestWindow_82 : decode cX7_bestWindow 82 = .ok (.iload 8, 2) := by decide +kernel
theorem dX7_bestWindow_84 : decode cX7_bestWindow 84 = .ok (.bipush 8, 2) := by decide +kernel
theorem dX7_bestWindow_86 : decode cX7_bestWindow 86 = .ok (.invokevirtual 193, 3) := by decide +kernel
theorem dX7_bestWindow_89 : decode cX7_bestWindow 89 = .ok (.lstore 9, 2) := by decide +kernel
theorem dX7_bestWindow_91 : decode cX7_bestWindow 91 = .ok (.lload 9, 2) := by decide +kernel
theorem dX7_bestWindow_93 : decode cX7_bestWindow 93 = .ok (.lload 5, 2) := by decide +kernel
theorem dX7_bestWindow_95 : decode cX7_bestWindow 95 = .ok (.lcmp, 1) := by decide +kernel
theorem dX7_bestWindow_96 : decode cX7_bestWindow 96 = .ok (.ifCond .ge 11, 3) := by decide +kernel
theorem dX7_bestWindow_99 : decode cX7_bestWindow 99 = .ok (.lload 9, 2) := by decide +kernel
theorem dX7_bestWindow_101 : decode cX7_bestWindow 101 = .ok (.lstore 5, 2) := by decide +kernel
theorem dX7_bestWindow_103 : decode cX7_bestWindow 103 = .ok (.iload 8, 2) := by decide +kernel
theorem dX7_bestWindow_105 : decode cX7_bestWindow 105 = .ok (.istore 4, 2) := by decide +kernel
theorem dX7_bestWindow_107 : decode cX7_bestWindow 107 = .ok (.iinc 7 1, 3) := by decide +kernel
theorem dX7_bestWindow_110 : decode cX7_bestWindow 110 = .ok (.goto (-43), 3) := by decide +kernel
theorem dX7_bestWindow_113 : decode cX7_bestWindow 113 = .ok (.iload 4, 2) := by decide +kernel
theorem dX7_bestWindow_115 : decode cX7_bestWindow 115 = .ok (.ireturn, 1) := by decide +kernel
abbrev csX7_order : List (List Cond) := [[.code yX7_order cX7_order 11 (some .int)], wsX7_order_r1, wsX7_order_r2, wsX7_order_r3, wsX7_order_r4, wsX7_order_r5, wsX7_order_r6, wsX7_order_r7, wsX70, wsX60, wsX20, wsX50, wsX40, wsX00]
set_option maxRecDepth 20000 in
theorem hbX7_order : wsX7_order = csX7_order.flatten := rfl
set_option maxRecDepth 20000 in
theorem ggX7_order_X7_isOutside : GoodIn wsX7_order wsX7_isOutside := goodIn_c csX7_order hbX7_order _ [(1, 6)] rfl (by decide +kernel)
set_option maxRecDepth 20000 in
theorem gX7_order_X7_isOutside : GoodIn wsX7_order (va_wsS RX7 43 yX7_isOutside wsX7_isOutside) := goodIn_app (goodIn_c csX7_order hbX7_order [.methodLink RX7 43 yX7_isOutside, .static yX7_isOutside, .initialized yX7_isOutside.cls] [(1, 3), (1, 4), (1, 5)] rfl (by decide +kernel)) ggX7_order_X7_isOutside
set_option maxRecDepth 20000 in
theorem ggX7_order_X7_valueWithLevel : GoodIn wsX7_order wsX7_valueWithLevel := goodIn_c csX7_order hbX7_order _ [(1, 10), (1, 11), (1, 12), (1, 13), (1, 14), (1, 15), (1, 16), (1, 17), (1, 18), (1, 19), (1, 20), (1, 21), (1, 22), (1, 23), (2, 0), (2, 1), (2, 2), (2, 3), (2, 4), (2, 5), (2, 6), (2, 7), (2, 8), (2, 9), (2, 10), (2, 11), (2, 12), (2, 13), (2, 14), (2, 15), (2, 16), (2, 17), (2, 18), (2, 19), (2, 20), (2, 21), (2, 22), (2, 23), (3, 0), (3, 1), (3, 2), (3, 3), (3, 4), (3, 5), (3, 6), (3, 7), (3, 8), (3, 9), (3, 10), (3, 11), (3, 12), (3, 13), (3, 14), (3, 15), (3, 16), (3, 17), (3, 18), (3, 19), (3, 20), (3, 21), (3, 22), (3, 23), (4, 0), (4, 1), (4, 2), (4, 3), (4, 4), (4, 5), (4, 6), (4, 7), (4, 8), (4, 9), (4, 10), (4, 11), (4, 12), (4, 13), (4, 14), (4, 15), (4, 16), (4, 17), (4, 18), (4, 19), (4, 20), (4, 21), (4, 22), (4, 23), (5, 0), (5, 1), (5, 2), (5, 3), (5, 4), (5, 5), (5, 6), (5, 7), (5, 8), (5, 9), (5, 10), (1, 5), (5, 11), (5, 12), (5, 13), (5, 14), (5, 15), (5, 16), (5, 17), (5, 18), (5, 19), (5, 20), (5, 21), (5, 22), (5, 23), (6, 0), (6, 1), (6, 2), (6, 3), (6, 4), (6, 5), (6, 6), (6, 7), (6, 8), (6, 9), (6, 10), (6, 11), (6, 12), (6, 13), (6, 14), (6, 15), (6, 16), (6, 17), (6, 18), (6, 19), (6, 20), (6, 21), (6, 22), (6, 23), (7, 0), (7, 1), (7, 2), (8, 0), (8, 1), (8, 2), (8, 3), (8, 4), (8, 5), (9, 0), (9, 1), (10, 0), (10, 1), (10, 2), (10, 3), (10, 4), (10, 5), (10, 6), (10, 7), (10, 8), (11, 0), (11, 1), (11, 2), (11, 3), (11, 4), (12, 0), (12, 1), (12, 2), (12, 3), (12, 4), (12, 5), (13, 0), (13, 1), (13, 2), (13, 3), (13, 4), (13, 5), (13, 6), (13, 7), (13, 8)] rfl (by decide +kernel)
set_option maxRecDepth 20000 in
theorem gX7_order_X7_valueWithLevel : GoodIn wsX7_order (wsV RX7 187 RX7 yX7_valueWithLevel wsX7_valueWithLevel) := goodIn_app (goodIn_c csX7_order hbX7_order [.methodLink RX7 187 yX7_valueWithLevel, .instanceMethod yX7_valueWithLevel, .selects RX7 yX7_valueWithLevel yX7_valueWithLevel, .initialized RX7] [(1, 7), (1, 8), (1, 9), (1, 5)] rfl (by decide +kernel)) ggX7_order_X7_valueWithLevel
theorem dX7_order_0 : decode cX7_order 0 = .ok (.iload_n 1, 1) := by decide +kernel
theorem dX7_order_1 : decode cX7_order 1 = .ok (.ldc 41, 2) := by decide +kernel
theorem dX7_order_3 : decode cX7_order 3 = .ok (.ldc 42, 2) := by decide +kernel
theorem dX7_order_5 : decode cX7_order 5 = .ok (.invokestatic 43, 3) := by decide +kernel
theorem dX7_order_8 : decode cX7_order 8 = .ok (.ifCond .ne 45, 3) := by decide +kernel
theorem dX7_order_11 : decode cX7_order 11 = .ok (.iload_n 2, 1) := by decide +kernel
theorem dX7_order_12 : decode cX7_order 12 = .ok (.iconst 1, 1) := by decide +kernel
theorem dX7_order_13 : decode cX7_order 13 = .ok (.ldc 77, 2) := by decide +kernel
theorem dX7_order_15 : decode cX7_order 15 = .ok (.invokestatic 43, 3) := by decide +kernel
theorem dX7_order_18 : decode cX7_order 18 = .ok (.ifCond .ne 35, 3) := by decide +kernel
theorem dX7_order_21 : decode cX7_order 21 = .ok (.iload_n 3, 1) := by decide +kernel
theorem dX7_order_22 : decode cX7_order 22 = .ok (.iconst 2, 1) := by decide +kernel
theorem dX7_order_23 : decode cX7_order 23 = .ok (.bipush 40, 2) := by decide +kernel
theorem dX7_order_25 : decode cX7_order 25 = .ok (.invokestatic 43, 3) := by decide +kernel
theorem dX7_order_28 : decode cX7_order 28 = .ok (.ifCond .ne 25, 3) := by decide +kernel
theorem dX7_order_31 : decode cX7_order 31 = .ok (.iload_n 1, 1) := by decide +kernel
theorem dX7_order_32 : decode cX7_order 32 = .ok (.iload_n 3, 1) := by decide +kernel
theorem dX7_order_33 : decode cX7_order 33 = .ok (.iconst 1, 1) := by decide +kernel
theorem dX7_order_34 : decode cX7_order 34 = .ok (.isub, 1) := by decide +kernel
theorem dX7_order_35 : decode cX7_order 35 = .ok (.iload_n 2, 1) := by decide +kernel
theorem dX7_order_36 : decode cX7_order 36 = .ok (.imul, 1) := by decide +kernel
theorem dX7_order_37 : decode cX7_order 37 = .ok (.iadd, 1) := by decide +kernel
theorem dX7_order_38 : decode cX7_order 38 = .ok (.ldc 42, 2) := by decide +kernel
theorem dX7_order_40 : decode cX7_order 40 = .ok (.if_icmp .gt 13, 3) := by decide +kernel
theorem dX7_order_43 : decode cX7_order 43 = .ok (.iload 4, 2) := by decide +kernel
theorem dX7_order_45 : decode cX7_order 45 = .ok (.iconst 0, 1) := by decide +kernel
theorem dX7_order_46 : decode cX7_order 46 = .ok (.iconst 1, 1) := by decide +kernel
theorem dX7_order_47 : decode cX7_order 47 = .ok (.invokestatic 43, 3) := by decide +kernel
theorem dX7_order_50 : decode cX7_order 50 = .ok (.ifCond .eq 6, 3) := by decide +kernel
theorem dX7_order_53 : decode cX7_order 53 = .ok (.bipush (-2), 2) := by decide +kernel
theorem dX7_order_55 : decode cX7_order 55 = .ok (.ireturn, 1) := by decide +kernel
theorem dX7_order_56 : decode cX7_order 56 = .ok (.iconst 0, 1) := by decide +kernel
theorem dX7_order_57 : decode cX7_order 57 = .ok (.istore 5, 2) := by decide +kernel
theorem dX7_order_59 : decode cX7_order 59 = .ok (.aload_n 0, 1) := by decide +kernel
theorem dX7_order_60 : decode cX7_order 60 = .ok (.iload_n 1, 1) := by decide +kernel
theorem dX7_order_61 : decode cX7_order 61 = .ok (.invokevirtual 187, 3) := by decide +kernel
theorem dX7_order_64 : decode cX7_order 64 = .ok (.lstore 6, 2) := by decide +kernel
theorem dX7_order_66 : decode cX7_order 66 = .ok (.iconst 1, 1) := by decide +kernel
theorem dX7_order_67 : decode cX7_order 67 = .ok (.istore 8, 2) := by decide +kernel
theorem dX7_order_69 : decode cX7_order 69 = .ok (.iload 8, 2) := by decide +kernel
theorem dX7_order_71 : decode cX7_order 71 = .ok (.iload_n 3, 1) := by decide +kernel
theorem dX7_order_72 : decode cX7_order 72 = .ok (.if_icmp .ge 52, 3) := by decide +kernel
theorem dX7_order_75 : decode cX7_order 75 = .ok (.aload_n 0, 1) := by decide +kernel
theorem dX7_order_76 : decode cX7_order 76 = .ok (.iload_n 1, 1) := by decide +kernel
theorem dX7_order_77 : decode cX7_order 77 = .ok (.iload 8, 2) := by decide +kernel
theorem dX7_order_79 : decode cX7_order 79 = .ok (.iload_n 2, 1) := by decide +kernel
theorem dX7_order_80 : decode cX7_order 80 = .ok (.imul, 1) := by decide +kernel
theorem dX7_order_81 : decode cX7_order 81 = .ok (.iadd, 1) := by decide +kernel
theorem dX7_order_82 : decode cX7_order 82 = .ok (.invokevirtual 187, 3) := by decide +kernel
theorem dX7_order_85 : decode cX7_order 85 = .ok (.lstore 9, 2) := by decide +kernel
theorem dX7_order_87 : decode cX7_order 87 = .ok (.iload 4, 2) := by decide +kernel
theorem dX7_order_89 : decode cX7_order 89 = .ok (.ifCond .ne 14, 3) := by decide +kernel
theorem dX7_order_92 : decode cX7_order 92 = .ok (.lload 9, 2) := by decide +kernel
theorem dX7_order_94 : decode cX7_order 94 = .ok (.lload 6, 2) := by decide +kernel
theorem dX7_order_96 : decode cX7_order 96 = .ok (.lcmp, 1) := by decide +kernel
theorem dX7_order_97 : decode cX7_order 97 = .ok (.ifCond .ge 17, 3) := by decide +kernel
theorem dX7_order_100 : decode cX7_order 100 = .ok (.goto 11, 3) := by decide +kernel
theorem dX7_order_103 : decode cX7_order 103 = .ok (.lload 9, 2) := by decide +kernel
theorem dX7_order_105 : decode cX7_order 105 = .ok (.lload 6, 2) := by decide +kernel
theorem dX7_order_107 : decode cX7_order 107 = .ok (.lcmp, 1) := by decide +kernel
theorem dX7_order_108 : decode cX7_order 108 = .ok (.ifCond .ne 6, 3) := by decide +kernel
theorem dX7_order_111 : decode cX7_order 111 = .ok (.iinc 5 1, 3) := by decide +kernel
theorem dX7_order_114 : decode cX7_order 114 = .ok (.lload 9, 2) := by decide +kernel
theorem dX7_order_116 : decode cX7_order 116 = .ok (.lstore 6, 2) := by decide +kernel
theorem dX7_order_118 : decode cX7_order 118 = .ok (.iinc 8 1, 3) := by decide +kernel
theorem dX7_order_121 : decode cX7_order 121 = .ok (.goto (-52), 3) := by decide +kernel
theorem dX7_order_124 : decode cX7_order 124 = .ok (.iload 5, 2) := by decide +kernel
theorem dX7_order_126 : decode cX7_order 126 = .ok (.ireturn, 1) := by decide +kernel
abbrev csX7_levelFor : List (List Cond) := [[.code yX7_levelFor cX7_levelFor 6 (some .long)], wsX7_levelFor_r1, wsX7_levelFor_r2, wsX7_levelFor_r3, wsX7_levelFor_r4, wsX7_levelFor_r5, wsX7_levelFor_r6, wsX7_levelFor_r7, wsX70, wsX60, wsX20, wsX50, wsX40, wsX00]
set_option maxRecDepth 20000 in
theorem hbX7_levelFor : wsX7_levelFor = csX7_levelFor.flatten := rfl
set_option maxRecDepth 20000 in
theorem ggX7_levelFor_X7_isOutside : GoodIn wsX7_levelFor wsX7_isOutside := goodIn_c csX7_levelFor hbX7_levelFor _ [(1, 9)] rfl (by decide +kernel)
set_option maxRecDepth 20000 in
theorem gX7_levelFor_X7_isOutside : GoodIn wsX7_levelFor (va_wsS RX7 43 yX7_isOutside wsX7_isOutside) := goodIn_app (goodIn_c csX7_levelFor hbX7_levelFor [.methodLink RX7 43 yX7_isOutside, .static yX7_isOutside, .initialized yX7_isOutside.cls] [(1, 6), (1, 7), (1, 8)] rfl (by decide +kernel)) ggX7_levelFor_X7_isOutside
set_option maxRecDepth 20000 in
theorem ggX7_levelFor_X7_valueWithLevel : GoodIn wsX7_levelFor wsX7_valueWithLevel := goodIn_c csX7_levelFor hbX7_levelFor _ [(1, 13), (1, 14), (1, 15), (1, 16), (1, 17), (1, 18), (1, 19), (1, 20), (1, 21), (1, 22), (1, 23), (2, 0), (2, 1), (2, 2), (2, 3), (2, 4), (2, 5), (2, 6), (2, 7), (2, 8), (2, 9), (2, 10), (2, 11), (2, 12), (2, 13), (2, 14), (2, 15), (2, 16), (2, 17), (2, 18), (2, 19), (2, 20), (2, 21), (2, 22), (2, 23), (3, 0), (3, 1), (3, 2), (3, 3), (3, 4), (3, 5), (3, 6), (3, 7), (3, 8), (3, 9), (3, 10), (3, 11), (3, 12), (3, 13), (3, 14), (3, 15), (3, 16), (3, 17), (3, 18), (3, 19), (3, 20), (3, 21), (3, 22), (3, 23), (4, 0), (4, 1), (4, 2), (4, 3), (4, 4), (4, 5), (4, 6), (4, 7), (4, 8), (4, 9), (4, 10), (4, 11), (4, 12), (4, 13), (4, 14), (4, 15), (4, 16), (4, 17), (4, 18), (4, 19), (4, 20), (4, 21), (4, 22), (4, 23), (5, 0), (5, 1), (5, 2), (5, 3), (5, 4), (5, 5), (5, 6), (5, 7), (5, 8), (5, 9), (5, 10), (5, 11), (5, 12), (5, 13), (1, 8), (5, 14), (5, 15), (5, 16), (5, 17), (5, 18), (5, 19), (5, 20), (5, 21), (5, 22), (5, 23), (6, 0), (6, 1), (6, 2), (6, 3), (6, 4), (6, 5), (6, 6), (6, 7), (6, 8), (6, 9), (6, 10), (6, 11), (6, 12), (6, 13), (6, 14), (6, 15), (6, 16), (6, 17), (6, 18), (6, 19), (6, 20), (6, 21), (6, 22), (6, 23), (7, 0), (7, 1), (7, 2), (7, 3), (7, 4), (7, 5), (8, 0), (8, 1), (8, 2), (8, 3), (8, 4), (8, 5), (9, 0), (9, 1), (10, 0), (10, 1), (10, 2), (10, 3), (10, 4), (10, 5), (10, 6), (10, 7), (10, 8), (11, 0), (11, 1), (11, 2), (11, 3), (11, 4), (12, 0), (12, 1), (12, 2), (12, 3), (12, 4), (12, 5), (13, 0), (13, 1), (13, 2), (13, 3), (13, 4), (13, 5), (13, 6), (13, 7), (13, 8)] rfl (by decide +kernel)
set_option maxRecDepth 20000 in
theorem gX7_levelFor_X7_valueWithLevel : GoodIn wsX7_levelFor (wsV RX7 187 RX7 yX7_valueWithLevel wsX7_valueWithLevel) := goodIn_app (goodIn_c csX7_levelFor hbX7_levelFor [.methodLink RX7 187 yX7_valueWithLevel, .instanceMethod yX7_valueWithLevel, .selects RX7 yX7_valueWithLevel yX7_valueWithLevel, .initialized RX7] [(1, 10), (1, 11), (1, 12), (1, 8)] rfl (by decide +kernel)) ggX7_levelFor_X7_valueWithLevel
set_option maxRecDepth 20000 in
theorem ggX7_levelFor_J9_floorDiv_7cf53 : GoodIn wsX7_levelFor wsJ9_floorDiv_7cf53 := goodIn_c csX7_levelFor hbX7_levelFor _ [(7, 9)] rfl (by decide +kernel)
set_option maxRecDepth 20000 in
theorem gX7_levelFor_J9_floorDiv_7cf53 : GoodIn wsX7_levelFor (va_wsS RX7 197 yJ9_floorDiv_7cf53 wsJ9_floorDiv_7cf53) := goodIn_app (goodIn_c csX7_levelFor hbX7_levelFor [.methodLink RX7 197 yJ9_floorDiv_7cf53, .static yJ9_floorDiv_7cf53, .initialized yJ9_floorDiv_7cf53.cls] [(7, 6), (7, 7), (6, 21)] rfl (by decide +kernel)) ggX7_levelFor_J9_floorDiv_7cf53
theorem dX7_levelFor_0 : decode cX7_levelFor 0 = .ok (.iload_n 1, 1) := by decide +kernel
theorem dX7_levelFor_1 : decode cX7_levelFor 1 = .ok (.ldc 196, 2) := by decide +kernel
theorem dX7_levelFor_3 : decode cX7_levelFor 3 = .ok (.ldc 146, 2) := by decide +kernel
theorem dX7_levelFor_5 : decode cX7_levelFor 5 = .ok (.invokestatic 43, 3) := by decide +kernel
theorem dX7_levelFor_8 : decode cX7_levelFor 8 = .ok (.ifCond .eq 7, 3) := by decide +kernel
theorem dX7_levelFor_11 : decode cX7_levelFor 11 = .ok (.ldc2_w 119, 3) := by decide +kernel
theorem dX7_levelFor_14 : decode cX7_levelFor 14 = .ok (.lreturn, 1) := by decide +kernel
theorem dX7_levelFor_15 : decode cX7_levelFor 15 = .ok (.aload_n 0, 1) := by decide +kernel
theorem dX7_levelFor_16 : decode cX7_levelFor 16 = .ok (.ldc 42, 2) := by decide +kernel
theorem dX7_levelFor_18 : decode cX7_levelFor 18 = .ok (.invokevirtual 187, 3) := by decide +kernel
theorem dX7_levelFor_21 : decode cX7_levelFor 21 = .ok (.iload_n 1, 1) := by decide +kernel
theorem dX7_levelFor_22 : decode cX7_levelFor 22 = .ok (.i2l, 1) := by decide +kernel
theorem dX7_levelFor_23 : decode cX7_levelFor 23 = .ok (.lcmp, 1) := by decide +kernel
theorem dX7_levelFor_24 : decode cX7_levelFor 24 = .ok (.ifCond .ge 7, 3) := by decide +kernel
theorem dX7_levelFor_27 : decode cX7_levelFor 27 = .ok (.ldc2_w 153, 3) := by decide +kernel
theorem dX7_levelFor_30 : decode cX7_levelFor 30 = .ok (.lreturn, 1) := by decide +kernel
theorem dX7_levelFor_31 : decode cX7_levelFor 31 = .ok (.ldc 41, 2) := by decide +kernel
theorem dX7_levelFor_33 : decode cX7_levelFor 33 = .ok (.istore_n 2, 1) := by decide +kernel
theorem dX7_levelFor_34 : decode cX7_levelFor 34 = .ok (.ldc 42, 2) := by decide +kernel
theorem dX7_levelFor_36 : decode cX7_levelFor 36 = .ok (.istore_n 3, 1) := by decide +kernel
theorem dX7_levelFor_37 : decode cX7_levelFor 37 = .ok (.iconst 0, 1) := by decide +kernel
theorem dX7_levelFor_38 : decode cX7_levelFor 38 = .ok (.istore 4, 2) := by decide +kernel
theorem dX7_levelFor_40 : decode cX7_levelFor 40 = .ok (.iload_n 2, 1) := by decide +kernel
theorem dX7_levelFor_41 : decode cX7_levelFor 41 = .ok (.iload_n 3, 1) := by decide +kernel
theorem dX7_levelFor_42 : decode cX7_levelFor 42 = .ok (.if_icmp .ge 48, 3) := by decide +kernel
theorem dX7_levelFor_45 : decode cX7_levelFor 45 = .ok (.iload 4, 2) := by decide +kernel
theorem dX7_levelFor_47 : decode cX7_levelFor 47 = .ok (.bipush 32, 2) := by decide +kernel
theorem dX7_levelFor_49 : decode cX7_levelFor 49 = .ok (.if_icmp .ge 41, 3) := by decide +kernel
theorem dX7_levelFor_52 : decode cX7_levelFor 52 = .ok (.iload_n 2, 1) := by decide +kernel
theorem dX7_levelFor_53 : decode cX7_levelFor 53 = .ok (.iload_n 3, 1) := by decide +kernel
theorem dX7_levelFor_54 : decode cX7_levelFor 54 = .ok (.iadd, 1) := by decide +kernel
theorem dX7_levelFor_55 : decode cX7_levelFor 55 = .ok (.iconst 2, 1) := by decide +kernel
theorem dX7_levelFor_56 : decode cX7_levelFor 56 = .ok (.invokestatic 197, 3) := by decide +kernel
theorem dX7_levelFor_59 : decode cX7_levelFor 59 = .ok (.istore 5, 2) := by decide +kernel
theorem dX7_levelFor_61 : decode cX7_levelFor 61 = .ok (.aload_n 0, 1) := by decide +kernel
theorem dX7_levelFor_62 : decode cX7_levelFor 62 = .ok (.iload 5, 2) := by decide +kernel
theorem dX7_levelFor_64 : decode cX7_levelFor 64 = .ok (.invokevirtual 187, 3) := by decide +kernel
theorem dX7_levelFor_67 : decode cX7_levelFor 67 = .ok (.iload_n 1, 1) := by decide +kernel
theorem dX7_levelFor_68 : decode cX7_levelFor 68 = .ok (.i2l, 1) := by decide +kernel
theorem dX7_levelFor_69 : decode cX7_levelFor 69 = .ok (.lcmp, 1) := by decide +kernel
theorem dX7_levelFor_70 : decode cX7_levelFor 70 = .ok (.ifCond .lt 9, 3) := by decide +kernel
theorem dX7_levelFor_73 : decode cX7_levelFor 73 = .ok (.iload 5, 2) := by decide +kernel
theorem dX7_levelFor_75 : decode cX7_levelFor 75 = .ok (.istore_n 3, 1) := by decide +kernel
theorem dX7_levelFor_76 : decode cX7_levelFor 76 = .ok (.goto 8, 3) := by decide +kernel
theorem dX7_levelFor_79 : decode cX7_levelFor 79 = .ok (.iload 5, 2) := by decide +kernel
theorem dX7_levelFor_81 : decode cX7_levelFor 81 = .ok (.iconst 1, 1) := by decide +kernel
theorem dX7_levelFor_82 : decode cX7_levelFor 82 = .ok (.iadd, 1) := by decide +kernel
theorem dX7_levelFor_83 : decode cX7_levelFor 83 = .ok (.istore_n 2, 1) := by decide +kernel
theorem dX7_levelFor_84 : decode cX7_levelFor 84 = .ok (.iinc 4 1, 3) := by decide +kernel
theorem dX7_levelFor_87 : decode cX7_levelFor 87 = .ok (.goto (-47), 3) := by decide +kernel
theorem dX7_levelFor_90 : decode cX7_levelFor 90 = .ok (.iload_n 2, 1) := by decide +kernel
theorem dX7_levelFor_91 : decode cX7_levelFor 91 = .ok (.i2l, 1) := by decide +kernel
theorem dX7_levelFor_92 : decode cX7_levelFor 92 = .ok (.lreturn, 1) := by decide +kernel
abbrev csX7_settle : List (List Cond) := [[.code yX7_settle cX7_settle 3 (some .int)], wsX7_settle_r1, wsX7_settle_r2, wsX7_settle_r3, wsX7_settle_r4, wsX7_settle_r5, wsX7_settle_r6, wsX70, wsX60, wsX20, wsX40, wsX50, wsX00]
set_option maxRecDepth 20000 in
theorem hbX7_settle : wsX7_settle = csX7_settle.flatten := rfl
set_option maxRecDepth 20000 in
theorem ggX7_settle_X2_copyFrom : GoodIn wsX7_settle wsX2_copyFrom := goodIn_c csX7_settle hbX7_settle _ [(1, 9), (1, 10), (1, 11), (1, 12), (1, 13), (1, 14), (1, 15), (1, 16), (1, 17), (1, 18), (1, 19), (1, 20), (1, 21), (1, 22), (1, 23), (2, 0), (2, 1), (2, 2), (2, 3), (2, 4), (2, 5), (2, 6), (2, 7), (2, 8), (2, 9), (2, 10), (2, 11), (2, 12), (2, 13), (2, 14), (2, 15), (2, 16), (2, 17), (2, 18), (2, 19), (2, 20), (2, 21), (2, 22), (2, 23), (3, 0), (3, 1), (3, 2), (3, 3), (3, 4), (3, 5), (9, 0), (9, 1), (9, 2), (9, 3), (9, 4), (9, 5), (9, 6), (9, 7), (9, 8), (11, 0), (11, 1), (11, 2), (11, 3), (11, 4), (10, 0), (10, 1), (10, 2), (10, 3), (10, 4), (10, 5), (12, 0), (12, 1), (12, 2), (12, 3), (12, 4), (12, 5), (12, 6), (12, 7), (12, 8)] rfl (by decide +kernel)
set_option maxRecDepth 20000 in
theorem gX7_settle_X2_copyFrom : GoodIn wsX7_settle (wsV RX7 203 RX2 yX2_copyFrom wsX2_copyFrom) := goodIn_app (goodIn_c csX7_settle hbX7_settle [.methodLink RX7 203 yX2_copyFrom, .instanceMethod yX2_copyFrom, .selects RX2 yX2_copyFrom yX2_copyFrom, .initialized RX2] [(1, 5), (1, 6), (1, 7), (1, 8)] rfl (by decide +kernel)) ggX7_settle_X2_copyFrom
set_option maxRecDepth 20000 in
theorem ggX7_settle_X2_makeReading : GoodIn wsX7_settle wsX2_makeReading := goodIn_c csX7_settle hbX7_settle _ [(3, 9), (1, 11), (3, 10), (1, 15), (3, 11), (1, 16), (1, 13), (1, 17), (1, 12), (3, 12), (1, 14), (1, 18), (3, 13), (3, 14), (3, 15), (3, 16), (3, 17), (3, 18), (1, 8), (3, 19), (3, 20), (3, 21), (3, 22), (3, 23), (1, 10), (4, 0), (4, 1), (4, 2), (4, 3), (4, 4), (2, 19), (4, 5), (2, 21), (3, 0), (3, 1), (3, 2), (3, 3), (3, 4), (3, 5), (4, 6), (4, 7), (4, 8), (2, 8), (4, 9), (2, 12), (2, 11), (4, 10), (4, 11), (4, 12), (4, 13), (4, 14), (4, 15), (4, 16), (1, 22), (4, 17), (2, 0), (4, 18), (4, 19), (4, 20), (4, 21), (4, 22), (2, 2), (2, 1), (4, 23), (5, 0), (5, 1), (5, 2), (5, 3), (5, 4), (5, 5), (2, 3), (2, 4), (5, 6), (5, 7), (5, 8), (5, 9), (5, 10), (5, 11), (5, 12), (5, 13), (5, 14), (5, 15), (5, 16), (5, 17), (5, 18), (5, 19), (5, 20), (2, 22), (5, 21), (2, 23), (5, 22), (5, 23), (6, 0), (6, 1), (6, 2), (6, 3), (6, 4), (6, 5), (6, 6), (6, 7), (6, 8), (6, 9), (6, 10), (6, 11), (6, 12), (6, 13), (6, 14), (6, 15), (6, 16), (9, 0), (9, 1), (9, 2), (9, 3), (9, 4), (9, 5), (9, 6), (9, 7), (9, 8), (10, 0), (10, 1), (10, 2), (10, 3), (10, 4), (10, 5), (12, 0), (12, 1), (12, 2), (12, 3), (12, 4), (12, 5), (12, 6), (12, 7), (12, 8), (11, 0), (11, 1), (11, 2), (11, 3), (11, 4)] rfl (by decide +kernel)
set_option maxRecDepth 20000 in
theorem gX7_settle_X2_makeReading : GoodIn wsX7_settle (wsV RX7 207 RX2 yX2_makeReading wsX2_makeReading) := goodIn_app (goodIn_c csX7_settle hbX7_settle [.methodLink RX7 207 yX2_makeReading, .instanceMethod yX2_makeReading, .selects RX2 yX2_makeReading yX2_makeReading, .initialized RX2] [(3, 6), (3, 7), (3, 8), (1, 8)] rfl (by decide +kernel)) ggX7_settle_X2_makeReading
theorem dX7_settle_0 : decode cX7_settle 0 = .ok (.aload_n 0, 1) := by decide +kernel
theorem dX7_settle_1 : decode cX7_settle 1 = .ok (.getfield 30, 3) := by decide +kernel
theorem dX7_settle_4 : decode cX7_settle 4 = .ok (.aload_n 0, 1) := by decide +kernel
theorem dX7_settle_5 : decode cX7_settle 5 = .ok (.getfield 10, 3) := by decide +kernel
theorem dX7_settle_8 : decode cX7_settle 8 = .ok (.getfield 47, 3) := by decide +kernel
theorem dX7_settle_11 : decode cX7_settle 11 = .ok (.invokevirtual 203, 3) := by decide +kernel
theorem dX7_settle_14 : decode cX7_settle 14 = .ok (.iconst 0, 1) := by decide +kernel
theorem dX7_settle_15 : decode cX7_settle 15 = .ok (.istore_n 1, 1) := by decide +kernel
theorem dX7_settle_16 : decode cX7_settle 16 = .ok (.iload_n 1, 1) := by decide +kernel
theorem dX7_settle_17 : decode cX7_settle 17 = .ok (.bipush 20, 2) := by decide +kernel
theorem dX7_settle_19 : decode cX7_settle 19 = .ok (.if_icmp .gt 44, 3) := by decide +kernel
theorem dX7_settle_22 : decode cX7_settle 22 = .ok (.aload_n 0, 1) := by decide +kernel
theorem dX7_settle_23 : decode cX7_settle 23 = .ok (.getfield 30, 3) := by decide +kernel
theorem dX7_settle_26 : decode cX7_settle 26 = .ok (.getfield 103, 3) := by decide +kernel
theorem dX7_settle_29 : decode cX7_settle 29 = .ok (.getfield 124, 3) := by decide +kernel
theorem dX7_settle_32 : decode cX7_settle 32 = .ok (.istore_n 2, 1) := by decide +kernel
theorem dX7_settle_33 : decode cX7_settle 33 = .ok (.aload_n 0, 1) := by decide +kernel
theorem dX7_settle_34 : decode cX7_settle 34 = .ok (.getfield 30, 3) := by decide +kernel
theorem dX7_settle_37 : decode cX7_settle 37 = .ok (.invokevirtual 207, 3) := by decide +kernel
theorem dX7_settle_40 : decode cX7_settle 40 = .ok (.pop2, 1) := by decide +kernel
theorem dX7_settle_41 : decode cX7_settle 41 = .ok (.aload_n 0, 1) := by decide +kernel
theorem dX7_settle_42 : decode cX7_settle 42 = .ok (.getfield 30, 3) := by decide +kernel
theorem dX7_settle_45 : decode cX7_settle 45 = .ok (.getfield 103, 3) := by decide +kernel
theorem dX7_settle_48 : decode cX7_settle 48 = .ok (.getfield 124, 3) := by decide +kernel
theorem dX7_settle_51 : decode cX7_settle 51 = .ok (.iload_n 2, 1) := by decide +kernel
theorem dX7_settle_52 : decode cX7_settle 52 = .ok (.if_icmp .ne 5, 3) := by decide +kernel
theorem dX7_settle_55 : decode cX7_settle 55 = .ok (.iload_n 1, 1) := by decide +kernel
theorem dX7_settle_56 : decode cX7_settle 56 = .ok (.ireturn, 1) := by decide +kernel
theorem dX7_settle_57 : decode cX7_settle 57 = .ok (.iinc 1 1, 3) := by decide +kernel
theorem dX7_settle_60 : decode cX7_settle 60 = .ok (.goto (-44), 3) := by decide +kernel
theorem dX7_settle_63 : decode cX7_settle 63 = .ok (.bipush (-6), 2) := by decide +kernel
theorem dX7_settle_65 : decode cX7_settle 65 = .ok (.ireturn, 1) := by decide +kernel
abbrev csX7_say : List (List Cond) := [[.code yX7_say cX7_say 2 (some .int)], [.fieldLink RX7 37 "SlopeMeter" "pad" "LSlopeMeter$Pad;", .fieldLink RX7 212 "SlopeMeter$Pad" "length" "I", .methodLink RX7 43 yX7_isOutside, .static yX7_isOutside, .initialized RX7, .code yX7_isOutside cX7_isOutside 3 (some .boolean), .methodLink RX7 208 yX3_append, .instanceMethod yX3_append, .selects RX3 yX3_append yX3_append, .initialized RX3, .code yX3_append cX3_append 2 (some .boolean), .fieldLink RX3 22 "SlopeMeter$Pad" "length" "I", .fieldLink RX3 9 "SlopeMeter$Pad" "signs" "[C"], wsX70, wsX30]
set_option maxRecDepth 20000 in
theorem hbX7_say : wsX7_say = csX7_say.flatten := rfl
set_option maxRecDepth 20000 in
theorem ggX7_say_X7_isOutside : GoodIn wsX7_say wsX7_isOutside := goodIn_c csX7_say hbX7_say _ [(1, 5)] rfl (by decide +kernel)
set_option maxRecDepth 20000 in
theorem gX7_say_X7_isOutside : GoodIn wsX7_say (va_wsS RX7 43 yX7_isOutside wsX7_isOutside) := goodIn_app (goodIn_c csX7_say hbX7_say [.methodLink RX7 43 yX7_isOutside, .static yX7_isOutside, .initialized yX7_isOutside.cls] [(1, 2), (1, 3), (1, 4)] rfl (by decide +kernel)) ggX7_say_X7_isOutside
set_option maxRecDepth 20000 in
theorem ggX7_say_X3_append : GoodIn wsX7_say wsX3_append := goodIn_c csX7_say hbX7_say _ [(1, 10), (1, 11), (1, 12), (3, 0), (3, 1), (3, 2), (3, 3), (3, 4), (3, 5), (3, 6)] rfl (by decide +kernel)
set_option maxRecDepth 20000 in
theorem gX7_say_X3_append : GoodIn wsX7_say (wsV RX7 208 RX3 yX3_append wsX3_append) := goodIn_app (goodIn_c csX7_say hbX7_say [.methodLink RX7 208 yX3_append, .instanceMethod yX3_append, .selects RX3 yX3_append yX3_append, .initialized RX3] [(1, 6), (1, 7), (1, 8), (1, 9)] rfl (by decide +kernel)) ggX7_say_X3_append
theorem dX7_say_0 : decode cX7_say 0 = .ok (.iload_n 1, 1) := by decide +kernel
theorem dX7_say_1 : decode cX7_say 1 = .ok (.bipush 33, 2) := by decide +kernel
theorem dX7_say_3 : decode cX7_say 3 = .ok (.bipush 126, 2) := by decide +kernel
theorem dX7_say_5 : decode cX7_say 5 = .ok (.invokestatic 43, 3) := by decide +kernel
theorem dX7_say_8 : decode cX7_say 8 = .ok (.ifCond .eq 6, 3) := by decide +kernel
theorem dX7_say_11 : decode cX7_say 11 = .ok (.bipush (-2), 2) := by decide +kernel
theorem dX7_say_13 : decode cX7_say 13 = .ok (.ireturn, 1) := by decide +kernel
theorem dX7_say_14 : decode cX7_say 14 = .ok (.aload_n 0, 1) := by decide +kernel
theorem dX7_say_15 : decode cX7_say 15 = .ok (.getfield 37, 3) := by decide +kernel
theorem dX7_say_18 : decode cX7_say 18 = .ok (.iload_n 1, 1) := by decide +kernel
theorem dX7_say_19 : decode cX7_say 19 = .ok (.i2c, 1) := by decide +kernel
theorem dX7_say_20 : decode cX7_say 20 = .ok (.invokevirtual 208, 3) := by decide +kernel
theorem dX7_say_23 : decode cX7_say 23 = .ok (.ifCond .eq 13, 3) := by decide +kernel
theorem dX7_say_26 : decode cX7_say 26 = .ok (.aload_n 0, 1) := by decide +kernel
theorem dX7_say_27 : decode cX7_say 27 = .ok (.getfield 37, 3) := by decide +kernel
theorem dX7_say_30 : decode cX7_say 30 = .ok (.getfield 212, 3) := by decide +kernel
theorem dX7_say_33 : decode cX7_say 33 = .ok (.goto 5, 3) := by decide +kernel
theorem dX7_say_36 : decode cX7_say 36 = .ok (.bipush (-4), 2) := by decide +kernel
theorem dX7_say_38 : decode cX7_say 38 = .ok (.ireturn, 1) := by decide +kernel
theorem dX7_wipe_0 : decode cX7_wipe 0 = .ok (.aload_n 0, 1) := by decide +kernel
theorem dX7_wipe_1 : decode cX7_wipe 1 = .ok (.getfield 37, 3) := by decide +kernel
theorem dX7_wipe_4 : decode cX7_wipe 4 = .ok (.getfield 212, 3) := by decide +kernel
theorem dX7_wipe_7 : decode cX7_wipe 7 = .ok (.istore_n 1, 1) := by decide +kernel
theorem dX7_wipe_8 : decode cX7_wipe 8 = .ok (.aload_n 0, 1) := by decide +kernel
theorem dX7_wipe_9 : decode cX7_wipe 9 = .ok (.getfield 37, 3) := by decide +kernel
theorem dX7_wipe_12 : decode cX7_wipe 12 = .ok (.iconst 0, 1) := by decide +kernel
theorem dX7_wipe_13 : decode cX7_wipe 13 = .ok (.putfield 212, 3) := by decide +kernel
theorem dX7_wipe_16 : decode cX7_wipe 16 = .ok (.iload_n 1, 1) := by decide +kernel
theorem dX7_wipe_17 : decode cX7_wipe 17 = .ok (.ireturn, 1) := by decide +kernel
abbrev csX7_fault : List (List Cond) := [[.code yX7_fault cX7_fault 1 (some .int)], wsX7_fault_r1, wsX7_fault_r2, wsX70, wsX30]
set_option maxRecDepth 20000 in
theorem hbX7_fault : wsX7_fault = csX7_fault.flatten := rfl
set_option maxRecDepth 20000 in
theorem ggX7_fault_X3_findFault : GoodIn wsX7_fault wsX3_findFault := goodIn_c csX7_fault hbX7_fault _ [(1, 5), (1, 6), (1, 7), (1, 8), (1, 9), (1, 10), (1, 11), (1, 4), (1, 12), (1, 13), (1, 14), (1, 15), (1, 16), (1, 17), (1, 18), (1, 19), (1, 20), (1, 21), (1, 22), (1, 23), (2, 0), (2, 1), (2, 2), (2, 3), (2, 4), (2, 5), (2, 6), (2, 7), (2, 8), (2, 9), (2, 10), (2, 11), (2, 12), (2, 13), (2, 14), (2, 15), (2, 16), (2, 17), (4, 0), (4, 1), (4, 2), (4, 3), (4, 4), (4, 5), (4, 6)] rfl (by decide +kernel)
set_option maxRecDepth 20000 in
theorem gX7_fault_X3_findFault : GoodIn wsX7_fault (wsV RX7 215 RX3 yX3_findFault wsX3_findFault) := goodIn_app (goodIn_c csX7_fault hbX7_fault [.methodLink RX7 215 yX3_findFault, .instanceMethod yX3_findFault, .selects RX3 yX3_findFault yX3_findFault, .initialized RX3] [(1, 1), (1, 2), (1, 3), (1, 4)] rfl (by decide +kernel)) ggX7_fault_X3_findFault
theorem dX7_fault_0 : decode cX7_fault 0 = .ok (.aload_n 0, 1) := by decide +kernel
theorem dX7_fault_1 : decode cX7_fault 1 = .ok (.getfield 37, 3) := by decide +kernel
theorem dX7_fault_4 : decode cX7_fault 4 = .ok (.invokevirtual 215, 3) := by decide +kernel
theorem dX7_fault_7 : decode cX7_fault 7 = .ok (.ireturn, 1) := by decide +kernel
abbrev csX7_run : List (List Cond) := [[.code yX7_run cX7_run 2 (some .int)], wsX7_run_r1, wsX7_run_r2, wsX7_run_r3, wsX7_run_r4, wsX7_run_r5, wsX7_run_r6, wsX7_run_r7, wsX7_run_r8, wsX7_run_r9, wsX7_run_r10, wsX7_run_r11, wsX70, wsX60, wsX10, wsX30, wsX20, wsX50, wsX40, wsX00]
set_option maxRecDepth 20000 in
theorem hbX7_run : wsX7_run = csX7_run.flatten := rfl
set_option maxRecDepth 20000 in
theorem ggX7_run_X3_findFault : GoodIn wsX7_run wsX3_findFault := goodIn_c csX7_run hbX7_run _ [(1, 10), (1, 11), (1, 12), (1, 13), (1, 14), (1, 15), (1, 16), (1, 9), (1, 17), (1, 18), (1, 19), (1, 20), (1, 21), (1, 22), (1, 23), (2, 0), (2, 1), (2, 2), (2, 3), (2, 4), (2, 5), (2, 6), (2, 7), (2, 8), (2, 9), (2, 10), (2, 11), (2, 12), (2, 13), (2, 14), (2, 15), (2, 16), (2, 17), (2, 18), (2, 19), (2, 20), (2, 21), (2, 22), (15, 0), (15, 1), (15, 2), (15, 3), (15, 4), (15, 5), (15, 6)] rfl (by decide +kernel)
set_option maxRecDepth 20000 in
theorem gX7_run_X3_findFault : GoodIn wsX7_run (wsV RX7 215 RX3 yX3_findFault wsX3_findFault) := goodIn_app (goodIn_c csX7_run hbX7_run [.methodLink RX7 215 yX3_findFault, .instanceMethod yX3_findFault, .selects RX3 yX3_findFault yX3_findFault, .initialized RX3] [(1, 6), (1, 7), (1, 8), (1, 9)] rfl (by decide +kernel)) ggX7_run_X3_findFault
set_option maxRecDepth 20000 in
theorem ggX7_run_X3_countReadings : GoodIn wsX7_run wsX3_countReadings := goodIn_c csX7_run hbX7_run _ [(3, 2), (1, 12), (3, 3), (3, 4), (3, 5), (1, 9), (3, 6), (1, 18), (3, 7), (3, 8), (3, 9), (3, 10), (1, 19), (15, 0), (15, 1), (15, 2), (15, 3), (15, 4), (15, 5), (15, 6)] rfl (by decide +kernel)
set_option maxRecDepth 20000 in
theorem gX7_run_X3_countReadings : GoodIn wsX7_run (wsV RX7 219 RX3 yX3_countReadings wsX3_countReadings) := goodIn_app (goodIn_c csX7_run hbX7_run [.methodLink RX7 219 yX3_countReadings, .instanceMethod yX3_countReadings, .selects RX3 yX3_countReadings yX3_countReadings, .initialized RX3] [(2, 23), (3, 0), (3, 1), (1, 9)] rfl (by decide +kernel)) ggX7_run_X3_countReadings
set_option maxRecDepth 20000 in
theorem ggX7_run_X6_copyFrom : GoodIn wsX7_run wsX6_copyFrom := goodIn_c csX7_run hbX7_run _ [(3, 15), (3, 16), (3, 17), (3, 18), (3, 19), (3, 20), (3, 21), (3, 22), (3, 23), (4, 0), (4, 1), (4, 2), (4, 3), (4, 4), (4, 5), (4, 6), (4, 7), (4, 8), (4, 9), (4, 10), (4, 11), (4, 12), (4, 13), (4, 14), (4, 15), (4, 16), (4, 17), (4, 18), (4, 19), (4, 20), (4, 21), (4, 22), (4, 23), (5, 0), (5, 1), (5, 2), (5, 3), (5, 4), (5, 5), (5, 6), (5, 7), (5, 8), (5, 9), (5, 10), (5, 11), (5, 12), (5, 13), (5, 14), (5, 15), (5, 16), (5, 17), (5, 18), (5, 19), (5, 20), (5, 21), (5, 22), (5, 23), (6, 0), (6, 1), (6, 2), (6, 3), (6, 4), (6, 5), (6, 6), (6, 7), (6, 8), (6, 9), (13, 0), (13, 1), (16, 0), (16, 1), (16, 2), (16, 3), (16, 4), (16, 5), (16, 6), (16, 7), (16, 8), (17, 0), (17, 1), (17, 2), (17, 3), (17, 4), (18, 0), (18, 1), (18, 2), (18, 3), (18, 4), (18, 5), (19, 0), (19, 1), (19, 2), (19, 3), (19, 4), (19, 5), (19, 6), (19, 7), (19, 8), (14, 0), (14, 1)] rfl (by decide +kernel)
set_option maxRecDepth 20000 in
theorem gX7_run_X6_copyFrom : GoodIn wsX7_run (wsV RX7 222 RX6 yX6_copyFrom wsX6_copyFrom) := goodIn_app (goodIn_c csX7_run hbX7_run [.methodLink RX7 222 yX6_copyFrom, .instanceMethod yX6_copyFrom, .selects RX6 yX6_copyFrom yX6_copyFrom, .initialized RX6] [(3, 11), (3, 12), (3, 13), (3, 14)] rfl (by decide +kernel)) ggX7_run_X6_copyFrom
set_option maxRecDepth 20000 in
theorem ggX7_run_X7_carryOutPad : GoodIn wsX7_run wsX7_carryOutPad := goodIn_c csX7_run hbX7_run _ [(6, 14), (1, 0), (6, 15), (1, 1), (6, 16), (6, 17), (6, 18), (6, 19), (6, 20), (6, 21), (6, 22), (3, 8), (3, 9), (1, 9), (3, 10), (1, 19), (6, 23), (3, 4), (3, 5), (3, 6), (1, 18), (7, 0), (7, 1), (7, 2), (3, 14), (7, 3), (3, 16), (3, 17), (7, 4), (7, 5), (7, 6), (3, 21), (7, 7), (4, 0), (7, 8), (4, 4), (7, 9), (4, 5), (4, 2), (4, 6), (4, 1), (7, 10), (4, 3), (4, 7), (7, 11), (7, 12), (7, 13), (7, 14), (7, 15), (7, 16), (7, 17), (7, 18), (7, 19), (7, 20), (7, 21), (3, 23), (7, 22), (7, 23), (8, 0), (8, 1), (8, 2), (5, 8), (8, 3), (5, 10), (5, 13), (5, 14), (5, 15), (5, 16), (5, 17), (5, 18), (8, 4), (8, 5), (8, 6), (4, 21), (8, 7), (5, 1), (5, 0), (8, 8), (8, 9), (8, 10), (8, 11), (8, 12), (8, 13), (8, 14), (4, 11), (8, 15), (4, 13), (8, 16), (8, 17), (8, 18), (8, 19), (8, 20), (4, 15), (4, 14), (8, 21), (6, 13), (8, 22), (8, 23), (9, 0), (9, 1), (9, 2), (4, 16), (4, 17), (9, 3), (9, 4), (9, 5), (9, 6), (9, 7), (9, 8), (9, 9), (9, 10), (9, 11), (9, 12), (9, 13), (9, 14), (9, 15), (9, 16), (9, 17), (5, 11), (9, 18), (5, 12), (9, 19), (9, 20), (9, 21), (9, 22), (9, 23), (10, 0), (10, 1), (10, 2), (10, 3), (10, 4), (6, 4), (10, 5), (10, 6), (10, 7), (10, 8), (10, 9), (10, 10), (6, 3), (6, 5), (10, 11), (10, 12), (10, 13), (5, 22), (10, 14), (10, 15), (10, 16), (10, 17), (10, 18), (10, 19), (10, 20), (10, 21), (6, 0), (10, 22), (10, 23), (11, 0), (11, 1), (6, 1), (11, 2), (11, 3), (11, 4), (11, 5), (11, 6), (11, 7), (11, 8), (11, 9), (11, 10), (11, 11), (11, 12), (11, 13), (11, 14), (12, 0), (12, 1), (12, 2), (12, 3), (12, 4), (12, 5), (15, 0), (15, 1), (15, 2), (15, 3), (15, 4), (15, 5), (15, 6), (13, 0), (13, 1), (16, 0), (16, 1), (16, 2), (16, 3), (16, 4), (16, 5), (16, 6), (16, 7), (16, 8), (17, 0), (17, 1), (17, 2), (17, 3), (17, 4), (18, 0), (18, 1), (18, 2), (18, 3), (18, 4), (18, 5), (19, 0), (19, 1), (19, 2), (19, 3), (19, 4), (19, 5), (19, 6), (19, 7), (19, 8), (14, 0), (14, 1)] rfl (by decide +kernel)
set_option maxRecDepth 20000 in
theorem gX7_run_X7_carryOutPad : GoodIn wsX7_run (wsV RX7 225 RX7 yX7_carryOutPad wsX7_carryOutPad) := goodIn_app (goodIn_c csX7_run hbX7_run [.methodLink RX7 225 yX7_carryOutPad, .instanceMethod yX7_carryOutPad, .selects RX7 yX7_carryOutPad yX7_carryOutPad, .initialized RX7] [(6, 10), (6, 11), (6, 12), (6, 13)] rfl (by decide +kernel)) ggX7_run_X7_carryOutPad
theorem dX7_run_0 : decode cX7_run 0 = .ok (.aload_n 0, 1) := by decide +kernel
theorem dX7_run_1 : decode cX7_run 1 = .ok (.getfield 37, 3) := by decide +kernel
theorem dX7_run_4 : decode cX7_run 4 = .ok (.invokevirtual 215, 3) := by decide +kernel
theorem dX7_run_7 : decode cX7_run 7 = .ok (.bipush (-6), 2) := by decide +kernel
theorem dX7_run_9 : decode cX7_run 9 = .ok (.if_icmp .eq 6, 3) := by decide +kernel
theorem dX7_run_12 : decode cX7_run 12 = .ok (.bipush (-3), 2) := by decide +kernel
theorem dX7_run_14 : decode cX7_run 14 = .ok (.ireturn, 1) := by decide +kernel
theorem dX7_run_15 : decode cX7_run 15 = .ok (.aload_n 0, 1) := by decide +kernel
theorem dX7_run_16 : decode cX7_run 16 = .ok (.getfield 37, 3) := by decide +kernel
theorem dX7_run_19 : decode cX7_run 19 = .ok (.invokevirtual 219, 3) := by decide +kernel
theorem dX7_run_22 : decode cX7_run 22 = .ok (.istore_n 1, 1) := by decide +kernel
theorem dX7_run_23 : decode cX7_run 23 = .ok (.aload_n 0, 1) := by decide +kernel
theorem dX7_run_24 : decode cX7_run 24 = .ok (.getfield 10, 3) := by decide +kernel
theorem dX7_run_27 : decode cX7_run 27 = .ok (.getfield 60, 3) := by decide +kernel
theorem dX7_run_30 : decode cX7_run 30 = .ok (.getfield 64, 3) := by decide +kernel
theorem dX7_run_33 : decode cX7_run 33 = .ok (.iload_n 1, 1) := by decide +kernel
theorem dX7_run_34 : decode cX7_run 34 = .ok (.iadd, 1) := by decide +kernel
theorem dX7_run_35 : decode cX7_run 35 = .ok (.sipush 10000, 3) := by decide +kernel
theorem dX7_run_38 : decode cX7_run 38 = .ok (.if_icmp .le 6, 3) := by decide +kernel
theorem dX7_run_41 : decode cX7_run 41 = .ok (.bipush (-4), 2) := by decide +kernel
theorem dX7_run_43 : decode cX7_run 43 = .ok (.ireturn, 1) := by decide +kernel
theorem dX7_run_44 : decode cX7_run 44 = .ok (.aload_n 0, 1) := by decide +kernel
theorem dX7_run_45 : decode cX7_run 45 = .ok (.getfield 16, 3) := by decide +kernel
theorem dX7_run_48 : decode cX7_run 48 = .ok (.aload_n 0, 1) := by decide +kernel
theorem dX7_run_49 : decode cX7_run 49 = .ok (.getfield 10, 3) := by decide +kernel
theorem dX7_run_52 : decode cX7_run 52 = .ok (.invokevirtual 222, 3) := by decide +kernel
theorem dX7_run_55 : decode cX7_run 55 = .ok (.aload_n 0, 1) := by decide +kernel
theorem dX7_run_56 : decode cX7_run 56 = .ok (.invokevirtual 225, 3) := by decide +kernel
theorem dX7_run_59 : decode cX7_run 59 = .ok (.ifCond .ne 17, 3) := by decide +kernel
theorem dX7_run_62 : decode cX7_run 62 = .ok (.aload_n 0, 1) := by decide +kernel
theorem dX7_run_63 : decode cX7_run 63 = .ok (.getfield 10, 3) := by decide +kernel
theorem dX7_run_66 : decode cX7_run 66 = .ok (.aload_n 0, 1) := by decide +kernel
theorem dX7_run_67 : decode cX7_run 67 = .ok (.getfield 16, 3) := by decide +kernel
theorem dX7_run_70 : decode cX7_run 70 = .ok (.invokevirtual 222, 3) := by decide +kernel
theorem dX7_run_73 : decode cX7_run 73 = .ok (.bipush (-5), 2) := by decide +kernel
theorem dX7_run_75 : decode cX7_run 75 = .ok (.ireturn, 1) := by decide +kernel
theorem dX7_run_76 : decode cX7_run 76 = .ok (.aload_n 0, 1) := by decide +kernel
theorem dX7_run_77 : decode cX7_run 77 = .ok (.getfield 37, 3) := by decide +kernel
theorem dX7_run_80 : decode cX7_run 80 = .ok (.iconst 0, 1) := by decide +kernel
theorem dX7_run_81 : decode cX7_run 81 = .ok (.putfield 212, 3) := by decide +kernel
theorem dX7_run_84 : decode cX7_run 84 = .ok (.iload_n 1, 1) := by decide +kernel
theorem dX7_run_85 : decode cX7_run 85 = .ok (.ireturn, 1) := by decide +kernel
theorem dX7_count_0 : decode cX7_count 0 = .ok (.iload_n 1, 1) := by decide +kernel
theorem dX7_count_1 : decode cX7_count 1 = .ok (.tableswitch 132 0 5 #[39, 50, 61, 78, 92, 124], 39) := by decide +kernel
theorem dX7_count_40 : decode cX7_count 40 = .ok (.aload_n 0, 1) := by decide +kernel
theorem dX7_count_41 : decode cX7_count 41 = .ok (.getfield 10, 3) := by decide +kernel
theorem dX7_count_44 : decode cX7_count 44 = .ok (.getfield 47, 3) := by decide +kernel
theorem dX7_count_47 : decode cX7_count 47 = .ok (.getfield 84, 3) := by decide +kernel
theorem dX7_count_50 : decode cX7_count 50 = .ok (.ireturn, 1) := by decide +kernel
theorem dX7_count_51 : decode cX7_count 51 = .ok (.aload_n 0, 1) := by decide +kernel
theorem dX7_count_52 : decode cX7_count 52 = .ok (.getfield 10, 3) := by decide +kernel
theorem dX7_count_55 : decode cX7_count 55 = .ok (.getfield 60, 3) := by decide +kernel
theorem dX7_count_58 : decode cX7_count 58 = .ok (.getfield 64, 3) := by decide +kernel
theorem dX7_count_61 : decode cX7_count 61 = .ok (.ireturn, 1) := by decide +kernel
theorem dX7_count_62 : decode cX7_count 62 = .ok (.aload_n 0, 1) := by decide +kernel
theorem dX7_count_63 : decode cX7_count 63 = .ok (.getfield 10, 3) := by decide +kernel
theorem dX7_count_66 : decode cX7_count 66 = .ok (.getfield 47, 3) := by decide +kernel
theorem dX7_count_69 : decode cX7_count 69 = .ok (.getfield 50, 3) := by decide +kernel
theorem dX7_count_72 : decode cX7_count 72 = .ok (.getfield 54, 3) := by decide +kernel
theorem dX7_count_75 : decode cX7_count 75 = .ok (.ldc 146, 2) := by decide +kernel
theorem dX7_count_77 : decode cX7_count 77 = .ok (.iadd, 1) := by decide +kernel
theorem dX7_count_78 : decode cX7_count 78 = .ok (.ireturn, 1) := by decide +kernel
theorem dX7_count_79 : decode cX7_count 79 = .ok (.aload_n 0, 1) := by decide +kernel
theorem dX7_count_80 : decode cX7_count 80 = .ok (.getfield 10, 3) := by decide +kernel
theorem dX7_count_83 : decode cX7_count 83 = .ok (.getfield 47, 3) := by decide +kernel
theorem dX7_count_86 : decode cX7_count 86 = .ok (.getfield 143, 3) := by decide +kernel
theorem dX7_count_89 : decode cX7_count 89 = .ok (.ldc 146, 2) := by decide +kernel
theorem dX7_count_91 : decode cX7_count 91 = .ok (.iadd, 1) := by decide +kernel
theorem dX7_count_92 : decode cX7_count 92 = .ok (.ireturn, 1) := by decide +kernel
theorem dX7_count_93 : decode cX7_count 93 = .ok (.aload_n 0, 1) := by decide +kernel
theorem dX7_count_94 : decode cX7_count 94 = .ok (.getfield 10, 3) := by decide +kernel
theorem dX7_count_97 : decode cX7_count 97 = .ok (.getfield 47, 3) := by decide +kernel
theorem dX7_count_100 : decode cX7_count 100 = .ok (.getfield 103, 3) := by decide +kernel
theorem dX7_count_103 : decode cX7_count 103 = .ok (.getfield 229, 3) := by decide +kernel
theorem dX7_count_106 : decode cX7_count 106 = .ok (.ifCond .ne 8, 3) := by decide +kernel
theorem dX7_count_109 : decode cX7_count 109 = .ok (.bipush (-6), 2) := by decide +kernel
theorem dX7_count_111 : decode cX7_count 111 = .ok (.goto 13, 3) := by decide +kernel
theorem dX7_count_114 : decode cX7_count 114 = .ok (.aload_n 0, 1) := by decide +kernel
theorem dX7_count_115 : decode cX7_count 115 = .ok (.getfield 10, 3) := by decide +kernel
theorem dX7_count_118 : decode cX7_count 118 = .ok (.getfield 47, 3) := by decide +kernel
theorem dX7_count_121 : decode cX7_count 121 = .ok (.getfield 116, 3) := by decide +kernel
theorem dX7_count_124 : decode cX7_count 124 = .ok (.ireturn, 1) := by decide +kernel
theorem dX7_count_125 : decode cX7_count 125 = .ok (.aload_n 0, 1) := by decide +kernel
theorem dX7_count_126 : decode cX7_count 126 = .ok (.getfield 37, 3) := by decide +kernel
theorem dX7_count_129 : decode cX7_count 129 = .ok (.getfield 212, 3) := by decide +kernel
theorem dX7_count_132 : decode cX7_count 132 = .ok (.ireturn, 1) := by decide +kernel
theorem dX7_count_133 : decode cX7_count 133 = .ok (.bipush (-2), 2) := by decide +kernel
theorem dX7_count_135 : decode cX7_count 135 = .ok (.ireturn, 1) := by decide +kernel
abbrev csX7_save : List (List Cond) := [[.code yX7_save cX7_save 2 (some .int)], wsX7_save_r1, wsX7_save_r2, wsX7_save_r3, wsX7_save_r4, wsX70, wsX60, wsX10, wsX20, wsX50, wsX40, wsX00]
set_option maxRecDepth 20000 in
theorem hbX7_save : wsX7_save = csX7_save.flatten := rfl
set_option maxRecDepth 20000 in
theorem ggX7_save_X7_isNoSlot : GoodIn wsX7_save wsX7_isNoSlot := goodIn_c csX7_save hbX7_save _ [(1, 9), (1, 0), (1, 2), (5, 0), (5, 1), (5, 2), (5, 3), (5, 4), (5, 5)] rfl (by decide +kernel)
set_option maxRecDepth 20000 in
theorem gX7_save_X7_isNoSlot : GoodIn wsX7_save (wsV RX7 232 RX7 yX7_isNoSlot wsX7_isNoSlot) := goodIn_app (goodIn_c csX7_save hbX7_save [.methodLink RX7 232 yX7_isNoSlot, .instanceMethod yX7_isNoSlot, .selects RX7 yX7_isNoSlot yX7_isNoSlot, .initialized RX7] [(1, 5), (1, 6), (1, 7), (1, 8)] rfl (by decide +kernel)) ggX7_save_X7_isNoSlot
set_option maxRecDepth 20000 in
theorem ggX7_save_X6_copyFrom : GoodIn wsX7_save wsX6_copyFrom := goodIn_c csX7_save hbX7_save _ [(1, 14), (1, 15), (1, 16), (1, 17), (1, 18), (1, 19), (1, 20), (1, 21), (1, 22), (1, 23), (2, 0), (2, 1), (2, 2), (2, 3), (2, 4), (2, 5), (2, 6), (2, 7), (2, 8), (2, 9), (2, 10), (2, 11), (2, 12), (2, 13), (2, 14), (2, 15), (2, 16), (2, 17), (2, 18), (2, 19), (2, 20), (2, 21), (2, 22), (2, 23), (3, 0), (3, 1), (3, 2), (3, 3), (3, 4), (3, 5), (3, 6), (3, 7), (3, 8), (3, 9), (3, 10), (3, 11), (3, 12), (3, 13), (3, 14), (3, 15), (3, 16), (3, 17), (3, 18), (3, 19), (3, 20), (3, 21), (3, 22), (3, 23), (4, 0), (4, 1), (4, 2), (4, 3), (4, 4), (4, 5), (4, 6), (4, 7), (4, 8), (6, 0), (6, 1), (8, 0), (8, 1), (8, 2), (8, 3), (8, 4), (8, 5), (8, 6), (8, 7), (8, 8), (9, 0), (9, 1), (9, 2), (9, 3), (9, 4), (10, 0), (10, 1), (10, 2), (10, 3), (10, 4), (10, 5), (11, 0), (11, 1), (11, 2), (11, 3), (11, 4), (11, 5), (11, 6), (11, 7), (11, 8), (7, 0), (7, 1)] rfl (by decide +kernel)
set_option maxRecDepth 20000 in
theorem gX7_save_X6_copyFrom : GoodIn wsX7_save (wsV RX7 222 RX6 yX6_copyFrom wsX6_copyFrom) := goodIn_app (goodIn_c csX7_save hbX7_save [.methodLink RX7 222 yX6_copyFrom, .instanceMethod yX6_copyFrom, .selects RX6 yX6_copyFrom yX6_copyFrom, .initialized RX6] [(1, 10), (1, 11), (1, 12), (1, 13)] rfl (by decide +kernel)) ggX7_save_X6_copyFrom
theorem dX7_save_0 : decode cX7_save 0 = .ok (.aload_n 0, 1) := by decide +kernel
theorem dX7_save_1 : decode cX7_save 1 = .ok (.iload_n 1, 1) := by decide +kernel
theorem dX7_save_2 : decode cX7_save 2 = .ok (.invokevirtual 232, 3) := by decide +kernel
theorem dX7_save_5 : decode cX7_save 5 = .ok (.ifCond .eq 6, 3) := by decide +kernel
theorem dX7_save_8 : decode cX7_save 8 = .ok (.bipush (-2), 2) := by decide +kernel
theorem dX7_save_10 : decode cX7_save 10 = .ok (.ireturn, 1) := by decide +kernel
theorem dX7_save_11 : decode cX7_save 11 = .ok (.aload_n 0, 1) := by decide +kernel
theorem dX7_save_12 : decode cX7_save 12 = .ok (.getfield 19, 3) := by decide +kernel
theorem dX7_save_15 : decode cX7_save 15 = .ok (.iload_n 1, 1) := by decide +kernel
theorem dX7_save_16 : decode cX7_save 16 = .ok (.aaload, 1) := by decide +kernel
theorem dX7_save_17 : decode cX7_save 17 = .ok (.aload_n 0, 1) := by decide +kernel
theorem dX7_save_18 : decode cX7_save 18 = .ok (.getfield 10, 3) := by decide +kernel
theorem dX7_save_21 : decode cX7_save 21 = .ok (.invokevirtual 222, 3) := by decide +kernel
theorem dX7_save_24 : decode cX7_save 24 = .ok (.aload_n 0, 1) := by decide +kernel
theorem dX7_save_25 : decode cX7_save 25 = .ok (.getfield 23, 3) := by decide +kernel
theorem dX7_save_28 : decode cX7_save 28 = .ok (.iload_n 1, 1) := by decide +kernel
theorem dX7_save_29 : decode cX7_save 29 = .ok (.iconst 1, 1) := by decide +kernel
theorem dX7_save_30 : decode cX7_save 30 = .ok (.bastore, 1) := by decide +kernel
theorem dX7_save_31 : decode cX7_save 31 = .ok (.aload_n 0, 1) := by decide +kernel
theorem dX7_save_32 : decode cX7_save 32 = .ok (.getfield 10, 3) := by decide +kernel
theorem dX7_save_35 : decode cX7_save 35 = .ok (.getfield 60, 3) := by decide +kernel
theorem dX7_save_38 : decode cX7_save 38 = .ok (.getfield 64, 3) := by decide +kernel
theorem dX7_save_41 : decode cX7_save 41 = .ok (.ireturn, 1) := by decide +kernel
abbrev csX7_restore : List (List Cond) := [[.code yX7_restore cX7_restore 2 (some .int)], wsX7_restore_r1, wsX7_restore_r2, wsX7_restore_r3, wsX7_restore_r4, wsX70, wsX60, wsX10, wsX20, wsX50, wsX40, wsX00]
set_option maxRecDepth 20000 in
theorem hbX7_restore : wsX7_restore = csX7_restore.flatten := rfl
set_option maxRecDepth 20000 in
theorem ggX7_restore_X7_isNoSlot : GoodIn wsX7_restore wsX7_isNoSlot := goodIn_c csX7_restore hbX7_restore _ [(1, 9), (1, 2), (1, 0), (5, 0), (5, 1), (5, 2), (5, 3), (5, 4), (5, 5)] rfl (by decide +kernel)
set_option maxRecDepth 20000 in
theorem gX7_restore_X7_isNoSlot : GoodIn wsX7_restore (wsV RX7 232 RX7 yX7_isNoSlot wsX7_isNoSlot) := goodIn_app (goodIn_c csX7_restore hbX7_restore [.methodLink RX7 232 yX7_isNoSlot, .instanceMethod yX7_isNoSlot, .selects RX7 yX7_isNoSlot yX7_isNoSlot, .initialized RX7] [(1, 5), (1, 6), (1, 7), (1, 8)] rfl (by decide +kernel)) ggX7_restore_X7_isNoSlot
set_option maxRecDepth 20000 in
theorem ggX7_restore_X6_copyFrom : GoodIn wsX7_restore wsX6_copyFrom := goodIn_c csX7_restore hbX7_restore _ [(1, 14), (1, 15), (1, 16), (1, 17), (1, 18), (1, 19), (1, 20), (1, 21), (1, 22), (1, 23), (2, 0), (2, 1), (2, 2), (2, 3), (2, 4), (2, 5), (2, 6), (2, 7), (2, 8), (2, 9), (2, 10), (2, 11), (2, 12), (2, 13), (2, 14), (2, 15), (2, 16), (2, 17), (2, 18), (2, 19), (2, 20), (2, 21), (2, 22), (2, 23), (3, 0), (3, 1), (3, 2), (3, 3), (3, 4), (3, 5), (3, 6), (3, 7), (3, 8), (3, 9), (3, 10), (3, 11), (3, 12), (3, 13), (3, 14), (3, 15), (3, 16), (3, 17), (3, 18), (3, 19), (3, 20), (3, 21), (3, 22), (3, 23), (4, 0), (4, 1), (4, 2), (4, 3), (4, 4), (4, 5), (4, 6), (4, 7), (4, 8), (6, 0), (6, 1), (8, 0), (8, 1), (8, 2), (8, 3), (8, 4), (8, 5), (8, 6), (8, 7), (8, 8), (9, 0), (9, 1), (9, 2), (9, 3), (9, 4), (10, 0), (10, 1), (10, 2), (10, 3), (10, 4), (10, 5), (11, 0), (11, 1), (11, 2), (11, 3), (11, 4), (11, 5), (11, 6), (11, 7), (11, 8), (7, 0), (7, 1)] rfl (by decide +kernel)
set_option maxRecDepth 20000 in
theorem gX7_restore_X6_copyFrom : GoodIn wsX7_restore (wsV RX7 222 RX6 yX6_copyFrom wsX6_copyFrom) := goodIn_app (goodIn_c csX7_restore hbX7_restore [.methodLink RX7 222 yX6_copyFrom, .instanceMethod yX6_copyFrom, .selects RX6 yX6_copyFrom yX6_copyFrom, .initialized RX6] [(1, 10), (1, 11), (1, 12), (1, 13)] rfl (by decide +kernel)) ggX7_restore_X6_copyFrom
theorem dX7_restore_0 : decode cX7_restore 0 = .ok (.aload_n 0, 1) := by decide +kernel
theorem dX7_restore_1 : decode cX7_restore 1 = .ok (.iload_n 1, 1) := by decide +kernel
theorem dX7_restore_2 : decode cX7_restore 2 = .ok (.invokevirtual 232, 3) := by decide +kernel
theorem dX7_restore_5 : decode cX7_restore 5 = .ok (.ifCond .eq 6, 3) := by decide +kernel
theorem dX7_restore_8 : decode cX7_restore 8 = .ok (.bipush (-2), 2) := by decide +kernel
theorem dX7_restore_10 : decode cX7_restore 10 = .ok (.ireturn, 1) := by decide +kernel
theorem dX7_restore_11 : decode cX7_restore 11 = .ok (.aload_n 0, 1) := by decide +kernel
theorem dX7_restore_12 : decode cX7_restore 12 = .ok (.getfield 23, 3) := by decide +kernel
theorem dX7_restore_15 : decode cX7_restore 15 = .ok (.iload_n 1, 1) := by decide +kernel
theorem dX7_restore_16 : decode cX7_restore 16 = .ok (.baload, 1) := by decide +kernel
theorem dX7_restore_17 : decode cX7_restore 17 = .ok (.ifCond .ne 6, 3) := by decide +kernel
theorem dX7_restore_20 : decode cX7_restore 20 = .ok (.bipush (-5), 2) := by decide +kernel
theorem dX7_restore_22 : decode cX7_restore 22 = .ok (.ireturn, 1) := by decide +kernel
theorem dX7_restore_23 : decode cX7_restore 23 = .ok (.aload_n 0, 1) := by decide +kernel
theorem dX7_restore_24 : decode cX7_restore 24 = .ok (.getfield 10, 3) := by decide +kernel
theorem dX7_restore_27 : decode cX7_restore 27 = .ok (.aload_n 0, 1) := by decide +kernel
theorem dX7_restore_28 : decode cX7_restore 28 = .ok (.getfield 19, 3) := by decide +kernel
theorem dX7_restore_31 : decode cX7_restore 31 = .ok (.iload_n 1, 1) := by decide +kernel
theorem dX7_restore_32 : decode cX7_restore 32 = .ok (.aaload, 1) := by decide +kernel
theorem dX7_restore_33 : decode cX7_restore 33 = .ok (.invokevirtual 222, 3) := by decide +kernel
theorem dX7_restore_36 : decode cX7_restore 36 = .ok (.aload_n 0, 1) := by decide +kernel
theorem dX7_restore_37 : decode cX7_restore 37 = .ok (.getfield 10, 3) := by decide +kernel
theorem dX7_restore_40 : decode cX7_restore 40 = .ok (.getfield 60, 3) := by decide +kernel
theorem dX7_restore_43 : decode cX7_restore 43 = .ok (.getfield 64, 3) := by decide +kernel
theorem dX7_restore_46 : decode cX7_restore 46 = .ok (.ireturn, 1) := by decide +kernel
theorem dX7_isOutside_0 : decode cX7_isOutside 0 = .ok (.iload_n 0, 1) := by decide +kernel
theorem dX7_isOutside_1 : decode cX7_isOutside 1 = .ok (.iload_n 1, 1) := by decide +kernel
theorem dX7_isOutside_2 : decode cX7_isOutside 2 = .ok (.if_icmp .lt 8, 3) := by decide +kernel
theorem dX7_isOutside_5 : decode cX7_isOutside 5 = .ok (.iload_n 0, 1) := by decide +kernel
theorem dX7_isOutside_6 : decode cX7_isOutside 6 = .ok (.iload_n 2, 1) := by decide +kernel
theorem dX7_isOutside_7 : decode cX7_isOutside 7 = .ok (.if_icmp .le 7, 3) := by decide +kernel
theorem dX7_isOutside_10 : decode cX7_isOutside 10 = .ok (.iconst 1, 1) := by decide +kernel
theorem dX7_isOutside_11 : decode cX7_isOutside 11 = .ok (.goto 4, 3) := by decide +kernel
theorem dX7_isOutside_14 : decode cX7_isOutside 14 = .ok (.iconst 0, 1) := by decide +kernel
theorem dX7_isOutside_15 : decode cX7_isOutside 15 = .ok (.ireturn, 1) := by decide +kernel
theorem dX7_isNoSetting_0 : decode cX7_isNoSetting 0 = .ok (.iload_n 0, 1) := by decide +kernel
theorem dX7_isNoSetting_1 : decode cX7_isNoSetting 1 = .ok (.ifCond .lt 19, 3) := by decide +kernel
theorem dX7_isNoSetting_4 : decode cX7_isNoSetting 4 = .ok (.iload_n 0, 1) := by decide +kernel
theorem dX7_isNoSetting_5 : decode cX7_isNoSetting 5 = .ok (.getstatic 235, 3) := by decide +kernel
theorem dX7_isNoSetting_8 : decode cX7_isNoSetting 8 = .ok (.arraylength, 1) := by decide +kernel
theorem dX7_isNoSetting_9 : decode cX7_isNoSetting 9 = .ok (.if_icmp .ge 11, 3) := by decide +kernel
theorem dX7_isNoSetting_12 : decode cX7_isNoSetting 12 = .ok (.iload_n 0, 1) := by decide +kernel
theorem dX7_isNoSetting_13 : decode cX7_isNoSetting 13 = .ok (.getstatic 239, 3) := by decide +kernel
theorem dX7_isNoSetting_16 : decode cX7_isNoSetting 16 = .ok (.arraylength, 1) := by decide +kernel
theorem dX7_isNoSetting_17 : decode cX7_isNoSetting 17 = .ok (.if_icmp .lt 7, 3) := by decide +kernel
theorem dX7_isNoSetting_20 : decode cX7_isNoSetting 20 = .ok (.iconst 1, 1) := by decide +kernel
theorem dX7_isNoSetting_21 : decode cX7_isNoSetting 21 = .ok (.goto 4, 3) := by decide +kernel
theorem dX7_isNoSetting_24 : decode cX7_isNoSetting 24 = .ok (.iconst 0, 1) := by decide +kernel
theorem dX7_isNoSetting_25 : decode cX7_isNoSetting 25 = .ok (.ireturn, 1) := by decide +kernel
abbrev csX7_leastOf : List (List Cond) := [[.code yX7_leastOf cX7_leastOf 1 (some .int)], [.fieldLink RX7 235 "SlopeMeter" "LEAST_SETTINGS" "[I", .methodLink RX7 92 yX7_isNoSetting, .static yX7_isNoSetting, .initialized RX7, .code yX7_isNoSetting cX7_isNoSetting 1 (some .boolean), .fieldLink RX7 239 "SlopeMeter" "MOST_SETTINGS" "[I"]]
set_option maxRecDepth 20000 in
theorem hbX7_leastOf : wsX7_leastOf = csX7_leastOf.flatten := rfl
set_option maxRecDepth 20000 in
theorem ggX7_leastOf_X7_isNoSetting : GoodIn wsX7_leastOf wsX7_isNoSetting := goodIn_c csX7_leastOf hbX7_leastOf _ [(1, 4), (1, 0), (1, 5)] rfl (by decide +kernel)
set_option maxRecDepth 20000 in
theorem gX7_leastOf_X7_isNoSetting : GoodIn wsX7_leastOf (va_wsS RX7 92 yX7_isNoSetting wsX7_isNoSetting) := goodIn_app (goodIn_c csX7_leastOf hbX7_leastOf [.methodLink RX7 92 yX7_isNoSetting, .static yX7_isNoSetting, .initialized yX7_isNoSetting.cls] [(1, 1), (1, 2), (1, 3)] rfl (by decide +kernel)) ggX7_leastOf_X7_isNoSetting
theorem dX7_leastOf_0 : decode cX7_leastOf 0 = .ok (.iload_n 0, 1) := by decide +kernel
theorem dX7_leastOf_1 : decode cX7_leastOf 1 = .ok (.invokestatic 92, 3) := by decide +kernel
theorem dX7_leastOf_4 : decode cX7_leastOf 4 = .ok (.ifCond .eq 7, 3) := by decide +kernel
theorem dX7_leastOf_7 : decode cX7_leastOf 7 = .ok (.iconst 0, 1) := by decide +kernel
theorem dX7_leastOf_8 : decode cX7_leastOf 8 = .ok (.goto 8, 3) := by decide +kernel
theorem dX7_leastOf_11 : decode cX7_leastOf 11 = .ok (.getstatic 235, 3) := by decide +kernel
theorem dX7_leastOf_14 : decode cX7_leastOf 14 = .ok (.iload_n 0, 1) := by decide +kernel
theorem dX7_leastOf_15 : decode cX7_leastOf 15 = .ok (.iaload, 1) := by decide +kernel
theorem dX7_leastOf_16 : decode cX7_leastOf 16 = .ok (.ireturn, 1) := by decide +kernel
abbrev csX7_mostOf : List (List Cond) := [[.code yX7_mostOf cX7_mostOf 1 (some .int)], [.fieldLink RX7 239 "SlopeMeter" "MOST_SETTINGS" "[I", .methodLink RX7 92 yX7_isNoSetting, .static yX7_isNoSetting, .initialized RX7, .code yX7_isNoSetting cX7_isNoSetting 1 (some .boolean), .fieldLink RX7 235 "SlopeMeter" "LEAST_SETTINGS" "[I"]]
set_option maxRecDepth 20000 in
theorem hbX7_mostOf : wsX7_mostOf = csX7_mostOf.flatten := rfl
set_option maxRecDepth 20000 in
theorem ggX7_mostOf_X7_isNoSetting : GoodIn wsX7_mostOf wsX7_isNoSetting := goodIn_c csX7_mostOf hbX7_mostOf _ [(1, 4), (1, 5), (1, 0)] rfl (by decide +kernel)
set_option maxRecDepth 20000 in
theorem gX7_mostOf_X7_isNoSetting : GoodIn wsX7_mostOf (va_wsS RX7 92 yX7_isNoSetting wsX7_isNoSetting) := goodIn_app (goodIn_c csX7_mostOf hbX7_mostOf [.methodLink RX7 92 yX7_isNoSetting, .static yX7_isNoSetting, .initialized yX7_isNoSetting.cls] [(1, 1), (1, 2), (1, 3)] rfl (by decide +kernel)) ggX7_mostOf_X7_isNoSetting
theorem dX7_mostOf_0 : decode cX7_mostOf 0 = .ok (.iload_n 0, 1) := by decide +kernel
theorem dX7_mostOf_1 : decode cX7_mostOf 1 = .ok (.invokestatic 92, 3) := by decide +kernel
theorem dX7_mostOf_4 : decode cX7_mostOf 4 = .ok (.ifCond .eq 7, 3) := by decide +kernel
theorem dX7_mostOf_7 : decode cX7_mostOf 7 = .ok (.iconst 0, 1) := by decide +kernel
theorem dX7_mostOf_8 : decode cX7_mostOf 8 = .ok (.goto 8, 3) := by decide +kernel
theorem dX7_mostOf_11 : decode cX7_mostOf 11 = .ok (.getstatic 239, 3) := by decide +kernel
theorem dX7_mostOf_14 : decode cX7_mostOf 14 = .ok (.iload_n 0, 1) := by decide +kernel
theorem dX7_mostOf_15 : decode cX7_mostOf 15 = .ok (.iaload, 1) := by decide +kernel
theorem dX7_mostOf_16 : decode cX7_mostOf 16 = .ok (.ireturn, 1) := by decide +kernel
theorem dX7_isNoSlot_0 : decode cX7_isNoSlot 0 = .ok (.iload_n 1, 1) := by decide +kernel
theorem dX7_isNoSlot_1 : decode cX7_isNoSlot 1 = .ok (.ifCond .lt 30, 3) := by decide +kernel
theorem dX7_isNoSlot_4 : decode cX7_isNoSlot 4 = .ok (.iload_n 1, 1) := by decide +kernel
theorem dX7_isNoSlot_5 : decode cX7_isNoSlot 5 = .ok (.aload_n 0, 1) := by decide +kernel
theorem dX7_isNoSlot_6 : decode cX7_isNoSlot 6 = .ok (.getfield 19, 3) := by decide +kernel
theorem dX7_isNoSlot_9 : decode cX7_isNoSlot 9 = .ok (.arraylength, 1) := by decide +kernel
theorem dX7_isNoSlot_10 : decode cX7_isNoSlot 10 = .ok (.if_icmp .ge 21, 3) := by decide +kernel
theorem dX7_isNoSlot_13 : decode cX7_isNoSlot 13 = .ok (.iload_n 1, 1) := by decide +kernel
theorem dX7_isNoSlot_14 : decode cX7_isNoSlot 14 = .ok (.aload_n 0, 1) := by decide +kernel
theorem dX7_isNoSlot_15 : decode cX7_isNoSlot 15 = .ok (.getfield 23, 3) := by decide +kernel
theorem dX7_isNoSlot_18 : decode cX7_isNoSlot 18 = .ok (.arraylength, 1) := by decide +kernel
theorem dX7_isNoSlot_19 : decode cX7_isNoSlot 19 = .ok (.if_icmp .ge 12, 3) := by decide +kernel
theorem dX7_isNoSlot_22 : decode cX7_isNoSlot 22 = .ok (.aload_n 0, 1) := by decide +kernel
theorem dX7_isNoSlot_23 : decode cX7_isNoSlot 23 = .ok (.getfield 19, 3) := by decide +kernel
theorem dX7_isNoSlot_26 : decode cX7_isNoSlot 26 = .ok (.iload_n 1, 1) := by decide +kernel
theorem dX7_isNoSlot_27 : decode cX7_isNoSlot 27 = .ok (.aaload, 1) := by decide +kernel
theorem dX7_isNoSlot_28 : decode cX7_isNoSlot 28 = .ok (.ifnonnull 7, 3) := by decide +kernel
theorem dX7_isNoSlot_31 : decode cX7_isNoSlot 31 = .ok (.iconst 1, 1) := by decide +kernel
theorem dX7_isNoSlot_32 : decode cX7_isNoSlot 32 = .ok (.goto 4, 3) := by decide +kernel
theorem dX7_isNoSlot_35 : decode cX7_isNoSlot 35 = .ok (.iconst 0, 1) := by decide +kernel
theorem dX7_isNoSlot_36 : decode cX7_isNoSlot 36 = .ok (.ireturn, 1) := by decide +kernel
theorem dX7_gainOf_0 : decode cX7_gainOf 0 = .ok (.iload_n 0, 1) := by decide +kernel
theorem dX7_gainOf_1 : decode cX7_gainOf 1 = .ok (.ifCond .lt 11, 3) := by decide +kernel
theorem dX7_gainOf_4 : decode cX7_gainOf 4 = .ok (.iload_n 0, 1) := by decide +kernel
theorem dX7_gainOf_5 : decode cX7_gainOf 5 = .ok (.getstatic 242, 3) := by decide +kernel
theorem dX7_gainOf_8 : decode cX7_gainOf 8 = .ok (.arraylength, 1) := by decide +kernel
theorem dX7_gainOf_9 : decode cX7_gainOf 9 = .ok (.if_icmp .lt 7, 3) := by decide +kernel
theorem dX7_gainOf_12 : decode cX7_gainOf 12 = .ok (.iconst 1, 1) := by decide +kernel
theorem dX7_gainOf_13 : decode cX7_gainOf 13 = .ok (.goto 8, 3) := by decide +kernel
theorem dX7_gainOf_16 : decode cX7_gainOf 16 = .ok (.getstatic 242, 3) := by decide +kernel
theorem dX7_gainOf_19 : decode cX7_gainOf 19 = .ok (.iload_n 0, 1) := by decide +kernel
theorem dX7_gainOf_20 : decode cX7_gainOf 20 = .ok (.iaload, 1) := by decide +kernel
theorem dX7_gainOf_21 : decode cX7_gainOf 21 = .ok (.ireturn, 1) := by decide +kernel
theorem dX7_limited_0 : decode cX7_limited 0 = .ok (.lload_n 0, 1) := by decide +kernel
theorem dX7_limited_1 : decode cX7_limited 1 = .ok (.lload_n 2, 1) := by decide +kernel
theorem dX7_limited_2 : decode cX7_limited 2 = .ok (.lcmp, 1) := by decide +kernel
theorem dX7_limited_3 : decode cX7_limited 3 = .ok (.ifCond .le 5, 3) := by decide +kernel
theorem dX7_limited_6 : decode cX7_limited 6 = .ok (.lload_n 2, 1) := by decide +kernel
theorem dX7_limited_7 : decode cX7_limited 7 = .ok (.lreturn, 1) := by decide +kernel
theorem dX7_limited_8 : decode cX7_limited 8 = .ok (.lload_n 0, 1) := by decide +kernel
theorem dX7_limited_9 : decode cX7_limited 9 = .ok (.lload_n 2, 1) := by decide +kernel
theorem dX7_limited_10 : decode cX7_limited 10 = .ok (.lneg, 1) := by decide +kernel
theorem dX7_limited_11 : decode cX7_limited 11 = .ok (.lcmp, 1) := by decide +kernel
theorem dX7_limited_12 : decode cX7_limited 12 = .ok (.ifCond .ge 8, 3) := by decide +kernel
theorem dX7_limited_15 : decode cX7_limited 15 = .ok (.lload_n 2, 1) := by decide +kernel
theorem dX7_limited_16 : decode cX7_limited 16 = .ok (.lneg, 1) := by decide +kernel
theorem dX7_limited_17 : decode cX7_limited 17 = .ok (.goto 4, 3) := by decide +kernel
theorem dX7_limited_20 : decode cX7_limited 20 = .ok (.lload_n 0, 1) := by decide +kernel
theorem dX7_limited_21 : decode cX7_limited 21 = .ok (.lreturn, 1) := by decide +kernel
abbrev csX7_valueWithLevel : List (List Cond) := [[.code yX7_valueWithLevel cX7_valueWithLevel 2 (some .long)], wsX7_valueWithLevel_r1, wsX7_valueWithLevel_r2, wsX7_valueWithLevel_r3, wsX7_valueWithLevel_r4, wsX7_valueWithLevel_r5, wsX7_valueWithLevel_r6, wsX70, wsX60, wsX20, wsX50, wsX40, wsX00]
set_option maxRecDepth 20000 in
theorem hbX7_valueWithLevel : wsX7_valueWithLevel = csX7_valueWithLevel.flatten := rfl
set_option maxRecDepth 20000 in
theorem ggX7_valueWithLevel_X2_copyFrom : GoodIn wsX7_valueWithLevel wsX2_copyFrom := goodIn_c csX7_valueWithLevel hbX7_valueWithLevel _ [(1, 9), (1, 10), (1, 11), (1, 12), (1, 13), (1, 14), (1, 15), (1, 16), (1, 17), (1, 18), (1, 19), (1, 20), (1, 21), (1, 22), (1, 23), (2, 0), (2, 1), (2, 2), (2, 3), (2, 4), (2, 5), (2, 6), (2, 7), (2, 8), (2, 9), (2, 10), (2, 11), (2, 12), (2, 13), (2, 14), (2, 15), (2, 16), (2, 17), (2, 18), (2, 19), (2, 20), (2, 21), (2, 22), (2, 23), (3, 0), (3, 1), (3, 2), (3, 3), (3, 4), (3, 5), (9, 0), (9, 1), (9, 2), (9, 3), (9, 4), (9, 5), (9, 6), (9, 7), (9, 8), (10, 0), (10, 1), (10, 2), (10, 3), (10, 4), (11, 0), (11, 1), (11, 2), (11, 3), (11, 4), (11, 5), (12, 0), (12, 1), (12, 2), (12, 3), (12, 4), (12, 5), (12, 6), (12, 7), (12, 8)] rfl (by decide +kernel)
set_option maxRecDepth 20000 in
theorem gX7_valueWithLevel_X2_copyFrom : GoodIn wsX7_valueWithLevel (wsV RX7 203 RX2 yX2_copyFrom wsX2_copyFrom) := goodIn_app (goodIn_c csX7_valueWithLevel hbX7_valueWithLevel [.methodLink RX7 203 yX2_copyFrom, .instanceMethod yX2_copyFrom, .selects RX2 yX2_copyFrom yX2_copyFrom, .initialized RX2] [(1, 5), (1, 6), (1, 7), (1, 8)] rfl (by decide +kernel)) ggX7_valueWithLevel_X2_copyFrom
set_option maxRecDepth 20000 in
theorem ggX7_valueWithLevel_X2_makeReading : GoodIn wsX7_valueWithLevel wsX2_makeReading := goodIn_c csX7_valueWithLevel hbX7_valueWithLevel _ [(3, 9), (1, 11), (3, 10), (1, 15), (3, 11), (1, 16), (1, 13), (1, 17), (1, 12), (3, 12), (1, 14), (1, 18), (3, 13), (3, 14), (3, 15), (3, 16), (3, 17), (3, 18), (1, 8), (3, 19), (3, 20), (3, 21), (3, 22), (3, 23), (1, 10), (4, 0), (4, 1), (4, 2), (4, 3), (4, 4), (2, 19), (4, 5), (2, 21), (3, 0), (3, 1), (3, 2), (3, 3), (3, 4), (3, 5), (4, 6), (4, 7), (4, 8), (2, 8), (4, 9), (2, 12), (2, 11), (4, 10), (4, 11), (4, 12), (4, 13), (4, 14), (4, 15), (4, 16), (1, 22), (4, 17), (2, 0), (4, 18), (4, 19), (4, 20), (4, 21), (4, 22), (2, 2), (2, 1), (4, 23), (5, 0), (5, 1), (5, 2), (5, 3), (5, 4), (5, 5), (2, 3), (2, 4), (5, 6), (5, 7), (5, 8), (5, 9), (5, 10), (5, 11), (5, 12), (5, 13), (5, 14), (5, 15), (5, 16), (5, 17), (5, 18), (5, 19), (5, 20), (2, 22), (5, 21), (2, 23), (5, 22), (5, 23), (6, 0), (6, 1), (6, 2), (6, 3), (6, 4), (6, 5), (6, 6), (6, 7), (6, 8), (6, 9), (6, 10), (6, 11), (6, 12), (6, 13), (6, 14), (6, 15), (6, 16), (9, 0), (9, 1), (9, 2), (9, 3), (9, 4), (9, 5), (9, 6), (9, 7), (9, 8), (11, 0), (11, 1), (11, 2), (11, 3), (11, 4), (11, 5), (12, 0), (12, 1), (12, 2), (12, 3), (12, 4), (12, 5), (12, 6), (12, 7), (12, 8), (10, 0), (10, 1), (10, 2), (10, 3), (10, 4)] rfl (by decide +kernel)
set_option maxRecDepth 20000 in
theorem gX7_valueWithLevel_X2_makeReading : GoodIn wsX7_valueWithLevel (wsV RX7 207 RX2 yX2_makeReading wsX2_makeReading) := goodIn_app (goodIn_c csX7_valueWithLevel hbX7_valueWithLevel [.methodLink RX7 207 yX2_makeReading, .instanceMethod yX2_makeReading, .selects RX2 yX2_makeReading yX2_makeReading, .initialized RX2] [(3, 6), (3, 7), (3, 8), (1, 8)] rfl (by decide +kernel)) ggX7_valueWithLevel_X2_makeReading
theorem dX7_valueWithLevel_0 : decode cX7_valueWithLevel 0 = .ok (.aload_n 0, 1) := by decide +kernel
theorem dX7_valueWithLevel_1 : decode cX7_valueWithLevel 1 = .ok (.getfield 30, 3) := by decide +kernel
theorem dX7_valueWithLevel_4 : decode cX7_valueWithLevel 4 = .ok (.aload_n 0, 1) := by decide +kernel
theorem dX7_valueWithLevel_5 : decode cX7_valueWithLevel 5 = .ok (.getfield 10, 3) := by decide +kernel
theorem dX7_valueWithLevel_8 : decode cX7_valueWithLevel 8 = .ok (.getfield 47, 3) := by decide +kernel
theorem dX7_valueWithLevel_11 : decode cX7_valueWithLevel 11 = .ok (.invokevirtual 203, 3) := by decide +kernel
theorem dX7_valueWithLevel_14 : decode cX7_valueWithLevel 14 = .ok (.aload_n 0, 1) := by decide +kernel
theorem dX7_valueWithLevel_15 : decode cX7_valueWithLevel 15 = .ok (.getfield 30, 3) := by decide +kernel
theorem dX7_valueWithLevel_18 : decode cX7_valueWithLevel 18 = .ok (.getfield 50, 3) := by decide +kernel
theorem dX7_valueWithLevel_21 : decode cX7_valueWithLevel 21 = .ok (.iload_n 1, 1) := by decide +kernel
theorem dX7_valueWithLevel_22 : decode cX7_valueWithLevel 22 = .ok (.putfield 54, 3) := by decide +kernel
theorem dX7_valueWithLevel_25 : decode cX7_valueWithLevel 25 = .ok (.aload_n 0, 1) := by decide +kernel
theorem dX7_valueWithLevel_26 : decode cX7_valueWithLevel 26 = .ok (.getfield 30, 3) := by decide +kernel
theorem dX7_valueWithLevel_29 : decode cX7_valueWithLevel 29 = .ok (.invokevirtual 207, 3) := by decide +kernel
theorem dX7_valueWithLevel_32 : decode cX7_valueWithLevel 32 = .ok (.lreturn, 1) := by decide +kernel
abbrev csX7_rippleWith : List (List Cond) := [[.code yX7_rippleWith cX7_rippleWith 10 (some .long)], wsX7_rippleWith_r1, wsX7_rippleWith_r2, wsX7_rippleWith_r3, wsX7_rippleWith_r4, wsX7_rippleWith_r5, wsX7_rippleWith_r6, wsX7_rippleWith_r7, wsX70, wsX60, wsX20, wsX40, wsX50, wsX00]
set_option maxRecDepth 20000 in
theorem hbX7_rippleWith : wsX7_rippleWith = csX7_rippleWith.flatten := rfl
set_option maxRecDepth 20000 in
theorem ggX7_rippleWith_X2_copyFrom : GoodIn wsX7_rippleWith wsX2_copyFrom := goodIn_c csX7_rippleWith hbX7_rippleWith _ [(1, 19), (1, 20), (1, 21), (1, 22), (1, 23), (2, 0), (2, 1), (2, 2), (2, 3), (2, 4), (2, 5), (2, 6), (2, 7), (2, 8), (2, 9), (2, 10), (2, 11), (2, 12), (2, 13), (2, 14), (2, 15), (2, 16), (2, 17), (2, 18), (2, 19), (2, 20), (2, 21), (2, 22), (2, 23), (3, 0), (3, 1), (3, 2), (3, 3), (3, 4), (3, 5), (3, 6), (3, 7), (3, 8), (3, 9), (3, 10), (3, 11), (3, 12), (3, 13), (3, 14), (3, 15), (10, 0), (10, 1), (10, 2), (10, 3), (10, 4), (10, 5), (10, 6), (10, 7), (10, 8), (12, 0), (12, 1), (12, 2), (12, 3), (12, 4), (11, 0), (11, 1), (11, 2), (11, 3), (11, 4), (11, 5), (13, 0), (13, 1), (13, 2), (13, 3), (13, 4), (13, 5), (13, 6), (13, 7), (13, 8)] rfl (by decide +kernel)
set_option maxRecDepth 20000 in
theorem gX7_rippleWith_X2_copyFrom : GoodIn wsX7_rippleWith (wsV RX7 203 RX2 yX2_copyFrom wsX2_copyFrom) := goodIn_app (goodIn_c csX7_rippleWith hbX7_rippleWith [.methodLink RX7 203 yX2_copyFrom, .instanceMethod yX2_copyFrom, .selects RX2 yX2_copyFrom yX2_copyFrom, .initialized RX2] [(1, 15), (1, 16), (1, 17), (1, 18)] rfl (by decide +kernel)) ggX7_rippleWith_X2_copyFrom
set_option maxRecDepth 20000 in
theorem ggX7_rippleWith_X2_makeReading : GoodIn wsX7_rippleWith wsX2_makeReading := goodIn_c csX7_rippleWith hbX7_rippleWith _ [(3, 19), (1, 21), (3, 20), (2, 1), (3, 21), (2, 2), (1, 23), (2, 3), (1, 22), (3, 22), (2, 0), (2, 4), (3, 23), (4, 0), (4, 1), (4, 2), (4, 3), (4, 4), (1, 18), (4, 5), (4, 6), (4, 7), (4, 8), (4, 9), (1, 20), (4, 10), (4, 11), (4, 12), (4, 13), (4, 14), (3, 5), (4, 15), (3, 7), (3, 10), (3, 11), (3, 12), (3, 13), (3, 14), (3, 15), (4, 16), (4, 17), (4, 18), (2, 18), (4, 19), (2, 22), (2, 21), (4, 20), (4, 21), (4, 22), (4, 23), (5, 0), (5, 1), (5, 2), (2, 8), (5, 3), (2, 10), (5, 4), (5, 5), (5, 6), (5, 7), (5, 8), (2, 12), (2, 11), (5, 9), (5, 10), (5, 11), (5, 12), (5, 13), (5, 14), (5, 15), (2, 13), (2, 14), (5, 16), (5, 17), (5, 18), (5, 19), (5, 20), (5, 21), (5, 22), (5, 23), (6, 0), (6, 1), (6, 2), (6, 3), (6, 4), (6, 5), (6, 6), (3, 8), (6, 7), (3, 9), (6, 8), (6, 9), (6, 10), (6, 11), (6, 12), (6, 13), (6, 14), (6, 15), (6, 16), (6, 17), (1, 10), (6, 18), (6, 19), (6, 20), (6, 21), (6, 22), (6, 23), (7, 0), (7, 1), (10, 0), (10, 1), (10, 2), (10, 3), (10, 4), (10, 5), (10, 6), (10, 7), (10, 8), (11, 0), (11, 1), (11, 2), (11, 3), (11, 4), (11, 5), (13, 0), (13, 1), (13, 2), (13, 3), (13, 4), (13, 5), (13, 6), (13, 7), (13, 8), (12, 0), (12, 1), (12, 2), (12, 3), (12, 4)] rfl (by decide +kernel)
set_option maxRecDepth 20000 in
theorem gX7_rippleWith_X2_makeReading : GoodIn wsX7_rippleWith (wsV RX7 207 RX2 yX2_makeReading wsX2_makeReading) := goodIn_app (goodIn_c csX7_rippleWith hbX7_rippleWith [.methodLink RX7 207 yX2_makeReading, .instanceMethod yX2_makeReading, .selects RX2 yX2_makeReading yX2_makeReading, .initialized RX2] [(3, 16), (3, 17), (3, 18), (1, 18)] rfl (by decide +kernel)) ggX7_rippleWith_X2_makeReading
theorem dX7_rippleWith_0 : decode cX7_rippleWith 0 = .ok (.lconst 0, 1) := by decide +kernel
theorem dX7_rippleWith_1 : decode cX7_rippleWith 1 = .ok (.lstore_n 3, 1) := by decide +kernel
theorem dX7_rippleWith_2 : decode cX7_rippleWith 2 = .ok (.lconst 0, 1) := by decide +kernel
theorem dX7_rippleWith_3 : decode cX7_rippleWith 3 = .ok (.lstore 5, 2) := by decide +kernel
theorem dX7_rippleWith_5 : decode cX7_rippleWith 5 = .ok (.iconst 0, 1) := by decide +kernel
theorem dX7_rippleWith_6 : decode cX7_rippleWith 6 = .ok (.istore 7, 2) := by decide +kernel
theorem dX7_rippleWith_8 : decode cX7_rippleWith 8 = .ok (.iload 7, 2) := by decide +kernel
theorem dX7_rippleWith_10 : decode cX7_rippleWith 10 = .ok (.iload_n 2, 1) := by decide +kernel
theorem dX7_rippleWith_11 : decode cX7_rippleWith 11 = .ok (.if_icmp .ge 106, 3) := by decide +kernel
theorem dX7_rippleWith_14 : decode cX7_rippleWith 14 = .ok (.aload_n 0, 1) := by decide +kernel
theorem dX7_rippleWith_15 : decode cX7_rippleWith 15 = .ok (.getfield 30, 3) := by decide +kernel
theorem dX7_rippleWith_18 : decode cX7_rippleWith 18 = .ok (.aload_n 0, 1) := by decide +kernel
theorem dX7_rippleWith_19 : decode cX7_rippleWith 19 = .ok (.getfield 10, 3) := by decide +kernel
theorem dX7_rippleWith_22 : decode cX7_rippleWith 22 = .ok (.getfield 47, 3) := by decide +kernel
theorem dX7_rippleWith_25 : decode cX7_rippleWith 25 = .ok (.invokevirtual 203, 3) := by decide +kernel
theorem dX7_rippleWith_28 : decode cX7_rippleWith 28 = .ok (.aload_n 0, 1) := by decide +kernel
theorem dX7_rippleWith_29 : decode cX7_rippleWith 29 = .ok (.getfield 30, 3) := by decide +kernel
theorem dX7_rippleWith_32 : decode cX7_rippleWith 32 = .ok (.getfield 103, 3) := by decide +kernel
theorem dX7_rippleWith_35 : decode cX7_rippleWith 35 = .ok (.iload_n 1, 1) := by decide +kernel
theorem dX7_rippleWith_36 : decode cX7_rippleWith 36 = .ok (.putfield 190, 3) := by decide +kernel
theorem dX7_rippleWith_39 : decode cX7_rippleWith 39 = .ok (.aload_n 0, 1) := by decide +kernel
theorem dX7_rippleWith_40 : decode cX7_rippleWith 40 = .ok (.getfield 30, 3) := by decide +kernel
theorem dX7_rippleWith_43 : decode cX7_rippleWith 43 = .ok (.dup, 1) := by decide +kernel
theorem dX7_rippleWith_44 : decode cX7_rippleWith 44 = .ok (.getfield 84, 3) := by decide +kernel
theorem dX7_rippleWith_47 : decode cX7_rippleWith 47 = .ok (.iload 7, 2) := by decide +kernel
theorem dX7_rippleWith_49 : decode cX7_rippleWith 49 = .ok (.aload_n 0, 1) := by decide +kernel
theorem dX7_rippleWith_50 : decode cX7_rippleWith 50 = .ok (.getfield 30, 3) := by decide +kernel
theorem dX7_rippleWith_53 : decode cX7_rippleWith 53 = .ok (.getfield 50, 3) := by decide +kernel
theorem dX7_rippleWith_56 : decode cX7_rippleWith 56 = .ok (.getfield 70, 3) := by decide +kernel
theorem dX7_rippleWith_59 : decode cX7_rippleWith 59 = .ok (.imul, 1) := by decide +kernel
theorem dX7_rippleWith_60 : decode cX7_rippleWith 60 = .ok (.iload_n 2, 1) := by decide +kernel
theorem dX7_rippleWith_61 : decode cX7_rippleWith 61 = .ok (.idiv, 1) := by decide +kernel
theorem dX7_rippleWith_62 : decode cX7_rippleWith 62 = .ok (.iadd, 1) := by decide +kernel
theorem dX7_rippleWith_63 : decode cX7_rippleWith 63 = .ok (.putfield 84, 3) := by decide +kernel
theorem dX7_rippleWith_66 : decode cX7_rippleWith 66 = .ok (.aload_n 0, 1) := by decide +kernel
theorem dX7_rippleWith_67 : decode cX7_rippleWith 67 = .ok (.getfield 30, 3) := by decide +kernel
theorem dX7_rippleWith_70 : decode cX7_rippleWith 70 = .ok (.invokevirtual 207, 3) := by decide +kernel
theorem dX7_rippleWith_73 : decode cX7_rippleWith 73 = .ok (.lstore 8, 2) := by decide +kernel
theorem dX7_rippleWith_75 : decode cX7_rippleWith 75 = .ok (.iload 7, 2) := by decide +kernel
theorem dX7_rippleWith_77 : decode cX7_rippleWith 77 = .ok (.ifCond .ne 8, 3) := by decide +kernel
theorem dX7_rippleWith_80 : decode cX7_rippleWith 80 = .ok (.lload 8, 2) := by decide +kernel
theorem dX7_rippleWith_82 : decode cX7_rippleWith 82 = .ok (.goto 9, 3) := by decide +kernel
theorem dX7_rippleWith_85 : decode cX7_rippleWith 85 = .ok (.lload_n 3, 1) := by decide +kernel
theorem dX7_rippleWith_86 : decode cX7_rippleWith 86 = .ok (.lload 8, 2) := by decide +kernel
theorem dX7_rippleWith_88 : decode cX7_rippleWith 88 = .ok (.invokestatic 245, 3) := by decide +kernel
theorem dX7_rippleWith_91 : decode cX7_rippleWith 91 = .ok (.lstore_n 3, 1) := by decide +kernel
theorem dX7_rippleWith_92 : decode cX7_rippleWith 92 = .ok (.iload 7, 2) := by decide +kernel
theorem dX7_rippleWith_94 : decode cX7_rippleWith 94 = .ok (.ifCond .ne 8, 3) := by decide +kernel
theorem dX7_rippleWith_97 : decode cX7_rippleWith 97 = .ok (.lload 8, 2) := by decide +kernel
theorem dX7_rippleWith_99 : decode cX7_rippleWith 99 = .ok (.goto 10, 3) := by decide +kernel
theorem dX7_rippleWith_102 : decode cX7_rippleWith 102 = .ok (.lload 5, 2) := by decide +kernel
theorem dX7_rippleWith_104 : decode cX7_rippleWith 104 = .ok (.lload 8, 2) := by decide +kernel
theorem dX7_rippleWith_106 : decode cX7_rippleWith 106 = .ok (.invokestatic 249, 3) := by decide +kernel
theorem dX7_rippleWith_109 : decode cX7_rippleWith 109 = .ok (.lstore 5, 2) := by decide +kernel
theorem dX7_rippleWith_111 : decode cX7_rippleWith 111 = .ok (.iinc 7 1, 3) := by decide +kernel
theorem dX7_rippleWith_114 : decode cX7_rippleWith 114 = .ok (.goto (-106), 3) := by decide +kernel
theorem dX7_rippleWith_117 : decode cX7_rippleWith 117 = .ok (.lload 5, 2) := by decide +kernel
theorem dX7_rippleWith_119 : decode cX7_rippleWith 119 = .ok (.lload_n 3, 1) := by decide +kernel
theorem dX7_rippleWith_120 : decode cX7_rippleWith 120 = .ok (.lsub, 1) := by decide +kernel
theorem dX7_rippleWith_121 : decode cX7_rippleWith 121 = .ok (.lreturn, 1) := by decide +kernel
abbrev csX7_carryOutPad : List (List Cond) := [[.code yX7_carryOutPad cX7_carryOutPad 4 (some .boolean)], wsX7_carryOutPad_r1, wsX7_carryOutPad_r2, wsX7_carryOutPad_r3, wsX7_carryOutPad_r4, wsX7_carryOutPad_r5, wsX7_carryOutPad_r6, wsX7_carryOutPad_r7, wsX7_carryOutPad_r8, wsX70, wsX30, wsX60, wsX20, wsX50, wsX40, wsX00, wsX10]
set_option maxRecDepth 20000 in
theorem hbX7_carryOutPad : wsX7_carryOutPad = csX7_carryOutPad.flatten := rfl
set_option maxRecDepth 20000 in
theorem ggX7_carryOutPad_X3_numberOf : GoodIn wsX7_carryOutPad wsX3_numberOf := goodIn_c csX7_carryOutPad hbX7_carryOutPad _ [(1, 13), (1, 14), (10, 0), (10, 1), (10, 2), (10, 3), (10, 4), (10, 5), (10, 6)] rfl (by decide +kernel)
set_option maxRecDepth 20000 in
theorem gX7_carryOutPad_X3_numberOf : GoodIn wsX7_carryOutPad (wsV RX7 255 RX3 yX3_numberOf wsX3_numberOf) := goodIn_app (goodIn_c csX7_carryOutPad hbX7_carryOutPad [.methodLink RX7 255 yX3_numberOf, .instanceMethod yX3_numberOf, .selects RX3 yX3_numberOf yX3_numberOf, .initialized RX3] [(1, 9), (1, 10), (1, 11), (1, 12)] rfl (by decide +kernel)) ggX7_carryOutPad_X3_numberOf
set_option maxRecDepth 20000 in
theorem ggX7_carryOutPad_X3_kindOf : GoodIn wsX7_carryOutPad wsX3_kindOf := goodIn_c csX7_carryOutPad hbX7_carryOutPad _ [(1, 18), (1, 19), (10, 0), (10, 1), (10, 2), (10, 3), (10, 4), (10, 5), (10, 6)] rfl (by decide +kernel)
set_option maxRecDepth 20000 in
theorem gX7_carryOutPad_X3_kindOf : GoodIn wsX7_carryOutPad (wsV RX7 257 RX3 yX3_kindOf wsX3_kindOf) := goodIn_app (goodIn_c csX7_carryOutPad hbX7_carryOutPad [.methodLink RX7 257 yX3_kindOf, .instanceMethod yX3_kindOf, .selects RX3 yX3_kindOf yX3_kindOf, .initialized RX3] [(1, 15), (1, 16), (1, 17), (1, 12)] rfl (by decide +kernel)) ggX7_carryOutPad_X3_kindOf
set_option maxRecDepth 20000 in
theorem ggX7_carryOutPad_X6_makeReading : GoodIn wsX7_carryOutPad wsX6_makeReading := goodIn_c csX7_carryOutPad hbX7_carryOutPad _ [(2, 0), (2, 1), (2, 2), (2, 3), (2, 4), (2, 5), (2, 6), (2, 7), (2, 8), (2, 9), (2, 10), (2, 11), (2, 12), (2, 13), (2, 14), (2, 15), (2, 16), (2, 17), (2, 18), (2, 19), (2, 20), (2, 21), (2, 22), (2, 23), (3, 0), (3, 1), (3, 2), (3, 3), (3, 4), (3, 5), (3, 6), (3, 7), (3, 8), (3, 9), (3, 10), (3, 11), (3, 12), (3, 13), (3, 14), (3, 15), (3, 16), (3, 17), (3, 18), (3, 19), (3, 20), (3, 21), (3, 22), (3, 23), (4, 0), (4, 1), (4, 2), (4, 3), (4, 4), (4, 5), (4, 6), (4, 7), (4, 8), (4, 9), (4, 10), (4, 11), (4, 12), (4, 13), (4, 14), (4, 15), (4, 16), (4, 17), (4, 18), (4, 19), (4, 20), (4, 21), (4, 22), (4, 23), (5, 0), (5, 1), (5, 2), (5, 3), (5, 4), (5, 5), (5, 6), (5, 7), (5, 8), (5, 9), (5, 10), (5, 11), (5, 12), (5, 13), (5, 14), (5, 15), (5, 16), (5, 17), (5, 18), (5, 19), (5, 20), (5, 21), (5, 22), (5, 23), (6, 0), (6, 1), (6, 2), (6, 3), (6, 4), (6, 5), (6, 6), (6, 7), (6, 8), (6, 9), (6, 10), (6, 11), (6, 12), (6, 13), (6, 14), (6, 15), (6, 16), (6, 17), (6, 18), (6, 19), (6, 20), (6, 21), (6, 22), (6, 23), (7, 0), (7, 1), (7, 2), (7, 3), (7, 4), (7, 5), (7, 6), (7, 7), (7, 8), (7, 9), (7, 10), (7, 11), (7, 12), (7, 13), (7, 14), (7, 15), (7, 16), (7, 17), (7, 18), (7, 19), (11, 0), (11, 1), (12, 0), (12, 1), (12, 2), (12, 3), (12, 4), (12, 5), (12, 6), (12, 7), (12, 8), (14, 0), (14, 1), (14, 2), (14, 3), (14, 4), (14, 5), (15, 0), (15, 1), (15, 2), (15, 3), (15, 4), (15, 5), (15, 6), (15, 7), (15, 8), (13, 0), (13, 1), (13, 2), (13, 3), (13, 4), (16, 0), (16, 1)] rfl (by decide +kernel)
set_option maxRecDepth 20000 in
theorem gX7_carryOutPad_X6_makeReading : GoodIn wsX7_carryOutPad (wsV RX7 136 RX6 yX6_makeReading wsX6_makeReading) := goodIn_app (goodIn_c csX7_carryOutPad hbX7_carryOutPad [.methodLink RX7 136 yX6_makeReading, .instanceMethod yX6_makeReading, .selects RX6 yX6_makeReading yX6_makeReading, .initialized RX6] [(1, 20), (1, 21), (1, 22), (1, 23)] rfl (by decide +kernel)) ggX7_carryOutPad_X6_makeReading
set_option maxRecDepth 20000 in
theorem ggX7_carryOutPad_X2_convertZero : GoodIn wsX7_carryOutPad wsX2_convertZero := goodIn_c csX7_carryOutPad hbX7_carryOutPad _ [(3, 1), (2, 15), (2, 16), (2, 17), (3, 2), (3, 3), (3, 4), (2, 6), (3, 5), (2, 8), (2, 19), (3, 6), (2, 13), (3, 7), (3, 8), (3, 9), (3, 10), (3, 11), (3, 12), (3, 13), (3, 14), (3, 15), (3, 16), (3, 17), (3, 18), (3, 19), (3, 20), (3, 21), (3, 22), (3, 23), (4, 0), (4, 1), (4, 2), (4, 3), (4, 4), (4, 5), (4, 6), (4, 7), (4, 8), (4, 9), (4, 10), (4, 11), (4, 12), (4, 13), (4, 14), (4, 15), (4, 16), (4, 17), (4, 18), (4, 19), (4, 20), (4, 21), (4, 22), (4, 23), (5, 0), (5, 1), (5, 2), (5, 3), (5, 4), (5, 5), (5, 6), (5, 7), (5, 8), (5, 9), (5, 10), (5, 11), (5, 12), (5, 13), (5, 14), (5, 15), (5, 16), (5, 17), (5, 18), (5, 19), (5, 20), (5, 21), (5, 22), (5, 23), (6, 0), (12, 0), (12, 1), (12, 2), (12, 3), (12, 4), (12, 5), (12, 6), (12, 7), (12, 8), (15, 0), (15, 1), (15, 2), (15, 3), (15, 4), (15, 5), (15, 6), (15, 7), (15, 8), (14, 0), (14, 1), (14, 2), (14, 3), (14, 4), (14, 5), (13, 0), (13, 1), (13, 2), (13, 3), (13, 4)] rfl (by decide +kernel)
set_option maxRecDepth 20000 in
theorem gX7_carryOutPad_X2_convertZero : GoodIn wsX7_carryOutPad (wsV RX7 140 RX2 yX2_convertZero wsX2_convertZero) := goodIn_app (goodIn_c csX7_carryOutPad hbX7_carryOutPad [.methodLink RX7 140 yX2_convertZero, .instanceMethod yX2_convertZero, .selects RX2 yX2_convertZero yX2_convertZero, .initialized RX2] [(7, 20), (2, 23), (3, 0), (2, 6)] rfl (by decide +kernel)) ggX7_carryOutPad_X2_convertZero
set_option maxRecDepth 20000 in
theorem ggX7_carryOutPad_X2_canWait : GoodIn wsX7_carryOutPad wsX2_canWait := goodIn_c csX7_carryOutPad hbX7_carryOutPad _ [(8, 0), (2, 13), (8, 1), (12, 0), (12, 1), (12, 2), (12, 3), (12, 4), (12, 5), (12, 6), (12, 7), (12, 8)] rfl (by decide +kernel)
set_option maxRecDepth 20000 in
theorem gX7_carryOutPad_X2_canWait : GoodIn wsX7_carryOutPad (wsV RX7 147 RX2 yX2_canWait wsX2_canWait) := goodIn_app (goodIn_c csX7_carryOutPad hbX7_carryOutPad [.methodLink RX7 147 yX2_canWait, .instanceMethod yX2_canWait, .selects RX2 yX2_canWait yX2_canWait, .initialized RX2] [(7, 21), (7, 22), (7, 23), (2, 6)] rfl (by decide +kernel)) ggX7_carryOutPad_X2_canWait
theorem dX7_carryOutPad_0 : decode cX7_carryOutPad 0 = .ok (.iconst 0, 1) := by decide +kernel
theorem dX7_carryOutPad_1 : decode cX7_carryOutPad 1 = .ok (.istore_n 1, 1) := by decide +kernel
theorem dX7_carryOutPad_2 : decode cX7_carryOutPad 2 = .ok (.iload_n 1, 1) := by decide +kernel
theorem dX7_carryOutPad_3 : decode cX7_carryOutPad 3 = .ok (.aload_n 0, 1) := by decide +kernel
theorem dX7_carryOutPad_4 : decode cX7_carryOutPad 4 = .ok (.getfield 37, 3) := by decide +kernel
theorem dX7_carryOutPad_7 : decode cX7_carryOutPad 7 = .ok (.getfield 252, 3) := by decide +kernel
theorem dX7_carryOutPad_10 : decode cX7_carryOutPad 10 = .ok (.if_icmp .ge 182, 3) := by decide +kernel
theorem dX7_carryOutPad_13 : decode cX7_carryOutPad 13 = .ok (.aload_n 0, 1) := by decide +kernel
theorem dX7_carryOutPad_14 : decode cX7_carryOutPad 14 = .ok (.getfield 37, 3) := by decide +kernel
theorem dX7_carryOutPad_17 : decode cX7_carryOutPad 17 = .ok (.iload_n 1, 1) := by decide +kernel
theorem dX7_carryOutPad_18 : decode cX7_carryOutPad 18 = .ok (.invokevirtual 255, 3) := by decide +kernel
theorem dX7_carryOutPad_21 : decode cX7_carryOutPad 21 = .ok (.istore_n 2, 1) := by decide +kernel
theorem dX7_carryOutPad_22 : decode cX7_carryOutPad 22 = .ok (.aload_n 0, 1) := by decide +kernel
theorem dX7_carryOutPad_23 : decode cX7_carryOutPad 23 = .ok (.getfield 37, 3) := by decide +kernel
theorem dX7_carryOutPad_26 : decode cX7_carryOutPad 26 = .ok (.iload_n 1, 1) := by decide +kernel
theorem dX7_carryOutPad_27 : decode cX7_carryOutPad 27 = .ok (.invokevirtual 257, 3) := by decide +kernel
theorem dX7_carryOutPad_30 : decode cX7_carryOutPad 30 = .ok (.lookupswitch 156 #[(103, 139), (108, 122), (114, 50), (119, 87), (122, 74)], 50) := by decide +kernel
theorem dX7_carryOutPad_80 : decode cX7_carryOutPad 80 = .ok (.iconst 0, 1) := by decide +kernel
theorem dX7_carryOutPad_81 : decode cX7_carryOutPad 81 = .ok (.istore_n 3, 1) := by decide +kernel
theorem dX7_carryOutPad_82 : decode cX7_carryOutPad 82 = .ok (.iload_n 3, 1) := by decide +kernel
theorem dX7_carryOutPad_83 : decode cX7_carryOutPad 83 = .ok (.iload_n 2, 1) := by decide +kernel
theorem dX7_carryOutPad_84 : decode cX7_carryOutPad 84 = .ok (.if_icmp .ge 17, 3) := by decide +kernel
theorem dX7_carryOutPad_87 : decode cX7_carryOutPad 87 = .ok (.aload_n 0, 1) := by decide +kernel
theorem dX7_carryOutPad_88 : decode cX7_carryOutPad 88 = .ok (.getfield 10, 3) := by decide +kernel
theorem dX7_carryOutPad_91 : decode cX7_carryOutPad 91 = .ok (.invokevirtual 136, 3) := by decide +kernel
theorem dX7_carryOutPad_94 : decode cX7_carryOutPad 94 = .ok (.pop2, 1) := by decide +kernel
theorem dX7_carryOutPad_95 : decode cX7_carryOutPad 95 = .ok (.iinc 3 1, 3) := by decide +kernel
theorem dX7_carryOutPad_98 : decode cX7_carryOutPad 98 = .ok (.goto (-16), 3) := by decide +kernel
theorem dX7_carryOutPad_101 : decode cX7_carryOutPad 101 = .ok (.goto 85, 3) := by decide +kernel
theorem dX7_carryOutPad_104 : decode cX7_carryOutPad 104 = .ok (.aload_n 0, 1) := by decide +kernel
theorem dX7_carryOutPad_105 : decode cX7_carryOutPad 105 = .ok (.getfield 10, 3) := by decide +kernel
theorem dX7_carryOutPad_108 : decode cX7_carryOutPad 108 = .ok (.getfield 47, 3) := by decide +kernel
theorem dX7_carryOutPad_111 : decode cX7_carryOutPad 111 = .ok (.invokevirtual 140, 3) := by decide +kernel
theorem dX7_carryOutPad_114 : decode cX7_carryOutPad 114 = .ok (.goto 72, 3) := by decide +kernel
theorem dX7_carryOutPad_117 : decode cX7_carryOutPad 117 = .ok (.aload_n 0, 1) := by decide +kernel
theorem dX7_carryOutPad_118 : decode cX7_carryOutPad 118 = .ok (.getfield 10, 3) := by decide +kernel
theorem dX7_carryOutPad_121 : decode cX7_carryOutPad 121 = .ok (.getfield 47, 3) := by decide +kernel
theorem dX7_carryOutPad_124 : decode cX7_carryOutPad 124 = .ok (.iload_n 2, 1) := by decide +kernel
theorem dX7_carryOutPad_125 : decode cX7_carryOutPad 125 = .ok (.invokevirtual 147, 3) := by decide +kernel
theorem dX7_carryOutPad_128 : decode cX7_carryOutPad 128 = .ok (.ifCond .ne 5, 3) := by decide +kernel
theorem dX7_carryOutPad_131 : decode cX7_carryOutPad 131 = .ok (.iconst 0, 1) := by decide +kernel
theorem dX7_carryOutPad_132 : decode cX7_carryOutPad 132 = .ok (.ireturn, 1) := by decide +kernel
theorem dX7_carryOutPad_133 : decode cX7_carryOutPad 133 = .ok (.aload_n 0, 1) := by decide +kernel
theorem dX7_carryOutPad_134 : decode cX7_carryOutPad 134 = .ok (.getfield 10, 3) := by decide +kernel
theorem dX7_carryOutPad_137 : decode cX7_carryOutPad 137 = .ok (.getfield 47, 3) := by decide +kernel
theorem dX7_carryOutPad_140 : decode cX7_carryOutPad 140 = .ok (.dup, 1) := by decide +kernel
theorem dX7_carryOutPad_141 : decode cX7_carryOutPad 141 = .ok (.getfield 84, 3) := by decide +kernel
theorem dX7_carryOutPad_144 : decode cX7_carryOutPad 144 = .ok (.iload_n 2, 1) := by decide +kernel
theorem dX7_carryOutPad_145 : decode cX7_carryOutPad 145 = .ok (.iadd, 1) := by decide +kernel
theorem dX7_carryOutPad_146 : decode cX7_carryOutPad 146 = .ok (.putfield 84, 3) := by decide +kernel
theorem dX7_carryOutPad_149 : decode cX7_carryOutPad 149 = .ok (.goto 37, 3) := by decide +kernel
theorem dX7_carryOutPad_152 : decode cX7_carryOutPad 152 = .ok (.aload_n 0, 1) := by decide +kernel
theorem dX7_carryOutPad_153 : decode cX7_carryOutPad 153 = .ok (.getfield 10, 3) := by decide +kernel
theorem dX7_carryOutPad_156 : decode cX7_carryOutPad 156 = .ok (.getfield 47, 3) := by decide +kernel
theorem dX7_carryOutPad_159 : decode cX7_carryOutPad 159 = .ok (.getfield 50, 3) := by decide +kernel
theorem dX7_carryOutPad_162 : decode cX7_carryOutPad 162 = .ok (.iload_n 2, 1) := by decide +kernel
theorem dX7_carryOutPad_163 : decode cX7_carryOutPad 163 = .ok (.putfield 54, 3) := by decide +kernel
theorem dX7_carryOutPad_166 : decode cX7_carryOutPad 166 = .ok (.goto 20, 3) := by decide +kernel
theorem dX7_carryOutPad_169 : decode cX7_carryOutPad 169 = .ok (.aload_n 0, 1) := by decide +kernel
theorem dX7_carryOutPad_170 : decode cX7_carryOutPad 170 = .ok (.getfield 10, 3) := by decide +kernel
theorem dX7_carryOutPad_173 : decode cX7_carryOutPad 173 = .ok (.getfield 47, 3) := by decide +kernel
theorem dX7_carryOutPad_176 : decode cX7_carryOutPad 176 = .ok (.getfield 103, 3) := by decide +kernel
theorem dX7_carryOutPad_179 : decode cX7_carryOutPad 179 = .ok (.iload_n 2, 1) := by decide +kernel
theorem dX7_carryOutPad_180 : decode cX7_carryOutPad 180 = .ok (.putfield 124, 3) := by decide +kernel
theorem dX7_carryOutPad_183 : decode cX7_carryOutPad 183 = .ok (.goto 3, 3) := by decide +kernel
theorem dX7_carryOutPad_186 : decode cX7_carryOutPad 186 = .ok (.iinc 1 1, 3) := by decide +kernel
theorem dX7_carryOutPad_189 : decode cX7_carryOutPad 189 = .ok (.goto (-187), 3) := by decide +kernel
theorem dX7_carryOutPad_192 : decode cX7_carryOutPad 192 = .ok (.iconst 1, 1) := by decide +kernel
theorem dX7_carryOutPad_193 : decode cX7_carryOutPad 193 = .ok (.ireturn, 1) := by decide +kernel
/-! END d -/
