set_option maxRecDepth 20000 in
theorem ggX0_init_X1_init : GoodIn wsX0_init wsX1_init := goodIn_r _ [14, 15, 2, 3, 16, 17, 18, 10, 19, 20, 21, 22, 23, 24, 25, 26, 27, 35, 36, 37, 38] rfl (by decide +kernel)
set_option maxRecDepth 20000 in
theorem gX0_init_X1_init : GoodIn wsX0_init (wsX1_init) := ggX0_init_X1_init
theorem dX0_init_0 : decode cX0_init 0 = .ok (.aload_n 0, 1) := by decide +kernel
theorem dX0_init_1 : decode cX0_init 1 = .ok (.invokespecial 3, 3) := by decide +kernel
theorem dX0_init_4 : decode cX0_init 4 = .ok (.aload_n 0, 1) := by decide +kernel
theorem dX0_init_5 : decode cX0_init 5 = .ok (.bipush 39, 2) := by decide +kernel
theorem dX0_init_7 : decode cX0_init 7 = .ok (.putfield 9, 3) := by decide +kernel
theorem dX0_init_10 : decode cX0_init 10 = .ok (.aload_n 0, 1) := by decide +kernel
theorem dX0_init_11 : decode cX0_init 11 = .ok (.iconst 3, 1) := by decide +kernel
theorem dX0_init_12 : decode cX0_init 12 = .ok (.newarray .int, 2) := by decide +kernel
theorem dX0_init_14 : decode cX0_init 14 = .ok (.putfield 15, 3) := by decide +kernel
theorem dX0_init_17 : decode cX0_init 17 = .ok (.aload_n 0, 1) := by decide +kernel
theorem dX0_init_18 : decode cX0_init 18 = .ok (.iconst 3, 1) := by decide +kernel
theorem dX0_init_19 : decode cX0_init 19 = .ok (.newarray .int, 2) := by decide +kernel
theorem dX0_init_21 : decode cX0_init 21 = .ok (.putfield 19, 3) := by decide +kernel
theorem dX0_init_24 : decode cX0_init 24 = .ok (.aload_n 0, 1) := by decide +kernel
theorem dX0_init_25 : decode cX0_init 25 = .ok (.new 22, 3) := by decide +kernel
theorem dX0_init_28 : decode cX0_init 28 = .ok (.dup, 1) := by decide +kernel
theorem dX0_init_29 : decode cX0_init 29 = .ok (.invokespecial 24, 3) := by decide +kernel
theorem dX0_init_32 : decode cX0_init 32 = .ok (.putfield 25, 3) := by decide +kernel
theorem dX0_init_35 : decode cX0_init 35 = .ok (.return_, 1) := by decide +kernel
set_option maxRecDepth 20000 in
theorem ggX0_begin_X0_setOperand : GoodIn wsX0_begin wsX0_setOperand := goodIn_r _ [8, 9, 10, 11, 12, 13, 14, 15, 16, 17] rfl (by decide +kernel)
set_option maxRecDepth 20000 in
theorem gX0_begin_X0_setOperand : GoodIn wsX0_begin (wsV RX0 35 RX0 yX0_setOperand wsX0_setOperand) := goodIn_app (goodIn_of _ (by decide +kernel)) ggX0_begin_X0_setOperand
theorem dX0_begin_0 : decode cX0_begin 0 = .ok (.aload_n 0, 1) := by decide +kernel
theorem dX0_begin_1 : decode cX0_begin 1 = .ok (.iload_n 1, 1) := by decide +kernel
theorem dX0_begin_2 : decode cX0_begin 2 = .ok (.putfield 9, 3) := by decide +kernel
theorem dX0_begin_5 : decode cX0_begin 5 = .ok (.aload_n 0, 1) := by decide +kernel
theorem dX0_begin_6 : decode cX0_begin 6 = .ok (.iload_n 2, 1) := by decide +kernel
theorem dX0_begin_7 : decode cX0_begin 7 = .ok (.putfield 29, 3) := by decide +kernel
theorem dX0_begin_10 : decode cX0_begin 10 = .ok (.aload_n 0, 1) := by decide +kernel
theorem dX0_begin_11 : decode cX0_begin 11 = .ok (.iload_n 3, 1) := by decide +kernel
theorem dX0_begin_12 : decode cX0_begin 12 = .ok (.putfield 32, 3) := by decide +kernel
theorem dX0_begin_15 : decode cX0_begin 15 = .ok (.iconst 0, 1) := by decide +kernel
theorem dX0_begin_16 : decode cX0_begin 16 = .ok (.istore 4, 2) := by decide +kernel
theorem dX0_begin_18 : decode cX0_begin 18 = .ok (.iload 4, 2) := by decide +kernel
theorem dX0_begin_20 : decode cX0_begin 20 = .ok (.iconst 3, 1) := by decide +kernel
theorem dX0_begin_21 : decode cX0_begin 21 = .ok (.if_icmp .ge 17, 3) := by decide +kernel
theorem dX0_begin_24 : decode cX0_begin 24 = .ok (.aload_n 0, 1) := by decide +kernel
theorem dX0_begin_25 : decode cX0_begin 25 = .ok (.iload 4, 2) := by decide +kernel
theorem dX0_begin_27 : decode cX0_begin 27 = .ok (.iconst 0, 1) := by decide +kernel
theorem dX0_begin_28 : decode cX0_begin 28 = .ok (.iconst 0, 1) := by decide +kernel
theorem dX0_begin_29 : decode cX0_begin 29 = .ok (.invokevirtual 35, 3) := by decide +kernel
theorem dX0_begin_32 : decode cX0_begin 32 = .ok (.iinc 4 1, 3) := by decide +kernel
theorem dX0_begin_35 : decode cX0_begin 35 = .ok (.goto (-17), 3) := by decide +kernel
theorem dX0_begin_38 : decode cX0_begin 38 = .ok (.return_, 1) := by decide +kernel
theorem dX0_setOperand_0 : decode cX0_setOperand 0 = .ok (.iload_n 1, 1) := by decide +kernel
theorem dX0_setOperand_1 : decode cX0_setOperand 1 = .ok (.ifCond .lt 22, 3) := by decide +kernel
theorem dX0_setOperand_4 : decode cX0_setOperand 4 = .ok (.iload_n 1, 1) := by decide +kernel
theorem dX0_setOperand_5 : decode cX0_setOperand 5 = .ok (.iconst 3, 1) := by decide +kernel
theorem dX0_setOperand_6 : decode cX0_setOperand 6 = .ok (.if_icmp .ge 17, 3) := by decide +kernel
theorem dX0_setOperand_9 : decode cX0_setOperand 9 = .ok (.aload_n 0, 1) := by decide +kernel
theorem dX0_setOperand_10 : decode cX0_setOperand 10 = .ok (.getfield 15, 3) := by decide +kernel
theorem dX0_setOperand_13 : decode cX0_setOperand 13 = .ok (.iload_n 1, 1) := by decide +kernel
theorem dX0_setOperand_14 : decode cX0_setOperand 14 = .ok (.iload_n 2, 1) := by decide +kernel
theorem dX0_setOperand_15 : decode cX0_setOperand 15 = .ok (.iastore, 1) := by decide +kernel
theorem dX0_setOperand_16 : decode cX0_setOperand 16 = .ok (.aload_n 0, 1) := by decide +kernel
theorem dX0_setOperand_17 : decode cX0_setOperand 17 = .ok (.getfield 19, 3) := by decide +kernel
theorem dX0_setOperand_20 : decode cX0_setOperand 20 = .ok (.iload_n 1, 1) := by decide +kernel
theorem dX0_setOperand_21 : decode cX0_setOperand 21 = .ok (.iload_n 3, 1) := by decide +kernel
theorem dX0_setOperand_22 : decode cX0_setOperand 22 = .ok (.iastore, 1) := by decide +kernel
theorem dX0_setOperand_23 : decode cX0_setOperand 23 = .ok (.return_, 1) := by decide +kernel
theorem dX0_kindOf_0 : decode cX0_kindOf 0 = .ok (.iload_n 1, 1) := by decide +kernel
theorem dX0_kindOf_1 : decode cX0_kindOf 1 = .ok (.ifCond .lt 17, 3) := by decide +kernel
theorem dX0_kindOf_4 : decode cX0_kindOf 4 = .ok (.iload_n 1, 1) := by decide +kernel
theorem dX0_kindOf_5 : decode cX0_kindOf 5 = .ok (.iconst 3, 1) := by decide +kernel
theorem dX0_kindOf_6 : decode cX0_kindOf 6 = .ok (.if_icmp .ge 12, 3) := by decide +kernel
theorem dX0_kindOf_9 : decode cX0_kindOf 9 = .ok (.aload_n 0, 1) := by decide +kernel
theorem dX0_kindOf_10 : decode cX0_kindOf 10 = .ok (.getfield 15, 3) := by decide +kernel
theorem dX0_kindOf_13 : decode cX0_kindOf 13 = .ok (.iload_n 1, 1) := by decide +kernel
theorem dX0_kindOf_14 : decode cX0_kindOf 14 = .ok (.iaload, 1) := by decide +kernel
theorem dX0_kindOf_15 : decode cX0_kindOf 15 = .ok (.goto 4, 3) := by decide +kernel
theorem dX0_kindOf_18 : decode cX0_kindOf 18 = .ok (.iconst 0, 1) := by decide +kernel
theorem dX0_kindOf_19 : decode cX0_kindOf 19 = .ok (.ireturn, 1) := by decide +kernel
theorem dX0_registerOf_0 : decode cX0_registerOf 0 = .ok (.iload_n 1, 1) := by decide +kernel
theorem dX0_registerOf_1 : decode cX0_registerOf 1 = .ok (.ifCond .lt 17, 3) := by decide +kernel
theorem dX0_registerOf_4 : decode cX0_registerOf 4 = .ok (.iload_n 1, 1) := by decide +kernel
theorem dX0_registerOf_5 : decode cX0_registerOf 5 = .ok (.iconst 3, 1) := by decide +kernel
theorem dX0_registerOf_6 : decode cX0_registerOf 6 = .ok (.if_icmp .ge 12, 3) := by decide +kernel
theorem dX0_registerOf_9 : decode cX0_registerOf 9 = .ok (.aload_n 0, 1) := by decide +kernel
theorem dX0_registerOf_10 : decode cX0_registerOf 10 = .ok (.getfield 19, 3) := by decide +kernel
theorem dX0_registerOf_13 : decode cX0_registerOf 13 = .ok (.iload_n 1, 1) := by decide +kernel
theorem dX0_registerOf_14 : decode cX0_registerOf 14 = .ok (.iaload, 1) := by decide +kernel
theorem dX0_registerOf_15 : decode cX0_registerOf 15 = .ok (.goto 4, 3) := by decide +kernel
theorem dX0_registerOf_18 : decode cX0_registerOf 18 = .ok (.iconst 0, 1) := by decide +kernel
theorem dX0_registerOf_19 : decode cX0_registerOf 19 = .ok (.ireturn, 1) := by decide +kernel
set_option maxRecDepth 20000 in
theorem ggX0_copyFrom_X0_begin : GoodIn wsX0_copyFrom wsX0_begin := goodIn_r _ [10, 1, 2, 3, 11, 12, 13, 9, 14, 15, 16, 34, 35, 36, 37, 38, 39, 40] rfl (by decide +kernel)
set_option maxRecDepth 20000 in
theorem gX0_copyFrom_X0_begin : GoodIn wsX0_copyFrom (wsV RX0 39 RX0 yX0_begin wsX0_begin) := goodIn_app (goodIn_of _ (by decide +kernel)) ggX0_copyFrom_X0_begin
set_option maxRecDepth 20000 in
theorem ggX0_copyFrom_X0_kindOf : GoodIn wsX0_copyFrom wsX0_kindOf := goodIn_r _ [20, 15, 34, 35, 36, 37, 38, 39, 40] rfl (by decide +kernel)
set_option maxRecDepth 20000 in
theorem gX0_copyFrom_X0_kindOf : GoodIn wsX0_copyFrom (wsV RX0 42 RX0 yX0_kindOf wsX0_kindOf) := goodIn_app (goodIn_of _ (by decide +kernel)) ggX0_copyFrom_X0_kindOf
set_option maxRecDepth 20000 in
theorem ggX0_copyFrom_X0_registerOf : GoodIn wsX0_copyFrom wsX0_registerOf := goodIn_r _ [24, 16, 34, 35, 36, 37, 38, 39, 40] rfl (by decide +kernel)
set_option maxRecDepth 20000 in
theorem gX0_copyFrom_X0_registerOf : GoodIn wsX0_copyFrom (wsV RX0 46 RX0 yX0_registerOf wsX0_registerOf) := goodIn_app (goodIn_of _ (by decide +kernel)) ggX0_copyFrom_X0_registerOf
set_option maxRecDepth 20000 in
theorem ggX0_copyFrom_X0_setOperand : GoodIn wsX0_copyFrom wsX0_setOperand := goodIn_r _ [14, 15, 16, 34, 35, 36, 37, 38, 39, 40] rfl (by decide +kernel)
set_option maxRecDepth 20000 in
theorem gX0_copyFrom_X0_setOperand : GoodIn wsX0_copyFrom (wsV RX0 35 RX0 yX0_setOperand wsX0_setOperand) := goodIn_app (goodIn_of _ (by decide +kernel)) ggX0_copyFrom_X0_setOperand
set_option maxRecDepth 20000 in
theorem ggX0_copyFrom_X1_become : GoodIn wsX0_copyFrom wsX1_become := goodIn_r _ [29, 30, 31, 32, 33, 41, 42, 43, 44] rfl (by decide +kernel)
set_option maxRecDepth 20000 in
theorem gX0_copyFrom_X1_become : GoodIn wsX0_copyFrom (wsV RX0 61 RX1 yX1_become wsX1_become) := goodIn_app (goodIn_of _ (by decide +kernel)) ggX0_copyFrom_X1_become
theorem dX0_copyFrom_0 : decode cX0_copyFrom 0 = .ok (.aload_n 0, 1) := by decide +kernel
theorem dX0_copyFrom_1 : decode cX0_copyFrom 1 = .ok (.aload_n 1, 1) := by decide +kernel
theorem dX0_copyFrom_2 : decode cX0_copyFrom 2 = .ok (.getfield 9, 3) := by decide +kernel
theorem dX0_copyFrom_5 : decode cX0_copyFrom 5 = .ok (.aload_n 1, 1) := by decide +kernel
theorem dX0_copyFrom_6 : decode cX0_copyFrom 6 = .ok (.getfield 29, 3) := by decide +kernel
theorem dX0_copyFrom_9 : decode cX0_copyFrom 9 = .ok (.aload_n 1, 1) := by decide +kernel
theorem dX0_copyFrom_10 : decode cX0_copyFrom 10 = .ok (.getfield 32, 3) := by decide +kernel
theorem dX0_copyFrom_13 : decode cX0_copyFrom 13 = .ok (.invokevirtual 39, 3) := by decide +kernel
theorem dX0_copyFrom_16 : decode cX0_copyFrom 16 = .ok (.iconst 0, 1) := by decide +kernel
theorem dX0_copyFrom_17 : decode cX0_copyFrom 17 = .ok (.istore_n 2, 1) := by decide +kernel
theorem dX0_copyFrom_18 : decode cX0_copyFrom 18 = .ok (.iload_n 2, 1) := by decide +kernel
theorem dX0_copyFrom_19 : decode cX0_copyFrom 19 = .ok (.iconst 3, 1) := by decide +kernel
theorem dX0_copyFrom_20 : decode cX0_copyFrom 20 = .ok (.if_icmp .ge 24, 3) := by decide +kernel
theorem dX0_copyFrom_23 : decode cX0_copyFrom 23 = .ok (.aload_n 0, 1) := by decide +kernel
theorem dX0_copyFrom_24 : decode cX0_copyFrom 24 = .ok (.iload_n 2, 1) := by decide +kernel
theorem dX0_copyFrom_25 : decode cX0_copyFrom 25 = .ok (.aload_n 1, 1) := by decide +kernel
theorem dX0_copyFrom_26 : decode cX0_copyFrom 26 = .ok (.iload_n 2, 1) := by decide +kernel
theorem dX0_copyFrom_27 : decode cX0_copyFrom 27 = .ok (.invokevirtual 42, 3) := by decide +kernel
theorem dX0_copyFrom_30 : decode cX0_copyFrom 30 = .ok (.aload_n 1, 1) := by decide +kernel
theorem dX0_copyFrom_31 : decode cX0_copyFrom 31 = .ok (.iload_n 2, 1) := by decide +kernel
theorem dX0_copyFrom_32 : decode cX0_copyFrom 32 = .ok (.invokevirtual 46, 3) := by decide +kernel
theorem dX0_copyFrom_35 : decode cX0_copyFrom 35 = .ok (.invokevirtual 35, 3) := by decide +kernel
theorem dX0_copyFrom_38 : decode cX0_copyFrom 38 = .ok (.iinc 2 1, 3) := by decide +kernel
theorem dX0_copyFrom_41 : decode cX0_copyFrom 41 = .ok (.goto (-23), 3) := by decide +kernel
theorem dX0_copyFrom_44 : decode cX0_copyFrom 44 = .ok (.aload_n 1, 1) := by decide +kernel
theorem dX0_copyFrom_45 : decode cX0_copyFrom 45 = .ok (.getfield 25, 3) := by decide +kernel
theorem dX0_copyFrom_48 : decode cX0_copyFrom 48 = .ok (.astore_n 2, 1) := by decide +kernel
theorem dX0_copyFrom_49 : decode cX0_copyFrom 49 = .ok (.aload_n 0, 1) := by decide +kernel
theorem dX0_copyFrom_50 : decode cX0_copyFrom 50 = .ok (.getfield 25, 3) := by decide +kernel
theorem dX0_copyFrom_53 : decode cX0_copyFrom 53 = .ok (.aload_n 2, 1) := by decide +kernel
theorem dX0_copyFrom_54 : decode cX0_copyFrom 54 = .ok (.getfield 49, 3) := by decide +kernel
theorem dX0_copyFrom_57 : decode cX0_copyFrom 57 = .ok (.aload_n 2, 1) := by decide +kernel
theorem dX0_copyFrom_58 : decode cX0_copyFrom 58 = .ok (.getfield 52, 3) := by decide +kernel
theorem dX0_copyFrom_61 : decode cX0_copyFrom 61 = .ok (.aload_n 2, 1) := by decide +kernel
theorem dX0_copyFrom_62 : decode cX0_copyFrom 62 = .ok (.getfield 55, 3) := by decide +kernel
theorem dX0_copyFrom_65 : decode cX0_copyFrom 65 = .ok (.aload_n 2, 1) := by decide +kernel
theorem dX0_copyFrom_66 : decode cX0_copyFrom 66 = .ok (.getfield 58, 3) := by decide +kernel
theorem dX0_copyFrom_69 : decode cX0_copyFrom 69 = .ok (.invokevirtual 61, 3) := by decide +kernel
theorem dX0_copyFrom_72 : decode cX0_copyFrom 72 = .ok (.aload_n 0, 1) := by decide +kernel
theorem dX0_copyFrom_73 : decode cX0_copyFrom 73 = .ok (.aload_n 1, 1) := by decide +kernel
theorem dX0_copyFrom_74 : decode cX0_copyFrom 74 = .ok (.getfield 65, 3) := by decide +kernel
theorem dX0_copyFrom_77 : decode cX0_copyFrom 77 = .ok (.putfield 65, 3) := by decide +kernel
theorem dX0_copyFrom_80 : decode cX0_copyFrom 80 = .ok (.return_, 1) := by decide +kernel
