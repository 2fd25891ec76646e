set_option maxRecDepth 20000 in
theorem ggX6_init_X5_init : GoodIn wsX6_init wsX5_init := goodIn_r _ [21, 22, 2, 3, 23, 24, 25, 26, 27, 11, 12, 28, 29, 30, 31, 32, 33, 34, 35, 36, 37, 38, 39, 40, 41, 42, 43, 44, 45, 46, 47, 48, 49, 50, 51, 52, 53, 54, 55, 56, 57, 58, 59, 60, 61, 92, 93, 94, 95, 96, 97, 98, 73, 74, 81, 82, 99, 100, 101, 102] rfl (by decide +kernel)
set_option maxRecDepth 20000 in
theorem gX6_init_X5_init : GoodIn wsX6_init (wsX5_init) := ggX6_init_X5_init
set_option maxRecDepth 20000 in
theorem ggX6_init_X2_init : GoodIn wsX6_init wsX2_init := goodIn_r _ [59, 60, 2, 3, 34, 61, 81, 82] rfl (by decide +kernel)
set_option maxRecDepth 20000 in
theorem gX6_init_X2_init : GoodIn wsX6_init (wsX2_init) := ggX6_init_X2_init
set_option maxRecDepth 20000 in
theorem ggX6_init_X3_init : GoodIn wsX6_init wsX3_init := goodIn_r _ [65, 66, 2, 3, 67, 11, 12, 68, 69, 24, 25, 70, 71, 58, 59, 60, 34, 61, 72, 30, 31, 32, 33, 35, 36, 37, 38, 39, 40, 41, 42, 43, 44, 45, 46, 47, 48, 49, 50, 51, 52, 53, 54, 55, 56, 81, 82, 83, 84, 85, 86, 87, 88, 89, 90, 91, 92, 93, 94, 95, 96, 97, 98, 99, 100, 101, 102] rfl (by decide +kernel)
set_option maxRecDepth 20000 in
theorem gX6_init_X3_init : GoodIn wsX6_init (wsX3_init) := ggX6_init_X3_init
theorem dX6_init_0 : decode cX6_init 0 = .ok (.aload_n 0, 1) := by decide +kernel
theorem dX6_init_1 : decode cX6_init 1 = .ok (.invokespecial 1, 3) := by decide +kernel
theorem dX6_init_4 : decode cX6_init 4 = .ok (.aload_n 0, 1) := by decide +kernel
theorem dX6_init_5 : decode cX6_init 5 = .ok (.new 7, 3) := by decide +kernel
theorem dX6_init_8 : decode cX6_init 8 = .ok (.dup, 1) := by decide +kernel
theorem dX6_init_9 : decode cX6_init 9 = .ok (.invokespecial 9, 3) := by decide +kernel
theorem dX6_init_12 : decode cX6_init 12 = .ok (.putfield 10, 3) := by decide +kernel
theorem dX6_init_15 : decode cX6_init 15 = .ok (.aload_n 0, 1) := by decide +kernel
theorem dX6_init_16 : decode cX6_init 16 = .ok (.aload_n 0, 1) := by decide +kernel
theorem dX6_init_17 : decode cX6_init 17 = .ok (.getfield 10, 3) := by decide +kernel
theorem dX6_init_20 : decode cX6_init 20 = .ok (.getfield 16, 3) := by decide +kernel
theorem dX6_init_23 : decode cX6_init 23 = .ok (.putfield 20, 3) := by decide +kernel
theorem dX6_init_26 : decode cX6_init 26 = .ok (.aload_n 0, 1) := by decide +kernel
theorem dX6_init_27 : decode cX6_init 27 = .ok (.aload_n 0, 1) := by decide +kernel
theorem dX6_init_28 : decode cX6_init 28 = .ok (.getfield 10, 3) := by decide +kernel
theorem dX6_init_31 : decode cX6_init 31 = .ok (.getfield 23, 3) := by decide +kernel
theorem dX6_init_34 : decode cX6_init 34 = .ok (.putfield 27, 3) := by decide +kernel
theorem dX6_init_37 : decode cX6_init 37 = .ok (.aload_n 0, 1) := by decide +kernel
theorem dX6_init_38 : decode cX6_init 38 = .ok (.new 30, 3) := by decide +kernel
theorem dX6_init_41 : decode cX6_init 41 = .ok (.dup, 1) := by decide +kernel
theorem dX6_init_42 : decode cX6_init 42 = .ok (.invokespecial 32, 3) := by decide +kernel
theorem dX6_init_45 : decode cX6_init 45 = .ok (.putfield 33, 3) := by decide +kernel
theorem dX6_init_48 : decode cX6_init 48 = .ok (.aload_n 0, 1) := by decide +kernel
theorem dX6_init_49 : decode cX6_init 49 = .ok (.new 36, 3) := by decide +kernel
theorem dX6_init_52 : decode cX6_init 52 = .ok (.dup, 1) := by decide +kernel
theorem dX6_init_53 : decode cX6_init 53 = .ok (.invokespecial 38, 3) := by decide +kernel
theorem dX6_init_56 : decode cX6_init 56 = .ok (.putfield 39, 3) := by decide +kernel
theorem dX6_init_59 : decode cX6_init 59 = .ok (.aload_n 0, 1) := by decide +kernel
theorem dX6_init_60 : decode cX6_init 60 = .ok (.aload_n 0, 1) := by decide +kernel
theorem dX6_init_61 : decode cX6_init 61 = .ok (.getfield 39, 3) := by decide +kernel
theorem dX6_init_64 : decode cX6_init 64 = .ok (.getfield 43, 3) := by decide +kernel
theorem dX6_init_67 : decode cX6_init 67 = .ok (.putfield 46, 3) := by decide +kernel
theorem dX6_init_70 : decode cX6_init 70 = .ok (.return_, 1) := by decide +kernel
set_option maxRecDepth 20000 in
theorem ggX6_op_X0_begin : GoodIn wsX6_op wsX0_begin := goodIn_r _ [6, 7, 8, 9, 10, 11, 12, 5, 13, 14, 15, 22, 23, 24, 25, 26, 27, 28] rfl (by decide +kernel)
set_option maxRecDepth 20000 in
theorem gX6_op_X0_begin : GoodIn wsX6_op (wsV RX6 49 RX0 yX0_begin wsX0_begin) := goodIn_app (goodIn_of _ (by decide +kernel)) ggX6_op_X0_begin
theorem dX6_op_0 : decode cX6_op 0 = .ok (.aload_n 0, 1) := by decide +kernel
theorem dX6_op_1 : decode cX6_op 1 = .ok (.getfield 20, 3) := by decide +kernel
theorem dX6_op_4 : decode cX6_op 4 = .ok (.iload_n 1, 1) := by decide +kernel
theorem dX6_op_5 : decode cX6_op 5 = .ok (.iload_n 2, 1) := by decide +kernel
theorem dX6_op_6 : decode cX6_op 6 = .ok (.iload_n 3, 1) := by decide +kernel
theorem dX6_op_7 : decode cX6_op 7 = .ok (.invokevirtual 49, 3) := by decide +kernel
theorem dX6_op_10 : decode cX6_op 10 = .ok (.return_, 1) := by decide +kernel
set_option maxRecDepth 20000 in
theorem ggX6_operand_X0_setOperand : GoodIn wsX6_operand wsX0_setOperand := goodIn_r _ [6, 7, 8, 15, 16, 17, 18, 19, 20, 21] rfl (by decide +kernel)
set_option maxRecDepth 20000 in
theorem gX6_operand_X0_setOperand : GoodIn wsX6_operand (wsV RX6 55 RX0 yX0_setOperand wsX0_setOperand) := goodIn_app (goodIn_of _ (by decide +kernel)) ggX6_operand_X0_setOperand
theorem dX6_operand_0 : decode cX6_operand 0 = .ok (.iload_n 1, 1) := by decide +kernel
theorem dX6_operand_1 : decode cX6_operand 1 = .ok (.ifCond .lt 17, 3) := by decide +kernel
theorem dX6_operand_4 : decode cX6_operand 4 = .ok (.iload_n 1, 1) := by decide +kernel
theorem dX6_operand_5 : decode cX6_operand 5 = .ok (.iconst 3, 1) := by decide +kernel
theorem dX6_operand_6 : decode cX6_operand 6 = .ok (.if_icmp .ge 12, 3) := by decide +kernel
theorem dX6_operand_9 : decode cX6_operand 9 = .ok (.iload_n 2, 1) := by decide +kernel
theorem dX6_operand_10 : decode cX6_operand 10 = .ok (.ifCond .lt 8, 3) := by decide +kernel
theorem dX6_operand_13 : decode cX6_operand 13 = .ok (.iload_n 2, 1) := by decide +kernel
theorem dX6_operand_14 : decode cX6_operand 14 = .ok (.iconst 3, 1) := by decide +kernel
theorem dX6_operand_15 : decode cX6_operand 15 = .ok (.if_icmp .le 5, 3) := by decide +kernel
theorem dX6_operand_18 : decode cX6_operand 18 = .ok (.iconst 0, 1) := by decide +kernel
theorem dX6_operand_19 : decode cX6_operand 19 = .ok (.ireturn, 1) := by decide +kernel
theorem dX6_operand_20 : decode cX6_operand 20 = .ok (.iload_n 2, 1) := by decide +kernel
theorem dX6_operand_21 : decode cX6_operand 21 = .ok (.iconst 1, 1) := by decide +kernel
theorem dX6_operand_22 : decode cX6_operand 22 = .ok (.if_icmp .ne 8, 3) := by decide +kernel
theorem dX6_operand_25 : decode cX6_operand 25 = .ok (.bipush 15, 2) := by decide +kernel
theorem dX6_operand_27 : decode cX6_operand 27 = .ok (.goto 4, 3) := by decide +kernel
theorem dX6_operand_30 : decode cX6_operand 30 = .ok (.iconst 0, 1) := by decide +kernel
theorem dX6_operand_31 : decode cX6_operand 31 = .ok (.istore 4, 2) := by decide +kernel
theorem dX6_operand_33 : decode cX6_operand 33 = .ok (.iload_n 3, 1) := by decide +kernel
theorem dX6_operand_34 : decode cX6_operand 34 = .ok (.ifCond .lt 9, 3) := by decide +kernel
theorem dX6_operand_37 : decode cX6_operand 37 = .ok (.iload_n 3, 1) := by decide +kernel
theorem dX6_operand_38 : decode cX6_operand 38 = .ok (.iload 4, 2) := by decide +kernel
theorem dX6_operand_40 : decode cX6_operand 40 = .ok (.if_icmp .le 5, 3) := by decide +kernel
theorem dX6_operand_43 : decode cX6_operand 43 = .ok (.iconst 0, 1) := by decide +kernel
theorem dX6_operand_44 : decode cX6_operand 44 = .ok (.ireturn, 1) := by decide +kernel
theorem dX6_operand_45 : decode cX6_operand 45 = .ok (.aload_n 0, 1) := by decide +kernel
theorem dX6_operand_46 : decode cX6_operand 46 = .ok (.getfield 20, 3) := by decide +kernel
theorem dX6_operand_49 : decode cX6_operand 49 = .ok (.iload_n 1, 1) := by decide +kernel
theorem dX6_operand_50 : decode cX6_operand 50 = .ok (.iload_n 2, 1) := by decide +kernel
theorem dX6_operand_51 : decode cX6_operand 51 = .ok (.iload_n 3, 1) := by decide +kernel
theorem dX6_operand_52 : decode cX6_operand 52 = .ok (.invokevirtual 55, 3) := by decide +kernel
theorem dX6_operand_55 : decode cX6_operand 55 = .ok (.iconst 1, 1) := by decide +kernel
theorem dX6_operand_56 : decode cX6_operand 56 = .ok (.ireturn, 1) := by decide +kernel
set_option maxRecDepth 20000 in
theorem ggX6_memory_X1_become : GoodIn wsX6_memory wsX1_become := goodIn_r _ [6, 7, 8, 9, 10, 24, 25, 26, 27] rfl (by decide +kernel)
set_option maxRecDepth 20000 in
theorem gX6_memory_X1_become : GoodIn wsX6_memory (wsV RX6 62 RX1 yX1_become wsX1_become) := goodIn_app (goodIn_of _ (by decide +kernel)) ggX6_memory_X1_become
theorem dX6_memory_0 : decode cX6_memory 0 = .ok (.aload_n 0, 1) := by decide +kernel
theorem dX6_memory_1 : decode cX6_memory 1 = .ok (.getfield 20, 3) := by decide +kernel
theorem dX6_memory_4 : decode cX6_memory 4 = .ok (.getfield 58, 3) := by decide +kernel
theorem dX6_memory_7 : decode cX6_memory 7 = .ok (.iload_n 1, 1) := by decide +kernel
theorem dX6_memory_8 : decode cX6_memory 8 = .ok (.iload_n 2, 1) := by decide +kernel
theorem dX6_memory_9 : decode cX6_memory 9 = .ok (.iload_n 3, 1) := by decide +kernel
theorem dX6_memory_10 : decode cX6_memory 10 = .ok (.iload 4, 2) := by decide +kernel
theorem dX6_memory_12 : decode cX6_memory 12 = .ok (.invokevirtual 62, 3) := by decide +kernel
theorem dX6_memory_15 : decode cX6_memory 15 = .ok (.return_, 1) := by decide +kernel
theorem dX6_number_0 : decode cX6_number 0 = .ok (.aload_n 0, 1) := by decide +kernel
theorem dX6_number_1 : decode cX6_number 1 = .ok (.getfield 20, 3) := by decide +kernel
theorem dX6_number_4 : decode cX6_number 4 = .ok (.lload_n 1, 1) := by decide +kernel
theorem dX6_number_5 : decode cX6_number 5 = .ok (.putfield 68, 3) := by decide +kernel
theorem dX6_number_8 : decode cX6_number 8 = .ok (.return_, 1) := by decide +kernel
theorem dX6_encode_0 : decode cX6_encode 0 = .ok (.iconst 0, 1) := by decide +kernel
theorem dX6_encode_1 : decode cX6_encode 1 = .ok (.istore_n 1, 1) := by decide +kernel
theorem dX6_encode_2 : decode cX6_encode 2 = .ok (.invokestatic 72, 3) := by decide +kernel
theorem dX6_encode_5 : decode cX6_encode 5 = .ok (.istore_n 2, 1) := by decide +kernel
theorem dX6_encode_6 : decode cX6_encode 6 = .ok (.iconst 0, 1) := by decide +kernel
theorem dX6_encode_7 : decode cX6_encode 7 = .ok (.istore_n 3, 1) := by decide +kernel
theorem dX6_encode_8 : decode cX6_encode 8 = .ok (.iload_n 3, 1) := by decide +kernel
theorem dX6_encode_9 : decode cX6_encode 9 = .ok (.iload_n 2, 1) := by decide +kernel
theorem dX6_encode_10 : decode cX6_encode 10 = .ok (.if_icmp .ge 62, 3) := by decide +kernel
theorem dX6_encode_13 : decode cX6_encode 13 = .ok (.aload_n 0, 1) := by decide +kernel
theorem dX6_encode_14 : decode cX6_encode 14 = .ok (.getfield 10, 3) := by decide +kernel
theorem dX6_encode_17 : decode cX6_encode 17 = .ok (.iload_n 3, 1) := by decide +kernel
theorem dX6_encode_18 : decode cX6_encode 18 = .ok (.invokevirtual 78, 3) := by decide +kernel
theorem dX6_encode_21 : decode cX6_encode 21 = .ok (.ifCond .eq 45, 3) := by decide +kernel
theorem dX6_encode_24 : decode cX6_encode 24 = .ok (.aload_n 0, 1) := by decide +kernel
theorem dX6_encode_25 : decode cX6_encode 25 = .ok (.getfield 10, 3) := by decide +kernel
theorem dX6_encode_28 : decode cX6_encode 28 = .ok (.iload_n 3, 1) := by decide +kernel
theorem dX6_encode_29 : decode cX6_encode 29 = .ok (.invokevirtual 82, 3) := by decide +kernel
theorem dX6_encode_32 : decode cX6_encode 32 = .ok (.iload_n 1, 1) := by decide +kernel
theorem dX6_encode_33 : decode cX6_encode 33 = .ok (.ifCond .eq 20, 3) := by decide +kernel
theorem dX6_encode_36 : decode cX6_encode 36 = .ok (.aload_n 0, 1) := by decide +kernel
theorem dX6_encode_37 : decode cX6_encode 37 = .ok (.getfield 27, 3) := by decide +kernel
theorem dX6_encode_40 : decode cX6_encode 40 = .ok (.getfield 86, 3) := by decide +kernel
theorem dX6_encode_43 : decode cX6_encode 43 = .ok (.aload_n 0, 1) := by decide +kernel
theorem dX6_encode_44 : decode cX6_encode 44 = .ok (.getfield 33, 3) := by decide +kernel
theorem dX6_encode_47 : decode cX6_encode 47 = .ok (.getfield 86, 3) := by decide +kernel
theorem dX6_encode_50 : decode cX6_encode 50 = .ok (.if_icmp .ge 14, 3) := by decide +kernel
theorem dX6_encode_53 : decode cX6_encode 53 = .ok (.aload_n 0, 1) := by decide +kernel
theorem dX6_encode_54 : decode cX6_encode 54 = .ok (.getfield 33, 3) := by decide +kernel
theorem dX6_encode_57 : decode cX6_encode 57 = .ok (.aload_n 0, 1) := by decide +kernel
theorem dX6_encode_58 : decode cX6_encode 58 = .ok (.getfield 27, 3) := by decide +kernel
theorem dX6_encode_61 : decode cX6_encode 61 = .ok (.invokevirtual 90, 3) := by decide +kernel
theorem dX6_encode_64 : decode cX6_encode 64 = .ok (.iconst 1, 1) := by decide +kernel
theorem dX6_encode_65 : decode cX6_encode 65 = .ok (.istore_n 1, 1) := by decide +kernel
theorem dX6_encode_66 : decode cX6_encode 66 = .ok (.iinc 3 1, 3) := by decide +kernel
theorem dX6_encode_69 : decode cX6_encode 69 = .ok (.goto (-61), 3) := by decide +kernel
theorem dX6_encode_72 : decode cX6_encode 72 = .ok (.iload_n 1, 1) := by decide +kernel
theorem dX6_encode_73 : decode cX6_encode 73 = .ok (.ifCond .ne 13, 3) := by decide +kernel
theorem dX6_encode_76 : decode cX6_encode 76 = .ok (.new 94, 3) := by decide +kernel
theorem dX6_encode_79 : decode cX6_encode 79 = .ok (.dup, 1) := by decide +kernel
theorem dX6_encode_80 : decode cX6_encode 80 = .ok (.ldc 96, 2) := by decide +kernel
theorem dX6_encode_82 : decode cX6_encode 82 = .ok (.invokespecial 98, 3) := by decide +kernel
theorem dX6_encode_85 : decode cX6_encode 85 = .ok (.athrow, 1) := by decide +kernel
theorem dX6_encode_86 : decode cX6_encode 86 = .ok (.aload_n 0, 1) := by decide +kernel
theorem dX6_encode_87 : decode cX6_encode 87 = .ok (.getfield 33, 3) := by decide +kernel
theorem dX6_encode_90 : decode cX6_encode 90 = .ok (.getfield 86, 3) := by decide +kernel
theorem dX6_encode_93 : decode cX6_encode 93 = .ok (.ireturn, 1) := by decide +kernel
set_option maxRecDepth 20000 in
theorem ggX6_octet_X2_at : GoodIn wsX6_octet wsX2_at := goodIn_r _ [6, 7, 8, 15, 16] rfl (by decide +kernel)
set_option maxRecDepth 20000 in
theorem gX6_octet_X2_at : GoodIn wsX6_octet (wsV RX6 101 RX2 yX2_at wsX2_at) := goodIn_app (goodIn_of _ (by decide +kernel)) ggX6_octet_X2_at
theorem dX6_octet_0 : decode cX6_octet 0 = .ok (.aload_n 0, 1) := by decide +kernel
theorem dX6_octet_1 : decode cX6_octet 1 = .ok (.getfield 33, 3) := by decide +kernel
theorem dX6_octet_4 : decode cX6_octet 4 = .ok (.iload_n 1, 1) := by decide +kernel
theorem dX6_octet_5 : decode cX6_octet 5 = .ok (.invokevirtual 101, 3) := by decide +kernel
theorem dX6_octet_8 : decode cX6_octet 8 = .ok (.ireturn, 1) := by decide +kernel
set_option maxRecDepth 20000 in
theorem ggX6_feed_X2_room : GoodIn wsX6_feed wsX2_room := goodIn_r _ [6, 7, 19, 20] rfl (by decide +kernel)
set_option maxRecDepth 20000 in
theorem gX6_feed_X2_room : GoodIn wsX6_feed (wsV RX6 105 RX2 yX2_room wsX2_room) := goodIn_app (goodIn_of _ (by decide +kernel)) ggX6_feed_X2_room
set_option maxRecDepth 20000 in
theorem ggX6_feed_X2_append : GoodIn wsX6_feed wsX2_append := goodIn_r _ [11, 7, 12, 19, 20] rfl (by decide +kernel)
set_option maxRecDepth 20000 in
theorem gX6_feed_X2_append : GoodIn wsX6_feed (wsV RX6 108 RX2 yX2_append wsX2_append) := goodIn_app (goodIn_of _ (by decide +kernel)) ggX6_feed_X2_append
theorem dX6_feed_0 : decode cX6_feed 0 = .ok (.iload_n 3, 1) := by decide +kernel
theorem dX6_feed_1 : decode cX6_feed 1 = .ok (.iconst 1, 1) := by decide +kernel
theorem dX6_feed_2 : decode cX6_feed 2 = .ok (.if_icmp .lt 20, 3) := by decide +kernel
theorem dX6_feed_5 : decode cX6_feed 5 = .ok (.iload_n 3, 1) := by decide +kernel
theorem dX6_feed_6 : decode cX6_feed 6 = .ok (.bipush 8, 2) := by decide +kernel
theorem dX6_feed_8 : decode cX6_feed 8 = .ok (.if_icmp .gt 14, 3) := by decide +kernel
theorem dX6_feed_11 : decode cX6_feed 11 = .ok (.iload_n 3, 1) := by decide +kernel
theorem dX6_feed_12 : decode cX6_feed 12 = .ok (.aload_n 0, 1) := by decide +kernel
theorem dX6_feed_13 : decode cX6_feed 13 = .ok (.getfield 46, 3) := by decide +kernel
theorem dX6_feed_16 : decode cX6_feed 16 = .ok (.invokevirtual 105, 3) := by decide +kernel
theorem dX6_feed_19 : decode cX6_feed 19 = .ok (.if_icmp .le 5, 3) := by decide +kernel
theorem dX6_feed_22 : decode cX6_feed 22 = .ok (.iconst 0, 1) := by decide +kernel
theorem dX6_feed_23 : decode cX6_feed 23 = .ok (.ireturn, 1) := by decide +kernel
theorem dX6_feed_24 : decode cX6_feed 24 = .ok (.iload_n 3, 1) := by decide +kernel
theorem dX6_feed_25 : decode cX6_feed 25 = .ok (.iconst 1, 1) := by decide +kernel
theorem dX6_feed_26 : decode cX6_feed 26 = .ok (.isub, 1) := by decide +kernel
theorem dX6_feed_27 : decode cX6_feed 27 = .ok (.istore 4, 2) := by decide +kernel
theorem dX6_feed_29 : decode cX6_feed 29 = .ok (.iload 4, 2) := by decide +kernel
theorem dX6_feed_31 : decode cX6_feed 31 = .ok (.ifCond .lt 24, 3) := by decide +kernel
theorem dX6_feed_34 : decode cX6_feed 34 = .ok (.aload_n 0, 1) := by decide +kernel
theorem dX6_feed_35 : decode cX6_feed 35 = .ok (.getfield 46, 3) := by decide +kernel
theorem dX6_feed_38 : decode cX6_feed 38 = .ok (.lload_n 1, 1) := by decide +kernel
theorem dX6_feed_39 : decode cX6_feed 39 = .ok (.bipush 8, 2) := by decide +kernel
theorem dX6_feed_41 : decode cX6_feed 41 = .ok (.iload 4, 2) := by decide +kernel
theorem dX6_feed_43 : decode cX6_feed 43 = .ok (.imul, 1) := by decide +kernel
theorem dX6_feed_44 : decode cX6_feed 44 = .ok (.lushr, 1) := by decide +kernel
theorem dX6_feed_45 : decode cX6_feed 45 = .ok (.l2i, 1) := by decide +kernel
theorem dX6_feed_46 : decode cX6_feed 46 = .ok (.invokevirtual 108, 3) := by decide +kernel
theorem dX6_feed_49 : decode cX6_feed 49 = .ok (.iinc 4 (-1), 3) := by decide +kernel
theorem dX6_feed_52 : decode cX6_feed 52 = .ok (.goto (-23), 3) := by decide +kernel
theorem dX6_feed_55 : decode cX6_feed 55 = .ok (.iconst 1, 1) := by decide +kernel
theorem dX6_feed_56 : decode cX6_feed 56 = .ok (.ireturn, 1) := by decide +kernel
theorem dX6_decode_0 : decode cX6_decode 0 = .ok (.aload_n 0, 1) := by decide +kernel
theorem dX6_decode_1 : decode cX6_decode 1 = .ok (.getfield 39, 3) := by decide +kernel
theorem dX6_decode_4 : decode cX6_decode 4 = .ok (.invokevirtual 111, 3) := by decide +kernel
theorem dX6_decode_7 : decode cX6_decode 7 = .ok (.istore_n 1, 1) := by decide +kernel
theorem dX6_decode_8 : decode cX6_decode 8 = .ok (.aload_n 0, 1) := by decide +kernel
theorem dX6_decode_9 : decode cX6_decode 9 = .ok (.getfield 46, 3) := by decide +kernel
theorem dX6_decode_12 : decode cX6_decode 12 = .ok (.invokevirtual 114, 3) := by decide +kernel
theorem dX6_decode_15 : decode cX6_decode 15 = .ok (.iload_n 1, 1) := by decide +kernel
theorem dX6_decode_16 : decode cX6_decode 16 = .ok (.ifCond .ne 13, 3) := by decide +kernel
theorem dX6_decode_19 : decode cX6_decode 19 = .ok (.new 94, 3) := by decide +kernel
theorem dX6_decode_22 : decode cX6_decode 22 = .ok (.dup, 1) := by decide +kernel
theorem dX6_decode_23 : decode cX6_decode 23 = .ok (.ldc 117, 2) := by decide +kernel
theorem dX6_decode_25 : decode cX6_decode 25 = .ok (.invokespecial 98, 3) := by decide +kernel
theorem dX6_decode_28 : decode cX6_decode 28 = .ok (.athrow, 1) := by decide +kernel
theorem dX6_decode_29 : decode cX6_decode 29 = .ok (.aload_n 0, 1) := by decide +kernel
theorem dX6_decode_30 : decode cX6_decode 30 = .ok (.getfield 20, 3) := by decide +kernel
theorem dX6_decode_33 : decode cX6_decode 33 = .ok (.aload_n 0, 1) := by decide +kernel
theorem dX6_decode_34 : decode cX6_decode 34 = .ok (.getfield 39, 3) := by decide +kernel
theorem dX6_decode_37 : decode cX6_decode 37 = .ok (.getfield 119, 3) := by decide +kernel
theorem dX6_decode_40 : decode cX6_decode 40 = .ok (.invokevirtual 122, 3) := by decide +kernel
theorem dX6_decode_43 : decode cX6_decode 43 = .ok (.iload_n 1, 1) := by decide +kernel
theorem dX6_decode_44 : decode cX6_decode 44 = .ok (.ireturn, 1) := by decide +kernel
set_option maxRecDepth 20000 in
theorem ggX6_field_X0_kindOf : GoodIn wsX6_field wsX0_kindOf := goodIn_r _ [6, 7, 19, 20, 21, 22, 23, 24, 25] rfl (by decide +kernel)
set_option maxRecDepth 20000 in
theorem gX6_field_X0_kindOf : GoodIn wsX6_field (wsV RX6 134 RX0 yX0_kindOf wsX0_kindOf) := goodIn_app (goodIn_of _ (by decide +kernel)) ggX6_field_X0_kindOf
set_option maxRecDepth 20000 in
theorem ggX6_field_X0_registerOf : GoodIn wsX6_field wsX0_registerOf := goodIn_r _ [11, 12, 19, 20, 21, 22, 23, 24, 25] rfl (by decide +kernel)
set_option maxRecDepth 20000 in
theorem gX6_field_X0_registerOf : GoodIn wsX6_field (wsV RX6 137 RX0 yX0_registerOf wsX0_registerOf) := goodIn_app (goodIn_of _ (by decide +kernel)) ggX6_field_X0_registerOf
theorem dX6_field_0 : decode cX6_field 0 = .ok (.iload_n 1, 1) := by decide +kernel
theorem dX6_field_1 : decode cX6_field 1 = .ok (.tableswitch 161 0 12 #[67, 75, 83, 91, 104, 91, 104, 91, 104, 117, 128, 139, 150], 67) := by decide +kernel
theorem dX6_field_68 : decode cX6_field 68 = .ok (.aload_n 0, 1) := by decide +kernel
theorem dX6_field_69 : decode cX6_field 69 = .ok (.getfield 20, 3) := by decide +kernel
theorem dX6_field_72 : decode cX6_field 72 = .ok (.getfield 125, 3) := by decide +kernel
theorem dX6_field_75 : decode cX6_field 75 = .ok (.ireturn, 1) := by decide +kernel
theorem dX6_field_76 : decode cX6_field 76 = .ok (.aload_n 0, 1) := by decide +kernel
theorem dX6_field_77 : decode cX6_field 77 = .ok (.getfield 20, 3) := by decide +kernel
theorem dX6_field_80 : decode cX6_field 80 = .ok (.getfield 128, 3) := by decide +kernel
theorem dX6_field_83 : decode cX6_field 83 = .ok (.ireturn, 1) := by decide +kernel
theorem dX6_field_84 : decode cX6_field 84 = .ok (.aload_n 0, 1) := by decide +kernel
theorem dX6_field_85 : decode cX6_field 85 = .ok (.getfield 20, 3) := by decide +kernel
theorem dX6_field_88 : decode cX6_field 88 = .ok (.getfield 131, 3) := by decide +kernel
theorem dX6_field_91 : decode cX6_field 91 = .ok (.ireturn, 1) := by decide +kernel
theorem dX6_field_92 : decode cX6_field 92 = .ok (.aload_n 0, 1) := by decide +kernel
theorem dX6_field_93 : decode cX6_field 93 = .ok (.getfield 20, 3) := by decide +kernel
theorem dX6_field_96 : decode cX6_field 96 = .ok (.iload_n 1, 1) := by decide +kernel
theorem dX6_field_97 : decode cX6_field 97 = .ok (.iconst 3, 1) := by decide +kernel
theorem dX6_field_98 : decode cX6_field 98 = .ok (.isub, 1) := by decide +kernel
theorem dX6_field_99 : decode cX6_field 99 = .ok (.iconst 2, 1) := by decide +kernel
theorem dX6_field_100 : decode cX6_field 100 = .ok (.idiv, 1) := by decide +kernel
theorem dX6_field_101 : decode cX6_field 101 = .ok (.invokevirtual 134, 3) := by decide +kernel
theorem dX6_field_104 : decode cX6_field 104 = .ok (.ireturn, 1) := by decide +kernel
theorem dX6_field_105 : decode cX6_field 105 = .ok (.aload_n 0, 1) := by decide +kernel
theorem dX6_field_106 : decode cX6_field 106 = .ok (.getfield 20, 3) := by decide +kernel
theorem dX6_field_109 : decode cX6_field 109 = .ok (.iload_n 1, 1) := by decide +kernel
theorem dX6_field_110 : decode cX6_field 110 = .ok (.iconst 4, 1) := by decide +kernel
theorem dX6_field_111 : decode cX6_field 111 = .ok (.isub, 1) := by decide +kernel
theorem dX6_field_112 : decode cX6_field 112 = .ok (.iconst 2, 1) := by decide +kernel
theorem dX6_field_113 : decode cX6_field 113 = .ok (.idiv, 1) := by decide +kernel
theorem dX6_field_114 : decode cX6_field 114 = .ok (.invokevirtual 137, 3) := by decide +kernel
theorem dX6_field_117 : decode cX6_field 117 = .ok (.ireturn, 1) := by decide +kernel
theorem dX6_field_118 : decode cX6_field 118 = .ok (.aload_n 0, 1) := by decide +kernel
theorem dX6_field_119 : decode cX6_field 119 = .ok (.getfield 20, 3) := by decide +kernel
theorem dX6_field_122 : decode cX6_field 122 = .ok (.getfield 58, 3) := by decide +kernel
theorem dX6_field_125 : decode cX6_field 125 = .ok (.getfield 140, 3) := by decide +kernel
theorem dX6_field_128 : decode cX6_field 128 = .ok (.ireturn, 1) := by decide +kernel
theorem dX6_field_129 : decode cX6_field 129 = .ok (.aload_n 0, 1) := by decide +kernel
theorem dX6_field_130 : decode cX6_field 130 = .ok (.getfield 20, 3) := by decide +kernel
theorem dX6_field_133 : decode cX6_field 133 = .ok (.getfield 58, 3) := by decide +kernel
theorem dX6_field_136 : decode cX6_field 136 = .ok (.getfield 143, 3) := by decide +kernel
theorem dX6_field_139 : decode cX6_field 139 = .ok (.ireturn, 1) := by decide +kernel
theorem dX6_field_140 : decode cX6_field 140 = .ok (.aload_n 0, 1) := by decide +kernel
theorem dX6_field_141 : decode cX6_field 141 = .ok (.getfield 20, 3) := by decide +kernel
theorem dX6_field_144 : decode cX6_field 144 = .ok (.getfield 58, 3) := by decide +kernel
theorem dX6_field_147 : decode cX6_field 147 = .ok (.getfield 146, 3) := by decide +kernel
theorem dX6_field_150 : decode cX6_field 150 = .ok (.ireturn, 1) := by decide +kernel
theorem dX6_field_151 : decode cX6_field 151 = .ok (.aload_n 0, 1) := by decide +kernel
theorem dX6_field_152 : decode cX6_field 152 = .ok (.getfield 20, 3) := by decide +kernel
theorem dX6_field_155 : decode cX6_field 155 = .ok (.getfield 58, 3) := by decide +kernel
theorem dX6_field_158 : decode cX6_field 158 = .ok (.getfield 149, 3) := by decide +kernel
theorem dX6_field_161 : decode cX6_field 161 = .ok (.ireturn, 1) := by decide +kernel
theorem dX6_field_162 : decode cX6_field 162 = .ok (.iconst 0, 1) := by decide +kernel
theorem dX6_field_163 : decode cX6_field 163 = .ok (.ireturn, 1) := by decide +kernel
theorem dX6_value_0 : decode cX6_value 0 = .ok (.aload_n 0, 1) := by decide +kernel
theorem dX6_value_1 : decode cX6_value 1 = .ok (.getfield 20, 3) := by decide +kernel
theorem dX6_value_4 : decode cX6_value 4 = .ok (.getfield 68, 3) := by decide +kernel
theorem dX6_value_7 : decode cX6_value 7 = .ok (.lreturn, 1) := by decide +kernel
