theorem dX7_operand_43 : decode cX7_operand 43 = .ok (.ireturn, 1) := by decide +kernel
theorem dX7_operand_44 : decode cX7_operand 44 = .ok (.aload_n 0, 1) := by decide +kernel
theorem dX7_operand_45 : decode cX7_operand 45 = .ok (.getfield 31, 3) := by decide +kernel
theorem dX7_operand_48 : decode cX7_operand 48 = .ok (.iconst 3, 1) := by decide +kernel
theorem dX7_operand_49 : decode cX7_operand 49 = .ok (.iconst 2, 1) := by decide +kernel
theorem dX7_operand_50 : decode cX7_operand 50 = .ok (.iload_n 1, 1) := by decide +kernel
theorem dX7_operand_51 : decode cX7_operand 51 = .ok (.imul, 1) := by decide +kernel
theorem dX7_operand_52 : decode cX7_operand 52 = .ok (.iadd, 1) := by decide +kernel
theorem dX7_operand_53 : decode cX7_operand 53 = .ok (.iload_n 2, 1) := by decide +kernel
theorem dX7_operand_54 : decode cX7_operand 54 = .ok (.iastore, 1) := by decide +kernel
theorem dX7_operand_55 : decode cX7_operand 55 = .ok (.aload_n 0, 1) := by decide +kernel
theorem dX7_operand_56 : decode cX7_operand 56 = .ok (.getfield 31, 3) := by decide +kernel
theorem dX7_operand_59 : decode cX7_operand 59 = .ok (.iconst 4, 1) := by decide +kernel
theorem dX7_operand_60 : decode cX7_operand 60 = .ok (.iconst 2, 1) := by decide +kernel
theorem dX7_operand_61 : decode cX7_operand 61 = .ok (.iload_n 1, 1) := by decide +kernel
theorem dX7_operand_62 : decode cX7_operand 62 = .ok (.imul, 1) := by decide +kernel
theorem dX7_operand_63 : decode cX7_operand 63 = .ok (.iadd, 1) := by decide +kernel
theorem dX7_operand_64 : decode cX7_operand 64 = .ok (.iload_n 3, 1) := by decide +kernel
theorem dX7_operand_65 : decode cX7_operand 65 = .ok (.iastore, 1) := by decide +kernel
theorem dX7_operand_66 : decode cX7_operand 66 = .ok (.iconst 1, 1) := by decide +kernel
theorem dX7_operand_67 : decode cX7_operand 67 = .ok (.ireturn, 1) := by decide +kernel
theorem dX7_memory_0 : decode cX7_memory 0 = .ok (.aload_n 0, 1) := by decide +kernel
theorem dX7_memory_1 : decode cX7_memory 1 = .ok (.iconst 0, 1) := by decide +kernel
theorem dX7_memory_2 : decode cX7_memory 2 = .ok (.putfield 57, 3) := by decide +kernel
theorem dX7_memory_5 : decode cX7_memory 5 = .ok (.aload_n 0, 1) := by decide +kernel
theorem dX7_memory_6 : decode cX7_memory 6 = .ok (.getfield 31, 3) := by decide +kernel
theorem dX7_memory_9 : decode cX7_memory 9 = .ok (.bipush 9, 2) := by decide +kernel
theorem dX7_memory_11 : decode cX7_memory 11 = .ok (.iload_n 1, 1) := by decide +kernel
theorem dX7_memory_12 : decode cX7_memory 12 = .ok (.iastore, 1) := by decide +kernel
theorem dX7_memory_13 : decode cX7_memory 13 = .ok (.aload_n 0, 1) := by decide +kernel
theorem dX7_memory_14 : decode cX7_memory 14 = .ok (.getfield 31, 3) := by decide +kernel
theorem dX7_memory_17 : decode cX7_memory 17 = .ok (.bipush 10, 2) := by decide +kernel
theorem dX7_memory_19 : decode cX7_memory 19 = .ok (.iload_n 2, 1) := by decide +kernel
theorem dX7_memory_20 : decode cX7_memory 20 = .ok (.iastore, 1) := by decide +kernel
theorem dX7_memory_21 : decode cX7_memory 21 = .ok (.aload_n 0, 1) := by decide +kernel
theorem dX7_memory_22 : decode cX7_memory 22 = .ok (.getfield 31, 3) := by decide +kernel
theorem dX7_memory_25 : decode cX7_memory 25 = .ok (.bipush 11, 2) := by decide +kernel
theorem dX7_memory_27 : decode cX7_memory 27 = .ok (.iload_n 3, 1) := by decide +kernel
theorem dX7_memory_28 : decode cX7_memory 28 = .ok (.iastore, 1) := by decide +kernel
theorem dX7_memory_29 : decode cX7_memory 29 = .ok (.aload_n 0, 1) := by decide +kernel
theorem dX7_memory_30 : decode cX7_memory 30 = .ok (.getfield 31, 3) := by decide +kernel
theorem dX7_memory_33 : decode cX7_memory 33 = .ok (.bipush 12, 2) := by decide +kernel
theorem dX7_memory_35 : decode cX7_memory 35 = .ok (.iload 4, 2) := by decide +kernel
theorem dX7_memory_37 : decode cX7_memory 37 = .ok (.iastore, 1) := by decide +kernel
theorem dX7_memory_38 : decode cX7_memory 38 = .ok (.return_, 1) := by decide +kernel
theorem dX7_number_0 : decode cX7_number 0 = .ok (.aload_n 0, 1) := by decide +kernel
theorem dX7_number_1 : decode cX7_number 1 = .ok (.iconst 0, 1) := by decide +kernel
theorem dX7_number_2 : decode cX7_number 2 = .ok (.putfield 57, 3) := by decide +kernel
theorem dX7_number_5 : decode cX7_number 5 = .ok (.aload_n 0, 1) := by decide +kernel
theorem dX7_number_6 : decode cX7_number 6 = .ok (.lload_n 1, 1) := by decide +kernel
theorem dX7_number_7 : decode cX7_number 7 = .ok (.putfield 60, 3) := by decide +kernel
theorem dX7_number_10 : decode cX7_number 10 = .ok (.return_, 1) := by decide +kernel
theorem dX7_field_0 : decode cX7_field 0 = .ok (.aload_n 0, 1) := by decide +kernel
theorem dX7_field_1 : decode cX7_field 1 = .ok (.iconst 0, 1) := by decide +kernel
theorem dX7_field_2 : decode cX7_field 2 = .ok (.putfield 57, 3) := by decide +kernel
theorem dX7_field_5 : decode cX7_field 5 = .ok (.iload_n 1, 1) := by decide +kernel
theorem dX7_field_6 : decode cX7_field 6 = .ok (.ifCond .lt 18, 3) := by decide +kernel
theorem dX7_field_9 : decode cX7_field 9 = .ok (.iload_n 1, 1) := by decide +kernel
theorem dX7_field_10 : decode cX7_field 10 = .ok (.bipush 13, 2) := by decide +kernel
theorem dX7_field_12 : decode cX7_field 12 = .ok (.if_icmp .ge 12, 3) := by decide +kernel
theorem dX7_field_15 : decode cX7_field 15 = .ok (.aload_n 0, 1) := by decide +kernel
theorem dX7_field_16 : decode cX7_field 16 = .ok (.getfield 31, 3) := by decide +kernel
theorem dX7_field_19 : decode cX7_field 19 = .ok (.iload_n 1, 1) := by decide +kernel
theorem dX7_field_20 : decode cX7_field 20 = .ok (.iaload, 1) := by decide +kernel
theorem dX7_field_21 : decode cX7_field 21 = .ok (.goto 4, 3) := by decide +kernel
theorem dX7_field_24 : decode cX7_field 24 = .ok (.iconst 0, 1) := by decide +kernel
theorem dX7_field_25 : decode cX7_field 25 = .ok (.ireturn, 1) := by decide +kernel
theorem dX7_value_0 : decode cX7_value 0 = .ok (.aload_n 0, 1) := by decide +kernel
theorem dX7_value_1 : decode cX7_value 1 = .ok (.iconst 0, 1) := by decide +kernel
theorem dX7_value_2 : decode cX7_value 2 = .ok (.putfield 57, 3) := by decide +kernel
theorem dX7_value_5 : decode cX7_value 5 = .ok (.aload_n 0, 1) := by decide +kernel
theorem dX7_value_6 : decode cX7_value 6 = .ok (.getfield 60, 3) := by decide +kernel
theorem dX7_value_9 : decode cX7_value 9 = .ok (.lreturn, 1) := by decide +kernel
theorem dX7_hasForm_0 : decode cX7_hasForm 0 = .ok (.iload_n 0, 1) := by decide +kernel
theorem dX7_hasForm_1 : decode cX7_hasForm 1 = .ok (.iconst 1, 1) := by decide +kernel
theorem dX7_hasForm_2 : decode cX7_hasForm 2 = .ok (.if_icmp .eq 43, 3) := by decide +kernel
theorem dX7_hasForm_5 : decode cX7_hasForm 5 = .ok (.iload_n 0, 1) := by decide +kernel
theorem dX7_hasForm_6 : decode cX7_hasForm 6 = .ok (.iconst 2, 1) := by decide +kernel
theorem dX7_hasForm_7 : decode cX7_hasForm 7 = .ok (.if_icmp .eq 38, 3) := by decide +kernel
theorem dX7_hasForm_10 : decode cX7_hasForm 10 = .ok (.iload_n 0, 1) := by decide +kernel
theorem dX7_hasForm_11 : decode cX7_hasForm 11 = .ok (.iconst 4, 1) := by decide +kernel
theorem dX7_hasForm_12 : decode cX7_hasForm 12 = .ok (.if_icmp .eq 33, 3) := by decide +kernel
theorem dX7_hasForm_15 : decode cX7_hasForm 15 = .ok (.iload_n 0, 1) := by decide +kernel
theorem dX7_hasForm_16 : decode cX7_hasForm 16 = .ok (.bipush 7, 2) := by decide +kernel
theorem dX7_hasForm_18 : decode cX7_hasForm 18 = .ok (.if_icmp .eq 27, 3) := by decide +kernel
theorem dX7_hasForm_21 : decode cX7_hasForm 21 = .ok (.iload_n 0, 1) := by decide +kernel
theorem dX7_hasForm_22 : decode cX7_hasForm 22 = .ok (.bipush 8, 2) := by decide +kernel
theorem dX7_hasForm_24 : decode cX7_hasForm 24 = .ok (.if_icmp .eq 21, 3) := by decide +kernel
theorem dX7_hasForm_27 : decode cX7_hasForm 27 = .ok (.iload_n 0, 1) := by decide +kernel
theorem dX7_hasForm_28 : decode cX7_hasForm 28 = .ok (.bipush 9, 2) := by decide +kernel
theorem dX7_hasForm_30 : decode cX7_hasForm 30 = .ok (.if_icmp .eq 15, 3) := by decide +kernel
theorem dX7_hasForm_33 : decode cX7_hasForm 33 = .ok (.iload_n 0, 1) := by decide +kernel
theorem dX7_hasForm_34 : decode cX7_hasForm 34 = .ok (.bipush 11, 2) := by decide +kernel
theorem dX7_hasForm_36 : decode cX7_hasForm 36 = .ok (.if_icmp .eq 9, 3) := by decide +kernel
theorem dX7_hasForm_39 : decode cX7_hasForm 39 = .ok (.iload_n 0, 1) := by decide +kernel
theorem dX7_hasForm_40 : decode cX7_hasForm 40 = .ok (.bipush 12, 2) := by decide +kernel
theorem dX7_hasForm_42 : decode cX7_hasForm 42 = .ok (.if_icmp .ne 7, 3) := by decide +kernel
theorem dX7_hasForm_45 : decode cX7_hasForm 45 = .ok (.iconst 1, 1) := by decide +kernel
theorem dX7_hasForm_46 : decode cX7_hasForm 46 = .ok (.goto 4, 3) := by decide +kernel
theorem dX7_hasForm_49 : decode cX7_hasForm 49 = .ok (.iconst 0, 1) := by decide +kernel
theorem dX7_hasForm_50 : decode cX7_hasForm 50 = .ok (.ireturn, 1) := by decide +kernel
theorem dX7_conditional_0 : decode cX7_conditional 0 = .ok (.iload_n 0, 1) := by decide +kernel
theorem dX7_conditional_1 : decode cX7_conditional 1 = .ok (.bipush 34, 2) := by decide +kernel
theorem dX7_conditional_3 : decode cX7_conditional 3 = .ok (.if_icmp .lt 13, 3) := by decide +kernel
theorem dX7_conditional_6 : decode cX7_conditional 6 = .ok (.iload_n 0, 1) := by decide +kernel
theorem dX7_conditional_7 : decode cX7_conditional 7 = .ok (.bipush 36, 2) := by decide +kernel
theorem dX7_conditional_9 : decode cX7_conditional 9 = .ok (.if_icmp .gt 7, 3) := by decide +kernel
theorem dX7_conditional_12 : decode cX7_conditional 12 = .ok (.iconst 1, 1) := by decide +kernel
theorem dX7_conditional_13 : decode cX7_conditional 13 = .ok (.goto 4, 3) := by decide +kernel
theorem dX7_conditional_16 : decode cX7_conditional 16 = .ok (.iconst 0, 1) := by decide +kernel
theorem dX7_conditional_17 : decode cX7_conditional 17 = .ok (.ireturn, 1) := by decide +kernel
theorem dX7_allows_0 : decode cX7_allows 0 = .ok (.iload_n 0, 1) := by decide +kernel
theorem dX7_allows_1 : decode cX7_allows 1 = .ok (.tableswitch 114 0 6 #[43, 65, 114, 114, 82, 92, 103], 43) := by decide +kernel
theorem dX7_allows_44 : decode cX7_allows 44 = .ok (.iload_n 1, 1) := by decide +kernel
theorem dX7_allows_45 : decode cX7_allows 45 = .ok (.iconst 1, 1) := by decide +kernel
theorem dX7_allows_46 : decode cX7_allows 46 = .ok (.if_icmp .eq 14, 3) := by decide +kernel
theorem dX7_allows_49 : decode cX7_allows 49 = .ok (.iload_n 1, 1) := by decide +kernel
theorem dX7_allows_50 : decode cX7_allows 50 = .ok (.iconst 4, 1) := by decide +kernel
theorem dX7_allows_51 : decode cX7_allows 51 = .ok (.if_icmp .eq 9, 3) := by decide +kernel
theorem dX7_allows_54 : decode cX7_allows 54 = .ok (.iload_n 1, 1) := by decide +kernel
theorem dX7_allows_55 : decode cX7_allows 55 = .ok (.bipush 8, 2) := by decide +kernel
theorem dX7_allows_57 : decode cX7_allows 57 = .ok (.if_icmp .ne 7, 3) := by decide +kernel
theorem dX7_allows_60 : decode cX7_allows 60 = .ok (.iconst 1, 1) := by decide +kernel
theorem dX7_allows_61 : decode cX7_allows 61 = .ok (.goto 4, 3) := by decide +kernel
theorem dX7_allows_64 : decode cX7_allows 64 = .ok (.iconst 0, 1) := by decide +kernel
theorem dX7_allows_65 : decode cX7_allows 65 = .ok (.ireturn, 1) := by decide +kernel
theorem dX7_allows_66 : decode cX7_allows 66 = .ok (.iload_n 1, 1) := by decide +kernel
theorem dX7_allows_67 : decode cX7_allows 67 = .ok (.iconst 4, 1) := by decide +kernel
theorem dX7_allows_68 : decode cX7_allows 68 = .ok (.if_icmp .eq 9, 3) := by decide +kernel
theorem dX7_allows_71 : decode cX7_allows 71 = .ok (.iload_n 1, 1) := by decide +kernel
theorem dX7_allows_72 : decode cX7_allows 72 = .ok (.bipush 8, 2) := by decide +kernel
theorem dX7_allows_74 : decode cX7_allows 74 = .ok (.if_icmp .ne 7, 3) := by decide +kernel
theorem dX7_allows_77 : decode cX7_allows 77 = .ok (.iconst 1, 1) := by decide +kernel
theorem dX7_allows_78 : decode cX7_allows 78 = .ok (.goto 4, 3) := by decide +kernel
theorem dX7_allows_81 : decode cX7_allows 81 = .ok (.iconst 0, 1) := by decide +kernel
theorem dX7_allows_82 : decode cX7_allows 82 = .ok (.ireturn, 1) := by decide +kernel
theorem dX7_allows_83 : decode cX7_allows 83 = .ok (.iload_n 1, 1) := by decide +kernel
theorem dX7_allows_84 : decode cX7_allows 84 = .ok (.ifCond .ne 7, 3) := by decide +kernel
theorem dX7_allows_87 : decode cX7_allows 87 = .ok (.iconst 1, 1) := by decide +kernel
theorem dX7_allows_88 : decode cX7_allows 88 = .ok (.goto 4, 3) := by decide +kernel
theorem dX7_allows_91 : decode cX7_allows 91 = .ok (.iconst 0, 1) := by decide +kernel
theorem dX7_allows_92 : decode cX7_allows 92 = .ok (.ireturn, 1) := by decide +kernel
theorem dX7_allows_93 : decode cX7_allows 93 = .ok (.iload_n 1, 1) := by decide +kernel
theorem dX7_allows_94 : decode cX7_allows 94 = .ok (.iconst 1, 1) := by decide +kernel
theorem dX7_allows_95 : decode cX7_allows 95 = .ok (.if_icmp .ne 7, 3) := by decide +kernel
theorem dX7_allows_98 : decode cX7_allows 98 = .ok (.iconst 1, 1) := by decide +kernel
theorem dX7_allows_99 : decode cX7_allows 99 = .ok (.goto 4, 3) := by decide +kernel
theorem dX7_allows_102 : decode cX7_allows 102 = .ok (.iconst 0, 1) := by decide +kernel
theorem dX7_allows_103 : decode cX7_allows 103 = .ok (.ireturn, 1) := by decide +kernel
theorem dX7_allows_104 : decode cX7_allows 104 = .ok (.iload_n 1, 1) := by decide +kernel
theorem dX7_allows_105 : decode cX7_allows 105 = .ok (.iconst 4, 1) := by decide +kernel
theorem dX7_allows_106 : decode cX7_allows 106 = .ok (.if_icmp .ne 7, 3) := by decide +kernel
theorem dX7_allows_109 : decode cX7_allows 109 = .ok (.iconst 1, 1) := by decide +kernel
theorem dX7_allows_110 : decode cX7_allows 110 = .ok (.goto 4, 3) := by decide +kernel
theorem dX7_allows_113 : decode cX7_allows 113 = .ok (.iconst 0, 1) := by decide +kernel
theorem dX7_allows_114 : decode cX7_allows 114 = .ok (.ireturn, 1) := by decide +kernel
theorem dX7_allows_115 : decode cX7_allows 115 = .ok (.iload_n 1, 1) := by decide +kernel
theorem dX7_allows_116 : decode cX7_allows 116 = .ok (.bipush 8, 2) := by decide +kernel
theorem dX7_allows_118 : decode cX7_allows 118 = .ok (.if_icmp .ne 7, 3) := by decide +kernel
theorem dX7_allows_121 : decode cX7_allows 121 = .ok (.iconst 1, 1) := by decide +kernel
theorem dX7_allows_122 : decode cX7_allows 122 = .ok (.goto 4, 3) := by decide +kernel
theorem dX7_allows_125 : decode cX7_allows 125 = .ok (.iconst 0, 1) := by decide +kernel
theorem dX7_allows_126 : decode cX7_allows 126 = .ok (.ireturn, 1) := by decide +kernel
theorem dX7_room_0 : decode cX7_room 0 = .ok (.iload_n 0, 1) := by decide +kernel
theorem dX7_room_1 : decode cX7_room 1 = .ok (.iconst 1, 1) := by decide +kernel
theorem dX7_room_2 : decode cX7_room 2 = .ok (.if_icmp .ne 16, 3) := by decide +kernel
theorem dX7_room_5 : decode cX7_room 5 = .ok (.iload_n 1, 1) := by decide +kernel
theorem dX7_room_6 : decode cX7_room 6 = .ok (.iconst 1, 1) := by decide +kernel
theorem dX7_room_7 : decode cX7_room 7 = .ok (.if_icmp .ne 7, 3) := by decide +kernel
theorem dX7_room_10 : decode cX7_room 10 = .ok (.iconst 1, 1) := by decide +kernel
theorem dX7_room_11 : decode cX7_room 11 = .ok (.goto 51, 3) := by decide +kernel
theorem dX7_room_14 : decode cX7_room 14 = .ok (.iconst 4, 1) := by decide +kernel
theorem dX7_room_15 : decode cX7_room 15 = .ok (.goto 47, 3) := by decide +kernel
theorem dX7_room_18 : decode cX7_room 18 = .ok (.iload_n 0, 1) := by decide +kernel
theorem dX7_room_19 : decode cX7_room 19 = .ok (.iconst 2, 1) := by decide +kernel
theorem dX7_room_20 : decode cX7_room 20 = .ok (.if_icmp .eq 9, 3) := by decide +kernel
theorem dX7_room_23 : decode cX7_room 23 = .ok (.iload_n 0, 1) := by decide +kernel
theorem dX7_room_24 : decode cX7_room 24 = .ok (.bipush 6, 2) := by decide +kernel
theorem dX7_room_26 : decode cX7_room 26 = .ok (.if_icmp .ne 7, 3) := by decide +kernel
theorem dX7_room_29 : decode cX7_room 29 = .ok (.iconst 1, 1) := by decide +kernel
theorem dX7_room_30 : decode cX7_room 30 = .ok (.goto 32, 3) := by decide +kernel
theorem dX7_room_33 : decode cX7_room 33 = .ok (.iload_n 0, 1) := by decide +kernel
theorem dX7_room_34 : decode cX7_room 34 = .ok (.iconst 3, 1) := by decide +kernel
theorem dX7_room_35 : decode cX7_room 35 = .ok (.if_icmp .ne 7, 3) := by decide +kernel
theorem dX7_room_38 : decode cX7_room 38 = .ok (.iconst 4, 1) := by decide +kernel
theorem dX7_room_39 : decode cX7_room 39 = .ok (.goto 23, 3) := by decide +kernel
theorem dX7_room_42 : decode cX7_room 42 = .ok (.iload_n 0, 1) := by decide +kernel
theorem dX7_room_43 : decode cX7_room 43 = .ok (.iconst 4, 1) := by decide +kernel
theorem dX7_room_44 : decode cX7_room 44 = .ok (.if_icmp .ne 8, 3) := by decide +kernel
theorem dX7_room_47 : decode cX7_room 47 = .ok (.bipush 8, 2) := by decide +kernel
theorem dX7_room_49 : decode cX7_room 49 = .ok (.goto 13, 3) := by decide +kernel
theorem dX7_room_52 : decode cX7_room 52 = .ok (.iload_n 0, 1) := by decide +kernel
theorem dX7_room_53 : decode cX7_room 53 = .ok (.iconst 5, 1) := by decide +kernel
theorem dX7_room_54 : decode cX7_room 54 = .ok (.if_icmp .ne 7, 3) := by decide +kernel
theorem dX7_room_57 : decode cX7_room 57 = .ok (.iconst 2, 1) := by decide +kernel
theorem dX7_room_58 : decode cX7_room 58 = .ok (.goto 4, 3) := by decide +kernel
theorem dX7_room_61 : decode cX7_room 61 = .ok (.iconst 0, 1) := by decide +kernel
theorem dX7_room_62 : decode cX7_room 62 = .ok (.ireturn, 1) := by decide +kernel
set_option maxRecDepth 20000 in
theorem ggX7_holds_X7_room : GoodIn wsX7_holds wsX7_room := goodIn_r _ [5] rfl (by decide +kernel)
set_option maxRecDepth 20000 in
theorem gX7_holds_X7_room : GoodIn wsX7_holds (va_wsS RX7 64 yX7_room wsX7_room) := goodIn_app (goodIn_of _ (by decide +kernel)) ggX7_holds_X7_room
