theorem dX2_init_0 : decode cX2_init 0 = .ok (.aload_n 0, 1) := by decide +kernel
theorem dX2_init_1 : decode cX2_init 1 = .ok (.invokespecial 1, 3) := by decide +kernel
theorem dX2_init_4 : decode cX2_init 4 = .ok (.aload_n 0, 1) := by decide +kernel
theorem dX2_init_5 : decode cX2_init 5 = .ok (.bipush 16, 2) := by decide +kernel
theorem dX2_init_7 : decode cX2_init 7 = .ok (.newarray .int, 2) := by decide +kernel
theorem dX2_init_9 : decode cX2_init 9 = .ok (.putfield 9, 3) := by decide +kernel
theorem dX2_init_12 : decode cX2_init 12 = .ok (.return_, 1) := by decide +kernel
theorem dX2_clear_0 : decode cX2_clear 0 = .ok (.aload_n 0, 1) := by decide +kernel
theorem dX2_clear_1 : decode cX2_clear 1 = .ok (.iconst 0, 1) := by decide +kernel
theorem dX2_clear_2 : decode cX2_clear 2 = .ok (.putfield 13, 3) := by decide +kernel
theorem dX2_clear_5 : decode cX2_clear 5 = .ok (.return_, 1) := by decide +kernel
theorem dX2_room_0 : decode cX2_room 0 = .ok (.bipush 16, 2) := by decide +kernel
theorem dX2_room_2 : decode cX2_room 2 = .ok (.aload_n 0, 1) := by decide +kernel
theorem dX2_room_3 : decode cX2_room 3 = .ok (.getfield 13, 3) := by decide +kernel
theorem dX2_room_6 : decode cX2_room 6 = .ok (.isub, 1) := by decide +kernel
theorem dX2_room_7 : decode cX2_room 7 = .ok (.ireturn, 1) := by decide +kernel
theorem dX2_append_0 : decode cX2_append 0 = .ok (.aload_n 0, 1) := by decide +kernel
theorem dX2_append_1 : decode cX2_append 1 = .ok (.getfield 13, 3) := by decide +kernel
theorem dX2_append_4 : decode cX2_append 4 = .ok (.ifCond .lt 36, 3) := by decide +kernel
theorem dX2_append_7 : decode cX2_append 7 = .ok (.aload_n 0, 1) := by decide +kernel
theorem dX2_append_8 : decode cX2_append 8 = .ok (.getfield 13, 3) := by decide +kernel
theorem dX2_append_11 : decode cX2_append 11 = .ok (.bipush 16, 2) := by decide +kernel
theorem dX2_append_13 : decode cX2_append 13 = .ok (.if_icmp .ge 27, 3) := by decide +kernel
theorem dX2_append_16 : decode cX2_append 16 = .ok (.aload_n 0, 1) := by decide +kernel
theorem dX2_append_17 : decode cX2_append 17 = .ok (.getfield 9, 3) := by decide +kernel
theorem dX2_append_20 : decode cX2_append 20 = .ok (.aload_n 0, 1) := by decide +kernel
theorem dX2_append_21 : decode cX2_append 21 = .ok (.getfield 13, 3) := by decide +kernel
theorem dX2_append_24 : decode cX2_append 24 = .ok (.iload_n 1, 1) := by decide +kernel
theorem dX2_append_25 : decode cX2_append 25 = .ok (.sipush 255, 3) := by decide +kernel
theorem dX2_append_28 : decode cX2_append 28 = .ok (.iand, 1) := by decide +kernel
theorem dX2_append_29 : decode cX2_append 29 = .ok (.iastore, 1) := by decide +kernel
theorem dX2_append_30 : decode cX2_append 30 = .ok (.aload_n 0, 1) := by decide +kernel
theorem dX2_append_31 : decode cX2_append 31 = .ok (.dup, 1) := by decide +kernel
theorem dX2_append_32 : decode cX2_append 32 = .ok (.getfield 13, 3) := by decide +kernel
theorem dX2_append_35 : decode cX2_append 35 = .ok (.iconst 1, 1) := by decide +kernel
theorem dX2_append_36 : decode cX2_append 36 = .ok (.iadd, 1) := by decide +kernel
theorem dX2_append_37 : decode cX2_append 37 = .ok (.putfield 13, 3) := by decide +kernel
theorem dX2_append_40 : decode cX2_append 40 = .ok (.return_, 1) := by decide +kernel
set_option maxRecDepth 20000 in
theorem ggX2_appendLowestFirst_X2_append : GoodIn wsX2_appendLowestFirst wsX2_append := goodIn_r _ [5, 6, 7, 8, 9] rfl (by decide +kernel)
set_option maxRecDepth 20000 in
theorem gX2_appendLowestFirst_X2_append : GoodIn wsX2_appendLowestFirst (wsV RX2 17 RX2 yX2_append wsX2_append) := goodIn_app (goodIn_of _ (by decide +kernel)) ggX2_appendLowestFirst_X2_append
theorem dX2_appendLowestFirst_0 : decode cX2_appendLowestFirst 0 = .ok (.iconst 0, 1) := by decide +kernel
theorem dX2_appendLowestFirst_1 : decode cX2_appendLowestFirst 1 = .ok (.istore 4, 2) := by decide +kernel
theorem dX2_appendLowestFirst_3 : decode cX2_appendLowestFirst 3 = .ok (.iload 4, 2) := by decide +kernel
theorem dX2_appendLowestFirst_5 : decode cX2_appendLowestFirst 5 = .ok (.iload_n 3, 1) := by decide +kernel
theorem dX2_appendLowestFirst_6 : decode cX2_appendLowestFirst 6 = .ok (.if_icmp .ge 21, 3) := by decide +kernel
theorem dX2_appendLowestFirst_9 : decode cX2_appendLowestFirst 9 = .ok (.aload_n 0, 1) := by decide +kernel
theorem dX2_appendLowestFirst_10 : decode cX2_appendLowestFirst 10 = .ok (.lload_n 1, 1) := by decide +kernel
theorem dX2_appendLowestFirst_11 : decode cX2_appendLowestFirst 11 = .ok (.bipush 8, 2) := by decide +kernel
theorem dX2_appendLowestFirst_13 : decode cX2_appendLowestFirst 13 = .ok (.iload 4, 2) := by decide +kernel
theorem dX2_appendLowestFirst_15 : decode cX2_appendLowestFirst 15 = .ok (.imul, 1) := by decide +kernel
theorem dX2_appendLowestFirst_16 : decode cX2_appendLowestFirst 16 = .ok (.lushr, 1) := by decide +kernel
theorem dX2_appendLowestFirst_17 : decode cX2_appendLowestFirst 17 = .ok (.l2i, 1) := by decide +kernel
theorem dX2_appendLowestFirst_18 : decode cX2_appendLowestFirst 18 = .ok (.invokevirtual 17, 3) := by decide +kernel
theorem dX2_appendLowestFirst_21 : decode cX2_appendLowestFirst 21 = .ok (.iinc 4 1, 3) := by decide +kernel
theorem dX2_appendLowestFirst_24 : decode cX2_appendLowestFirst 24 = .ok (.goto (-21), 3) := by decide +kernel
theorem dX2_appendLowestFirst_27 : decode cX2_appendLowestFirst 27 = .ok (.return_, 1) := by decide +kernel
theorem dX2_at_0 : decode cX2_at 0 = .ok (.iload_n 1, 1) := by decide +kernel
theorem dX2_at_1 : decode cX2_at 1 = .ok (.ifCond .lt 26, 3) := by decide +kernel
theorem dX2_at_4 : decode cX2_at 4 = .ok (.iload_n 1, 1) := by decide +kernel
theorem dX2_at_5 : decode cX2_at 5 = .ok (.aload_n 0, 1) := by decide +kernel
theorem dX2_at_6 : decode cX2_at 6 = .ok (.getfield 13, 3) := by decide +kernel
theorem dX2_at_9 : decode cX2_at 9 = .ok (.if_icmp .ge 18, 3) := by decide +kernel
theorem dX2_at_12 : decode cX2_at 12 = .ok (.iload_n 1, 1) := by decide +kernel
theorem dX2_at_13 : decode cX2_at 13 = .ok (.bipush 16, 2) := by decide +kernel
theorem dX2_at_15 : decode cX2_at 15 = .ok (.if_icmp .ge 12, 3) := by decide +kernel
theorem dX2_at_18 : decode cX2_at 18 = .ok (.aload_n 0, 1) := by decide +kernel
theorem dX2_at_19 : decode cX2_at 19 = .ok (.getfield 9, 3) := by decide +kernel
theorem dX2_at_22 : decode cX2_at 22 = .ok (.iload_n 1, 1) := by decide +kernel
theorem dX2_at_23 : decode cX2_at 23 = .ok (.iaload, 1) := by decide +kernel
theorem dX2_at_24 : decode cX2_at 24 = .ok (.goto 4, 3) := by decide +kernel
theorem dX2_at_27 : decode cX2_at 27 = .ok (.iconst (-1), 1) := by decide +kernel
theorem dX2_at_28 : decode cX2_at 28 = .ok (.ireturn, 1) := by decide +kernel
set_option maxRecDepth 20000 in
theorem ggX2_copyFrom_X2_clear : GoodIn wsX2_copyFrom wsX2_clear := goodIn_r _ [6, 1, 16, 17] rfl (by decide +kernel)
set_option maxRecDepth 20000 in
theorem gX2_copyFrom_X2_clear : GoodIn wsX2_copyFrom (wsV RX2 21 RX2 yX2_clear wsX2_clear) := goodIn_app (goodIn_of _ (by decide +kernel)) ggX2_copyFrom_X2_clear
set_option maxRecDepth 20000 in
theorem ggX2_copyFrom_X2_at : GoodIn wsX2_copyFrom wsX2_at := goodIn_r _ [10, 1, 11, 16, 17] rfl (by decide +kernel)
set_option maxRecDepth 20000 in
theorem gX2_copyFrom_X2_at : GoodIn wsX2_copyFrom (wsV RX2 24 RX2 yX2_at wsX2_at) := goodIn_app (goodIn_of _ (by decide +kernel)) ggX2_copyFrom_X2_at
set_option maxRecDepth 20000 in
theorem ggX2_copyFrom_X2_append : GoodIn wsX2_copyFrom wsX2_append := goodIn_r _ [15, 1, 11, 16, 17] rfl (by decide +kernel)
set_option maxRecDepth 20000 in
theorem gX2_copyFrom_X2_append : GoodIn wsX2_copyFrom (wsV RX2 17 RX2 yX2_append wsX2_append) := goodIn_app (goodIn_of _ (by decide +kernel)) ggX2_copyFrom_X2_append
theorem dX2_copyFrom_0 : decode cX2_copyFrom 0 = .ok (.aload_n 0, 1) := by decide +kernel
theorem dX2_copyFrom_1 : decode cX2_copyFrom 1 = .ok (.invokevirtual 21, 3) := by decide +kernel
theorem dX2_copyFrom_4 : decode cX2_copyFrom 4 = .ok (.iconst 0, 1) := by decide +kernel
theorem dX2_copyFrom_5 : decode cX2_copyFrom 5 = .ok (.istore_n 2, 1) := by decide +kernel
theorem dX2_copyFrom_6 : decode cX2_copyFrom 6 = .ok (.iload_n 2, 1) := by decide +kernel
theorem dX2_copyFrom_7 : decode cX2_copyFrom 7 = .ok (.aload_n 1, 1) := by decide +kernel
theorem dX2_copyFrom_8 : decode cX2_copyFrom 8 = .ok (.getfield 13, 3) := by decide +kernel
theorem dX2_copyFrom_11 : decode cX2_copyFrom 11 = .ok (.if_icmp .ge 18, 3) := by decide +kernel
theorem dX2_copyFrom_14 : decode cX2_copyFrom 14 = .ok (.aload_n 0, 1) := by decide +kernel
theorem dX2_copyFrom_15 : decode cX2_copyFrom 15 = .ok (.aload_n 1, 1) := by decide +kernel
theorem dX2_copyFrom_16 : decode cX2_copyFrom 16 = .ok (.iload_n 2, 1) := by decide +kernel
theorem dX2_copyFrom_17 : decode cX2_copyFrom 17 = .ok (.invokevirtual 24, 3) := by decide +kernel
theorem dX2_copyFrom_20 : decode cX2_copyFrom 20 = .ok (.invokevirtual 17, 3) := by decide +kernel
theorem dX2_copyFrom_23 : decode cX2_copyFrom 23 = .ok (.iinc 2 1, 3) := by decide +kernel
theorem dX2_copyFrom_26 : decode cX2_copyFrom 26 = .ok (.goto (-20), 3) := by decide +kernel
theorem dX2_copyFrom_29 : decode cX2_copyFrom 29 = .ok (.return_, 1) := by decide +kernel
