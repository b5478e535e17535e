theorem dX0_watchOf_0 : decode cX0_watchOf 0 = .ok (.iload_n 1, 1) := by decide +kernel
theorem dX0_watchOf_1 : decode cX0_watchOf 1 = .ok (.ifCond .ne 10, 3) := by decide +kernel
theorem dX0_watchOf_4 : decode cX0_watchOf 4 = .ok (.aload_n 0, 1) := by decide +kernel
theorem dX0_watchOf_5 : decode cX0_watchOf 5 = .ok (.getfield 12, 3) := by decide +kernel
theorem dX0_watchOf_8 : decode cX0_watchOf 8 = .ok (.goto 7, 3) := by decide +kernel
theorem dX0_watchOf_11 : decode cX0_watchOf 11 = .ok (.aload_n 0, 1) := by decide +kernel
theorem dX0_watchOf_12 : decode cX0_watchOf 12 = .ok (.getfield 18, 3) := by decide +kernel
theorem dX0_watchOf_15 : decode cX0_watchOf 15 = .ok (.areturn, 1) := by decide +kernel
set_option maxRecDepth 20000 in
theorem ggX0_work_Jx4a65c_size_8abf5 : GoodIn wsX0_work wsJx4a65c_size_8abf5 := goodIn_r _ [8, 9, 92, 93, 94] (by decide +kernel) (by decide +kernel)
set_option maxRecDepth 20000 in
theorem gX0_work_Jx4a65c_size_8abf5 : GoodIn wsX0_work (wsV RX0 42 RJx4a65c yJx4a65c_size_8abf5 wsJx4a65c_size_8abf5) := goodIn_app (goodIn_of _ (by decide +kernel)) ggX0_work_Jx4a65c_size_8abf5
theorem dX0_work_0 : decode cX0_work 0 = .ok (.iconst 0, 1) := by decide +kernel
theorem dX0_work_1 : decode cX0_work 1 = .ok (.istore 4, 2) := by decide +kernel
theorem dX0_work_3 : decode cX0_work 3 = .ok (.iload 4, 2) := by decide +kernel
theorem dX0_work_5 : decode cX0_work 5 = .ok (.aload_n 0, 1) := by decide +kernel
theorem dX0_work_6 : decode cX0_work 6 = .ok (.getfield 24, 3) := by decide +kernel
theorem dX0_work_9 : decode cX0_work 9 = .ok (.invokevirtual 42, 3) := by decide +kernel
theorem dX0_work_12 : decode cX0_work 12 = .ok (.if_icmp .ge 107, 3) := by decide +kernel
theorem dX0_work_119 : decode cX0_work 119 = .ok (.return_, 1) := by decide +kernel
set_option maxRecDepth 20000 in
theorem ggX0_beginWaiting_Jx4a65c_size_8abf5 : GoodIn wsX0_beginWaiting wsJx4a65c_size_8abf5 := goodIn_r _ [10, 11, 69, 70, 71] (by decide +kernel) (by decide +kernel)
set_option maxRecDepth 20000 in
theorem gX0_beginWaiting_Jx4a65c_size_8abf5 : GoodIn wsX0_beginWaiting (wsV RX0 42 RJx4a65c yJx4a65c_size_8abf5 wsJx4a65c_size_8abf5) := goodIn_app (goodIn_of _ (by decide +kernel)) ggX0_beginWaiting_Jx4a65c_size_8abf5
theorem dX0_beginWaiting_0 : decode cX0_beginWaiting 0 = .ok (.iconst 0, 1) := by decide +kernel
theorem dX0_beginWaiting_1 : decode cX0_beginWaiting 1 = .ok (.istore_n 2, 1) := by decide +kernel
theorem dX0_beginWaiting_2 : decode cX0_beginWaiting 2 = .ok (.iload_n 2, 1) := by decide +kernel
theorem dX0_beginWaiting_3 : decode cX0_beginWaiting 3 = .ok (.aload_n 0, 1) := by decide +kernel
theorem dX0_beginWaiting_4 : decode cX0_beginWaiting 4 = .ok (.getfield 24, 3) := by decide +kernel
theorem dX0_beginWaiting_7 : decode cX0_beginWaiting 7 = .ok (.invokevirtual 42, 3) := by decide +kernel
theorem dX0_beginWaiting_10 : decode cX0_beginWaiting 10 = .ok (.if_icmp .ge 108, 3) := by decide +kernel
theorem dX0_beginWaiting_118 : decode cX0_beginWaiting 118 = .ok (.return_, 1) := by decide +kernel
set_option maxRecDepth 20000 in
theorem ggX0_changeWatch_X0_watchOf : GoodIn wsX0_changeWatch wsX0_watchOf := goodIn_r _ [7, 8, 9, 20, 21, 22, 23, 24, 25, 26] (by decide +kernel) (by decide +kernel)
set_option maxRecDepth 20000 in
theorem gX0_changeWatch_X0_watchOf : GoodIn wsX0_changeWatch (wsV RX0 52 RX0 yX0_watchOf wsX0_watchOf) := goodIn_app (goodIn_of _ (by decide +kernel)) ggX0_changeWatch_X0_watchOf
set_option maxRecDepth 20000 in
theorem ggX0_changeWatch_X10_tire : GoodIn wsX0_changeWatch wsX10_tire := goodIn_r _ [14, 15, 27, 28] (by decide +kernel) (by decide +kernel)
set_option maxRecDepth 20000 in
theorem gX0_changeWatch_X10_tire : GoodIn wsX0_changeWatch (wsV RX0 101 RX10 yX10_tire wsX10_tire) := goodIn_app (goodIn_of _ (by decide +kernel)) ggX0_changeWatch_X10_tire
set_option maxRecDepth 20000 in
theorem ggX0_changeWatch_X10_rest : GoodIn wsX0_changeWatch wsX10_rest := goodIn_r _ [19, 15, 27, 28] (by decide +kernel) (by decide +kernel)
set_option maxRecDepth 20000 in
theorem gX0_changeWatch_X10_rest : GoodIn wsX0_changeWatch (wsV RX0 104 RX10 yX10_rest wsX10_rest) := goodIn_app (goodIn_of _ (by decide +kernel)) ggX0_changeWatch_X10_rest
theorem dX0_changeWatch_0 : decode cX0_changeWatch 0 = .ok (.aload_n 0, 1) := by decide +kernel
theorem dX0_changeWatch_1 : decode cX0_changeWatch 1 = .ok (.aload_n 0, 1) := by decide +kernel
theorem dX0_changeWatch_2 : decode cX0_changeWatch 2 = .ok (.getfield 28, 3) := by decide +kernel
theorem dX0_changeWatch_5 : decode cX0_changeWatch 5 = .ok (.invokevirtual 52, 3) := by decide +kernel
theorem dX0_changeWatch_8 : decode cX0_changeWatch 8 = .ok (.invokevirtual 101, 3) := by decide +kernel
theorem dX0_changeWatch_11 : decode cX0_changeWatch 11 = .ok (.aload_n 0, 1) := by decide +kernel
theorem dX0_changeWatch_12 : decode cX0_changeWatch 12 = .ok (.getfield 32, 3) := by decide +kernel
theorem dX0_changeWatch_15 : decode cX0_changeWatch 15 = .ok (.ifCond .eq 19, 3) := by decide +kernel
theorem dX0_changeWatch_34 : decode cX0_changeWatch 34 = .ok (.aload_n 0, 1) := by decide +kernel
theorem dX0_changeWatch_35 : decode cX0_changeWatch 35 = .ok (.iconst 1, 1) := by decide +kernel
theorem dX0_changeWatch_36 : decode cX0_changeWatch 36 = .ok (.aload_n 0, 1) := by decide +kernel
theorem dX0_changeWatch_37 : decode cX0_changeWatch 37 = .ok (.getfield 28, 3) := by decide +kernel
theorem dX0_changeWatch_40 : decode cX0_changeWatch 40 = .ok (.isub, 1) := by decide +kernel
theorem dX0_changeWatch_41 : decode cX0_changeWatch 41 = .ok (.invokevirtual 52, 3) := by decide +kernel
theorem dX0_changeWatch_44 : decode cX0_changeWatch 44 = .ok (.invokevirtual 104, 3) := by decide +kernel
theorem dX0_changeWatch_47 : decode cX0_changeWatch 47 = .ok (.aload_n 0, 1) := by decide +kernel
theorem dX0_changeWatch_48 : decode cX0_changeWatch 48 = .ok (.iconst 1, 1) := by decide +kernel
theorem dX0_changeWatch_49 : decode cX0_changeWatch 49 = .ok (.aload_n 0, 1) := by decide +kernel
theorem dX0_changeWatch_50 : decode cX0_changeWatch 50 = .ok (.getfield 28, 3) := by decide +kernel
theorem dX0_changeWatch_53 : decode cX0_changeWatch 53 = .ok (.isub, 1) := by decide +kernel
theorem dX0_changeWatch_54 : decode cX0_changeWatch 54 = .ok (.putfield 28, 3) := by decide +kernel
theorem dX0_changeWatch_57 : decode cX0_changeWatch 57 = .ok (.return_, 1) := by decide +kernel
set_option maxRecDepth 20000 in
theorem ggX0_endDay_X10_sicken : GoodIn wsX0_endDay wsX10_sicken := goodIn_r _ [12, 8, 20, 21] (by decide +kernel) (by decide +kernel)
set_option maxRecDepth 20000 in
theorem gX0_endDay_X10_sicken : GoodIn wsX0_endDay (wsV RX0 110 RX10 yX10_sicken wsX10_sicken) := goodIn_app (goodIn_of _ (by decide +kernel)) ggX0_endDay_X10_sicken
theorem dX0_endDay_0 : decode cX0_endDay 0 = .ok (.iload_n 1, 1) := by decide +kernel
theorem dX0_endDay_1 : decode cX0_endDay 1 = .ok (.ifCond .eq 20, 3) := by decide +kernel
theorem dX0_endDay_21 : decode cX0_endDay 21 = .ok (.aload_n 0, 1) := by decide +kernel
theorem dX0_endDay_22 : decode cX0_endDay 22 = .ok (.getfield 12, 3) := by decide +kernel
theorem dX0_endDay_25 : decode cX0_endDay 25 = .ok (.invokevirtual 110, 3) := by decide +kernel
theorem dX0_endDay_28 : decode cX0_endDay 28 = .ok (.aload_n 0, 1) := by decide +kernel
theorem dX0_endDay_29 : decode cX0_endDay 29 = .ok (.getfield 18, 3) := by decide +kernel
theorem dX0_endDay_32 : decode cX0_endDay 32 = .ok (.invokevirtual 110, 3) := by decide +kernel
theorem dX0_endDay_35 : decode cX0_endDay 35 = .ok (.return_, 1) := by decide +kernel
theorem dX2_take_0 : decode cX2_take 0 = .ok (.iload_n 2, 1) := by decide +kernel
theorem dX2_take_1 : decode cX2_take 1 = .ok (.istore_n 3, 1) := by decide +kernel
theorem dX2_take_2 : decode cX2_take 2 = .ok (.iconst 0, 1) := by decide +kernel
theorem dX2_take_3 : decode cX2_take 3 = .ok (.istore 4, 2) := by decide +kernel
theorem dX2_take_5 : decode cX2_take 5 = .ok (.bipush 19, 2) := by decide +kernel
theorem dX2_take_7 : decode cX2_take 7 = .ok (.istore 5, 2) := by decide +kernel
theorem dX2_take_9 : decode cX2_take 9 = .ok (.iload 5, 2) := by decide +kernel
theorem dX2_take_11 : decode cX2_take 11 = .ok (.ifCond .lt 81, 3) := by decide +kernel
theorem dX2_take_14 : decode cX2_take 14 = .ok (.iload 4, 2) := by decide +kernel
theorem dX2_take_16 : decode cX2_take 16 = .ok (.iconst 3, 1) := by decide +kernel
theorem dX2_take_17 : decode cX2_take 17 = .ok (.if_icmp .ge 75, 3) := by decide +kernel
theorem dX2_take_20 : decode cX2_take 20 = .ok (.iload 5, 2) := by decide +kernel
theorem dX2_take_22 : decode cX2_take 22 = .ok (.aload_n 0, 1) := by decide +kernel
theorem dX2_take_23 : decode cX2_take 23 = .ok (.getfield 19, 3) := by decide +kernel
theorem dX2_take_26 : decode cX2_take 26 = .ok (.if_icmp .lt 6, 3) := by decide +kernel
theorem dX2_take_29 : decode cX2_take 29 = .ok (.goto 57, 3) := by decide +kernel
theorem dX2_take_86 : decode cX2_take 86 = .ok (.iinc 5 (-1), 3) := by decide +kernel
theorem dX2_take_89 : decode cX2_take 89 = .ok (.goto (-80), 3) := by decide +kernel
theorem dX2_take_92 : decode cX2_take 92 = .ok (.iload_n 3, 1) := by decide +kernel
theorem dX2_take_93 : decode cX2_take 93 = .ok (.ifCond .ne 7, 3) := by decide +kernel
theorem dX2_take_100 : decode cX2_take 100 = .ok (.iconst 0, 1) := by decide +kernel
theorem dX2_take_101 : decode cX2_take 101 = .ok (.ireturn, 1) := by decide +kernel
set_option maxRecDepth 20000 in
theorem ggX6_go_X6_northPart : GoodIn wsX6_go wsX6_northPart := goodIn_ca (goodIn_r _ [6, 7] (by decide +kernel) (by decide +kernel)) (goodIn_sub (fun _ h => List.mem_cons_of_mem _ (List.mem_append_right _ h)) (by decide +kernel))
set_option maxRecDepth 20000 in
theorem gX6_go_X6_northPart : GoodIn wsX6_go (va_wsS RX6 16 yX6_northPart wsX6_northPart) := goodIn_app (goodIn_of _ (by decide +kernel)) ggX6_go_X6_northPart
theorem dX6_go_0 : decode cX6_go 0 = .ok (.aload_n 0, 1) := by decide +kernel
theorem dX6_go_1 : decode cX6_go 1 = .ok (.dup, 1) := by decide +kernel
theorem dX6_go_2 : decode cX6_go 2 = .ok (.getfield 13, 3) := by decide +kernel
theorem dX6_go_5 : decode cX6_go 5 = .ok (.iload_n 2, 1) := by decide +kernel
theorem dX6_go_6 : decode cX6_go 6 = .ok (.i2l, 1) := by decide +kernel
theorem dX6_go_7 : decode cX6_go 7 = .ok (.iload_n 1, 1) := by decide +kernel
theorem dX6_go_8 : decode cX6_go 8 = .ok (.invokestatic 16, 3) := by decide +kernel
theorem dX6_go_11 : decode cX6_go 11 = .ok (.i2l, 1) := by decide +kernel
theorem dX6_go_12 : decode cX6_go 12 = .ok (.lmul, 1) := by decide +kernel
theorem dX6_go_13 : decode cX6_go 13 = .ok (.ladd, 1) := by decide +kernel
theorem dX6_go_14 : decode cX6_go 14 = .ok (.putfield 13, 3) := by decide +kernel
theorem dX6_go_17 : decode cX6_go 17 = .ok (.aload_n 0, 1) := by decide +kernel
theorem dX6_go_18 : decode cX6_go 18 = .ok (.dup, 1) := by decide +kernel
theorem dX6_go_19 : decode cX6_go 19 = .ok (.getfield 7, 3) := by decide +kernel
theorem dX6_go_22 : decode cX6_go 22 = .ok (.iload_n 2, 1) := by decide +kernel
theorem dX6_go_23 : decode cX6_go 23 = .ok (.i2l, 1) := by decide +kernel
theorem dX6_go_24 : decode cX6_go 24 = .ok (.iload_n 1, 1) := by decide +kernel
theorem dX6_go_25 : decode cX6_go 25 = .ok (.bipush 8, 2) := by decide +kernel
theorem dX6_go_27 : decode cX6_go 27 = .ok (.isub, 1) := by decide +kernel
theorem dX6_go_28 : decode cX6_go 28 = .ok (.invokestatic 16, 3) := by decide +kernel
theorem dX6_go_31 : decode cX6_go 31 = .ok (.i2l, 1) := by decide +kernel
theorem dX6_go_32 : decode cX6_go 32 = .ok (.lmul, 1) := by decide +kernel
theorem dX6_go_33 : decode cX6_go 33 = .ok (.ladd, 1) := by decide +kernel
theorem dX6_go_34 : decode cX6_go 34 = .ok (.putfield 7, 3) := by decide +kernel
theorem dX6_go_37 : decode cX6_go 37 = .ok (.return_, 1) := by decide +kernel
theorem dX6_northPart_0 : decode cX6_northPart 0 = .ok (.iload_n 0, 1) := by decide +kernel
theorem dX6_northPart_1 : decode cX6_northPart 1 = .ok (.bipush 31, 2) := by decide +kernel
theorem dX6_northPart_3 : decode cX6_northPart 3 = .ok (.iand, 1) := by decide +kernel
theorem dX6_northPart_4 : decode cX6_northPart 4 = .ok (.istore_n 1, 1) := by decide +kernel
theorem dX6_northPart_5 : decode cX6_northPart 5 = .ok (.iload_n 1, 1) := by decide +kernel
theorem dX6_northPart_6 : decode cX6_northPart 6 = .ok (.getstatic 20, 3) := by decide +kernel
theorem dX6_northPart_9 : decode cX6_northPart 9 = .ok (.arraylength, 1) := by decide +kernel
theorem dX6_northPart_10 : decode cX6_northPart 10 = .ok (.if_icmp .ge 11, 3) := by decide +kernel
theorem dX6_northPart_13 : decode cX6_northPart 13 = .ok (.getstatic 20, 3) := by decide +kernel
theorem dX6_northPart_16 : decode cX6_northPart 16 = .ok (.iload_n 1, 1) := by decide +kernel
theorem dX6_northPart_17 : decode cX6_northPart 17 = .ok (.iaload, 1) := by decide +kernel
theorem dX6_northPart_18 : decode cX6_northPart 18 = .ok (.goto 4, 3) := by decide +kernel
theorem dX6_northPart_22 : decode cX6_northPart 22 = .ok (.ireturn, 1) := by decide +kernel
theorem dX9_gatherWay_0 : decode cX9_gatherWay 0 = .ok (.bipush 30, 2) := by decide +kernel
theorem dX9_gatherWay_2 : decode cX9_gatherWay 2 = .ok (.aload_n 0, 1) := by decide +kernel
theorem dX9_gatherWay_3 : decode cX9_gatherWay 3 = .ok (.getfield 77, 3) := by decide +kernel
theorem dX9_gatherWay_6 : decode cX9_gatherWay 6 = .ok (.iadd, 1) := by decide +kernel
theorem dX9_gatherWay_7 : decode cX9_gatherWay 7 = .ok (.istore_n 1, 1) := by decide +kernel
theorem dX9_gatherWay_8 : decode cX9_gatherWay 8 = .ok (.iload_n 1, 1) := by decide +kernel
theorem dX9_gatherWay_9 : decode cX9_gatherWay 9 = .ok (.ifCond .le 15, 3) := by decide +kernel
theorem dX9_gatherWay_12 : decode cX9_gatherWay 12 = .ok (.aload_n 0, 1) := by decide +kernel
theorem dX9_gatherWay_13 : decode cX9_gatherWay 13 = .ok (.getfield 12, 3) := by decide +kernel
theorem dX9_gatherWay_16 : decode cX9_gatherWay 16 = .ok (.getfield 174, 3) := by decide +kernel
theorem dX9_gatherWay_19 : decode cX9_gatherWay 19 = .ok (.iload_n 1, 1) := by decide +kernel
theorem dX9_gatherWay_20 : decode cX9_gatherWay 20 = .ok (.idiv, 1) := by decide +kernel
theorem dX9_gatherWay_21 : decode cX9_gatherWay 21 = .ok (.goto 4, 3) := by decide +kernel
theorem dX9_gatherWay_24 : decode cX9_gatherWay 24 = .ok (.iconst 0, 1) := by decide +kernel
theorem dX9_gatherWay_25 : decode cX9_gatherWay 25 = .ok (.istore_n 2, 1) := by decide +kernel
theorem dX9_gatherWay_26 : decode cX9_gatherWay 26 = .ok (.iload_n 2, 1) := by decide +kernel
theorem dX9_gatherWay_27 : decode cX9_gatherWay 27 = .ok (.aload_n 0, 1) := by decide +kernel
theorem dX9_gatherWay_28 : decode cX9_gatherWay 28 = .ok (.getfield 71, 3) := by decide +kernel
theorem dX9_gatherWay_31 : decode cX9_gatherWay 31 = .ok (.iconst 2, 1) := by decide +kernel
theorem dX9_gatherWay_32 : decode cX9_gatherWay 32 = .ok (.iadd, 1) := by decide +kernel
theorem dX9_gatherWay_33 : decode cX9_gatherWay 33 = .ok (.if_icmp .le 16, 3) := by decide +kernel
theorem dX9_gatherWay_49 : decode cX9_gatherWay 49 = .ok (.iload_n 2, 1) := by decide +kernel
theorem dX9_gatherWay_50 : decode cX9_gatherWay 50 = .ok (.aload_n 0, 1) := by decide +kernel
theorem dX9_gatherWay_51 : decode cX9_gatherWay 51 = .ok (.getfield 71, 3) := by decide +kernel
theorem dX9_gatherWay_54 : decode cX9_gatherWay 54 = .ok (.iconst 2, 1) := by decide +kernel
theorem dX9_gatherWay_55 : decode cX9_gatherWay 55 = .ok (.isub, 1) := by decide +kernel
theorem dX9_gatherWay_56 : decode cX9_gatherWay 56 = .ok (.if_icmp .ge 16, 3) := by decide +kernel
theorem dX9_gatherWay_72 : decode cX9_gatherWay 72 = .ok (.aload_n 0, 1) := by decide +kernel
theorem dX9_gatherWay_73 : decode cX9_gatherWay 73 = .ok (.iload_n 2, 1) := by decide +kernel
theorem dX9_gatherWay_74 : decode cX9_gatherWay 74 = .ok (.putfield 71, 3) := by decide +kernel
theorem dX9_gatherWay_77 : decode cX9_gatherWay 77 = .ok (.return_, 1) := by decide +kernel
set_option maxRecDepth 20000 in
theorem ggX9_turn_X9_windSide : GoodIn wsX9_turn wsX9_windSide := goodIn_r _ [10, 11, 12, 13, 9, 14, 15, 5, 16, 17, 18, 19, 20, 21, 22, 23, 24, 25, 26, 27, 28, 29, 30, 31, 32] (by decide +kernel) (by decide +kernel)
set_option maxRecDepth 20000 in
theorem gX9_turn_X9_windSide : GoodIn wsX9_turn (wsV RX9 177 RX9 yX9_windSide wsX9_windSide) := goodIn_app (goodIn_of _ (by decide +kernel)) ggX9_turn_X9_windSide
theorem dX9_turn_0 : decode cX9_turn 0 = .ok (.aload_n 0, 1) := by decide +kernel
theorem dX9_turn_1 : decode cX9_turn 1 = .ok (.dup, 1) := by decide +kernel
theorem dX9_turn_2 : decode cX9_turn 2 = .ok (.getfield 74, 3) := by decide +kernel
theorem dX9_turn_5 : decode cX9_turn 5 = .ok (.aload_n 0, 1) := by decide +kernel
theorem dX9_turn_6 : decode cX9_turn 6 = .ok (.getfield 62, 3) := by decide +kernel
theorem dX9_turn_9 : decode cX9_turn 9 = .ok (.aload_n 0, 1) := by decide +kernel
theorem dX9_turn_10 : decode cX9_turn 10 = .ok (.getfield 71, 3) := by decide +kernel
theorem dX9_turn_13 : decode cX9_turn 13 = .ok (.imul, 1) := by decide +kernel
theorem dX9_turn_14 : decode cX9_turn 14 = .ok (.iconst 4, 1) := by decide +kernel
theorem dX9_turn_15 : decode cX9_turn 15 = .ok (.idiv, 1) := by decide +kernel
theorem dX9_turn_16 : decode cX9_turn 16 = .ok (.iadd, 1) := by decide +kernel
theorem dX9_turn_17 : decode cX9_turn 17 = .ok (.putfield 74, 3) := by decide +kernel
theorem dX9_turn_20 : decode cX9_turn 20 = .ok (.aload_n 0, 1) := by decide +kernel
theorem dX9_turn_21 : decode cX9_turn 21 = .ok (.dup, 1) := by decide +kernel
theorem dX9_turn_22 : decode cX9_turn 22 = .ok (.getfield 74, 3) := by decide +kernel
theorem dX9_turn_25 : decode cX9_turn 25 = .ok (.aload_n 0, 1) := by decide +kernel
theorem dX9_turn_26 : decode cX9_turn 26 = .ok (.invokevirtual 177, 3) := by decide +kernel
theorem dX9_turn_29 : decode cX9_turn 29 = .ok (.aload_n 0, 1) := by decide +kernel
theorem dX9_turn_30 : decode cX9_turn 30 = .ok (.getfield 12, 3) := by decide +kernel
theorem dX9_turn_33 : decode cX9_turn 33 = .ok (.getfield 180, 3) := by decide +kernel
theorem dX9_turn_36 : decode cX9_turn 36 = .ok (.getfield 184, 3) := by decide +kernel
theorem dX9_turn_39 : decode cX9_turn 39 = .ok (.aload_n 0, 1) := by decide +kernel
theorem dX9_turn_40 : decode cX9_turn 40 = .ok (.getfield 12, 3) := by decide +kernel
theorem dX9_turn_43 : decode cX9_turn 43 = .ok (.getfield 189, 3) := by decide +kernel
theorem dX9_turn_46 : decode cX9_turn 46 = .ok (.getfield 184, 3) := by decide +kernel
theorem dX9_turn_49 : decode cX9_turn 49 = .ok (.isub, 1) := by decide +kernel
theorem dX9_turn_50 : decode cX9_turn 50 = .ok (.bipush 50, 2) := by decide +kernel
theorem dX9_turn_52 : decode cX9_turn 52 = .ok (.idiv, 1) := by decide +kernel
theorem dX9_turn_53 : decode cX9_turn 53 = .ok (.imul, 1) := by decide +kernel
theorem dX9_turn_54 : decode cX9_turn 54 = .ok (.iadd, 1) := by decide +kernel
theorem dX9_turn_55 : decode cX9_turn 55 = .ok (.putfield 74, 3) := by decide +kernel
theorem dX9_turn_58 : decode cX9_turn 58 = .ok (.aload_n 0, 1) := by decide +kernel
theorem dX9_turn_59 : decode cX9_turn 59 = .ok (.getfield 74, 3) := by decide +kernel
theorem dX9_turn_62 : decode cX9_turn 62 = .ok (.bipush 100, 2) := by decide +kernel
theorem dX9_turn_64 : decode cX9_turn 64 = .ok (.idiv, 1) := by decide +kernel
theorem dX9_turn_65 : decode cX9_turn 65 = .ok (.istore_n 1, 1) := by decide +kernel
theorem dX9_turn_66 : decode cX9_turn 66 = .ok (.aload_n 0, 1) := by decide +kernel
theorem dX9_turn_67 : decode cX9_turn 67 = .ok (.dup, 1) := by decide +kernel
theorem dX9_turn_68 : decode cX9_turn 68 = .ok (.getfield 74, 3) := by decide +kernel
theorem dX9_turn_71 : decode cX9_turn 71 = .ok (.bipush 100, 2) := by decide +kernel
theorem dX9_turn_73 : decode cX9_turn 73 = .ok (.iload_n 1, 1) := by decide +kernel
theorem dX9_turn_74 : decode cX9_turn 74 = .ok (.imul, 1) := by decide +kernel
theorem dX9_turn_75 : decode cX9_turn 75 = .ok (.isub, 1) := by decide +kernel
theorem dX9_turn_76 : decode cX9_turn 76 = .ok (.putfield 74, 3) := by decide +kernel
theorem dX9_turn_79 : decode cX9_turn 79 = .ok (.aload_n 0, 1) := by decide +kernel
theorem dX9_turn_80 : decode cX9_turn 80 = .ok (.aload_n 0, 1) := by decide +kernel
theorem dX9_turn_81 : decode cX9_turn 81 = .ok (.getfield 68, 3) := by decide +kernel
theorem dX9_turn_84 : decode cX9_turn 84 = .ok (.iload_n 1, 1) := by decide +kernel
theorem dX9_turn_85 : decode cX9_turn 85 = .ok (.iadd, 1) := by decide +kernel
theorem dX9_turn_86 : decode cX9_turn 86 = .ok (.bipush 31, 2) := by decide +kernel
theorem dX9_turn_88 : decode cX9_turn 88 = .ok (.iand, 1) := by decide +kernel
theorem dX9_turn_89 : decode cX9_turn 89 = .ok (.putfield 68, 3) := by decide +kernel
theorem dX9_turn_92 : decode cX9_turn 92 = .ok (.iload_n 1, 1) := by decide +kernel
theorem dX9_turn_93 : decode cX9_turn 93 = .ok (.ifCond .eq 7, 3) := by decide +kernel
theorem dX9_turn_100 : decode cX9_turn 100 = .ok (.iconst 0, 1) := by decide +kernel
theorem dX9_turn_101 : decode cX9_turn 101 = .ok (.ireturn, 1) := by decide +kernel
set_option maxRecDepth 20000 in
theorem ggX9_noteSide_X9_windSide : GoodIn wsX9_noteSide wsX9_windSide := goodIn_r _ [12, 13, 14, 15, 11, 16, 17, 18, 36, 37, 38, 39, 40, 41, 42, 43, 44, 45, 46, 47, 48, 49, 50, 51, 52] (by decide +kernel) (by decide +kernel)
set_option maxRecDepth 20000 in
theorem gX9_noteSide_X9_windSide : GoodIn wsX9_noteSide (wsV RX9 177 RX9 yX9_windSide wsX9_windSide) := goodIn_app (goodIn_of _ (by decide +kernel)) ggX9_noteSide_X9_windSide
theorem dX9_noteSide_0 : decode cX9_noteSide 0 = .ok (.aload_n 0, 1) := by decide +kernel
theorem dX9_noteSide_1 : decode cX9_noteSide 1 = .ok (.invokevirtual 177, 3) := by decide +kernel
theorem dX9_noteSide_4 : decode cX9_noteSide 4 = .ok (.istore_n 1, 1) := by decide +kernel
theorem dX9_noteSide_5 : decode cX9_noteSide 5 = .ok (.iload_n 1, 1) := by decide +kernel
theorem dX9_noteSide_6 : decode cX9_noteSide 6 = .ok (.ifCond .ne 4, 3) := by decide +kernel
theorem dX9_noteSide_9 : decode cX9_noteSide 9 = .ok (.return_, 1) := by decide +kernel
set_option maxRecDepth 20000 in
theorem ggX9_go_X6_go : GoodIn wsX9_go wsX6_go := goodIn_ca (goodIn_r _ [16, 17, 18, 19, 20, 15, 21, 22, 53, 54] (by decide +kernel) (by decide +kernel)) (goodIn_sub (fun _ h => List.mem_cons_of_mem _ (List.mem_append_right _ h)) (by decide +kernel))
set_option maxRecDepth 20000 in
theorem gX9_go_X6_go : GoodIn wsX9_go (wsV RX9 202 RX6 yX6_go wsX6_go) := goodIn_app (goodIn_of _ (by decide +kernel)) ggX9_go_X6_go
set_option maxRecDepth 20000 in
theorem ggX9_go_X9_offBow : GoodIn wsX9_go wsX9_offBow := goodIn_r _ [27, 8, 2, 36, 37, 38, 39, 40, 41, 42, 43, 44, 45, 46, 47, 48, 49, 50, 51, 52] (by decide +kernel) (by decide +kernel)
set_option maxRecDepth 20000 in
theorem gX9_go_X9_offBow : GoodIn wsX9_go (wsV RX9 166 RX9 yX9_offBow wsX9_offBow) := goodIn_app (goodIn_of _ (by decide +kernel)) ggX9_go_X9_offBow
set_option maxRecDepth 20000 in
theorem ggX9_go_X7_wholeStrain : GoodIn wsX9_go wsX7_wholeStrain := goodIn_r _ [32, 33, 34, 35, 55, 56, 57, 58, 59, 60, 61, 62, 63] (by decide +kernel) (by decide +kernel)
set_option maxRecDepth 20000 in
theorem gX9_go_X7_wholeStrain : GoodIn wsX9_go (wsV RX9 204 RX7 yX7_wholeStrain wsX7_wholeStrain) := goodIn_app (goodIn_of _ (by decide +kernel)) ggX9_go_X7_wholeStrain
theorem dX9_go_0 : decode cX9_go 0 = .ok (.aload_n 0, 1) := by decide +kernel
theorem dX9_go_1 : decode cX9_go 1 = .ok (.getfield 42, 3) := by decide +kernel
theorem dX9_go_4 : decode cX9_go 4 = .ok (.aload_n 0, 1) := by decide +kernel
theorem dX9_go_5 : decode cX9_go 5 = .ok (.getfield 68, 3) := by decide +kernel
theorem dX9_go_8 : decode cX9_go 8 = .ok (.aload_n 0, 1) := by decide +kernel
theorem dX9_go_9 : decode cX9_go 9 = .ok (.getfield 71, 3) := by decide +kernel
theorem dX9_go_12 : decode cX9_go 12 = .ok (.invokevirtual 202, 3) := by decide +kernel
theorem dX9_go_15 : decode cX9_go 15 = .ok (.aload_n 0, 1) := by decide +kernel
theorem dX9_go_16 : decode cX9_go 16 = .ok (.invokevirtual 166, 3) := by decide +kernel
theorem dX9_go_19 : decode cX9_go 19 = .ok (.invokestatic 192, 3) := by decide +kernel
theorem dX9_go_22 : decode cX9_go 22 = .ok (.bipush 10, 2) := by decide +kernel
theorem dX9_go_24 : decode cX9_go 24 = .ok (.if_icmp .gt 28, 3) := by decide +kernel
theorem dX9_go_27 : decode cX9_go 27 = .ok (.aload_n 0, 1) := by decide +kernel
theorem dX9_go_28 : decode cX9_go 28 = .ok (.getfield 42, 3) := by decide +kernel
theorem dX9_go_31 : decode cX9_go 31 = .ok (.aload_n 0, 1) := by decide +kernel
theorem dX9_go_32 : decode cX9_go 32 = .ok (.getfield 49, 3) := by decide +kernel
theorem dX9_go_35 : decode cX9_go 35 = .ok (.bipush 16, 2) := by decide +kernel
theorem dX9_go_37 : decode cX9_go 37 = .ok (.iadd, 1) := by decide +kernel
theorem dX9_go_38 : decode cX9_go 38 = .ok (.aload_n 0, 1) := by decide +kernel
theorem dX9_go_39 : decode cX9_go 39 = .ok (.getfield 12, 3) := by decide +kernel
theorem dX9_go_42 : decode cX9_go 42 = .ok (.invokevirtual 204, 3) := by decide +kernel
theorem dX9_go_45 : decode cX9_go 45 = .ok (.sipush 200, 3) := by decide +kernel
theorem dX9_go_48 : decode cX9_go 48 = .ok (.idiv, 1) := by decide +kernel
theorem dX9_go_49 : decode cX9_go 49 = .ok (.invokevirtual 202, 3) := by decide +kernel
theorem dX9_go_52 : decode cX9_go 52 = .ok (.aload_n 0, 1) := by decide +kernel
theorem dX9_go_53 : decode cX9_go 53 = .ok (.getfield 42, 3) := by decide +kernel
theorem dX9_go_56 : decode cX9_go 56 = .ok (.dup, 1) := by decide +kernel
theorem dX9_go_57 : decode cX9_go 57 = .ok (.getfield 207, 3) := by decide +kernel
theorem dX9_go_60 : decode cX9_go 60 = .ok (.aload_n 0, 1) := by decide +kernel
theorem dX9_go_61 : decode cX9_go 61 = .ok (.getfield 56, 3) := by decide +kernel
theorem dX9_go_64 : decode cX9_go 64 = .ok (.i2l, 1) := by decide +kernel
theorem dX9_go_65 : decode cX9_go 65 = .ok (.ladd, 1) := by decide +kernel
theorem dX9_go_66 : decode cX9_go 66 = .ok (.putfield 207, 3) := by decide +kernel
theorem dX9_go_69 : decode cX9_go 69 = .ok (.aload_n 0, 1) := by decide +kernel
theorem dX9_go_70 : decode cX9_go 70 = .ok (.getfield 42, 3) := by decide +kernel
theorem dX9_go_73 : decode cX9_go 73 = .ok (.dup, 1) := by decide +kernel
theorem dX9_go_74 : decode cX9_go 74 = .ok (.getfield 119, 3) := by decide +kernel
theorem dX9_go_77 : decode cX9_go 77 = .ok (.aload_n 0, 1) := by decide +kernel
theorem dX9_go_78 : decode cX9_go 78 = .ok (.getfield 59, 3) := by decide +kernel
theorem dX9_go_81 : decode cX9_go 81 = .ok (.i2l, 1) := by decide +kernel
theorem dX9_go_82 : decode cX9_go 82 = .ok (.ladd, 1) := by decide +kernel
theorem dX9_go_83 : decode cX9_go 83 = .ok (.putfield 119, 3) := by decide +kernel
theorem dX9_go_86 : decode cX9_go 86 = .ok (.return_, 1) := by decide +kernel
set_option maxRecDepth 20000 in
theorem ggX9_keepTime_X6_go : GoodIn wsX9_keepTime wsX6_go := goodIn_ca (goodIn_r _ [10, 11, 12, 13, 14, 9, 15, 16, 89, 90] (by decide +kernel) (by decide +kernel)) (goodIn_sub (fun _ h => List.mem_cons_of_mem _ (List.mem_append_right _ h)) (by decide +kernel))
set_option maxRecDepth 20000 in
theorem gX9_keepTime_X6_go : GoodIn wsX9_keepTime (wsV RX9 202 RX6 yX6_go wsX6_go) := goodIn_app (goodIn_of _ (by decide +kernel)) ggX9_keepTime_X6_go
set_option maxRecDepth 20000 in
theorem ggX9_keepTime_X0_changeWatch : GoodIn wsX9_keepTime wsX0_changeWatch := goodIn_r _ [21, 22, 23, 24, 25, 26, 20, 27, 28, 29, 30, 31, 32, 33, 34, 35, 36, 37, 38, 39, 91, 92, 93, 94, 95, 96, 97, 98, 99] (by decide +kernel) (by decide +kernel)
set_option maxRecDepth 20000 in
theorem gX9_keepTime_X0_changeWatch : GoodIn wsX9_keepTime (wsV RX9 210 RX0 yX0_changeWatch wsX0_changeWatch) := goodIn_app (goodIn_of _ (by decide +kernel)) ggX9_keepTime_X0_changeWatch
set_option maxRecDepth 20000 in
theorem ggX9_keepTime_X9_endDay : GoodIn wsX9_keepTime wsX9_endDay := goodIn_ca (goodIn_r _ [44, 45, 5, 46, 47, 48, 49, 50, 51, 52, 53, 54, 55, 56, 57, 58, 59, 60, 61, 20, 62, 28, 29, 63, 64, 65, 33, 66, 67, 68, 69, 70, 71, 72, 73, 74, 75, 76, 77, 78, 79, 80, 81, 82, 83, 84, 85, 86, 87, 88, 100, 101, 102, 91, 92, 93, 94, 95, 96, 97, 98, 99] (by decide +kernel) (by decide +kernel)) (goodIn_sub (fun _ h => List.mem_cons_of_mem _ (List.mem_append_right _ h)) (by decide +kernel))
set_option maxRecDepth 20000 in
theorem gX9_keepTime_X9_endDay : GoodIn wsX9_keepTime (wsV RX9 213 RX9 yX9_endDay wsX9_endDay) := goodIn_app (goodIn_of _ (by decide +kernel)) ggX9_keepTime_X9_endDay
theorem dX9_keepTime_0 : decode cX9_keepTime 0 = .ok (.aload_n 0, 1) := by decide +kernel
theorem dX9_keepTime_1 : decode cX9_keepTime 1 = .ok (.getfield 65, 3) := by decide +kernel
theorem dX9_keepTime_4 : decode cX9_keepTime 4 = .ok (.bipush 30, 2) := by decide +kernel
theorem dX9_keepTime_6 : decode cX9_keepTime 6 = .ok (.irem, 1) := by decide +kernel
theorem dX9_keepTime_7 : decode cX9_keepTime 7 = .ok (.ifCond .ne 29, 3) := by decide +kernel
theorem dX9_keepTime_10 : decode cX9_keepTime 10 = .ok (.aload_n 0, 1) := by decide +kernel
theorem dX9_keepTime_11 : decode cX9_keepTime 11 = .ok (.getfield 71, 3) := by decide +kernel
theorem dX9_keepTime_14 : decode cX9_keepTime 14 = .ok (.bipush 10, 2) := by decide +kernel
theorem dX9_keepTime_16 : decode cX9_keepTime 16 = .ok (.idiv, 1) := by decide +kernel
theorem dX9_keepTime_17 : decode cX9_keepTime 17 = .ok (.istore_n 1, 1) := by decide +kernel
theorem dX9_keepTime_18 : decode cX9_keepTime 18 = .ok (.aload_n 0, 1) := by decide +kernel
theorem dX9_keepTime_19 : decode cX9_keepTime 19 = .ok (.getfield 46, 3) := by decide +kernel
theorem dX9_keepTime_22 : decode cX9_keepTime 22 = .ok (.aload_n 0, 1) := by decide +kernel
theorem dX9_keepTime_23 : decode cX9_keepTime 23 = .ok (.getfield 68, 3) := by decide +kernel
theorem dX9_keepTime_26 : decode cX9_keepTime 26 = .ok (.bipush 30, 2) := by decide +kernel
theorem dX9_keepTime_28 : decode cX9_keepTime 28 = .ok (.iload_n 1, 1) := by decide +kernel
theorem dX9_keepTime_29 : decode cX9_keepTime 29 = .ok (.imul, 1) := by decide +kernel
theorem dX9_keepTime_30 : decode cX9_keepTime 30 = .ok (.bipush 10, 2) := by decide +kernel
theorem dX9_keepTime_32 : decode cX9_keepTime 32 = .ok (.imul, 1) := by decide +kernel
theorem dX9_keepTime_33 : decode cX9_keepTime 33 = .ok (.invokevirtual 202, 3) := by decide +kernel
theorem dX9_keepTime_36 : decode cX9_keepTime 36 = .ok (.aload_n 0, 1) := by decide +kernel
theorem dX9_keepTime_37 : decode cX9_keepTime 37 = .ok (.getfield 65, 3) := by decide +kernel
theorem dX9_keepTime_40 : decode cX9_keepTime 40 = .ok (.sipush 240, 3) := by decide +kernel
theorem dX9_keepTime_43 : decode cX9_keepTime 43 = .ok (.irem, 1) := by decide +kernel
theorem dX9_keepTime_44 : decode cX9_keepTime 44 = .ok (.ifCond .ne 10, 3) := by decide +kernel
theorem dX9_keepTime_47 : decode cX9_keepTime 47 = .ok (.aload_n 0, 1) := by decide +kernel
theorem dX9_keepTime_48 : decode cX9_keepTime 48 = .ok (.getfield 21, 3) := by decide +kernel
theorem dX9_keepTime_51 : decode cX9_keepTime 51 = .ok (.invokevirtual 210, 3) := by decide +kernel
theorem dX9_keepTime_54 : decode cX9_keepTime 54 = .ok (.aload_n 0, 1) := by decide +kernel
theorem dX9_keepTime_55 : decode cX9_keepTime 55 = .ok (.getfield 65, 3) := by decide +kernel
theorem dX9_keepTime_58 : decode cX9_keepTime 58 = .ok (.sipush 1440, 3) := by decide +kernel
theorem dX9_keepTime_61 : decode cX9_keepTime 61 = .ok (.irem, 1) := by decide +kernel
theorem dX9_keepTime_62 : decode cX9_keepTime 62 = .ok (.ifCond .ne 7, 3) := by decide +kernel
theorem dX9_keepTime_65 : decode cX9_keepTime 65 = .ok (.aload_n 0, 1) := by decide +kernel
theorem dX9_keepTime_66 : decode cX9_keepTime 66 = .ok (.invokevirtual 213, 3) := by decide +kernel
theorem dX9_keepTime_69 : decode cX9_keepTime 69 = .ok (.return_, 1) := by decide +kernel
set_option maxRecDepth 20000 in
theorem ggX9_endDay_X2_take : GoodIn wsX9_endDay wsX2_take := goodIn_ca (goodIn_r _ [8, 9, 10, 11, 12, 13, 14, 15, 50, 51, 52] (by decide +kernel) (by decide +kernel)) (goodIn_sub (fun _ h => List.mem_cons_of_mem _ (List.mem_append_right _ h)) (by decide +kernel))
set_option maxRecDepth 20000 in
theorem gX9_endDay_X2_take : GoodIn wsX9_endDay (wsV RX9 216 RX2 yX2_take wsX2_take) := goodIn_app (goodIn_of _ (by decide +kernel)) ggX9_endDay_X2_take
set_option maxRecDepth 20000 in
theorem ggX9_endDay_X0_endDay : GoodIn wsX9_endDay wsX0_endDay := goodIn_r _ [20, 21, 22, 23, 24, 25, 26, 27, 28, 29, 30, 31, 32, 53, 54, 55, 56, 57, 58, 59, 60, 61] (by decide +kernel) (by decide +kernel)
set_option maxRecDepth 20000 in
theorem gX9_endDay_X0_endDay : GoodIn wsX9_endDay (wsV RX9 220 RX0 yX0_endDay wsX0_endDay) := goodIn_app (goodIn_of _ (by decide +kernel)) ggX9_endDay_X0_endDay
theorem dX9_endDay_0 : decode cX9_endDay 0 = .ok (.aload_n 0, 1) := by decide +kernel
theorem dX9_endDay_1 : decode cX9_endDay 1 = .ok (.getfield 28, 3) := by decide +kernel
theorem dX9_endDay_4 : decode cX9_endDay 4 = .ok (.iconst 0, 1) := by decide +kernel
theorem dX9_endDay_5 : decode cX9_endDay 5 = .ok (.bipush 24, 2) := by decide +kernel
theorem dX9_endDay_7 : decode cX9_endDay 7 = .ok (.invokevirtual 216, 3) := by decide +kernel
theorem dX9_endDay_10 : decode cX9_endDay 10 = .ok (.istore_n 1, 1) := by decide +kernel
theorem dX9_endDay_11 : decode cX9_endDay 11 = .ok (.aload_n 0, 1) := by decide +kernel
theorem dX9_endDay_12 : decode cX9_endDay 12 = .ok (.getfield 28, 3) := by decide +kernel
theorem dX9_endDay_15 : decode cX9_endDay 15 = .ok (.iconst 1, 1) := by decide +kernel
theorem dX9_endDay_16 : decode cX9_endDay 16 = .ok (.bipush 24, 2) := by decide +kernel
theorem dX9_endDay_18 : decode cX9_endDay 18 = .ok (.invokevirtual 216, 3) := by decide +kernel
theorem dX9_endDay_21 : decode cX9_endDay 21 = .ok (.istore_n 2, 1) := by decide +kernel
theorem dX9_endDay_22 : decode cX9_endDay 22 = .ok (.aload_n 0, 1) := by decide +kernel
theorem dX9_endDay_23 : decode cX9_endDay 23 = .ok (.getfield 21, 3) := by decide +kernel
theorem dX9_endDay_26 : decode cX9_endDay 26 = .ok (.iload_n 1, 1) := by decide +kernel
theorem dX9_endDay_27 : decode cX9_endDay 27 = .ok (.ifCond .eq 11, 3) := by decide +kernel
theorem dX9_endDay_38 : decode cX9_endDay 38 = .ok (.iconst 0, 1) := by decide +kernel
theorem dX9_endDay_39 : decode cX9_endDay 39 = .ok (.invokevirtual 220, 3) := by decide +kernel
theorem dX9_endDay_42 : decode cX9_endDay 42 = .ok (.aload_n 0, 1) := by decide +kernel
theorem dX9_endDay_43 : decode cX9_endDay 43 = .ok (.dup, 1) := by decide +kernel
theorem dX9_endDay_44 : decode cX9_endDay 44 = .ok (.getfield 77, 3) := by decide +kernel
theorem dX9_endDay_47 : decode cX9_endDay 47 = .ok (.iconst 1, 1) := by decide +kernel
theorem dX9_endDay_48 : decode cX9_endDay 48 = .ok (.iadd, 1) := by decide +kernel
theorem dX9_endDay_49 : decode cX9_endDay 49 = .ok (.putfield 77, 3) := by decide +kernel
theorem dX9_endDay_52 : decode cX9_endDay 52 = .ok (.return_, 1) := by decide +kernel
theorem dX10_tire_0 : decode cX10_tire 0 = .ok (.aload_n 0, 1) := by decide +kernel
theorem dX10_tire_1 : decode cX10_tire 1 = .ok (.aload_n 0, 1) := by decide +kernel
theorem dX10_tire_2 : decode cX10_tire 2 = .ok (.getfield 7, 3) := by decide +kernel
theorem dX10_tire_5 : decode cX10_tire 5 = .ok (.iconst 5, 1) := by decide +kernel
theorem dX10_tire_6 : decode cX10_tire 6 = .ok (.iadd, 1) := by decide +kernel
theorem dX10_tire_7 : decode cX10_tire 7 = .ok (.bipush 60, 2) := by decide +kernel
theorem dX10_tire_9 : decode cX10_tire 9 = .ok (.if_icmp .le 8, 3) := by decide +kernel
theorem dX10_tire_12 : decode cX10_tire 12 = .ok (.bipush 60, 2) := by decide +kernel
theorem dX10_tire_14 : decode cX10_tire 14 = .ok (.goto 9, 3) := by decide +kernel
theorem dX10_tire_17 : decode cX10_tire 17 = .ok (.aload_n 0, 1) := by decide +kernel
theorem dX10_tire_18 : decode cX10_tire 18 = .ok (.getfield 7, 3) := by decide +kernel
theorem dX10_tire_21 : decode cX10_tire 21 = .ok (.iconst 5, 1) := by decide +kernel
theorem dX10_tire_22 : decode cX10_tire 22 = .ok (.iadd, 1) := by decide +kernel
theorem dX10_tire_23 : decode cX10_tire 23 = .ok (.putfield 7, 3) := by decide +kernel
theorem dX10_tire_26 : decode cX10_tire 26 = .ok (.return_, 1) := by decide +kernel
theorem dX10_rest_0 : decode cX10_rest 0 = .ok (.aload_n 0, 1) := by decide +kernel
theorem dX10_rest_1 : decode cX10_rest 1 = .ok (.aload_n 0, 1) := by decide +kernel
theorem dX10_rest_2 : decode cX10_rest 2 = .ok (.getfield 7, 3) := by decide +kernel
theorem dX10_rest_5 : decode cX10_rest 5 = .ok (.iconst 5, 1) := by decide +kernel
theorem dX10_rest_6 : decode cX10_rest 6 = .ok (.if_icmp .ge 7, 3) := by decide +kernel
theorem dX10_rest_9 : decode cX10_rest 9 = .ok (.iconst 0, 1) := by decide +kernel
theorem dX10_rest_10 : decode cX10_rest 10 = .ok (.goto 9, 3) := by decide +kernel
theorem dX10_rest_13 : decode cX10_rest 13 = .ok (.aload_n 0, 1) := by decide +kernel
theorem dX10_rest_14 : decode cX10_rest 14 = .ok (.getfield 7, 3) := by decide +kernel
theorem dX10_rest_17 : decode cX10_rest 17 = .ok (.iconst 5, 1) := by decide +kernel
theorem dX10_rest_18 : decode cX10_rest 18 = .ok (.isub, 1) := by decide +kernel
theorem dX10_rest_19 : decode cX10_rest 19 = .ok (.putfield 7, 3) := by decide +kernel
theorem dX10_rest_22 : decode cX10_rest 22 = .ok (.return_, 1) := by decide +kernel
theorem dX10_sicken_0 : decode cX10_sicken 0 = .ok (.aload_n 0, 1) := by decide +kernel
theorem dX10_sicken_1 : decode cX10_sicken 1 = .ok (.getfield 13, 3) := by decide +kernel
theorem dX10_sicken_4 : decode cX10_sicken 4 = .ok (.bipush 12, 2) := by decide +kernel
theorem dX10_sicken_6 : decode cX10_sicken 6 = .ok (.if_icmp .ge 13, 3) := by decide +kernel
theorem dX10_sicken_9 : decode cX10_sicken 9 = .ok (.aload_n 0, 1) := by decide +kernel
theorem dX10_sicken_10 : decode cX10_sicken 10 = .ok (.dup, 1) := by decide +kernel
theorem dX10_sicken_11 : decode cX10_sicken 11 = .ok (.getfield 13, 3) := by decide +kernel
theorem dX10_sicken_14 : decode cX10_sicken 14 = .ok (.iconst 1, 1) := by decide +kernel
theorem dX10_sicken_15 : decode cX10_sicken 15 = .ok (.iadd, 1) := by decide +kernel
theorem dX10_sicken_16 : decode cX10_sicken 16 = .ok (.putfield 13, 3) := by decide +kernel
theorem dX10_sicken_19 : decode cX10_sicken 19 = .ok (.return_, 1) := by decide +kernel
theorem dJx4a65c_size_8abf5_0 : decode cJx4a65c_size_8abf5 0 = .ok (.aload_n 0, 1) := by decide +kernel
theorem dJx4a65c_size_8abf5_1 : decode cJx4a65c_size_8abf5 1 = .ok (.getfield 48, 3) := by decide +kernel
theorem dJx4a65c_size_8abf5_4 : decode cJx4a65c_size_8abf5 4 = .ok (.ireturn, 1) := by decide +kernel
abbrev wd_k_size0 (z : Nat → Nat) (ol : Nat) : va_W := [(ol, .inr (3, [.int 0, .ref (z 0), .int 0]))]
set_option maxHeartbeats 4000000 in
set_option maxRecDepth 100000 in
theorem k_size0 (l : Launch) (dC : Nat → ClassId) (dI : Nat → Nat → Nat) (z zK zV : Nat → Nat) (ol : Nat) (sz : Nat)  : Met l yJx4a65c_size_8abf5 wsJx4a65c_size_8abf5 ({ frames := 0, cells := 0, slots := 0, locals := 0 }) (kP dC dI z zK zV [.ref ol] sz (wd_k_size0 z ol) []) (va_Qi (fun (r : Int32) (_ : Unit) => 0 = r) (fun _ t => kB (dC, dI) (va_A (wd_k_size0 z ol) sz) [(ol, .inr (3, [.int 0, .ref (z 0), .int 0]))] [] t) (va_A (wd_k_size0 z ol) sz)) 0 0 (va_A (wd_k_size0 z ol) sz) := by
  refine Met.ofW (cc := cJx4a65c_size_8abf5) (maxL := 1) (ret := (some .int)) (by decide) rfl ?_
  intro p e s m args below meth c s₁ B hml hv
  obtain ⟨rfl, hsz, hP, hK, hD0, hM⟩ := hv
  have hx := B.exec
  have hb := B.bytes
  have hr := B.returns
  have hts := atoms_spec (ws := wsJx4a65c_size_8abf5) B.pre
  have hown : s.vm.findClass RJx4a65c = some m.cls := findClass_of_methodNamed B.named
  have hlocks := B.notSynchronized
  have hiJx4a65c : ∀ w ∈ u_ws RJx4a65c TJx4a65c 3, w ∈ wsJx4a65c_size_8abf5 := by decide +kernel
  subst hsz
  have hD := hD0.self (sz := s.heap.size)
  generalize hAe : va_A (wd_k_size0 z ol) s.heap.size = A at hD hM ⊢
  have hA : ∀ q : Nat, s.heap.size ≤ q → A q := fun q h => by rw [← hAe]; exact Or.inr h
  have hS : va_S A s.heap s.heap [] := va_S.rf
  have hP : va_P (dC, dI) vwCl [(ol, .inr (3, [.int 0, .ref (z 0), .int 0]))] s.heap := hP
  have hD : va_D A [(ol, .inr (3, [.int 0, .ref (z 0), .int 0]))] := hD
  have hl := lv_entry ([.ref ol]) (n := 1) (Nat.le_of_ble_eq_true rfl)
  rw [lg_entry_eq]
  generalize (lg_sl ([.ref ol]) ++ List.replicate (1 - (lg_sl ([.ref ol])).length) Slot.unset).toArray = ls at hl ⊢
  have hl : lv_has ls 1 [(0, .ref ol)] := hl
  refine lv_aload_n hx hb dJx4a65c_size_8abf5_0 rfl (lv_at hl 0 rfl) ?_
  refine va_get (D := (dC, dI)) (ci := 3) (v := .int 0) (C := RJx4a65c) (T := TJx4a65c) (N := 3) hx hb hts hiJx4a65c hown hK hP 0 rfl rfl 2 (by decide) (hts (.fieldLink RJx4a65c 48 "java/util/ArrayList" "size" "I") (by decide +kernel)) (fun _ h9 => h9) rfl dJx4a65c_size_8abf5_1 ?_
  exact W.iret (v := 0) hx hb hr (fun t ht hW => ⟨⟨0, (), rfl, rfl, kB_end (w9 := [(ol, .inr (3, [.int 0, .ref (z 0), .int 0]))]) (t9 := []) hP hK hD [0] [] rfl (by decide) rfl rfl t ht hW⟩, hS.F ht⟩) hS.2.2 dJx4a65c_size_8abf5_4
abbrev wd_k_gatherWay (z : Nat → Nat) (sh : Nat) (rg : Nat) (mf : Nat) (mm : Nat) (mz : Nat) (ma : Nat) (sa : Nat) (dk : Nat) (hd : Nat) (lg : Nat) (pl : Nat) (pr : Nat) (mi : Int32) (fo : Int32) : va_W := [(sh, .inr (13, [.ref rg, .ref dk, .ref hd, .ref lg, .ref pl, .ref pr, .int 0, .int 0, .int 0, .int 0, .int 0, .int mi, .int 0, .int 0, .int 0, .int fo, .int 0])), (rg, .inr (11, [.ref mf, .ref mm, .ref mz, .ref ma, .ref sa, .int 0]))]
set_option maxHeartbeats 4000000 in
set_option maxRecDepth 100000 in
theorem k_gatherWay (l : Launch) (dC : Nat → ClassId) (dI : Nat → Nat → Nat) (z zK zV : Nat → Nat) (sh : Nat) (rg : Nat) (mf : Nat) (mm : Nat) (mz : Nat) (ma : Nat) (sa : Nat) (dk : Nat) (hd : Nat) (lg : Nat) (pl : Nat) (pr : Nat) (mi : Int32) (fo : Int32) (sz : Nat)  : Met l yX9_gatherWay wsX9_gatherWay ({ frames := 0, cells := 0, slots := 0, locals := 0 }) (kP dC dI z zK zV [.ref sh] sz (wd_k_gatherWay z sh rg mf mm mz ma sa dk hd lg pl pr mi fo) []) (va_Qv (fun _ : Unit => True) (fun _ t => kB (dC, dI) (va_A (wd_k_gatherWay z sh rg mf mm mz ma sa dk hd lg pl pr mi fo) sz) [(sh, .inr (13, [.ref rg, .ref dk, .ref hd, .ref lg, .ref pl, .ref pr, .int 0, .int 0, .int 0, .int 0, .int 0, .int mi, .int 0, .int 0, .int 0, .int fo, .int 0])), (rg, .inr (11, [.ref mf, .ref mm, .ref mz, .ref ma, .ref sa, .int 0]))] [] t) (va_A (wd_k_gatherWay z sh rg mf mm mz ma sa dk hd lg pl pr mi fo) sz)) 0 0 (va_A (wd_k_gatherWay z sh rg mf mm mz ma sa dk hd lg pl pr mi fo) sz) := by
  refine Met.ofW (cc := cX9_gatherWay) (maxL := 3) (ret := none) (by decide) rfl ?_
  intro p e s m args below meth c s₁ B hml hv
  obtain ⟨rfl, hsz, hP, hK, hD0, hM⟩ := hv
  have hx := B.exec
  have hb := B.bytes
  have hr := B.returns
  have hts := atoms_spec (ws := wsX9_gatherWay) B.pre
  have hown : s.vm.findClass RX9 = some m.cls := findClass_of_methodNamed B.named
  have hlocks := B.notSynchronized
  have hiX9 : ∀ w ∈ u_ws RX9 TX9 17, w ∈ wsX9_gatherWay := by decide +kernel
  have hiX7 : ∀ w ∈ u_ws RX7 TX7 6, w ∈ wsX9_gatherWay := by decide +kernel
  subst hsz
  have hD := hD0.self (sz := s.heap.size)
  generalize hAe : va_A (wd_k_gatherWay z sh rg mf mm mz ma sa dk hd lg pl pr mi fo) s.heap.size = A at hD hM ⊢
  have hA : ∀ q : Nat, s.heap.size ≤ q → A q := fun q h => by rw [← hAe]; exact Or.inr h
  have hS : va_S A s.heap s.heap [] := va_S.rf
  have hP : va_P (dC, dI) vwCl [(sh, .inr (13, [.ref rg, .ref dk, .ref hd, .ref lg, .ref pl, .ref pr, .int 0, .int 0, .int 0, .int 0, .int 0, .int mi, .int 0, .int 0, .int 0, .int fo, .int 0])), (rg, .inr (11, [.ref mf, .ref mm, .ref mz, .ref ma, .ref sa, .int 0]))] s.heap := hP
  have hD : va_D A [(sh, .inr (13, [.ref rg, .ref dk, .ref hd, .ref lg, .ref pl, .ref pr, .int 0, .int 0, .int 0, .int 0, .int 0, .int mi, .int 0, .int 0, .int 0, .int fo, .int 0])), (rg, .inr (11, [.ref mf, .ref mm, .ref mz, .ref ma, .ref sa, .int 0]))] := hD
  have hl := lv_entry ([.ref sh]) (n := 3) (Nat.le_of_ble_eq_true rfl)
  rw [lg_entry_eq]
  generalize (lg_sl ([.ref sh]) ++ List.replicate (3 - (lg_sl ([.ref sh])).length) Slot.unset).toArray = ls at hl ⊢
  have hl : lv_has ls 3 [(0, .ref sh)] := hl
  refine lv_bipush (v := 30) hx hb dX9_gatherWay_0 (by decide) ?_
  refine lv_aload_n hx hb dX9_gatherWay_2 rfl (lv_at hl 0 rfl) ?_
  refine va_get (D := (dC, dI)) (ci := 13) (v := .int fo) (C := RX9) (T := TX9) (N := 17) hx hb hts hiX9 hown hK hP 0 rfl rfl 15 (by decide) (hts (.fieldLink RX9 77 "SquareRig$Ship" "foulness" "I") (by decide +kernel)) (fun _ h9 => h9) rfl dX9_gatherWay_3 ?_
  refine lv_iadd hx hb dX9_gatherWay_6 ?_
  refine lv_istore_n (lv' := [(1, .int (30 + fo)), (0, .ref sh)]) hx hb dX9_gatherWay_7 rfl hl (by decide) rfl (fun ls hl => ?_)
  refine lv_iload_n hx hb dX9_gatherWay_8 rfl (lv_at hl 0 rfl) ?_
  refine lv_if_le (tgt := 24) hx hb dX9_gatherWay_9 (by decide) (fun c1 => ?_) (fun c1 => ?_)
  · skip
    refine lv_iconst (v := 0) hx hb dX9_gatherWay_24 (by decide) ?_
    refine lv_istore_n (lv' := [(2, .int 0), (1, .int (30 + fo)), (0, .ref sh)]) hx hb dX9_gatherWay_25 rfl hl (by decide) rfl (fun ls hl => ?_)
    refine lv_iload_n hx hb dX9_gatherWay_26 rfl (lv_at hl 0 rfl) ?_
    refine lv_aload_n hx hb dX9_gatherWay_27 rfl (lv_at hl 2 rfl) ?_
    refine va_get (D := (dC, dI)) (ci := 13) (v := .int 0) (C := RX9) (T := TX9) (N := 17) hx hb hts hiX9 hown hK hP 0 rfl rfl 13 (by decide) (hts (.fieldLink RX9 71 "SquareRig$Ship" "speed" "I") (by decide +kernel)) (fun _ h9 => h9) rfl dX9_gatherWay_28 ?_
    refine lv_iconst (v := 2) hx hb dX9_gatherWay_31 (by decide) ?_
    refine lv_iadd hx hb dX9_gatherWay_32 ?_
    refine kc_i (y := 2) (by decide +kernel) ?_
    refine lv_icmp_le (tgt := 49) hx hb dX9_gatherWay_33 (by decide) (fun _ => ?_) (fun c_ => absurd (by decide +kernel) c_)
    refine lv_iload_n hx hb dX9_gatherWay_49 rfl (lv_at hl 0 rfl) ?_
    refine lv_aload_n hx hb dX9_gatherWay_50 rfl (lv_at hl 2 rfl) ?_
    refine va_get (D := (dC, dI)) (ci := 13) (v := .int 0) (C := RX9) (T := TX9) (N := 17) hx hb hts hiX9 hown hK hP 0 rfl rfl 13 (by decide) (hts (.fieldLink RX9 71 "SquareRig$Ship" "speed" "I") (by decide +kernel)) (fun _ h9 => h9) rfl dX9_gatherWay_51 ?_
    refine lv_iconst (v := 2) hx hb dX9_gatherWay_54 (by decide) ?_
    refine lv_isub hx hb dX9_gatherWay_55 ?_
    refine kc_i (y := (-2)) (by decide +kernel) ?_
    refine lv_icmp_ge (tgt := 72) hx hb dX9_gatherWay_56 (by decide) (fun _ => ?_) (fun c_ => absurd (by decide +kernel) c_)
    refine lv_aload_n hx hb dX9_gatherWay_72 rfl (lv_at hl 2 rfl) ?_
    refine lv_iload_n hx hb dX9_gatherWay_73 rfl (lv_at hl 0 rfl) ?_
    refine va_put (D := (dC, dI)) (ci := 13) (v := .int 0) (ty := .int) (C := RX9) (T := TX9) (N := 17) hx hb hts hiX9 tyX9 tyX9_ok nmX9 hown hK hP hD hS 0 rfl rfl 13 (by decide) (hts (.fieldLink RX9 71 "SquareRig$Ship" "speed" "I") (by decide +kernel)) (fun _ h9 => h9) rfl (by decide +kernel) rfl rfl (Nat.le_of_ble_eq_true rfl) dX9_gatherWay_74 (fun H locs hP hD hS => ?_)
    have hP : va_P (dC, dI) vwCl [(sh, .inr (13, [.ref rg, .ref dk, .ref hd, .ref lg, .ref pl, .ref pr, .int 0, .int 0, .int 0, .int 0, .int 0, .int mi, .int 0, .int 0, .int 0, .int fo, .int 0])), (rg, .inr (11, [.ref mf, .ref mm, .ref mz, .ref ma, .ref sa, .int 0]))] H := hP
    have hD : va_D A [(sh, .inr (13, [.ref rg, .ref dk, .ref hd, .ref lg, .ref pl, .ref pr, .int 0, .int 0, .int 0, .int 0, .int 0, .int mi, .int 0, .int 0, .int 0, .int fo, .int 0])), (rg, .inr (11, [.ref mf, .ref mm, .ref mz, .ref ma, .ref sa, .int 0]))] := hD
    exact W.vret hx hb hr (fun t ht hW => ⟨⟨(), rfl, trivial, kB_end (w9 := [(sh, .inr (13, [.ref rg, .ref dk, .ref hd, .ref lg, .ref pl, .ref pr, .int 0, .int 0, .int 0, .int 0, .int 0, .int mi, .int 0, .int 0, .int 0, .int fo, .int 0])), (rg, .inr (11, [.ref mf, .ref mm, .ref mz, .ref ma, .ref sa, .int 0]))]) (t9 := []) hP hK hD [0, 1] [] rfl (by decide) rfl rfl t ht hW⟩, hS.F ht⟩) hS.2.2 dX9_gatherWay_77
  · skip
    refine lv_aload_n hx hb dX9_gatherWay_12 rfl (lv_at hl 1 rfl) ?_
    refine va_get (D := (dC, dI)) (ci := 13) (v := .ref rg) (C := RX9) (T := TX9) (N := 17) hx hb hts hiX9 hown hK hP 0 rfl rfl 0 (by decide) (hts (.fieldLink RX9 12 "SquareRig$Ship" "rig" "LSquareRig$Rig;") (by decide +kernel)) (fun _ h9 => h9) rfl dX9_gatherWay_13 ?_
    refine va_getN (D := (dC, dI)) (ci := 11) (v := .int 0) (C := RX7) (T := TX7) (N := 6) hx hb hts hiX7 hown hK hP 1 rfl rfl 5 (by decide) (va_Nw.use rfl (hM.1 _ (List.mem_of_getElem? (i := 20) rfl))) (fun _ h9 => h9) rfl dX9_gatherWay_16 ?_
    refine lv_iload_n hx hb dX9_gatherWay_19 rfl (lv_at hl 0 rfl) ?_
    refine lv_idiv hx hb dX9_gatherWay_20 (fun h0 => c1 (by rw [h0]; decide)) ?_
    refine kc_i (y := 0) (k_zdiv _) ?_
    refine lv_goto (tgt := 25) hx hb dX9_gatherWay_21 (by decide) ?_
    refine lv_istore_n (lv' := [(2, .int 0), (1, .int (30 + fo)), (0, .ref sh)]) hx hb dX9_gatherWay_25 rfl hl (by decide) rfl (fun ls hl => ?_)
    refine lv_iload_n hx hb dX9_gatherWay_26 rfl (lv_at hl 0 rfl) ?_
    refine lv_aload_n hx hb dX9_gatherWay_27 rfl (lv_at hl 2 rfl) ?_
    refine va_get (D := (dC, dI)) (ci := 13) (v := .int 0) (C := RX9) (T := TX9) (N := 17) hx hb hts hiX9 hown hK hP 0 rfl rfl 13 (by decide) (hts (.fieldLink RX9 71 "SquareRig$Ship" "speed" "I") (by decide +kernel)) (fun _ h9 => h9) rfl dX9_gatherWay_28 ?_
    refine lv_iconst (v := 2) hx hb dX9_gatherWay_31 (by decide) ?_
    refine lv_iadd hx hb dX9_gatherWay_32 ?_
    refine kc_i (y := 2) (by decide +kernel) ?_
    refine lv_icmp_le (tgt := 49) hx hb dX9_gatherWay_33 (by decide) (fun _ => ?_) (fun c_ => absurd (by decide +kernel) c_)
    refine lv_iload_n hx hb dX9_gatherWay_49 rfl (lv_at hl 0 rfl) ?_
    refine lv_aload_n hx hb dX9_gatherWay_50 rfl (lv_at hl 2 rfl) ?_
    refine va_get (D := (dC, dI)) (ci := 13) (v := .int 0) (C := RX9) (T := TX9) (N := 17) hx hb hts hiX9 hown hK hP 0 rfl rfl 13 (by decide) (hts (.fieldLink RX9 71 "SquareRig$Ship" "speed" "I") (by decide +kernel)) (fun _ h9 => h9) rfl dX9_gatherWay_51 ?_
    refine lv_iconst (v := 2) hx hb dX9_gatherWay_54 (by decide) ?_
    refine lv_isub hx hb dX9_gatherWay_55 ?_
    refine kc_i (y := (-2)) (by decide +kernel) ?_
    refine lv_icmp_ge (tgt := 72) hx hb dX9_gatherWay_56 (by decide) (fun _ => ?_) (fun c_ => absurd (by decide +kernel) c_)
    refine lv_aload_n hx hb dX9_gatherWay_72 rfl (lv_at hl 2 rfl) ?_
    refine lv_iload_n hx hb dX9_gatherWay_73 rfl (lv_at hl 0 rfl) ?_
    refine va_put (D := (dC, dI)) (ci := 13) (v := .int 0) (ty := .int) (C := RX9) (T := TX9) (N := 17) hx hb hts hiX9 tyX9 tyX9_ok nmX9 hown hK hP hD hS 0 rfl rfl 13 (by decide) (hts (.fieldLink RX9 71 "SquareRig$Ship" "speed" "I") (by decide +kernel)) (fun _ h9 => h9) rfl (by decide +kernel) rfl rfl (Nat.le_of_ble_eq_true rfl) dX9_gatherWay_74 (fun H locs hP hD hS => ?_)
    have hP : va_P (dC, dI) vwCl [(sh, .inr (13, [.ref rg, .ref dk, .ref hd, .ref lg, .ref pl, .ref pr, .int 0, .int 0, .int 0, .int 0, .int 0, .int mi, .int 0, .int 0, .int 0, .int fo, .int 0])), (rg, .inr (11, [.ref mf, .ref mm, .ref mz, .ref ma, .ref sa, .int 0]))] H := hP
    have hD : va_D A [(sh, .inr (13, [.ref rg, .ref dk, .ref hd, .ref lg, .ref pl, .ref pr, .int 0, .int 0, .int 0, .int 0, .int 0, .int mi, .int 0, .int 0, .int 0, .int fo, .int 0])), (rg, .inr (11, [.ref mf, .ref mm, .ref mz, .ref ma, .ref sa, .int 0]))] := hD
    exact W.vret hx hb hr (fun t ht hW => ⟨⟨(), rfl, trivial, kB_end (w9 := [(sh, .inr (13, [.ref rg, .ref dk, .ref hd, .ref lg, .ref pl, .ref pr, .int 0, .int 0, .int 0, .int 0, .int 0, .int mi, .int 0, .int 0, .int 0, .int fo, .int 0])), (rg, .inr (11, [.ref mf, .ref mm, .ref mz, .ref ma, .ref sa, .int 0]))]) (t9 := []) hP hK hD [0, 1] [] rfl (by decide) rfl rfl t ht hW⟩, hS.F ht⟩) hS.2.2 dX9_gatherWay_77
abbrev wd_k_turn (z : Nat → Nat) (sh : Nat) (rg : Nat) (mf : Nat) (mm : Nat) (mz : Nat) (ma : Nat) (sa : Nat) (dk : Nat) (hd : Nat) (lg : Nat) (pl : Nat) (pr : Nat) (mi : Int32) (fo : Int32) : va_W := [(sh, .inr (13, [.ref rg, .ref dk, .ref hd, .ref lg, .ref pl, .ref pr, .int 0, .int 0, .int 0, .int 0, .int 0, .int mi, .int 0, .int 0, .int 0, .int fo, .int 0])), (rg, .inr (11, [.ref mf, .ref mm, .ref mz, .ref ma, .ref sa, .int 0])), (mf, .inr (8, [.int 0, .int 0, .int 0])), (mm, .inr (8, [.int 0, .int 0, .int 0])), (mz, .inr (8, [.int 0, .int 0, .int 0]))]
set_option maxHeartbeats 4000000 in
set_option maxRecDepth 100000 in
theorem k_turn (l : Launch) (dC : Nat → ClassId) (dI : Nat → Nat → Nat) (z zK zV : Nat → Nat) (sh : Nat) (rg : Nat) (mf : Nat) (mm : Nat) (mz : Nat) (ma : Nat) (sa : Nat) (dk : Nat) (hd : Nat) (lg : Nat) (pl : Nat) (pr : Nat) (mi : Int32) (fo : Int32) (sz : Nat)  : Met l yX9_turn wsX9_turn ({ frames := 2, cells := 0, slots := 0, locals := 42 }) (kP dC dI z zK zV [.ref sh] sz (wd_k_turn z sh rg mf mm mz ma sa dk hd lg pl pr mi fo) []) (va_Qi (fun (r : Int32) (_ : Unit) => 0 = r) (fun _ t => kB (dC, dI) (va_A (wd_k_turn z sh rg mf mm mz ma sa dk hd lg pl pr mi fo) sz) [(rg, .inr (11, [.ref mf, .ref mm, .ref mz, .ref ma, .ref sa, .int 0])), (mf, .inr (8, [.int 0, .int 0, .int 0])), (mm, .inr (8, [.int 0, .int 0, .int 0])), (mz, .inr (8, [.int 0, .int 0, .int 0])), (sh, .inr (13, [.ref rg, .ref dk, .ref hd, .ref lg, .ref pl, .ref pr, .int 0, .int 0, .int 0, .int 0, .int 0, .int mi, .int 0, .int 0, .int 0, .int fo, .int 0]))] [] t) (va_A (wd_k_turn z sh rg mf mm mz ma sa dk hd lg pl pr mi fo) sz)) 0 0 (va_A (wd_k_turn z sh rg mf mm mz ma sa dk hd lg pl pr mi fo) sz) := by
  refine Met.ofW (cc := cX9_turn) (maxL := 2) (ret := (some .boolean)) (by decide) rfl ?_
  intro p e s m args below meth c s₁ B hml hv
  obtain ⟨rfl, hsz, hP, hK, hD0, hM⟩ := hv
  have hx := B.exec
  have hb := B.bytes
  have hr := B.returns
  have hts := atoms_spec (ws := wsX9_turn) B.pre
  have hown : s.vm.findClass RX9 = some m.cls := findClass_of_methodNamed B.named
  have hlocks := B.notSynchronized
  have hiX9 : ∀ w ∈ u_ws RX9 TX9 17, w ∈ wsX9_turn := by decide +kernel
  have hiX7 : ∀ w ∈ u_ws RX7 TX7 6, w ∈ wsX9_turn := by decide +kernel
  have hiX4 : ∀ w ∈ u_ws RX4 TX4 3, w ∈ wsX9_turn := by decide +kernel
  subst hsz
  have hD := hD0.self (sz := s.heap.size)
  generalize hAe : va_A (wd_k_turn z sh rg mf mm mz ma sa dk hd lg pl pr mi fo) s.heap.size = A at hD hM ⊢
  have hA : ∀ q : Nat, s.heap.size ≤ q → A q := fun q h => by rw [← hAe]; exact Or.inr h
  have hS : va_S A s.heap s.heap [] := va_S.rf
  have hP : va_P (dC, dI) vwCl [(sh, .inr (13, [.ref rg, .ref dk, .ref hd, .ref lg, .ref pl, .ref pr, .int 0, .int 0, .int 0, .int 0, .int 0, .int mi, .int 0, .int 0, .int 0, .int fo, .int 0])), (rg, .inr (11, [.ref mf, .ref mm, .ref mz, .ref ma, .ref sa, .int 0])), (mf, .inr (8, [.int 0, .int 0, .int 0])), (mm, .inr (8, [.int 0, .int 0, .int 0])), (mz, .inr (8, [.int 0, .int 0, .int 0]))] s.heap := hP
  have hD : va_D A [(sh, .inr (13, [.ref rg, .ref dk, .ref hd, .ref lg, .ref pl, .ref pr, .int 0, .int 0, .int 0, .int 0, .int 0, .int mi, .int 0, .int 0, .int 0, .int fo, .int 0])), (rg, .inr (11, [.ref mf, .ref mm, .ref mz, .ref ma, .ref sa, .int 0])), (mf, .inr (8, [.int 0, .int 0, .int 0])), (mm, .inr (8, [.int 0, .int 0, .int 0])), (mz, .inr (8, [.int 0, .int 0, .int 0]))] := hD
  have hl := lv_entry ([.ref sh]) (n := 2) (Nat.le_of_ble_eq_true rfl)
  rw [lg_entry_eq]
  generalize (lg_sl ([.ref sh]) ++ List.replicate (2 - (lg_sl ([.ref sh])).length) Slot.unset).toArray = ls at hl ⊢
  have hl : lv_has ls 2 [(0, .ref sh)] := hl
  refine lv_aload_n hx hb dX9_turn_0 rfl (lv_at hl 0 rfl) ?_
  refine lv_dup hx hb dX9_turn_1 rfl ?_
  refine va_get (D := (dC, dI)) (ci := 13) (v := .int 0) (C := RX9) (T := TX9) (N := 17) hx hb hts hiX9 hown hK hP 0 rfl rfl 14 (by decide) (hts (.fieldLink RX9 74 "SquareRig$Ship" "swing" "I") (by decide +kernel)) (fun _ h9 => h9) rfl dX9_turn_2 ?_
  refine lv_aload_n hx hb dX9_turn_5 rfl (lv_at hl 0 rfl) ?_
  refine va_get (D := (dC, dI)) (ci := 13) (v := .int 0) (C := RX9) (T := TX9) (N := 17) hx hb hts hiX9 hown hK hP 0 rfl rfl 10 (by decide) (hts (.fieldLink RX9 62 "SquareRig$Ship" "helm" "I") (by decide +kernel)) (fun _ h9 => h9) rfl dX9_turn_6 ?_
  refine lv_aload_n hx hb dX9_turn_9 rfl (lv_at hl 0 rfl) ?_
  refine va_get (D := (dC, dI)) (ci := 13) (v := .int 0) (C := RX9) (T := TX9) (N := 17) hx hb hts hiX9 hown hK hP 0 rfl rfl 13 (by decide) (hts (.fieldLink RX9 71 "SquareRig$Ship" "speed" "I") (by decide +kernel)) (fun _ h9 => h9) rfl dX9_turn_10 ?_
  refine lv_imul hx hb dX9_turn_13 ?_
  refine kc_i (y := 0) (by decide +kernel) ?_
  refine lv_iconst (v := 4) hx hb dX9_turn_14 (by decide) ?_
  refine lv_idiv hx hb dX9_turn_15 (by decide +kernel) ?_
  refine kc_i (y := 0) (by decide +kernel) ?_
  refine lv_iadd hx hb dX9_turn_16 ?_
  refine kc_i (y := 0) (by decide +kernel) ?_
  refine va_put (D := (dC, dI)) (ci := 13) (v := .int 0) (ty := .int) (C := RX9) (T := TX9) (N := 17) hx hb hts hiX9 tyX9 tyX9_ok nmX9 hown hK hP hD hS 0 rfl rfl 14 (by decide) (hts (.fieldLink RX9 74 "SquareRig$Ship" "swing" "I") (by decide +kernel)) (fun _ h9 => h9) rfl (by decide +kernel) rfl rfl (Nat.le_of_ble_eq_true rfl) dX9_turn_17 (fun H locs hP hD hS => ?_)
  have hP : va_P (dC, dI) vwCl [(sh, .inr (13, [.ref rg, .ref dk, .ref hd, .ref lg, .ref pl, .ref pr, .int 0, .int 0, .int 0, .int 0, .int 0, .int mi, .int 0, .int 0, .int 0, .int fo, .int 0])), (rg, .inr (11, [.ref mf, .ref mm, .ref mz, .ref ma, .ref sa, .int 0])), (mf, .inr (8, [.int 0, .int 0, .int 0])), (mm, .inr (8, [.int 0, .int 0, .int 0])), (mz, .inr (8, [.int 0, .int 0, .int 0]))] H := hP
  have hD : va_D A [(sh, .inr (13, [.ref rg, .ref dk, .ref hd, .ref lg, .ref pl, .ref pr, .int 0, .int 0, .int 0, .int 0, .int 0, .int mi, .int 0, .int 0, .int 0, .int fo, .int 0])), (rg, .inr (11, [.ref mf, .ref mm, .ref mz, .ref ma, .ref sa, .int 0])), (mf, .inr (8, [.int 0, .int 0, .int 0])), (mm, .inr (8, [.int 0, .int 0, .int 0])), (mz, .inr (8, [.int 0, .int 0, .int 0]))] := hD
  refine lv_aload_n hx hb dX9_turn_20 rfl (lv_at hl 0 rfl) ?_
  refine lv_dup hx hb dX9_turn_21 rfl ?_
  refine va_get (D := (dC, dI)) (ci := 13) (v := .int 0) (C := RX9) (T := TX9) (N := 17) hx hb hts hiX9 hown hK hP 0 rfl rfl 14 (by decide) (hts (.fieldLink RX9 74 "SquareRig$Ship" "swing" "I") (by decide +kernel)) (fun _ h9 => h9) rfl dX9_turn_22 ?_
  refine lv_aload_n hx hb dX9_turn_25 rfl (lv_at hl 0 rfl) ?_
  have hPc := hP.sub (ws' := [(sh, .inr (13, [.ref rg, .ref dk, .ref hd, .ref lg, .ref pl, .ref pr, .int 0, .int 0, .int 0, .int 0, .int 0, .int mi, .int 0, .int 0, .int 0, .int fo, .int 0]))]) [0] rfl
  have hDc := hD.sub (ws' := [(sh, .inr (13, [.ref rg, .ref dk, .ref hd, .ref lg, .ref pl, .ref pr, .int 0, .int 0, .int 0, .int 0, .int 0, .int mi, .int 0, .int 0, .int 0, .int fo, .int 0]))]) [0] (by decide) rfl
  have hKc := hK.sub (tys' := []) [] rfl
  have hFc := va_free (wc := [(sh, .inr (13, [.ref rg, .ref dk, .ref hd, .ref lg, .ref pl, .ref pr, .int 0, .int 0, .int 0, .int 0, .int 0, .int mi, .int 0, .int 0, .int 0, .int fo, .int 0]))]) hD hS hA [0] rfl
  refine va_calli (va_runV (As := []) (rest := [.int 0, .ref sh]) ⟨hx, hb, hml, hown, hts⟩ (k_windSide l dC dI z zK zV sh rg dk hd lg pl pr mi fo H.size) (cwV 0 hts gX9_turn_X9_windSide rfl rfl rfl (by decide +kernel) ⟨Nat.le_of_ble_eq_true rfl, Nat.le_of_ble_eq_true rfl⟩) ⟨kP_blind, va_recv hKc hPc (ci := 13) (q0 := 0) rfl rfl, kP_go hPc hKc hDc hFc hM hS⟩ rfl rfl hl.1 rfl (lv_room (Nat.le_of_ble_eq_true rfl)) dX9_turn_26 ⟨Nat.le_of_ble_eq_true rfl, Nat.le_of_ble_eq_true rfl⟩) hS (fun q _ h => hFc q h) hFc (fun r1 u t H1 locs ht hvm hw hB hz1 hk1 hS => ?_)
  obtain ⟨hP, hD, hK⟩ := kJ (wr := [(rg, .inr (11, [.ref mf, .ref mm, .ref mz, .ref ma, .ref sa, .int 0])), (mf, .inr (8, [.int 0, .int 0, .int 0])), (mm, .inr (8, [.int 0, .int 0, .int 0])), (mz, .inr (8, [.int 0, .int 0, .int 0]))]) (w1 := [(sh, .inr (13, [.ref rg, .ref dk, .ref hd, .ref lg, .ref pl, .ref pr, .int 0, .int 0, .int 0, .int 0, .int 0, .int mi, .int 0, .int 0, .int 0, .int fo, .int 0]))]) (t1 := []) hP hD hK [0] [1, 2, 3, 4] rfl rfl (by decide) (by decide) hk1 hFc ht hvm hB
  generalize H1 = H at hP hS ⊢
  have hP : va_P (dC, dI) vwCl [(rg, .inr (11, [.ref mf, .ref mm, .ref mz, .ref ma, .ref sa, .int 0])), (mf, .inr (8, [.int 0, .int 0, .int 0])), (mm, .inr (8, [.int 0, .int 0, .int 0])), (mz, .inr (8, [.int 0, .int 0, .int 0])), (sh, .inr (13, [.ref rg, .ref dk, .ref hd, .ref lg, .ref pl, .ref pr, .int 0, .int 0, .int 0, .int 0, .int 0, .int mi, .int 0, .int 0, .int 0, .int fo, .int 0]))] H := hP
  have hD : va_D A [(rg, .inr (11, [.ref mf, .ref mm, .ref mz, .ref ma, .ref sa, .int 0])), (mf, .inr (8, [.int 0, .int 0, .int 0])), (mm, .inr (8, [.int 0, .int 0, .int 0])), (mz, .inr (8, [.int 0, .int 0, .int 0])), (sh, .inr (13, [.ref rg, .ref dk, .ref hd, .ref lg, .ref pl, .ref pr, .int 0, .int 0, .int 0, .int 0, .int 0, .int mi, .int 0, .int 0, .int 0, .int fo, .int 0]))] := hD
  have hK : va_K (dC, dI) vwCl [] s := hK
  obtain rfl : 0 = r1 := hw
  refine lv_aload_n hx hb dX9_turn_29 rfl (lv_at hl 0 rfl) ?_
  refine va_get (D := (dC, dI)) (ci := 13) (v := .ref rg) (C := RX9) (T := TX9) (N := 17) hx hb hts hiX9 hown hK hP 4 rfl rfl 0 (by decide) (hts (.fieldLink RX9 12 "SquareRig$Ship" "rig" "LSquareRig$Rig;") (by decide +kernel)) (fun _ h9 => h9) rfl dX9_turn_30 ?_
  refine va_getN (D := (dC, dI)) (ci := 11) (v := .ref mz) (C := RX7) (T := TX7) (N := 6) hx hb hts hiX7 hown hK hP 0 rfl rfl 2 (by decide) (va_Nw.use rfl (hM.1 _ (List.mem_of_getElem? (i := 19) rfl))) (fun _ h9 => h9) rfl dX9_turn_33 ?_
  refine va_getN (D := (dC, dI)) (ci := 8) (v := .int 0) (C := RX4) (T := TX4) (N := 3) hx hb hts hiX4 hown hK hP 3 rfl rfl 2 (by decide) (va_Nw.use rfl (hM.1 _ (List.mem_of_getElem? (i := 5) rfl))) (fun _ h9 => h9) rfl dX9_turn_36 ?_
  refine lv_aload_n hx hb dX9_turn_39 rfl (lv_at hl 0 rfl) ?_
  refine va_get (D := (dC, dI)) (ci := 13) (v := .ref rg) (C := RX9) (T := TX9) (N := 17) hx hb hts hiX9 hown hK hP 4 rfl rfl 0 (by decide) (hts (.fieldLink RX9 12 "SquareRig$Ship" "rig" "LSquareRig$Rig;") (by decide +kernel)) (fun _ h9 => h9) rfl dX9_turn_40 ?_
  refine va_getN (D := (dC, dI)) (ci := 11) (v := .ref mf) (C := RX7) (T := TX7) (N := 6) hx hb hts hiX7 hown hK hP 0 rfl rfl 0 (by decide) (va_Nw.use rfl (hM.1 _ (List.mem_of_getElem? (i := 18) rfl))) (fun _ h9 => h9) rfl dX9_turn_43 ?_
  refine va_getN (D := (dC, dI)) (ci := 8) (v := .int 0) (C := RX4) (T := TX4) (N := 3) hx hb hts hiX4 hown hK hP 1 rfl rfl 2 (by decide) (va_Nw.use rfl (hM.1 _ (List.mem_of_getElem? (i := 5) rfl))) (fun _ h9 => h9) rfl dX9_turn_46 ?_
  refine lv_isub hx hb dX9_turn_49 ?_
  refine kc_i (y := 0) (by decide +kernel) ?_
  refine lv_bipush (v := 50) hx hb dX9_turn_50 (by decide) ?_
  refine lv_idiv hx hb dX9_turn_52 (by decide +kernel) ?_
  refine kc_i (y := 0) (by decide +kernel) ?_
  refine lv_imul hx hb dX9_turn_53 ?_
  refine kc_i (y := 0) (by decide +kernel) ?_
  refine lv_iadd hx hb dX9_turn_54 ?_
  refine kc_i (y := 0) (by decide +kernel) ?_
  refine va_put (D := (dC, dI)) (ci := 13) (v := .int 0) (ty := .int) (C := RX9) (T := TX9) (N := 17) hx hb hts hiX9 tyX9 tyX9_ok nmX9 hown hK hP hD hS 4 rfl rfl 14 (by decide) (hts (.fieldLink RX9 74 "SquareRig$Ship" "swing" "I") (by decide +kernel)) (fun _ h9 => h9) rfl (by decide +kernel) rfl rfl (Nat.le_of_ble_eq_true rfl) dX9_turn_55 (fun H locs hP hD hS => ?_)
  have hP : va_P (dC, dI) vwCl [(rg, .inr (11, [.ref mf, .ref mm, .ref mz, .ref ma, .ref sa, .int 0])), (mf, .inr (8, [.int 0, .int 0, .int 0])), (mm, .inr (8, [.int 0, .int 0, .int 0])), (mz, .inr (8, [.int 0, .int 0, .int 0])), (sh, .inr (13, [.ref rg, .ref dk, .ref hd, .ref lg, .ref pl, .ref pr, .int 0, .int 0, .int 0, .int 0, .int 0, .int mi, .int 0, .int 0, .int 0, .int fo, .int 0]))] H := hP
  have hD : va_D A [(rg, .inr (11, [.ref mf, .ref mm, .ref mz, .ref ma, .ref sa, .int 0])), (mf, .inr (8, [.int 0, .int 0, .int 0])), (mm, .inr (8, [.int 0, .int 0, .int 0])), (mz, .inr (8, [.int 0, .int 0, .int 0])), (sh, .inr (13, [.ref rg, .ref dk, .ref hd, .ref lg, .ref pl, .ref pr, .int 0, .int 0, .int 0, .int 0, .int 0, .int mi, .int 0, .int 0, .int 0, .int fo, .int 0]))] := hD
  refine lv_aload_n hx hb dX9_turn_58 rfl (lv_at hl 0 rfl) ?_
  refine va_get (D := (dC, dI)) (ci := 13) (v := .int 0) (C := RX9) (T := TX9) (N := 17) hx hb hts hiX9 hown hK hP 4 rfl rfl 14 (by decide) (hts (.fieldLink RX9 74 "SquareRig$Ship" "swing" "I") (by decide +kernel)) (fun _ h9 => h9) rfl dX9_turn_59 ?_
  refine lv_bipush (v := 100) hx hb dX9_turn_62 (by decide) ?_
  refine lv_idiv hx hb dX9_turn_64 (by decide +kernel) ?_
  refine kc_i (y := 0) (by decide +kernel) ?_
  refine lv_istore_n (lv' := [(1, .int 0), (0, .ref sh)]) hx hb dX9_turn_65 rfl hl (by decide) rfl (fun ls hl => ?_)
  refine lv_aload_n hx hb dX9_turn_66 rfl (lv_at hl 1 rfl) ?_
  refine lv_dup hx hb dX9_turn_67 rfl ?_
  refine va_get (D := (dC, dI)) (ci := 13) (v := .int 0) (C := RX9) (T := TX9) (N := 17) hx hb hts hiX9 hown hK hP 4 rfl rfl 14 (by decide) (hts (.fieldLink RX9 74 "SquareRig$Ship" "swing" "I") (by decide +kernel)) (fun _ h9 => h9) rfl dX9_turn_68 ?_
  refine lv_bipush (v := 100) hx hb dX9_turn_71 (by decide) ?_
  refine lv_iload_n hx hb dX9_turn_73 rfl (lv_at hl 0 rfl) ?_
  refine lv_imul hx hb dX9_turn_74 ?_
  refine kc_i (y := 0) (by decide +kernel) ?_
  refine lv_isub hx hb dX9_turn_75 ?_
  refine kc_i (y := 0) (by decide +kernel) ?_
  refine va_put (D := (dC, dI)) (ci := 13) (v := .int 0) (ty := .int) (C := RX9) (T := TX9) (N := 17) hx hb hts hiX9 tyX9 tyX9_ok nmX9 hown hK hP hD hS 4 rfl rfl 14 (by decide) (hts (.fieldLink RX9 74 "SquareRig$Ship" "swing" "I") (by decide +kernel)) (fun _ h9 => h9) rfl (by decide +kernel) rfl rfl (Nat.le_of_ble_eq_true rfl) dX9_turn_76 (fun H locs hP hD hS => ?_)
  have hP : va_P (dC, dI) vwCl [(rg, .inr (11, [.ref mf, .ref mm, .ref mz, .ref ma, .ref sa, .int 0])), (mf, .inr (8, [.int 0, .int 0, .int 0])), (mm, .inr (8, [.int 0, .int 0, .int 0])), (mz, .inr (8, [.int 0, .int 0, .int 0])), (sh, .inr (13, [.ref rg, .ref dk, .ref hd, .ref lg, .ref pl, .ref pr, .int 0, .int 0, .int 0, .int 0, .int 0, .int mi, .int 0, .int 0, .int 0, .int fo, .int 0]))] H := hP
  have hD : va_D A [(rg, .inr (11, [.ref mf, .ref mm, .ref mz, .ref ma, .ref sa, .int 0])), (mf, .inr (8, [.int 0, .int 0, .int 0])), (mm, .inr (8, [.int 0, .int 0, .int 0])), (mz, .inr (8, [.int 0, .int 0, .int 0])), (sh, .inr (13, [.ref rg, .ref dk, .ref hd, .ref lg, .ref pl, .ref pr, .int 0, .int 0, .int 0, .int 0, .int 0, .int mi, .int 0, .int 0, .int 0, .int fo, .int 0]))] := hD
  refine lv_aload_n hx hb dX9_turn_79 rfl (lv_at hl 1 rfl) ?_
  refine lv_aload_n hx hb dX9_turn_80 rfl (lv_at hl 1 rfl) ?_
  refine va_get (D := (dC, dI)) (ci := 13) (v := .int 0) (C := RX9) (T := TX9) (N := 17) hx hb hts hiX9 hown hK hP 4 rfl rfl 12 (by decide) (hts (.fieldLink RX9 68 "SquareRig$Ship" "heading" "I") (by decide +kernel)) (fun _ h9 => h9) rfl dX9_turn_81 ?_
  refine lv_iload_n hx hb dX9_turn_84 rfl (lv_at hl 0 rfl) ?_
  refine lv_iadd hx hb dX9_turn_85 ?_
  refine kc_i (y := 0) (by decide +kernel) ?_
  refine lv_bipush (v := 31) hx hb dX9_turn_86 (by decide) ?_
  refine lv_iand hx hb dX9_turn_88 ?_
  refine kc_i (y := 0) (by decide +kernel) ?_
  refine va_put (D := (dC, dI)) (ci := 13) (v := .int 0) (ty := .int) (C := RX9) (T := TX9) (N := 17) hx hb hts hiX9 tyX9 tyX9_ok nmX9 hown hK hP hD hS 4 rfl rfl 12 (by decide) (hts (.fieldLink RX9 68 "SquareRig$Ship" "heading" "I") (by decide +kernel)) (fun _ h9 => h9) rfl (by decide +kernel) rfl rfl (Nat.le_of_ble_eq_true rfl) dX9_turn_89 (fun H locs hP hD hS => ?_)
  have hP : va_P (dC, dI) vwCl [(rg, .inr (11, [.ref mf, .ref mm, .ref mz, .ref ma, .ref sa, .int 0])), (mf, .inr (8, [.int 0, .int 0, .int 0])), (mm, .inr (8, [.int 0, .int 0, .int 0])), (mz, .inr (8, [.int 0, .int 0, .int 0])), (sh, .inr (13, [.ref rg, .ref dk, .ref hd, .ref lg, .ref pl, .ref pr, .int 0, .int 0, .int 0, .int 0, .int 0, .int mi, .int 0, .int 0, .int 0, .int fo, .int 0]))] H := hP
  have hD : va_D A [(rg, .inr (11, [.ref mf, .ref mm, .ref mz, .ref ma, .ref sa, .int 0])), (mf, .inr (8, [.int 0, .int 0, .int 0])), (mm, .inr (8, [.int 0, .int 0, .int 0])), (mz, .inr (8, [.int 0, .int 0, .int 0])), (sh, .inr (13, [.ref rg, .ref dk, .ref hd, .ref lg, .ref pl, .ref pr, .int 0, .int 0, .int 0, .int 0, .int 0, .int mi, .int 0, .int 0, .int 0, .int fo, .int 0]))] := hD
  refine lv_iload_n hx hb dX9_turn_92 rfl (lv_at hl 0 rfl) ?_
  refine lv_if_eq (tgt := 100) hx hb dX9_turn_93 (by decide) (fun _ => ?_) (fun c_ => absurd (by decide +kernel) c_)
  refine lv_iconst (v := 0) hx hb dX9_turn_100 (by decide) ?_
  exact W.zret (v := 0) hx hb hr (by decide +kernel) (fun t ht hW => ⟨⟨0, (), rfl, rfl, kB_end (w9 := [(rg, .inr (11, [.ref mf, .ref mm, .ref mz, .ref ma, .ref sa, .int 0])), (mf, .inr (8, [.int 0, .int 0, .int 0])), (mm, .inr (8, [.int 0, .int 0, .int 0])), (mz, .inr (8, [.int 0, .int 0, .int 0])), (sh, .inr (13, [.ref rg, .ref dk, .ref hd, .ref lg, .ref pl, .ref pr, .int 0, .int 0, .int 0, .int 0, .int 0, .int mi, .int 0, .int 0, .int 0, .int fo, .int 0]))]) (t9 := []) hP hK hD [0, 1, 2, 3, 4] [] rfl (by decide) rfl rfl t ht hW⟩, hS.F ht⟩) hS.2.2 dX9_turn_101
abbrev wd_k_noteSide (z : Nat → Nat) (sh : Nat) (rg : Nat) (dk : Nat) (hd : Nat) (lg : Nat) (pl : Nat) (pr : Nat) (mi : Int32) (fo : Int32) : va_W := [(sh, .inr (13, [.ref rg, .ref dk, .ref hd, .ref lg, .ref pl, .ref pr, .int 0, .int 0, .int 0, .int 0, .int 0, .int mi, .int 0, .int 0, .int 0, .int fo, .int 0]))]
set_option maxHeartbeats 4000000 in
set_option maxRecDepth 100000 in
theorem k_noteSide (l : Launch) (dC : Nat → ClassId) (dI : Nat → Nat → Nat) (z zK zV : Nat → Nat) (sh : Nat) (rg : Nat) (dk : Nat) (hd : Nat) (lg : Nat) (pl : Nat) (pr : Nat) (mi : Int32) (fo : Int32) (sz : Nat)  : Met l yX9_noteSide wsX9_noteSide ({ frames := 2, cells := 0, slots := 0, locals := 42 }) (kP dC dI z zK zV [.ref sh] sz (wd_k_noteSide z sh rg dk hd lg pl pr mi fo) []) (va_Qv (fun _ : Unit => True) (fun _ t => kB (dC, dI) (va_A (wd_k_noteSide z sh rg dk hd lg pl pr mi fo) sz) [(sh, .inr (13, [.ref rg, .ref dk, .ref hd, .ref lg, .ref pl, .ref pr, .int 0, .int 0, .int 0, .int 0, .int 0, .int mi, .int 0, .int 0, .int 0, .int fo, .int 0]))] [] t) (va_A (wd_k_noteSide z sh rg dk hd lg pl pr mi fo) sz)) 0 0 (va_A (wd_k_noteSide z sh rg dk hd lg pl pr mi fo) sz) := by
  refine Met.ofW (cc := cX9_noteSide) (maxL := 2) (ret := none) (by decide) rfl ?_
  intro p e s m args below meth c s₁ B hml hv
  obtain ⟨rfl, hsz, hP, hK, hD0, hM⟩ := hv
  have hx := B.exec
  have hb := B.bytes
  have hr := B.returns
  have hts := atoms_spec (ws := wsX9_noteSide) B.pre
  have hown : s.vm.findClass RX9 = some m.cls := findClass_of_methodNamed B.named
  have hlocks := B.notSynchronized
  subst hsz
  have hD := hD0.self (sz := s.heap.size)
  generalize hAe : va_A (wd_k_noteSide z sh rg dk hd lg pl pr mi fo) s.heap.size = A at hD hM ⊢
  have hA : ∀ q : Nat, s.heap.size ≤ q → A q := fun q h => by rw [← hAe]; exact Or.inr h
  have hS : va_S A s.heap s.heap [] := va_S.rf
  have hP : va_P (dC, dI) vwCl [(sh, .inr (13, [.ref rg, .ref dk, .ref hd, .ref lg, .ref pl, .ref pr, .int 0, .int 0, .int 0, .int 0, .int 0, .int mi, .int 0, .int 0, .int 0, .int fo, .int 0]))] s.heap := hP
  have hD : va_D A [(sh, .inr (13, [.ref rg, .ref dk, .ref hd, .ref lg, .ref pl, .ref pr, .int 0, .int 0, .int 0, .int 0, .int 0, .int mi, .int 0, .int 0, .int 0, .int fo, .int 0]))] := hD
  have hl := lv_entry ([.ref sh]) (n := 2) (Nat.le_of_ble_eq_true rfl)
  rw [lg_entry_eq]
  generalize (lg_sl ([.ref sh]) ++ List.replicate (2 - (lg_sl ([.ref sh])).length) Slot.unset).toArray = ls at hl ⊢
  have hl : lv_has ls 2 [(0, .ref sh)] := hl
  refine lv_aload_n hx hb dX9_noteSide_0 rfl (lv_at hl 0 rfl) ?_
  have hPc := hP.sub (ws' := [(sh, .inr (13, [.ref rg, .ref dk, .ref hd, .ref lg, .ref pl, .ref pr, .int 0, .int 0, .int 0, .int 0, .int 0, .int mi, .int 0, .int 0, .int 0, .int fo, .int 0]))]) [0] rfl
  have hDc := hD.sub (ws' := [(sh, .inr (13, [.ref rg, .ref dk, .ref hd, .ref lg, .ref pl, .ref pr, .int 0, .int 0, .int 0, .int 0, .int 0, .int mi, .int 0, .int 0, .int 0, .int fo, .int 0]))]) [0] (by decide) rfl
  have hKc := hK.sub (tys' := []) [] rfl
  have hFc := va_free (wc := [(sh, .inr (13, [.ref rg, .ref dk, .ref hd, .ref lg, .ref pl, .ref pr, .int 0, .int 0, .int 0, .int 0, .int 0, .int mi, .int 0, .int 0, .int 0, .int fo, .int 0]))]) hD hS hA [0] rfl
  refine va_calli (va_runV (As := []) (rest := []) ⟨hx, hb, hml, hown, hts⟩ (k_windSide l dC dI z zK zV sh rg dk hd lg pl pr mi fo s.heap.size) (cwV 0 hts gX9_noteSide_X9_windSide rfl rfl rfl (by decide +kernel) ⟨Nat.le_of_ble_eq_true rfl, Nat.le_of_ble_eq_true rfl⟩) ⟨kP_blind, va_recv hKc hPc (ci := 13) (q0 := 0) rfl rfl, kP_go hPc hKc hDc hFc hM hS⟩ rfl rfl hl.1 rfl (lv_room (Nat.le_of_ble_eq_true rfl)) dX9_noteSide_1 ⟨Nat.le_of_ble_eq_true rfl, Nat.le_of_ble_eq_true rfl⟩) hS (fun q _ h => hFc q h) hFc (fun r1 u t H1 locs ht hvm hw hB hz1 hk1 hS => ?_)
  obtain ⟨hP, hD, hK⟩ := kJ (wr := []) (w1 := [(sh, .inr (13, [.ref rg, .ref dk, .ref hd, .ref lg, .ref pl, .ref pr, .int 0, .int 0, .int 0, .int 0, .int 0, .int mi, .int 0, .int 0, .int 0, .int fo, .int 0]))]) (t1 := []) hP hD hK [0] [] rfl rfl (by decide) (by decide) hk1 hFc ht hvm hB
  generalize H1 = H at hP hS ⊢
  have hP : va_P (dC, dI) vwCl [(sh, .inr (13, [.ref rg, .ref dk, .ref hd, .ref lg, .ref pl, .ref pr, .int 0, .int 0, .int 0, .int 0, .int 0, .int mi, .int 0, .int 0, .int 0, .int fo, .int 0]))] H := hP
  have hD : va_D A [(sh, .inr (13, [.ref rg, .ref dk, .ref hd, .ref lg, .ref pl, .ref pr, .int 0, .int 0, .int 0, .int 0, .int 0, .int mi, .int 0, .int 0, .int 0, .int fo, .int 0]))] := hD
  have hK : va_K (dC, dI) vwCl [] s := hK
  obtain rfl : 0 = r1 := hw
  refine lv_istore_n (lv' := [(1, .int 0), (0, .ref sh)]) hx hb dX9_noteSide_4 rfl hl (by decide) rfl (fun ls hl => ?_)
  refine lv_iload_n hx hb dX9_noteSide_5 rfl (lv_at hl 0 rfl) ?_
  refine lv_if_ne (tgt := 10) hx hb dX9_noteSide_6 (by decide) (fun c_ => absurd (by decide +kernel) c_) (fun _ => ?_)
  exact W.vret hx hb hr (fun t ht hW => ⟨⟨(), rfl, trivial, kB_end (w9 := [(sh, .inr (13, [.ref rg, .ref dk, .ref hd, .ref lg, .ref pl, .ref pr, .int 0, .int 0, .int 0, .int 0, .int 0, .int mi, .int 0, .int 0, .int 0, .int fo, .int 0]))]) (t9 := []) hP hK hD [0] [] rfl (by decide) rfl rfl t ht hW⟩, hS.F ht⟩) hS.2.2 dX9_noteSide_9
abbrev wd_k_northPart0 (_z : Nat → Nat) : va_W := []
set_option maxHeartbeats 4000000 in
set_option maxRecDepth 100000 in
theorem k_northPart0 (l : Launch) (dC : Nat → ClassId) (dI : Nat → Nat → Nat) (z zK zV : Nat → Nat)  (sz : Nat)  : Met l yX6_northPart wsX6_northPart ({ frames := 0, cells := 0, slots := 0, locals := 0 }) (kP dC dI z zK zV [.int 0] sz (wd_k_northPart0 z) []) (va_Qi (fun (r : Int32) (_ : Unit) => 100 = r) (fun _ t => kB (dC, dI) (va_A (wd_k_northPart0 z) sz) [] [] t) (va_A (wd_k_northPart0 z) sz)) 0 0 (va_A (wd_k_northPart0 z) sz) := by
  refine Met.ofW (cc := cX6_northPart) (maxL := 2) (ret := (some .int)) (by decide) rfl ?_
  intro p e s m args below meth c s₁ B hml hv
  obtain ⟨rfl, hsz, hP, hK, hD0, hM⟩ := hv
  have hx := B.exec
  have hb := B.bytes
  have hr := B.returns
  have hts := atoms_spec (ws := wsX6_northPart) B.pre
  have hown : s.vm.findClass RX6 = some m.cls := findClass_of_methodNamed B.named
  have hlocks := B.notSynchronized
  subst hsz
  have hD := hD0.self (sz := s.heap.size)
  generalize hAe : va_A (wd_k_northPart0 z) s.heap.size = A at hD hM ⊢
  have hA : ∀ q : Nat, s.heap.size ≤ q → A q := fun q h => by rw [← hAe]; exact Or.inr h
  have hS : va_S A s.heap s.heap [] := va_S.rf
  have hP : va_P (dC, dI) vwCl [] s.heap := hP
  have hD : va_D A [] := hD
  have hl := lv_entry ([.int 0]) (n := 2) (Nat.le_of_ble_eq_true rfl)
  rw [lg_entry_eq]
  generalize (lg_sl ([.int 0]) ++ List.replicate (2 - (lg_sl ([.int 0])).length) Slot.unset).toArray = ls at hl ⊢
  have hl : lv_has ls 2 [(0, .int 0)] := hl
  refine lv_iload_n hx hb dX6_northPart_0 rfl (lv_at hl 0 rfl) ?_
  refine lv_bipush (v := 31) hx hb dX6_northPart_1 (by decide) ?_
  refine lv_iand hx hb dX6_northPart_3 ?_
  refine kc_i (y := 0) (by decide +kernel) ?_
  refine lv_istore_n (lv' := [(1, .int 0), (0, .int 0)]) hx hb dX6_northPart_4 rfl hl (by decide) rfl (fun ls hl => ?_)
  refine lv_iload_n hx hb dX6_northPart_5 rfl (lv_at hl 0 rfl) ?_
  refine va_gets hx hb ((hM.2.2.2.2.1 3 (by decide) (by decide)).1) hS hown (hts (.fieldLink RX6 20 "SquareRig$Place" "NORTH_PART" "[I") (by decide +kernel)) (fun _ h9 => h9) dX6_northPart_6 ?_
  refine va_tlen (v := 32) hx hb ((hM.2.2.2.2.1 3 (by decide) (by decide)).2) hS rfl dX6_northPart_9 ?_
  refine lv_icmp_ge (tgt := 21) hx hb dX6_northPart_10 (by decide) (fun c_ => absurd c_ (by decide +kernel)) (fun _ => ?_)
  refine va_gets hx hb ((hM.2.2.2.2.1 3 (by decide) (by decide)).1) hS hown (hts (.fieldLink RX6 20 "SquareRig$Place" "NORTH_PART" "[I") (by decide +kernel)) (fun _ h9 => h9) dX6_northPart_13 ?_
  refine lv_iload_n hx hb dX6_northPart_16 rfl (lv_at hl 0 rfl) ?_
  refine va_ti (v := .int 100) hx hb ((hM.2.2.2.2.1 3 (by decide) (by decide)).2) hS (pk_in 0 32 (by decide) rfl) rfl dX6_northPart_17 ?_
  refine lv_goto (tgt := 22) hx hb dX6_northPart_18 (by decide) ?_
  exact W.iret (v := 100) hx hb hr (fun t ht hW => ⟨⟨100, (), rfl, rfl, kB_end (w9 := []) (t9 := []) hP hK hD [] [] rfl (by decide) rfl rfl t ht hW⟩, hS.F ht⟩) hS.2.2 dX6_northPart_22
abbrev wd_k_northPart16 (_z : Nat → Nat) : va_W := []
set_option maxHeartbeats 4000000 in
set_option maxRecDepth 100000 in
theorem k_northPart16 (l : Launch) (dC : Nat → ClassId) (dI : Nat → Nat → Nat) (z zK zV : Nat → Nat)  (sz : Nat)  : Met l yX6_northPart wsX6_northPart ({ frames := 0, cells := 0, slots := 0, locals := 0 }) (kP dC dI z zK zV [.int 16] sz (wd_k_northPart16 z) []) (va_Qi (fun (r : Int32) (_ : Unit) => (-100) = r) (fun _ t => kB (dC, dI) (va_A (wd_k_northPart16 z) sz) [] [] t) (va_A (wd_k_northPart16 z) sz)) 0 0 (va_A (wd_k_northPart16 z) sz) := by
  refine Met.ofW (cc := cX6_northPart) (maxL := 2) (ret := (some .int)) (by decide) rfl ?_
  intro p e s m args below meth c s₁ B hml hv
  obtain ⟨rfl, hsz, hP, hK, hD0, hM⟩ := hv
  have hx := B.exec
  have hb := B.bytes
  have hr := B.returns
  have hts := atoms_spec (ws := wsX6_northPart) B.pre
  have hown : s.vm.findClass RX6 = some m.cls := findClass_of_methodNamed B.named
  have hlocks := B.notSynchronized
  subst hsz
  have hD := hD0.self (sz := s.heap.size)
  generalize hAe : va_A (wd_k_northPart16 z) s.heap.size = A at hD hM ⊢
  have hA : ∀ q : Nat, s.heap.size ≤ q → A q := fun q h => by rw [← hAe]; exact Or.inr h
  have hS : va_S A s.heap s.heap [] := va_S.rf
  have hP : va_P (dC, dI) vwCl [] s.heap := hP
  have hD : va_D A [] := hD
  have hl := lv_entry ([.int 16]) (n := 2) (Nat.le_of_ble_eq_true rfl)
  rw [lg_entry_eq]
  generalize (lg_sl ([.int 16]) ++ List.replicate (2 - (lg_sl ([.int 16])).length) Slot.unset).toArray = ls at hl ⊢
  have hl : lv_has ls 2 [(0, .int 16)] := hl
  refine lv_iload_n hx hb dX6_northPart_0 rfl (lv_at hl 0 rfl) ?_
  refine lv_bipush (v := 31) hx hb dX6_northPart_1 (by decide) ?_
  refine lv_iand hx hb dX6_northPart_3 ?_
  refine kc_i (y := 16) (by decide +kernel) ?_
  refine lv_istore_n (lv' := [(1, .int 16), (0, .int 16)]) hx hb dX6_northPart_4 rfl hl (by decide) rfl (fun ls hl => ?_)
  refine lv_iload_n hx hb dX6_northPart_5 rfl (lv_at hl 0 rfl) ?_
  refine va_gets hx hb ((hM.2.2.2.2.1 3 (by decide) (by decide)).1) hS hown (hts (.fieldLink RX6 20 "SquareRig$Place" "NORTH_PART" "[I") (by decide +kernel)) (fun _ h9 => h9) dX6_northPart_6 ?_
  refine va_tlen (v := 32) hx hb ((hM.2.2.2.2.1 3 (by decide) (by decide)).2) hS rfl dX6_northPart_9 ?_
  refine lv_icmp_ge (tgt := 21) hx hb dX6_northPart_10 (by decide) (fun c_ => absurd c_ (by decide +kernel)) (fun _ => ?_)
  refine va_gets hx hb ((hM.2.2.2.2.1 3 (by decide) (by decide)).1) hS hown (hts (.fieldLink RX6 20 "SquareRig$Place" "NORTH_PART" "[I") (by decide +kernel)) (fun _ h9 => h9) dX6_northPart_13 ?_
  refine lv_iload_n hx hb dX6_northPart_16 rfl (lv_at hl 0 rfl) ?_
  refine va_ti (v := .int (-100)) hx hb ((hM.2.2.2.2.1 3 (by decide) (by decide)).2) hS (pk_in 16 32 (by decide) rfl) rfl dX6_northPart_17 ?_
  refine lv_goto (tgt := 22) hx hb dX6_northPart_18 (by decide) ?_
  exact W.iret (v := (-100)) hx hb hr (fun t ht hW => ⟨⟨(-100), (), rfl, rfl, kB_end (w9 := []) (t9 := []) hP hK hD [] [] rfl (by decide) rfl rfl t ht hW⟩, hS.F ht⟩) hS.2.2 dX6_northPart_22
abbrev wd_k_northPartm8 (_z : Nat → Nat) : va_W := []
set_option maxHeartbeats 4000000 in
set_option maxRecDepth 100000 in
theorem k_northPartm8 (l : Launch) (dC : Nat → ClassId) (dI : Nat → Nat → Nat) (z zK zV : Nat → Nat)  (sz : Nat)  : Met l yX6_northPart wsX6_northPart ({ frames := 0, cells := 0, slots := 0, locals := 0 }) (kP dC dI z zK zV [.int (-8)] sz (wd_k_northPartm8 z) []) (va_Qi (fun (r : Int32) (_ : Unit) => 0 = r) (fun _ t => kB (dC, dI) (va_A (wd_k_northPartm8 z) sz) [] [] t) (va_A (wd_k_northPartm8 z) sz)) 0 0 (va_A (wd_k_northPartm8 z) sz) := by
  refine Met.ofW (cc := cX6_northPart) (maxL := 2) (ret := (some .int)) (by decide) rfl ?_
  intro p e s m args below meth c s₁ B hml hv
  obtain ⟨rfl, hsz, hP, hK, hD0, hM⟩ := hv
  have hx := B.exec
  have hb := B.bytes
  have hr := B.returns
  have hts := atoms_spec (ws := wsX6_northPart) B.pre
  have hown : s.vm.findClass RX6 = some m.cls := findClass_of_methodNamed B.named
  have hlocks := B.notSynchronized
  subst hsz
  have hD := hD0.self (sz := s.heap.size)
  generalize hAe : va_A (wd_k_northPartm8 z) s.heap.size = A at hD hM ⊢
  have hA : ∀ q : Nat, s.heap.size ≤ q → A q := fun q h => by rw [← hAe]; exact Or.inr h
  have hS : va_S A s.heap s.heap [] := va_S.rf
  have hP : va_P (dC, dI) vwCl [] s.heap := hP
  have hD : va_D A [] := hD
  have hl := lv_entry ([.int (-8)]) (n := 2) (Nat.le_of_ble_eq_true rfl)
  rw [lg_entry_eq]
  generalize (lg_sl ([.int (-8)]) ++ List.replicate (2 - (lg_sl ([.int (-8)])).length) Slot.unset).toArray = ls at hl ⊢
  have hl : lv_has ls 2 [(0, .int (-8))] := hl
  refine lv_iload_n hx hb dX6_northPart_0 rfl (lv_at hl 0 rfl) ?_
  refine lv_bipush (v := 31) hx hb dX6_northPart_1 (by decide) ?_
  refine lv_iand hx hb dX6_northPart_3 ?_
  refine kc_i (y := 24) (by decide +kernel) ?_
  refine lv_istore_n (lv' := [(1, .int 24), (0, .int (-8))]) hx hb dX6_northPart_4 rfl hl (by decide) rfl (fun ls hl => ?_)
  refine lv_iload_n hx hb dX6_northPart_5 rfl (lv_at hl 0 rfl) ?_
  refine va_gets hx hb ((hM.2.2.2.2.1 3 (by decide) (by decide)).1) hS hown (hts (.fieldLink RX6 20 "SquareRig$Place" "NORTH_PART" "[I") (by decide +kernel)) (fun _ h9 => h9) dX6_northPart_6 ?_
  refine va_tlen (v := 32) hx hb ((hM.2.2.2.2.1 3 (by decide) (by decide)).2) hS rfl dX6_northPart_9 ?_
  refine lv_icmp_ge (tgt := 21) hx hb dX6_northPart_10 (by decide) (fun c_ => absurd c_ (by decide +kernel)) (fun _ => ?_)
  refine va_gets hx hb ((hM.2.2.2.2.1 3 (by decide) (by decide)).1) hS hown (hts (.fieldLink RX6 20 "SquareRig$Place" "NORTH_PART" "[I") (by decide +kernel)) (fun _ h9 => h9) dX6_northPart_13 ?_
  refine lv_iload_n hx hb dX6_northPart_16 rfl (lv_at hl 0 rfl) ?_
  refine va_ti (v := .int 0) hx hb ((hM.2.2.2.2.1 3 (by decide) (by decide)).2) hS (pk_in 24 32 (by decide) rfl) rfl dX6_northPart_17 ?_
  refine lv_goto (tgt := 22) hx hb dX6_northPart_18 (by decide) ?_
  exact W.iret (v := 0) hx hb hr (fun t ht hW => ⟨⟨0, (), rfl, rfl, kB_end (w9 := []) (t9 := []) hP hK hD [] [] rfl (by decide) rfl rfl t ht hW⟩, hS.F ht⟩) hS.2.2 dX6_northPart_22
abbrev wd_k_northPart8 (_z : Nat → Nat) : va_W := []
set_option maxHeartbeats 4000000 in
set_option maxRecDepth 100000 in
theorem k_northPart8 (l : Launch) (dC : Nat → ClassId) (dI : Nat → Nat → Nat) (z zK zV : Nat → Nat)  (sz : Nat)  : Met l yX6_northPart wsX6_northPart ({ frames := 0, cells := 0, slots := 0, locals := 0 }) (kP dC dI z zK zV [.int 8] sz (wd_k_northPart8 z) []) (va_Qi (fun (r : Int32) (_ : Unit) => 0 = r) (fun _ t => kB (dC, dI) (va_A (wd_k_northPart8 z) sz) [] [] t) (va_A (wd_k_northPart8 z) sz)) 0 0 (va_A (wd_k_northPart8 z) sz) := by
  refine Met.ofW (cc := cX6_northPart) (maxL := 2) (ret := (some .int)) (by decide) rfl ?_
  intro p e s m args below meth c s₁ B hml hv
  obtain ⟨rfl, hsz, hP, hK, hD0, hM⟩ := hv
  have hx := B.exec
  have hb := B.bytes
  have hr := B.returns
  have hts := atoms_spec (ws := wsX6_northPart) B.pre
  have hown : s.vm.findClass RX6 = some m.cls := findClass_of_methodNamed B.named
  have hlocks := B.notSynchronized
  subst hsz
  have hD := hD0.self (sz := s.heap.size)
  generalize hAe : va_A (wd_k_northPart8 z) s.heap.size = A at hD hM ⊢
  have hA : ∀ q : Nat, s.heap.size ≤ q → A q := fun q h => by rw [← hAe]; exact Or.inr h
  have hS : va_S A s.heap s.heap [] := va_S.rf
  have hP : va_P (dC, dI) vwCl [] s.heap := hP
  have hD : va_D A [] := hD
  have hl := lv_entry ([.int 8]) (n := 2) (Nat.le_of_ble_eq_true rfl)
  rw [lg_entry_eq]
  generalize (lg_sl ([.int 8]) ++ List.replicate (2 - (lg_sl ([.int 8])).length) Slot.unset).toArray = ls at hl ⊢
  have hl : lv_has ls 2 [(0, .int 8)] := hl
  refine lv_iload_n hx hb dX6_northPart_0 rfl (lv_at hl 0 rfl) ?_
  refine lv_bipush (v := 31) hx hb dX6_northPart_1 (by decide) ?_
  refine lv_iand hx hb dX6_northPart_3 ?_
  refine kc_i (y := 8) (by decide +kernel) ?_
  refine lv_istore_n (lv' := [(1, .int 8), (0, .int 8)]) hx hb dX6_northPart_4 rfl hl (by decide) rfl (fun ls hl => ?_)
  refine lv_iload_n hx hb dX6_northPart_5 rfl (lv_at hl 0 rfl) ?_
  refine va_gets hx hb ((hM.2.2.2.2.1 3 (by decide) (by decide)).1) hS hown (hts (.fieldLink RX6 20 "SquareRig$Place" "NORTH_PART" "[I") (by decide +kernel)) (fun _ h9 => h9) dX6_northPart_6 ?_
  refine va_tlen (v := 32) hx hb ((hM.2.2.2.2.1 3 (by decide) (by decide)).2) hS rfl dX6_northPart_9 ?_
  refine lv_icmp_ge (tgt := 21) hx hb dX6_northPart_10 (by decide) (fun c_ => absurd c_ (by decide +kernel)) (fun _ => ?_)
  refine va_gets hx hb ((hM.2.2.2.2.1 3 (by decide) (by decide)).1) hS hown (hts (.fieldLink RX6 20 "SquareRig$Place" "NORTH_PART" "[I") (by decide +kernel)) (fun _ h9 => h9) dX6_northPart_13 ?_
  refine lv_iload_n hx hb dX6_northPart_16 rfl (lv_at hl 0 rfl) ?_
  refine va_ti (v := .int 0) hx hb ((hM.2.2.2.2.1 3 (by decide) (by decide)).2) hS (pk_in 8 32 (by decide) rfl) rfl dX6_northPart_17 ?_
  refine lv_goto (tgt := 22) hx hb dX6_northPart_18 (by decide) ?_
  exact W.iret (v := 0) hx hb hr (fun t ht hW => ⟨⟨0, (), rfl, rfl, kB_end (w9 := []) (t9 := []) hP hK hD [] [] rfl (by decide) rfl rfl t ht hW⟩, hS.F ht⟩) hS.2.2 dX6_northPart_22
abbrev wd_k_Place_go0 (z : Nat → Nat) (pl : Nat) (pe : Int64) (pn : Int64) : va_W := [(pl, .inr (10, [.long pe, .long pn]))]
set_option maxHeartbeats 4000000 in
set_option maxRecDepth 100000 in
theorem k_Place_go0 (l : Launch) (dC : Nat → ClassId) (dI : Nat → Nat → Nat) (z zK zV : Nat → Nat) (pl : Nat) (pe : Int64) (pn : Int64) (sz : Nat)  : Met l yX6_go wsX6_go ({ frames := 1, cells := 0, slots := 0, locals := 21 }) (kP dC dI z zK zV [.ref pl, .int 0, .int 0] sz (wd_k_Place_go0 z pl pe pn) []) (va_Qv (fun _ : Unit => True) (fun _ t => ∃ (u1 : Int64) (u2 : Int64), kB (dC, dI) (va_A (wd_k_Place_go0 z pl pe pn) sz) [(pl, .inr (10, [.long u1, .long u2]))] [] t) (va_A (wd_k_Place_go0 z pl pe pn) sz)) 0 0 (va_A (wd_k_Place_go0 z pl pe pn) sz) := by
  refine Met.ofW (cc := cX6_go) (maxL := 3) (ret := none) (by decide) rfl ?_
  intro p e s m args below meth c s₁ B hml hv
  obtain ⟨rfl, hsz, hP, hK, hD0, hM⟩ := hv
  have hx := B.exec
  have hb := B.bytes
  have hr := B.returns
  have hts := atoms_spec (ws := wsX6_go) B.pre
  have hown : s.vm.findClass RX6 = some m.cls := findClass_of_methodNamed B.named
  have hlocks := B.notSynchronized
  have hiX6 : ∀ w ∈ u_ws RX6 TX6 2, w ∈ wsX6_go := by decide +kernel
  subst hsz
  have hD := hD0.self (sz := s.heap.size)
  generalize hAe : va_A (wd_k_Place_go0 z pl pe pn) s.heap.size = A at hD hM ⊢
  have hA : ∀ q : Nat, s.heap.size ≤ q → A q := fun q h => by rw [← hAe]; exact Or.inr h
  have hS : va_S A s.heap s.heap [] := va_S.rf
  have hP : va_P (dC, dI) vwCl [(pl, .inr (10, [.long pe, .long pn]))] s.heap := hP
  have hD : va_D A [(pl, .inr (10, [.long pe, .long pn]))] := hD
  have hl := lv_entry ([.ref pl, .int 0, .int 0]) (n := 3) (Nat.le_of_ble_eq_true rfl)
  rw [lg_entry_eq]
  generalize (lg_sl ([.ref pl, .int 0, .int 0]) ++ List.replicate (3 - (lg_sl ([.ref pl, .int 0, .int 0])).length) Slot.unset).toArray = ls at hl ⊢
  have hl : lv_has ls 3 [(0, .ref pl), (1, .int 0), (2, .int 0)] := hl
  refine lv_aload_n hx hb dX6_go_0 rfl (lv_at hl 0 rfl) ?_
  refine lv_dup hx hb dX6_go_1 rfl ?_
  refine va_get (D := (dC, dI)) (ci := 10) (v := .long pn) (C := RX6) (T := TX6) (N := 2) hx hb hts hiX6 hown hK hP 0 rfl rfl 1 (by decide) (hts (.fieldLink RX6 13 "SquareRig$Place" "north" "J") (by decide +kernel)) (fun _ h9 => h9) rfl dX6_go_2 ?_
  refine lv_iload_n hx hb dX6_go_5 rfl (lv_at hl 2 rfl) ?_
  refine lv_i2l (v := 0) hx hb dX6_go_6 (by decide +kernel) ?_
  refine lv_iload_n hx hb dX6_go_7 rfl (lv_at hl 1 rfl) ?_
  have hPc := hP.sub (ws' := []) [] rfl
  have hDc := hD.sub (ws' := []) [] (by decide) rfl
  have hKc := hK.sub (tys' := []) [] rfl
  have hFc := va_free (wc := []) hD hS hA [] rfl
  refine va_calli (va_runS (As := [.int 0]) (rest := [.long 0, .long pn, .ref pl]) ⟨hx, hb, hml, hown, hts⟩ (k_northPart0 l dC dI z zK zV  s.heap.size) (va_cwS 1 hts gX6_go_X6_northPart rfl rfl rfl (by decide +kernel) ⟨Nat.le_of_ble_eq_true rfl, Nat.le_of_ble_eq_true rfl⟩) ⟨kP_blind, kP_go hPc hKc hDc hFc hM hS⟩ rfl rfl hl.1 rfl (lv_room (Nat.le_of_ble_eq_true rfl)) dX6_go_8 ⟨Nat.le_of_ble_eq_true rfl, Nat.le_of_ble_eq_true rfl⟩) hS (fun q _ h => hFc q h) hFc (fun r1 u t H1 locs ht hvm hw hB hz1 hk1 hS => ?_)
  obtain ⟨hP, hD, hK⟩ := kJ (wr := [(pl, .inr (10, [.long pe, .long pn]))]) (w1 := []) (t1 := []) hP hD hK [] [0] rfl rfl (by decide) (by decide) hk1 hFc ht hvm hB
  generalize H1 = H at hP hS ⊢
  have hP : va_P (dC, dI) vwCl [(pl, .inr (10, [.long pe, .long pn]))] H := hP
  have hD : va_D A [(pl, .inr (10, [.long pe, .long pn]))] := hD
  have hK : va_K (dC, dI) vwCl [] s := hK
  obtain rfl : 100 = r1 := hw
  refine lv_i2l (v := 100) hx hb dX6_go_11 (by decide +kernel) ?_
  refine lv_lmul hx hb dX6_go_12 ?_
  refine kc_l (y := 0) (by decide +kernel) ?_
  refine lv_ladd hx hb dX6_go_13 ?_
  refine va_put (D := (dC, dI)) (ci := 10) (v := .long (pn + 0)) (ty := .long) (C := RX6) (T := TX6) (N := 2) hx hb hts hiX6 tyX6 tyX6_ok nmX6 hown hK hP hD hS 0 rfl rfl 1 (by decide) (hts (.fieldLink RX6 13 "SquareRig$Place" "north" "J") (by decide +kernel)) (fun _ h9 => h9) rfl (by decide +kernel) rfl rfl (Nat.le_of_ble_eq_true rfl) dX6_go_14 (fun H locs hP hD hS => ?_)
  have hP : va_P (dC, dI) vwCl [(pl, .inr (10, [.long pe, .long (pn + 0)]))] H := hP
  have hD : va_D A [(pl, .inr (10, [.long pe, .long (pn + 0)]))] := hD
  refine lv_aload_n hx hb dX6_go_17 rfl (lv_at hl 0 rfl) ?_
  refine lv_dup hx hb dX6_go_18 rfl ?_
  refine va_get (D := (dC, dI)) (ci := 10) (v := .long pe) (C := RX6) (T := TX6) (N := 2) hx hb hts hiX6 hown hK hP 0 rfl rfl 0 (by decide) (hts (.fieldLink RX6 7 "SquareRig$Place" "east" "J") (by decide +kernel)) (fun _ h9 => h9) rfl dX6_go_19 ?_
  refine lv_iload_n hx hb dX6_go_22 rfl (lv_at hl 2 rfl) ?_
  refine lv_i2l (v := 0) hx hb dX6_go_23 (by decide +kernel) ?_
  refine lv_iload_n hx hb dX6_go_24 rfl (lv_at hl 1 rfl) ?_
  refine lv_bipush (v := 8) hx hb dX6_go_25 (by decide) ?_
  refine lv_isub hx hb dX6_go_27 ?_
  refine kc_i (y := (-8)) (by decide +kernel) ?_
  have hPc := hP.sub (ws' := []) [] rfl
  have hDc := hD.sub (ws' := []) [] (by decide) rfl
  have hKc := hK.sub (tys' := []) [] rfl
  have hFc := va_free (wc := []) hD hS hA [] rfl
  refine va_calli (va_runS (As := [.int (-8)]) (rest := [.long 0, .long pe, .ref pl]) ⟨hx, hb, hml, hown, hts⟩ (k_northPartm8 l dC dI z zK zV  H.size) (va_cwS 1 hts gX6_go_X6_northPart rfl rfl rfl (by decide +kernel) ⟨Nat.le_of_ble_eq_true rfl, Nat.le_of_ble_eq_true rfl⟩) ⟨kP_blind, kP_go hPc hKc hDc hFc hM hS⟩ rfl rfl hl.1 rfl (lv_room (Nat.le_of_ble_eq_true rfl)) dX6_go_28 ⟨Nat.le_of_ble_eq_true rfl, Nat.le_of_ble_eq_true rfl⟩) hS (fun q _ h => hFc q h) hFc (fun r2 u t H1 locs ht hvm hw hB hz1 hk1 hS => ?_)
  obtain ⟨hP, hD, hK⟩ := kJ (wr := [(pl, .inr (10, [.long pe, .long (pn + 0)]))]) (w1 := []) (t1 := []) hP hD hK [] [0] rfl rfl (by decide) (by decide) hk1 hFc ht hvm hB
  generalize H1 = H at hP hS ⊢
  have hP : va_P (dC, dI) vwCl [(pl, .inr (10, [.long pe, .long (pn + 0)]))] H := hP
  have hD : va_D A [(pl, .inr (10, [.long pe, .long (pn + 0)]))] := hD
  have hK : va_K (dC, dI) vwCl [] s := hK
  obtain rfl : 0 = r2 := hw
  refine lv_i2l (v := 0) hx hb dX6_go_31 (by decide +kernel) ?_
  refine lv_lmul hx hb dX6_go_32 ?_
  refine kc_l (y := 0) (by decide +kernel) ?_
  refine lv_ladd hx hb dX6_go_33 ?_
  refine va_put (D := (dC, dI)) (ci := 10) (v := .long (pe + 0)) (ty := .long) (C := RX6) (T := TX6) (N := 2) hx hb hts hiX6 tyX6 tyX6_ok nmX6 hown hK hP hD hS 0 rfl rfl 0 (by decide) (hts (.fieldLink RX6 7 "SquareRig$Place" "east" "J") (by decide +kernel)) (fun _ h9 => h9) rfl (by decide +kernel) rfl rfl (Nat.le_of_ble_eq_true rfl) dX6_go_34 (fun H locs hP hD hS => ?_)
  have hP : va_P (dC, dI) vwCl [(pl, .inr (10, [.long (pe + 0), .long (pn + 0)]))] H := hP
  have hD : va_D A [(pl, .inr (10, [.long (pe + 0), .long (pn + 0)]))] := hD
  exact W.vret hx hb hr (fun t ht hW => ⟨⟨(), rfl, trivial, ⟨(pe + 0), (pn + 0), kB_end (w9 := [(pl, .inr (10, [.long (pe + 0), .long (pn + 0)]))]) (t9 := []) hP hK hD [0] [] rfl (by decide) rfl rfl t ht hW⟩⟩, hS.F ht⟩) hS.2.2 dX6_go_37
abbrev wd_k_Place_go16 (z : Nat → Nat) (pl : Nat) (pe : Int64) (pn : Int64) : va_W := [(pl, .inr (10, [.long pe, .long pn]))]
set_option maxHeartbeats 4000000 in
set_option maxRecDepth 100000 in
theorem k_Place_go16 (l : Launch) (dC : Nat → ClassId) (dI : Nat → Nat → Nat) (z zK zV : Nat → Nat) (pl : Nat) (pe : Int64) (pn : Int64) (sz : Nat)  : Met l yX6_go wsX6_go ({ frames := 1, cells := 0, slots := 0, locals := 21 }) (kP dC dI z zK zV [.ref pl, .int 16, .int 0] sz (wd_k_Place_go16 z pl pe pn) []) (va_Qv (fun _ : Unit => True) (fun _ t => ∃ (u1 : Int64) (u2 : Int64), kB (dC, dI) (va_A (wd_k_Place_go16 z pl pe pn) sz) [(pl, .inr (10, [.long u1, .long u2]))] [] t) (va_A (wd_k_Place_go16 z pl pe pn) sz)) 0 0 (va_A (wd_k_Place_go16 z pl pe pn) sz) := by
  refine Met.ofW (cc := cX6_go) (maxL := 3) (ret := none) (by decide) rfl ?_
  intro p e s m args below meth c s₁ B hml hv
  obtain ⟨rfl, hsz, hP, hK, hD0, hM⟩ := hv
  have hx := B.exec
  have hb := B.bytes
  have hr := B.returns
  have hts := atoms_spec (ws := wsX6_go) B.pre
  have hown : s.vm.findClass RX6 = some m.cls := findClass_of_methodNamed B.named
  have hlocks := B.notSynchronized
  have hiX6 : ∀ w ∈ u_ws RX6 TX6 2, w ∈ wsX6_go := by decide +kernel
  subst hsz
  have hD := hD0.self (sz := s.heap.size)
  generalize hAe : va_A (wd_k_Place_go16 z pl pe pn) s.heap.size = A at hD hM ⊢
  have hA : ∀ q : Nat, s.heap.size ≤ q → A q := fun q h => by rw [← hAe]; exact Or.inr h
  have hS : va_S A s.heap s.heap [] := va_S.rf
  have hP : va_P (dC, dI) vwCl [(pl, .inr (10, [.long pe, .long pn]))] s.heap := hP
  have hD : va_D A [(pl, .inr (10, [.long pe, .long pn]))] := hD
  have hl := lv_entry ([.ref pl, .int 16, .int 0]) (n := 3) (Nat.le_of_ble_eq_true rfl)
  rw [lg_entry_eq]
  generalize (lg_sl ([.ref pl, .int 16, .int 0]) ++ List.replicate (3 - (lg_sl ([.ref pl, .int 16, .int 0])).length) Slot.unset).toArray = ls at hl ⊢
  have hl : lv_has ls 3 [(0, .ref pl), (1, .int 16), (2, .int 0)] := hl
  refine lv_aload_n hx hb dX6_go_0 rfl (lv_at hl 0 rfl) ?_
  refine lv_dup hx hb dX6_go_1 rfl ?_
  refine va_get (D := (dC, dI)) (ci := 10) (v := .long pn) (C := RX6) (T := TX6) (N := 2) hx hb hts hiX6 hown hK hP 0 rfl rfl 1 (by decide) (hts (.fieldLink RX6 13 "SquareRig$Place" "north" "J") (by decide +kernel)) (fun _ h9 => h9) rfl dX6_go_2 ?_
  refine lv_iload_n hx hb dX6_go_5 rfl (lv_at hl 2 rfl) ?_
  refine lv_i2l (v := 0) hx hb dX6_go_6 (by decide +kernel) ?_
  refine lv_iload_n hx hb dX6_go_7 rfl (lv_at hl 1 rfl) ?_
  have hPc := hP.sub (ws' := []) [] rfl
  have hDc := hD.sub (ws' := []) [] (by decide) rfl
  have hKc := hK.sub (tys' := []) [] rfl
  have hFc := va_free (wc := []) hD hS hA [] rfl
  refine va_calli (va_runS (As := [.int 16]) (rest := [.long 0, .long pn, .ref pl]) ⟨hx, hb, hml, hown, hts⟩ (k_northPart16 l dC dI z zK zV  s.heap.size) (va_cwS 1 hts gX6_go_X6_northPart rfl rfl rfl (by decide +kernel) ⟨Nat.le_of_ble_eq_true rfl, Nat.le_of_ble_eq_true rfl⟩) ⟨kP_blind, kP_go hPc hKc hDc hFc hM hS⟩ rfl rfl hl.1 rfl (lv_room (Nat.le_of_ble_eq_true rfl)) dX6_go_8 ⟨Nat.le_of_ble_eq_true rfl, Nat.le_of_ble_eq_true rfl⟩) hS (fun q _ h => hFc q h) hFc (fun r1 u t H1 locs ht hvm hw hB hz1 hk1 hS => ?_)
  obtain ⟨hP, hD, hK⟩ := kJ (wr := [(pl, .inr (10, [.long pe, .long pn]))]) (w1 := []) (t1 := []) hP hD hK [] [0] rfl rfl (by decide) (by decide) hk1 hFc ht hvm hB
  generalize H1 = H at hP hS ⊢
  have hP : va_P (dC, dI) vwCl [(pl, .inr (10, [.long pe, .long pn]))] H := hP
  have hD : va_D A [(pl, .inr (10, [.long pe, .long pn]))] := hD
  have hK : va_K (dC, dI) vwCl [] s := hK
  obtain rfl : (-100) = r1 := hw
  refine lv_i2l (v := (-100)) hx hb dX6_go_11 (by decide +kernel) ?_
  refine lv_lmul hx hb dX6_go_12 ?_
  refine kc_l (y := 0) (by decide +kernel) ?_
  refine lv_ladd hx hb dX6_go_13 ?_
  refine va_put (D := (dC, dI)) (ci := 10) (v := .long (pn + 0)) (ty := .long) (C := RX6) (T := TX6) (N := 2) hx hb hts hiX6 tyX6 tyX6_ok nmX6 hown hK hP hD hS 0 rfl rfl 1 (by decide) (hts (.fieldLink RX6 13 "SquareRig$Place" "north" "J") (by decide +kernel)) (fun _ h9 => h9) rfl (by decide +kernel) rfl rfl (Nat.le_of_ble_eq_true rfl) dX6_go_14 (fun H locs hP hD hS => ?_)
  have hP : va_P (dC, dI) vwCl [(pl, .inr (10, [.long pe, .long (pn + 0)]))] H := hP
  have hD : va_D A [(pl, .inr (10, [.long pe, .long (pn + 0)]))] := hD
  refine lv_aload_n hx hb dX6_go_17 rfl (lv_at hl 0 rfl) ?_
  refine lv_dup hx hb dX6_go_18 rfl ?_
  refine va_get (D := (dC, dI)) (ci := 10) (v := .long pe) (C := RX6) (T := TX6) (N := 2) hx hb hts hiX6 hown hK hP 0 rfl rfl 0 (by decide) (hts (.fieldLink RX6 7 "SquareRig$Place" "east" "J") (by decide +kernel)) (fun _ h9 => h9) rfl dX6_go_19 ?_
  refine lv_iload_n hx hb dX6_go_22 rfl (lv_at hl 2 rfl) ?_
  refine lv_i2l (v := 0) hx hb dX6_go_23 (by decide +kernel) ?_
  refine lv_iload_n hx hb dX6_go_24 rfl (lv_at hl 1 rfl) ?_
  refine lv_bipush (v := 8) hx hb dX6_go_25 (by decide) ?_
  refine lv_isub hx hb dX6_go_27 ?_
  refine kc_i (y := 8) (by decide +kernel) ?_
  have hPc := hP.sub (ws' := []) [] rfl
  have hDc := hD.sub (ws' := []) [] (by decide) rfl
  have hKc := hK.sub (tys' := []) [] rfl
  have hFc := va_free (wc := []) hD hS hA [] rfl
  refine va_calli (va_runS (As := [.int 8]) (rest := [.long 0, .long pe, .ref pl]) ⟨hx, hb, hml, hown, hts⟩ (k_northPart8 l dC dI z zK zV  H.size) (va_cwS 1 hts gX6_go_X6_northPart rfl rfl rfl (by decide +kernel) ⟨Nat.le_of_ble_eq_true rfl, Nat.le_of_ble_eq_true rfl⟩) ⟨kP_blind, kP_go hPc hKc hDc hFc hM hS⟩ rfl rfl hl.1 rfl (lv_room (Nat.le_of_ble_eq_true rfl)) dX6_go_28 ⟨Nat.le_of_ble_eq_true rfl, Nat.le_of_ble_eq_true rfl⟩) hS (fun q _ h => hFc q h) hFc (fun r2 u t H1 locs ht hvm hw hB hz1 hk1 hS => ?_)
  obtain ⟨hP, hD, hK⟩ := kJ (wr := [(pl, .inr (10, [.long pe, .long (pn + 0)]))]) (w1 := []) (t1 := []) hP hD hK [] [0] rfl rfl (by decide) (by decide) hk1 hFc ht hvm hB
  generalize H1 = H at hP hS ⊢
  have hP : va_P (dC, dI) vwCl [(pl, .inr (10, [.long pe, .long (pn + 0)]))] H := hP
  have hD : va_D A [(pl, .inr (10, [.long pe, .long (pn + 0)]))] := hD
  have hK : va_K (dC, dI) vwCl [] s := hK
  obtain rfl : 0 = r2 := hw
  refine lv_i2l (v := 0) hx hb dX6_go_31 (by decide +kernel) ?_
  refine lv_lmul hx hb dX6_go_32 ?_
  refine kc_l (y := 0) (by decide +kernel) ?_
  refine lv_ladd hx hb dX6_go_33 ?_
  refine va_put (D := (dC, dI)) (ci := 10) (v := .long (pe + 0)) (ty := .long) (C := RX6) (T := TX6) (N := 2) hx hb hts hiX6 tyX6 tyX6_ok nmX6 hown hK hP hD hS 0 rfl rfl 0 (by decide) (hts (.fieldLink RX6 7 "SquareRig$Place" "east" "J") (by decide +kernel)) (fun _ h9 => h9) rfl (by decide +kernel) rfl rfl (Nat.le_of_ble_eq_true rfl) dX6_go_34 (fun H locs hP hD hS => ?_)
  have hP : va_P (dC, dI) vwCl [(pl, .inr (10, [.long (pe + 0), .long (pn + 0)]))] H := hP
  have hD : va_D A [(pl, .inr (10, [.long (pe + 0), .long (pn + 0)]))] := hD
  exact W.vret hx hb hr (fun t ht hW => ⟨⟨(), rfl, trivial, ⟨(pe + 0), (pn + 0), kB_end (w9 := [(pl, .inr (10, [.long (pe + 0), .long (pn + 0)]))]) (t9 := []) hP hK hD [0] [] rfl (by decide) rfl rfl t ht hW⟩⟩, hS.F ht⟩) hS.2.2 dX6_go_37
abbrev wd_k_go (z : Nat → Nat) (sh : Nat) (rg : Nat) (mf : Nat) (mm : Nat) (mz : Nat) (ma : Nat) (sa : Nat) (dk : Nat) (hd : Nat) (lg : Nat) (pl : Nat) (pr : Nat) (mi : Int32) (fo : Int32) (pe : Int64) (pn : Int64) : va_W := [(sh, .inr (13, [.ref rg, .ref dk, .ref hd, .ref lg, .ref pl, .ref pr, .int 0, .int 0, .int 0, .int 0, .int 0, .int mi, .int 0, .int 0, .int 0, .int fo, .int 0])), (pl, .inr (10, [.long pe, .long pn])), (rg, .inr (11, [.ref mf, .ref mm, .ref mz, .ref ma, .ref sa, .int 0])), (mf, .inr (8, [.int 0, .int 0, .int 0])), (mm, .inr (8, [.int 0, .int 0, .int 0])), (mz, .inr (8, [.int 0, .int 0, .int 0]))]
set_option maxHeartbeats 4000000 in
set_option maxRecDepth 100000 in
theorem k_go (l : Launch) (dC : Nat → ClassId) (dI : Nat → Nat → Nat) (z zK zV : Nat → Nat) (sh : Nat) (rg : Nat) (mf : Nat) (mm : Nat) (mz : Nat) (ma : Nat) (sa : Nat) (dk : Nat) (hd : Nat) (lg : Nat) (pl : Nat) (pr : Nat) (mi : Int32) (fo : Int32) (pe : Int64) (pn : Int64) (sz : Nat)  : Met l yX9_go wsX9_go ({ frames := 2, cells := 0, slots := 0, locals := 43 }) (kP dC dI z zK zV [.ref sh] sz (wd_k_go z sh rg mf mm mz ma sa dk hd lg pl pr mi fo pe pn) []) (va_Qv (fun _ : Unit => True) (fun _ t => ∃ (u1 : Int64) (u2 : Int64), kB (dC, dI) (va_A (wd_k_go z sh rg mf mm mz ma sa dk hd lg pl pr mi fo pe pn) sz) [(sh, .inr (13, [.ref rg, .ref dk, .ref hd, .ref lg, .ref pl, .ref pr, .int 0, .int 0, .int 0, .int 0, .int 0, .int mi, .int 0, .int 0, .int 0, .int fo, .int 0])), (rg, .inr (11, [.ref mf, .ref mm, .ref mz, .ref ma, .ref sa, .int 0])), (mf, .inr (8, [.int 0, .int 0, .int 0])), (mm, .inr (8, [.int 0, .int 0, .int 0])), (mz, .inr (8, [.int 0, .int 0, .int 0])), (pl, .inr (10, [.long u1, .long u2]))] [] t) (va_A (wd_k_go z sh rg mf mm mz ma sa dk hd lg pl pr mi fo pe pn) sz)) 0 0 (va_A (wd_k_go z sh rg mf mm mz ma sa dk hd lg pl pr mi fo pe pn) sz) := by
  refine Met.ofW (cc := cX9_go) (maxL := 1) (ret := none) (by decide) rfl ?_
  intro p e s m args below meth c s₁ B hml hv
  obtain ⟨rfl, hsz, hP, hK, hD0, hM⟩ := hv
  have hx := B.exec
  have hb := B.bytes
  have hr := B.returns
  have hts := atoms_spec (ws := wsX9_go) B.pre
  have hown : s.vm.findClass RX9 = some m.cls := findClass_of_methodNamed B.named
  have hlocks := B.notSynchronized
  have hiX9 : ∀ w ∈ u_ws RX9 TX9 17, w ∈ wsX9_go := by decide +kernel
  have hiX6 : ∀ w ∈ u_ws RX6 TX6 2, w ∈ wsX9_go := by decide +kernel
  subst hsz
  have hD := hD0.self (sz := s.heap.size)
  generalize hAe : va_A (wd_k_go z sh rg mf mm mz ma sa dk hd lg pl pr mi fo pe pn) s.heap.size = A at hD hM ⊢
  have hA : ∀ q : Nat, s.heap.size ≤ q → A q := fun q h => by rw [← hAe]; exact Or.inr h
  have hS : va_S A s.heap s.heap [] := va_S.rf
  have hP : va_P (dC, dI) vwCl [(sh, .inr (13, [.ref rg, .ref dk, .ref hd, .ref lg, .ref pl, .ref pr, .int 0, .int 0, .int 0, .int 0, .int 0, .int mi, .int 0, .int 0, .int 0, .int fo, .int 0])), (pl, .inr (10, [.long pe, .long pn])), (rg, .inr (11, [.ref mf, .ref mm, .ref mz, .ref ma, .ref sa, .int 0])), (mf, .inr (8, [.int 0, .int 0, .int 0])), (mm, .inr (8, [.int 0, .int 0, .int 0])), (mz, .inr (8, [.int 0, .int 0, .int 0]))] s.heap := hP
  have hD : va_D A [(sh, .inr (13, [.ref rg, .ref dk, .ref hd, .ref lg, .ref pl, .ref pr, .int 0, .int 0, .int 0, .int 0, .int 0, .int mi, .int 0, .int 0, .int 0, .int fo, .int 0])), (pl, .inr (10, [.long pe, .long pn])), (rg, .inr (11, [.ref mf, .ref mm, .ref mz, .ref ma, .ref sa, .int 0])), (mf, .inr (8, [.int 0, .int 0, .int 0])), (mm, .inr (8, [.int 0, .int 0, .int 0])), (mz, .inr (8, [.int 0, .int 0, .int 0]))] := hD
  have hl := lv_entry ([.ref sh]) (n := 1) (Nat.le_of_ble_eq_true rfl)
  rw [lg_entry_eq]
  generalize (lg_sl ([.ref sh]) ++ List.replicate (1 - (lg_sl ([.ref sh])).length) Slot.unset).toArray = ls at hl ⊢
  have hl : lv_has ls 1 [(0, .ref sh)] := hl
  refine lv_aload_n hx hb dX9_go_0 rfl (lv_at hl 0 rfl) ?_
  refine va_get (D := (dC, dI)) (ci := 13) (v := .ref pl) (C := RX9) (T := TX9) (N := 17) hx hb hts hiX9 hown hK hP 0 rfl rfl 4 (by decide) (hts (.fieldLink RX9 42 "SquareRig$Ship" "place" "LSquareRig$Place;") (by decide +kernel)) (fun _ h9 => h9) rfl dX9_go_1 ?_
  refine lv_aload_n hx hb dX9_go_4 rfl (lv_at hl 0 rfl) ?_
  refine va_get (D := (dC, dI)) (ci := 13) (v := .int 0) (C := RX9) (T := TX9) (N := 17) hx hb hts hiX9 hown hK hP 0 rfl rfl 12 (by decide) (hts (.fieldLink RX9 68 "SquareRig$Ship" "heading" "I") (by decide +kernel)) (fun _ h9 => h9) rfl dX9_go_5 ?_
  refine lv_aload_n hx hb dX9_go_8 rfl (lv_at hl 0 rfl) ?_
  refine va_get (D := (dC, dI)) (ci := 13) (v := .int 0) (C := RX9) (T := TX9) (N := 17) hx hb hts hiX9 hown hK hP 0 rfl rfl 13 (by decide) (hts (.fieldLink RX9 71 "SquareRig$Ship" "speed" "I") (by decide +kernel)) (fun _ h9 => h9) rfl dX9_go_9 ?_
  have hPc := hP.sub (ws' := [(pl, .inr (10, [.long pe, .long pn]))]) [1] rfl
  have hDc := hD.sub (ws' := [(pl, .inr (10, [.long pe, .long pn]))]) [1] (by decide) rfl
  have hKc := hK.sub (tys' := []) [] rfl
  have hFc := va_free (wc := [(pl, .inr (10, [.long pe, .long pn]))]) hD hS hA [1] rfl
  refine va_callv (va_runV (As := [.int 0, .int 0]) (rest := []) ⟨hx, hb, hml, hown, hts⟩ (k_Place_go0 l dC dI z zK zV pl pe pn s.heap.size) (cwV 2 hts gX9_go_X6_go rfl rfl rfl (by decide +kernel) ⟨Nat.le_of_ble_eq_true rfl, Nat.le_of_ble_eq_true rfl⟩) ⟨kP_blind, va_recv hKc hPc (ci := 10) (q0 := 0) rfl rfl, kP_go hPc hKc hDc hFc hM hS⟩ rfl rfl hl.1 rfl (lv_room (Nat.le_of_ble_eq_true rfl)) dX9_go_12 ⟨Nat.le_of_ble_eq_true rfl, Nat.le_of_ble_eq_true rfl⟩) hS (fun q _ h => hFc q h) hFc (fun u t H1 locs ht hvm hw hB hz1 hk1 hS => ?_)
  obtain ⟨u1, u2, hB⟩ := hB
  obtain ⟨hP, hD, hK⟩ := kJ (wr := [(sh, .inr (13, [.ref rg, .ref dk, .ref hd, .ref lg, .ref pl, .ref pr, .int 0, .int 0, .int 0, .int 0, .int 0, .int mi, .int 0, .int 0, .int 0, .int fo, .int 0])), (rg, .inr (11, [.ref mf, .ref mm, .ref mz, .ref ma, .ref sa, .int 0])), (mf, .inr (8, [.int 0, .int 0, .int 0])), (mm, .inr (8, [.int 0, .int 0, .int 0])), (mz, .inr (8, [.int 0, .int 0, .int 0]))]) (w1 := [(pl, .inr (10, [.long u1, .long u2]))]) (t1 := []) hP hD hK [1] [0, 2, 3, 4, 5] rfl rfl (by decide) (by decide) hk1 hFc ht hvm hB
  generalize H1 = H at hP hS ⊢
  have hP : va_P (dC, dI) vwCl [(sh, .inr (13, [.ref rg, .ref dk, .ref hd, .ref lg, .ref pl, .ref pr, .int 0, .int 0, .int 0, .int 0, .int 0, .int mi, .int 0, .int 0, .int 0, .int fo, .int 0])), (rg, .inr (11, [.ref mf, .ref mm, .ref mz, .ref ma, .ref sa, .int 0])), (mf, .inr (8, [.int 0, .int 0, .int 0])), (mm, .inr (8, [.int 0, .int 0, .int 0])), (mz, .inr (8, [.int 0, .int 0, .int 0])), (pl, .inr (10, [.long u1, .long u2]))] H := hP
  have hD : va_D A [(sh, .inr (13, [.ref rg, .ref dk, .ref hd, .ref lg, .ref pl, .ref pr, .int 0, .int 0, .int 0, .int 0, .int 0, .int mi, .int 0, .int 0, .int 0, .int fo, .int 0])), (rg, .inr (11, [.ref mf, .ref mm, .ref mz, .ref ma, .ref sa, .int 0])), (mf, .inr (8, [.int 0, .int 0, .int 0])), (mm, .inr (8, [.int 0, .int 0, .int 0])), (mz, .inr (8, [.int 0, .int 0, .int 0])), (pl, .inr (10, [.long u1, .long u2]))] := hD
  have hK : va_K (dC, dI) vwCl [] s := hK
  clear hw
  refine lv_aload_n hx hb dX9_go_15 rfl (lv_at hl 0 rfl) ?_
  have hPc := hP.sub (ws' := [(sh, .inr (13, [.ref rg, .ref dk, .ref hd, .ref lg, .ref pl, .ref pr, .int 0, .int 0, .int 0, .int 0, .int 0, .int mi, .int 0, .int 0, .int 0, .int fo, .int 0]))]) [0] rfl
  have hDc := hD.sub (ws' := [(sh, .inr (13, [.ref rg, .ref dk, .ref hd, .ref lg, .ref pl, .ref pr, .int 0, .int 0, .int 0, .int 0, .int 0, .int mi, .int 0, .int 0, .int 0, .int fo, .int 0]))]) [0] (by decide) rfl
  have hKc := hK.sub (tys' := []) [] rfl
  have hFc := va_free (wc := [(sh, .inr (13, [.ref rg, .ref dk, .ref hd, .ref lg, .ref pl, .ref pr, .int 0, .int 0, .int 0, .int 0, .int 0, .int mi, .int 0, .int 0, .int 0, .int fo, .int 0]))]) hD hS hA [0] rfl
  refine va_calli (va_runV (As := []) (rest := []) ⟨hx, hb, hml, hown, hts⟩ (k_offBow l dC dI z zK zV sh rg dk hd lg pl pr mi fo H.size) (cwV 0 hts gX9_go_X9_offBow rfl rfl rfl (by decide +kernel) ⟨Nat.le_of_ble_eq_true rfl, Nat.le_of_ble_eq_true rfl⟩) ⟨kP_blind, va_recv hKc hPc (ci := 13) (q0 := 0) rfl rfl, kP_go hPc hKc hDc hFc hM hS⟩ rfl rfl hl.1 rfl (lv_room (Nat.le_of_ble_eq_true rfl)) dX9_go_16 ⟨Nat.le_of_ble_eq_true rfl, Nat.le_of_ble_eq_true rfl⟩) hS (fun q _ h => hFc q h) hFc (fun r3 u t H1 locs ht hvm hw hB hz1 hk1 hS => ?_)
  obtain ⟨hP, hD, hK⟩ := kJ (wr := [(rg, .inr (11, [.ref mf, .ref mm, .ref mz, .ref ma, .ref sa, .int 0])), (mf, .inr (8, [.int 0, .int 0, .int 0])), (mm, .inr (8, [.int 0, .int 0, .int 0])), (mz, .inr (8, [.int 0, .int 0, .int 0])), (pl, .inr (10, [.long u1, .long u2]))]) (w1 := [(sh, .inr (13, [.ref rg, .ref dk, .ref hd, .ref lg, .ref pl, .ref pr, .int 0, .int 0, .int 0, .int 0, .int 0, .int mi, .int 0, .int 0, .int 0, .int fo, .int 0]))]) (t1 := []) hP hD hK [0] [1, 2, 3, 4, 5] rfl rfl (by decide) (by decide) hk1 hFc ht hvm hB
  generalize H1 = H at hP hS ⊢
  have hP : va_P (dC, dI) vwCl [(rg, .inr (11, [.ref mf, .ref mm, .ref mz, .ref ma, .ref sa, .int 0])), (mf, .inr (8, [.int 0, .int 0, .int 0])), (mm, .inr (8, [.int 0, .int 0, .int 0])), (mz, .inr (8, [.int 0, .int 0, .int 0])), (pl, .inr (10, [.long u1, .long u2])), (sh, .inr (13, [.ref rg, .ref dk, .ref hd, .ref lg, .ref pl, .ref pr, .int 0, .int 0, .int 0, .int 0, .int 0, .int mi, .int 0, .int 0, .int 0, .int fo, .int 0]))] H := hP
  have hD : va_D A [(rg, .inr (11, [.ref mf, .ref mm, .ref mz, .ref ma, .ref sa, .int 0])), (mf, .inr (8, [.int 0, .int 0, .int 0])), (mm, .inr (8, [.int 0, .int 0, .int 0])), (mz, .inr (8, [.int 0, .int 0, .int 0])), (pl, .inr (10, [.long u1, .long u2])), (sh, .inr (13, [.ref rg, .ref dk, .ref hd, .ref lg, .ref pl, .ref pr, .int 0, .int 0, .int 0, .int 0, .int 0, .int mi, .int 0, .int 0, .int 0, .int fo, .int 0]))] := hD
  have hK : va_K (dC, dI) vwCl [] s := hK
  obtain rfl : 0 = r3 := hw
  refine va_mabs hx hb (hml.trans hl.1.symm) hown (hts (.methodLink RX9 192 Lib.Math.abs.name) (by decide +kernel)) (hts (.static Lib.Math.abs.name) (by decide +kernel)) (hts (.initialized "java/lang/Math") (by decide +kernel)) (hts (.code Lib.Math.abs.name Lib.Math.abs.code 1 (some .int)) (by decide +kernel)) (Nat.le_of_ble_eq_true rfl) (Nat.le_of_ble_eq_true rfl) (Nat.le_of_ble_eq_true rfl) (Nat.le_of_ble_eq_true rfl) dX9_go_19 ?_
  refine kc_i (y := 0) (by decide +kernel) ?_
  refine lv_bipush (v := 10) hx hb dX9_go_22 (by decide) ?_
  refine lv_icmp_gt (tgt := 52) hx hb dX9_go_24 (by decide) (fun c_ => absurd c_ (by decide +kernel)) (fun _ => ?_)
  refine lv_aload_n hx hb dX9_go_27 rfl (lv_at hl 0 rfl) ?_
  refine va_get (D := (dC, dI)) (ci := 13) (v := .ref pl) (C := RX9) (T := TX9) (N := 17) hx hb hts hiX9 hown hK hP 5 rfl rfl 4 (by decide) (hts (.fieldLink RX9 42 "SquareRig$Ship" "place" "LSquareRig$Place;") (by decide +kernel)) (fun _ h9 => h9) rfl dX9_go_28 ?_
  refine lv_aload_n hx hb dX9_go_31 rfl (lv_at hl 0 rfl) ?_
  refine va_get (D := (dC, dI)) (ci := 13) (v := .int 0) (C := RX9) (T := TX9) (N := 17) hx hb hts hiX9 hown hK hP 5 rfl rfl 6 (by decide) (hts (.fieldLink RX9 49 "SquareRig$Ship" "windFrom" "I") (by decide +kernel)) (fun _ h9 => h9) rfl dX9_go_32 ?_
  refine lv_bipush (v := 16) hx hb dX9_go_35 (by decide) ?_
  refine lv_iadd hx hb dX9_go_37 ?_
  refine kc_i (y := 16) (by decide +kernel) ?_
  refine lv_aload_n hx hb dX9_go_38 rfl (lv_at hl 0 rfl) ?_
  refine va_get (D := (dC, dI)) (ci := 13) (v := .ref rg) (C := RX9) (T := TX9) (N := 17) hx hb hts hiX9 hown hK hP 5 rfl rfl 0 (by decide) (hts (.fieldLink RX9 12 "SquareRig$Ship" "rig" "LSquareRig$Rig;") (by decide +kernel)) (fun _ h9 => h9) rfl dX9_go_39 ?_
  have hPc := hP.sub (ws' := [(rg, .inr (11, [.ref mf, .ref mm, .ref mz, .ref ma, .ref sa, .int 0])), (mf, .inr (8, [.int 0, .int 0, .int 0])), (mm, .inr (8, [.int 0, .int 0, .int 0])), (mz, .inr (8, [.int 0, .int 0, .int 0]))]) [0, 1, 2, 3] rfl
  have hDc := hD.sub (ws' := [(rg, .inr (11, [.ref mf, .ref mm, .ref mz, .ref ma, .ref sa, .int 0])), (mf, .inr (8, [.int 0, .int 0, .int 0])), (mm, .inr (8, [.int 0, .int 0, .int 0])), (mz, .inr (8, [.int 0, .int 0, .int 0]))]) [0, 1, 2, 3] (by decide) rfl
  have hKc := hK.sub (tys' := []) [] rfl
  have hFc := va_free (wc := [(rg, .inr (11, [.ref mf, .ref mm, .ref mz, .ref ma, .ref sa, .int 0])), (mf, .inr (8, [.int 0, .int 0, .int 0])), (mm, .inr (8, [.int 0, .int 0, .int 0])), (mz, .inr (8, [.int 0, .int 0, .int 0]))]) hD hS hA [0, 1, 2, 3] rfl
  refine va_calli (va_runV (As := []) (rest := [.int 16, .ref pl]) ⟨hx, hb, hml, hown, hts⟩ (k_wholeStrain l dC dI z zK zV rg mf mm mz ma sa H.size) (cwV 0 hts gX9_go_X7_wholeStrain rfl rfl rfl (by decide +kernel) ⟨Nat.le_of_ble_eq_true rfl, Nat.le_of_ble_eq_true rfl⟩) ⟨kP_blind, va_recv hKc hPc (ci := 11) (q0 := 0) rfl rfl, kP_go hPc hKc hDc hFc hM hS⟩ rfl rfl hl.1 rfl (lv_room (Nat.le_of_ble_eq_true rfl)) dX9_go_42 ⟨Nat.le_of_ble_eq_true rfl, Nat.le_of_ble_eq_true rfl⟩) hS (fun q _ h => hFc q h) hFc (fun r4 u t H1 locs ht hvm hw hB hz1 hk1 hS => ?_)
  obtain ⟨hP, hD, hK⟩ := kJ (wr := [(pl, .inr (10, [.long u1, .long u2])), (sh, .inr (13, [.ref rg, .ref dk, .ref hd, .ref lg, .ref pl, .ref pr, .int 0, .int 0, .int 0, .int 0, .int 0, .int mi, .int 0, .int 0, .int 0, .int fo, .int 0]))]) (w1 := [(rg, .inr (11, [.ref mf, .ref mm, .ref mz, .ref ma, .ref sa, .int 0])), (mf, .inr (8, [.int 0, .int 0, .int 0])), (mm, .inr (8, [.int 0, .int 0, .int 0])), (mz, .inr (8, [.int 0, .int 0, .int 0]))]) (t1 := []) hP hD hK [0, 1, 2, 3] [4, 5] rfl rfl (by decide) (by decide) hk1 hFc ht hvm hB
  generalize H1 = H at hP hS ⊢
  have hP : va_P (dC, dI) vwCl [(pl, .inr (10, [.long u1, .long u2])), (sh, .inr (13, [.ref rg, .ref dk, .ref hd, .ref lg, .ref pl, .ref pr, .int 0, .int 0, .int 0, .int 0, .int 0, .int mi, .int 0, .int 0, .int 0, .int fo, .int 0])), (rg, .inr (11, [.ref mf, .ref mm, .ref mz, .ref ma, .ref sa, .int 0])), (mf, .inr (8, [.int 0, .int 0, .int 0])), (mm, .inr (8, [.int 0, .int 0, .int 0])), (mz, .inr (8, [.int 0, .int 0, .int 0]))] H := hP
  have hD : va_D A [(pl, .inr (10, [.long u1, .long u2])), (sh, .inr (13, [.ref rg, .ref dk, .ref hd, .ref lg, .ref pl, .ref pr, .int 0, .int 0, .int 0, .int 0, .int 0, .int mi, .int 0, .int 0, .int 0, .int fo, .int 0])), (rg, .inr (11, [.ref mf, .ref mm, .ref mz, .ref ma, .ref sa, .int 0])), (mf, .inr (8, [.int 0, .int 0, .int 0])), (mm, .inr (8, [.int 0, .int 0, .int 0])), (mz, .inr (8, [.int 0, .int 0, .int 0]))] := hD
  have hK : va_K (dC, dI) vwCl [] s := hK
  obtain rfl : 0 = r4 := hw
  refine lv_sipush (v := 200) hx hb dX9_go_45 (by decide) ?_
  refine lv_idiv hx hb dX9_go_48 (by decide +kernel) ?_
  refine kc_i (y := 0) (by decide +kernel) ?_
  have hPc := hP.sub (ws' := [(pl, .inr (10, [.long u1, .long u2]))]) [0] rfl
  have hDc := hD.sub (ws' := [(pl, .inr (10, [.long u1, .long u2]))]) [0] (by decide) rfl
  have hKc := hK.sub (tys' := []) [] rfl
  have hFc := va_free (wc := [(pl, .inr (10, [.long u1, .long u2]))]) hD hS hA [0] rfl
  refine va_callv (va_runV (As := [.int 16, .int 0]) (rest := []) ⟨hx, hb, hml, hown, hts⟩ (k_Place_go16 l dC dI z zK zV pl u1 u2 H.size) (cwV 2 hts gX9_go_X6_go rfl rfl rfl (by decide +kernel) ⟨Nat.le_of_ble_eq_true rfl, Nat.le_of_ble_eq_true rfl⟩) ⟨kP_blind, va_recv hKc hPc (ci := 10) (q0 := 0) rfl rfl, kP_go hPc hKc hDc hFc hM hS⟩ rfl rfl hl.1 rfl (lv_room (Nat.le_of_ble_eq_true rfl)) dX9_go_49 ⟨Nat.le_of_ble_eq_true rfl, Nat.le_of_ble_eq_true rfl⟩) hS (fun q _ h => hFc q h) hFc (fun u t H1 locs ht hvm hw hB hz1 hk1 hS => ?_)
  obtain ⟨u5, u6, hB⟩ := hB
  obtain ⟨hP, hD, hK⟩ := kJ (wr := [(sh, .inr (13, [.ref rg, .ref dk, .ref hd, .ref lg, .ref pl, .ref pr, .int 0, .int 0, .int 0, .int 0, .int 0, .int mi, .int 0, .int 0, .int 0, .int fo, .int 0])), (rg, .inr (11, [.ref mf, .ref mm, .ref mz, .ref ma, .ref sa, .int 0])), (mf, .inr (8, [.int 0, .int 0, .int 0])), (mm, .inr (8, [.int 0, .int 0, .int 0])), (mz, .inr (8, [.int 0, .int 0, .int 0]))]) (w1 := [(pl, .inr (10, [.long u5, .long u6]))]) (t1 := []) hP hD hK [0] [1, 2, 3, 4, 5] rfl rfl (by decide) (by decide) hk1 hFc ht hvm hB
  generalize H1 = H at hP hS ⊢
  have hP : va_P (dC, dI) vwCl [(sh, .inr (13, [.ref rg, .ref dk, .ref hd, .ref lg, .ref pl, .ref pr, .int 0, .int 0, .int 0, .int 0, .int 0, .int mi, .int 0, .int 0, .int 0, .int fo, .int 0])), (rg, .inr (11, [.ref mf, .ref mm, .ref mz, .ref ma, .ref sa, .int 0])), (mf, .inr (8, [.int 0, .int 0, .int 0])), (mm, .inr (8, [.int 0, .int 0, .int 0])), (mz, .inr (8, [.int 0, .int 0, .int 0])), (pl, .inr (10, [.long u5, .long u6]))] H := hP
  have hD : va_D A [(sh, .inr (13, [.ref rg, .ref dk, .ref hd, .ref lg, .ref pl, .ref pr, .int 0, .int 0, .int 0, .int 0, .int 0, .int mi, .int 0, .int 0, .int 0, .int fo, .int 0])), (rg, .inr (11, [.ref mf, .ref mm, .ref mz, .ref ma, .ref sa, .int 0])), (mf, .inr (8, [.int 0, .int 0, .int 0])), (mm, .inr (8, [.int 0, .int 0, .int 0])), (mz, .inr (8, [.int 0, .int 0, .int 0])), (pl, .inr (10, [.long u5, .long u6]))] := hD
  have hK : va_K (dC, dI) vwCl [] s := hK
  clear hw
  refine lv_aload_n hx hb dX9_go_52 rfl (lv_at hl 0 rfl) ?_
  refine va_get (D := (dC, dI)) (ci := 13) (v := .ref pl) (C := RX9) (T := TX9) (N := 17) hx hb hts hiX9 hown hK hP 0 rfl rfl 4 (by decide) (hts (.fieldLink RX9 42 "SquareRig$Ship" "place" "LSquareRig$Place;") (by decide +kernel)) (fun _ h9 => h9) rfl dX9_go_53 ?_
  refine lv_dup hx hb dX9_go_56 rfl ?_
  refine va_getN (D := (dC, dI)) (ci := 10) (v := .long u5) (C := RX6) (T := TX6) (N := 2) hx hb hts hiX6 hown hK hP 5 rfl rfl 0 (by decide) (va_Nw.use rfl (hM.1 _ (List.mem_of_getElem? (i := 32) rfl))) (fun _ h9 => h9) rfl dX9_go_57 ?_
  refine lv_aload_n hx hb dX9_go_60 rfl (lv_at hl 0 rfl) ?_
  refine va_get (D := (dC, dI)) (ci := 13) (v := .int 0) (C := RX9) (T := TX9) (N := 17) hx hb hts hiX9 hown hK hP 0 rfl rfl 8 (by decide) (hts (.fieldLink RX9 56 "SquareRig$Ship" "currentEast" "I") (by decide +kernel)) (fun _ h9 => h9) rfl dX9_go_61 ?_
  refine lv_i2l (v := 0) hx hb dX9_go_64 (by decide +kernel) ?_
  refine lv_ladd hx hb dX9_go_65 ?_
  refine va_putN (D := (dC, dI)) (ci := 10) (v := .long (u5 + 0)) (ty := .long) (C := RX6) (T := TX6) (N := 2) hx hb hts hiX6 tyX6 tyX6_ok nmX6 hown hK hP hD hS 5 rfl rfl 0 (by decide) (va_Nw.use rfl (hM.1 _ (List.mem_of_getElem? (i := 32) rfl))) (fun _ h9 => h9) rfl (by decide +kernel) rfl rfl (Nat.le_of_ble_eq_true rfl) dX9_go_66 (fun H locs hP hD hS => ?_)
  have hP : va_P (dC, dI) vwCl [(sh, .inr (13, [.ref rg, .ref dk, .ref hd, .ref lg, .ref pl, .ref pr, .int 0, .int 0, .int 0, .int 0, .int 0, .int mi, .int 0, .int 0, .int 0, .int fo, .int 0])), (rg, .inr (11, [.ref mf, .ref mm, .ref mz, .ref ma, .ref sa, .int 0])), (mf, .inr (8, [.int 0, .int 0, .int 0])), (mm, .inr (8, [.int 0, .int 0, .int 0])), (mz, .inr (8, [.int 0, .int 0, .int 0])), (pl, .inr (10, [.long (u5 + 0), .long u6]))] H := hP
  have hD : va_D A [(sh, .inr (13, [.ref rg, .ref dk, .ref hd, .ref lg, .ref pl, .ref pr, .int 0, .int 0, .int 0, .int 0, .int 0, .int mi, .int 0, .int 0, .int 0, .int fo, .int 0])), (rg, .inr (11, [.ref mf, .ref mm, .ref mz, .ref ma, .ref sa, .int 0])), (mf, .inr (8, [.int 0, .int 0, .int 0])), (mm, .inr (8, [.int 0, .int 0, .int 0])), (mz, .inr (8, [.int 0, .int 0, .int 0])), (pl, .inr (10, [.long (u5 + 0), .long u6]))] := hD
  refine lv_aload_n hx hb dX9_go_69 rfl (lv_at hl 0 rfl) ?_
  refine va_get (D := (dC, dI)) (ci := 13) (v := .ref pl) (C := RX9) (T := TX9) (N := 17) hx hb hts hiX9 hown hK hP 0 rfl rfl 4 (by decide) (hts (.fieldLink RX9 42 "SquareRig$Ship" "place" "LSquareRig$Place;") (by decide +kernel)) (fun _ h9 => h9) rfl dX9_go_70 ?_
  refine lv_dup hx hb dX9_go_73 rfl ?_
  refine va_getN (D := (dC, dI)) (ci := 10) (v := .long u6) (C := RX6) (T := TX6) (N := 2) hx hb hts hiX6 hown hK hP 5 rfl rfl 1 (by decide) (va_Nw.use rfl (hM.1 _ (List.mem_of_getElem? (i := 34) rfl))) (fun _ h9 => h9) rfl dX9_go_74 ?_
  refine lv_aload_n hx hb dX9_go_77 rfl (lv_at hl 0 rfl) ?_
  refine va_get (D := (dC, dI)) (ci := 13) (v := .int 0) (C := RX9) (T := TX9) (N := 17) hx hb hts hiX9 hown hK hP 0 rfl rfl 9 (by decide) (hts (.fieldLink RX9 59 "SquareRig$Ship" "currentNorth" "I") (by decide +kernel)) (fun _ h9 => h9) rfl dX9_go_78 ?_
  refine lv_i2l (v := 0) hx hb dX9_go_81 (by decide +kernel) ?_
  refine lv_ladd hx hb dX9_go_82 ?_
  refine va_putN (D := (dC, dI)) (ci := 10) (v := .long (u6 + 0)) (ty := .long) (C := RX6) (T := TX6) (N := 2) hx hb hts hiX6 tyX6 tyX6_ok nmX6 hown hK hP hD hS 5 rfl rfl 1 (by decide) (va_Nw.use rfl (hM.1 _ (List.mem_of_getElem? (i := 34) rfl))) (fun _ h9 => h9) rfl (by decide +kernel) rfl rfl (Nat.le_of_ble_eq_true rfl) dX9_go_83 (fun H locs hP hD hS => ?_)
  have hP : va_P (dC, dI) vwCl [(sh, .inr (13, [.ref rg, .ref dk, .ref hd, .ref lg, .ref pl, .ref pr, .int 0, .int 0, .int 0, .int 0, .int 0, .int mi, .int 0, .int 0, .int 0, .int fo, .int 0])), (rg, .inr (11, [.ref mf, .ref mm, .ref mz, .ref ma, .ref sa, .int 0])), (mf, .inr (8, [.int 0, .int 0, .int 0])), (mm, .inr (8, [.int 0, .int 0, .int 0])), (mz, .inr (8, [.int 0, .int 0, .int 0])), (pl, .inr (10, [.long (u5 + 0), .long (u6 + 0)]))] H := hP
  have hD : va_D A [(sh, .inr (13, [.ref rg, .ref dk, .ref hd, .ref lg, .ref pl, .ref pr, .int 0, .int 0, .int 0, .int 0, .int 0, .int mi, .int 0, .int 0, .int 0, .int fo, .int 0])), (rg, .inr (11, [.ref mf, .ref mm, .ref mz, .ref ma, .ref sa, .int 0])), (mf, .inr (8, [.int 0, .int 0, .int 0])), (mm, .inr (8, [.int 0, .int 0, .int 0])), (mz, .inr (8, [.int 0, .int 0, .int 0])), (pl, .inr (10, [.long (u5 + 0), .long (u6 + 0)]))] := hD
  exact W.vret hx hb hr (fun t ht hW => ⟨⟨(), rfl, trivial, ⟨(u5 + 0), (u6 + 0), kB_end (w9 := [(sh, .inr (13, [.ref rg, .ref dk, .ref hd, .ref lg, .ref pl, .ref pr, .int 0, .int 0, .int 0, .int 0, .int 0, .int mi, .int 0, .int 0, .int 0, .int fo, .int 0])), (rg, .inr (11, [.ref mf, .ref mm, .ref mz, .ref ma, .ref sa, .int 0])), (mf, .inr (8, [.int 0, .int 0, .int 0])), (mm, .inr (8, [.int 0, .int 0, .int 0])), (mz, .inr (8, [.int 0, .int 0, .int 0])), (pl, .inr (10, [.long (u5 + 0), .long (u6 + 0)]))]) (t9 := []) hP hK hD [0, 1, 2, 3, 4, 5] [] rfl (by decide) rfl rfl t ht hW⟩⟩, hS.F ht⟩) hS.2.2 dX9_go_86
abbrev wd_k_work0 (z : Nat → Nat) (rg : Nat) (dk : Nat) (w0 : Nat) (w1 : Nat) (ol : Nat) (lg : Nat) (mi : Int32) : va_W := [(dk, .inr (4, [.ref w0, .ref w1, .ref ol, .int 0, .int 0, .int 0, .int 0])), (ol, .inr (3, [.int 0, .ref (z 0), .int 0]))]
set_option maxHeartbeats 4000000 in
set_option maxRecDepth 100000 in
theorem k_work0 (l : Launch) (dC : Nat → ClassId) (dI : Nat → Nat → Nat) (z zK zV : Nat → Nat) (rg : Nat) (dk : Nat) (w0 : Nat) (w1 : Nat) (ol : Nat) (lg : Nat) (mi : Int32) (sz : Nat)  : Met l yX0_work wsX0_work ({ frames := 1, cells := 0, slots := 0, locals := 20 }) (kP dC dI z zK zV [.ref dk, .ref rg, .ref lg, .int mi] sz (wd_k_work0 z rg dk w0 w1 ol lg mi) []) (va_Qv (fun _ : Unit => True) (fun _ t => kB (dC, dI) (va_A (wd_k_work0 z rg dk w0 w1 ol lg mi) sz) [(dk, .inr (4, [.ref w0, .ref w1, .ref ol, .int 0, .int 0, .int 0, .int 0])), (ol, .inr (3, [.int 0, .ref (z 0), .int 0]))] [] t) (va_A (wd_k_work0 z rg dk w0 w1 ol lg mi) sz)) 0 0 (va_A (wd_k_work0 z rg dk w0 w1 ol lg mi) sz) := by
  refine Met.ofW (cc := cX0_work) (maxL := 6) (ret := none) (by decide) rfl ?_
  intro p e s m args below meth c s₁ B hml hv
  obtain ⟨rfl, hsz, hP, hK, hD0, hM⟩ := hv
  have hx := B.exec
  have hb := B.bytes
  have hr := B.returns
  have hts := atoms_spec (ws := wsX0_work) B.pre
  have hown : s.vm.findClass RX0 = some m.cls := findClass_of_methodNamed B.named
  have hlocks := B.notSynchronized
  have hiX0 : ∀ w ∈ u_ws RX0 TX0 7, w ∈ wsX0_work := by decide +kernel
  subst hsz
  have hD := hD0.self (sz := s.heap.size)
  generalize hAe : va_A (wd_k_work0 z rg dk w0 w1 ol lg mi) s.heap.size = A at hD hM ⊢
  have hA : ∀ q : Nat, s.heap.size ≤ q → A q := fun q h => by rw [← hAe]; exact Or.inr h
  have hS : va_S A s.heap s.heap [] := va_S.rf
  have hP : va_P (dC, dI) vwCl [(dk, .inr (4, [.ref w0, .ref w1, .ref ol, .int 0, .int 0, .int 0, .int 0])), (ol, .inr (3, [.int 0, .ref (z 0), .int 0]))] s.heap := hP
  have hD : va_D A [(dk, .inr (4, [.ref w0, .ref w1, .ref ol, .int 0, .int 0, .int 0, .int 0])), (ol, .inr (3, [.int 0, .ref (z 0), .int 0]))] := hD
  have hl := lv_entry ([.ref dk, .ref rg, .ref lg, .int mi]) (n := 6) (Nat.le_of_ble_eq_true rfl)
  rw [lg_entry_eq]
  generalize (lg_sl ([.ref dk, .ref rg, .ref lg, .int mi]) ++ List.replicate (6 - (lg_sl ([.ref dk, .ref rg, .ref lg, .int mi])).length) Slot.unset).toArray = ls at hl ⊢
  have hl : lv_has ls 6 [(0, .ref dk), (1, .ref rg), (2, .ref lg), (3, .int mi)] := hl
  refine lv_iconst (v := 0) hx hb dX0_work_0 (by decide) ?_
  refine lv_istore (lv' := [(4, .int 0), (0, .ref dk), (1, .ref rg), (2, .ref lg), (3, .int mi)]) hx hb dX0_work_1 hl (by decide) rfl (fun ls hl => ?_)
  refine lv_iload hx hb dX0_work_3 (lv_at hl 0 rfl) ?_
  refine lv_aload_n hx hb dX0_work_5 rfl (lv_at hl 1 rfl) ?_
  refine va_get (D := (dC, dI)) (ci := 4) (v := .ref ol) (C := RX0) (T := TX0) (N := 7) hx hb hts hiX0 hown hK hP 0 rfl rfl 2 (by decide) (hts (.fieldLink RX0 24 "SquareRig$Deck" "orders" "Ljava/util/ArrayList;") (by decide +kernel)) (fun _ h9 => h9) rfl dX0_work_6 ?_
  have hPc := hP.sub (ws' := [(ol, .inr (3, [.int 0, .ref (z 0), .int 0]))]) [1] rfl
  have hDc := hD.sub (ws' := [(ol, .inr (3, [.int 0, .ref (z 0), .int 0]))]) [1] (by decide) rfl
  have hKc := hK.sub (tys' := []) [] rfl
  have hFc := va_free (wc := [(ol, .inr (3, [.int 0, .ref (z 0), .int 0]))]) hD hS hA [1] rfl
  refine va_calli (va_runV (As := []) (rest := [.int 0]) ⟨hx, hb, hml, hown, hts⟩ (k_size0 l dC dI z zK zV ol s.heap.size) (cwV 0 hts gX0_work_Jx4a65c_size_8abf5 rfl rfl rfl (by decide +kernel) ⟨Nat.le_of_ble_eq_true rfl, Nat.le_of_ble_eq_true rfl⟩) ⟨kP_blind, va_recv hKc hPc (ci := 3) (q0 := 0) rfl rfl, kP_go hPc hKc hDc hFc hM hS⟩ rfl rfl hl.1 rfl (lv_room (Nat.le_of_ble_eq_true rfl)) dX0_work_9 ⟨Nat.le_of_ble_eq_true rfl, Nat.le_of_ble_eq_true rfl⟩) hS (fun q _ h => hFc q h) hFc (fun r1 u t H1 locs ht hvm hw hB hz1 hk1 hS => ?_)
  obtain ⟨hP, hD, hK⟩ := kJ (wr := [(dk, .inr (4, [.ref w0, .ref w1, .ref ol, .int 0, .int 0, .int 0, .int 0]))]) (w1 := [(ol, .inr (3, [.int 0, .ref (z 0), .int 0]))]) (t1 := []) hP hD hK [1] [0] rfl rfl (by decide) (by decide) hk1 hFc ht hvm hB
  generalize H1 = H at hP hS ⊢
  have hP : va_P (dC, dI) vwCl [(dk, .inr (4, [.ref w0, .ref w1, .ref ol, .int 0, .int 0, .int 0, .int 0])), (ol, .inr (3, [.int 0, .ref (z 0), .int 0]))] H := hP
  have hD : va_D A [(dk, .inr (4, [.ref w0, .ref w1, .ref ol, .int 0, .int 0, .int 0, .int 0])), (ol, .inr (3, [.int 0, .ref (z 0), .int 0]))] := hD
  have hK : va_K (dC, dI) vwCl [] s := hK
  obtain rfl : 0 = r1 := hw
  refine lv_icmp_ge (tgt := 119) hx hb dX0_work_12 (by decide) (fun _ => ?_) (fun c_ => absurd (by decide +kernel) c_)
  exact W.vret hx hb hr (fun t ht hW => ⟨⟨(), rfl, trivial, kB_end (w9 := [(dk, .inr (4, [.ref w0, .ref w1, .ref ol, .int 0, .int 0, .int 0, .int 0])), (ol, .inr (3, [.int 0, .ref (z 0), .int 0]))]) (t9 := []) hP hK hD [0, 1] [] rfl (by decide) rfl rfl t ht hW⟩, hS.F ht⟩) hS.2.2 dX0_work_119
abbrev wd_k_work1 (z : Nat → Nat) (rg : Nat) (dk : Nat) (w0 : Nat) (w1 : Nat) (ol : Nat) (lg : Nat) (mi : Int32) : va_W := [(dk, .inr (4, [.ref w0, .ref w1, .ref ol, .int 1, .int 0, .int 0, .int 0])), (ol, .inr (3, [.int 0, .ref (z 0), .int 0]))]
set_option maxHeartbeats 4000000 in
set_option maxRecDepth 100000 in
theorem k_work1 (l : Launch) (dC : Nat → ClassId) (dI : Nat → Nat → Nat) (z zK zV : Nat → Nat) (rg : Nat) (dk : Nat) (w0 : Nat) (w1 : Nat) (ol : Nat) (lg : Nat) (mi : Int32) (sz : Nat)  : Met l yX0_work wsX0_work ({ frames := 1, cells := 0, slots := 0, locals := 20 }) (kP dC dI z zK zV [.ref dk, .ref rg, .ref lg, .int mi] sz (wd_k_work1 z rg dk w0 w1 ol lg mi) []) (va_Qv (fun _ : Unit => True) (fun _ t => kB (dC, dI) (va_A (wd_k_work1 z rg dk w0 w1 ol lg mi) sz) [(dk, .inr (4, [.ref w0, .ref w1, .ref ol, .int 1, .int 0, .int 0, .int 0])), (ol, .inr (3, [.int 0, .ref (z 0), .int 0]))] [] t) (va_A (wd_k_work1 z rg dk w0 w1 ol lg mi) sz)) 0 0 (va_A (wd_k_work1 z rg dk w0 w1 ol lg mi) sz) := by
  refine Met.ofW (cc := cX0_work) (maxL := 6) (ret := none) (by decide) rfl ?_
  intro p e s m args below meth c s₁ B hml hv
  obtain ⟨rfl, hsz, hP, hK, hD0, hM⟩ := hv
  have hx := B.exec
  have hb := B.bytes
  have hr := B.returns
  have hts := atoms_spec (ws := wsX0_work) B.pre
  have hown : s.vm.findClass RX0 = some m.cls := findClass_of_methodNamed B.named
  have hlocks := B.notSynchronized
  have hiX0 : ∀ w ∈ u_ws RX0 TX0 7, w ∈ wsX0_work := by decide +kernel
  subst hsz
  have hD := hD0.self (sz := s.heap.size)
  generalize hAe : va_A (wd_k_work1 z rg dk w0 w1 ol lg mi) s.heap.size = A at hD hM ⊢
  have hA : ∀ q : Nat, s.heap.size ≤ q → A q := fun q h => by rw [← hAe]; exact Or.inr h
  have hS : va_S A s.heap s.heap [] := va_S.rf
  have hP : va_P (dC, dI) vwCl [(dk, .inr (4, [.ref w0, .ref w1, .ref ol, .int 1, .int 0, .int 0, .int 0])), (ol, .inr (3, [.int 0, .ref (z 0), .int 0]))] s.heap := hP
  have hD : va_D A [(dk, .inr (4, [.ref w0, .ref w1, .ref ol, .int 1, .int 0, .int 0, .int 0])), (ol, .inr (3, [.int 0, .ref (z 0), .int 0]))] := hD
  have hl := lv_entry ([.ref dk, .ref rg, .ref lg, .int mi]) (n := 6) (Nat.le_of_ble_eq_true rfl)
  rw [lg_entry_eq]
  generalize (lg_sl ([.ref dk, .ref rg, .ref lg, .int mi]) ++ List.replicate (6 - (lg_sl ([.ref dk, .ref rg, .ref lg, .int mi])).length) Slot.unset).toArray = ls at hl ⊢
  have hl : lv_has ls 6 [(0, .ref dk), (1, .ref rg), (2, .ref lg), (3, .int mi)] := hl
  refine lv_iconst (v := 0) hx hb dX0_work_0 (by decide) ?_
  refine lv_istore (lv' := [(4, .int 0), (0, .ref dk), (1, .ref rg), (2, .ref lg), (3, .int mi)]) hx hb dX0_work_1 hl (by decide) rfl (fun ls hl => ?_)
  refine lv_iload hx hb dX0_work_3 (lv_at hl 0 rfl) ?_
  refine lv_aload_n hx hb dX0_work_5 rfl (lv_at hl 1 rfl) ?_
  refine va_get (D := (dC, dI)) (ci := 4) (v := .ref ol) (C := RX0) (T := TX0) (N := 7) hx hb hts hiX0 hown hK hP 0 rfl rfl 2 (by decide) (hts (.fieldLink RX0 24 "SquareRig$Deck" "orders" "Ljava/util/ArrayList;") (by decide +kernel)) (fun _ h9 => h9) rfl dX0_work_6 ?_
  have hPc := hP.sub (ws' := [(ol, .inr (3, [.int 0, .ref (z 0), .int 0]))]) [1] rfl
  have hDc := hD.sub (ws' := [(ol, .inr (3, [.int 0, .ref (z 0), .int 0]))]) [1] (by decide) rfl
  have hKc := hK.sub (tys' := []) [] rfl
  have hFc := va_free (wc := [(ol, .inr (3, [.int 0, .ref (z 0), .int 0]))]) hD hS hA [1] rfl
  refine va_calli (va_runV (As := []) (rest := [.int 0]) ⟨hx, hb, hml, hown, hts⟩ (k_size0 l dC dI z zK zV ol s.heap.size) (cwV 0 hts gX0_work_Jx4a65c_size_8abf5 rfl rfl rfl (by decide +kernel) ⟨Nat.le_of_ble_eq_true rfl, Nat.le_of_ble_eq_true rfl⟩) ⟨kP_blind, va_recv hKc hPc (ci := 3) (q0 := 0) rfl rfl, kP_go hPc hKc hDc hFc hM hS⟩ rfl rfl hl.1 rfl (lv_room (Nat.le_of_ble_eq_true rfl)) dX0_work_9 ⟨Nat.le_of_ble_eq_true rfl, Nat.le_of_ble_eq_true rfl⟩) hS (fun q _ h => hFc q h) hFc (fun r1 u t H1 locs ht hvm hw hB hz1 hk1 hS => ?_)
  obtain ⟨hP, hD, hK⟩ := kJ (wr := [(dk, .inr (4, [.ref w0, .ref w1, .ref ol, .int 1, .int 0, .int 0, .int 0]))]) (w1 := [(ol, .inr (3, [.int 0, .ref (z 0), .int 0]))]) (t1 := []) hP hD hK [1] [0] rfl rfl (by decide) (by decide) hk1 hFc ht hvm hB
  generalize H1 = H at hP hS ⊢
  have hP : va_P (dC, dI) vwCl [(dk, .inr (4, [.ref w0, .ref w1, .ref ol, .int 1, .int 0, .int 0, .int 0])), (ol, .inr (3, [.int 0, .ref (z 0), .int 0]))] H := hP
  have hD : va_D A [(dk, .inr (4, [.ref w0, .ref w1, .ref ol, .int 1, .int 0, .int 0, .int 0])), (ol, .inr (3, [.int 0, .ref (z 0), .int 0]))] := hD
  have hK : va_K (dC, dI) vwCl [] s := hK
  obtain rfl : 0 = r1 := hw
  refine lv_icmp_ge (tgt := 119) hx hb dX0_work_12 (by decide) (fun _ => ?_) (fun c_ => absurd (by decide +kernel) c_)
  exact W.vret hx hb hr (fun t ht hW => ⟨⟨(), rfl, trivial, kB_end (w9 := [(dk, .inr (4, [.ref w0, .ref w1, .ref ol, .int 1, .int 0, .int 0, .int 0])), (ol, .inr (3, [.int 0, .ref (z 0), .int 0]))]) (t9 := []) hP hK hD [0, 1] [] rfl (by decide) rfl rfl t ht hW⟩, hS.F ht⟩) hS.2.2 dX0_work_119
abbrev wd_k_begin0 (z : Nat → Nat) (dk : Nat) (w0 : Nat) (w1 : Nat) (ol : Nat) (mi : Int32) : va_W := [(dk, .inr (4, [.ref w0, .ref w1, .ref ol, .int 0, .int 0, .int 0, .int 0])), (ol, .inr (3, [.int 0, .ref (z 0), .int 0]))]
set_option maxHeartbeats 4000000 in
set_option maxRecDepth 100000 in
theorem k_begin0 (l : Launch) (dC : Nat → ClassId) (dI : Nat → Nat → Nat) (z zK zV : Nat → Nat) (dk : Nat) (w0 : Nat) (w1 : Nat) (ol : Nat) (mi : Int32) (sz : Nat)  : Met l yX0_beginWaiting wsX0_beginWaiting ({ frames := 1, cells := 0, slots := 0, locals := 20 }) (kP dC dI z zK zV [.ref dk, .int mi] sz (wd_k_begin0 z dk w0 w1 ol mi) []) (va_Qv (fun _ : Unit => True) (fun _ t => kB (dC, dI) (va_A (wd_k_begin0 z dk w0 w1 ol mi) sz) [(dk, .inr (4, [.ref w0, .ref w1, .ref ol, .int 0, .int 0, .int 0, .int 0])), (ol, .inr (3, [.int 0, .ref (z 0), .int 0]))] [] t) (va_A (wd_k_begin0 z dk w0 w1 ol mi) sz)) 0 0 (va_A (wd_k_begin0 z dk w0 w1 ol mi) sz) := by
  refine Met.ofW (cc := cX0_beginWaiting) (maxL := 4) (ret := none) (by decide) rfl ?_
  intro p e s m args below meth c s₁ B hml hv
  obtain ⟨rfl, hsz, hP, hK, hD0, hM⟩ := hv
  have hx := B.exec
  have hb := B.bytes
  have hr := B.returns
  have hts := atoms_spec (ws := wsX0_beginWaiting) B.pre
  have hown : s.vm.findClass RX0 = some m.cls := findClass_of_methodNamed B.named
  have hlocks := B.notSynchronized
  have hiX0 : ∀ w ∈ u_ws RX0 TX0 7, w ∈ wsX0_beginWaiting := by decide +kernel
  subst hsz
  have hD := hD0.self (sz := s.heap.size)
  generalize hAe : va_A (wd_k_begin0 z dk w0 w1 ol mi) s.heap.size = A at hD hM ⊢
  have hA : ∀ q : Nat, s.heap.size ≤ q → A q := fun q h => by rw [← hAe]; exact Or.inr h
  have hS : va_S A s.heap s.heap [] := va_S.rf
  have hP : va_P (dC, dI) vwCl [(dk, .inr (4, [.ref w0, .ref w1, .ref ol, .int 0, .int 0, .int 0, .int 0])), (ol, .inr (3, [.int 0, .ref (z 0), .int 0]))] s.heap := hP
  have hD : va_D A [(dk, .inr (4, [.ref w0, .ref w1, .ref ol, .int 0, .int 0, .int 0, .int 0])), (ol, .inr (3, [.int 0, .ref (z 0), .int 0]))] := hD
  have hl := lv_entry ([.ref dk, .int mi]) (n := 4) (Nat.le_of_ble_eq_true rfl)
  rw [lg_entry_eq]
  generalize (lg_sl ([.ref dk, .int mi]) ++ List.replicate (4 - (lg_sl ([.ref dk, .int mi])).length) Slot.unset).toArray = ls at hl ⊢
  have hl : lv_has ls 4 [(0, .ref dk), (1, .int mi)] := hl
  refine lv_iconst (v := 0) hx hb dX0_beginWaiting_0 (by decide) ?_
  refine lv_istore_n (lv' := [(2, .int 0), (0, .ref dk), (1, .int mi)]) hx hb dX0_beginWaiting_1 rfl hl (by decide) rfl (fun ls hl => ?_)
  refine lv_iload_n hx hb dX0_beginWaiting_2 rfl (lv_at hl 0 rfl) ?_
  refine lv_aload_n hx hb dX0_beginWaiting_3 rfl (lv_at hl 1 rfl) ?_
  refine va_get (D := (dC, dI)) (ci := 4) (v := .ref ol) (C := RX0) (T := TX0) (N := 7) hx hb hts hiX0 hown hK hP 0 rfl rfl 2 (by decide) (hts (.fieldLink RX0 24 "SquareRig$Deck" "orders" "Ljava/util/ArrayList;") (by decide +kernel)) (fun _ h9 => h9) rfl dX0_beginWaiting_4 ?_
  have hPc := hP.sub (ws' := [(ol, .inr (3, [.int 0, .ref (z 0), .int 0]))]) [1] rfl
  have hDc := hD.sub (ws' := [(ol, .inr (3, [.int 0, .ref (z 0), .int 0]))]) [1] (by decide) rfl
  have hKc := hK.sub (tys' := []) [] rfl
  have hFc := va_free (wc := [(ol, .inr (3, [.int 0, .ref (z 0), .int 0]))]) hD hS hA [1] rfl
  refine va_calli (va_runV (As := []) (rest := [.int 0]) ⟨hx, hb, hml, hown, hts⟩ (k_size0 l dC dI z zK zV ol s.heap.size) (cwV 0 hts gX0_beginWaiting_Jx4a65c_size_8abf5 rfl rfl rfl (by decide +kernel) ⟨Nat.le_of_ble_eq_true rfl, Nat.le_of_ble_eq_true rfl⟩) ⟨kP_blind, va_recv hKc hPc (ci := 3) (q0 := 0) rfl rfl, kP_go hPc hKc hDc hFc hM hS⟩ rfl rfl hl.1 rfl (lv_room (Nat.le_of_ble_eq_true rfl)) dX0_beginWaiting_7 ⟨Nat.le_of_ble_eq_true rfl, Nat.le_of_ble_eq_true rfl⟩) hS (fun q _ h => hFc q h) hFc (fun r1 u t H1 locs ht hvm hw hB hz1 hk1 hS => ?_)
  obtain ⟨hP, hD, hK⟩ := kJ (wr := [(dk, .inr (4, [.ref w0, .ref w1, .ref ol, .int 0, .int 0, .int 0, .int 0]))]) (w1 := [(ol, .inr (3, [.int 0, .ref (z 0), .int 0]))]) (t1 := []) hP hD hK [1] [0] rfl rfl (by decide) (by decide) hk1 hFc ht hvm hB
  generalize H1 = H at hP hS ⊢
  have hP : va_P (dC, dI) vwCl [(dk, .inr (4, [.ref w0, .ref w1, .ref ol, .int 0, .int 0, .int 0, .int 0])), (ol, .inr (3, [.int 0, .ref (z 0), .int 0]))] H := hP
  have hD : va_D A [(dk, .inr (4, [.ref w0, .ref w1, .ref ol, .int 0, .int 0, .int 0, .int 0])), (ol, .inr (3, [.int 0, .ref (z 0), .int 0]))] := hD
  have hK : va_K (dC, dI) vwCl [] s := hK
  obtain rfl : 0 = r1 := hw
  refine lv_icmp_ge (tgt := 118) hx hb dX0_beginWaiting_10 (by decide) (fun _ => ?_) (fun c_ => absurd (by decide +kernel) c_)
  exact W.vret hx hb hr (fun t ht hW => ⟨⟨(), rfl, trivial, kB_end (w9 := [(dk, .inr (4, [.ref w0, .ref w1, .ref ol, .int 0, .int 0, .int 0, .int 0])), (ol, .inr (3, [.int 0, .ref (z 0), .int 0]))]) (t9 := []) hP hK hD [0, 1] [] rfl (by decide) rfl rfl t ht hW⟩, hS.F ht⟩) hS.2.2 dX0_beginWaiting_118
abbrev wd_k_begin1 (z : Nat → Nat) (dk : Nat) (w0 : Nat) (w1 : Nat) (ol : Nat) (mi : Int32) : va_W := [(dk, .inr (4, [.ref w0, .ref w1, .ref ol, .int 1, .int 0, .int 0, .int 0])), (ol, .inr (3, [.int 0, .ref (z 0), .int 0]))]
set_option maxHeartbeats 4000000 in
set_option maxRecDepth 100000 in
theorem k_begin1 (l : Launch) (dC : Nat → ClassId) (dI : Nat → Nat → Nat) (z zK zV : Nat → Nat) (dk : Nat) (w0 : Nat) (w1 : Nat) (ol : Nat) (mi : Int32) (sz : Nat)  : Met l yX0_beginWaiting wsX0_beginWaiting ({ frames := 1, cells := 0, slots := 0, locals := 20 }) (kP dC dI z zK zV [.ref dk, .int mi] sz (wd_k_begin1 z dk w0 w1 ol mi) []) (va_Qv (fun _ : Unit => True) (fun _ t => kB (dC, dI) (va_A (wd_k_begin1 z dk w0 w1 ol mi) sz) [(dk, .inr (4, [.ref w0, .ref w1, .ref ol, .int 1, .int 0, .int 0, .int 0])), (ol, .inr (3, [.int 0, .ref (z 0), .int 0]))] [] t) (va_A (wd_k_begin1 z dk w0 w1 ol mi) sz)) 0 0 (va_A (wd_k_begin1 z dk w0 w1 ol mi) sz) := by
  refine Met.ofW (cc := cX0_beginWaiting) (maxL := 4) (ret := none) (by decide) rfl ?_
  intro p e s m args below meth c s₁ B hml hv
  obtain ⟨rfl, hsz, hP, hK, hD0, hM⟩ := hv
  have hx := B.exec
  have hb := B.bytes
  have hr := B.returns
  have hts := atoms_spec (ws := wsX0_beginWaiting) B.pre
  have hown : s.vm.findClass RX0 = some m.cls := findClass_of_methodNamed B.named
  have hlocks := B.notSynchronized
  have hiX0 : ∀ w ∈ u_ws RX0 TX0 7, w ∈ wsX0_beginWaiting := by decide +kernel
  subst hsz
  have hD := hD0.self (sz := s.heap.size)
  generalize hAe : va_A (wd_k_begin1 z dk w0 w1 ol mi) s.heap.size = A at hD hM ⊢
  have hA : ∀ q : Nat, s.heap.size ≤ q → A q := fun q h => by rw [← hAe]; exact Or.inr h
  have hS : va_S A s.heap s.heap [] := va_S.rf
  have hP : va_P (dC, dI) vwCl [(dk, .inr (4, [.ref w0, .ref w1, .ref ol, .int 1, .int 0, .int 0, .int 0])), (ol, .inr (3, [.int 0, .ref (z 0), .int 0]))] s.heap := hP
  have hD : va_D A [(dk, .inr (4, [.ref w0, .ref w1, .ref ol, .int 1, .int 0, .int 0, .int 0])), (ol, .inr (3, [.int 0, .ref (z 0), .int 0]))] := hD
  have hl := lv_entry ([.ref dk, .int mi]) (n := 4) (Nat.le_of_ble_eq_true rfl)
  rw [lg_entry_eq]
  generalize (lg_sl ([.ref dk, .int mi]) ++ List.replicate (4 - (lg_sl ([.ref dk, .int mi])).length) Slot.unset).toArray = ls at hl ⊢
  have hl : lv_has ls 4 [(0, .ref dk), (1, .int mi)] := hl
  refine lv_iconst (v := 0) hx hb dX0_beginWaiting_0 (by decide) ?_
  refine lv_istore_n (lv' := [(2, .int 0), (0, .ref dk), (1, .int mi)]) hx hb dX0_beginWaiting_1 rfl hl (by decide) rfl (fun ls hl => ?_)
  refine lv_iload_n hx hb dX0_beginWaiting_2 rfl (lv_at hl 0 rfl) ?_
  refine lv_aload_n hx hb dX0_beginWaiting_3 rfl (lv_at hl 1 rfl) ?_
  refine va_get (D := (dC, dI)) (ci := 4) (v := .ref ol) (C := RX0) (T := TX0) (N := 7) hx hb hts hiX0 hown hK hP 0 rfl rfl 2 (by decide) (hts (.fieldLink RX0 24 "SquareRig$Deck" "orders" "Ljava/util/ArrayList;") (by decide +kernel)) (fun _ h9 => h9) rfl dX0_beginWaiting_4 ?_
  have hPc := hP.sub (ws' := [(ol, .inr (3, [.int 0, .ref (z 0), .int 0]))]) [1] rfl
  have hDc := hD.sub (ws' := [(ol, .inr (3, [.int 0, .ref (z 0), .int 0]))]) [1] (by decide) rfl
  have hKc := hK.sub (tys' := []) [] rfl
  have hFc := va_free (wc := [(ol, .inr (3, [.int 0, .ref (z 0), .int 0]))]) hD hS hA [1] rfl
  refine va_calli (va_runV (As := []) (rest := [.int 0]) ⟨hx, hb, hml, hown, hts⟩ (k_size0 l dC dI z zK zV ol s.heap.size) (cwV 0 hts gX0_beginWaiting_Jx4a65c_size_8abf5 rfl rfl rfl (by decide +kernel) ⟨Nat.le_of_ble_eq_true rfl, Nat.le_of_ble_eq_true rfl⟩) ⟨kP_blind, va_recv hKc hPc (ci := 3) (q0 := 0) rfl rfl, kP_go hPc hKc hDc hFc hM hS⟩ rfl rfl hl.1 rfl (lv_room (Nat.le_of_ble_eq_true rfl)) dX0_beginWaiting_7 ⟨Nat.le_of_ble_eq_true rfl, Nat.le_of_ble_eq_true rfl⟩) hS (fun q _ h => hFc q h) hFc (fun r1 u t H1 locs ht hvm hw hB hz1 hk1 hS => ?_)
  obtain ⟨hP, hD, hK⟩ := kJ (wr := [(dk, .inr (4, [.ref w0, .ref w1, .ref ol, .int 1, .int 0, .int 0, .int 0]))]) (w1 := [(ol, .inr (3, [.int 0, .ref (z 0), .int 0]))]) (t1 := []) hP hD hK [1] [0] rfl rfl (by decide) (by decide) hk1 hFc ht hvm hB
  generalize H1 = H at hP hS ⊢
  have hP : va_P (dC, dI) vwCl [(dk, .inr (4, [.ref w0, .ref w1, .ref ol, .int 1, .int 0, .int 0, .int 0])), (ol, .inr (3, [.int 0, .ref (z 0), .int 0]))] H := hP
  have hD : va_D A [(dk, .inr (4, [.ref w0, .ref w1, .ref ol, .int 1, .int 0, .int 0, .int 0])), (ol, .inr (3, [.int 0, .ref (z 0), .int 0]))] := hD
  have hK : va_K (dC, dI) vwCl [] s := hK
  obtain rfl : 0 = r1 := hw
  refine lv_icmp_ge (tgt := 118) hx hb dX0_beginWaiting_10 (by decide) (fun _ => ?_) (fun c_ => absurd (by decide +kernel) c_)
  exact W.vret hx hb hr (fun t ht hW => ⟨⟨(), rfl, trivial, kB_end (w9 := [(dk, .inr (4, [.ref w0, .ref w1, .ref ol, .int 1, .int 0, .int 0, .int 0])), (ol, .inr (3, [.int 0, .ref (z 0), .int 0]))]) (t9 := []) hP hK hD [0, 1] [] rfl (by decide) rfl rfl t ht hW⟩, hS.F ht⟩) hS.2.2 dX0_beginWaiting_118
abbrev wd_k_tire (z : Nat → Nat) (w0 : Nat) (t0 : Int32) (k0 : Int32) : va_W := [(w0, .inr (14, [.int t0, .int k0]))]
set_option maxHeartbeats 4000000 in
set_option maxRecDepth 100000 in
theorem k_tire (l : Launch) (dC : Nat → ClassId) (dI : Nat → Nat → Nat) (z zK zV : Nat → Nat) (w0 : Nat) (t0 : Int32) (k0 : Int32) (sz : Nat)  : Met l yX10_tire wsX10_tire ({ frames := 0, cells := 0, slots := 0, locals := 0 }) (kP dC dI z zK zV [.ref w0] sz (wd_k_tire z w0 t0 k0) []) (va_Qv (fun _ : Unit => True) (fun _ t => ∃ (u1 : Int32), kB (dC, dI) (va_A (wd_k_tire z w0 t0 k0) sz) [(w0, .inr (14, [.int u1, .int k0]))] [] t) (va_A (wd_k_tire z w0 t0 k0) sz)) 0 0 (va_A (wd_k_tire z w0 t0 k0) sz) := by
  refine Met.ofW (cc := cX10_tire) (maxL := 1) (ret := none) (by decide) rfl ?_
  intro p e s m args below meth c s₁ B hml hv
  obtain ⟨rfl, hsz, hP, hK, hD0, hM⟩ := hv
  have hx := B.exec
  have hb := B.bytes
  have hr := B.returns
  have hts := atoms_spec (ws := wsX10_tire) B.pre
  have hown : s.vm.findClass RX10 = some m.cls := findClass_of_methodNamed B.named
  have hlocks := B.notSynchronized
  have hiX10 : ∀ w ∈ u_ws RX10 TX10 2, w ∈ wsX10_tire := by decide +kernel
  subst hsz
  have hD := hD0.self (sz := s.heap.size)
  generalize hAe : va_A (wd_k_tire z w0 t0 k0) s.heap.size = A at hD hM ⊢
  have hA : ∀ q : Nat, s.heap.size ≤ q → A q := fun q h => by rw [← hAe]; exact Or.inr h
  have hS : va_S A s.heap s.heap [] := va_S.rf
  have hP : va_P (dC, dI) vwCl [(w0, .inr (14, [.int t0, .int k0]))] s.heap := hP
  have hD : va_D A [(w0, .inr (14, [.int t0, .int k0]))] := hD
  have hl := lv_entry ([.ref w0]) (n := 1) (Nat.le_of_ble_eq_true rfl)
  rw [lg_entry_eq]
  generalize (lg_sl ([.ref w0]) ++ List.replicate (1 - (lg_sl ([.ref w0])).length) Slot.unset).toArray = ls at hl ⊢
  have hl : lv_has ls 1 [(0, .ref w0)] := hl
  refine lv_aload_n hx hb dX10_tire_0 rfl (lv_at hl 0 rfl) ?_
  refine lv_aload_n hx hb dX10_tire_1 rfl (lv_at hl 0 rfl) ?_
  refine va_get (D := (dC, dI)) (ci := 14) (v := .int t0) (C := RX10) (T := TX10) (N := 2) hx hb hts hiX10 hown hK hP 0 rfl rfl 0 (by decide) (hts (.fieldLink RX10 7 "SquareRig$Watch" "tired" "I") (by decide +kernel)) (fun _ h9 => h9) rfl dX10_tire_2 ?_
  refine lv_iconst (v := 5) hx hb dX10_tire_5 (by decide) ?_
  refine lv_iadd hx hb dX10_tire_6 ?_
  refine lv_bipush (v := 60) hx hb dX10_tire_7 (by decide) ?_
  refine lv_icmp_le (tgt := 17) hx hb dX10_tire_9 (by decide) (fun c1 => ?_) (fun c1 => ?_)
  · skip
    refine lv_aload_n hx hb dX10_tire_17 rfl (lv_at hl 0 rfl) ?_
    refine va_get (D := (dC, dI)) (ci := 14) (v := .int t0) (C := RX10) (T := TX10) (N := 2) hx hb hts hiX10 hown hK hP 0 rfl rfl 0 (by decide) (hts (.fieldLink RX10 7 "SquareRig$Watch" "tired" "I") (by decide +kernel)) (fun _ h9 => h9) rfl dX10_tire_18 ?_
    refine lv_iconst (v := 5) hx hb dX10_tire_21 (by decide) ?_
    refine lv_iadd hx hb dX10_tire_22 ?_
    refine va_put (D := (dC, dI)) (ci := 14) (v := .int (t0 + 5)) (ty := .int) (C := RX10) (T := TX10) (N := 2) hx hb hts hiX10 tyX10 tyX10_ok nmX10 hown hK hP hD hS 0 rfl rfl 0 (by decide) (hts (.fieldLink RX10 7 "SquareRig$Watch" "tired" "I") (by decide +kernel)) (fun _ h9 => h9) rfl (by decide +kernel) rfl rfl (Nat.le_of_ble_eq_true rfl) dX10_tire_23 (fun H locs hP hD hS => ?_)
    have hP : va_P (dC, dI) vwCl [(w0, .inr (14, [.int (t0 + 5), .int k0]))] H := hP
    have hD : va_D A [(w0, .inr (14, [.int (t0 + 5), .int k0]))] := hD
    exact W.vret hx hb hr (fun t ht hW => ⟨⟨(), rfl, trivial, ⟨(t0 + 5), kB_end (w9 := [(w0, .inr (14, [.int (t0 + 5), .int k0]))]) (t9 := []) hP hK hD [0] [] rfl (by decide) rfl rfl t ht hW⟩⟩, hS.F ht⟩) hS.2.2 dX10_tire_26
  · skip
    refine lv_bipush (v := 60) hx hb dX10_tire_12 (by decide) ?_
    refine lv_goto (tgt := 23) hx hb dX10_tire_14 (by decide) ?_
    refine va_put (D := (dC, dI)) (ci := 14) (v := .int 60) (ty := .int) (C := RX10) (T := TX10) (N := 2) hx hb hts hiX10 tyX10 tyX10_ok nmX10 hown hK hP hD hS 0 rfl rfl 0 (by decide) (hts (.fieldLink RX10 7 "SquareRig$Watch" "tired" "I") (by decide +kernel)) (fun _ h9 => h9) rfl (by decide +kernel) rfl rfl (Nat.le_of_ble_eq_true rfl) dX10_tire_23 (fun H locs hP hD hS => ?_)
    have hP : va_P (dC, dI) vwCl [(w0, .inr (14, [.int 60, .int k0]))] H := hP
    have hD : va_D A [(w0, .inr (14, [.int 60, .int k0]))] := hD
    exact W.vret hx hb hr (fun t ht hW => ⟨⟨(), rfl, trivial, ⟨60, kB_end (w9 := [(w0, .inr (14, [.int 60, .int k0]))]) (t9 := []) hP hK hD [0] [] rfl (by decide) rfl rfl t ht hW⟩⟩, hS.F ht⟩) hS.2.2 dX10_tire_26
abbrev wd_k_rest (z : Nat → Nat) (w0 : Nat) (t0 : Int32) (k0 : Int32) : va_W := [(w0, .inr (14, [.int t0, .int k0]))]
set_option maxHeartbeats 4000000 in
set_option maxRecDepth 100000 in
theorem k_rest (l : Launch) (dC : Nat → ClassId) (dI : Nat → Nat → Nat) (z zK zV : Nat → Nat) (w0 : Nat) (t0 : Int32) (k0 : Int32) (sz : Nat)  : Met l yX10_rest wsX10_rest ({ frames := 0, cells := 0, slots := 0, locals := 0 }) (kP dC dI z zK zV [.ref w0] sz (wd_k_rest z w0 t0 k0) []) (va_Qv (fun _ : Unit => True) (fun _ t => ∃ (u1 : Int32), kB (dC, dI) (va_A (wd_k_rest z w0 t0 k0) sz) [(w0, .inr (14, [.int u1, .int k0]))] [] t) (va_A (wd_k_rest z w0 t0 k0) sz)) 0 0 (va_A (wd_k_rest z w0 t0 k0) sz) := by
  refine Met.ofW (cc := cX10_rest) (maxL := 1) (ret := none) (by decide) rfl ?_
  intro p e s m args below meth c s₁ B hml hv
  obtain ⟨rfl, hsz, hP, hK, hD0, hM⟩ := hv
  have hx := B.exec
  have hb := B.bytes
  have hr := B.returns
  have hts := atoms_spec (ws := wsX10_rest) B.pre
  have hown : s.vm.findClass RX10 = some m.cls := findClass_of_methodNamed B.named
  have hlocks := B.notSynchronized
  have hiX10 : ∀ w ∈ u_ws RX10 TX10 2, w ∈ wsX10_rest := by decide +kernel
  subst hsz
  have hD := hD0.self (sz := s.heap.size)
  generalize hAe : va_A (wd_k_rest z w0 t0 k0) s.heap.size = A at hD hM ⊢
  have hA : ∀ q : Nat, s.heap.size ≤ q → A q := fun q h => by rw [← hAe]; exact Or.inr h
  have hS : va_S A s.heap s.heap [] := va_S.rf
  have hP : va_P (dC, dI) vwCl [(w0, .inr (14, [.int t0, .int k0]))] s.heap := hP
  have hD : va_D A [(w0, .inr (14, [.int t0, .int k0]))] := hD
  have hl := lv_entry ([.ref w0]) (n := 1) (Nat.le_of_ble_eq_true rfl)
  rw [lg_entry_eq]
  generalize (lg_sl ([.ref w0]) ++ List.replicate (1 - (lg_sl ([.ref w0])).length) Slot.unset).toArray = ls at hl ⊢
  have hl : lv_has ls 1 [(0, .ref w0)] := hl
  refine lv_aload_n hx hb dX10_rest_0 rfl (lv_at hl 0 rfl) ?_
  refine lv_aload_n hx hb dX10_rest_1 rfl (lv_at hl 0 rfl) ?_
  refine va_get (D := (dC, dI)) (ci := 14) (v := .int t0) (C := RX10) (T := TX10) (N := 2) hx hb hts hiX10 hown hK hP 0 rfl rfl 0 (by decide) (hts (.fieldLink RX10 7 "SquareRig$Watch" "tired" "I") (by decide +kernel)) (fun _ h9 => h9) rfl dX10_rest_2 ?_
  refine lv_iconst (v := 5) hx hb dX10_rest_5 (by decide) ?_
  refine lv_icmp_ge (tgt := 13) hx hb dX10_rest_6 (by decide) (fun c1 => ?_) (fun c1 => ?_)
  · skip
    refine lv_aload_n hx hb dX10_rest_13 rfl (lv_at hl 0 rfl) ?_
    refine va_get (D := (dC, dI)) (ci := 14) (v := .int t0) (C := RX10) (T := TX10) (N := 2) hx hb hts hiX10 hown hK hP 0 rfl rfl 0 (by decide) (hts (.fieldLink RX10 7 "SquareRig$Watch" "tired" "I") (by decide +kernel)) (fun _ h9 => h9) rfl dX10_rest_14 ?_
    refine lv_iconst (v := 5) hx hb dX10_rest_17 (by decide) ?_
    refine lv_isub hx hb dX10_rest_18 ?_
    refine va_put (D := (dC, dI)) (ci := 14) (v := .int (t0 - 5)) (ty := .int) (C := RX10) (T := TX10) (N := 2) hx hb hts hiX10 tyX10 tyX10_ok nmX10 hown hK hP hD hS 0 rfl rfl 0 (by decide) (hts (.fieldLink RX10 7 "SquareRig$Watch" "tired" "I") (by decide +kernel)) (fun _ h9 => h9) rfl (by decide +kernel) rfl rfl (Nat.le_of_ble_eq_true rfl) dX10_rest_19 (fun H locs hP hD hS => ?_)
    have hP : va_P (dC, dI) vwCl [(w0, .inr (14, [.int (t0 - 5), .int k0]))] H := hP
    have hD : va_D A [(w0, .inr (14, [.int (t0 - 5), .int k0]))] := hD
    exact W.vret hx hb hr (fun t ht hW => ⟨⟨(), rfl, trivial, ⟨(t0 - 5), kB_end (w9 := [(w0, .inr (14, [.int (t0 - 5), .int k0]))]) (t9 := []) hP hK hD [0] [] rfl (by decide) rfl rfl t ht hW⟩⟩, hS.F ht⟩) hS.2.2 dX10_rest_22
  · skip
    refine lv_iconst (v := 0) hx hb dX10_rest_9 (by decide) ?_
    refine lv_goto (tgt := 19) hx hb dX10_rest_10 (by decide) ?_
    refine va_put (D := (dC, dI)) (ci := 14) (v := .int 0) (ty := .int) (C := RX10) (T := TX10) (N := 2) hx hb hts hiX10 tyX10 tyX10_ok nmX10 hown hK hP hD hS 0 rfl rfl 0 (by decide) (hts (.fieldLink RX10 7 "SquareRig$Watch" "tired" "I") (by decide +kernel)) (fun _ h9 => h9) rfl (by decide +kernel) rfl rfl (Nat.le_of_ble_eq_true rfl) dX10_rest_19 (fun H locs hP hD hS => ?_)
    have hP : va_P (dC, dI) vwCl [(w0, .inr (14, [.int 0, .int k0]))] H := hP
    have hD : va_D A [(w0, .inr (14, [.int 0, .int k0]))] := hD
    exact W.vret hx hb hr (fun t ht hW => ⟨⟨(), rfl, trivial, ⟨0, kB_end (w9 := [(w0, .inr (14, [.int 0, .int k0]))]) (t9 := []) hP hK hD [0] [] rfl (by decide) rfl rfl t ht hW⟩⟩, hS.F ht⟩) hS.2.2 dX10_rest_22
abbrev wd_k_sicken (z : Nat → Nat) (w0 : Nat) (t0 : Int32) (k0 : Int32) : va_W := [(w0, .inr (14, [.int t0, .int k0]))]
set_option maxHeartbeats 4000000 in
set_option maxRecDepth 100000 in
theorem k_sicken (l : Launch) (dC : Nat → ClassId) (dI : Nat → Nat → Nat) (z zK zV : Nat → Nat) (w0 : Nat) (t0 : Int32) (k0 : Int32) (sz : Nat)  : Met l yX10_sicken wsX10_sicken ({ frames := 0, cells := 0, slots := 0, locals := 0 }) (kP dC dI z zK zV [.ref w0] sz (wd_k_sicken z w0 t0 k0) []) (va_Qv (fun _ : Unit => True) (fun _ t => ∃ (u1 : Int32), kB (dC, dI) (va_A (wd_k_sicken z w0 t0 k0) sz) [(w0, .inr (14, [.int t0, .int u1]))] [] t) (va_A (wd_k_sicken z w0 t0 k0) sz)) 0 0 (va_A (wd_k_sicken z w0 t0 k0) sz) := by
  refine Met.ofW (cc := cX10_sicken) (maxL := 1) (ret := none) (by decide) rfl ?_
  intro p e s m args below meth c s₁ B hml hv
  obtain ⟨rfl, hsz, hP, hK, hD0, hM⟩ := hv
  have hx := B.exec
  have hb := B.bytes
  have hr := B.returns
  have hts := atoms_spec (ws := wsX10_sicken) B.pre
  have hown : s.vm.findClass RX10 = some m.cls := findClass_of_methodNamed B.named
  have hlocks := B.notSynchronized
  have hiX10 : ∀ w ∈ u_ws RX10 TX10 2, w ∈ wsX10_sicken := by decide +kernel
  subst hsz
  have hD := hD0.self (sz := s.heap.size)
  generalize hAe : va_A (wd_k_sicken z w0 t0 k0) s.heap.size = A at hD hM ⊢
  have hA : ∀ q : Nat, s.heap.size ≤ q → A q := fun q h => by rw [← hAe]; exact Or.inr h
  have hS : va_S A s.heap s.heap [] := va_S.rf
  have hP : va_P (dC, dI) vwCl [(w0, .inr (14, [.int t0, .int k0]))] s.heap := hP
  have hD : va_D A [(w0, .inr (14, [.int t0, .int k0]))] := hD
  have hl := lv_entry ([.ref w0]) (n := 1) (Nat.le_of_ble_eq_true rfl)
  rw [lg_entry_eq]
  generalize (lg_sl ([.ref w0]) ++ List.replicate (1 - (lg_sl ([.ref w0])).length) Slot.unset).toArray = ls at hl ⊢
  have hl : lv_has ls 1 [(0, .ref w0)] := hl
  refine lv_aload_n hx hb dX10_sicken_0 rfl (lv_at hl 0 rfl) ?_
  refine va_get (D := (dC, dI)) (ci := 14) (v := .int k0) (C := RX10) (T := TX10) (N := 2) hx hb hts hiX10 hown hK hP 0 rfl rfl 1 (by decide) (hts (.fieldLink RX10 13 "SquareRig$Watch" "sick" "I") (by decide +kernel)) (fun _ h9 => h9) rfl dX10_sicken_1 ?_
  refine lv_bipush (v := 12) hx hb dX10_sicken_4 (by decide) ?_
  refine lv_icmp_ge (tgt := 19) hx hb dX10_sicken_6 (by decide) (fun c1 => ?_) (fun c1 => ?_)
  · skip
    exact W.vret hx hb hr (fun t ht hW => ⟨⟨(), rfl, trivial, ⟨k0, kB_end (w9 := [(w0, .inr (14, [.int t0, .int k0]))]) (t9 := []) hP hK hD [0] [] rfl (by decide) rfl rfl t ht hW⟩⟩, hS.F ht⟩) hS.2.2 dX10_sicken_19
  · skip
    refine lv_aload_n hx hb dX10_sicken_9 rfl (lv_at hl 0 rfl) ?_
    refine lv_dup hx hb dX10_sicken_10 rfl ?_
    refine va_get (D := (dC, dI)) (ci := 14) (v := .int k0) (C := RX10) (T := TX10) (N := 2) hx hb hts hiX10 hown hK hP 0 rfl rfl 1 (by decide) (hts (.fieldLink RX10 13 "SquareRig$Watch" "sick" "I") (by decide +kernel)) (fun _ h9 => h9) rfl dX10_sicken_11 ?_
    refine lv_iconst (v := 1) hx hb dX10_sicken_14 (by decide) ?_
    refine lv_iadd hx hb dX10_sicken_15 ?_
    refine va_put (D := (dC, dI)) (ci := 14) (v := .int (k0 + 1)) (ty := .int) (C := RX10) (T := TX10) (N := 2) hx hb hts hiX10 tyX10 tyX10_ok nmX10 hown hK hP hD hS 0 rfl rfl 1 (by decide) (hts (.fieldLink RX10 13 "SquareRig$Watch" "sick" "I") (by decide +kernel)) (fun _ h9 => h9) rfl (by decide +kernel) rfl rfl (Nat.le_of_ble_eq_true rfl) dX10_sicken_16 (fun H locs hP hD hS => ?_)
    have hP : va_P (dC, dI) vwCl [(w0, .inr (14, [.int t0, .int (k0 + 1)]))] H := hP
    have hD : va_D A [(w0, .inr (14, [.int t0, .int (k0 + 1)]))] := hD
    exact W.vret hx hb hr (fun t ht hW => ⟨⟨(), rfl, trivial, ⟨(k0 + 1), kB_end (w9 := [(w0, .inr (14, [.int t0, .int (k0 + 1)]))]) (t9 := []) hP hK hD [0] [] rfl (by decide) rfl rfl t ht hW⟩⟩, hS.F ht⟩) hS.2.2 dX10_sicken_19
abbrev wd_k_watchOf0 (z : Nat → Nat) (dk : Nat) (w0 : Nat) (w1 : Nat) (ol : Nat) : va_W := [(dk, .inr (4, [.ref w0, .ref w1, .ref ol, .int 0, .int 0, .int 0, .int 0]))]
set_option maxHeartbeats 4000000 in
set_option maxRecDepth 100000 in
theorem k_watchOf0 (l : Launch) (dC : Nat → ClassId) (dI : Nat → Nat → Nat) (z zK zV : Nat → Nat) (dk : Nat) (w0 : Nat) (w1 : Nat) (ol : Nat) (sz : Nat)  : Met l yX0_watchOf wsX0_watchOf ({ frames := 0, cells := 0, slots := 0, locals := 0 }) (kP dC dI z zK zV [.ref dk, .int 0] sz (wd_k_watchOf0 z dk w0 w1 ol) []) (va_Qr (fun _ : Unit => True) (fun _ a t => w0 = a ∧ kB (dC, dI) (va_A (wd_k_watchOf0 z dk w0 w1 ol) sz) [(dk, .inr (4, [.ref w0, .ref w1, .ref ol, .int 0, .int 0, .int 0, .int 0]))] [] t) (va_A (wd_k_watchOf0 z dk w0 w1 ol) sz)) 0 0 (va_A (wd_k_watchOf0 z dk w0 w1 ol) sz) := by
  refine Met.ofW (cc := cX0_watchOf) (maxL := 2) (ret := (some (.object "SquareRig$Watch"))) (by decide) rfl ?_
  intro p e s m args below meth c s₁ B hml hv
  obtain ⟨rfl, hsz, hP, hK, hD0, hM⟩ := hv
  have hx := B.exec
  have hb := B.bytes
  have hr := B.returns
  have hts := atoms_spec (ws := wsX0_watchOf) B.pre
  have hown : s.vm.findClass RX0 = some m.cls := findClass_of_methodNamed B.named
  have hlocks := B.notSynchronized
  have hiX0 : ∀ w ∈ u_ws RX0 TX0 7, w ∈ wsX0_watchOf := by decide +kernel
  subst hsz
  have hD := hD0.self (sz := s.heap.size)
  generalize hAe : va_A (wd_k_watchOf0 z dk w0 w1 ol) s.heap.size = A at hD hM ⊢
  have hA : ∀ q : Nat, s.heap.size ≤ q → A q := fun q h => by rw [← hAe]; exact Or.inr h
  have hS : va_S A s.heap s.heap [] := va_S.rf
  have hP : va_P (dC, dI) vwCl [(dk, .inr (4, [.ref w0, .ref w1, .ref ol, .int 0, .int 0, .int 0, .int 0]))] s.heap := hP
  have hD : va_D A [(dk, .inr (4, [.ref w0, .ref w1, .ref ol, .int 0, .int 0, .int 0, .int 0]))] := hD
  have hl := lv_entry ([.ref dk, .int 0]) (n := 2) (Nat.le_of_ble_eq_true rfl)
  rw [lg_entry_eq]
  generalize (lg_sl ([.ref dk, .int 0]) ++ List.replicate (2 - (lg_sl ([.ref dk, .int 0])).length) Slot.unset).toArray = ls at hl ⊢
  have hl : lv_has ls 2 [(0, .ref dk), (1, .int 0)] := hl
  refine lv_iload_n hx hb dX0_watchOf_0 rfl (lv_at hl 1 rfl) ?_
  refine lv_if_ne (tgt := 11) hx hb dX0_watchOf_1 (by decide) (fun c_ => absurd (by decide +kernel) c_) (fun _ => ?_)
  refine lv_aload_n hx hb dX0_watchOf_4 rfl (lv_at hl 0 rfl) ?_
  refine va_get (D := (dC, dI)) (ci := 4) (v := .ref w0) (C := RX0) (T := TX0) (N := 7) hx hb hts hiX0 hown hK hP 0 rfl rfl 0 (by decide) (hts (.fieldLink RX0 12 "SquareRig$Deck" "first" "LSquareRig$Watch;") (by decide +kernel)) (fun _ h9 => h9) rfl dX0_watchOf_5 ?_
  refine lv_goto (tgt := 15) hx hb dX0_watchOf_8 (by decide) ?_
  exact W.aret hx hb hr (Or.inl ⟨_, rfl⟩) (Or.inr ⟨_, rfl⟩) (fun t ht hW => ⟨⟨(), w0, rfl, trivial, ⟨rfl, kB_end (w9 := [(dk, .inr (4, [.ref w0, .ref w1, .ref ol, .int 0, .int 0, .int 0, .int 0]))]) (t9 := []) hP hK hD [0] [] rfl (by decide) rfl rfl t ht hW⟩⟩, hS.F ht⟩) hS.2.2 dX0_watchOf_15
abbrev wd_k_watchOf0x (z : Nat → Nat) (dk : Nat) (w0 : Nat) (w1 : Nat) (ol : Nat) : va_W := [(dk, .inr (4, [.ref w0, .ref w1, .ref ol, .int 1, .int 0, .int 0, .int 0]))]
set_option maxHeartbeats 4000000 in
set_option maxRecDepth 100000 in
theorem k_watchOf0x (l : Launch) (dC : Nat → ClassId) (dI : Nat → Nat → Nat) (z zK zV : Nat → Nat) (dk : Nat) (w0 : Nat) (w1 : Nat) (ol : Nat) (sz : Nat)  : Met l yX0_watchOf wsX0_watchOf ({ frames := 0, cells := 0, slots := 0, locals := 0 }) (kP dC dI z zK zV [.ref dk, .int 0] sz (wd_k_watchOf0x z dk w0 w1 ol) []) (va_Qr (fun _ : Unit => True) (fun _ a t => w0 = a ∧ kB (dC, dI) (va_A (wd_k_watchOf0x z dk w0 w1 ol) sz) [(dk, .inr (4, [.ref w0, .ref w1, .ref ol, .int 1, .int 0, .int 0, .int 0]))] [] t) (va_A (wd_k_watchOf0x z dk w0 w1 ol) sz)) 0 0 (va_A (wd_k_watchOf0x z dk w0 w1 ol) sz) := by
  refine Met.ofW (cc := cX0_watchOf) (maxL := 2) (ret := (some (.object "SquareRig$Watch"))) (by decide) rfl ?_
  intro p e s m args below meth c s₁ B hml hv
  obtain ⟨rfl, hsz, hP, hK, hD0, hM⟩ := hv
  have hx := B.exec
  have hb := B.bytes
  have hr := B.returns
  have hts := atoms_spec (ws := wsX0_watchOf) B.pre
  have hown : s.vm.findClass RX0 = some m.cls := findClass_of_methodNamed B.named
  have hlocks := B.notSynchronized
  have hiX0 : ∀ w ∈ u_ws RX0 TX0 7, w ∈ wsX0_watchOf := by decide +kernel
  subst hsz
  have hD := hD0.self (sz := s.heap.size)
  generalize hAe : va_A (wd_k_watchOf0x z dk w0 w1 ol) s.heap.size = A at hD hM ⊢
  have hA : ∀ q : Nat, s.heap.size ≤ q → A q := fun q h => by rw [← hAe]; exact Or.inr h
  have hS : va_S A s.heap s.heap [] := va_S.rf
  have hP : va_P (dC, dI) vwCl [(dk, .inr (4, [.ref w0, .ref w1, .ref ol, .int 1, .int 0, .int 0, .int 0]))] s.heap := hP
  have hD : va_D A [(dk, .inr (4, [.ref w0, .ref w1, .ref ol, .int 1, .int 0, .int 0, .int 0]))] := hD
  have hl := lv_entry ([.ref dk, .int 0]) (n := 2) (Nat.le_of_ble_eq_true rfl)
  rw [lg_entry_eq]
  generalize (lg_sl ([.ref dk, .int 0]) ++ List.replicate (2 - (lg_sl ([.ref dk, .int 0])).length) Slot.unset).toArray = ls at hl ⊢
  have hl : lv_has ls 2 [(0, .ref dk), (1, .int 0)] := hl
  refine lv_iload_n hx hb dX0_watchOf_0 rfl (lv_at hl 1 rfl) ?_
  refine lv_if_ne (tgt := 11) hx hb dX0_watchOf_1 (by decide) (fun c_ => absurd (by decide +kernel) c_) (fun _ => ?_)
  refine lv_aload_n hx hb dX0_watchOf_4 rfl (lv_at hl 0 rfl) ?_
  refine va_get (D := (dC, dI)) (ci := 4) (v := .ref w0) (C := RX0) (T := TX0) (N := 7) hx hb hts hiX0 hown hK hP 0 rfl rfl 0 (by decide) (hts (.fieldLink RX0 12 "SquareRig$Deck" "first" "LSquareRig$Watch;") (by decide +kernel)) (fun _ h9 => h9) rfl dX0_watchOf_5 ?_
  refine lv_goto (tgt := 15) hx hb dX0_watchOf_8 (by decide) ?_
  exact W.aret hx hb hr (Or.inl ⟨_, rfl⟩) (Or.inr ⟨_, rfl⟩) (fun t ht hW => ⟨⟨(), w0, rfl, trivial, ⟨rfl, kB_end (w9 := [(dk, .inr (4, [.ref w0, .ref w1, .ref ol, .int 1, .int 0, .int 0, .int 0]))]) (t9 := []) hP hK hD [0] [] rfl (by decide) rfl rfl t ht hW⟩⟩, hS.F ht⟩) hS.2.2 dX0_watchOf_15
abbrev wd_k_watchOf1 (z : Nat → Nat) (dk : Nat) (w0 : Nat) (w1 : Nat) (ol : Nat) : va_W := [(dk, .inr (4, [.ref w0, .ref w1, .ref ol, .int 0, .int 0, .int 0, .int 0]))]
set_option maxHeartbeats 4000000 in
set_option maxRecDepth 100000 in
theorem k_watchOf1 (l : Launch) (dC : Nat → ClassId) (dI : Nat → Nat → Nat) (z zK zV : Nat → Nat) (dk : Nat) (w0 : Nat) (w1 : Nat) (ol : Nat) (sz : Nat)  : Met l yX0_watchOf wsX0_watchOf ({ frames := 0, cells := 0, slots := 0, locals := 0 }) (kP dC dI z zK zV [.ref dk, .int 1] sz (wd_k_watchOf1 z dk w0 w1 ol) []) (va_Qr (fun _ : Unit => True) (fun _ a t => w1 = a ∧ kB (dC, dI) (va_A (wd_k_watchOf1 z dk w0 w1 ol) sz) [(dk, .inr (4, [.ref w0, .ref w1, .ref ol, .int 0, .int 0, .int 0, .int 0]))] [] t) (va_A (wd_k_watchOf1 z dk w0 w1 ol) sz)) 0 0 (va_A (wd_k_watchOf1 z dk w0 w1 ol) sz) := by
  refine Met.ofW (cc := cX0_watchOf) (maxL := 2) (ret := (some (.object "SquareRig$Watch"))) (by decide) rfl ?_
  intro p e s m args below meth c s₁ B hml hv
  obtain ⟨rfl, hsz, hP, hK, hD0, hM⟩ := hv
  have hx := B.exec
  have hb := B.bytes
  have hr := B.returns
  have hts := atoms_spec (ws := wsX0_watchOf) B.pre
  have hown : s.vm.findClass RX0 = some m.cls := findClass_of_methodNamed B.named
  have hlocks := B.notSynchronized
  have hiX0 : ∀ w ∈ u_ws RX0 TX0 7, w ∈ wsX0_watchOf := by decide +kernel
  subst hsz
  have hD := hD0.self (sz := s.heap.size)
  generalize hAe : va_A (wd_k_watchOf1 z dk w0 w1 ol) s.heap.size = A at hD hM ⊢
  have hA : ∀ q : Nat, s.heap.size ≤ q → A q := fun q h => by rw [← hAe]; exact Or.inr h
  have hS : va_S A s.heap s.heap [] := va_S.rf
  have hP : va_P (dC, dI) vwCl [(dk, .inr (4, [.ref w0, .ref w1, .ref ol, .int 0, .int 0, .int 0, .int 0]))] s.heap := hP
  have hD : va_D A [(dk, .inr (4, [.ref w0, .ref w1, .ref ol, .int 0, .int 0, .int 0, .int 0]))] := hD
  have hl := lv_entry ([.ref dk, .int 1]) (n := 2) (Nat.le_of_ble_eq_true rfl)
  rw [lg_entry_eq]
  generalize (lg_sl ([.ref dk, .int 1]) ++ List.replicate (2 - (lg_sl ([.ref dk, .int 1])).length) Slot.unset).toArray = ls at hl ⊢
  have hl : lv_has ls 2 [(0, .ref dk), (1, .int 1)] := hl
  refine lv_iload_n hx hb dX0_watchOf_0 rfl (lv_at hl 1 rfl) ?_
  refine lv_if_ne (tgt := 11) hx hb dX0_watchOf_1 (by decide) (fun _ => ?_) (fun c_ => absurd c_ (by decide +kernel))
  refine lv_aload_n hx hb dX0_watchOf_11 rfl (lv_at hl 0 rfl) ?_
  refine va_get (D := (dC, dI)) (ci := 4) (v := .ref w1) (C := RX0) (T := TX0) (N := 7) hx hb hts hiX0 hown hK hP 0 rfl rfl 1 (by decide) (hts (.fieldLink RX0 18 "SquareRig$Deck" "second" "LSquareRig$Watch;") (by decide +kernel)) (fun _ h9 => h9) rfl dX0_watchOf_12 ?_
  exact W.aret hx hb hr (Or.inl ⟨_, rfl⟩) (Or.inr ⟨_, rfl⟩) (fun t ht hW => ⟨⟨(), w1, rfl, trivial, ⟨rfl, kB_end (w9 := [(dk, .inr (4, [.ref w0, .ref w1, .ref ol, .int 0, .int 0, .int 0, .int 0]))]) (t9 := []) hP hK hD [0] [] rfl (by decide) rfl rfl t ht hW⟩⟩, hS.F ht⟩) hS.2.2 dX0_watchOf_15
abbrev wd_k_watchOf1x (z : Nat → Nat) (dk : Nat) (w0 : Nat) (w1 : Nat) (ol : Nat) : va_W := [(dk, .inr (4, [.ref w0, .ref w1, .ref ol, .int 1, .int 0, .int 0, .int 0]))]
set_option maxHeartbeats 4000000 in
set_option maxRecDepth 100000 in
theorem k_watchOf1x (l : Launch) (dC : Nat → ClassId) (dI : Nat → Nat → Nat) (z zK zV : Nat → Nat) (dk : Nat) (w0 : Nat) (w1 : Nat) (ol : Nat) (sz : Nat)  : Met l yX0_watchOf wsX0_watchOf ({ frames := 0, cells := 0, slots := 0, locals := 0 }) (kP dC dI z zK zV [.ref dk, .int 1] sz (wd_k_watchOf1x z dk w0 w1 ol) []) (va_Qr (fun _ : Unit => True) (fun _ a t => w1 = a ∧ kB (dC, dI) (va_A (wd_k_watchOf1x z dk w0 w1 ol) sz) [(dk, .inr (4, [.ref w0, .ref w1, .ref ol, .int 1, .int 0, .int 0, .int 0]))] [] t) (va_A (wd_k_watchOf1x z dk w0 w1 ol) sz)) 0 0 (va_A (wd_k_watchOf1x z dk w0 w1 ol) sz) := by
  refine Met.ofW (cc := cX0_watchOf) (maxL := 2) (ret := (some (.object "SquareRig$Watch"))) (by decide) rfl ?_
  intro p e s m args below meth c s₁ B hml hv
  obtain ⟨rfl, hsz, hP, hK, hD0, hM⟩ := hv
  have hx := B.exec
  have hb := B.bytes
  have hr := B.returns
  have hts := atoms_spec (ws := wsX0_watchOf) B.pre
  have hown : s.vm.findClass RX0 = some m.cls := findClass_of_methodNamed B.named
  have hlocks := B.notSynchronized
  have hiX0 : ∀ w ∈ u_ws RX0 TX0 7, w ∈ wsX0_watchOf := by decide +kernel
  subst hsz
  have hD := hD0.self (sz := s.heap.size)
  generalize hAe : va_A (wd_k_watchOf1x z dk w0 w1 ol) s.heap.size = A at hD hM ⊢
  have hA : ∀ q : Nat, s.heap.size ≤ q → A q := fun q h => by rw [← hAe]; exact Or.inr h
  have hS : va_S A s.heap s.heap [] := va_S.rf
  have hP : va_P (dC, dI) vwCl [(dk, .inr (4, [.ref w0, .ref w1, .ref ol, .int 1, .int 0, .int 0, .int 0]))] s.heap := hP
  have hD : va_D A [(dk, .inr (4, [.ref w0, .ref w1, .ref ol, .int 1, .int 0, .int 0, .int 0]))] := hD
  have hl := lv_entry ([.ref dk, .int 1]) (n := 2) (Nat.le_of_ble_eq_true rfl)
  rw [lg_entry_eq]
  generalize (lg_sl ([.ref dk, .int 1]) ++ List.replicate (2 - (lg_sl ([.ref dk, .int 1])).length) Slot.unset).toArray = ls at hl ⊢
  have hl : lv_has ls 2 [(0, .ref dk), (1, .int 1)] := hl
  refine lv_iload_n hx hb dX0_watchOf_0 rfl (lv_at hl 1 rfl) ?_
  refine lv_if_ne (tgt := 11) hx hb dX0_watchOf_1 (by decide) (fun _ => ?_) (fun c_ => absurd c_ (by decide +kernel))
  refine lv_aload_n hx hb dX0_watchOf_11 rfl (lv_at hl 0 rfl) ?_
  refine va_get (D := (dC, dI)) (ci := 4) (v := .ref w1) (C := RX0) (T := TX0) (N := 7) hx hb hts hiX0 hown hK hP 0 rfl rfl 1 (by decide) (hts (.fieldLink RX0 18 "SquareRig$Deck" "second" "LSquareRig$Watch;") (by decide +kernel)) (fun _ h9 => h9) rfl dX0_watchOf_12 ?_
  exact W.aret hx hb hr (Or.inl ⟨_, rfl⟩) (Or.inr ⟨_, rfl⟩) (fun t ht hW => ⟨⟨(), w1, rfl, trivial, ⟨rfl, kB_end (w9 := [(dk, .inr (4, [.ref w0, .ref w1, .ref ol, .int 1, .int 0, .int 0, .int 0]))]) (t9 := []) hP hK hD [0] [] rfl (by decide) rfl rfl t ht hW⟩⟩, hS.F ht⟩) hS.2.2 dX0_watchOf_15
abbrev wd_k_changeWatch0 (z : Nat → Nat) (dk : Nat) (w0 : Nat) (w1 : Nat) (ol : Nat) (t0 : Int32) (k0 : Int32) (t1 : Int32) (k1 : Int32) : va_W := [(dk, .inr (4, [.ref w0, .ref w1, .ref ol, .int 0, .int 0, .int 0, .int 0])), (w0, .inr (14, [.int t0, .int k0])), (w1, .inr (14, [.int t1, .int k1]))]
set_option maxHeartbeats 4000000 in
set_option maxRecDepth 100000 in
theorem k_changeWatch0 (l : Launch) (dC : Nat → ClassId) (dI : Nat → Nat → Nat) (z zK zV : Nat → Nat) (dk : Nat) (w0 : Nat) (w1 : Nat) (ol : Nat) (t0 : Int32) (k0 : Int32) (t1 : Int32) (k1 : Int32) (sz : Nat)  : Met l yX0_changeWatch wsX0_changeWatch ({ frames := 1, cells := 0, slots := 0, locals := 21 }) (kP dC dI z zK zV [.ref dk] sz (wd_k_changeWatch0 z dk w0 w1 ol t0 k0 t1 k1) []) (va_Qv (fun _ : Unit => True) (fun _ t => ∃ (u1 : Int32) (u2 : Int32), kB (dC, dI) (va_A (wd_k_changeWatch0 z dk w0 w1 ol t0 k0 t1 k1) sz) [(w0, .inr (14, [.int u1, .int k0])), (dk, .inr (4, [.ref w0, .ref w1, .ref ol, .int 1, .int 0, .int 0, .int 0])), (w1, .inr (14, [.int u2, .int k1]))] [] t) (va_A (wd_k_changeWatch0 z dk w0 w1 ol t0 k0 t1 k1) sz)) 0 0 (va_A (wd_k_changeWatch0 z dk w0 w1 ol t0 k0 t1 k1) sz) := by
  refine Met.ofW (cc := cX0_changeWatch) (maxL := 1) (ret := none) (by decide) rfl ?_
  intro p e s m args below meth c s₁ B hml hv
  obtain ⟨rfl, hsz, hP, hK, hD0, hM⟩ := hv
  have hx := B.exec
  have hb := B.bytes
  have hr := B.returns
  have hts := atoms_spec (ws := wsX0_changeWatch) B.pre
  have hown : s.vm.findClass RX0 = some m.cls := findClass_of_methodNamed B.named
  have hlocks := B.notSynchronized
  have hiX0 : ∀ w ∈ u_ws RX0 TX0 7, w ∈ wsX0_changeWatch := by decide +kernel
  subst hsz
  have hD := hD0.self (sz := s.heap.size)
  generalize hAe : va_A (wd_k_changeWatch0 z dk w0 w1 ol t0 k0 t1 k1) s.heap.size = A at hD hM ⊢
  have hA : ∀ q : Nat, s.heap.size ≤ q → A q := fun q h => by rw [← hAe]; exact Or.inr h
  have hS : va_S A s.heap s.heap [] := va_S.rf
  have hP : va_P (dC, dI) vwCl [(dk, .inr (4, [.ref w0, .ref w1, .ref ol, .int 0, .int 0, .int 0, .int 0])), (w0, .inr (14, [.int t0, .int k0])), (w1, .inr (14, [.int t1, .int k1]))] s.heap := hP
  have hD : va_D A [(dk, .inr (4, [.ref w0, .ref w1, .ref ol, .int 0, .int 0, .int 0, .int 0])), (w0, .inr (14, [.int t0, .int k0])), (w1, .inr (14, [.int t1, .int k1]))] := hD
  have hl := lv_entry ([.ref dk]) (n := 1) (Nat.le_of_ble_eq_true rfl)
  rw [lg_entry_eq]
  generalize (lg_sl ([.ref dk]) ++ List.replicate (1 - (lg_sl ([.ref dk])).length) Slot.unset).toArray = ls at hl ⊢
  have hl : lv_has ls 1 [(0, .ref dk)] := hl
  refine lv_aload_n hx hb dX0_changeWatch_0 rfl (lv_at hl 0 rfl) ?_
  refine lv_aload_n hx hb dX0_changeWatch_1 rfl (lv_at hl 0 rfl) ?_
  refine va_get (D := (dC, dI)) (ci := 4) (v := .int 0) (C := RX0) (T := TX0) (N := 7) hx hb hts hiX0 hown hK hP 0 rfl rfl 3 (by decide) (hts (.fieldLink RX0 28 "SquareRig$Deck" "turn" "I") (by decide +kernel)) (fun _ h9 => h9) rfl dX0_changeWatch_2 ?_
  have hPc := hP.sub (ws' := [(dk, .inr (4, [.ref w0, .ref w1, .ref ol, .int 0, .int 0, .int 0, .int 0]))]) [0] rfl
  have hDc := hD.sub (ws' := [(dk, .inr (4, [.ref w0, .ref w1, .ref ol, .int 0, .int 0, .int 0, .int 0]))]) [0] (by decide) rfl
  have hKc := hK.sub (tys' := []) [] rfl
  have hFc := va_free (wc := [(dk, .inr (4, [.ref w0, .ref w1, .ref ol, .int 0, .int 0, .int 0, .int 0]))]) hD hS hA [0] rfl
  refine va_callr (va_runV (As := [.int 0]) (rest := []) ⟨hx, hb, hml, hown, hts⟩ (k_watchOf0 l dC dI z zK zV dk w0 w1 ol s.heap.size) (cwV 1 hts gX0_changeWatch_X0_watchOf rfl rfl rfl (by decide +kernel) ⟨Nat.le_of_ble_eq_true rfl, Nat.le_of_ble_eq_true rfl⟩) ⟨kP_blind, va_recv hKc hPc (ci := 4) (q0 := 0) rfl rfl, kP_go hPc hKc hDc hFc hM hS⟩ rfl rfl hl.1 rfl (lv_room (Nat.le_of_ble_eq_true rfl)) dX0_changeWatch_5 ⟨Nat.le_of_ble_eq_true rfl, Nat.le_of_ble_eq_true rfl⟩) hS (fun q _ h => hFc q h) hFc (fun u ra1 t H1 locs ht hvm hw hB hz1 hk1 hS => ?_)
  obtain ⟨rfl, hB⟩ := hB
  obtain ⟨hP, hD, hK⟩ := kJ (wr := [(w0, .inr (14, [.int t0, .int k0])), (w1, .inr (14, [.int t1, .int k1]))]) (w1 := [(dk, .inr (4, [.ref w0, .ref w1, .ref ol, .int 0, .int 0, .int 0, .int 0]))]) (t1 := []) hP hD hK [0] [1, 2] rfl rfl (by decide) (by decide) hk1 hFc ht hvm hB
  generalize H1 = H at hP hS ⊢
  have hP : va_P (dC, dI) vwCl [(w0, .inr (14, [.int t0, .int k0])), (w1, .inr (14, [.int t1, .int k1])), (dk, .inr (4, [.ref w0, .ref w1, .ref ol, .int 0, .int 0, .int 0, .int 0]))] H := hP
  have hD : va_D A [(w0, .inr (14, [.int t0, .int k0])), (w1, .inr (14, [.int t1, .int k1])), (dk, .inr (4, [.ref w0, .ref w1, .ref ol, .int 0, .int 0, .int 0, .int 0]))] := hD
  have hK : va_K (dC, dI) vwCl [] s := hK
  have hPc := hP.sub (ws' := [(w0, .inr (14, [.int t0, .int k0]))]) [0] rfl
  have hDc := hD.sub (ws' := [(w0, .inr (14, [.int t0, .int k0]))]) [0] (by decide) rfl
  have hKc := hK.sub (tys' := []) [] rfl
  have hFc := va_free (wc := [(w0, .inr (14, [.int t0, .int k0]))]) hD hS hA [0] rfl
  refine va_callv (va_runV (As := []) (rest := []) ⟨hx, hb, hml, hown, hts⟩ (k_tire l dC dI z zK zV w0 t0 k0 H.size) (cwV 0 hts gX0_changeWatch_X10_tire rfl rfl rfl (by decide +kernel) ⟨Nat.le_of_ble_eq_true rfl, Nat.le_of_ble_eq_true rfl⟩) ⟨kP_blind, va_recv hKc hPc (ci := 14) (q0 := 0) rfl rfl, kP_go hPc hKc hDc hFc hM hS⟩ rfl rfl hl.1 rfl (lv_room (Nat.le_of_ble_eq_true rfl)) dX0_changeWatch_8 ⟨Nat.le_of_ble_eq_true rfl, Nat.le_of_ble_eq_true rfl⟩) hS (fun q _ h => hFc q h) hFc (fun u t H1 locs ht hvm hw hB hz1 hk1 hS => ?_)
  obtain ⟨u2, hB⟩ := hB
  obtain ⟨hP, hD, hK⟩ := kJ (wr := [(w1, .inr (14, [.int t1, .int k1])), (dk, .inr (4, [.ref w0, .ref w1, .ref ol, .int 0, .int 0, .int 0, .int 0]))]) (w1 := [(w0, .inr (14, [.int u2, .int k0]))]) (t1 := []) hP hD hK [0] [1, 2] rfl rfl (by decide) (by decide) hk1 hFc ht hvm hB
  generalize H1 = H at hP hS ⊢
  have hP : va_P (dC, dI) vwCl [(w1, .inr (14, [.int t1, .int k1])), (dk, .inr (4, [.ref w0, .ref w1, .ref ol, .int 0, .int 0, .int 0, .int 0])), (w0, .inr (14, [.int u2, .int k0]))] H := hP
  have hD : va_D A [(w1, .inr (14, [.int t1, .int k1])), (dk, .inr (4, [.ref w0, .ref w1, .ref ol, .int 0, .int 0, .int 0, .int 0])), (w0, .inr (14, [.int u2, .int k0]))] := hD
  have hK : va_K (dC, dI) vwCl [] s := hK
  clear hw
  refine lv_aload_n hx hb dX0_changeWatch_11 rfl (lv_at hl 0 rfl) ?_
  refine va_get (D := (dC, dI)) (ci := 4) (v := .int 0) (C := RX0) (T := TX0) (N := 7) hx hb hts hiX0 hown hK hP 1 rfl rfl 4 (by decide) (hts (.fieldLink RX0 32 "SquareRig$Deck" "allCalled" "Z") (by decide +kernel)) (fun _ h9 => h9) rfl dX0_changeWatch_12 ?_
  refine lv_if_eq (tgt := 34) hx hb dX0_changeWatch_15 (by decide) (fun _ => ?_) (fun c_ => absurd (by decide +kernel) c_)
  refine lv_aload_n hx hb dX0_changeWatch_34 rfl (lv_at hl 0 rfl) ?_
  refine lv_iconst (v := 1) hx hb dX0_changeWatch_35 (by decide) ?_
  refine lv_aload_n hx hb dX0_changeWatch_36 rfl (lv_at hl 0 rfl) ?_
  refine va_get (D := (dC, dI)) (ci := 4) (v := .int 0) (C := RX0) (T := TX0) (N := 7) hx hb hts hiX0 hown hK hP 1 rfl rfl 3 (by decide) (hts (.fieldLink RX0 28 "SquareRig$Deck" "turn" "I") (by decide +kernel)) (fun _ h9 => h9) rfl dX0_changeWatch_37 ?_
  refine lv_isub hx hb dX0_changeWatch_40 ?_
  refine kc_i (y := 1) (by decide +kernel) ?_
  have hPc := hP.sub (ws' := [(dk, .inr (4, [.ref w0, .ref w1, .ref ol, .int 0, .int 0, .int 0, .int 0]))]) [1] rfl
  have hDc := hD.sub (ws' := [(dk, .inr (4, [.ref w0, .ref w1, .ref ol, .int 0, .int 0, .int 0, .int 0]))]) [1] (by decide) rfl
  have hKc := hK.sub (tys' := []) [] rfl
  have hFc := va_free (wc := [(dk, .inr (4, [.ref w0, .ref w1, .ref ol, .int 0, .int 0, .int 0, .int 0]))]) hD hS hA [1] rfl
  refine va_callr (va_runV (As := [.int 1]) (rest := []) ⟨hx, hb, hml, hown, hts⟩ (k_watchOf1 l dC dI z zK zV dk w0 w1 ol H.size) (cwV 1 hts gX0_changeWatch_X0_watchOf rfl rfl rfl (by decide +kernel) ⟨Nat.le_of_ble_eq_true rfl, Nat.le_of_ble_eq_true rfl⟩) ⟨kP_blind, va_recv hKc hPc (ci := 4) (q0 := 0) rfl rfl, kP_go hPc hKc hDc hFc hM hS⟩ rfl rfl hl.1 rfl (lv_room (Nat.le_of_ble_eq_true rfl)) dX0_changeWatch_41 ⟨Nat.le_of_ble_eq_true rfl, Nat.le_of_ble_eq_true rfl⟩) hS (fun q _ h => hFc q h) hFc (fun u ra3 t H1 locs ht hvm hw hB hz1 hk1 hS => ?_)
  obtain ⟨rfl, hB⟩ := hB
  obtain ⟨hP, hD, hK⟩ := kJ (wr := [(w1, .inr (14, [.int t1, .int k1])), (w0, .inr (14, [.int u2, .int k0]))]) (w1 := [(dk, .inr (4, [.ref w0, .ref w1, .ref ol, .int 0, .int 0, .int 0, .int 0]))]) (t1 := []) hP hD hK [1] [0, 2] rfl rfl (by decide) (by decide) hk1 hFc ht hvm hB
  generalize H1 = H at hP hS ⊢
  have hP : va_P (dC, dI) vwCl [(w1, .inr (14, [.int t1, .int k1])), (w0, .inr (14, [.int u2, .int k0])), (dk, .inr (4, [.ref w0, .ref w1, .ref ol, .int 0, .int 0, .int 0, .int 0]))] H := hP
  have hD : va_D A [(w1, .inr (14, [.int t1, .int k1])), (w0, .inr (14, [.int u2, .int k0])), (dk, .inr (4, [.ref w0, .ref w1, .ref ol, .int 0, .int 0, .int 0, .int 0]))] := hD
  have hK : va_K (dC, dI) vwCl [] s := hK
  have hPc := hP.sub (ws' := [(w1, .inr (14, [.int t1, .int k1]))]) [0] rfl
  have hDc := hD.sub (ws' := [(w1, .inr (14, [.int t1, .int k1]))]) [0] (by decide) rfl
  have hKc := hK.sub (tys' := []) [] rfl
  have hFc := va_free (wc := [(w1, .inr (14, [.int t1, .int k1]))]) hD hS hA [0] rfl
  refine va_callv (va_runV (As := []) (rest := []) ⟨hx, hb, hml, hown, hts⟩ (k_rest l dC dI z zK zV w1 t1 k1 H.size) (cwV 0 hts gX0_changeWatch_X10_rest rfl rfl rfl (by decide +kernel) ⟨Nat.le_of_ble_eq_true rfl, Nat.le_of_ble_eq_true rfl⟩) ⟨kP_blind, va_recv hKc hPc (ci := 14) (q0 := 0) rfl rfl, kP_go hPc hKc hDc hFc hM hS⟩ rfl rfl hl.1 rfl (lv_room (Nat.le_of_ble_eq_true rfl)) dX0_changeWatch_44 ⟨Nat.le_of_ble_eq_true rfl, Nat.le_of_ble_eq_true rfl⟩) hS (fun q _ h => hFc q h) hFc (fun u t H1 locs ht hvm hw hB hz1 hk1 hS => ?_)
  obtain ⟨u4, hB⟩ := hB
  obtain ⟨hP, hD, hK⟩ := kJ (wr := [(w0, .inr (14, [.int u2, .int k0])), (dk, .inr (4, [.ref w0, .ref w1, .ref ol, .int 0, .int 0, .int 0, .int 0]))]) (w1 := [(w1, .inr (14, [.int u4, .int k1]))]) (t1 := []) hP hD hK [0] [1, 2] rfl rfl (by decide) (by decide) hk1 hFc ht hvm hB
  generalize H1 = H at hP hS ⊢
  have hP : va_P (dC, dI) vwCl [(w0, .inr (14, [.int u2, .int k0])), (dk, .inr (4, [.ref w0, .ref w1, .ref ol, .int 0, .int 0, .int 0, .int 0])), (w1, .inr (14, [.int u4, .int k1]))] H := hP
  have hD : va_D A [(w0, .inr (14, [.int u2, .int k0])), (dk, .inr (4, [.ref w0, .ref w1, .ref ol, .int 0, .int 0, .int 0, .int 0])), (w1, .inr (14, [.int u4, .int k1]))] := hD
  have hK : va_K (dC, dI) vwCl [] s := hK
  clear hw
  refine lv_aload_n hx hb dX0_changeWatch_47 rfl (lv_at hl 0 rfl) ?_
  refine lv_iconst (v := 1) hx hb dX0_changeWatch_48 (by decide) ?_
  refine lv_aload_n hx hb dX0_changeWatch_49 rfl (lv_at hl 0 rfl) ?_
  refine va_get (D := (dC, dI)) (ci := 4) (v := .int 0) (C := RX0) (T := TX0) (N := 7) hx hb hts hiX0 hown hK hP 1 rfl rfl 3 (by decide) (hts (.fieldLink RX0 28 "SquareRig$Deck" "turn" "I") (by decide +kernel)) (fun _ h9 => h9) rfl dX0_changeWatch_50 ?_
  refine lv_isub hx hb dX0_changeWatch_53 ?_
  refine kc_i (y := 1) (by decide +kernel) ?_
  refine va_put (D := (dC, dI)) (ci := 4) (v := .int 1) (ty := .int) (C := RX0) (T := TX0) (N := 7) hx hb hts hiX0 tyX0 tyX0_ok nmX0 hown hK hP hD hS 1 rfl rfl 3 (by decide) (hts (.fieldLink RX0 28 "SquareRig$Deck" "turn" "I") (by decide +kernel)) (fun _ h9 => h9) rfl (by decide +kernel) rfl rfl (Nat.le_of_ble_eq_true rfl) dX0_changeWatch_54 (fun H locs hP hD hS => ?_)
  have hP : va_P (dC, dI) vwCl [(w0, .inr (14, [.int u2, .int k0])), (dk, .inr (4, [.ref w0, .ref w1, .ref ol, .int 1, .int 0, .int 0, .int 0])), (w1, .inr (14, [.int u4, .int k1]))] H := hP
  have hD : va_D A [(w0, .inr (14, [.int u2, .int k0])), (dk, .inr (4, [.ref w0, .ref w1, .ref ol, .int 1, .int 0, .int 0, .int 0])), (w1, .inr (14, [.int u4, .int k1]))] := hD
  exact W.vret hx hb hr (fun t ht hW => ⟨⟨(), rfl, trivial, ⟨u2, u4, kB_end (w9 := [(w0, .inr (14, [.int u2, .int k0])), (dk, .inr (4, [.ref w0, .ref w1, .ref ol, .int 1, .int 0, .int 0, .int 0])), (w1, .inr (14, [.int u4, .int k1]))]) (t9 := []) hP hK hD [0, 1, 2] [] rfl (by decide) rfl rfl t ht hW⟩⟩, hS.F ht⟩) hS.2.2 dX0_changeWatch_57
abbrev wd_k_changeWatch1 (z : Nat → Nat) (dk : Nat) (w0 : Nat) (w1 : Nat) (ol : Nat) (t0 : Int32) (k0 : Int32) (t1 : Int32) (k1 : Int32) : va_W := [(dk, .inr (4, [.ref w0, .ref w1, .ref ol, .int 1, .int 0, .int 0, .int 0])), (w0, .inr (14, [.int t0, .int k0])), (w1, .inr (14, [.int t1, .int k1]))]
set_option maxHeartbeats 4000000 in
set_option maxRecDepth 100000 in
theorem k_changeWatch1 (l : Launch) (dC : Nat → ClassId) (dI : Nat → Nat → Nat) (z zK zV : Nat → Nat) (dk : Nat) (w0 : Nat) (w1 : Nat) (ol : Nat) (t0 : Int32) (k0 : Int32) (t1 : Int32) (k1 : Int32) (sz : Nat)  : Met l yX0_changeWatch wsX0_changeWatch ({ frames := 1, cells := 0, slots := 0, locals := 21 }) (kP dC dI z zK zV [.ref dk] sz (wd_k_changeWatch1 z dk w0 w1 ol t0 k0 t1 k1) []) (va_Qv (fun _ : Unit => True) (fun _ t => ∃ (u1 : Int32) (u2 : Int32), kB (dC, dI) (va_A (wd_k_changeWatch1 z dk w0 w1 ol t0 k0 t1 k1) sz) [(w1, .inr (14, [.int u1, .int k1])), (dk, .inr (4, [.ref w0, .ref w1, .ref ol, .int 0, .int 0, .int 0, .int 0])), (w0, .inr (14, [.int u2, .int k0]))] [] t) (va_A (wd_k_changeWatch1 z dk w0 w1 ol t0 k0 t1 k1) sz)) 0 0 (va_A (wd_k_changeWatch1 z dk w0 w1 ol t0 k0 t1 k1) sz) := by
  refine Met.ofW (cc := cX0_changeWatch) (maxL := 1) (ret := none) (by decide) rfl ?_
  intro p e s m args below meth c s₁ B hml hv
  obtain ⟨rfl, hsz, hP, hK, hD0, hM⟩ := hv
  have hx := B.exec
  have hb := B.bytes
  have hr := B.returns
  have hts := atoms_spec (ws := wsX0_changeWatch) B.pre
  have hown : s.vm.findClass RX0 = some m.cls := findClass_of_methodNamed B.named
  have hlocks := B.notSynchronized
  have hiX0 : ∀ w ∈ u_ws RX0 TX0 7, w ∈ wsX0_changeWatch := by decide +kernel
  subst hsz
  have hD := hD0.self (sz := s.heap.size)
  generalize hAe : va_A (wd_k_changeWatch1 z dk w0 w1 ol t0 k0 t1 k1) s.heap.size = A at hD hM ⊢
  have hA : ∀ q : Nat, s.heap.size ≤ q → A q := fun q h => by rw [← hAe]; exact Or.inr h
  have hS : va_S A s.heap s.heap [] := va_S.rf
  have hP : va_P (dC, dI) vwCl [(dk, .inr (4, [.ref w0, .ref w1, .ref ol, .int 1, .int 0, .int 0, .int 0])), (w0, .inr (14, [.int t0, .int k0])), (w1, .inr (14, [.int t1, .int k1]))] s.heap := hP
  have hD : va_D A [(dk, .inr (4, [.ref w0, .ref w1, .ref ol, .int 1, .int 0, .int 0, .int 0])), (w0, .inr (14, [.int t0, .int k0])), (w1, .inr (14, [.int t1, .int k1]))] := hD
  have hl := lv_entry ([.ref dk]) (n := 1) (Nat.le_of_ble_eq_true rfl)
  rw [lg_entry_eq]
  generalize (lg_sl ([.ref dk]) ++ List.replicate (1 - (lg_sl ([.ref dk])).length) Slot.unset).toArray = ls at hl ⊢
  have hl : lv_has ls 1 [(0, .ref dk)] := hl
  refine lv_aload_n hx hb dX0_changeWatch_0 rfl (lv_at hl 0 rfl) ?_
  refine lv_aload_n hx hb dX0_changeWatch_1 rfl (lv_at hl 0 rfl) ?_
  refine va_get (D := (dC, dI)) (ci := 4) (v := .int 1) (C := RX0) (T := TX0) (N := 7) hx hb hts hiX0 hown hK hP 0 rfl rfl 3 (by decide) (hts (.fieldLink RX0 28 "SquareRig$Deck" "turn" "I") (by decide +kernel)) (fun _ h9 => h9) rfl dX0_changeWatch_2 ?_
  have hPc := hP.sub (ws' := [(dk, .inr (4, [.ref w0, .ref w1, .ref ol, .int 1, .int 0, .int 0, .int 0]))]) [0] rfl
  have hDc := hD.sub (ws' := [(dk, .inr (4, [.ref w0, .ref w1, .ref ol, .int 1, .int 0, .int 0, .int 0]))]) [0] (by decide) rfl
  have hKc := hK.sub (tys' := []) [] rfl
  have hFc := va_free (wc := [(dk, .inr (4, [.ref w0, .ref w1, .ref ol, .int 1, .int 0, .int 0, .int 0]))]) hD hS hA [0] rfl
  refine va_callr (va_runV (As := [.int 1]) (rest := []) ⟨hx, hb, hml, hown, hts⟩ (k_watchOf1x l dC dI z zK zV dk w0 w1 ol s.heap.size) (cwV 1 hts gX0_changeWatch_X0_watchOf rfl rfl rfl (by decide +kernel) ⟨Nat.le_of_ble_eq_true rfl, Nat.le_of_ble_eq_true rfl⟩) ⟨kP_blind, va_recv hKc hPc (ci := 4) (q0 := 0) rfl rfl, kP_go hPc hKc hDc hFc hM hS⟩ rfl rfl hl.1 rfl (lv_room (Nat.le_of_ble_eq_true rfl)) dX0_changeWatch_5 ⟨Nat.le_of_ble_eq_true rfl, Nat.le_of_ble_eq_true rfl⟩) hS (fun q _ h => hFc q h) hFc (fun u ra1 t H1 locs ht hvm hw hB hz1 hk1 hS => ?_)
  obtain ⟨rfl, hB⟩ := hB
  obtain ⟨hP, hD, hK⟩ := kJ (wr := [(w0, .inr (14, [.int t0, .int k0])), (w1, .inr (14, [.int t1, .int k1]))]) (w1 := [(dk, .inr (4, [.ref w0, .ref w1, .ref ol, .int 1, .int 0, .int 0, .int 0]))]) (t1 := []) hP hD hK [0] [1, 2] rfl rfl (by decide) (by decide) hk1 hFc ht hvm hB
  generalize H1 = H at hP hS ⊢
  have hP : va_P (dC, dI) vwCl [(w0, .inr (14, [.int t0, .int k0])), (w1, .inr (14, [.int t1, .int k1])), (dk, .inr (4, [.ref w0, .ref w1, .ref ol, .int 1, .int 0, .int 0, .int 0]))] H := hP
  have hD : va_D A [(w0, .inr (14, [.int t0, .int k0])), (w1, .inr (14, [.int t1, .int k1])), (dk, .inr (4, [.ref w0, .ref w1, .ref ol, .int 1, .int 0, .int 0, .int 0]))] := hD
  have hK : va_K (dC, dI) vwCl [] s := hK
  have hPc := hP.sub (ws' := [(w1, .inr (14, [.int t1, .int k1]))]) [1] rfl
  have hDc := hD.sub (ws' := [(w1, .inr (14, [.int t1, .int k1]))]) [1] (by decide) rfl
  have hKc := hK.sub (tys' := []) [] rfl
  have hFc := va_free (wc := [(w1, .inr (14, [.int t1, .int k1]))]) hD hS hA [1] rfl
  refine va_callv (va_runV (As := []) (rest := []) ⟨hx, hb, hml, hown, hts⟩ (k_tire l dC dI z zK zV w1 t1 k1 H.size) (cwV 0 hts gX0_changeWatch_X10_tire rfl rfl rfl (by decide +kernel) ⟨Nat.le_of_ble_eq_true rfl, Nat.le_of_ble_eq_true rfl⟩) ⟨kP_blind, va_recv hKc hPc (ci := 14) (q0 := 0) rfl rfl, kP_go hPc hKc hDc hFc hM hS⟩ rfl rfl hl.1 rfl (lv_room (Nat.le_of_ble_eq_true rfl)) dX0_changeWatch_8 ⟨Nat.le_of_ble_eq_true rfl, Nat.le_of_ble_eq_true rfl⟩) hS (fun q _ h => hFc q h) hFc (fun u t H1 locs ht hvm hw hB hz1 hk1 hS => ?_)
  obtain ⟨u2, hB⟩ := hB
  obtain ⟨hP, hD, hK⟩ := kJ (wr := [(w0, .inr (14, [.int t0, .int k0])), (dk, .inr (4, [.ref w0, .ref w1, .ref ol, .int 1, .int 0, .int 0, .int 0]))]) (w1 := [(w1, .inr (14, [.int u2, .int k1]))]) (t1 := []) hP hD hK [1] [0, 2] rfl rfl (by decide) (by decide) hk1 hFc ht hvm hB
  generalize H1 = H at hP hS ⊢
  have hP : va_P (dC, dI) vwCl [(w0, .inr (14, [.int t0, .int k0])), (dk, .inr (4, [.ref w0, .ref w1, .ref ol, .int 1, .int 0, .int 0, .int 0])), (w1, .inr (14, [.int u2, .int k1]))] H := hP
  have hD : va_D A [(w0, .inr (14, [.int t0, .int k0])), (dk, .inr (4, [.ref w0, .ref w1, .ref ol, .int 1, .int 0, .int 0, .int 0])), (w1, .inr (14, [.int u2, .int k1]))] := hD
  have hK : va_K (dC, dI) vwCl [] s := hK
  clear hw
  refine lv_aload_n hx hb dX0_changeWatch_11 rfl (lv_at hl 0 rfl) ?_
  refine va_get (D := (dC, dI)) (ci := 4) (v := .int 0) (C := RX0) (T := TX0) (N := 7) hx hb hts hiX0 hown hK hP 1 rfl rfl 4 (by decide) (hts (.fieldLink RX0 32 "SquareRig$Deck" "allCalled" "Z") (by decide +kernel)) (fun _ h9 => h9) rfl dX0_changeWatch_12 ?_
  refine lv_if_eq (tgt := 34) hx hb dX0_changeWatch_15 (by decide) (fun _ => ?_) (fun c_ => absurd (by decide +kernel) c_)
  refine lv_aload_n hx hb dX0_changeWatch_34 rfl (lv_at hl 0 rfl) ?_
  refine lv_iconst (v := 1) hx hb dX0_changeWatch_35 (by decide) ?_
  refine lv_aload_n hx hb dX0_changeWatch_36 rfl (lv_at hl 0 rfl) ?_
  refine va_get (D := (dC, dI)) (ci := 4) (v := .int 1) (C := RX0) (T := TX0) (N := 7) hx hb hts hiX0 hown hK hP 1 rfl rfl 3 (by decide) (hts (.fieldLink RX0 28 "SquareRig$Deck" "turn" "I") (by decide +kernel)) (fun _ h9 => h9) rfl dX0_changeWatch_37 ?_
  refine lv_isub hx hb dX0_changeWatch_40 ?_
  refine kc_i (y := 0) (by decide +kernel) ?_
  have hPc := hP.sub (ws' := [(dk, .inr (4, [.ref w0, .ref w1, .ref ol, .int 1, .int 0, .int 0, .int 0]))]) [1] rfl
  have hDc := hD.sub (ws' := [(dk, .inr (4, [.ref w0, .ref w1, .ref ol, .int 1, .int 0, .int 0, .int 0]))]) [1] (by decide) rfl
  have hKc := hK.sub (tys' := []) [] rfl
  have hFc := va_free (wc := [(dk, .inr (4, [.ref w0, .ref w1, .ref ol, .int 1, .int 0, .int 0, .int 0]))]) hD hS hA [1] rfl
  refine va_callr (va_runV (As := [.int 0]) (rest := []) ⟨hx, hb, hml, hown, hts⟩ (k_watchOf0x l dC dI z zK zV dk w0 w1 ol H.size) (cwV 1 hts gX0_changeWatch_X0_watchOf rfl rfl rfl (by decide +kernel) ⟨Nat.le_of_ble_eq_true rfl, Nat.le_of_ble_eq_true rfl⟩) ⟨kP_blind, va_recv hKc hPc (ci := 4) (q0 := 0) rfl rfl, kP_go hPc hKc hDc hFc hM hS⟩ rfl rfl hl.1 rfl (lv_room (Nat.le_of_ble_eq_true rfl)) dX0_changeWatch_41 ⟨Nat.le_of_ble_eq_true rfl, Nat.le_of_ble_eq_true rfl⟩) hS (fun q _ h => hFc q h) hFc (fun u ra3 t H1 locs ht hvm hw hB hz1 hk1 hS => ?_)
  obtain ⟨rfl, hB⟩ := hB
  obtain ⟨hP, hD, hK⟩ := kJ (wr := [(w0, .inr (14, [.int t0, .int k0])), (w1, .inr (14, [.int u2, .int k1]))]) (w1 := [(dk, .inr (4, [.ref w0, .ref w1, .ref ol, .int 1, .int 0, .int 0, .int 0]))]) (t1 := []) hP hD hK [1] [0, 2] rfl rfl (by decide) (by decide) hk1 hFc ht hvm hB
  generalize H1 = H at hP hS ⊢
  have hP : va_P (dC, dI) vwCl [(w0, .inr (14, [.int t0, .int k0])), (w1, .inr (14, [.int u2, .int k1])), (dk, .inr (4, [.ref w0, .ref w1, .ref ol, .int 1, .int 0, .int 0, .int 0]))] H := hP
  have hD : va_D A [(w0, .inr (14, [.int t0, .int k0])), (w1, .inr (14, [.int u2, .int k1])), (dk, .inr (4, [.ref w0, .ref w1, .ref ol, .int 1, .int 0, .int 0, .int 0]))] := hD
  have hK : va_K (dC, dI) vwCl [] s := hK
  have hPc := hP.sub (ws' := [(w0, .inr (14, [.int t0, .int k0]))]) [0] rfl
  have hDc := hD.sub (ws' := [(w0, .inr (14, [.int t0, .int k0]))]) [0] (by decide) rfl
  have hKc := hK.sub (tys' := []) [] rfl
  have hFc := va_free (wc := [(w0, .inr (14, [.int t0, .int k0]))]) hD hS hA [0] rfl
  refine va_callv (va_runV (As := []) (rest := []) ⟨hx, hb, hml, hown, hts⟩ (k_rest l dC dI z zK zV w0 t0 k0 H.size) (cwV 0 hts gX0_changeWatch_X10_rest rfl rfl rfl (by decide +kernel) ⟨Nat.le_of_ble_eq_true rfl, Nat.le_of_ble_eq_true rfl⟩) ⟨kP_blind, va_recv hKc hPc (ci := 14) (q0 := 0) rfl rfl, kP_go hPc hKc hDc hFc hM hS⟩ rfl rfl hl.1 rfl (lv_room (Nat.le_of_ble_eq_true rfl)) dX0_changeWatch_44 ⟨Nat.le_of_ble_eq_true rfl, Nat.le_of_ble_eq_true rfl⟩) hS (fun q _ h => hFc q h) hFc (fun u t H1 locs ht hvm hw hB hz1 hk1 hS => ?_)
  obtain ⟨u4, hB⟩ := hB
  obtain ⟨hP, hD, hK⟩ := kJ (wr := [(w1, .inr (14, [.int u2, .int k1])), (dk, .inr (4, [.ref w0, .ref w1, .ref ol, .int 1, .int 0, .int 0, .int 0]))]) (w1 := [(w0, .inr (14, [.int u4, .int k0]))]) (t1 := []) hP hD hK [0] [1, 2] rfl rfl (by decide) (by decide) hk1 hFc ht hvm hB
  generalize H1 = H at hP hS ⊢
  have hP : va_P (dC, dI) vwCl [(w1, .inr (14, [.int u2, .int k1])), (dk, .inr (4, [.ref w0, .ref w1, .ref ol, .int 1, .int 0, .int 0, .int 0])), (w0, .inr (14, [.int u4, .int k0]))] H := hP
  have hD : va_D A [(w1, .inr (14, [.int u2, .int k1])), (dk, .inr (4, [.ref w0, .ref w1, .ref ol, .int 1, .int 0, .int 0, .int 0])), (w0, .inr (14, [.int u4, .int k0]))] := hD
  have hK : va_K (dC, dI) vwCl [] s := hK
  clear hw
  refine lv_aload_n hx hb dX0_changeWatch_47 rfl (lv_at hl 0 rfl) ?_
  refine lv_iconst (v := 1) hx hb dX0_changeWatch_48 (by decide) ?_
  refine lv_aload_n hx hb dX0_changeWatch_49 rfl (lv_at hl 0 rfl) ?_
  refine va_get (D := (dC, dI)) (ci := 4) (v := .int 1) (C := RX0) (T := TX0) (N := 7) hx hb hts hiX0 hown hK hP 1 rfl rfl 3 (by decide) (hts (.fieldLink RX0 28 "SquareRig$Deck" "turn" "I") (by decide +kernel)) (fun _ h9 => h9) rfl dX0_changeWatch_50 ?_
  refine lv_isub hx hb dX0_changeWatch_53 ?_
  refine kc_i (y := 0) (by decide +kernel) ?_
  refine va_put (D := (dC, dI)) (ci := 4) (v := .int 0) (ty := .int) (C := RX0) (T := TX0) (N := 7) hx hb hts hiX0 tyX0 tyX0_ok nmX0 hown hK hP hD hS 1 rfl rfl 3 (by decide) (hts (.fieldLink RX0 28 "SquareRig$Deck" "turn" "I") (by decide +kernel)) (fun _ h9 => h9) rfl (by decide +kernel) rfl rfl (Nat.le_of_ble_eq_true rfl) dX0_changeWatch_54 (fun H locs hP hD hS => ?_)
  have hP : va_P (dC, dI) vwCl [(w1, .inr (14, [.int u2, .int k1])), (dk, .inr (4, [.ref w0, .ref w1, .ref ol, .int 0, .int 0, .int 0, .int 0])), (w0, .inr (14, [.int u4, .int k0]))] H := hP
  have hD : va_D A [(w1, .inr (14, [.int u2, .int k1])), (dk, .inr (4, [.ref w0, .ref w1, .ref ol, .int 0, .int 0, .int 0, .int 0])), (w0, .inr (14, [.int u4, .int k0]))] := hD
  exact W.vret hx hb hr (fun t ht hW => ⟨⟨(), rfl, trivial, ⟨u2, u4, kB_end (w9 := [(w1, .inr (14, [.int u2, .int k1])), (dk, .inr (4, [.ref w0, .ref w1, .ref ol, .int 0, .int 0, .int 0, .int 0])), (w0, .inr (14, [.int u4, .int k0]))]) (t9 := []) hP hK hD [0, 1, 2] [] rfl (by decide) rfl rfl t ht hW⟩⟩, hS.F ht⟩) hS.2.2 dX0_changeWatch_57
abbrev wd_k_dkEndDay0 (z : Nat → Nat) (dk : Nat) (w0 : Nat) (w1 : Nat) (ol : Nat) (t0 : Int32) (k0 : Int32) (t1 : Int32) (k1 : Int32) : va_W := [(dk, .inr (4, [.ref w0, .ref w1, .ref ol, .int 0, .int 0, .int 0, .int 0])), (w0, .inr (14, [.int t0, .int k0])), (w1, .inr (14, [.int t1, .int k1]))]
set_option maxHeartbeats 4000000 in
set_option maxRecDepth 100000 in
theorem k_dkEndDay0 (l : Launch) (dC : Nat → ClassId) (dI : Nat → Nat → Nat) (z zK zV : Nat → Nat) (dk : Nat) (w0 : Nat) (w1 : Nat) (ol : Nat) (t0 : Int32) (k0 : Int32) (t1 : Int32) (k1 : Int32) (sz : Nat)  : Met l yX0_endDay wsX0_endDay ({ frames := 1, cells := 0, slots := 0, locals := 20 }) (kP dC dI z zK zV [.ref dk, .int 0] sz (wd_k_dkEndDay0 z dk w0 w1 ol t0 k0 t1 k1) []) (va_Qv (fun _ : Unit => True) (fun _ t => ∃ (u1 : Int32) (u2 : Int32), kB (dC, dI) (va_A (wd_k_dkEndDay0 z dk w0 w1 ol t0 k0 t1 k1) sz) [(dk, .inr (4, [.ref w0, .ref w1, .ref ol, .int 0, .int 0, .int 0, .int 0])), (w0, .inr (14, [.int t0, .int u1])), (w1, .inr (14, [.int t1, .int u2]))] [] t) (va_A (wd_k_dkEndDay0 z dk w0 w1 ol t0 k0 t1 k1) sz)) 0 0 (va_A (wd_k_dkEndDay0 z dk w0 w1 ol t0 k0 t1 k1) sz) := by
  refine Met.ofW (cc := cX0_endDay) (maxL := 2) (ret := none) (by decide) rfl ?_
  intro p e s m args below meth c s₁ B hml hv
  obtain ⟨rfl, hsz, hP, hK, hD0, hM⟩ := hv
  have hx := B.exec
  have hb := B.bytes
  have hr := B.returns
  have hts := atoms_spec (ws := wsX0_endDay) B.pre
  have hown : s.vm.findClass RX0 = some m.cls := findClass_of_methodNamed B.named
  have hlocks := B.notSynchronized
  have hiX0 : ∀ w ∈ u_ws RX0 TX0 7, w ∈ wsX0_endDay := by decide +kernel
  subst hsz
  have hD := hD0.self (sz := s.heap.size)
  generalize hAe : va_A (wd_k_dkEndDay0 z dk w0 w1 ol t0 k0 t1 k1) s.heap.size = A at hD hM ⊢
  have hA : ∀ q : Nat, s.heap.size ≤ q → A q := fun q h => by rw [← hAe]; exact Or.inr h
  have hS : va_S A s.heap s.heap [] := va_S.rf
  have hP : va_P (dC, dI) vwCl [(dk, .inr (4, [.ref w0, .ref w1, .ref ol, .int 0, .int 0, .int 0, .int 0])), (w0, .inr (14, [.int t0, .int k0])), (w1, .inr (14, [.int t1, .int k1]))] s.heap := hP
  have hD : va_D A [(dk, .inr (4, [.ref w0, .ref w1, .ref ol, .int 0, .int 0, .int 0, .int 0])), (w0, .inr (14, [.int t0, .int k0])), (w1, .inr (14, [.int t1, .int k1]))] := hD
  have hl := lv_entry ([.ref dk, .int 0]) (n := 2) (Nat.le_of_ble_eq_true rfl)
  rw [lg_entry_eq]
  generalize (lg_sl ([.ref dk, .int 0]) ++ List.replicate (2 - (lg_sl ([.ref dk, .int 0])).length) Slot.unset).toArray = ls at hl ⊢
  have hl : lv_has ls 2 [(0, .ref dk), (1, .int 0)] := hl
  refine lv_iload_n hx hb dX0_endDay_0 rfl (lv_at hl 1 rfl) ?_
  refine lv_if_eq (tgt := 21) hx hb dX0_endDay_1 (by decide) (fun _ => ?_) (fun c_ => absurd (by decide +kernel) c_)
  refine lv_aload_n hx hb dX0_endDay_21 rfl (lv_at hl 0 rfl) ?_
  refine va_get (D := (dC, dI)) (ci := 4) (v := .ref w0) (C := RX0) (T := TX0) (N := 7) hx hb hts hiX0 hown hK hP 0 rfl rfl 0 (by decide) (hts (.fieldLink RX0 12 "SquareRig$Deck" "first" "LSquareRig$Watch;") (by decide +kernel)) (fun _ h9 => h9) rfl dX0_endDay_22 ?_
  have hPc := hP.sub (ws' := [(w0, .inr (14, [.int t0, .int k0]))]) [1] rfl
  have hDc := hD.sub (ws' := [(w0, .inr (14, [.int t0, .int k0]))]) [1] (by decide) rfl
  have hKc := hK.sub (tys' := []) [] rfl
  have hFc := va_free (wc := [(w0, .inr (14, [.int t0, .int k0]))]) hD hS hA [1] rfl
  refine va_callv (va_runV (As := []) (rest := []) ⟨hx, hb, hml, hown, hts⟩ (k_sicken l dC dI z zK zV w0 t0 k0 s.heap.size) (cwV 0 hts gX0_endDay_X10_sicken rfl rfl rfl (by decide +kernel) ⟨Nat.le_of_ble_eq_true rfl, Nat.le_of_ble_eq_true rfl⟩) ⟨kP_blind, va_recv hKc hPc (ci := 14) (q0 := 0) rfl rfl, kP_go hPc hKc hDc hFc hM hS⟩ rfl rfl hl.1 rfl (lv_room (Nat.le_of_ble_eq_true rfl)) dX0_endDay_25 ⟨Nat.le_of_ble_eq_true rfl, Nat.le_of_ble_eq_true rfl⟩) hS (fun q _ h => hFc q h) hFc (fun u t H1 locs ht hvm hw hB hz1 hk1 hS => ?_)
  obtain ⟨u1, hB⟩ := hB
  obtain ⟨hP, hD, hK⟩ := kJ (wr := [(dk, .inr (4, [.ref w0, .ref w1, .ref ol, .int 0, .int 0, .int 0, .int 0])), (w1, .inr (14, [.int t1, .int k1]))]) (w1 := [(w0, .inr (14, [.int t0, .int u1]))]) (t1 := []) hP hD hK [1] [0, 2] rfl rfl (by decide) (by decide) hk1 hFc ht hvm hB
  generalize H1 = H at hP hS ⊢
  have hP : va_P (dC, dI) vwCl [(dk, .inr (4, [.ref w0, .ref w1, .ref ol, .int 0, .int 0, .int 0, .int 0])), (w1, .inr (14, [.int t1, .int k1])), (w0, .inr (14, [.int t0, .int u1]))] H := hP
  have hD : va_D A [(dk, .inr (4, [.ref w0, .ref w1, .ref ol, .int 0, .int 0, .int 0, .int 0])), (w1, .inr (14, [.int t1, .int k1])), (w0, .inr (14, [.int t0, .int u1]))] := hD
  have hK : va_K (dC, dI) vwCl [] s := hK
  clear hw
  refine lv_aload_n hx hb dX0_endDay_28 rfl (lv_at hl 0 rfl) ?_
  refine va_get (D := (dC, dI)) (ci := 4) (v := .ref w1) (C := RX0) (T := TX0) (N := 7) hx hb hts hiX0 hown hK hP 0 rfl rfl 1 (by decide) (hts (.fieldLink RX0 18 "SquareRig$Deck" "second" "LSquareRig$Watch;") (by decide +kernel)) (fun _ h9 => h9) rfl dX0_endDay_29 ?_
  have hPc := hP.sub (ws' := [(w1, .inr (14, [.int t1, .int k1]))]) [1] rfl
  have hDc := hD.sub (ws' := [(w1, .inr (14, [.int t1, .int k1]))]) [1] (by decide) rfl
  have hKc := hK.sub (tys' := []) [] rfl
  have hFc := va_free (wc := [(w1, .inr (14, [.int t1, .int k1]))]) hD hS hA [1] rfl
  refine va_callv (va_runV (As := []) (rest := []) ⟨hx, hb, hml, hown, hts⟩ (k_sicken l dC dI z zK zV w1 t1 k1 H.size) (cwV 0 hts gX0_endDay_X10_sicken rfl rfl rfl (by decide +kernel) ⟨Nat.le_of_ble_eq_true rfl, Nat.le_of_ble_eq_true rfl⟩) ⟨kP_blind, va_recv hKc hPc (ci := 14) (q0 := 0) rfl rfl, kP_go hPc hKc hDc hFc hM hS⟩ rfl rfl hl.1 rfl (lv_room (Nat.le_of_ble_eq_true rfl)) dX0_endDay_32 ⟨Nat.le_of_ble_eq_true rfl, Nat.le_of_ble_eq_true rfl⟩) hS (fun q _ h => hFc q h) hFc (fun u t H1 locs ht hvm hw hB hz1 hk1 hS => ?_)
  obtain ⟨u2, hB⟩ := hB
  obtain ⟨hP, hD, hK⟩ := kJ (wr := [(dk, .inr (4, [.ref w0, .ref w1, .ref ol, .int 0, .int 0, .int 0, .int 0])), (w0, .inr (14, [.int t0, .int u1]))]) (w1 := [(w1, .inr (14, [.int t1, .int u2]))]) (t1 := []) hP hD hK [1] [0, 2] rfl rfl (by decide) (by decide) hk1 hFc ht hvm hB
  generalize H1 = H at hP hS ⊢
  have hP : va_P (dC, dI) vwCl [(dk, .inr (4, [.ref w0, .ref w1, .ref ol, .int 0, .int 0, .int 0, .int 0])), (w0, .inr (14, [.int t0, .int u1])), (w1, .inr (14, [.int t1, .int u2]))] H := hP
  have hD : va_D A [(dk, .inr (4, [.ref w0, .ref w1, .ref ol, .int 0, .int 0, .int 0, .int 0])), (w0, .inr (14, [.int t0, .int u1])), (w1, .inr (14, [.int t1, .int u2]))] := hD
  have hK : va_K (dC, dI) vwCl [] s := hK
  clear hw
  exact W.vret hx hb hr (fun t ht hW => ⟨⟨(), rfl, trivial, ⟨u1, u2, kB_end (w9 := [(dk, .inr (4, [.ref w0, .ref w1, .ref ol, .int 0, .int 0, .int 0, .int 0])), (w0, .inr (14, [.int t0, .int u1])), (w1, .inr (14, [.int t1, .int u2]))]) (t9 := []) hP hK hD [0, 1, 2] [] rfl (by decide) rfl rfl t ht hW⟩⟩, hS.F ht⟩) hS.2.2 dX0_endDay_35
abbrev wd_k_dkEndDay1 (z : Nat → Nat) (dk : Nat) (w0 : Nat) (w1 : Nat) (ol : Nat) (t0 : Int32) (k0 : Int32) (t1 : Int32) (k1 : Int32) : va_W := [(dk, .inr (4, [.ref w0, .ref w1, .ref ol, .int 1, .int 0, .int 0, .int 0])), (w0, .inr (14, [.int t0, .int k0])), (w1, .inr (14, [.int t1, .int k1]))]
set_option maxHeartbeats 4000000 in
set_option maxRecDepth 100000 in
theorem k_dkEndDay1 (l : Launch) (dC : Nat → ClassId) (dI : Nat → Nat → Nat) (z zK zV : Nat → Nat) (dk : Nat) (w0 : Nat) (w1 : Nat) (ol : Nat) (t0 : Int32) (k0 : Int32) (t1 : Int32) (k1 : Int32) (sz : Nat)  : Met l yX0_endDay wsX0_endDay ({ frames := 1, cells := 0, slots := 0, locals := 20 }) (kP dC dI z zK zV [.ref dk, .int 0] sz (wd_k_dkEndDay1 z dk w0 w1 ol t0 k0 t1 k1) []) (va_Qv (fun _ : Unit => True) (fun _ t => ∃ (u1 : Int32) (u2 : Int32), kB (dC, dI) (va_A (wd_k_dkEndDay1 z dk w0 w1 ol t0 k0 t1 k1) sz) [(dk, .inr (4, [.ref w0, .ref w1, .ref ol, .int 1, .int 0, .int 0, .int 0])), (w0, .inr (14, [.int t0, .int u1])), (w1, .inr (14, [.int t1, .int u2]))] [] t) (va_A (wd_k_dkEndDay1 z dk w0 w1 ol t0 k0 t1 k1) sz)) 0 0 (va_A (wd_k_dkEndDay1 z dk w0 w1 ol t0 k0 t1 k1) sz) := by
  refine Met.ofW (cc := cX0_endDay) (maxL := 2) (ret := none) (by decide) rfl ?_
  intro p e s m args below meth c s₁ B hml hv
  obtain ⟨rfl, hsz, hP, hK, hD0, hM⟩ := hv
  have hx := B.exec
  have hb := B.bytes
  have hr := B.returns
  have hts := atoms_spec (ws := wsX0_endDay) B.pre
  have hown : s.vm.findClass RX0 = some m.cls := findClass_of_methodNamed B.named
  have hlocks := B.notSynchronized
  have hiX0 : ∀ w ∈ u_ws RX0 TX0 7, w ∈ wsX0_endDay := by decide +kernel
  subst hsz
  have hD := hD0.self (sz := s.heap.size)
  generalize hAe : va_A (wd_k_dkEndDay1 z dk w0 w1 ol t0 k0 t1 k1) s.heap.size = A at hD hM ⊢
  have hA : ∀ q : Nat, s.heap.size ≤ q → A q := fun q h => by rw [← hAe]; exact Or.inr h
  have hS : va_S A s.heap s.heap [] := va_S.rf
  have hP : va_P (dC, dI) vwCl [(dk, .inr (4, [.ref w0, .ref w1, .ref ol, .int 1, .int 0, .int 0, .int 0])), (w0, .inr (14, [.int t0, .int k0])), (w1, .inr (14, [.int t1, .int k1]))] s.heap := hP
  have hD : va_D A [(dk, .inr (4, [.ref w0, .ref w1, .ref ol, .int 1, .int 0, .int 0, .int 0])), (w0, .inr (14, [.int t0, .int k0])), (w1, .inr (14, [.int t1, .int k1]))] := hD
  have hl := lv_entry ([.ref dk, .int 0]) (n := 2) (Nat.le_of_ble_eq_true rfl)
  rw [lg_entry_eq]
  generalize (lg_sl ([.ref dk, .int 0]) ++ List.replicate (2 - (lg_sl ([.ref dk, .int 0])).length) Slot.unset).toArray = ls at hl ⊢
  have hl : lv_has ls 2 [(0, .ref dk), (1, .int 0)] := hl
  refine lv_iload_n hx hb dX0_endDay_0 rfl (lv_at hl 1 rfl) ?_
  refine lv_if_eq (tgt := 21) hx hb dX0_endDay_1 (by decide) (fun _ => ?_) (fun c_ => absurd (by decide +kernel) c_)
  refine lv_aload_n hx hb dX0_endDay_21 rfl (lv_at hl 0 rfl) ?_
  refine va_get (D := (dC, dI)) (ci := 4) (v := .ref w0) (C := RX0) (T := TX0) (N := 7) hx hb hts hiX0 hown hK hP 0 rfl rfl 0 (by decide) (hts (.fieldLink RX0 12 "SquareRig$Deck" "first" "LSquareRig$Watch;") (by decide +kernel)) (fun _ h9 => h9) rfl dX0_endDay_22 ?_
  have hPc := hP.sub (ws' := [(w0, .inr (14, [.int t0, .int k0]))]) [1] rfl
  have hDc := hD.sub (ws' := [(w0, .inr (14, [.int t0, .int k0]))]) [1] (by decide) rfl
  have hKc := hK.sub (tys' := []) [] rfl
  have hFc := va_free (wc := [(w0, .inr (14, [.int t0, .int k0]))]) hD hS hA [1] rfl
  refine va_callv (va_runV (As := []) (rest := []) ⟨hx, hb, hml, hown, hts⟩ (k_sicken l dC dI z zK zV w0 t0 k0 s.heap.size) (cwV 0 hts gX0_endDay_X10_sicken rfl rfl rfl (by decide +kernel) ⟨Nat.le_of_ble_eq_true rfl, Nat.le_of_ble_eq_true rfl⟩) ⟨kP_blind, va_recv hKc hPc (ci := 14) (q0 := 0) rfl rfl, kP_go hPc hKc hDc hFc hM hS⟩ rfl rfl hl.1 rfl (lv_room (Nat.le_of_ble_eq_true rfl)) dX0_endDay_25 ⟨Nat.le_of_ble_eq_true rfl, Nat.le_of_ble_eq_true rfl⟩) hS (fun q _ h => hFc q h) hFc (fun u t H1 locs ht hvm hw hB hz1 hk1 hS => ?_)
  obtain ⟨u1, hB⟩ := hB
  obtain ⟨hP, hD, hK⟩ := kJ (wr := [(dk, .inr (4, [.ref w0, .ref w1, .ref ol, .int 1, .int 0, .int 0, .int 0])), (w1, .inr (14, [.int t1, .int k1]))]) (w1 := [(w0, .inr (14, [.int t0, .int u1]))]) (t1 := []) hP hD hK [1] [0, 2] rfl rfl (by decide) (by decide) hk1 hFc ht hvm hB
  generalize H1 = H at hP hS ⊢
  have hP : va_P (dC, dI) vwCl [(dk, .inr (4, [.ref w0, .ref w1, .ref ol, .int 1, .int 0, .int 0, .int 0])), (w1, .inr (14, [.int t1, .int k1])), (w0, .inr (14, [.int t0, .int u1]))] H := hP
  have hD : va_D A [(dk, .inr (4, [.ref w0, .ref w1, .ref ol, .int 1, .int 0, .int 0, .int 0])), (w1, .inr (14, [.int t1, .int k1])), (w0, .inr (14, [.int t0, .int u1]))] := hD
  have hK : va_K (dC, dI) vwCl [] s := hK
  clear hw
  refine lv_aload_n hx hb dX0_endDay_28 rfl (lv_at hl 0 rfl) ?_
  refine va_get (D := (dC, dI)) (ci := 4) (v := .ref w1) (C := RX0) (T := TX0) (N := 7) hx hb hts hiX0 hown hK hP 0 rfl rfl 1 (by decide) (hts (.fieldLink RX0 18 "SquareRig$Deck" "second" "LSquareRig$Watch;") (by decide +kernel)) (fun _ h9 => h9) rfl dX0_endDay_29 ?_
  have hPc := hP.sub (ws' := [(w1, .inr (14, [.int t1, .int k1]))]) [1] rfl
  have hDc := hD.sub (ws' := [(w1, .inr (14, [.int t1, .int k1]))]) [1] (by decide) rfl
  have hKc := hK.sub (tys' := []) [] rfl
  have hFc := va_free (wc := [(w1, .inr (14, [.int t1, .int k1]))]) hD hS hA [1] rfl
  refine va_callv (va_runV (As := []) (rest := []) ⟨hx, hb, hml, hown, hts⟩ (k_sicken l dC dI z zK zV w1 t1 k1 H.size) (cwV 0 hts gX0_endDay_X10_sicken rfl rfl rfl (by decide +kernel) ⟨Nat.le_of_ble_eq_true rfl, Nat.le_of_ble_eq_true rfl⟩) ⟨kP_blind, va_recv hKc hPc (ci := 14) (q0 := 0) rfl rfl, kP_go hPc hKc hDc hFc hM hS⟩ rfl rfl hl.1 rfl (lv_room (Nat.le_of_ble_eq_true rfl)) dX0_endDay_32 ⟨Nat.le_of_ble_eq_true rfl, Nat.le_of_ble_eq_true rfl⟩) hS (fun q _ h => hFc q h) hFc (fun u t H1 locs ht hvm hw hB hz1 hk1 hS => ?_)
  obtain ⟨u2, hB⟩ := hB
  obtain ⟨hP, hD, hK⟩ := kJ (wr := [(dk, .inr (4, [.ref w0, .ref w1, .ref ol, .int 1, .int 0, .int 0, .int 0])), (w0, .inr (14, [.int t0, .int u1]))]) (w1 := [(w1, .inr (14, [.int t1, .int u2]))]) (t1 := []) hP hD hK [1] [0, 2] rfl rfl (by decide) (by decide) hk1 hFc ht hvm hB
  generalize H1 = H at hP hS ⊢
  have hP : va_P (dC, dI) vwCl [(dk, .inr (4, [.ref w0, .ref w1, .ref ol, .int 1, .int 0, .int 0, .int 0])), (w0, .inr (14, [.int t0, .int u1])), (w1, .inr (14, [.int t1, .int u2]))] H := hP
  have hD : va_D A [(dk, .inr (4, [.ref w0, .ref w1, .ref ol, .int 1, .int 0, .int 0, .int 0])), (w0, .inr (14, [.int t0, .int u1])), (w1, .inr (14, [.int t1, .int u2]))] := hD
  have hK : va_K (dC, dI) vwCl [] s := hK
  clear hw
  exact W.vret hx hb hr (fun t ht hW => ⟨⟨(), rfl, trivial, ⟨u1, u2, kB_end (w9 := [(dk, .inr (4, [.ref w0, .ref w1, .ref ol, .int 1, .int 0, .int 0, .int 0])), (w0, .inr (14, [.int t0, .int u1])), (w1, .inr (14, [.int t1, .int u2]))]) (t9 := []) hP hK hD [0, 1, 2] [] rfl (by decide) rfl rfl t ht hW⟩⟩, hS.F ht⟩) hS.2.2 dX0_endDay_35
abbrev wd_k_take0 (z : Nat → Nat) (hd : Nat) (hu : Nat) (hy : Nat) (cU : ClassId) (cW : ClassId) : va_W := [(hd, .inr (6, [.ref hu, .ref hy, .int 0])), (hu, .inl (cU, 20, .inl (fun _ => 0))), (hy, .inl (cW, 20, .inl (fun _ => 0)))]
set_option maxHeartbeats 4000000 in
set_option maxRecDepth 100000 in
theorem k_take0 (l : Launch) (dC : Nat → ClassId) (dI : Nat → Nat → Nat) (z zK zV : Nat → Nat) (hd : Nat) (hu : Nat) (hy : Nat) (cU : ClassId) (cW : ClassId) (sz : Nat)  : Met l yX2_take wsX2_take ({ frames := 0, cells := 0, slots := 0, locals := 0 }) (kP dC dI z zK zV [.ref hd, .int 0, .int 24] sz (wd_k_take0 z hd hu hy cU cW) [(cU, .int), (cW, .boolean)]) (va_Qi (fun (r : Int32) (_ : Unit) => 0 = r) (fun _ t => kB (dC, dI) (va_A (wd_k_take0 z hd hu hy cU cW) sz) [(hd, .inr (6, [.ref hu, .ref hy, .int 0])), (hu, .inl (cU, 20, .inl (fun _ => 0))), (hy, .inl (cW, 20, .inl (fun _ => 0)))] [] t) (va_A (wd_k_take0 z hd hu hy cU cW) sz)) 0 0 (va_A (wd_k_take0 z hd hu hy cU cW) sz) := by
  refine Met.ofW (cc := cX2_take) (maxL := 7) (ret := (some .boolean)) (by decide) rfl ?_
  intro p e s m args below meth c s₁ B hml hv
  obtain ⟨rfl, hsz, hP, hK, hD0, hM⟩ := hv
  have hx := B.exec
  have hb := B.bytes
  have hr := B.returns
  have hts := atoms_spec (ws := wsX2_take) B.pre
  have hown : s.vm.findClass RX2 = some m.cls := findClass_of_methodNamed B.named
  have hlocks := B.notSynchronized
  have hiX2 : ∀ w ∈ u_ws RX2 TX2 3, w ∈ wsX2_take := by decide +kernel
  subst hsz
  have hD := hD0.self (sz := s.heap.size)
  generalize hAe : va_A (wd_k_take0 z hd hu hy cU cW) s.heap.size = A at hD hM ⊢
  have hA : ∀ q : Nat, s.heap.size ≤ q → A q := fun q h => by rw [← hAe]; exact Or.inr h
  have hS : va_S A s.heap s.heap [] := va_S.rf
  have hP : va_P (dC, dI) vwCl [(hd, .inr (6, [.ref hu, .ref hy, .int 0])), (hu, .inl (cU, 20, .inl (fun _ => 0))), (hy, .inl (cW, 20, .inl (fun _ => 0)))] s.heap := hP
  have hD : va_D A [(hd, .inr (6, [.ref hu, .ref hy, .int 0])), (hu, .inl (cU, 20, .inl (fun _ => 0))), (hy, .inl (cW, 20, .inl (fun _ => 0)))] := hD
  have hl := lv_entry ([.ref hd, .int 0, .int 24]) (n := 7) (Nat.le_of_ble_eq_true rfl)
  rw [lg_entry_eq]
  generalize (lg_sl ([.ref hd, .int 0, .int 24]) ++ List.replicate (7 - (lg_sl ([.ref hd, .int 0, .int 24])).length) Slot.unset).toArray = ls at hl ⊢
  have hl : lv_has ls 7 [(0, .ref hd), (1, .int 0), (2, .int 24)] := hl
  refine lv_iload_n hx hb dX2_take_0 rfl (lv_at hl 2 rfl) ?_
  refine lv_istore_n (lv' := [(3, .int 24), (0, .ref hd), (1, .int 0), (2, .int 24)]) hx hb dX2_take_1 rfl hl (by decide) rfl (fun ls hl => ?_)
  refine lv_iconst (v := 0) hx hb dX2_take_2 (by decide) ?_
  refine lv_istore (lv' := [(4, .int 0), (3, .int 24), (0, .ref hd), (1, .int 0), (2, .int 24)]) hx hb dX2_take_3 hl (by decide) rfl (fun ls hl => ?_)
  refine lv_bipush (v := 19) hx hb dX2_take_5 (by decide) ?_
  refine lv_istore (lv' := [(5, .int 19), (4, .int 0), (3, .int 24), (0, .ref hd), (1, .int 0), (2, .int 24)]) hx hb dX2_take_7 hl (by decide) rfl (fun ls hl => ?_)
  refine lv_iload hx hb dX2_take_9 (lv_at hl 0 rfl) ?_
  refine lv_if_lt (tgt := 92) hx hb dX2_take_11 (by decide) (fun c_ => absurd c_ (by decide +kernel)) (fun _ => ?_)
  refine lv_iload hx hb dX2_take_14 (lv_at hl 1 rfl) ?_
  refine lv_iconst (v := 3) hx hb dX2_take_16 (by decide) ?_
  refine lv_icmp_ge (tgt := 92) hx hb dX2_take_17 (by decide) (fun c_ => absurd c_ (by decide +kernel)) (fun _ => ?_)
  refine lv_iload hx hb dX2_take_20 (lv_at hl 0 rfl) ?_
  refine lv_aload_n hx hb dX2_take_22 rfl (lv_at hl 3 rfl) ?_
  refine va_get (D := (dC, dI)) (ci := 6) (v := .int 0) (C := RX2) (T := TX2) (N := 3) hx hb hts hiX2 hown hK hP 0 rfl rfl 2 (by decide) (hts (.fieldLink RX2 19 "SquareRig$Hold" "casks" "I") (by decide +kernel)) (fun _ h9 => h9) rfl dX2_take_23 ?_
  refine lv_icmp_lt (tgt := 32) hx hb dX2_take_26 (by decide) (fun c_ => absurd c_ (by decide +kernel)) (fun _ => ?_)
  refine lv_goto (tgt := 86) hx hb dX2_take_29 (by decide) ?_
  refine lv_iinc (v := 18) (lv' := [(5, .int 18), (4, .int 0), (3, .int 24), (0, .ref hd), (1, .int 0), (2, .int 24)]) hx hb dX2_take_86 hl (k := 0) rfl (by decide +kernel) (by decide) rfl (fun ls hl => ?_)
  refine lv_goto (tgt := 9) hx hb dX2_take_89 (by decide) ?_
  refine lv_iload hx hb dX2_take_9 (lv_at hl 0 rfl) ?_
  refine lv_if_lt (tgt := 92) hx hb dX2_take_11 (by decide) (fun c_ => absurd c_ (by decide +kernel)) (fun _ => ?_)
  refine lv_iload hx hb dX2_take_14 (lv_at hl 1 rfl) ?_
  refine lv_iconst (v := 3) hx hb dX2_take_16 (by decide) ?_
  refine lv_icmp_ge (tgt := 92) hx hb dX2_take_17 (by decide) (fun c_ => absurd c_ (by decide +kernel)) (fun _ => ?_)
  refine lv_iload hx hb dX2_take_20 (lv_at hl 0 rfl) ?_
  refine lv_aload_n hx hb dX2_take_22 rfl (lv_at hl 3 rfl) ?_
  refine va_get (D := (dC, dI)) (ci := 6) (v := .int 0) (C := RX2) (T := TX2) (N := 3) hx hb hts hiX2 hown hK hP 0 rfl rfl 2 (by decide) (hts (.fieldLink RX2 19 "SquareRig$Hold" "casks" "I") (by decide +kernel)) (fun _ h9 => h9) rfl dX2_take_23 ?_
  refine lv_icmp_lt (tgt := 32) hx hb dX2_take_26 (by decide) (fun c_ => absurd c_ (by decide +kernel)) (fun _ => ?_)
  refine lv_goto (tgt := 86) hx hb dX2_take_29 (by decide) ?_
  refine lv_iinc (v := 17) (lv' := [(5, .int 17), (4, .int 0), (3, .int 24), (0, .ref hd), (1, .int 0), (2, .int 24)]) hx hb dX2_take_86 hl (k := 0) rfl (by decide +kernel) (by decide) rfl (fun ls hl => ?_)
  refine lv_goto (tgt := 9) hx hb dX2_take_89 (by decide) ?_
  refine lv_iload hx hb dX2_take_9 (lv_at hl 0 rfl) ?_
  refine lv_if_lt (tgt := 92) hx hb dX2_take_11 (by decide) (fun c_ => absurd c_ (by decide +kernel)) (fun _ => ?_)
  refine lv_iload hx hb dX2_take_14 (lv_at hl 1 rfl) ?_
  refine lv_iconst (v := 3) hx hb dX2_take_16 (by decide) ?_
  refine lv_icmp_ge (tgt := 92) hx hb dX2_take_17 (by decide) (fun c_ => absurd c_ (by decide +kernel)) (fun _ => ?_)
  refine lv_iload hx hb dX2_take_20 (lv_at hl 0 rfl) ?_
  refine lv_aload_n hx hb dX2_take_22 rfl (lv_at hl 3 rfl) ?_
  refine va_get (D := (dC, dI)) (ci := 6) (v := .int 0) (C := RX2) (T := TX2) (N := 3) hx hb hts hiX2 hown hK hP 0 rfl rfl 2 (by decide) (hts (.fieldLink RX2 19 "SquareRig$Hold" "casks" "I") (by decide +kernel)) (fun _ h9 => h9) rfl dX2_take_23 ?_
  refine lv_icmp_lt (tgt := 32) hx hb dX2_take_26 (by decide) (fun c_ => absurd c_ (by decide +kernel)) (fun _ => ?_)
  refine lv_goto (tgt := 86) hx hb dX2_take_29 (by decide) ?_
  refine lv_iinc (v := 16) (lv' := [(5, .int 16), (4, .int 0), (3, .int 24), (0, .ref hd), (1, .int 0), (2, .int 24)]) hx hb dX2_take_86 hl (k := 0) rfl (by decide +kernel) (by decide) rfl (fun ls hl => ?_)
  refine lv_goto (tgt := 9) hx hb dX2_take_89 (by decide) ?_
  refine lv_iload hx hb dX2_take_9 (lv_at hl 0 rfl) ?_
  refine lv_if_lt (tgt := 92) hx hb dX2_take_11 (by decide) (fun c_ => absurd c_ (by decide +kernel)) (fun _ => ?_)
  refine lv_iload hx hb dX2_take_14 (lv_at hl 1 rfl) ?_
  refine lv_iconst (v := 3) hx hb dX2_take_16 (by decide) ?_
  refine lv_icmp_ge (tgt := 92) hx hb dX2_take_17 (by decide) (fun c_ => absurd c_ (by decide +kernel)) (fun _ => ?_)
  refine lv_iload hx hb dX2_take_20 (lv_at hl 0 rfl) ?_
  refine lv_aload_n hx hb dX2_take_22 rfl (lv_at hl 3 rfl) ?_
  refine va_get (D := (dC, dI)) (ci := 6) (v := .int 0) (C := RX2) (T := TX2) (N := 3) hx hb hts hiX2 hown hK hP 0 rfl rfl 2 (by decide) (hts (.fieldLink RX2 19 "SquareRig$Hold" "casks" "I") (by decide +kernel)) (fun _ h9 => h9) rfl dX2_take_23 ?_
  refine lv_icmp_lt (tgt := 32) hx hb dX2_take_26 (by decide) (fun c_ => absurd c_ (by decide +kernel)) (fun _ => ?_)
  refine lv_goto (tgt := 86) hx hb dX2_take_29 (by decide) ?_
  refine lv_iinc (v := 15) (lv' := [(5, .int 15), (4, .int 0), (3, .int 24), (0, .ref hd), (1, .int 0), (2, .int 24)]) hx hb dX2_take_86 hl (k := 0) rfl (by decide +kernel) (by decide) rfl (fun ls hl => ?_)
  refine lv_goto (tgt := 9) hx hb dX2_take_89 (by decide) ?_
  refine lv_iload hx hb dX2_take_9 (lv_at hl 0 rfl) ?_
  refine lv_if_lt (tgt := 92) hx hb dX2_take_11 (by decide) (fun c_ => absurd c_ (by decide +kernel)) (fun _ => ?_)
  refine lv_iload hx hb dX2_take_14 (lv_at hl 1 rfl) ?_
  refine lv_iconst (v := 3) hx hb dX2_take_16 (by decide) ?_
  refine lv_icmp_ge (tgt := 92) hx hb dX2_take_17 (by decide) (fun c_ => absurd c_ (by decide +kernel)) (fun _ => ?_)
  refine lv_iload hx hb dX2_take_20 (lv_at hl 0 rfl) ?_
  refine lv_aload_n hx hb dX2_take_22 rfl (lv_at hl 3 rfl) ?_
  refine va_get (D := (dC, dI)) (ci := 6) (v := .int 0) (C := RX2) (T := TX2) (N := 3) hx hb hts hiX2 hown hK hP 0 rfl rfl 2 (by decide) (hts (.fieldLink RX2 19 "SquareRig$Hold" "casks" "I") (by decide +kernel)) (fun _ h9 => h9) rfl dX2_take_23 ?_
  refine lv_icmp_lt (tgt := 32) hx hb dX2_take_26 (by decide) (fun c_ => absurd c_ (by decide +kernel)) (fun _ => ?_)
  refine lv_goto (tgt := 86) hx hb dX2_take_29 (by decide) ?_
  refine lv_iinc (v := 14) (lv' := [(5, .int 14), (4, .int 0), (3, .int 24), (0, .ref hd), (1, .int 0), (2, .int 24)]) hx hb dX2_take_86 hl (k := 0) rfl (by decide +kernel) (by decide) rfl (fun ls hl => ?_)
  refine lv_goto (tgt := 9) hx hb dX2_take_89 (by decide) ?_
  refine lv_iload hx hb dX2_take_9 (lv_at hl 0 rfl) ?_
  refine lv_if_lt (tgt := 92) hx hb dX2_take_11 (by decide) (fun c_ => absurd c_ (by decide +kernel)) (fun _ => ?_)
  refine lv_iload hx hb dX2_take_14 (lv_at hl 1 rfl) ?_
  refine lv_iconst (v := 3) hx hb dX2_take_16 (by decide) ?_
  refine lv_icmp_ge (tgt := 92) hx hb dX2_take_17 (by decide) (fun c_ => absurd c_ (by decide +kernel)) (fun _ => ?_)
  refine lv_iload hx hb dX2_take_20 (lv_at hl 0 rfl) ?_
  refine lv_aload_n hx hb dX2_take_22 rfl (lv_at hl 3 rfl) ?_
  refine va_get (D := (dC, dI)) (ci := 6) (v := .int 0) (C := RX2) (T := TX2) (N := 3) hx hb hts hiX2 hown hK hP 0 rfl rfl 2 (by decide) (hts (.fieldLink RX2 19 "SquareRig$Hold" "casks" "I") (by decide +kernel)) (fun _ h9 => h9) rfl dX2_take_23 ?_
  refine lv_icmp_lt (tgt := 32) hx hb dX2_take_26 (by decide) (fun c_ => absurd c_ (by decide +kernel)) (fun _ => ?_)
  refine lv_goto (tgt := 86) hx hb dX2_take_29 (by decide) ?_
  refine lv_iinc (v := 13) (lv' := [(5, .int 13), (4, .int 0), (3, .int 24), (0, .ref hd), (1, .int 0), (2, .int 24)]) hx hb dX2_take_86 hl (k := 0) rfl (by decide +kernel) (by decide) rfl (fun ls hl => ?_)
  refine lv_goto (tgt := 9) hx hb dX2_take_89 (by decide) ?_
  refine lv_iload hx hb dX2_take_9 (lv_at hl 0 rfl) ?_
  refine lv_if_lt (tgt := 92) hx hb dX2_take_11 (by decide) (fun c_ => absurd c_ (by decide +kernel)) (fun _ => ?_)
  refine lv_iload hx hb dX2_take_14 (lv_at hl 1 rfl) ?_
  refine lv_iconst (v := 3) hx hb dX2_take_16 (by decide) ?_
  refine lv_icmp_ge (tgt := 92) hx hb dX2_take_17 (by decide) (fun c_ => absurd c_ (by decide +kernel)) (fun _ => ?_)
  refine lv_iload hx hb dX2_take_20 (lv_at hl 0 rfl) ?_
  refine lv_aload_n hx hb dX2_take_22 rfl (lv_at hl 3 rfl) ?_
  refine va_get (D := (dC, dI)) (ci := 6) (v := .int 0) (C := RX2) (T := TX2) (N := 3) hx hb hts hiX2 hown hK hP 0 rfl rfl 2 (by decide) (hts (.fieldLink RX2 19 "SquareRig$Hold" "casks" "I") (by decide +kernel)) (fun _ h9 => h9) rfl dX2_take_23 ?_
  refine lv_icmp_lt (tgt := 32) hx hb dX2_take_26 (by decide) (fun c_ => absurd c_ (by decide +kernel)) (fun _ => ?_)
  refine lv_goto (tgt := 86) hx hb dX2_take_29 (by decide) ?_
  refine lv_iinc (v := 12) (lv' := [(5, .int 12), (4, .int 0), (3, .int 24), (0, .ref hd), (1, .int 0), (2, .int 24)]) hx hb dX2_take_86 hl (k := 0) rfl (by decide +kernel) (by decide) rfl (fun ls hl => ?_)
  refine lv_goto (tgt := 9) hx hb dX2_take_89 (by decide) ?_
  refine lv_iload hx hb dX2_take_9 (lv_at hl 0 rfl) ?_
  refine lv_if_lt (tgt := 92) hx hb dX2_take_11 (by decide) (fun c_ => absurd c_ (by decide +kernel)) (fun _ => ?_)
  refine lv_iload hx hb dX2_take_14 (lv_at hl 1 rfl) ?_
  refine lv_iconst (v := 3) hx hb dX2_take_16 (by decide) ?_
  refine lv_icmp_ge (tgt := 92) hx hb dX2_take_17 (by decide) (fun c_ => absurd c_ (by decide +kernel)) (fun _ => ?_)
  refine lv_iload hx hb dX2_take_20 (lv_at hl 0 rfl) ?_
  refine lv_aload_n hx hb dX2_take_22 rfl (lv_at hl 3 rfl) ?_
  refine va_get (D := (dC, dI)) (ci := 6) (v := .int 0) (C := RX2) (T := TX2) (N := 3) hx hb hts hiX2 hown hK hP 0 rfl rfl 2 (by decide) (hts (.fieldLink RX2 19 "SquareRig$Hold" "casks" "I") (by decide +kernel)) (fun _ h9 => h9) rfl dX2_take_23 ?_
  refine lv_icmp_lt (tgt := 32) hx hb dX2_take_26 (by decide) (fun c_ => absurd c_ (by decide +kernel)) (fun _ => ?_)
  refine lv_goto (tgt := 86) hx hb dX2_take_29 (by decide) ?_
  refine lv_iinc (v := 11) (lv' := [(5, .int 11), (4, .int 0), (3, .int 24), (0, .ref hd), (1, .int 0), (2, .int 24)]) hx hb dX2_take_86 hl (k := 0) rfl (by decide +kernel) (by decide) rfl (fun ls hl => ?_)
  refine lv_goto (tgt := 9) hx hb dX2_take_89 (by decide) ?_
  refine lv_iload hx hb dX2_take_9 (lv_at hl 0 rfl) ?_
  refine lv_if_lt (tgt := 92) hx hb dX2_take_11 (by decide) (fun c_ => absurd c_ (by decide +kernel)) (fun _ => ?_)
  refine lv_iload hx hb dX2_take_14 (lv_at hl 1 rfl) ?_
  refine lv_iconst (v := 3) hx hb dX2_take_16 (by decide) ?_
  refine lv_icmp_ge (tgt := 92) hx hb dX2_take_17 (by decide) (fun c_ => absurd c_ (by decide +kernel)) (fun _ => ?_)
  refine lv_iload hx hb dX2_take_20 (lv_at hl 0 rfl) ?_
  refine lv_aload_n hx hb dX2_take_22 rfl (lv_at hl 3 rfl) ?_
  refine va_get (D := (dC, dI)) (ci := 6) (v := .int 0) (C := RX2) (T := TX2) (N := 3) hx hb hts hiX2 hown hK hP 0 rfl rfl 2 (by decide) (hts (.fieldLink RX2 19 "SquareRig$Hold" "casks" "I") (by decide +kernel)) (fun _ h9 => h9) rfl dX2_take_23 ?_
  refine lv_icmp_lt (tgt := 32) hx hb dX2_take_26 (by decide) (fun c_ => absurd c_ (by decide +kernel)) (fun _ => ?_)
  refine lv_goto (tgt := 86) hx hb dX2_take_29 (by decide) ?_
  refine lv_iinc (v := 10) (lv' := [(5, .int 10), (4, .int 0), (3, .int 24), (0, .ref hd), (1, .int 0), (2, .int 24)]) hx hb dX2_take_86 hl (k := 0) rfl (by decide +kernel) (by decide) rfl (fun ls hl => ?_)
  refine lv_goto (tgt := 9) hx hb dX2_take_89 (by decide) ?_
  refine lv_iload hx hb dX2_take_9 (lv_at hl 0 rfl) ?_
  refine lv_if_lt (tgt := 92) hx hb dX2_take_11 (by decide) (fun c_ => absurd c_ (by decide +kernel)) (fun _ => ?_)
  refine lv_iload hx hb dX2_take_14 (lv_at hl 1 rfl) ?_
  refine lv_iconst (v := 3) hx hb dX2_take_16 (by decide) ?_
  refine lv_icmp_ge (tgt := 92) hx hb dX2_take_17 (by decide) (fun c_ => absurd c_ (by decide +kernel)) (fun _ => ?_)
  refine lv_iload hx hb dX2_take_20 (lv_at hl 0 rfl) ?_
  refine lv_aload_n hx hb dX2_take_22 rfl (lv_at hl 3 rfl) ?_
  refine va_get (D := (dC, dI)) (ci := 6) (v := .int 0) (C := RX2) (T := TX2) (N := 3) hx hb hts hiX2 hown hK hP 0 rfl rfl 2 (by decide) (hts (.fieldLink RX2 19 "SquareRig$Hold" "casks" "I") (by decide +kernel)) (fun _ h9 => h9) rfl dX2_take_23 ?_
  refine lv_icmp_lt (tgt := 32) hx hb dX2_take_26 (by decide) (fun c_ => absurd c_ (by decide +kernel)) (fun _ => ?_)
  refine lv_goto (tgt := 86) hx hb dX2_take_29 (by decide) ?_
  refine lv_iinc (v := 9) (lv' := [(5, .int 9), (4, .int 0), (3, .int 24), (0, .ref hd), (1, .int 0), (2, .int 24)]) hx hb dX2_take_86 hl (k := 0) rfl (by decide +kernel) (by decide) rfl (fun ls hl => ?_)
  refine lv_goto (tgt := 9) hx hb dX2_take_89 (by decide) ?_
  refine lv_iload hx hb dX2_take_9 (lv_at hl 0 rfl) ?_
  refine lv_if_lt (tgt := 92) hx hb dX2_take_11 (by decide) (fun c_ => absurd c_ (by decide +kernel)) (fun _ => ?_)
  refine lv_iload hx hb dX2_take_14 (lv_at hl 1 rfl) ?_
  refine lv_iconst (v := 3) hx hb dX2_take_16 (by decide) ?_
  refine lv_icmp_ge (tgt := 92) hx hb dX2_take_17 (by decide) (fun c_ => absurd c_ (by decide +kernel)) (fun _ => ?_)
  refine lv_iload hx hb dX2_take_20 (lv_at hl 0 rfl) ?_
  refine lv_aload_n hx hb dX2_take_22 rfl (lv_at hl 3 rfl) ?_
  refine va_get (D := (dC, dI)) (ci := 6) (v := .int 0) (C := RX2) (T := TX2) (N := 3) hx hb hts hiX2 hown hK hP 0 rfl rfl 2 (by decide) (hts (.fieldLink RX2 19 "SquareRig$Hold" "casks" "I") (by decide +kernel)) (fun _ h9 => h9) rfl dX2_take_23 ?_
  refine lv_icmp_lt (tgt := 32) hx hb dX2_take_26 (by decide) (fun c_ => absurd c_ (by decide +kernel)) (fun _ => ?_)
  refine lv_goto (tgt := 86) hx hb dX2_take_29 (by decide) ?_
  refine lv_iinc (v := 8) (lv' := [(5, .int 8), (4, .int 0), (3, .int 24), (0, .ref hd), (1, .int 0), (2, .int 24)]) hx hb dX2_take_86 hl (k := 0) rfl (by decide +kernel) (by decide) rfl (fun ls hl => ?_)
  refine lv_goto (tgt := 9) hx hb dX2_take_89 (by decide) ?_
  refine lv_iload hx hb dX2_take_9 (lv_at hl 0 rfl) ?_
  refine lv_if_lt (tgt := 92) hx hb dX2_take_11 (by decide) (fun c_ => absurd c_ (by decide +kernel)) (fun _ => ?_)
  refine lv_iload hx hb dX2_take_14 (lv_at hl 1 rfl) ?_
  refine lv_iconst (v := 3) hx hb dX2_take_16 (by decide) ?_
  refine lv_icmp_ge (tgt := 92) hx hb dX2_take_17 (by decide) (fun c_ => absurd c_ (by decide +kernel)) (fun _ => ?_)
  refine lv_iload hx hb dX2_take_20 (lv_at hl 0 rfl) ?_
  refine lv_aload_n hx hb dX2_take_22 rfl (lv_at hl 3 rfl) ?_
  refine va_get (D := (dC, dI)) (ci := 6) (v := .int 0) (C := RX2) (T := TX2) (N := 3) hx hb hts hiX2 hown hK hP 0 rfl rfl 2 (by decide) (hts (.fieldLink RX2 19 "SquareRig$Hold" "casks" "I") (by decide +kernel)) (fun _ h9 => h9) rfl dX2_take_23 ?_
  refine lv_icmp_lt (tgt := 32) hx hb dX2_take_26 (by decide) (fun c_ => absurd c_ (by decide +kernel)) (fun _ => ?_)
  refine lv_goto (tgt := 86) hx hb dX2_take_29 (by decide) ?_
  refine lv_iinc (v := 7) (lv' := [(5, .int 7), (4, .int 0), (3, .int 24), (0, .ref hd), (1, .int 0), (2, .int 24)]) hx hb dX2_take_86 hl (k := 0) rfl (by decide +kernel) (by decide) rfl (fun ls hl => ?_)
  refine lv_goto (tgt := 9) hx hb dX2_take_89 (by decide) ?_
  refine lv_iload hx hb dX2_take_9 (lv_at hl 0 rfl) ?_
  refine lv_if_lt (tgt := 92) hx hb dX2_take_11 (by decide) (fun c_ => absurd c_ (by decide +kernel)) (fun _ => ?_)
  refine lv_iload hx hb dX2_take_14 (lv_at hl 1 rfl) ?_
  refine lv_iconst (v := 3) hx hb dX2_take_16 (by decide) ?_
  refine lv_icmp_ge (tgt := 92) hx hb dX2_take_17 (by decide) (fun c_ => absurd c_ (by decide +kernel)) (fun _ => ?_)
  refine lv_iload hx hb dX2_take_20 (lv_at hl 0 rfl) ?_
  refine lv_aload_n hx hb dX2_take_22 rfl (lv_at hl 3 rfl) ?_
  refine va_get (D := (dC, dI)) (ci := 6) (v := .int 0) (C := RX2) (T := TX2) (N := 3) hx hb hts hiX2 hown hK hP 0 rfl rfl 2 (by decide) (hts (.fieldLink RX2 19 "SquareRig$Hold" "casks" "I") (by decide +kernel)) (fun _ h9 => h9) rfl dX2_take_23 ?_
  refine lv_icmp_lt (tgt := 32) hx hb dX2_take_26 (by decide) (fun c_ => absurd c_ (by decide +kernel)) (fun _ => ?_)
  refine lv_goto (tgt := 86) hx hb dX2_take_29 (by decide) ?_
  refine lv_iinc (v := 6) (lv' := [(5, .int 6), (4, .int 0), (3, .int 24), (0, .ref hd), (1, .int 0), (2, .int 24)]) hx hb dX2_take_86 hl (k := 0) rfl (by decide +kernel) (by decide) rfl (fun ls hl => ?_)
  refine lv_goto (tgt := 9) hx hb dX2_take_89 (by decide) ?_
  refine lv_iload hx hb dX2_take_9 (lv_at hl 0 rfl) ?_
  refine lv_if_lt (tgt := 92) hx hb dX2_take_11 (by decide) (fun c_ => absurd c_ (by decide +kernel)) (fun _ => ?_)
  refine lv_iload hx hb dX2_take_14 (lv_at hl 1 rfl) ?_
  refine lv_iconst (v := 3) hx hb dX2_take_16 (by decide) ?_
  refine lv_icmp_ge (tgt := 92) hx hb dX2_take_17 (by decide) (fun c_ => absurd c_ (by decide +kernel)) (fun _ => ?_)
  refine lv_iload hx hb dX2_take_20 (lv_at hl 0 rfl) ?_
  refine lv_aload_n hx hb dX2_take_22 rfl (lv_at hl 3 rfl) ?_
  refine va_get (D := (dC, dI)) (ci := 6) (v := .int 0) (C := RX2) (T := TX2) (N := 3) hx hb hts hiX2 hown hK hP 0 rfl rfl 2 (by decide) (hts (.fieldLink RX2 19 "SquareRig$Hold" "casks" "I") (by decide +kernel)) (fun _ h9 => h9) rfl dX2_take_23 ?_
  refine lv_icmp_lt (tgt := 32) hx hb dX2_take_26 (by decide) (fun c_ => absurd c_ (by decide +kernel)) (fun _ => ?_)
  refine lv_goto (tgt := 86) hx hb dX2_take_29 (by decide) ?_
  refine lv_iinc (v := 5) (lv' := [(5, .int 5), (4, .int 0), (3, .int 24), (0, .ref hd), (1, .int 0), (2, .int 24)]) hx hb dX2_take_86 hl (k := 0) rfl (by decide +kernel) (by decide) rfl (fun ls hl => ?_)
  refine lv_goto (tgt := 9) hx hb dX2_take_89 (by decide) ?_
  refine lv_iload hx hb dX2_take_9 (lv_at hl 0 rfl) ?_
  refine lv_if_lt (tgt := 92) hx hb dX2_take_11 (by decide) (fun c_ => absurd c_ (by decide +kernel)) (fun _ => ?_)
  refine lv_iload hx hb dX2_take_14 (lv_at hl 1 rfl) ?_
  refine lv_iconst (v := 3) hx hb dX2_take_16 (by decide) ?_
  refine lv_icmp_ge (tgt := 92) hx hb dX2_take_17 (by decide) (fun c_ => absurd c_ (by decide +kernel)) (fun _ => ?_)
  refine lv_iload hx hb dX2_take_20 (lv_at hl 0 rfl) ?_
  refine lv_aload_n hx hb dX2_take_22 rfl (lv_at hl 3 rfl) ?_
  refine va_get (D := (dC, dI)) (ci := 6) (v := .int 0) (C := RX2) (T := TX2) (N := 3) hx hb hts hiX2 hown hK hP 0 rfl rfl 2 (by decide) (hts (.fieldLink RX2 19 "SquareRig$Hold" "casks" "I") (by decide +kernel)) (fun _ h9 => h9) rfl dX2_take_23 ?_
  refine lv_icmp_lt (tgt := 32) hx hb dX2_take_26 (by decide) (fun c_ => absurd c_ (by decide +kernel)) (fun _ => ?_)
  refine lv_goto (tgt := 86) hx hb dX2_take_29 (by decide) ?_
  refine lv_iinc (v := 4) (lv' := [(5, .int 4), (4, .int 0), (3, .int 24), (0, .ref hd), (1, .int 0), (2, .int 24)]) hx hb dX2_take_86 hl (k := 0) rfl (by decide +kernel) (by decide) rfl (fun ls hl => ?_)
  refine lv_goto (tgt := 9) hx hb dX2_take_89 (by decide) ?_
  refine lv_iload hx hb dX2_take_9 (lv_at hl 0 rfl) ?_
  refine lv_if_lt (tgt := 92) hx hb dX2_take_11 (by decide) (fun c_ => absurd c_ (by decide +kernel)) (fun _ => ?_)
  refine lv_iload hx hb dX2_take_14 (lv_at hl 1 rfl) ?_
  refine lv_iconst (v := 3) hx hb dX2_take_16 (by decide) ?_
  refine lv_icmp_ge (tgt := 92) hx hb dX2_take_17 (by decide) (fun c_ => absurd c_ (by decide +kernel)) (fun _ => ?_)
  refine lv_iload hx hb dX2_take_20 (lv_at hl 0 rfl) ?_
  refine lv_aload_n hx hb dX2_take_22 rfl (lv_at hl 3 rfl) ?_
  refine va_get (D := (dC, dI)) (ci := 6) (v := .int 0) (C := RX2) (T := TX2) (N := 3) hx hb hts hiX2 hown hK hP 0 rfl rfl 2 (by decide) (hts (.fieldLink RX2 19 "SquareRig$Hold" "casks" "I") (by decide +kernel)) (fun _ h9 => h9) rfl dX2_take_23 ?_
  refine lv_icmp_lt (tgt := 32) hx hb dX2_take_26 (by decide) (fun c_ => absurd c_ (by decide +kernel)) (fun _ => ?_)
  refine lv_goto (tgt := 86) hx hb dX2_take_29 (by decide) ?_
  refine lv_iinc (v := 3) (lv' := [(5, .int 3), (4, .int 0), (3, .int 24), (0, .ref hd), (1, .int 0), (2, .int 24)]) hx hb dX2_take_86 hl (k := 0) rfl (by decide +kernel) (by decide) rfl (fun ls hl => ?_)
  refine lv_goto (tgt := 9) hx hb dX2_take_89 (by decide) ?_
  refine lv_iload hx hb dX2_take_9 (lv_at hl 0 rfl) ?_
  refine lv_if_lt (tgt := 92) hx hb dX2_take_11 (by decide) (fun c_ => absurd c_ (by decide +kernel)) (fun _ => ?_)
  refine lv_iload hx hb dX2_take_14 (lv_at hl 1 rfl) ?_
  refine lv_iconst (v := 3) hx hb dX2_take_16 (by decide) ?_
  refine lv_icmp_ge (tgt := 92) hx hb dX2_take_17 (by decide) (fun c_ => absurd c_ (by decide +kernel)) (fun _ => ?_)
  refine lv_iload hx hb dX2_take_20 (lv_at hl 0 rfl) ?_
  refine lv_aload_n hx hb dX2_take_22 rfl (lv_at hl 3 rfl) ?_
  refine va_get (D := (dC, dI)) (ci := 6) (v := .int 0) (C := RX2) (T := TX2) (N := 3) hx hb hts hiX2 hown hK hP 0 rfl rfl 2 (by decide) (hts (.fieldLink RX2 19 "SquareRig$Hold" "casks" "I") (by decide +kernel)) (fun _ h9 => h9) rfl dX2_take_23 ?_
  refine lv_icmp_lt (tgt := 32) hx hb dX2_take_26 (by decide) (fun c_ => absurd c_ (by decide +kernel)) (fun _ => ?_)
  refine lv_goto (tgt := 86) hx hb dX2_take_29 (by decide) ?_
  refine lv_iinc (v := 2) (lv' := [(5, .int 2), (4, .int 0), (3, .int 24), (0, .ref hd), (1, .int 0), (2, .int 24)]) hx hb dX2_take_86 hl (k := 0) rfl (by decide +kernel) (by decide) rfl (fun ls hl => ?_)
  refine lv_goto (tgt := 9) hx hb dX2_take_89 (by decide) ?_
  refine lv_iload hx hb dX2_take_9 (lv_at hl 0 rfl) ?_
  refine lv_if_lt (tgt := 92) hx hb dX2_take_11 (by decide) (fun c_ => absurd c_ (by decide +kernel)) (fun _ => ?_)
  refine lv_iload hx hb dX2_take_14 (lv_at hl 1 rfl) ?_
  refine lv_iconst (v := 3) hx hb dX2_take_16 (by decide) ?_
  refine lv_icmp_ge (tgt := 92) hx hb dX2_take_17 (by decide) (fun c_ => absurd c_ (by decide +kernel)) (fun _ => ?_)
  refine lv_iload hx hb dX2_take_20 (lv_at hl 0 rfl) ?_
  refine lv_aload_n hx hb dX2_take_22 rfl (lv_at hl 3 rfl) ?_
  refine va_get (D := (dC, dI)) (ci := 6) (v := .int 0) (C := RX2) (T := TX2) (N := 3) hx hb hts hiX2 hown hK hP 0 rfl rfl 2 (by decide) (hts (.fieldLink RX2 19 "SquareRig$Hold" "casks" "I") (by decide +kernel)) (fun _ h9 => h9) rfl dX2_take_23 ?_
  refine lv_icmp_lt (tgt := 32) hx hb dX2_take_26 (by decide) (fun c_ => absurd c_ (by decide +kernel)) (fun _ => ?_)
  refine lv_goto (tgt := 86) hx hb dX2_take_29 (by decide) ?_
  refine lv_iinc (v := 1) (lv' := [(5, .int 1), (4, .int 0), (3, .int 24), (0, .ref hd), (1, .int 0), (2, .int 24)]) hx hb dX2_take_86 hl (k := 0) rfl (by decide +kernel) (by decide) rfl (fun ls hl => ?_)
  refine lv_goto (tgt := 9) hx hb dX2_take_89 (by decide) ?_
  refine lv_iload hx hb dX2_take_9 (lv_at hl 0 rfl) ?_
  refine lv_if_lt (tgt := 92) hx hb dX2_take_11 (by decide) (fun c_ => absurd c_ (by decide +kernel)) (fun _ => ?_)
  refine lv_iload hx hb dX2_take_14 (lv_at hl 1 rfl) ?_
  refine lv_iconst (v := 3) hx hb dX2_take_16 (by decide) ?_
  refine lv_icmp_ge (tgt := 92) hx hb dX2_take_17 (by decide) (fun c_ => absurd c_ (by decide +kernel)) (fun _ => ?_)
  refine lv_iload hx hb dX2_take_20 (lv_at hl 0 rfl) ?_
  refine lv_aload_n hx hb dX2_take_22 rfl (lv_at hl 3 rfl) ?_
  refine va_get (D := (dC, dI)) (ci := 6) (v := .int 0) (C := RX2) (T := TX2) (N := 3) hx hb hts hiX2 hown hK hP 0 rfl rfl 2 (by decide) (hts (.fieldLink RX2 19 "SquareRig$Hold" "casks" "I") (by decide +kernel)) (fun _ h9 => h9) rfl dX2_take_23 ?_
  refine lv_icmp_lt (tgt := 32) hx hb dX2_take_26 (by decide) (fun c_ => absurd c_ (by decide +kernel)) (fun _ => ?_)
  refine lv_goto (tgt := 86) hx hb dX2_take_29 (by decide) ?_
  refine lv_iinc (v := 0) (lv' := [(5, .int 0), (4, .int 0), (3, .int 24), (0, .ref hd), (1, .int 0), (2, .int 24)]) hx hb dX2_take_86 hl (k := 0) rfl (by decide +kernel) (by decide) rfl (fun ls hl => ?_)
  refine lv_goto (tgt := 9) hx hb dX2_take_89 (by decide) ?_
  refine lv_iload hx hb dX2_take_9 (lv_at hl 0 rfl) ?_
  refine lv_if_lt (tgt := 92) hx hb dX2_take_11 (by decide) (fun c_ => absurd c_ (by decide +kernel)) (fun _ => ?_)
  refine lv_iload hx hb dX2_take_14 (lv_at hl 1 rfl) ?_
  refine lv_iconst (v := 3) hx hb dX2_take_16 (by decide) ?_
  refine lv_icmp_ge (tgt := 92) hx hb dX2_take_17 (by decide) (fun c_ => absurd c_ (by decide +kernel)) (fun _ => ?_)
  refine lv_iload hx hb dX2_take_20 (lv_at hl 0 rfl) ?_
  refine lv_aload_n hx hb dX2_take_22 rfl (lv_at hl 3 rfl) ?_
  refine va_get (D := (dC, dI)) (ci := 6) (v := .int 0) (C := RX2) (T := TX2) (N := 3) hx hb hts hiX2 hown hK hP 0 rfl rfl 2 (by decide) (hts (.fieldLink RX2 19 "SquareRig$Hold" "casks" "I") (by decide +kernel)) (fun _ h9 => h9) rfl dX2_take_23 ?_
  refine lv_icmp_lt (tgt := 32) hx hb dX2_take_26 (by decide) (fun c_ => absurd c_ (by decide +kernel)) (fun _ => ?_)
  refine lv_goto (tgt := 86) hx hb dX2_take_29 (by decide) ?_
  refine lv_iinc (v := (-1)) (lv' := [(5, .int (-1)), (4, .int 0), (3, .int 24), (0, .ref hd), (1, .int 0), (2, .int 24)]) hx hb dX2_take_86 hl (k := 0) rfl (by decide +kernel) (by decide) rfl (fun ls hl => ?_)
  refine lv_goto (tgt := 9) hx hb dX2_take_89 (by decide) ?_
  refine lv_iload hx hb dX2_take_9 (lv_at hl 0 rfl) ?_
  refine lv_if_lt (tgt := 92) hx hb dX2_take_11 (by decide) (fun _ => ?_) (fun c_ => absurd (by decide +kernel) c_)
  refine lv_iload_n hx hb dX2_take_92 rfl (lv_at hl 2 rfl) ?_
  refine lv_if_ne (tgt := 100) hx hb dX2_take_93 (by decide) (fun _ => ?_) (fun c_ => absurd c_ (by decide +kernel))
  refine lv_iconst (v := 0) hx hb dX2_take_100 (by decide) ?_
  exact W.zret (v := 0) hx hb hr (by decide +kernel) (fun t ht hW => ⟨⟨0, (), rfl, rfl, kB_end (w9 := [(hd, .inr (6, [.ref hu, .ref hy, .int 0])), (hu, .inl (cU, 20, .inl (fun _ => 0))), (hy, .inl (cW, 20, .inl (fun _ => 0)))]) (t9 := []) hP hK hD [0, 1, 2] [] rfl (by decide) rfl rfl t ht hW⟩, hS.F ht⟩) hS.2.2 dX2_take_101
abbrev wd_k_take1 (z : Nat → Nat) (hd : Nat) (hu : Nat) (hy : Nat) (cU : ClassId) (cW : ClassId) : va_W := [(hd, .inr (6, [.ref hu, .ref hy, .int 0])), (hu, .inl (cU, 20, .inl (fun _ => 0))), (hy, .inl (cW, 20, .inl (fun _ => 0)))]
set_option maxHeartbeats 4000000 in
set_option maxRecDepth 100000 in
theorem k_take1 (l : Launch) (dC : Nat → ClassId) (dI : Nat → Nat → Nat) (z zK zV : Nat → Nat) (hd : Nat) (hu : Nat) (hy : Nat) (cU : ClassId) (cW : ClassId) (sz : Nat)  : Met l yX2_take wsX2_take ({ frames := 0, cells := 0, slots := 0, locals := 0 }) (kP dC dI z zK zV [.ref hd, .int 1, .int 24] sz (wd_k_take1 z hd hu hy cU cW) [(cU, .int), (cW, .boolean)]) (va_Qi (fun (r : Int32) (_ : Unit) => 0 = r) (fun _ t => kB (dC, dI) (va_A (wd_k_take1 z hd hu hy cU cW) sz) [(hd, .inr (6, [.ref hu, .ref hy, .int 0])), (hu, .inl (cU, 20, .inl (fun _ => 0))), (hy, .inl (cW, 20, .inl (fun _ => 0)))] [] t) (va_A (wd_k_take1 z hd hu hy cU cW) sz)) 0 0 (va_A (wd_k_take1 z hd hu hy cU cW) sz) := by
  refine Met.ofW (cc := cX2_take) (maxL := 7) (ret := (some .boolean)) (by decide) rfl ?_
  intro p e s m args below meth c s₁ B hml hv
  obtain ⟨rfl, hsz, hP, hK, hD0, hM⟩ := hv
  have hx := B.exec
  have hb := B.bytes
  have hr := B.returns
  have hts := atoms_spec (ws := wsX2_take) B.pre
  have hown : s.vm.findClass RX2 = some m.cls := findClass_of_methodNamed B.named
  have hlocks := B.notSynchronized
  have hiX2 : ∀ w ∈ u_ws RX2 TX2 3, w ∈ wsX2_take := by decide +kernel
  subst hsz
  have hD := hD0.self (sz := s.heap.size)
  generalize hAe : va_A (wd_k_take1 z hd hu hy cU cW) s.heap.size = A at hD hM ⊢
  have hA : ∀ q : Nat, s.heap.size ≤ q → A q := fun q h => by rw [← hAe]; exact Or.inr h
  have hS : va_S A s.heap s.heap [] := va_S.rf
  have hP : va_P (dC, dI) vwCl [(hd, .inr (6, [.ref hu, .ref hy, .int 0])), (hu, .inl (cU, 20, .inl (fun _ => 0))), (hy, .inl (cW, 20, .inl (fun _ => 0)))] s.heap := hP
  have hD : va_D A [(hd, .inr (6, [.ref hu, .ref hy, .int 0])), (hu, .inl (cU, 20, .inl (fun _ => 0))), (hy, .inl (cW, 20, .inl (fun _ => 0)))] := hD
  have hl := lv_entry ([.ref hd, .int 1, .int 24]) (n := 7) (Nat.le_of_ble_eq_true rfl)
  rw [lg_entry_eq]
  generalize (lg_sl ([.ref hd, .int 1, .int 24]) ++ List.replicate (7 - (lg_sl ([.ref hd, .int 1, .int 24])).length) Slot.unset).toArray = ls at hl ⊢
  have hl : lv_has ls 7 [(0, .ref hd), (1, .int 1), (2, .int 24)] := hl
  refine lv_iload_n hx hb dX2_take_0 rfl (lv_at hl 2 rfl) ?_
  refine lv_istore_n (lv' := [(3, .int 24), (0, .ref hd), (1, .int 1), (2, .int 24)]) hx hb dX2_take_1 rfl hl (by decide) rfl (fun ls hl => ?_)
  refine lv_iconst (v := 0) hx hb dX2_take_2 (by decide) ?_
  refine lv_istore (lv' := [(4, .int 0), (3, .int 24), (0, .ref hd), (1, .int 1), (2, .int 24)]) hx hb dX2_take_3 hl (by decide) rfl (fun ls hl => ?_)
  refine lv_bipush (v := 19) hx hb dX2_take_5 (by decide) ?_
  refine lv_istore (lv' := [(5, .int 19), (4, .int 0), (3, .int 24), (0, .ref hd), (1, .int 1), (2, .int 24)]) hx hb dX2_take_7 hl (by decide) rfl (fun ls hl => ?_)
  refine lv_iload hx hb dX2_take_9 (lv_at hl 0 rfl) ?_
  refine lv_if_lt (tgt := 92) hx hb dX2_take_11 (by decide) (fun c_ => absurd c_ (by decide +kernel)) (fun _ => ?_)
  refine lv_iload hx hb dX2_take_14 (lv_at hl 1 rfl) ?_
  refine lv_iconst (v := 3) hx hb dX2_take_16 (by decide) ?_
  refine lv_icmp_ge (tgt := 92) hx hb dX2_take_17 (by decide) (fun c_ => absurd c_ (by decide +kernel)) (fun _ => ?_)
  refine lv_iload hx hb dX2_take_20 (lv_at hl 0 rfl) ?_
  refine lv_aload_n hx hb dX2_take_22 rfl (lv_at hl 3 rfl) ?_
  refine va_get (D := (dC, dI)) (ci := 6) (v := .int 0) (C := RX2) (T := TX2) (N := 3) hx hb hts hiX2 hown hK hP 0 rfl rfl 2 (by decide) (hts (.fieldLink RX2 19 "SquareRig$Hold" "casks" "I") (by decide +kernel)) (fun _ h9 => h9) rfl dX2_take_23 ?_
  refine lv_icmp_lt (tgt := 32) hx hb dX2_take_26 (by decide) (fun c_ => absurd c_ (by decide +kernel)) (fun _ => ?_)
  refine lv_goto (tgt := 86) hx hb dX2_take_29 (by decide) ?_
  refine lv_iinc (v := 18) (lv' := [(5, .int 18), (4, .int 0), (3, .int 24), (0, .ref hd), (1, .int 1), (2, .int 24)]) hx hb dX2_take_86 hl (k := 0) rfl (by decide +kernel) (by decide) rfl (fun ls hl => ?_)
  refine lv_goto (tgt := 9) hx hb dX2_take_89 (by decide) ?_
  refine lv_iload hx hb dX2_take_9 (lv_at hl 0 rfl) ?_
  refine lv_if_lt (tgt := 92) hx hb dX2_take_11 (by decide) (fun c_ => absurd c_ (by decide +kernel)) (fun _ => ?_)
  refine lv_iload hx hb dX2_take_14 (lv_at hl 1 rfl) ?_
  refine lv_iconst (v := 3) hx hb dX2_take_16 (by decide) ?_
  refine lv_icmp_ge (tgt := 92) hx hb dX2_take_17 (by decide) (fun c_ => absurd c_ (by decide +kernel)) (fun _ => ?_)
  refine lv_iload hx hb dX2_take_20 (lv_at hl 0 rfl) ?_
  refine lv_aload_n hx hb dX2_take_22 rfl (lv_at hl 3 rfl) ?_
  refine va_get (D := (dC, dI)) (ci := 6) (v := .int 0) (C := RX2) (T := TX2) (N := 3) hx hb hts hiX2 hown hK hP 0 rfl rfl 2 (by decide) (hts (.fieldLink RX2 19 "SquareRig$Hold" "casks" "I") (by decide +kernel)) (fun _ h9 => h9) rfl dX2_take_23 ?_
  refine lv_icmp_lt (tgt := 32) hx hb dX2_take_26 (by decide) (fun c_ => absurd c_ (by decide +kernel)) (fun _ => ?_)
  refine lv_goto (tgt := 86) hx hb dX2_take_29 (by decide) ?_
  refine lv_iinc (v := 17) (lv' := [(5, .int 17), (4, .int 0), (3, .int 24), (0, .ref hd), (1, .int 1), (2, .int 24)]) hx hb dX2_take_86 hl (k := 0) rfl (by decide +kernel) (by decide) rfl (fun ls hl => ?_)
  refine lv_goto (tgt := 9) hx hb dX2_take_89 (by decide) ?_
  refine lv_iload hx hb dX2_take_9 (lv_at hl 0 rfl) ?_
  refine lv_if_lt (tgt := 92) hx hb dX2_take_11 (by decide) (fun c_ => absurd c_ (by decide +kernel)) (fun _ => ?_)
  refine lv_iload hx hb dX2_take_14 (lv_at hl 1 rfl) ?_
  refine lv_iconst (v := 3) hx hb dX2_take_16 (by decide) ?_
  refine lv_icmp_ge (tgt := 92) hx hb dX2_take_17 (by decide) (fun c_ => absurd c_ (by decide +kernel)) (fun _ => ?_)
  refine lv_iload hx hb dX2_take_20 (lv_at hl 0 rfl) ?_
  refine lv_aload_n hx hb dX2_take_22 rfl (lv_at hl 3 rfl) ?_
  refine va_get (D := (dC, dI)) (ci := 6) (v := .int 0) (C := RX2) (T := TX2) (N := 3) hx hb hts hiX2 hown hK hP 0 rfl rfl 2 (by decide) (hts (.fieldLink RX2 19 "SquareRig$Hold" "casks" "I") (by decide +kernel)) (fun _ h9 => h9) rfl dX2_take_23 ?_
  refine lv_icmp_lt (tgt := 32) hx hb dX2_take_26 (by decide) (fun c_ => absurd c_ (by decide +kernel)) (fun _ => ?_)
  refine lv_goto (tgt := 86) hx hb dX2_take_29 (by decide) ?_
  refine lv_iinc (v := 16) (lv' := [(5, .int 16), (4, .int 0), (3, .int 24), (0, .ref hd), (1, .int 1), (2, .int 24)]) hx hb dX2_take_86 hl (k := 0) rfl (by decide +kernel) (by decide) rfl (fun ls hl => ?_)
  refine lv_goto (tgt := 9) hx hb dX2_take_89 (by decide) ?_
  refine lv_iload hx hb dX2_take_9 (lv_at hl 0 rfl) ?_
  refine lv_if_lt (tgt := 92) hx hb dX2_take_11 (by decide) (fun c_ => absurd c_ (by decide +kernel)) (fun _ => ?_)
  refine lv_iload hx hb dX2_take_14 (lv_at hl 1 rfl) ?_
  refine lv_iconst (v := 3) hx hb dX2_take_16 (by decide) ?_
  refine lv_icmp_ge (tgt := 92) hx hb dX2_take_17 (by decide) (fun c_ => absurd c_ (by decide +kernel)) (fun _ => ?_)
  refine lv_iload hx hb dX2_take_20 (lv_at hl 0 rfl) ?_
  refine lv_aload_n hx hb dX2_take_22 rfl (lv_at hl 3 rfl) ?_
  refine va_get (D := (dC, dI)) (ci := 6) (v := .int 0) (C := RX2) (T := TX2) (N := 3) hx hb hts hiX2 hown hK hP 0 rfl rfl 2 (by decide) (hts (.fieldLink RX2 19 "SquareRig$Hold" "casks" "I") (by decide +kernel)) (fun _ h9 => h9) rfl dX2_take_23 ?_
  refine lv_icmp_lt (tgt := 32) hx hb dX2_take_26 (by decide) (fun c_ => absurd c_ (by decide +kernel)) (fun _ => ?_)
  refine lv_goto (tgt := 86) hx hb dX2_take_29 (by decide) ?_
  refine lv_iinc (v := 15) (lv' := [(5, .int 15), (4, .int 0), (3, .int 24), (0, .ref hd), (1, .int 1), (2, .int 24)]) hx hb dX2_take_86 hl (k := 0) rfl (by decide +kernel) (by decide) rfl (fun ls hl => ?_)
  refine lv_goto (tgt := 9) hx hb dX2_take_89 (by decide) ?_
  refine lv_iload hx hb dX2_take_9 (lv_at hl 0 rfl) ?_
  refine lv_if_lt (tgt := 92) hx hb dX2_take_11 (by decide) (fun c_ => absurd c_ (by decide +kernel)) (fun _ => ?_)
  refine lv_iload hx hb dX2_take_14 (lv_at hl 1 rfl) ?_
  refine lv_iconst (v := 3) hx hb dX2_take_16 (by decide) ?_
  refine lv_icmp_ge (tgt := 92) hx hb dX2_take_17 (by decide) (fun c_ => absurd c_ (by decide +kernel)) (fun _ => ?_)
  refine lv_iload hx hb dX2_take_20 (lv_at hl 0 rfl) ?_
  refine lv_aload_n hx hb dX2_take_22 rfl (lv_at hl 3 rfl) ?_
  refine va_get (D := (dC, dI)) (ci := 6) (v := .int 0) (C := RX2) (T := TX2) (N := 3) hx hb hts hiX2 hown hK hP 0 rfl rfl 2 (by decide) (hts (.fieldLink RX2 19 "SquareRig$Hold" "casks" "I") (by decide +kernel)) (fun _ h9 => h9) rfl dX2_take_23 ?_
  refine lv_icmp_lt (tgt := 32) hx hb dX2_take_26 (by decide) (fun c_ => absurd c_ (by decide +kernel)) (fun _ => ?_)
  refine lv_goto (tgt := 86) hx hb dX2_take_29 (by decide) ?_
  refine lv_iinc (v := 14) (lv' := [(5, .int 14), (4, .int 0), (3, .int 24), (0, .ref hd), (1, .int 1), (2, .int 24)]) hx hb dX2_take_86 hl (k := 0) rfl (by decide +kernel) (by decide) rfl (fun ls hl => ?_)
  refine lv_goto (tgt := 9) hx hb dX2_take_89 (by decide) ?_
  refine lv_iload hx hb dX2_take_9 (lv_at hl 0 rfl) ?_
  refine lv_if_lt (tgt := 92) hx hb dX2_take_11 (by decide) (fun c_ => absurd c_ (by decide +kernel)) (fun _ => ?_)
  refine lv_iload hx hb dX2_take_14 (lv_at hl 1 rfl) ?_
  refine lv_iconst (v := 3) hx hb dX2_take_16 (by decide) ?_
  refine lv_icmp_ge (tgt := 92) hx hb dX2_take_17 (by decide) (fun c_ => absurd c_ (by decide +kernel)) (fun _ => ?_)
  refine lv_iload hx hb dX2_take_20 (lv_at hl 0 rfl) ?_
  refine lv_aload_n hx hb dX2_take_22 rfl (lv_at hl 3 rfl) ?_
  refine va_get (D := (dC, dI)) (ci := 6) (v := .int 0) (C := RX2) (T := TX2) (N := 3) hx hb hts hiX2 hown hK hP 0 rfl rfl 2 (by decide) (hts (.fieldLink RX2 19 "SquareRig$Hold" "casks" "I") (by decide +kernel)) (fun _ h9 => h9) rfl dX2_take_23 ?_
  refine lv_icmp_lt (tgt := 32) hx hb dX2_take_26 (by decide) (fun c_ => absurd c_ (by decide +kernel)) (fun _ => ?_)
  refine lv_goto (tgt := 86) hx hb dX2_take_29 (by decide) ?_
  refine lv_iinc (v := 13) (lv' := [(5, .int 13), (4, .int 0), (3, .int 24), (0, .ref hd), (1, .int 1), (2, .int 24)]) hx hb dX2_take_86 hl (k := 0) rfl (by decide +kernel) (by decide) rfl (fun ls hl => ?_)
  refine lv_goto (tgt := 9) hx hb dX2_take_89 (by decide) ?_
  refine lv_iload hx hb dX2_take_9 (lv_at hl 0 rfl) ?_
  refine lv_if_lt (tgt := 92) hx hb dX2_take_11 (by decide) (fun c_ => absurd c_ (by decide +kernel)) (fun _ => ?_)
  refine lv_iload hx hb dX2_take_14 (lv_at hl 1 rfl) ?_
  refine lv_iconst (v := 3) hx hb dX2_take_16 (by decide) ?_
  refine lv_icmp_ge (tgt := 92) hx hb dX2_take_17 (by decide) (fun c_ => absurd c_ (by decide +kernel)) (fun _ => ?_)
  refine lv_iload hx hb dX2_take_20 (lv_at hl 0 rfl) ?_
  refine lv_aload_n hx hb dX2_take_22 rfl (lv_at hl 3 rfl) ?_
  refine va_get (D := (dC, dI)) (ci := 6) (v := .int 0) (C := RX2) (T := TX2) (N := 3) hx hb hts hiX2 hown hK hP 0 rfl rfl 2 (by decide) (hts (.fieldLink RX2 19 "SquareRig$Hold" "casks" "I") (by decide +kernel)) (fun _ h9 => h9) rfl dX2_take_23 ?_
  refine lv_icmp_lt (tgt := 32) hx hb dX2_take_26 (by decide) (fun c_ => absurd c_ (by decide +kernel)) (fun _ => ?_)
  refine lv_goto (tgt := 86) hx hb dX2_take_29 (by decide) ?_
  refine lv_iinc (v := 12) (lv' := [(5, .int 12), (4, .int 0), (3, .int 24), (0, .ref hd), (1, .int 1), (2, .int 24)]) hx hb dX2_take_86 hl (k := 0) rfl (by decide +kernel) (by decide) rfl (fun ls hl => ?_)
  refine lv_goto (tgt := 9) hx hb dX2_take_89 (by decide) ?_
  refine lv_iload hx hb dX2_take_9 (lv_at hl 0 rfl) ?_
  refine lv_if_lt (tgt := 92) hx hb dX2_take_11 (by decide) (fun c_ => absurd c_ (by decide +kernel)) (fun _ => ?_)
  refine lv_iload hx hb dX2_take_14 (lv_at hl 1 rfl) ?_
  refine lv_iconst (v := 3) hx hb dX2_take_16 (by decide) ?_
  refine lv_icmp_ge (tgt := 92) hx hb dX2_take_17 (by decide) (fun c_ => absurd c_ (by decide +kernel)) (fun _ => ?_)
  refine lv_iload hx hb dX2_take_20 (lv_at hl 0 rfl) ?_
  refine lv_aload_n hx hb dX2_take_22 rfl (lv_at hl 3 rfl) ?_
  refine va_get (D := (dC, dI)) (ci := 6) (v := .int 0) (C := RX2) (T := TX2) (N := 3) hx hb hts hiX2 hown hK hP 0 rfl rfl 2 (by decide) (hts (.fieldLink RX2 19 "SquareRig$Hold" "casks" "I") (by decide +kernel)) (fun _ h9 => h9) rfl dX2_take_23 ?_
  refine lv_icmp_lt (tgt := 32) hx hb dX2_take_26 (by decide) (fun c_ => absurd c_ (by decide +kernel)) (fun _ => ?_)
  refine lv_goto (tgt := 86) hx hb dX2_take_29 (by decide) ?_
  refine lv_iinc (v := 11) (lv' := [(5, .int 11), (4, .int 0), (3, .int 24), (0, .ref hd), (1, .int 1), (2, .int 24)]) hx hb dX2_take_86 hl (k := 0) rfl (by decide +kernel) (by decide) rfl (fun ls hl => ?_)
  refine lv_goto (tgt := 9) hx hb dX2_take_89 (by decide) ?_
  refine lv_iload hx hb dX2_take_9 (lv_at hl 0 rfl) ?_
  refine lv_if_lt (tgt := 92) hx hb dX2_take_11 (by decide) (fun c_ => absurd c_ (by decide +kernel)) (fun _ => ?_)
  refine lv_iload hx hb dX2_take_14 (lv_at hl 1 rfl) ?_
  refine lv_iconst (v := 3) hx hb dX2_take_16 (by decide) ?_
  refine lv_icmp_ge (tgt := 92) hx hb dX2_take_17 (by decide) (fun c_ => absurd c_ (by decide +kernel)) (fun _ => ?_)
  refine lv_iload hx hb dX2_take_20 (lv_at hl 0 rfl) ?_
  refine lv_aload_n hx hb dX2_take_22 rfl (lv_at hl 3 rfl) ?_
  refine va_get (D := (dC, dI)) (ci := 6) (v := .int 0) (C := RX2) (T := TX2) (N := 3) hx hb hts hiX2 hown hK hP 0 rfl rfl 2 (by decide) (hts (.fieldLink RX2 19 "SquareRig$Hold" "casks" "I") (by decide +kernel)) (fun _ h9 => h9) rfl dX2_take_23 ?_
  refine lv_icmp_lt (tgt := 32) hx hb dX2_take_26 (by decide) (fun c_ => absurd c_ (by decide +kernel)) (fun _ => ?_)
  refine lv_goto (tgt := 86) hx hb dX2_take_29 (by decide) ?_
  refine lv_iinc (v := 10) (lv' := [(5, .int 10), (4, .int 0), (3, .int 24), (0, .ref hd), (1, .int 1), (2, .int 24)]) hx hb dX2_take_86 hl (k := 0) rfl (by decide +kernel) (by decide) rfl (fun ls hl => ?_)
  refine lv_goto (tgt := 9) hx hb dX2_take_89 (by decide) ?_
  refine lv_iload hx hb dX2_take_9 (lv_at hl 0 rfl) ?_
  refine lv_if_lt (tgt := 92) hx hb dX2_take_11 (by decide) (fun c_ => absurd c_ (by decide +kernel)) (fun _ => ?_)
  refine lv_iload hx hb dX2_take_14 (lv_at hl 1 rfl) ?_
  refine lv_iconst (v := 3) hx hb dX2_take_16 (by decide) ?_
  refine lv_icmp_ge (tgt := 92) hx hb dX2_take_17 (by decide) (fun c_ => absurd c_ (by decide +kernel)) (fun _ => ?_)
  refine lv_iload hx hb dX2_take_20 (lv_at hl 0 rfl) ?_
  refine lv_aload_n hx hb dX2_take_22 rfl (lv_at hl 3 rfl) ?_
  refine va_get (D := (dC, dI)) (ci := 6) (v := .int 0) (C := RX2) (T := TX2) (N := 3) hx hb hts hiX2 hown hK hP 0 rfl rfl 2 (by decide) (hts (.fieldLink RX2 19 "SquareRig$Hold" "casks" "I") (by decide +kernel)) (fun _ h9 => h9) rfl dX2_take_23 ?_
  refine lv_icmp_lt (tgt := 32) hx hb dX2_take_26 (by decide) (fun c_ => absurd c_ (by decide +kernel)) (fun _ => ?_)
  refine lv_goto (tgt := 86) hx hb dX2_take_29 (by decide) ?_
  refine lv_iinc (v := 9) (lv' := [(5, .int 9), (4, .int 0), (3, .int 24), (0, .ref hd), (1, .int 1), (2, .int 24)]) hx hb dX2_take_86 hl (k := 0) rfl (by decide +kernel) (by decide) rfl (fun ls hl => ?_)
  refine lv_goto (tgt := 9) hx hb dX2_take_89 (by decide) ?_
  refine lv_iload hx hb dX2_take_9 (lv_at hl 0 rfl) ?_
  refine lv_if_lt (tgt := 92) hx hb dX2_take_11 (by decide) (fun c_ => absurd c_ (by decide +kernel)) (fun _ => ?_)
  refine lv_iload hx hb dX2_take_14 (lv_at hl 1 rfl) ?_
  refine lv_iconst (v := 3) hx hb dX2_take_16 (by decide) ?_
  refine lv_icmp_ge (tgt := 92) hx hb dX2_take_17 (by decide) (fun c_ => absurd c_ (by decide +kernel)) (fun _ => ?_)
  refine lv_iload hx hb dX2_take_20 (lv_at hl 0 rfl) ?_
  refine lv_aload_n hx hb dX2_take_22 rfl (lv_at hl 3 rfl) ?_
  refine va_get (D := (dC, dI)) (ci := 6) (v := .int 0) (C := RX2) (T := TX2) (N := 3) hx hb hts hiX2 hown hK hP 0 rfl rfl 2 (by decide) (hts (.fieldLink RX2 19 "SquareRig$Hold" "casks" "I") (by decide +kernel)) (fun _ h9 => h9) rfl dX2_take_23 ?_
  refine lv_icmp_lt (tgt := 32) hx hb dX2_take_26 (by decide) (fun c_ => absurd c_ (by decide +kernel)) (fun _ => ?_)
  refine lv_goto (tgt := 86) hx hb dX2_take_29 (by decide) ?_
  refine lv_iinc (v := 8) (lv' := [(5, .int 8), (4, .int 0), (3, .int 24), (0, .ref hd), (1, .int 1), (2, .int 24)]) hx hb dX2_take_86 hl (k := 0) rfl (by decide +kernel) (by decide) rfl (fun ls hl => ?_)
  refine lv_goto (tgt := 9) hx hb dX2_take_89 (by decide) ?_
  refine lv_iload hx hb dX2_take_9 (lv_at hl 0 rfl) ?_
  refine lv_if_lt (tgt := 92) hx hb dX2_take_11 (by decide) (fun c_ => absurd c_ (by decide +kernel)) (fun _ => ?_)
  refine lv_iload hx hb dX2_take_14 (lv_at hl 1 rfl) ?_
  refine lv_iconst (v := 3) hx hb dX2_take_16 (by decide) ?_
  refine lv_icmp_ge (tgt := 92) hx hb dX2_take_17 (by decide) (fun c_ => absurd c_ (by decide +kernel)) (fun _ => ?_)
  refine lv_iload hx hb dX2_take_20 (lv_at hl 0 rfl) ?_
  refine lv_aload_n hx hb dX2_take_22 rfl (lv_at hl 3 rfl) ?_
  refine va_get (D := (dC, dI)) (ci := 6) (v := .int 0) (C := RX2) (T := TX2) (N := 3) hx hb hts hiX2 hown hK hP 0 rfl rfl 2 (by decide) (hts (.fieldLink RX2 19 "SquareRig$Hold" "casks" "I") (by decide +kernel)) (fun _ h9 => h9) rfl dX2_take_23 ?_
  refine lv_icmp_lt (tgt := 32) hx hb dX2_take_26 (by decide) (fun c_ => absurd c_ (by decide +kernel)) (fun _ => ?_)
  refine lv_goto (tgt := 86) hx hb dX2_take_29 (by decide) ?_
  refine lv_iinc (v := 7) (lv' := [(5, .int 7), (4, .int 0), (3, .int 24), (0, .ref hd), (1, .int 1), (2, .int 24)]) hx hb dX2_take_86 hl (k := 0) rfl (by decide +kernel) (by decide) rfl (fun ls hl => ?_)
  refine lv_goto (tgt := 9) hx hb dX2_take_89 (by decide) ?_
  refine lv_iload hx hb dX2_take_9 (lv_at hl 0 rfl) ?_
  refine lv_if_lt (tgt := 92) hx hb dX2_take_11 (by decide) (fun c_ => absurd c_ (by decide +kernel)) (fun _ => ?_)
  refine lv_iload hx hb dX2_take_14 (lv_at hl 1 rfl) ?_
  refine lv_iconst (v := 3) hx hb dX2_take_16 (by decide) ?_
  refine lv_icmp_ge (tgt := 92) hx hb dX2_take_17 (by decide) (fun c_ => absurd c_ (by decide +kernel)) (fun _ => ?_)
  refine lv_iload hx hb dX2_take_20 (lv_at hl 0 rfl) ?_
  refine lv_aload_n hx hb dX2_take_22 rfl (lv_at hl 3 rfl) ?_
  refine va_get (D := (dC, dI)) (ci := 6) (v := .int 0) (C := RX2) (T := TX2) (N := 3) hx hb hts hiX2 hown hK hP 0 rfl rfl 2 (by decide) (hts (.fieldLink RX2 19 "SquareRig$Hold" "casks" "I") (by decide +kernel)) (fun _ h9 => h9) rfl dX2_take_23 ?_
  refine lv_icmp_lt (tgt := 32) hx hb dX2_take_26 (by decide) (fun c_ => absurd c_ (by decide +kernel)) (fun _ => ?_)
  refine lv_goto (tgt := 86) hx hb dX2_take_29 (by decide) ?_
  refine lv_iinc (v := 6) (lv' := [(5, .int 6), (4, .int 0), (3, .int 24), (0, .ref hd), (1, .int 1), (2, .int 24)]) hx hb dX2_take_86 hl (k := 0) rfl (by decide +kernel) (by decide) rfl (fun ls hl => ?_)
  refine lv_goto (tgt := 9) hx hb dX2_take_89 (by decide) ?_
  refine lv_iload hx hb dX2_take_9 (lv_at hl 0 rfl) ?_
  refine lv_if_lt (tgt := 92) hx hb dX2_take_11 (by decide) (fun c_ => absurd c_ (by decide +kernel)) (fun _ => ?_)
  refine lv_iload hx hb dX2_take_14 (lv_at hl 1 rfl) ?_
  refine lv_iconst (v := 3) hx hb dX2_take_16 (by decide) ?_
  refine lv_icmp_ge (tgt := 92) hx hb dX2_take_17 (by decide) (fun c_ => absurd c_ (by decide +kernel)) (fun _ => ?_)
  refine lv_iload hx hb dX2_take_20 (lv_at hl 0 rfl) ?_
  refine lv_aload_n hx hb dX2_take_22 rfl (lv_at hl 3 rfl) ?_
  refine va_get (D := (dC, dI)) (ci := 6) (v := .int 0) (C := RX2) (T := TX2) (N := 3) hx hb hts hiX2 hown hK hP 0 rfl rfl 2 (by decide) (hts (.fieldLink RX2 19 "SquareRig$Hold" "casks" "I") (by decide +kernel)) (fun _ h9 => h9) rfl dX2_take_23 ?_
  refine lv_icmp_lt (tgt := 32) hx hb dX2_take_26 (by decide) (fun c_ => absurd c_ (by decide +kernel)) (fun _ => ?_)
  refine lv_goto (tgt := 86) hx hb dX2_take_29 (by decide) ?_
  refine lv_iinc (v := 5) (lv' := [(5, .int 5), (4, .int 0), (3, .int 24), (0, .ref hd), (1, .int 1), (2, .int 24)]) hx hb dX2_take_86 hl (k := 0) rfl (by decide +kernel) (by decide) rfl (fun ls hl => ?_)
  refine lv_goto (tgt := 9) hx hb dX2_take_89 (by decide) ?_
  refine lv_iload hx hb dX2_take_9 (lv_at hl 0 rfl) ?_
  refine lv_if_lt (tgt := 92) hx hb dX2_take_11 (by decide) (fun c_ => absurd c_ (by decide +kernel)) (fun _ => ?_)
  refine lv_iload hx hb dX2_take_14 (lv_at hl 1 rfl) ?_
  refine lv_iconst (v := 3) hx hb dX2_take_16 (by decide) ?_
  refine lv_icmp_ge (tgt := 92) hx hb dX2_take_17 (by decide) (fun c_ => absurd c_ (by decide +kernel)) (fun _ => ?_)
  refine lv_iload hx hb dX2_take_20 (lv_at hl 0 rfl) ?_
  refine lv_aload_n hx hb dX2_take_22 rfl (lv_at hl 3 rfl) ?_
  refine va_get (D := (dC, dI)) (ci := 6) (v := .int 0) (C := RX2) (T := TX2) (N := 3) hx hb hts hiX2 hown hK hP 0 rfl rfl 2 (by decide) (hts (.fieldLink RX2 19 "SquareRig$Hold" "casks" "I") (by decide +kernel)) (fun _ h9 => h9) rfl dX2_take_23 ?_
  refine lv_icmp_lt (tgt := 32) hx hb dX2_take_26 (by decide) (fun c_ => absurd c_ (by decide +kernel)) (fun _ => ?_)
  refine lv_goto (tgt := 86) hx hb dX2_take_29 (by decide) ?_
  refine lv_iinc (v := 4) (lv' := [(5, .int 4), (4, .int 0), (3, .int 24), (0, .ref hd), (1, .int 1), (2, .int 24)]) hx hb dX2_take_86 hl (k := 0) rfl (by decide +kernel) (by decide) rfl (fun ls hl => ?_)
  refine lv_goto (tgt := 9) hx hb dX2_take_89 (by decide) ?_
  refine lv_iload hx hb dX2_take_9 (lv_at hl 0 rfl) ?_
  refine lv_if_lt (tgt := 92) hx hb dX2_take_11 (by decide) (fun c_ => absurd c_ (by decide +kernel)) (fun _ => ?_)
  refine lv_iload hx hb dX2_take_14 (lv_at hl 1 rfl) ?_
  refine lv_iconst (v := 3) hx hb dX2_take_16 (by decide) ?_
  refine lv_icmp_ge (tgt := 92) hx hb dX2_take_17 (by decide) (fun c_ => absurd c_ (by decide +kernel)) (fun _ => ?_)
  refine lv_iload hx hb dX2_take_20 (lv_at hl 0 rfl) ?_
  refine lv_aload_n hx hb dX2_take_22 rfl (lv_at hl 3 rfl) ?_
  refine va_get (D := (dC, dI)) (ci := 6) (v := .int 0) (C := RX2) (T := TX2) (N := 3) hx hb hts hiX2 hown hK hP 0 rfl rfl 2 (by decide) (hts (.fieldLink RX2 19 "SquareRig$Hold" "casks" "I") (by decide +kernel)) (fun _ h9 => h9) rfl dX2_take_23 ?_
  refine lv_icmp_lt (tgt := 32) hx hb dX2_take_26 (by decide) (fun c_ => absurd c_ (by decide +kernel)) (fun _ => ?_)
  refine lv_goto (tgt := 86) hx hb dX2_take_29 (by decide) ?_
  refine lv_iinc (v := 3) (lv' := [(5, .int 3), (4, .int 0), (3, .int 24), (0, .ref hd), (1, .int 1), (2, .int 24)]) hx hb dX2_take_86 hl (k := 0) rfl (by decide +kernel) (by decide) rfl (fun ls hl => ?_)
  refine lv_goto (tgt := 9) hx hb dX2_take_89 (by decide) ?_
  refine lv_iload hx hb dX2_take_9 (lv_at hl 0 rfl) ?_
  refine lv_if_lt (tgt := 92) hx hb dX2_take_11 (by decide) (fun c_ => absurd c_ (by decide +kernel)) (fun _ => ?_)
  refine lv_iload hx hb dX2_take_14 (lv_at hl 1 rfl) ?_
  refine lv_iconst (v := 3) hx hb dX2_take_16 (by decide) ?_
  refine lv_icmp_ge (tgt := 92) hx hb dX2_take_17 (by decide) (fun c_ => absurd c_ (by decide +kernel)) (fun _ => ?_)
  refine lv_iload hx hb dX2_take_20 (lv_at hl 0 rfl) ?_
  refine lv_aload_n hx hb dX2_take_22 rfl (lv_at hl 3 rfl) ?_
  refine va_get (D := (dC, dI)) (ci := 6) (v := .int 0) (C := RX2) (T := TX2) (N := 3) hx hb hts hiX2 hown hK hP 0 rfl rfl 2 (by decide) (hts (.fieldLink RX2 19 "SquareRig$Hold" "casks" "I") (by decide +kernel)) (fun _ h9 => h9) rfl dX2_take_23 ?_
  refine lv_icmp_lt (tgt := 32) hx hb dX2_take_26 (by decide) (fun c_ => absurd c_ (by decide +kernel)) (fun _ => ?_)
  refine lv_goto (tgt := 86) hx hb dX2_take_29 (by decide) ?_
  refine lv_iinc (v := 2) (lv' := [(5, .int 2), (4, .int 0), (3, .int 24), (0, .ref hd), (1, .int 1), (2, .int 24)]) hx hb dX2_take_86 hl (k := 0) rfl (by decide +kernel) (by decide) rfl (fun ls hl => ?_)
  refine lv_goto (tgt := 9) hx hb dX2_take_89 (by decide) ?_
  refine lv_iload hx hb dX2_take_9 (lv_at hl 0 rfl) ?_
  refine lv_if_lt (tgt := 92) hx hb dX2_take_11 (by decide) (fun c_ => absurd c_ (by decide +kernel)) (fun _ => ?_)
  refine lv_iload hx hb dX2_take_14 (lv_at hl 1 rfl) ?_
  refine lv_iconst (v := 3) hx hb dX2_take_16 (by decide) ?_
  refine lv_icmp_ge (tgt := 92) hx hb dX2_take_17 (by decide) (fun c_ => absurd c_ (by decide +kernel)) (fun _ => ?_)
  refine lv_iload hx hb dX2_take_20 (lv_at hl 0 rfl) ?_
  refine lv_aload_n hx hb dX2_take_22 rfl (lv_at hl 3 rfl) ?_
  refine va_get (D := (dC, dI)) (ci := 6) (v := .int 0) (C := RX2) (T := TX2) (N := 3) hx hb hts hiX2 hown hK hP 0 rfl rfl 2 (by decide) (hts (.fieldLink RX2 19 "SquareRig$Hold" "casks" "I") (by decide +kernel)) (fun _ h9 => h9) rfl dX2_take_23 ?_
  refine lv_icmp_lt (tgt := 32) hx hb dX2_take_26 (by decide) (fun c_ => absurd c_ (by decide +kernel)) (fun _ => ?_)
  refine lv_goto (tgt := 86) hx hb dX2_take_29 (by decide) ?_
  refine lv_iinc (v := 1) (lv' := [(5, .int 1), (4, .int 0), (3, .int 24), (0, .ref hd), (1, .int 1), (2, .int 24)]) hx hb dX2_take_86 hl (k := 0) rfl (by decide +kernel) (by decide) rfl (fun ls hl => ?_)
  refine lv_goto (tgt := 9) hx hb dX2_take_89 (by decide) ?_
  refine lv_iload hx hb dX2_take_9 (lv_at hl 0 rfl) ?_
  refine lv_if_lt (tgt := 92) hx hb dX2_take_11 (by decide) (fun c_ => absurd c_ (by decide +kernel)) (fun _ => ?_)
  refine lv_iload hx hb dX2_take_14 (lv_at hl 1 rfl) ?_
  refine lv_iconst (v := 3) hx hb dX2_take_16 (by decide) ?_
  refine lv_icmp_ge (tgt := 92) hx hb dX2_take_17 (by decide) (fun c_ => absurd c_ (by decide +kernel)) (fun _ => ?_)
  refine lv_iload hx hb dX2_take_20 (lv_at hl 0 rfl) ?_
  refine lv_aload_n hx hb dX2_take_22 rfl (lv_at hl 3 rfl) ?_
  refine va_get (D := (dC, dI)) (ci := 6) (v := .int 0) (C := RX2) (T := TX2) (N := 3) hx hb hts hiX2 hown hK hP 0 rfl rfl 2 (by decide) (hts (.fieldLink RX2 19 "SquareRig$Hold" "casks" "I") (by decide +kernel)) (fun _ h9 => h9) rfl dX2_take_23 ?_
  refine lv_icmp_lt (tgt := 32) hx hb dX2_take_26 (by decide) (fun c_ => absurd c_ (by decide +kernel)) (fun _ => ?_)
  refine lv_goto (tgt := 86) hx hb dX2_take_29 (by decide) ?_
  refine lv_iinc (v := 0) (lv' := [(5, .int 0), (4, .int 0), (3, .int 24), (0, .ref hd), (1, .int 1), (2, .int 24)]) hx hb dX2_take_86 hl (k := 0) rfl (by decide +kernel) (by decide) rfl (fun ls hl => ?_)
  refine lv_goto (tgt := 9) hx hb dX2_take_89 (by decide) ?_
  refine lv_iload hx hb dX2_take_9 (lv_at hl 0 rfl) ?_
  refine lv_if_lt (tgt := 92) hx hb dX2_take_11 (by decide) (fun c_ => absurd c_ (by decide +kernel)) (fun _ => ?_)
  refine lv_iload hx hb dX2_take_14 (lv_at hl 1 rfl) ?_
  refine lv_iconst (v := 3) hx hb dX2_take_16 (by decide) ?_
  refine lv_icmp_ge (tgt := 92) hx hb dX2_take_17 (by decide) (fun c_ => absurd c_ (by decide +kernel)) (fun _ => ?_)
  refine lv_iload hx hb dX2_take_20 (lv_at hl 0 rfl) ?_
  refine lv_aload_n hx hb dX2_take_22 rfl (lv_at hl 3 rfl) ?_
  refine va_get (D := (dC, dI)) (ci := 6) (v := .int 0) (C := RX2) (T := TX2) (N := 3) hx hb hts hiX2 hown hK hP 0 rfl rfl 2 (by decide) (hts (.fieldLink RX2 19 "SquareRig$Hold" "casks" "I") (by decide +kernel)) (fun _ h9 => h9) rfl dX2_take_23 ?_
  refine lv_icmp_lt (tgt := 32) hx hb dX2_take_26 (by decide) (fun c_ => absurd c_ (by decide +kernel)) (fun _ => ?_)
  refine lv_goto (tgt := 86) hx hb dX2_take_29 (by decide) ?_
  refine lv_iinc (v := (-1)) (lv' := [(5, .int (-1)), (4, .int 0), (3, .int 24), (0, .ref hd), (1, .int 1), (2, .int 24)]) hx hb dX2_take_86 hl (k := 0) rfl (by decide +kernel) (by decide) rfl (fun ls hl => ?_)
  refine lv_goto (tgt := 9) hx hb dX2_take_89 (by decide) ?_
  refine lv_iload hx hb dX2_take_9 (lv_at hl 0 rfl) ?_
  refine lv_if_lt (tgt := 92) hx hb dX2_take_11 (by decide) (fun _ => ?_) (fun c_ => absurd (by decide +kernel) c_)
  refine lv_iload_n hx hb dX2_take_92 rfl (lv_at hl 2 rfl) ?_
  refine lv_if_ne (tgt := 100) hx hb dX2_take_93 (by decide) (fun _ => ?_) (fun c_ => absurd c_ (by decide +kernel))
  refine lv_iconst (v := 0) hx hb dX2_take_100 (by decide) ?_
  exact W.zret (v := 0) hx hb hr (by decide +kernel) (fun t ht hW => ⟨⟨0, (), rfl, rfl, kB_end (w9 := [(hd, .inr (6, [.ref hu, .ref hy, .int 0])), (hu, .inl (cU, 20, .inl (fun _ => 0))), (hy, .inl (cW, 20, .inl (fun _ => 0)))]) (t9 := []) hP hK hD [0, 1, 2] [] rfl (by decide) rfl rfl t ht hW⟩, hS.F ht⟩) hS.2.2 dX2_take_101
abbrev wd_k_endDay0 (z : Nat → Nat) (sh : Nat) (rg : Nat) (dk : Nat) (w0 : Nat) (w1 : Nat) (ol : Nat) (hd : Nat) (hu : Nat) (hy : Nat) (lg : Nat) (pl : Nat) (pr : Nat) (cU : ClassId) (cW : ClassId) (mi : Int32) (fo : Int32) (t0 : Int32) (k0 : Int32) (t1 : Int32) (k1 : Int32) : va_W := [(sh, .inr (13, [.ref rg, .ref dk, .ref hd, .ref lg, .ref pl, .ref pr, .int 0, .int 0, .int 0, .int 0, .int 0, .int mi, .int 0, .int 0, .int 0, .int fo, .int 0])), (dk, .inr (4, [.ref w0, .ref w1, .ref ol, .int 0, .int 0, .int 0, .int 0])), (w0, .inr (14, [.int t0, .int k0])), (w1, .inr (14, [.int t1, .int k1])), (hd, .inr (6, [.ref hu, .ref hy, .int 0])), (hu, .inl (cU, 20, .inl (fun _ => 0))), (hy, .inl (cW, 20, .inl (fun _ => 0)))]
set_option maxHeartbeats 4000000 in
set_option maxRecDepth 100000 in
theorem k_endDay0 (l : Launch) (dC : Nat → ClassId) (dI : Nat → Nat → Nat) (z zK zV : Nat → Nat) (sh : Nat) (rg : Nat) (dk : Nat) (w0 : Nat) (w1 : Nat) (ol : Nat) (hd : Nat) (hu : Nat) (hy : Nat) (lg : Nat) (pl : Nat) (pr : Nat) (cU : ClassId) (cW : ClassId) (mi : Int32) (fo : Int32) (t0 : Int32) (k0 : Int32) (t1 : Int32) (k1 : Int32) (sz : Nat)  : Met l yX9_endDay wsX9_endDay ({ frames := 2, cells := 0, slots := 0, locals := 41 }) (kP dC dI z zK zV [.ref sh] sz (wd_k_endDay0 z sh rg dk w0 w1 ol hd hu hy lg pl pr cU cW mi fo t0 k0 t1 k1) [(cU, .int), (cW, .boolean)]) (va_Qv (fun _ : Unit => True) (fun _ t => ∃ (u1 : Int32) (u2 : Int32) (u3 : Int32), kB (dC, dI) (va_A (wd_k_endDay0 z sh rg dk w0 w1 ol hd hu hy lg pl pr cU cW mi fo t0 k0 t1 k1) sz) [(sh, .inr (13, [.ref rg, .ref dk, .ref hd, .ref lg, .ref pl, .ref pr, .int 0, .int 0, .int 0, .int 0, .int 0, .int mi, .int 0, .int 0, .int 0, .int u1, .int 0])), (hd, .inr (6, [.ref hu, .ref hy, .int 0])), (hu, .inl (cU, 20, .inl (fun _ => 0))), (hy, .inl (cW, 20, .inl (fun _ => 0))), (dk, .inr (4, [.ref w0, .ref w1, .ref ol, .int 0, .int 0, .int 0, .int 0])), (w0, .inr (14, [.int t0, .int u2])), (w1, .inr (14, [.int t1, .int u3]))] [] t) (va_A (wd_k_endDay0 z sh rg dk w0 w1 ol hd hu hy lg pl pr cU cW mi fo t0 k0 t1 k1) sz)) 0 0 (va_A (wd_k_endDay0 z sh rg dk w0 w1 ol hd hu hy lg pl pr cU cW mi fo t0 k0 t1 k1) sz) := by
  refine Met.ofW (cc := cX9_endDay) (maxL := 3) (ret := none) (by decide) rfl ?_
  intro p e s m args below meth c s₁ B hml hv
  obtain ⟨rfl, hsz, hP, hK, hD0, hM⟩ := hv
  have hx := B.exec
  have hb := B.bytes
  have hr := B.returns
  have hts := atoms_spec (ws := wsX9_endDay) B.pre
  have hown : s.vm.findClass RX9 = some m.cls := findClass_of_methodNamed B.named
  have hlocks := B.notSynchronized
  have hiX9 : ∀ w ∈ u_ws RX9 TX9 17, w ∈ wsX9_endDay := by decide +kernel
  subst hsz
  have hD := hD0.self (sz := s.heap.size)
  generalize hAe : va_A (wd_k_endDay0 z sh rg dk w0 w1 ol hd hu hy lg pl pr cU cW mi fo t0 k0 t1 k1) s.heap.size = A at hD hM ⊢
  have hA : ∀ q : Nat, s.heap.size ≤ q → A q := fun q h => by rw [← hAe]; exact Or.inr h
  have hS : va_S A s.heap s.heap [] := va_S.rf
  have hP : va_P (dC, dI) vwCl [(sh, .inr (13, [.ref rg, .ref dk, .ref hd, .ref lg, .ref pl, .ref pr, .int 0, .int 0, .int 0, .int 0, .int 0, .int mi, .int 0, .int 0, .int 0, .int fo, .int 0])), (dk, .inr (4, [.ref w0, .ref w1, .ref ol, .int 0, .int 0, .int 0, .int 0])), (w0, .inr (14, [.int t0, .int k0])), (w1, .inr (14, [.int t1, .int k1])), (hd, .inr (6, [.ref hu, .ref hy, .int 0])), (hu, .inl (cU, 20, .inl (fun _ => 0))), (hy, .inl (cW, 20, .inl (fun _ => 0)))] s.heap := hP
  have hD : va_D A [(sh, .inr (13, [.ref rg, .ref dk, .ref hd, .ref lg, .ref pl, .ref pr, .int 0, .int 0, .int 0, .int 0, .int 0, .int mi, .int 0, .int 0, .int 0, .int fo, .int 0])), (dk, .inr (4, [.ref w0, .ref w1, .ref ol, .int 0, .int 0, .int 0, .int 0])), (w0, .inr (14, [.int t0, .int k0])), (w1, .inr (14, [.int t1, .int k1])), (hd, .inr (6, [.ref hu, .ref hy, .int 0])), (hu, .inl (cU, 20, .inl (fun _ => 0))), (hy, .inl (cW, 20, .inl (fun _ => 0)))] := hD
  have hl := lv_entry ([.ref sh]) (n := 3) (Nat.le_of_ble_eq_true rfl)
  rw [lg_entry_eq]
  generalize (lg_sl ([.ref sh]) ++ List.replicate (3 - (lg_sl ([.ref sh])).length) Slot.unset).toArray = ls at hl ⊢
  have hl : lv_has ls 3 [(0, .ref sh)] := hl
  refine lv_aload_n hx hb dX9_endDay_0 rfl (lv_at hl 0 rfl) ?_
  refine va_get (D := (dC, dI)) (ci := 13) (v := .ref hd) (C := RX9) (T := TX9) (N := 17) hx hb hts hiX9 hown hK hP 0 rfl rfl 2 (by decide) (hts (.fieldLink RX9 28 "SquareRig$Ship" "hold" "LSquareRig$Hold;") (by decide +kernel)) (fun _ h9 => h9) rfl dX9_endDay_1 ?_
  refine lv_iconst (v := 0) hx hb dX9_endDay_4 (by decide) ?_
  refine lv_bipush (v := 24) hx hb dX9_endDay_5 (by decide) ?_
  have hPc := hP.sub (ws' := [(hd, .inr (6, [.ref hu, .ref hy, .int 0])), (hu, .inl (cU, 20, .inl (fun _ => 0))), (hy, .inl (cW, 20, .inl (fun _ => 0)))]) [4, 5, 6] rfl
  have hDc := hD.sub (ws' := [(hd, .inr (6, [.ref hu, .ref hy, .int 0])), (hu, .inl (cU, 20, .inl (fun _ => 0))), (hy, .inl (cW, 20, .inl (fun _ => 0)))]) [4, 5, 6] (by decide) rfl
  have hKc := hK.sub (tys' := [(cU, .int), (cW, .boolean)]) [0, 1] rfl
  have hFc := va_free (wc := [(hd, .inr (6, [.ref hu, .ref hy, .int 0])), (hu, .inl (cU, 20, .inl (fun _ => 0))), (hy, .inl (cW, 20, .inl (fun _ => 0)))]) hD hS hA [4, 5, 6] rfl
  refine va_calli (va_runV (As := [.int 0, .int 24]) (rest := []) ⟨hx, hb, hml, hown, hts⟩ (k_take0 l dC dI z zK zV hd hu hy cU cW s.heap.size) (cwV 2 hts gX9_endDay_X2_take rfl rfl rfl (by decide +kernel) ⟨Nat.le_of_ble_eq_true rfl, Nat.le_of_ble_eq_true rfl⟩) ⟨kP_blind, va_recv hKc hPc (ci := 6) (q0 := 0) rfl rfl, kP_go hPc hKc hDc hFc hM hS⟩ rfl rfl hl.1 rfl (lv_room (Nat.le_of_ble_eq_true rfl)) dX9_endDay_7 ⟨Nat.le_of_ble_eq_true rfl, Nat.le_of_ble_eq_true rfl⟩) hS (fun q _ h => hFc q h) hFc (fun r1 u t H1 locs ht hvm hw hB hz1 hk1 hS => ?_)
  obtain ⟨hP, hD, hK⟩ := kJ (wr := [(sh, .inr (13, [.ref rg, .ref dk, .ref hd, .ref lg, .ref pl, .ref pr, .int 0, .int 0, .int 0, .int 0, .int 0, .int mi, .int 0, .int 0, .int 0, .int fo, .int 0])), (dk, .inr (4, [.ref w0, .ref w1, .ref ol, .int 0, .int 0, .int 0, .int 0])), (w0, .inr (14, [.int t0, .int k0])), (w1, .inr (14, [.int t1, .int k1]))]) (w1 := [(hd, .inr (6, [.ref hu, .ref hy, .int 0])), (hu, .inl (cU, 20, .inl (fun _ => 0))), (hy, .inl (cW, 20, .inl (fun _ => 0)))]) (t1 := []) hP hD hK [4, 5, 6] [0, 1, 2, 3] rfl rfl (by decide) (by decide) hk1 hFc ht hvm hB
  generalize H1 = H at hP hS ⊢
  have hP : va_P (dC, dI) vwCl [(sh, .inr (13, [.ref rg, .ref dk, .ref hd, .ref lg, .ref pl, .ref pr, .int 0, .int 0, .int 0, .int 0, .int 0, .int mi, .int 0, .int 0, .int 0, .int fo, .int 0])), (dk, .inr (4, [.ref w0, .ref w1, .ref ol, .int 0, .int 0, .int 0, .int 0])), (w0, .inr (14, [.int t0, .int k0])), (w1, .inr (14, [.int t1, .int k1])), (hd, .inr (6, [.ref hu, .ref hy, .int 0])), (hu, .inl (cU, 20, .inl (fun _ => 0))), (hy, .inl (cW, 20, .inl (fun _ => 0)))] H := hP
  have hD : va_D A [(sh, .inr (13, [.ref rg, .ref dk, .ref hd, .ref lg, .ref pl, .ref pr, .int 0, .int 0, .int 0, .int 0, .int 0, .int mi, .int 0, .int 0, .int 0, .int fo, .int 0])), (dk, .inr (4, [.ref w0, .ref w1, .ref ol, .int 0, .int 0, .int 0, .int 0])), (w0, .inr (14, [.int t0, .int k0])), (w1, .inr (14, [.int t1, .int k1])), (hd, .inr (6, [.ref hu, .ref hy, .int 0])), (hu, .inl (cU, 20, .inl (fun _ => 0))), (hy, .inl (cW, 20, .inl (fun _ => 0)))] := hD
  have hK : va_K (dC, dI) vwCl [(cU, .int), (cW, .boolean)] s := hK
  obtain rfl : 0 = r1 := hw
  refine lv_istore_n (lv' := [(1, .int 0), (0, .ref sh)]) hx hb dX9_endDay_10 rfl hl (by decide) rfl (fun ls hl => ?_)
  refine lv_aload_n hx hb dX9_endDay_11 rfl (lv_at hl 1 rfl) ?_
  refine va_get (D := (dC, dI)) (ci := 13) (v := .ref hd) (C := RX9) (T := TX9) (N := 17) hx hb hts hiX9 hown hK hP 0 rfl rfl 2 (by decide) (hts (.fieldLink RX9 28 "SquareRig$Ship" "hold" "LSquareRig$Hold;") (by decide +kernel)) (fun _ h9 => h9) rfl dX9_endDay_12 ?_
  refine lv_iconst (v := 1) hx hb dX9_endDay_15 (by decide) ?_
  refine lv_bipush (v := 24) hx hb dX9_endDay_16 (by decide) ?_
  have hPc := hP.sub (ws' := [(hd, .inr (6, [.ref hu, .ref hy, .int 0])), (hu, .inl (cU, 20, .inl (fun _ => 0))), (hy, .inl (cW, 20, .inl (fun _ => 0)))]) [4, 5, 6] rfl
  have hDc := hD.sub (ws' := [(hd, .inr (6, [.ref hu, .ref hy, .int 0])), (hu, .inl (cU, 20, .inl (fun _ => 0))), (hy, .inl (cW, 20, .inl (fun _ => 0)))]) [4, 5, 6] (by decide) rfl
  have hKc := hK.sub (tys' := [(cU, .int), (cW, .boolean)]) [0, 1] rfl
  have hFc := va_free (wc := [(hd, .inr (6, [.ref hu, .ref hy, .int 0])), (hu, .inl (cU, 20, .inl (fun _ => 0))), (hy, .inl (cW, 20, .inl (fun _ => 0)))]) hD hS hA [4, 5, 6] rfl
  refine va_calli (va_runV (As := [.int 1, .int 24]) (rest := []) ⟨hx, hb, hml, hown, hts⟩ (k_take1 l dC dI z zK zV hd hu hy cU cW H.size) (cwV 2 hts gX9_endDay_X2_take rfl rfl rfl (by decide +kernel) ⟨Nat.le_of_ble_eq_true rfl, Nat.le_of_ble_eq_true rfl⟩) ⟨kP_blind, va_recv hKc hPc (ci := 6) (q0 := 0) rfl rfl, kP_go hPc hKc hDc hFc hM hS⟩ rfl rfl hl.1 rfl (lv_room (Nat.le_of_ble_eq_true rfl)) dX9_endDay_18 ⟨Nat.le_of_ble_eq_true rfl, Nat.le_of_ble_eq_true rfl⟩) hS (fun q _ h => hFc q h) hFc (fun r2 u t H1 locs ht hvm hw hB hz1 hk1 hS => ?_)
  obtain ⟨hP, hD, hK⟩ := kJ (wr := [(sh, .inr (13, [.ref rg, .ref dk, .ref hd, .ref lg, .ref pl, .ref pr, .int 0, .int 0, .int 0, .int 0, .int 0, .int mi, .int 0, .int 0, .int 0, .int fo, .int 0])), (dk, .inr (4, [.ref w0, .ref w1, .ref ol, .int 0, .int 0, .int 0, .int 0])), (w0, .inr (14, [.int t0, .int k0])), (w1, .inr (14, [.int t1, .int k1]))]) (w1 := [(hd, .inr (6, [.ref hu, .ref hy, .int 0])), (hu, .inl (cU, 20, .inl (fun _ => 0))), (hy, .inl (cW, 20, .inl (fun _ => 0)))]) (t1 := []) hP hD hK [4, 5, 6] [0, 1, 2, 3] rfl rfl (by decide) (by decide) hk1 hFc ht hvm hB
  generalize H1 = H at hP hS ⊢
  have hP : va_P (dC, dI) vwCl [(sh, .inr (13, [.ref rg, .ref dk, .ref hd, .ref lg, .ref pl, .ref pr, .int 0, .int 0, .int 0, .int 0, .int 0, .int mi, .int 0, .int 0, .int 0, .int fo, .int 0])), (dk, .inr (4, [.ref w0, .ref w1, .ref ol, .int 0, .int 0, .int 0, .int 0])), (w0, .inr (14, [.int t0, .int k0])), (w1, .inr (14, [.int t1, .int k1])), (hd, .inr (6, [.ref hu, .ref hy, .int 0])), (hu, .inl (cU, 20, .inl (fun _ => 0))), (hy, .inl (cW, 20, .inl (fun _ => 0)))] H := hP
  have hD : va_D A [(sh, .inr (13, [.ref rg, .ref dk, .ref hd, .ref lg, .ref pl, .ref pr, .int 0, .int 0, .int 0, .int 0, .int 0, .int mi, .int 0, .int 0, .int 0, .int fo, .int 0])), (dk, .inr (4, [.ref w0, .ref w1, .ref ol, .int 0, .int 0, .int 0, .int 0])), (w0, .inr (14, [.int t0, .int k0])), (w1, .inr (14, [.int t1, .int k1])), (hd, .inr (6, [.ref hu, .ref hy, .int 0])), (hu, .inl (cU, 20, .inl (fun _ => 0))), (hy, .inl (cW, 20, .inl (fun _ => 0)))] := hD
  have hK : va_K (dC, dI) vwCl [(cU, .int), (cW, .boolean)] s := hK
  obtain rfl : 0 = r2 := hw
  refine lv_istore_n (lv' := [(2, .int 0), (1, .int 0), (0, .ref sh)]) hx hb dX9_endDay_21 rfl hl (by decide) rfl (fun ls hl => ?_)
  refine lv_aload_n hx hb dX9_endDay_22 rfl (lv_at hl 2 rfl) ?_
  refine va_get (D := (dC, dI)) (ci := 13) (v := .ref dk) (C := RX9) (T := TX9) (N := 17) hx hb hts hiX9 hown hK hP 0 rfl rfl 1 (by decide) (hts (.fieldLink RX9 21 "SquareRig$Ship" "deck" "LSquareRig$Deck;") (by decide +kernel)) (fun _ h9 => h9) rfl dX9_endDay_23 ?_
  refine lv_iload_n hx hb dX9_endDay_26 rfl (lv_at hl 1 rfl) ?_
  refine lv_if_eq (tgt := 38) hx hb dX9_endDay_27 (by decide) (fun _ => ?_) (fun c_ => absurd (by decide +kernel) c_)
  refine lv_iconst (v := 0) hx hb dX9_endDay_38 (by decide) ?_
  have hPc := hP.sub (ws' := [(dk, .inr (4, [.ref w0, .ref w1, .ref ol, .int 0, .int 0, .int 0, .int 0])), (w0, .inr (14, [.int t0, .int k0])), (w1, .inr (14, [.int t1, .int k1]))]) [1, 2, 3] rfl
  have hDc := hD.sub (ws' := [(dk, .inr (4, [.ref w0, .ref w1, .ref ol, .int 0, .int 0, .int 0, .int 0])), (w0, .inr (14, [.int t0, .int k0])), (w1, .inr (14, [.int t1, .int k1]))]) [1, 2, 3] (by decide) rfl
  have hKc := hK.sub (tys' := []) [] rfl
  have hFc := va_free (wc := [(dk, .inr (4, [.ref w0, .ref w1, .ref ol, .int 0, .int 0, .int 0, .int 0])), (w0, .inr (14, [.int t0, .int k0])), (w1, .inr (14, [.int t1, .int k1]))]) hD hS hA [1, 2, 3] rfl
  refine va_callv (va_runV (As := [.int 0]) (rest := []) ⟨hx, hb, hml, hown, hts⟩ (k_dkEndDay0 l dC dI z zK zV dk w0 w1 ol t0 k0 t1 k1 H.size) (cwV 1 hts gX9_endDay_X0_endDay rfl rfl rfl (by decide +kernel) ⟨Nat.le_of_ble_eq_true rfl, Nat.le_of_ble_eq_true rfl⟩) ⟨kP_blind, va_recv hKc hPc (ci := 4) (q0 := 0) rfl rfl, kP_go hPc hKc hDc hFc hM hS⟩ rfl rfl hl.1 rfl (lv_room (Nat.le_of_ble_eq_true rfl)) dX9_endDay_39 ⟨Nat.le_of_ble_eq_true rfl, Nat.le_of_ble_eq_true rfl⟩) hS (fun q _ h => hFc q h) hFc (fun u t H1 locs ht hvm hw hB hz1 hk1 hS => ?_)
  obtain ⟨u3, u4, hB⟩ := hB
  obtain ⟨hP, hD, hK⟩ := kJ (wr := [(sh, .inr (13, [.ref rg, .ref dk, .ref hd, .ref lg, .ref pl, .ref pr, .int 0, .int 0, .int 0, .int 0, .int 0, .int mi, .int 0, .int 0, .int 0, .int fo, .int 0])), (hd, .inr (6, [.ref hu, .ref hy, .int 0])), (hu, .inl (cU, 20, .inl (fun _ => 0))), (hy, .inl (cW, 20, .inl (fun _ => 0)))]) (w1 := [(dk, .inr (4, [.ref w0, .ref w1, .ref ol, .int 0, .int 0, .int 0, .int 0])), (w0, .inr (14, [.int t0, .int u3])), (w1, .inr (14, [.int t1, .int u4]))]) (t1 := []) hP hD hK [1, 2, 3] [0, 4, 5, 6] rfl rfl (by decide) (by decide) hk1 hFc ht hvm hB
  generalize H1 = H at hP hS ⊢
  have hP : va_P (dC, dI) vwCl [(sh, .inr (13, [.ref rg, .ref dk, .ref hd, .ref lg, .ref pl, .ref pr, .int 0, .int 0, .int 0, .int 0, .int 0, .int mi, .int 0, .int 0, .int 0, .int fo, .int 0])), (hd, .inr (6, [.ref hu, .ref hy, .int 0])), (hu, .inl (cU, 20, .inl (fun _ => 0))), (hy, .inl (cW, 20, .inl (fun _ => 0))), (dk, .inr (4, [.ref w0, .ref w1, .ref ol, .int 0, .int 0, .int 0, .int 0])), (w0, .inr (14, [.int t0, .int u3])), (w1, .inr (14, [.int t1, .int u4]))] H := hP
  have hD : va_D A [(sh, .inr (13, [.ref rg, .ref dk, .ref hd, .ref lg, .ref pl, .ref pr, .int 0, .int 0, .int 0, .int 0, .int 0, .int mi, .int 0, .int 0, .int 0, .int fo, .int 0])), (hd, .inr (6, [.ref hu, .ref hy, .int 0])), (hu, .inl (cU, 20, .inl (fun _ => 0))), (hy, .inl (cW, 20, .inl (fun _ => 0))), (dk, .inr (4, [.ref w0, .ref w1, .ref ol, .int 0, .int 0, .int 0, .int 0])), (w0, .inr (14, [.int t0, .int u3])), (w1, .inr (14, [.int t1, .int u4]))] := hD
  have hK : va_K (dC, dI) vwCl [(cU, .int), (cW, .boolean)] s := hK
  clear hw
  refine lv_aload_n hx hb dX9_endDay_42 rfl (lv_at hl 2 rfl) ?_
  refine lv_dup hx hb dX9_endDay_43 rfl ?_
  refine va_get (D := (dC, dI)) (ci := 13) (v := .int fo) (C := RX9) (T := TX9) (N := 17) hx hb hts hiX9 hown hK hP 0 rfl rfl 15 (by decide) (hts (.fieldLink RX9 77 "SquareRig$Ship" "foulness" "I") (by decide +kernel)) (fun _ h9 => h9) rfl dX9_endDay_44 ?_
  refine lv_iconst (v := 1) hx hb dX9_endDay_47 (by decide) ?_
  refine lv_iadd hx hb dX9_endDay_48 ?_
  refine va_put (D := (dC, dI)) (ci := 13) (v := .int (fo + 1)) (ty := .int) (C := RX9) (T := TX9) (N := 17) hx hb hts hiX9 tyX9 tyX9_ok nmX9 hown hK hP hD hS 0 rfl rfl 15 (by decide) (hts (.fieldLink RX9 77 "SquareRig$Ship" "foulness" "I") (by decide +kernel)) (fun _ h9 => h9) rfl (by decide +kernel) rfl rfl (Nat.le_of_ble_eq_true rfl) dX9_endDay_49 (fun H locs hP hD hS => ?_)
  have hP : va_P (dC, dI) vwCl [(sh, .inr (13, [.ref rg, .ref dk, .ref hd, .ref lg, .ref pl, .ref pr, .int 0, .int 0, .int 0, .int 0, .int 0, .int mi, .int 0, .int 0, .int 0, .int (fo + 1), .int 0])), (hd, .inr (6, [.ref hu, .ref hy, .int 0])), (hu, .inl (cU, 20, .inl (fun _ => 0))), (hy, .inl (cW, 20, .inl (fun _ => 0))), (dk, .inr (4, [.ref w0, .ref w1, .ref ol, .int 0, .int 0, .int 0, .int 0])), (w0, .inr (14, [.int t0, .int u3])), (w1, .inr (14, [.int t1, .int u4]))] H := hP
  have hD : va_D A [(sh, .inr (13, [.ref rg, .ref dk, .ref hd, .ref lg, .ref pl, .ref pr, .int 0, .int 0, .int 0, .int 0, .int 0, .int mi, .int 0, .int 0, .int 0, .int (fo + 1), .int 0])), (hd, .inr (6, [.ref hu, .ref hy, .int 0])), (hu, .inl (cU, 20, .inl (fun _ => 0))), (hy, .inl (cW, 20, .inl (fun _ => 0))), (dk, .inr (4, [.ref w0, .ref w1, .ref ol, .int 0, .int 0, .int 0, .int 0])), (w0, .inr (14, [.int t0, .int u3])), (w1, .inr (14, [.int t1, .int u4]))] := hD
  exact W.vret hx hb hr (fun t ht hW => ⟨⟨(), rfl, trivial, ⟨(fo + 1), u3, u4, kB_end (w9 := [(sh, .inr (13, [.ref rg, .ref dk, .ref hd, .ref lg, .ref pl, .ref pr, .int 0, .int 0, .int 0, .int 0, .int 0, .int mi, .int 0, .int 0, .int 0, .int (fo + 1), .int 0])), (hd, .inr (6, [.ref hu, .ref hy, .int 0])), (hu, .inl (cU, 20, .inl (fun _ => 0))), (hy, .inl (cW, 20, .inl (fun _ => 0))), (dk, .inr (4, [.ref w0, .ref w1, .ref ol, .int 0, .int 0, .int 0, .int 0])), (w0, .inr (14, [.int t0, .int u3])), (w1, .inr (14, [.int t1, .int u4]))]) (t9 := []) hP hK hD [0, 1, 2, 3, 4, 5, 6] [] rfl (by decide) rfl rfl t ht hW⟩⟩, hS.F ht⟩) hS.2.2 dX9_endDay_52
abbrev wd_k_endDay1 (z : Nat → Nat) (sh : Nat) (rg : Nat) (dk : Nat) (w0 : Nat) (w1 : Nat) (ol : Nat) (hd : Nat) (hu : Nat) (hy : Nat) (lg : Nat) (pl : Nat) (pr : Nat) (cU : ClassId) (cW : ClassId) (mi : Int32) (fo : Int32) (t0 : Int32) (k0 : Int32) (t1 : Int32) (k1 : Int32) : va_W := [(sh, .inr (13, [.ref rg, .ref dk, .ref hd, .ref lg, .ref pl, .ref pr, .int 0, .int 0, .int 0, .int 0, .int 0, .int mi, .int 0, .int 0, .int 0, .int fo, .int 0])), (dk, .inr (4, [.ref w0, .ref w1, .ref ol, .int 1, .int 0, .int 0, .int 0])), (w0, .inr (14, [.int t0, .int k0])), (w1, .inr (14, [.int t1, .int k1])), (hd, .inr (6, [.ref hu, .ref hy, .int 0])), (hu, .inl (cU, 20, .inl (fun _ => 0))), (hy, .inl (cW, 20, .inl (fun _ => 0)))]
set_option maxHeartbeats 4000000 in
set_option maxRecDepth 100000 in
theorem k_endDay1 (l : Launch) (dC : Nat → ClassId) (dI : Nat → Nat → Nat) (z zK zV : Nat → Nat) (sh : Nat) (rg : Nat) (dk : Nat) (w0 : Nat) (w1 : Nat) (ol : Nat) (hd : Nat) (hu : Nat) (hy : Nat) (lg : Nat) (pl : Nat) (pr : Nat) (cU : ClassId) (cW : ClassId) (mi : Int32) (fo : Int32) (t0 : Int32) (k0 : Int32) (t1 : Int32) (k1 : Int32) (sz : Nat)  : Met l yX9_endDay wsX9_endDay ({ frames := 2, cells := 0, slots := 0, locals := 41 }) (kP dC dI z zK zV [.ref sh] sz (wd_k_endDay1 z sh rg dk w0 w1 ol hd hu hy lg pl pr cU cW mi fo t0 k0 t1 k1) [(cU, .int), (cW, .boolean)]) (va_Qv (fun _ : Unit => True) (fun _ t => ∃ (u1 : Int32) (u2 : Int32) (u3 : Int32), kB (dC, dI) (va_A (wd_k_endDay1 z sh rg dk w0 w1 ol hd hu hy lg pl pr cU cW mi fo t0 k0 t1 k1) sz) [(sh, .inr (13, [.ref rg, .ref dk, .ref hd, .ref lg, .ref pl, .ref pr, .int 0, .int 0, .int 0, .int 0, .int 0, .int mi, .int 0, .int 0, .int 0, .int u1, .int 0])), (hd, .inr (6, [.ref hu, .ref hy, .int 0])), (hu, .inl (cU, 20, .inl (fun _ => 0))), (hy, .inl (cW, 20, .inl (fun _ => 0))), (dk, .inr (4, [.ref w0, .ref w1, .ref ol, .int 1, .int 0, .int 0, .int 0])), (w0, .inr (14, [.int t0, .int u2])), (w1, .inr (14, [.int t1, .int u3]))] [] t) (va_A (wd_k_endDay1 z sh rg dk w0 w1 ol hd hu hy lg pl pr cU cW mi fo t0 k0 t1 k1) sz)) 0 0 (va_A (wd_k_endDay1 z sh rg dk w0 w1 ol hd hu hy lg pl pr cU cW mi fo t0 k0 t1 k1) sz) := by
  refine Met.ofW (cc := cX9_endDay) (maxL := 3) (ret := none) (by decide) rfl ?_
  intro p e s m args below meth c s₁ B hml hv
  obtain ⟨rfl, hsz, hP, hK, hD0, hM⟩ := hv
  have hx := B.exec
  have hb := B.bytes
  have hr := B.returns
  have hts := atoms_spec (ws := wsX9_endDay) B.pre
  have hown : s.vm.findClass RX9 = some m.cls := findClass_of_methodNamed B.named
  have hlocks := B.notSynchronized
  have hiX9 : ∀ w ∈ u_ws RX9 TX9 17, w ∈ wsX9_endDay := by decide +kernel
  subst hsz
  have hD := hD0.self (sz := s.heap.size)
  generalize hAe : va_A (wd_k_endDay1 z sh rg dk w0 w1 ol hd hu hy lg pl pr cU cW mi fo t0 k0 t1 k1) s.heap.size = A at hD hM ⊢
  have hA : ∀ q : Nat, s.heap.size ≤ q → A q := fun q h => by rw [← hAe]; exact Or.inr h
  have hS : va_S A s.heap s.heap [] := va_S.rf
  have hP : va_P (dC, dI) vwCl [(sh, .inr (13, [.ref rg, .ref dk, .ref hd, .ref lg, .ref pl, .ref pr, .int 0, .int 0, .int 0, .int 0, .int 0, .int mi, .int 0, .int 0, .int 0, .int fo, .int 0])), (dk, .inr (4, [.ref w0, .ref w1, .ref ol, .int 1, .int 0, .int 0, .int 0])), (w0, .inr (14, [.int t0, .int k0])), (w1, .inr (14, [.int t1, .int k1])), (hd, .inr (6, [.ref hu, .ref hy, .int 0])), (hu, .inl (cU, 20, .inl (fun _ => 0))), (hy, .inl (cW, 20, .inl (fun _ => 0)))] s.heap := hP
  have hD : va_D A [(sh, .inr (13, [.ref rg, .ref dk, .ref hd, .ref lg, .ref pl, .ref pr, .int 0, .int 0, .int 0, .int 0, .int 0, .int mi, .int 0, .int 0, .int 0, .int fo, .int 0])), (dk, .inr (4, [.ref w0, .ref w1, .ref ol, .int 1, .int 0, .int 0, .int 0])), (w0, .inr (14, [.int t0, .int k0])), (w1, .inr (14, [.int t1, .int k1])), (hd, .inr (6, [.ref hu, .ref hy, .int 0])), (hu, .inl (cU, 20, .inl (fun _ => 0))), (hy, .inl (cW, 20, .inl (fun _ => 0)))] := hD
  have hl := lv_entry ([.ref sh]) (n := 3) (Nat.le_of_ble_eq_true rfl)
  rw [lg_entry_eq]
  generalize (lg_sl ([.ref sh]) ++ List.replicate (3 - (lg_sl ([.ref sh])).length) Slot.unset).toArray = ls at hl ⊢
  have hl : lv_has ls 3 [(0, .ref sh)] := hl
  refine lv_aload_n hx hb dX9_endDay_0 rfl (lv_at hl 0 rfl) ?_
  refine va_get (D := (dC, dI)) (ci := 13) (v := .ref hd) (C := RX9) (T := TX9) (N := 17) hx hb hts hiX9 hown hK hP 0 rfl rfl 2 (by decide) (hts (.fieldLink RX9 28 "SquareRig$Ship" "hold" "LSquareRig$Hold;") (by decide +kernel)) (fun _ h9 => h9) rfl dX9_endDay_1 ?_
  refine lv_iconst (v := 0) hx hb dX9_endDay_4 (by decide) ?_
  refine lv_bipush (v := 24) hx hb dX9_endDay_5 (by decide) ?_
  have hPc := hP.sub (ws' := [(hd, .inr (6, [.ref hu, .ref hy, .int 0])), (hu, .inl (cU, 20, .inl (fun _ => 0))), (hy, .inl (cW, 20, .inl (fun _ => 0)))]) [4, 5, 6] rfl
  have hDc := hD.sub (ws' := [(hd, .inr (6, [.ref hu, .ref hy, .int 0])), (hu, .inl (cU, 20, .inl (fun _ => 0))), (hy, .inl (cW, 20, .inl (fun _ => 0)))]) [4, 5, 6] (by decide) rfl
  have hKc := hK.sub (tys' := [(cU, .int), (cW, .boolean)]) [0, 1] rfl
  have hFc := va_free (wc := [(hd, .inr (6, [.ref hu, .ref hy, .int 0])), (hu, .inl (cU, 20, .inl (fun _ => 0))), (hy, .inl (cW, 20, .inl (fun _ => 0)))]) hD hS hA [4, 5, 6] rfl
  refine va_calli (va_runV (As := [.int 0, .int 24]) (rest := []) ⟨hx, hb, hml, hown, hts⟩ (k_take0 l dC dI z zK zV hd hu hy cU cW s.heap.size) (cwV 2 hts gX9_endDay_X2_take rfl rfl rfl (by decide +kernel) ⟨Nat.le_of_ble_eq_true rfl, Nat.le_of_ble_eq_true rfl⟩) ⟨kP_blind, va_recv hKc hPc (ci := 6) (q0 := 0) rfl rfl, kP_go hPc hKc hDc hFc hM hS⟩ rfl rfl hl.1 rfl (lv_room (Nat.le_of_ble_eq_true rfl)) dX9_endDay_7 ⟨Nat.le_of_ble_eq_true rfl, Nat.le_of_ble_eq_true rfl⟩) hS (fun q _ h => hFc q h) hFc (fun r1 u t H1 locs ht hvm hw hB hz1 hk1 hS => ?_)
  obtain ⟨hP, hD, hK⟩ := kJ (wr := [(sh, .inr (13, [.ref rg, .ref dk, .ref hd, .ref lg, .ref pl, .ref pr, .int 0, .int 0, .int 0, .int 0, .int 0, .int mi, .int 0, .int 0, .int 0, .int fo, .int 0])), (dk, .inr (4, [.ref w0, .ref w1, .ref ol, .int 1, .int 0, .int 0, .int 0])), (w0, .inr (14, [.int t0, .int k0])), (w1, .inr (14, [.int t1, .int k1]))]) (w1 := [(hd, .inr (6, [.ref hu, .ref hy, .int 0])), (hu, .inl (cU, 20, .inl (fun _ => 0))), (hy, .inl (cW, 20, .inl (fun _ => 0)))]) (t1 := []) hP hD hK [4, 5, 6] [0, 1, 2, 3] rfl rfl (by decide) (by decide) hk1 hFc ht hvm hB
  generalize H1 = H at hP hS ⊢
  have hP : va_P (dC, dI) vwCl [(sh, .inr (13, [.ref rg, .ref dk, .ref hd, .ref lg, .ref pl, .ref pr, .int 0, .int 0, .int 0, .int 0, .int 0, .int mi, .int 0, .int 0, .int 0, .int fo, .int 0])), (dk, .inr (4, [.ref w0, .ref w1, .ref ol, .int 1, .int 0, .int 0, .int 0])), (w0, .inr (14, [.int t0, .int k0])), (w1, .inr (14, [.int t1, .int k1])), (hd, .inr (6, [.ref hu, .ref hy, .int 0])), (hu, .inl (cU, 20, .inl (fun _ => 0))), (hy, .inl (cW, 20, .inl (fun _ => 0)))] H := hP
  have hD : va_D A [(sh, .inr (13, [.ref rg, .ref dk, .ref hd, .ref lg, .ref pl, .ref pr, .int 0, .int 0, .int 0, .int 0, .int 0, .int mi, .int 0, .int 0, .int 0, .int fo, .int 0])), (dk, .inr (4, [.ref w0, .ref w1, .ref ol, .int 1, .int 0, .int 0, .int 0])), (w0, .inr (14, [.int t0, .int k0])), (w1, .inr (14, [.int t1, .int k1])), (hd, .inr (6, [.ref hu, .ref hy, .int 0])), (hu, .inl (cU, 20, .inl (fun _ => 0))), (hy, .inl (cW, 20, .inl (fun _ => 0)))] := hD
  have hK : va_K (dC, dI) vwCl [(cU, .int), (cW, .boolean)] s := hK
  obtain rfl : 0 = r1 := hw
  refine lv_istore_n (lv' := [(1, .int 0), (0, .ref sh)]) hx hb dX9_endDay_10 rfl hl (by decide) rfl (fun ls hl => ?_)
  refine lv_aload_n hx hb dX9_endDay_11 rfl (lv_at hl 1 rfl) ?_
  refine va_get (D := (dC, dI)) (ci := 13) (v := .ref hd) (C := RX9) (T := TX9) (N := 17) hx hb hts hiX9 hown hK hP 0 rfl rfl 2 (by decide) (hts (.fieldLink RX9 28 "SquareRig$Ship" "hold" "LSquareRig$Hold;") (by decide +kernel)) (fun _ h9 => h9) rfl dX9_endDay_12 ?_
  refine lv_iconst (v := 1) hx hb dX9_endDay_15 (by decide) ?_
  refine lv_bipush (v := 24) hx hb dX9_endDay_16 (by decide) ?_
  have hPc := hP.sub (ws' := [(hd, .inr (6, [.ref hu, .ref hy, .int 0])), (hu, .inl (cU, 20, .inl (fun _ => 0))), (hy, .inl (cW, 20, .inl (fun _ => 0)))]) [4, 5, 6] rfl
  have hDc := hD.sub (ws' := [(hd, .inr (6, [.ref hu, .ref hy, .int 0])), (hu, .inl (cU, 20, .inl (fun _ => 0))), (hy, .inl (cW, 20, .inl (fun _ => 0)))]) [4, 5, 6] (by decide) rfl
  have hKc := hK.sub (tys' := [(cU, .int), (cW, .boolean)]) [0, 1] rfl
  have hFc := va_free (wc := [(hd, .inr (6, [.ref hu, .ref hy, .int 0])), (hu, .inl (cU, 20, .inl (fun _ => 0))), (hy, .inl (cW, 20, .inl (fun _ => 0)))]) hD hS hA [4, 5, 6] rfl
  refine va_calli (va_runV (As := [.int 1, .int 24]) (rest := []) ⟨hx, hb, hml, hown, hts⟩ (k_take1 l dC dI z zK zV hd hu hy cU cW H.size) (cwV 2 hts gX9_endDay_X2_take rfl rfl rfl (by decide +kernel) ⟨Nat.le_of_ble_eq_true rfl, Nat.le_of_ble_eq_true rfl⟩) ⟨kP_blind, va_recv hKc hPc (ci := 6) (q0 := 0) rfl rfl, kP_go hPc hKc hDc hFc hM hS⟩ rfl rfl hl.1 rfl (lv_room (Nat.le_of_ble_eq_true rfl)) dX9_endDay_18 ⟨Nat.le_of_ble_eq_true rfl, Nat.le_of_ble_eq_true rfl⟩) hS (fun q _ h => hFc q h) hFc (fun r2 u t H1 locs ht hvm hw hB hz1 hk1 hS => ?_)
  obtain ⟨hP, hD, hK⟩ := kJ (wr := [(sh, .inr (13, [.ref rg, .ref dk, .ref hd, .ref lg, .ref pl, .ref pr, .int 0, .int 0, .int 0, .int 0, .int 0, .int mi, .int 0, .int 0, .int 0, .int fo, .int 0])), (dk, .inr (4, [.ref w0, .ref w1, .ref ol, .int 1, .int 0, .int 0, .int 0])), (w0, .inr (14, [.int t0, .int k0])), (w1, .inr (14, [.int t1, .int k1]))]) (w1 := [(hd, .inr (6, [.ref hu, .ref hy, .int 0])), (hu, .inl (cU, 20, .inl (fun _ => 0))), (hy, .inl (cW, 20, .inl (fun _ => 0)))]) (t1 := []) hP hD hK [4, 5, 6] [0, 1, 2, 3] rfl rfl (by decide) (by decide) hk1 hFc ht hvm hB
  generalize H1 = H at hP hS ⊢
  have hP : va_P (dC, dI) vwCl [(sh, .inr (13, [.ref rg, .ref dk, .ref hd, .ref lg, .ref pl, .ref pr, .int 0, .int 0, .int 0, .int 0, .int 0, .int mi, .int 0, .int 0, .int 0, .int fo, .int 0])), (dk, .inr (4, [.ref w0, .ref w1, .ref ol, .int 1, .int 0, .int 0, .int 0])), (w0, .inr (14, [.int t0, .int k0])), (w1, .inr (14, [.int t1, .int k1])), (hd, .inr (6, [.ref hu, .ref hy, .int 0])), (hu, .inl (cU, 20, .inl (fun _ => 0))), (hy, .inl (cW, 20, .inl (fun _ => 0)))] H := hP
  have hD : va_D A [(sh, .inr (13, [.ref rg, .ref dk, .ref hd, .ref lg, .ref pl, .ref pr, .int 0, .int 0, .int 0, .int 0, .int 0, .int mi, .int 0, .int 0, .int 0, .int fo, .int 0])), (dk, .inr (4, [.ref w0, .ref w1, .ref ol, .int 1, .int 0, .int 0, .int 0])), (w0, .inr (14, [.int t0, .int k0])), (w1, .inr (14, [.int t1, .int k1])), (hd, .inr (6, [.ref hu, .ref hy, .int 0])), (hu, .inl (cU, 20, .inl (fun _ => 0))), (hy, .inl (cW, 20, .inl (fun _ => 0)))] := hD
  have hK : va_K (dC, dI) vwCl [(cU, .int), (cW, .boolean)] s := hK
  obtain rfl : 0 = r2 := hw
  refine lv_istore_n (lv' := [(2, .int 0), (1, .int 0), (0, .ref sh)]) hx hb dX9_endDay_21 rfl hl (by decide) rfl (fun ls hl => ?_)
  refine lv_aload_n hx hb dX9_endDay_22 rfl (lv_at hl 2 rfl) ?_
  refine va_get (D := (dC, dI)) (ci := 13) (v := .ref dk) (C := RX9) (T := TX9) (N := 17) hx hb hts hiX9 hown hK hP 0 rfl rfl 1 (by decide) (hts (.fieldLink RX9 21 "SquareRig$Ship" "deck" "LSquareRig$Deck;") (by decide +kernel)) (fun _ h9 => h9) rfl dX9_endDay_23 ?_
  refine lv_iload_n hx hb dX9_endDay_26 rfl (lv_at hl 1 rfl) ?_
  refine lv_if_eq (tgt := 38) hx hb dX9_endDay_27 (by decide) (fun _ => ?_) (fun c_ => absurd (by decide +kernel) c_)
  refine lv_iconst (v := 0) hx hb dX9_endDay_38 (by decide) ?_
  have hPc := hP.sub (ws' := [(dk, .inr (4, [.ref w0, .ref w1, .ref ol, .int 1, .int 0, .int 0, .int 0])), (w0, .inr (14, [.int t0, .int k0])), (w1, .inr (14, [.int t1, .int k1]))]) [1, 2, 3] rfl
  have hDc := hD.sub (ws' := [(dk, .inr (4, [.ref w0, .ref w1, .ref ol, .int 1, .int 0, .int 0, .int 0])), (w0, .inr (14, [.int t0, .int k0])), (w1, .inr (14, [.int t1, .int k1]))]) [1, 2, 3] (by decide) rfl
  have hKc := hK.sub (tys' := []) [] rfl
  have hFc := va_free (wc := [(dk, .inr (4, [.ref w0, .ref w1, .ref ol, .int 1, .int 0, .int 0, .int 0])), (w0, .inr (14, [.int t0, .int k0])), (w1, .inr (14, [.int t1, .int k1]))]) hD hS hA [1, 2, 3] rfl
  refine va_callv (va_runV (As := [.int 0]) (rest := []) ⟨hx, hb, hml, hown, hts⟩ (k_dkEndDay1 l dC dI z zK zV dk w0 w1 ol t0 k0 t1 k1 H.size) (cwV 1 hts gX9_endDay_X0_endDay rfl rfl rfl (by decide +kernel) ⟨Nat.le_of_ble_eq_true rfl, Nat.le_of_ble_eq_true rfl⟩) ⟨kP_blind, va_recv hKc hPc (ci := 4) (q0 := 0) rfl rfl, kP_go hPc hKc hDc hFc hM hS⟩ rfl rfl hl.1 rfl (lv_room (Nat.le_of_ble_eq_true rfl)) dX9_endDay_39 ⟨Nat.le_of_ble_eq_true rfl, Nat.le_of_ble_eq_true rfl⟩) hS (fun q _ h => hFc q h) hFc (fun u t H1 locs ht hvm hw hB hz1 hk1 hS => ?_)
  obtain ⟨u3, u4, hB⟩ := hB
  obtain ⟨hP, hD, hK⟩ := kJ (wr := [(sh, .inr (13, [.ref rg, .ref dk, .ref hd, .ref lg, .ref pl, .ref pr, .int 0, .int 0, .int 0, .int 0, .int 0, .int mi, .int 0, .int 0, .int 0, .int fo, .int 0])), (hd, .inr (6, [.ref hu, .ref hy, .int 0])), (hu, .inl (cU, 20, .inl (fun _ => 0))), (hy, .inl (cW, 20, .inl (fun _ => 0)))]) (w1 := [(dk, .inr (4, [.ref w0, .ref w1, .ref ol, .int 1, .int 0, .int 0, .int 0])), (w0, .inr (14, [.int t0, .int u3])), (w1, .inr (14, [.int t1, .int u4]))]) (t1 := []) hP hD hK [1, 2, 3] [0, 4, 5, 6] rfl rfl (by decide) (by decide) hk1 hFc ht hvm hB
  generalize H1 = H at hP hS ⊢
  have hP : va_P (dC, dI) vwCl [(sh, .inr (13, [.ref rg, .ref dk, .ref hd, .ref lg, .ref pl, .ref pr, .int 0, .int 0, .int 0, .int 0, .int 0, .int mi, .int 0, .int 0, .int 0, .int fo, .int 0])), (hd, .inr (6, [.ref hu, .ref hy, .int 0])), (hu, .inl (cU, 20, .inl (fun _ => 0))), (hy, .inl (cW, 20, .inl (fun _ => 0))), (dk, .inr (4, [.ref w0, .ref w1, .ref ol, .int 1, .int 0, .int 0, .int 0])), (w0, .inr (14, [.int t0, .int u3])), (w1, .inr (14, [.int t1, .int u4]))] H := hP
  have hD : va_D A [(sh, .inr (13, [.ref rg, .ref dk, .ref hd, .ref lg, .ref pl, .ref pr, .int 0, .int 0, .int 0, .int 0, .int 0, .int mi, .int 0, .int 0, .int 0, .int fo, .int 0])), (hd, .inr (6, [.ref hu, .ref hy, .int 0])), (hu, .inl (cU, 20, .inl (fun _ => 0))), (hy, .inl (cW, 20, .inl (fun _ => 0))), (dk, .inr (4, [.ref w0, .ref w1, .ref ol, .int 1, .int 0, .int 0, .int 0])), (w0, .inr (14, [.int t0, .int u3])), (w1, .inr (14, [.int t1, .int u4]))] := hD
  have hK : va_K (dC, dI) vwCl [(cU, .int), (cW, .boolean)] s := hK
  clear hw
  refine lv_aload_n hx hb dX9_endDay_42 rfl (lv_at hl 2 rfl) ?_
  refine lv_dup hx hb dX9_endDay_43 rfl ?_
  refine va_get (D := (dC, dI)) (ci := 13) (v := .int fo) (C := RX9) (T := TX9) (N := 17) hx hb hts hiX9 hown hK hP 0 rfl rfl 15 (by decide) (hts (.fieldLink RX9 77 "SquareRig$Ship" "foulness" "I") (by decide +kernel)) (fun _ h9 => h9) rfl dX9_endDay_44 ?_
  refine lv_iconst (v := 1) hx hb dX9_endDay_47 (by decide) ?_
  refine lv_iadd hx hb dX9_endDay_48 ?_
  refine va_put (D := (dC, dI)) (ci := 13) (v := .int (fo + 1)) (ty := .int) (C := RX9) (T := TX9) (N := 17) hx hb hts hiX9 tyX9 tyX9_ok nmX9 hown hK hP hD hS 0 rfl rfl 15 (by decide) (hts (.fieldLink RX9 77 "SquareRig$Ship" "foulness" "I") (by decide +kernel)) (fun _ h9 => h9) rfl (by decide +kernel) rfl rfl (Nat.le_of_ble_eq_true rfl) dX9_endDay_49 (fun H locs hP hD hS => ?_)
  have hP : va_P (dC, dI) vwCl [(sh, .inr (13, [.ref rg, .ref dk, .ref hd, .ref lg, .ref pl, .ref pr, .int 0, .int 0, .int 0, .int 0, .int 0, .int mi, .int 0, .int 0, .int 0, .int (fo + 1), .int 0])), (hd, .inr (6, [.ref hu, .ref hy, .int 0])), (hu, .inl (cU, 20, .inl (fun _ => 0))), (hy, .inl (cW, 20, .inl (fun _ => 0))), (dk, .inr (4, [.ref w0, .ref w1, .ref ol, .int 1, .int 0, .int 0, .int 0])), (w0, .inr (14, [.int t0, .int u3])), (w1, .inr (14, [.int t1, .int u4]))] H := hP
  have hD : va_D A [(sh, .inr (13, [.ref rg, .ref dk, .ref hd, .ref lg, .ref pl, .ref pr, .int 0, .int 0, .int 0, .int 0, .int 0, .int mi, .int 0, .int 0, .int 0, .int (fo + 1), .int 0])), (hd, .inr (6, [.ref hu, .ref hy, .int 0])), (hu, .inl (cU, 20, .inl (fun _ => 0))), (hy, .inl (cW, 20, .inl (fun _ => 0))), (dk, .inr (4, [.ref w0, .ref w1, .ref ol, .int 1, .int 0, .int 0, .int 0])), (w0, .inr (14, [.int t0, .int u3])), (w1, .inr (14, [.int t1, .int u4]))] := hD
  exact W.vret hx hb hr (fun t ht hW => ⟨⟨(), rfl, trivial, ⟨(fo + 1), u3, u4, kB_end (w9 := [(sh, .inr (13, [.ref rg, .ref dk, .ref hd, .ref lg, .ref pl, .ref pr, .int 0, .int 0, .int 0, .int 0, .int 0, .int mi, .int 0, .int 0, .int 0, .int (fo + 1), .int 0])), (hd, .inr (6, [.ref hu, .ref hy, .int 0])), (hu, .inl (cU, 20, .inl (fun _ => 0))), (hy, .inl (cW, 20, .inl (fun _ => 0))), (dk, .inr (4, [.ref w0, .ref w1, .ref ol, .int 1, .int 0, .int 0, .int 0])), (w0, .inr (14, [.int t0, .int u3])), (w1, .inr (14, [.int t1, .int u4]))]) (t9 := []) hP hK hD [0, 1, 2, 3, 4, 5, 6] [] rfl (by decide) rfl rfl t ht hW⟩⟩, hS.F ht⟩) hS.2.2 dX9_endDay_52
abbrev wd_k_keepTime0 (z : Nat → Nat) (sh : Nat) (rg : Nat) (dk : Nat) (w0 : Nat) (w1 : Nat) (ol : Nat) (hd : Nat) (hu : Nat) (hy : Nat) (lg : Nat) (pl : Nat) (pr : Nat) (cU : ClassId) (cW : ClassId) (mi : Int32) (fo : Int32) (t0 : Int32) (k0 : Int32) (t1 : Int32) (k1 : Int32) (re : Int64) (rn : Int64) : va_W := [(sh, .inr (13, [.ref rg, .ref dk, .ref hd, .ref lg, .ref pl, .ref pr, .int 0, .int 0, .int 0, .int 0, .int 0, .int mi, .int 0, .int 0, .int 0, .int fo, .int 0])), (pr, .inr (10, [.long re, .long rn])), (dk, .inr (4, [.ref w0, .ref w1, .ref ol, .int 0, .int 0, .int 0, .int 0])), (w0, .inr (14, [.int t0, .int k0])), (w1, .inr (14, [.int t1, .int k1])), (hd, .inr (6, [.ref hu, .ref hy, .int 0])), (hu, .inl (cU, 20, .inl (fun _ => 0))), (hy, .inl (cW, 20, .inl (fun _ => 0)))]
set_option maxHeartbeats 4000000 in
set_option maxRecDepth 100000 in
theorem k_keepTime0 (l : Launch) (dC : Nat → ClassId) (dI : Nat → Nat → Nat) (z zK zV : Nat → Nat) (sh : Nat) (rg : Nat) (dk : Nat) (w0 : Nat) (w1 : Nat) (ol : Nat) (hd : Nat) (hu : Nat) (hy : Nat) (lg : Nat) (pl : Nat) (pr : Nat) (cU : ClassId) (cW : ClassId) (mi : Int32) (fo : Int32) (t0 : Int32) (k0 : Int32) (t1 : Int32) (k1 : Int32) (re : Int64) (rn : Int64) (sz : Nat)  : Met l yX9_keepTime wsX9_keepTime ({ frames := 3, cells := 0, slots := 0, locals := 63 }) (kP dC dI z zK zV [.ref sh] sz (wd_k_keepTime0 z sh rg dk w0 w1 ol hd hu hy lg pl pr cU cW mi fo t0 k0 t1 k1 re rn) [(cU, .int), (cW, .boolean)]) (va_Qv (fun _ : Unit => True) (fun _ t => ∃ (u1 : Int32) (u2 : Int64) (u3 : Int64) (u4 : Int32) (u5 : Int32) (u6 : Int32) (u7 : Int32) (u8 : Int32), (u4 = 0 ∨ u4 = 1) ∧ kB (dC, dI) (va_A (wd_k_keepTime0 z sh rg dk w0 w1 ol hd hu hy lg pl pr cU cW mi fo t0 k0 t1 k1 re rn) sz) [(sh, .inr (13, [.ref rg, .ref dk, .ref hd, .ref lg, .ref pl, .ref pr, .int 0, .int 0, .int 0, .int 0, .int 0, .int mi, .int 0, .int 0, .int 0, .int u1, .int 0])), (pr, .inr (10, [.long u2, .long u3])), (dk, .inr (4, [.ref w0, .ref w1, .ref ol, .int u4, .int 0, .int 0, .int 0])), (w0, .inr (14, [.int u5, .int u6])), (w1, .inr (14, [.int u7, .int u8])), (hd, .inr (6, [.ref hu, .ref hy, .int 0])), (hu, .inl (cU, 20, .inl (fun _ => 0))), (hy, .inl (cW, 20, .inl (fun _ => 0)))] [] t) (va_A (wd_k_keepTime0 z sh rg dk w0 w1 ol hd hu hy lg pl pr cU cW mi fo t0 k0 t1 k1 re rn) sz)) 0 0 (va_A (wd_k_keepTime0 z sh rg dk w0 w1 ol hd hu hy lg pl pr cU cW mi fo t0 k0 t1 k1 re rn) sz) := by
  refine Met.ofW (cc := cX9_keepTime) (maxL := 2) (ret := none) (by decide) rfl ?_
  intro p e s m args below meth c s₁ B hml hv
  obtain ⟨rfl, hsz, hP, hK, hD0, hM⟩ := hv
  have hx := B.exec
  have hb := B.bytes
  have hr := B.returns
  have hts := atoms_spec (ws := wsX9_keepTime) B.pre
  have hown : s.vm.findClass RX9 = some m.cls := findClass_of_methodNamed B.named
  have hlocks := B.notSynchronized
  have hiX9 : ∀ w ∈ u_ws RX9 TX9 17, w ∈ wsX9_keepTime := by decide +kernel
  subst hsz
  have hD := hD0.self (sz := s.heap.size)
  generalize hAe : va_A (wd_k_keepTime0 z sh rg dk w0 w1 ol hd hu hy lg pl pr cU cW mi fo t0 k0 t1 k1 re rn) s.heap.size = A at hD hM ⊢
  have hA : ∀ q : Nat, s.heap.size ≤ q → A q := fun q h => by rw [← hAe]; exact Or.inr h
  have hS : va_S A s.heap s.heap [] := va_S.rf
  have hP : va_P (dC, dI) vwCl [(sh, .inr (13, [.ref rg, .ref dk, .ref hd, .ref lg, .ref pl, .ref pr, .int 0, .int 0, .int 0, .int 0, .int 0, .int mi, .int 0, .int 0, .int 0, .int fo, .int 0])), (pr, .inr (10, [.long re, .long rn])), (dk, .inr (4, [.ref w0, .ref w1, .ref ol, .int 0, .int 0, .int 0, .int 0])), (w0, .inr (14, [.int t0, .int k0])), (w1, .inr (14, [.int t1, .int k1])), (hd, .inr (6, [.ref hu, .ref hy, .int 0])), (hu, .inl (cU, 20, .inl (fun _ => 0))), (hy, .inl (cW, 20, .inl (fun _ => 0)))] s.heap := hP
  have hD : va_D A [(sh, .inr (13, [.ref rg, .ref dk, .ref hd, .ref lg, .ref pl, .ref pr, .int 0, .int 0, .int 0, .int 0, .int 0, .int mi, .int 0, .int 0, .int 0, .int fo, .int 0])), (pr, .inr (10, [.long re, .long rn])), (dk, .inr (4, [.ref w0, .ref w1, .ref ol, .int 0, .int 0, .int 0, .int 0])), (w0, .inr (14, [.int t0, .int k0])), (w1, .inr (14, [.int t1, .int k1])), (hd, .inr (6, [.ref hu, .ref hy, .int 0])), (hu, .inl (cU, 20, .inl (fun _ => 0))), (hy, .inl (cW, 20, .inl (fun _ => 0)))] := hD
  have hl := lv_entry ([.ref sh]) (n := 2) (Nat.le_of_ble_eq_true rfl)
  rw [lg_entry_eq]
  generalize (lg_sl ([.ref sh]) ++ List.replicate (2 - (lg_sl ([.ref sh])).length) Slot.unset).toArray = ls at hl ⊢
  have hl : lv_has ls 2 [(0, .ref sh)] := hl
  refine lv_aload_n hx hb dX9_keepTime_0 rfl (lv_at hl 0 rfl) ?_
  refine va_get (D := (dC, dI)) (ci := 13) (v := .int mi) (C := RX9) (T := TX9) (N := 17) hx hb hts hiX9 hown hK hP 0 rfl rfl 11 (by decide) (hts (.fieldLink RX9 65 "SquareRig$Ship" "minute" "I") (by decide +kernel)) (fun _ h9 => h9) rfl dX9_keepTime_1 ?_
  refine lv_bipush (v := 30) hx hb dX9_keepTime_4 (by decide) ?_
  refine lv_irem hx hb dX9_keepTime_6 (by decide +kernel) ?_
  refine lv_if_ne (tgt := 36) hx hb dX9_keepTime_7 (by decide) (fun c1 => ?_) (fun c1 => ?_)
  · skip
    refine lv_aload_n hx hb dX9_keepTime_36 rfl (lv_at hl 0 rfl) ?_
    refine va_get (D := (dC, dI)) (ci := 13) (v := .int mi) (C := RX9) (T := TX9) (N := 17) hx hb hts hiX9 hown hK hP 0 rfl rfl 11 (by decide) (hts (.fieldLink RX9 65 "SquareRig$Ship" "minute" "I") (by decide +kernel)) (fun _ h9 => h9) rfl dX9_keepTime_37 ?_
    refine lv_sipush (v := 240) hx hb dX9_keepTime_40 (by decide) ?_
    refine lv_irem hx hb dX9_keepTime_43 (by decide +kernel) ?_
    refine lv_if_ne (tgt := 54) hx hb dX9_keepTime_44 (by decide) (fun c2 => ?_) (fun c2 => ?_)
    · skip
      refine lv_aload_n hx hb dX9_keepTime_54 rfl (lv_at hl 0 rfl) ?_
      refine va_get (D := (dC, dI)) (ci := 13) (v := .int mi) (C := RX9) (T := TX9) (N := 17) hx hb hts hiX9 hown hK hP 0 rfl rfl 11 (by decide) (hts (.fieldLink RX9 65 "SquareRig$Ship" "minute" "I") (by decide +kernel)) (fun _ h9 => h9) rfl dX9_keepTime_55 ?_
      refine lv_sipush (v := 1440) hx hb dX9_keepTime_58 (by decide) ?_
      refine lv_irem hx hb dX9_keepTime_61 (by decide +kernel) ?_
      refine lv_if_ne (tgt := 69) hx hb dX9_keepTime_62 (by decide) (fun c3 => ?_) (fun c3 => ?_)
      · skip
        exact W.vret hx hb hr (fun t ht hW => ⟨⟨(), rfl, trivial, ⟨fo, re, rn, 0, t0, k0, t1, k1, (Or.inl rfl), kB_end (w9 := [(sh, .inr (13, [.ref rg, .ref dk, .ref hd, .ref lg, .ref pl, .ref pr, .int 0, .int 0, .int 0, .int 0, .int 0, .int mi, .int 0, .int 0, .int 0, .int fo, .int 0])), (pr, .inr (10, [.long re, .long rn])), (dk, .inr (4, [.ref w0, .ref w1, .ref ol, .int 0, .int 0, .int 0, .int 0])), (w0, .inr (14, [.int t0, .int k0])), (w1, .inr (14, [.int t1, .int k1])), (hd, .inr (6, [.ref hu, .ref hy, .int 0])), (hu, .inl (cU, 20, .inl (fun _ => 0))), (hy, .inl (cW, 20, .inl (fun _ => 0)))]) (t9 := []) hP hK hD [0, 1, 2, 3, 4, 5, 6, 7] [] rfl (by decide) rfl rfl t ht hW⟩⟩, hS.F ht⟩) hS.2.2 dX9_keepTime_69
      · skip
        refine lv_aload_n hx hb dX9_keepTime_65 rfl (lv_at hl 0 rfl) ?_
        have hPc := hP.sub (ws' := [(sh, .inr (13, [.ref rg, .ref dk, .ref hd, .ref lg, .ref pl, .ref pr, .int 0, .int 0, .int 0, .int 0, .int 0, .int mi, .int 0, .int 0, .int 0, .int fo, .int 0])), (dk, .inr (4, [.ref w0, .ref w1, .ref ol, .int 0, .int 0, .int 0, .int 0])), (w0, .inr (14, [.int t0, .int k0])), (w1, .inr (14, [.int t1, .int k1])), (hd, .inr (6, [.ref hu, .ref hy, .int 0])), (hu, .inl (cU, 20, .inl (fun _ => 0))), (hy, .inl (cW, 20, .inl (fun _ => 0)))]) [0, 2, 3, 4, 5, 6, 7] rfl
        have hDc := hD.sub (ws' := [(sh, .inr (13, [.ref rg, .ref dk, .ref hd, .ref lg, .ref pl, .ref pr, .int 0, .int 0, .int 0, .int 0, .int 0, .int mi, .int 0, .int 0, .int 0, .int fo, .int 0])), (dk, .inr (4, [.ref w0, .ref w1, .ref ol, .int 0, .int 0, .int 0, .int 0])), (w0, .inr (14, [.int t0, .int k0])), (w1, .inr (14, [.int t1, .int k1])), (hd, .inr (6, [.ref hu, .ref hy, .int 0])), (hu, .inl (cU, 20, .inl (fun _ => 0))), (hy, .inl (cW, 20, .inl (fun _ => 0)))]) [0, 2, 3, 4, 5, 6, 7] (by decide) rfl
        have hKc := hK.sub (tys' := [(cU, .int), (cW, .boolean)]) [0, 1] rfl
        have hFc := va_free (wc := [(sh, .inr (13, [.ref rg, .ref dk, .ref hd, .ref lg, .ref pl, .ref pr, .int 0, .int 0, .int 0, .int 0, .int 0, .int mi, .int 0, .int 0, .int 0, .int fo, .int 0])), (dk, .inr (4, [.ref w0, .ref w1, .ref ol, .int 0, .int 0, .int 0, .int 0])), (w0, .inr (14, [.int t0, .int k0])), (w1, .inr (14, [.int t1, .int k1])), (hd, .inr (6, [.ref hu, .ref hy, .int 0])), (hu, .inl (cU, 20, .inl (fun _ => 0))), (hy, .inl (cW, 20, .inl (fun _ => 0)))]) hD hS hA [0, 2, 3, 4, 5, 6, 7] rfl
        refine va_callv (va_runV (As := []) (rest := []) ⟨hx, hb, hml, hown, hts⟩ (k_endDay0 l dC dI z zK zV sh rg dk w0 w1 ol hd hu hy lg pl pr cU cW mi fo t0 k0 t1 k1 s.heap.size) (cwV 0 hts gX9_keepTime_X9_endDay rfl rfl rfl (by decide +kernel) ⟨Nat.le_of_ble_eq_true rfl, Nat.le_of_ble_eq_true rfl⟩) ⟨kP_blind, va_recv hKc hPc (ci := 13) (q0 := 0) rfl rfl, kP_go hPc hKc hDc hFc hM hS⟩ rfl rfl hl.1 rfl (lv_room (Nat.le_of_ble_eq_true rfl)) dX9_keepTime_66 ⟨Nat.le_of_ble_eq_true rfl, Nat.le_of_ble_eq_true rfl⟩) hS (fun q _ h => hFc q h) hFc (fun u t H1 locs ht hvm hw hB hz1 hk1 hS => ?_)
        obtain ⟨u4, u5, u6, hB⟩ := hB
        obtain ⟨hP, hD, hK⟩ := kJ (wr := [(pr, .inr (10, [.long re, .long rn]))]) (w1 := [(sh, .inr (13, [.ref rg, .ref dk, .ref hd, .ref lg, .ref pl, .ref pr, .int 0, .int 0, .int 0, .int 0, .int 0, .int mi, .int 0, .int 0, .int 0, .int u4, .int 0])), (hd, .inr (6, [.ref hu, .ref hy, .int 0])), (hu, .inl (cU, 20, .inl (fun _ => 0))), (hy, .inl (cW, 20, .inl (fun _ => 0))), (dk, .inr (4, [.ref w0, .ref w1, .ref ol, .int 0, .int 0, .int 0, .int 0])), (w0, .inr (14, [.int t0, .int u5])), (w1, .inr (14, [.int t1, .int u6]))]) (t1 := []) hP hD hK [0, 2, 3, 4, 5, 6, 7] [1] rfl rfl (by decide) (by decide) hk1 hFc ht hvm hB
        generalize H1 = H at hP hS ⊢
        have hP : va_P (dC, dI) vwCl [(pr, .inr (10, [.long re, .long rn])), (sh, .inr (13, [.ref rg, .ref dk, .ref hd, .ref lg, .ref pl, .ref pr, .int 0, .int 0, .int 0, .int 0, .int 0, .int mi, .int 0, .int 0, .int 0, .int u4, .int 0])), (hd, .inr (6, [.ref hu, .ref hy, .int 0])), (hu, .inl (cU, 20, .inl (fun _ => 0))), (hy, .inl (cW, 20, .inl (fun _ => 0))), (dk, .inr (4, [.ref w0, .ref w1, .ref ol, .int 0, .int 0, .int 0, .int 0])), (w0, .inr (14, [.int t0, .int u5])), (w1, .inr (14, [.int t1, .int u6]))] H := hP
        have hD : va_D A [(pr, .inr (10, [.long re, .long rn])), (sh, .inr (13, [.ref rg, .ref dk, .ref hd, .ref lg, .ref pl, .ref pr, .int 0, .int 0, .int 0, .int 0, .int 0, .int mi, .int 0, .int 0, .int 0, .int u4, .int 0])), (hd, .inr (6, [.ref hu, .ref hy, .int 0])), (hu, .inl (cU, 20, .inl (fun _ => 0))), (hy, .inl (cW, 20, .inl (fun _ => 0))), (dk, .inr (4, [.ref w0, .ref w1, .ref ol, .int 0, .int 0, .int 0, .int 0])), (w0, .inr (14, [.int t0, .int u5])), (w1, .inr (14, [.int t1, .int u6]))] := hD
        have hK : va_K (dC, dI) vwCl [(cU, .int), (cW, .boolean)] s := hK
        clear hw
        exact W.vret hx hb hr (fun t ht hW => ⟨⟨(), rfl, trivial, ⟨u4, re, rn, 0, t0, u5, t1, u6, (Or.inl rfl), kB_end (w9 := [(sh, .inr (13, [.ref rg, .ref dk, .ref hd, .ref lg, .ref pl, .ref pr, .int 0, .int 0, .int 0, .int 0, .int 0, .int mi, .int 0, .int 0, .int 0, .int u4, .int 0])), (pr, .inr (10, [.long re, .long rn])), (dk, .inr (4, [.ref w0, .ref w1, .ref ol, .int 0, .int 0, .int 0, .int 0])), (w0, .inr (14, [.int t0, .int u5])), (w1, .inr (14, [.int t1, .int u6])), (hd, .inr (6, [.ref hu, .ref hy, .int 0])), (hu, .inl (cU, 20, .inl (fun _ => 0))), (hy, .inl (cW, 20, .inl (fun _ => 0)))]) (t9 := []) hP hK hD [1, 0, 5, 6, 7, 2, 3, 4] [] rfl (by decide) rfl rfl t ht hW⟩⟩, hS.F ht⟩) hS.2.2 dX9_keepTime_69
    · skip
      refine lv_aload_n hx hb dX9_keepTime_47 rfl (lv_at hl 0 rfl) ?_
      refine va_get (D := (dC, dI)) (ci := 13) (v := .ref dk) (C := RX9) (T := TX9) (N := 17) hx hb hts hiX9 hown hK hP 0 rfl rfl 1 (by decide) (hts (.fieldLink RX9 21 "SquareRig$Ship" "deck" "LSquareRig$Deck;") (by decide +kernel)) (fun _ h9 => h9) rfl dX9_keepTime_48 ?_
      have hPc := hP.sub (ws' := [(dk, .inr (4, [.ref w0, .ref w1, .ref ol, .int 0, .int 0, .int 0, .int 0])), (w0, .inr (14, [.int t0, .int k0])), (w1, .inr (14, [.int t1, .int k1]))]) [2, 3, 4] rfl
      have hDc := hD.sub (ws' := [(dk, .inr (4, [.ref w0, .ref w1, .ref ol, .int 0, .int 0, .int 0, .int 0])), (w0, .inr (14, [.int t0, .int k0])), (w1, .inr (14, [.int t1, .int k1]))]) [2, 3, 4] (by decide) rfl
      have hKc := hK.sub (tys' := []) [] rfl
      have hFc := va_free (wc := [(dk, .inr (4, [.ref w0, .ref w1, .ref ol, .int 0, .int 0, .int 0, .int 0])), (w0, .inr (14, [.int t0, .int k0])), (w1, .inr (14, [.int t1, .int k1]))]) hD hS hA [2, 3, 4] rfl
      refine va_callv (va_runV (As := []) (rest := []) ⟨hx, hb, hml, hown, hts⟩ (k_changeWatch0 l dC dI z zK zV dk w0 w1 ol t0 k0 t1 k1 s.heap.size) (cwV 0 hts gX9_keepTime_X0_changeWatch rfl rfl rfl (by decide +kernel) ⟨Nat.le_of_ble_eq_true rfl, Nat.le_of_ble_eq_true rfl⟩) ⟨kP_blind, va_recv hKc hPc (ci := 4) (q0 := 0) rfl rfl, kP_go hPc hKc hDc hFc hM hS⟩ rfl rfl hl.1 rfl (lv_room (Nat.le_of_ble_eq_true rfl)) dX9_keepTime_51 ⟨Nat.le_of_ble_eq_true rfl, Nat.le_of_ble_eq_true rfl⟩) hS (fun q _ h => hFc q h) hFc (fun u t H1 locs ht hvm hw hB hz1 hk1 hS => ?_)
      obtain ⟨u7, u8, hB⟩ := hB
      obtain ⟨hP, hD, hK⟩ := kJ (wr := [(sh, .inr (13, [.ref rg, .ref dk, .ref hd, .ref lg, .ref pl, .ref pr, .int 0, .int 0, .int 0, .int 0, .int 0, .int mi, .int 0, .int 0, .int 0, .int fo, .int 0])), (pr, .inr (10, [.long re, .long rn])), (hd, .inr (6, [.ref hu, .ref hy, .int 0])), (hu, .inl (cU, 20, .inl (fun _ => 0))), (hy, .inl (cW, 20, .inl (fun _ => 0)))]) (w1 := [(w0, .inr (14, [.int u7, .int k0])), (dk, .inr (4, [.ref w0, .ref w1, .ref ol, .int 1, .int 0, .int 0, .int 0])), (w1, .inr (14, [.int u8, .int k1]))]) (t1 := []) hP hD hK [2, 3, 4] [0, 1, 5, 6, 7] rfl rfl (by decide) (by decide) hk1 hFc ht hvm hB
      generalize H1 = H at hP hS ⊢
      have hP : va_P (dC, dI) vwCl [(sh, .inr (13, [.ref rg, .ref dk, .ref hd, .ref lg, .ref pl, .ref pr, .int 0, .int 0, .int 0, .int 0, .int 0, .int mi, .int 0, .int 0, .int 0, .int fo, .int 0])), (pr, .inr (10, [.long re, .long rn])), (hd, .inr (6, [.ref hu, .ref hy, .int 0])), (hu, .inl (cU, 20, .inl (fun _ => 0))), (hy, .inl (cW, 20, .inl (fun _ => 0))), (w0, .inr (14, [.int u7, .int k0])), (dk, .inr (4, [.ref w0, .ref w1, .ref ol, .int 1, .int 0, .int 0, .int 0])), (w1, .inr (14, [.int u8, .int k1]))] H := hP
      have hD : va_D A [(sh, .inr (13, [.ref rg, .ref dk, .ref hd, .ref lg, .ref pl, .ref pr, .int 0, .int 0, .int 0, .int 0, .int 0, .int mi, .int 0, .int 0, .int 0, .int fo, .int 0])), (pr, .inr (10, [.long re, .long rn])), (hd, .inr (6, [.ref hu, .ref hy, .int 0])), (hu, .inl (cU, 20, .inl (fun _ => 0))), (hy, .inl (cW, 20, .inl (fun _ => 0))), (w0, .inr (14, [.int u7, .int k0])), (dk, .inr (4, [.ref w0, .ref w1, .ref ol, .int 1, .int 0, .int 0, .int 0])), (w1, .inr (14, [.int u8, .int k1]))] := hD
      have hK : va_K (dC, dI) vwCl [(cU, .int), (cW, .boolean)] s := hK
      clear hw
      refine lv_aload_n hx hb dX9_keepTime_54 rfl (lv_at hl 0 rfl) ?_
      refine va_get (D := (dC, dI)) (ci := 13) (v := .int mi) (C := RX9) (T := TX9) (N := 17) hx hb hts hiX9 hown hK hP 0 rfl rfl 11 (by decide) (hts (.fieldLink RX9 65 "SquareRig$Ship" "minute" "I") (by decide +kernel)) (fun _ h9 => h9) rfl dX9_keepTime_55 ?_
      refine lv_sipush (v := 1440) hx hb dX9_keepTime_58 (by decide) ?_
      refine lv_irem hx hb dX9_keepTime_61 (by decide +kernel) ?_
      refine lv_if_ne (tgt := 69) hx hb dX9_keepTime_62 (by decide) (fun c9 => ?_) (fun c9 => ?_)
      · skip
        exact W.vret hx hb hr (fun t ht hW => ⟨⟨(), rfl, trivial, ⟨fo, re, rn, 1, u7, k0, u8, k1, (Or.inr rfl), kB_end (w9 := [(sh, .inr (13, [.ref rg, .ref dk, .ref hd, .ref lg, .ref pl, .ref pr, .int 0, .int 0, .int 0, .int 0, .int 0, .int mi, .int 0, .int 0, .int 0, .int fo, .int 0])), (pr, .inr (10, [.long re, .long rn])), (dk, .inr (4, [.ref w0, .ref w1, .ref ol, .int 1, .int 0, .int 0, .int 0])), (w0, .inr (14, [.int u7, .int k0])), (w1, .inr (14, [.int u8, .int k1])), (hd, .inr (6, [.ref hu, .ref hy, .int 0])), (hu, .inl (cU, 20, .inl (fun _ => 0))), (hy, .inl (cW, 20, .inl (fun _ => 0)))]) (t9 := []) hP hK hD [0, 1, 6, 5, 7, 2, 3, 4] [] rfl (by decide) rfl rfl t ht hW⟩⟩, hS.F ht⟩) hS.2.2 dX9_keepTime_69
      · skip
        refine lv_aload_n hx hb dX9_keepTime_65 rfl (lv_at hl 0 rfl) ?_
        have hPc := hP.sub (ws' := [(sh, .inr (13, [.ref rg, .ref dk, .ref hd, .ref lg, .ref pl, .ref pr, .int 0, .int 0, .int 0, .int 0, .int 0, .int mi, .int 0, .int 0, .int 0, .int fo, .int 0])), (dk, .inr (4, [.ref w0, .ref w1, .ref ol, .int 1, .int 0, .int 0, .int 0])), (w0, .inr (14, [.int u7, .int k0])), (w1, .inr (14, [.int u8, .int k1])), (hd, .inr (6, [.ref hu, .ref hy, .int 0])), (hu, .inl (cU, 20, .inl (fun _ => 0))), (hy, .inl (cW, 20, .inl (fun _ => 0)))]) [0, 6, 5, 7, 2, 3, 4] rfl
        have hDc := hD.sub (ws' := [(sh, .inr (13, [.ref rg, .ref dk, .ref hd, .ref lg, .ref pl, .ref pr, .int 0, .int 0, .int 0, .int 0, .int 0, .int mi, .int 0, .int 0, .int 0, .int fo, .int 0])), (dk, .inr (4, [.ref w0, .ref w1, .ref ol, .int 1, .int 0, .int 0, .int 0])), (w0, .inr (14, [.int u7, .int k0])), (w1, .inr (14, [.int u8, .int k1])), (hd, .inr (6, [.ref hu, .ref hy, .int 0])), (hu, .inl (cU, 20, .inl (fun _ => 0))), (hy, .inl (cW, 20, .inl (fun _ => 0)))]) [0, 6, 5, 7, 2, 3, 4] (by decide) rfl
        have hKc := hK.sub (tys' := [(cU, .int), (cW, .boolean)]) [0, 1] rfl
        have hFc := va_free (wc := [(sh, .inr (13, [.ref rg, .ref dk, .ref hd, .ref lg, .ref pl, .ref pr, .int 0, .int 0, .int 0, .int 0, .int 0, .int mi, .int 0, .int 0, .int 0, .int fo, .int 0])), (dk, .inr (4, [.ref w0, .ref w1, .ref ol, .int 1, .int 0, .int 0, .int 0])), (w0, .inr (14, [.int u7, .int k0])), (w1, .inr (14, [.int u8, .int k1])), (hd, .inr (6, [.ref hu, .ref hy, .int 0])), (hu, .inl (cU, 20, .inl (fun _ => 0))), (hy, .inl (cW, 20, .inl (fun _ => 0)))]) hD hS hA [0, 6, 5, 7, 2, 3, 4] rfl
        refine va_callv (va_runV (As := []) (rest := []) ⟨hx, hb, hml, hown, hts⟩ (k_endDay1 l dC dI z zK zV sh rg dk w0 w1 ol hd hu hy lg pl pr cU cW mi fo u7 k0 u8 k1 H.size) (cwV 0 hts gX9_keepTime_X9_endDay rfl rfl rfl (by decide +kernel) ⟨Nat.le_of_ble_eq_true rfl, Nat.le_of_ble_eq_true rfl⟩) ⟨kP_blind, va_recv hKc hPc (ci := 13) (q0 := 0) rfl rfl, kP_go hPc hKc hDc hFc hM hS⟩ rfl rfl hl.1 rfl (lv_room (Nat.le_of_ble_eq_true rfl)) dX9_keepTime_66 ⟨Nat.le_of_ble_eq_true rfl, Nat.le_of_ble_eq_true rfl⟩) hS (fun q _ h => hFc q h) hFc (fun u t H1 locs ht hvm hw hB hz1 hk1 hS => ?_)
        obtain ⟨u10, u11, u12, hB⟩ := hB
        obtain ⟨hP, hD, hK⟩ := kJ (wr := [(pr, .inr (10, [.long re, .long rn]))]) (w1 := [(sh, .inr (13, [.ref rg, .ref dk, .ref hd, .ref lg, .ref pl, .ref pr, .int 0, .int 0, .int 0, .int 0, .int 0, .int mi, .int 0, .int 0, .int 0, .int u10, .int 0])), (hd, .inr (6, [.ref hu, .ref hy, .int 0])), (hu, .inl (cU, 20, .inl (fun _ => 0))), (hy, .inl (cW, 20, .inl (fun _ => 0))), (dk, .inr (4, [.ref w0, .ref w1, .ref ol, .int 1, .int 0, .int 0, .int 0])), (w0, .inr (14, [.int u7, .int u11])), (w1, .inr (14, [.int u8, .int u12]))]) (t1 := []) hP hD hK [0, 6, 5, 7, 2, 3, 4] [1] rfl rfl (by decide) (by decide) hk1 hFc ht hvm hB
        generalize H1 = H at hP hS ⊢
        have hP : va_P (dC, dI) vwCl [(pr, .inr (10, [.long re, .long rn])), (sh, .inr (13, [.ref rg, .ref dk, .ref hd, .ref lg, .ref pl, .ref pr, .int 0, .int 0, .int 0, .int 0, .int 0, .int mi, .int 0, .int 0, .int 0, .int u10, .int 0])), (hd, .inr (6, [.ref hu, .ref hy, .int 0])), (hu, .inl (cU, 20, .inl (fun _ => 0))), (hy, .inl (cW, 20, .inl (fun _ => 0))), (dk, .inr (4, [.ref w0, .ref w1, .ref ol, .int 1, .int 0, .int 0, .int 0])), (w0, .inr (14, [.int u7, .int u11])), (w1, .inr (14, [.int u8, .int u12]))] H := hP
        have hD : va_D A [(pr, .inr (10, [.long re, .long rn])), (sh, .inr (13, [.ref rg, .ref dk, .ref hd, .ref lg, .ref pl, .ref pr, .int 0, .int 0, .int 0, .int 0, .int 0, .int mi, .int 0, .int 0, .int 0, .int u10, .int 0])), (hd, .inr (6, [.ref hu, .ref hy, .int 0])), (hu, .inl (cU, 20, .inl (fun _ => 0))), (hy, .inl (cW, 20, .inl (fun _ => 0))), (dk, .inr (4, [.ref w0, .ref w1, .ref ol, .int 1, .int 0, .int 0, .int 0])), (w0, .inr (14, [.int u7, .int u11])), (w1, .inr (14, [.int u8, .int u12]))] := hD
        have hK : va_K (dC, dI) vwCl [(cU, .int), (cW, .boolean)] s := hK
        clear hw
        exact W.vret hx hb hr (fun t ht hW => ⟨⟨(), rfl, trivial, ⟨u10, re, rn, 1, u7, u11, u8, u12, (Or.inr rfl), kB_end (w9 := [(sh, .inr (13, [.ref rg, .ref dk, .ref hd, .ref lg, .ref pl, .ref pr, .int 0, .int 0, .int 0, .int 0, .int 0, .int mi, .int 0, .int 0, .int 0, .int u10, .int 0])), (pr, .inr (10, [.long re, .long rn])), (dk, .inr (4, [.ref w0, .ref w1, .ref ol, .int 1, .int 0, .int 0, .int 0])), (w0, .inr (14, [.int u7, .int u11])), (w1, .inr (14, [.int u8, .int u12])), (hd, .inr (6, [.ref hu, .ref hy, .int 0])), (hu, .inl (cU, 20, .inl (fun _ => 0))), (hy, .inl (cW, 20, .inl (fun _ => 0)))]) (t9 := []) hP hK hD [1, 0, 5, 6, 7, 2, 3, 4] [] rfl (by decide) rfl rfl t ht hW⟩⟩, hS.F ht⟩) hS.2.2 dX9_keepTime_69
  · skip
    refine lv_aload_n hx hb dX9_keepTime_10 rfl (lv_at hl 0 rfl) ?_
    refine va_get (D := (dC, dI)) (ci := 13) (v := .int 0) (C := RX9) (T := TX9) (N := 17) hx hb hts hiX9 hown hK hP 0 rfl rfl 13 (by decide) (hts (.fieldLink RX9 71 "SquareRig$Ship" "speed" "I") (by decide +kernel)) (fun _ h9 => h9) rfl dX9_keepTime_11 ?_
    refine lv_bipush (v := 10) hx hb dX9_keepTime_14 (by decide) ?_
    refine lv_idiv hx hb dX9_keepTime_16 (by decide +kernel) ?_
    refine kc_i (y := 0) (by decide +kernel) ?_
    refine lv_istore_n (lv' := [(1, .int 0), (0, .ref sh)]) hx hb dX9_keepTime_17 rfl hl (by decide) rfl (fun ls hl => ?_)
    refine lv_aload_n hx hb dX9_keepTime_18 rfl (lv_at hl 1 rfl) ?_
    refine va_get (D := (dC, dI)) (ci := 13) (v := .ref pr) (C := RX9) (T := TX9) (N := 17) hx hb hts hiX9 hown hK hP 0 rfl rfl 5 (by decide) (hts (.fieldLink RX9 46 "SquareRig$Ship" "reckoned" "LSquareRig$Place;") (by decide +kernel)) (fun _ h9 => h9) rfl dX9_keepTime_19 ?_
    refine lv_aload_n hx hb dX9_keepTime_22 rfl (lv_at hl 1 rfl) ?_
    refine va_get (D := (dC, dI)) (ci := 13) (v := .int 0) (C := RX9) (T := TX9) (N := 17) hx hb hts hiX9 hown hK hP 0 rfl rfl 12 (by decide) (hts (.fieldLink RX9 68 "SquareRig$Ship" "heading" "I") (by decide +kernel)) (fun _ h9 => h9) rfl dX9_keepTime_23 ?_
    refine lv_bipush (v := 30) hx hb dX9_keepTime_26 (by decide) ?_
    refine lv_iload_n hx hb dX9_keepTime_28 rfl (lv_at hl 0 rfl) ?_
    refine lv_imul hx hb dX9_keepTime_29 ?_
    refine kc_i (y := 0) (by decide +kernel) ?_
    refine lv_bipush (v := 10) hx hb dX9_keepTime_30 (by decide) ?_
    refine lv_imul hx hb dX9_keepTime_32 ?_
    refine kc_i (y := 0) (by decide +kernel) ?_
    have hPc := hP.sub (ws' := [(pr, .inr (10, [.long re, .long rn]))]) [1] rfl
    have hDc := hD.sub (ws' := [(pr, .inr (10, [.long re, .long rn]))]) [1] (by decide) rfl
    have hKc := hK.sub (tys' := []) [] rfl
    have hFc := va_free (wc := [(pr, .inr (10, [.long re, .long rn]))]) hD hS hA [1] rfl
    refine va_callv (va_runV (As := [.int 0, .int 0]) (rest := []) ⟨hx, hb, hml, hown, hts⟩ (k_Place_go0 l dC dI z zK zV pr re rn s.heap.size) (cwV 2 hts gX9_keepTime_X6_go rfl rfl rfl (by decide +kernel) ⟨Nat.le_of_ble_eq_true rfl, Nat.le_of_ble_eq_true rfl⟩) ⟨kP_blind, va_recv hKc hPc (ci := 10) (q0 := 0) rfl rfl, kP_go hPc hKc hDc hFc hM hS⟩ rfl rfl hl.1 rfl (lv_room (Nat.le_of_ble_eq_true rfl)) dX9_keepTime_33 ⟨Nat.le_of_ble_eq_true rfl, Nat.le_of_ble_eq_true rfl⟩) hS (fun q _ h => hFc q h) hFc (fun u t H1 locs ht hvm hw hB hz1 hk1 hS => ?_)
    obtain ⟨u13, u14, hB⟩ := hB
    obtain ⟨hP, hD, hK⟩ := kJ (wr := [(sh, .inr (13, [.ref rg, .ref dk, .ref hd, .ref lg, .ref pl, .ref pr, .int 0, .int 0, .int 0, .int 0, .int 0, .int mi, .int 0, .int 0, .int 0, .int fo, .int 0])), (dk, .inr (4, [.ref w0, .ref w1, .ref ol, .int 0, .int 0, .int 0, .int 0])), (w0, .inr (14, [.int t0, .int k0])), (w1, .inr (14, [.int t1, .int k1])), (hd, .inr (6, [.ref hu, .ref hy, .int 0])), (hu, .inl (cU, 20, .inl (fun _ => 0))), (hy, .inl (cW, 20, .inl (fun _ => 0)))]) (w1 := [(pr, .inr (10, [.long u13, .long u14]))]) (t1 := []) hP hD hK [1] [0, 2, 3, 4, 5, 6, 7] rfl rfl (by decide) (by decide) hk1 hFc ht hvm hB
    generalize H1 = H at hP hS ⊢
    have hP : va_P (dC, dI) vwCl [(sh, .inr (13, [.ref rg, .ref dk, .ref hd, .ref lg, .ref pl, .ref pr, .int 0, .int 0, .int 0, .int 0, .int 0, .int mi, .int 0, .int 0, .int 0, .int fo, .int 0])), (dk, .inr (4, [.ref w0, .ref w1, .ref ol, .int 0, .int 0, .int 0, .int 0])), (w0, .inr (14, [.int t0, .int k0])), (w1, .inr (14, [.int t1, .int k1])), (hd, .inr (6, [.ref hu, .ref hy, .int 0])), (hu, .inl (cU, 20, .inl (fun _ => 0))), (hy, .inl (cW, 20, .inl (fun _ => 0))), (pr, .inr (10, [.long u13, .long u14]))] H := hP
    have hD : va_D A [(sh, .inr (13, [.ref rg, .ref dk, .ref hd, .ref lg, .ref pl, .ref pr, .int 0, .int 0, .int 0, .int 0, .int 0, .int mi, .int 0, .int 0, .int 0, .int fo, .int 0])), (dk, .inr (4, [.ref w0, .ref w1, .ref ol, .int 0, .int 0, .int 0, .int 0])), (w0, .inr (14, [.int t0, .int k0])), (w1, .inr (14, [.int t1, .int k1])), (hd, .inr (6, [.ref hu, .ref hy, .int 0])), (hu, .inl (cU, 20, .inl (fun _ => 0))), (hy, .inl (cW, 20, .inl (fun _ => 0))), (pr, .inr (10, [.long u13, .long u14]))] := hD
    have hK : va_K (dC, dI) vwCl [(cU, .int), (cW, .boolean)] s := hK
    clear hw
    refine lv_aload_n hx hb dX9_keepTime_36 rfl (lv_at hl 1 rfl) ?_
    refine va_get (D := (dC, dI)) (ci := 13) (v := .int mi) (C := RX9) (T := TX9) (N := 17) hx hb hts hiX9 hown hK hP 0 rfl rfl 11 (by decide) (hts (.fieldLink RX9 65 "SquareRig$Ship" "minute" "I") (by decide +kernel)) (fun _ h9 => h9) rfl dX9_keepTime_37 ?_
    refine lv_sipush (v := 240) hx hb dX9_keepTime_40 (by decide) ?_
    refine lv_irem hx hb dX9_keepTime_43 (by decide +kernel) ?_
    refine lv_if_ne (tgt := 54) hx hb dX9_keepTime_44 (by decide) (fun c15 => ?_) (fun c15 => ?_)
    · skip
      refine lv_aload_n hx hb dX9_keepTime_54 rfl (lv_at hl 1 rfl) ?_
      refine va_get (D := (dC, dI)) (ci := 13) (v := .int mi) (C := RX9) (T := TX9) (N := 17) hx hb hts hiX9 hown hK hP 0 rfl rfl 11 (by decide) (hts (.fieldLink RX9 65 "SquareRig$Ship" "minute" "I") (by decide +kernel)) (fun _ h9 => h9) rfl dX9_keepTime_55 ?_
      refine lv_sipush (v := 1440) hx hb dX9_keepTime_58 (by decide) ?_
      refine lv_irem hx hb dX9_keepTime_61 (by decide +kernel) ?_
      refine lv_if_ne (tgt := 69) hx hb dX9_keepTime_62 (by decide) (fun c16 => ?_) (fun c16 => ?_)
      · skip
        exact W.vret hx hb hr (fun t ht hW => ⟨⟨(), rfl, trivial, ⟨fo, u13, u14, 0, t0, k0, t1, k1, (Or.inl rfl), kB_end (w9 := [(sh, .inr (13, [.ref rg, .ref dk, .ref hd, .ref lg, .ref pl, .ref pr, .int 0, .int 0, .int 0, .int 0, .int 0, .int mi, .int 0, .int 0, .int 0, .int fo, .int 0])), (pr, .inr (10, [.long u13, .long u14])), (dk, .inr (4, [.ref w0, .ref w1, .ref ol, .int 0, .int 0, .int 0, .int 0])), (w0, .inr (14, [.int t0, .int k0])), (w1, .inr (14, [.int t1, .int k1])), (hd, .inr (6, [.ref hu, .ref hy, .int 0])), (hu, .inl (cU, 20, .inl (fun _ => 0))), (hy, .inl (cW, 20, .inl (fun _ => 0)))]) (t9 := []) hP hK hD [0, 7, 1, 2, 3, 4, 5, 6] [] rfl (by decide) rfl rfl t ht hW⟩⟩, hS.F ht⟩) hS.2.2 dX9_keepTime_69
      · skip
        refine lv_aload_n hx hb dX9_keepTime_65 rfl (lv_at hl 1 rfl) ?_
        have hPc := hP.sub (ws' := [(sh, .inr (13, [.ref rg, .ref dk, .ref hd, .ref lg, .ref pl, .ref pr, .int 0, .int 0, .int 0, .int 0, .int 0, .int mi, .int 0, .int 0, .int 0, .int fo, .int 0])), (dk, .inr (4, [.ref w0, .ref w1, .ref ol, .int 0, .int 0, .int 0, .int 0])), (w0, .inr (14, [.int t0, .int k0])), (w1, .inr (14, [.int t1, .int k1])), (hd, .inr (6, [.ref hu, .ref hy, .int 0])), (hu, .inl (cU, 20, .inl (fun _ => 0))), (hy, .inl (cW, 20, .inl (fun _ => 0)))]) [0, 1, 2, 3, 4, 5, 6] rfl
        have hDc := hD.sub (ws' := [(sh, .inr (13, [.ref rg, .ref dk, .ref hd, .ref lg, .ref pl, .ref pr, .int 0, .int 0, .int 0, .int 0, .int 0, .int mi, .int 0, .int 0, .int 0, .int fo, .int 0])), (dk, .inr (4, [.ref w0, .ref w1, .ref ol, .int 0, .int 0, .int 0, .int 0])), (w0, .inr (14, [.int t0, .int k0])), (w1, .inr (14, [.int t1, .int k1])), (hd, .inr (6, [.ref hu, .ref hy, .int 0])), (hu, .inl (cU, 20, .inl (fun _ => 0))), (hy, .inl (cW, 20, .inl (fun _ => 0)))]) [0, 1, 2, 3, 4, 5, 6] (by decide) rfl
        have hKc := hK.sub (tys' := [(cU, .int), (cW, .boolean)]) [0, 1] rfl
        have hFc := va_free (wc := [(sh, .inr (13, [.ref rg, .ref dk, .ref hd, .ref lg, .ref pl, .ref pr, .int 0, .int 0, .int 0, .int 0, .int 0, .int mi, .int 0, .int 0, .int 0, .int fo, .int 0])), (dk, .inr (4, [.ref w0, .ref w1, .ref ol, .int 0, .int 0, .int 0, .int 0])), (w0, .inr (14, [.int t0, .int k0])), (w1, .inr (14, [.int t1, .int k1])), (hd, .inr (6, [.ref hu, .ref hy, .int 0])), (hu, .inl (cU, 20, .inl (fun _ => 0))), (hy, .inl (cW, 20, .inl (fun _ => 0)))]) hD hS hA [0, 1, 2, 3, 4, 5, 6] rfl
        refine va_callv (va_runV (As := []) (rest := []) ⟨hx, hb, hml, hown, hts⟩ (k_endDay0 l dC dI z zK zV sh rg dk w0 w1 ol hd hu hy lg pl pr cU cW mi fo t0 k0 t1 k1 H.size) (cwV 0 hts gX9_keepTime_X9_endDay rfl rfl rfl (by decide +kernel) ⟨Nat.le_of_ble_eq_true rfl, Nat.le_of_ble_eq_true rfl⟩) ⟨kP_blind, va_recv hKc hPc (ci := 13) (q0 := 0) rfl rfl, kP_go hPc hKc hDc hFc hM hS⟩ rfl rfl hl.1 rfl (lv_room (Nat.le_of_ble_eq_true rfl)) dX9_keepTime_66 ⟨Nat.le_of_ble_eq_true rfl, Nat.le_of_ble_eq_true rfl⟩) hS (fun q _ h => hFc q h) hFc (fun u t H1 locs ht hvm hw hB hz1 hk1 hS => ?_)
        obtain ⟨u17, u18, u19, hB⟩ := hB
        obtain ⟨hP, hD, hK⟩ := kJ (wr := [(pr, .inr (10, [.long u13, .long u14]))]) (w1 := [(sh, .inr (13, [.ref rg, .ref dk, .ref hd, .ref lg, .ref pl, .ref pr, .int 0, .int 0, .int 0, .int 0, .int 0, .int mi, .int 0, .int 0, .int 0, .int u17, .int 0])), (hd, .inr (6, [.ref hu, .ref hy, .int 0])), (hu, .inl (cU, 20, .inl (fun _ => 0))), (hy, .inl (cW, 20, .inl (fun _ => 0))), (dk, .inr (4, [.ref w0, .ref w1, .ref ol, .int 0, .int 0, .int 0, .int 0])), (w0, .inr (14, [.int t0, .int u18])), (w1, .inr (14, [.int t1, .int u19]))]) (t1 := []) hP hD hK [0, 1, 2, 3, 4, 5, 6] [7] rfl rfl (by decide) (by decide) hk1 hFc ht hvm hB
        generalize H1 = H at hP hS ⊢
        have hP : va_P (dC, dI) vwCl [(pr, .inr (10, [.long u13, .long u14])), (sh, .inr (13, [.ref rg, .ref dk, .ref hd, .ref lg, .ref pl, .ref pr, .int 0, .int 0, .int 0, .int 0, .int 0, .int mi, .int 0, .int 0, .int 0, .int u17, .int 0])), (hd, .inr (6, [.ref hu, .ref hy, .int 0])), (hu, .inl (cU, 20, .inl (fun _ => 0))), (hy, .inl (cW, 20, .inl (fun _ => 0))), (dk, .inr (4, [.ref w0, .ref w1, .ref ol, .int 0, .int 0, .int 0, .int 0])), (w0, .inr (14, [.int t0, .int u18])), (w1, .inr (14, [.int t1, .int u19]))] H := hP
        have hD : va_D A [(pr, .inr (10, [.long u13, .long u14])), (sh, .inr (13, [.ref rg, .ref dk, .ref hd, .ref lg, .ref pl, .ref pr, .int 0, .int 0, .int 0, .int 0, .int 0, .int mi, .int 0, .int 0, .int 0, .int u17, .int 0])), (hd, .inr (6, [.ref hu, .ref hy, .int 0])), (hu, .inl (cU, 20, .inl (fun _ => 0))), (hy, .inl (cW, 20, .inl (fun _ => 0))), (dk, .inr (4, [.ref w0, .ref w1, .ref ol, .int 0, .int 0, .int 0, .int 0])), (w0, .inr (14, [.int t0, .int u18])), (w1, .inr (14, [.int t1, .int u19]))] := hD
        have hK : va_K (dC, dI) vwCl [(cU, .int), (cW, .boolean)] s := hK
        clear hw
        exact W.vret hx hb hr (fun t ht hW => ⟨⟨(), rfl, trivial, ⟨u17, u13, u14, 0, t0, u18, t1, u19, (Or.inl rfl), kB_end (w9 := [(sh, .inr (13, [.ref rg, .ref dk, .ref hd, .ref lg, .ref pl, .ref pr, .int 0, .int 0, .int 0, .int 0, .int 0, .int mi, .int 0, .int 0, .int 0, .int u17, .int 0])), (pr, .inr (10, [.long u13, .long u14])), (dk, .inr (4, [.ref w0, .ref w1, .ref ol, .int 0, .int 0, .int 0, .int 0])), (w0, .inr (14, [.int t0, .int u18])), (w1, .inr (14, [.int t1, .int u19])), (hd, .inr (6, [.ref hu, .ref hy, .int 0])), (hu, .inl (cU, 20, .inl (fun _ => 0))), (hy, .inl (cW, 20, .inl (fun _ => 0)))]) (t9 := []) hP hK hD [1, 0, 5, 6, 7, 2, 3, 4] [] rfl (by decide) rfl rfl t ht hW⟩⟩, hS.F ht⟩) hS.2.2 dX9_keepTime_69
    · skip
      refine lv_aload_n hx hb dX9_keepTime_47 rfl (lv_at hl 1 rfl) ?_
      refine va_get (D := (dC, dI)) (ci := 13) (v := .ref dk) (C := RX9) (T := TX9) (N := 17) hx hb hts hiX9 hown hK hP 0 rfl rfl 1 (by decide) (hts (.fieldLink RX9 21 "SquareRig$Ship" "deck" "LSquareRig$Deck;") (by decide +kernel)) (fun _ h9 => h9) rfl dX9_keepTime_48 ?_
      have hPc := hP.sub (ws' := [(dk, .inr (4, [.ref w0, .ref w1, .ref ol, .int 0, .int 0, .int 0, .int 0])), (w0, .inr (14, [.int t0, .int k0])), (w1, .inr (14, [.int t1, .int k1]))]) [1, 2, 3] rfl
      have hDc := hD.sub (ws' := [(dk, .inr (4, [.ref w0, .ref w1, .ref ol, .int 0, .int 0, .int 0, .int 0])), (w0, .inr (14, [.int t0, .int k0])), (w1, .inr (14, [.int t1, .int k1]))]) [1, 2, 3] (by decide) rfl
      have hKc := hK.sub (tys' := []) [] rfl
      have hFc := va_free (wc := [(dk, .inr (4, [.ref w0, .ref w1, .ref ol, .int 0, .int 0, .int 0, .int 0])), (w0, .inr (14, [.int t0, .int k0])), (w1, .inr (14, [.int t1, .int k1]))]) hD hS hA [1, 2, 3] rfl
      refine va_callv (va_runV (As := []) (rest := []) ⟨hx, hb, hml, hown, hts⟩ (k_changeWatch0 l dC dI z zK zV dk w0 w1 ol t0 k0 t1 k1 H.size) (cwV 0 hts gX9_keepTime_X0_changeWatch rfl rfl rfl (by decide +kernel) ⟨Nat.le_of_ble_eq_true rfl, Nat.le_of_ble_eq_true rfl⟩) ⟨kP_blind, va_recv hKc hPc (ci := 4) (q0 := 0) rfl rfl, kP_go hPc hKc hDc hFc hM hS⟩ rfl rfl hl.1 rfl (lv_room (Nat.le_of_ble_eq_true rfl)) dX9_keepTime_51 ⟨Nat.le_of_ble_eq_true rfl, Nat.le_of_ble_eq_true rfl⟩) hS (fun q _ h => hFc q h) hFc (fun u t H1 locs ht hvm hw hB hz1 hk1 hS => ?_)
      obtain ⟨u20, u21, hB⟩ := hB
      obtain ⟨hP, hD, hK⟩ := kJ (wr := [(sh, .inr (13, [.ref rg, .ref dk, .ref hd, .ref lg, .ref pl, .ref pr, .int 0, .int 0, .int 0, .int 0, .int 0, .int mi, .int 0, .int 0, .int 0, .int fo, .int 0])), (hd, .inr (6, [.ref hu, .ref hy, .int 0])), (hu, .inl (cU, 20, .inl (fun _ => 0))), (hy, .inl (cW, 20, .inl (fun _ => 0))), (pr, .inr (10, [.long u13, .long u14]))]) (w1 := [(w0, .inr (14, [.int u20, .int k0])), (dk, .inr (4, [.ref w0, .ref w1, .ref ol, .int 1, .int 0, .int 0, .int 0])), (w1, .inr (14, [.int u21, .int k1]))]) (t1 := []) hP hD hK [1, 2, 3] [0, 4, 5, 6, 7] rfl rfl (by decide) (by decide) hk1 hFc ht hvm hB
      generalize H1 = H at hP hS ⊢
      have hP : va_P (dC, dI) vwCl [(sh, .inr (13, [.ref rg, .ref dk, .ref hd, .ref lg, .ref pl, .ref pr, .int 0, .int 0, .int 0, .int 0, .int 0, .int mi, .int 0, .int 0, .int 0, .int fo, .int 0])), (hd, .inr (6, [.ref hu, .ref hy, .int 0])), (hu, .inl (cU, 20, .inl (fun _ => 0))), (hy, .inl (cW, 20, .inl (fun _ => 0))), (pr, .inr (10, [.long u13, .long u14])), (w0, .inr (14, [.int u20, .int k0])), (dk, .inr (4, [.ref w0, .ref w1, .ref ol, .int 1, .int 0, .int 0, .int 0])), (w1, .inr (14, [.int u21, .int k1]))] H := hP
      have hD : va_D A [(sh, .inr (13, [.ref rg, .ref dk, .ref hd, .ref lg, .ref pl, .ref pr, .int 0, .int 0, .int 0, .int 0, .int 0, .int mi, .int 0, .int 0, .int 0, .int fo, .int 0])), (hd, .inr (6, [.ref hu, .ref hy, .int 0])), (hu, .inl (cU, 20, .inl (fun _ => 0))), (hy, .inl (cW, 20, .inl (fun _ => 0))), (pr, .inr (10, [.long u13, .long u14])), (w0, .inr (14, [.int u20, .int k0])), (dk, .inr (4, [.ref w0, .ref w1, .ref ol, .int 1, .int 0, .int 0, .int 0])), (w1, .inr (14, [.int u21, .int k1]))] := hD
      have hK : va_K (dC, dI) vwCl [(cU, .int), (cW, .boolean)] s := hK
      clear hw
      refine lv_aload_n hx hb dX9_keepTime_54 rfl (lv_at hl 1 rfl) ?_
      refine va_get (D := (dC, dI)) (ci := 13) (v := .int mi) (C := RX9) (T := TX9) (N := 17) hx hb hts hiX9 hown hK hP 0 rfl rfl 11 (by decide) (hts (.fieldLink RX9 65 "SquareRig$Ship" "minute" "I") (by decide +kernel)) (fun _ h9 => h9) rfl dX9_keepTime_55 ?_
      refine lv_sipush (v := 1440) hx hb dX9_keepTime_58 (by decide) ?_
      refine lv_irem hx hb dX9_keepTime_61 (by decide +kernel) ?_
      refine lv_if_ne (tgt := 69) hx hb dX9_keepTime_62 (by decide) (fun c22 => ?_) (fun c22 => ?_)
      · skip
        exact W.vret hx hb hr (fun t ht hW => ⟨⟨(), rfl, trivial, ⟨fo, u13, u14, 1, u20, k0, u21, k1, (Or.inr rfl), kB_end (w9 := [(sh, .inr (13, [.ref rg, .ref dk, .ref hd, .ref lg, .ref pl, .ref pr, .int 0, .int 0, .int 0, .int 0, .int 0, .int mi, .int 0, .int 0, .int 0, .int fo, .int 0])), (pr, .inr (10, [.long u13, .long u14])), (dk, .inr (4, [.ref w0, .ref w1, .ref ol, .int 1, .int 0, .int 0, .int 0])), (w0, .inr (14, [.int u20, .int k0])), (w1, .inr (14, [.int u21, .int k1])), (hd, .inr (6, [.ref hu, .ref hy, .int 0])), (hu, .inl (cU, 20, .inl (fun _ => 0))), (hy, .inl (cW, 20, .inl (fun _ => 0)))]) (t9 := []) hP hK hD [0, 4, 6, 5, 7, 1, 2, 3] [] rfl (by decide) rfl rfl t ht hW⟩⟩, hS.F ht⟩) hS.2.2 dX9_keepTime_69
      · skip
        refine lv_aload_n hx hb dX9_keepTime_65 rfl (lv_at hl 1 rfl) ?_
        have hPc := hP.sub (ws' := [(sh, .inr (13, [.ref rg, .ref dk, .ref hd, .ref lg, .ref pl, .ref pr, .int 0, .int 0, .int 0, .int 0, .int 0, .int mi, .int 0, .int 0, .int 0, .int fo, .int 0])), (dk, .inr (4, [.ref w0, .ref w1, .ref ol, .int 1, .int 0, .int 0, .int 0])), (w0, .inr (14, [.int u20, .int k0])), (w1, .inr (14, [.int u21, .int k1])), (hd, .inr (6, [.ref hu, .ref hy, .int 0])), (hu, .inl (cU, 20, .inl (fun _ => 0))), (hy, .inl (cW, 20, .inl (fun _ => 0)))]) [0, 6, 5, 7, 1, 2, 3] rfl
        have hDc := hD.sub (ws' := [(sh, .inr (13, [.ref rg, .ref dk, .ref hd, .ref lg, .ref pl, .ref pr, .int 0, .int 0, .int 0, .int 0, .int 0, .int mi, .int 0, .int 0, .int 0, .int fo, .int 0])), (dk, .inr (4, [.ref w0, .ref w1, .ref ol, .int 1, .int 0, .int 0, .int 0])), (w0, .inr (14, [.int u20, .int k0])), (w1, .inr (14, [.int u21, .int k1])), (hd, .inr (6, [.ref hu, .ref hy, .int 0])), (hu, .inl (cU, 20, .inl (fun _ => 0))), (hy, .inl (cW, 20, .inl (fun _ => 0)))]) [0, 6, 5, 7, 1, 2, 3] (by decide) rfl
        have hKc := hK.sub (tys' := [(cU, .int), (cW, .boolean)]) [0, 1] rfl
        have hFc := va_free (wc := [(sh, .inr (13, [.ref rg, .ref dk, .ref hd, .ref lg, .ref pl, .ref pr, .int 0, .int 0, .int 0, .int 0, .int 0, .int mi, .int 0, .int 0, .int 0, .int fo, .int 0])), (dk, .inr (4, [.ref w0, .ref w1, .ref ol, .int 1, .int 0, .int 0, .int 0])), (w0, .inr (14, [.int u20, .int k0])), (w1, .inr (14, [.int u21, .int k1])), (hd, .inr (6, [.ref hu, .ref hy, .int 0])), (hu, .inl (cU, 20, .inl (fun _ => 0))), (hy, .inl (cW, 20, .inl (fun _ => 0)))]) hD hS hA [0, 6, 5, 7, 1, 2, 3] rfl
        refine va_callv (va_runV (As := []) (rest := []) ⟨hx, hb, hml, hown, hts⟩ (k_endDay1 l dC dI z zK zV sh rg dk w0 w1 ol hd hu hy lg pl pr cU cW mi fo u20 k0 u21 k1 H.size) (cwV 0 hts gX9_keepTime_X9_endDay rfl rfl rfl (by decide +kernel) ⟨Nat.le_of_ble_eq_true rfl, Nat.le_of_ble_eq_true rfl⟩) ⟨kP_blind, va_recv hKc hPc (ci := 13) (q0 := 0) rfl rfl, kP_go hPc hKc hDc hFc hM hS⟩ rfl rfl hl.1 rfl (lv_room (Nat.le_of_ble_eq_true rfl)) dX9_keepTime_66 ⟨Nat.le_of_ble_eq_true rfl, Nat.le_of_ble_eq_true rfl⟩) hS (fun q _ h => hFc q h) hFc (fun u t H1 locs ht hvm hw hB hz1 hk1 hS => ?_)
        obtain ⟨u23, u24, u25, hB⟩ := hB
        obtain ⟨hP, hD, hK⟩ := kJ (wr := [(pr, .inr (10, [.long u13, .long u14]))]) (w1 := [(sh, .inr (13, [.ref rg, .ref dk, .ref hd, .ref lg, .ref pl, .ref pr, .int 0, .int 0, .int 0, .int 0, .int 0, .int mi, .int 0, .int 0, .int 0, .int u23, .int 0])), (hd, .inr (6, [.ref hu, .ref hy, .int 0])), (hu, .inl (cU, 20, .inl (fun _ => 0))), (hy, .inl (cW, 20, .inl (fun _ => 0))), (dk, .inr (4, [.ref w0, .ref w1, .ref ol, .int 1, .int 0, .int 0, .int 0])), (w0, .inr (14, [.int u20, .int u24])), (w1, .inr (14, [.int u21, .int u25]))]) (t1 := []) hP hD hK [0, 6, 5, 7, 1, 2, 3] [4] rfl rfl (by decide) (by decide) hk1 hFc ht hvm hB
        generalize H1 = H at hP hS ⊢
        have hP : va_P (dC, dI) vwCl [(pr, .inr (10, [.long u13, .long u14])), (sh, .inr (13, [.ref rg, .ref dk, .ref hd, .ref lg, .ref pl, .ref pr, .int 0, .int 0, .int 0, .int 0, .int 0, .int mi, .int 0, .int 0, .int 0, .int u23, .int 0])), (hd, .inr (6, [.ref hu, .ref hy, .int 0])), (hu, .inl (cU, 20, .inl (fun _ => 0))), (hy, .inl (cW, 20, .inl (fun _ => 0))), (dk, .inr (4, [.ref w0, .ref w1, .ref ol, .int 1, .int 0, .int 0, .int 0])), (w0, .inr (14, [.int u20, .int u24])), (w1, .inr (14, [.int u21, .int u25]))] H := hP
        have hD : va_D A [(pr, .inr (10, [.long u13, .long u14])), (sh, .inr (13, [.ref rg, .ref dk, .ref hd, .ref lg, .ref pl, .ref pr, .int 0, .int 0, .int 0, .int 0, .int 0, .int mi, .int 0, .int 0, .int 0, .int u23, .int 0])), (hd, .inr (6, [.ref hu, .ref hy, .int 0])), (hu, .inl (cU, 20, .inl (fun _ => 0))), (hy, .inl (cW, 20, .inl (fun _ => 0))), (dk, .inr (4, [.ref w0, .ref w1, .ref ol, .int 1, .int 0, .int 0, .int 0])), (w0, .inr (14, [.int u20, .int u24])), (w1, .inr (14, [.int u21, .int u25]))] := hD
        have hK : va_K (dC, dI) vwCl [(cU, .int), (cW, .boolean)] s := hK
        clear hw
        exact W.vret hx hb hr (fun t ht hW => ⟨⟨(), rfl, trivial, ⟨u23, u13, u14, 1, u20, u24, u21, u25, (Or.inr rfl), kB_end (w9 := [(sh, .inr (13, [.ref rg, .ref dk, .ref hd, .ref lg, .ref pl, .ref pr, .int 0, .int 0, .int 0, .int 0, .int 0, .int mi, .int 0, .int 0, .int 0, .int u23, .int 0])), (pr, .inr (10, [.long u13, .long u14])), (dk, .inr (4, [.ref w0, .ref w1, .ref ol, .int 1, .int 0, .int 0, .int 0])), (w0, .inr (14, [.int u20, .int u24])), (w1, .inr (14, [.int u21, .int u25])), (hd, .inr (6, [.ref hu, .ref hy, .int 0])), (hu, .inl (cU, 20, .inl (fun _ => 0))), (hy, .inl (cW, 20, .inl (fun _ => 0)))]) (t9 := []) hP hK hD [1, 0, 5, 6, 7, 2, 3, 4] [] rfl (by decide) rfl rfl t ht hW⟩⟩, hS.F ht⟩) hS.2.2 dX9_keepTime_69
abbrev wd_k_keepTime1 (z : Nat → Nat) (sh : Nat) (rg : Nat) (dk : Nat) (w0 : Nat) (w1 : Nat) (ol : Nat) (hd : Nat) (hu : Nat) (hy : Nat) (lg : Nat) (pl : Nat) (pr : Nat) (cU : ClassId) (cW : ClassId) (mi : Int32) (fo : Int32) (t0 : Int32) (k0 : Int32) (t1 : Int32) (k1 : Int32) (re : Int64) (rn : Int64) : va_W := [(sh, .inr (13, [.ref rg, .ref dk, .ref hd, .ref lg, .ref pl, .ref pr, .int 0, .int 0, .int 0, .int 0, .int 0, .int mi, .int 0, .int 0, .int 0, .int fo, .int 0])), (pr, .inr (10, [.long re, .long rn])), (dk, .inr (4, [.ref w0, .ref w1, .ref ol, .int 1, .int 0, .int 0, .int 0])), (w0, .inr (14, [.int t0, .int k0])), (w1, .inr (14, [.int t1, .int k1])), (hd, .inr (6, [.ref hu, .ref hy, .int 0])), (hu, .inl (cU, 20, .inl (fun _ => 0))), (hy, .inl (cW, 20, .inl (fun _ => 0)))]
set_option maxHeartbeats 4000000 in
set_option maxRecDepth 100000 in
theorem k_keepTime1 (l : Launch) (dC : Nat → ClassId) (dI : Nat → Nat → Nat) (z zK zV : Nat → Nat) (sh : Nat) (rg : Nat) (dk : Nat) (w0 : Nat) (w1 : Nat) (ol : Nat) (hd : Nat) (hu : Nat) (hy : Nat) (lg : Nat) (pl : Nat) (pr : Nat) (cU : ClassId) (cW : ClassId) (mi : Int32) (fo : Int32) (t0 : Int32) (k0 : Int32) (t1 : Int32) (k1 : Int32) (re : Int64) (rn : Int64) (sz : Nat)  : Met l yX9_keepTime wsX9_keepTime ({ frames := 3, cells := 0, slots := 0, locals := 63 }) (kP dC dI z zK zV [.ref sh] sz (wd_k_keepTime1 z sh rg dk w0 w1 ol hd hu hy lg pl pr cU cW mi fo t0 k0 t1 k1 re rn) [(cU, .int), (cW, .boolean)]) (va_Qv (fun _ : Unit => True) (fun _ t => ∃ (u1 : Int32) (u2 : Int64) (u3 : Int64) (u4 : Int32) (u5 : Int32) (u6 : Int32) (u7 : Int32) (u8 : Int32), (u4 = 0 ∨ u4 = 1) ∧ kB (dC, dI) (va_A (wd_k_keepTime1 z sh rg dk w0 w1 ol hd hu hy lg pl pr cU cW mi fo t0 k0 t1 k1 re rn) sz) [(sh, .inr (13, [.ref rg, .ref dk, .ref hd, .ref lg, .ref pl, .ref pr, .int 0, .int 0, .int 0, .int 0, .int 0, .int mi, .int 0, .int 0, .int 0, .int u1, .int 0])), (pr, .inr (10, [.long u2, .long u3])), (dk, .inr (4, [.ref w0, .ref w1, .ref ol, .int u4, .int 0, .int 0, .int 0])), (w0, .inr (14, [.int u5, .int u6])), (w1, .inr (14, [.int u7, .int u8])), (hd, .inr (6, [.ref hu, .ref hy, .int 0])), (hu, .inl (cU, 20, .inl (fun _ => 0))), (hy, .inl (cW, 20, .inl (fun _ => 0)))] [] t) (va_A (wd_k_keepTime1 z sh rg dk w0 w1 ol hd hu hy lg pl pr cU cW mi fo t0 k0 t1 k1 re rn) sz)) 0 0 (va_A (wd_k_keepTime1 z sh rg dk w0 w1 ol hd hu hy lg pl pr cU cW mi fo t0 k0 t1 k1 re rn) sz) := by
  refine Met.ofW (cc := cX9_keepTime) (maxL := 2) (ret := none) (by decide) rfl ?_
  intro p e s m args below meth c s₁ B hml hv
  obtain ⟨rfl, hsz, hP, hK, hD0, hM⟩ := hv
  have hx := B.exec
  have hb := B.bytes
  have hr := B.returns
  have hts := atoms_spec (ws := wsX9_keepTime) B.pre
  have hown : s.vm.findClass RX9 = some m.cls := findClass_of_methodNamed B.named
  have hlocks := B.notSynchronized
  have hiX9 : ∀ w ∈ u_ws RX9 TX9 17, w ∈ wsX9_keepTime := by decide +kernel
  subst hsz
  have hD := hD0.self (sz := s.heap.size)
  generalize hAe : va_A (wd_k_keepTime1 z sh rg dk w0 w1 ol hd hu hy lg pl pr cU cW mi fo t0 k0 t1 k1 re rn) s.heap.size = A at hD hM ⊢
  have hA : ∀ q : Nat, s.heap.size ≤ q → A q := fun q h => by rw [← hAe]; exact Or.inr h
  have hS : va_S A s.heap s.heap [] := va_S.rf
  have hP : va_P (dC, dI) vwCl [(sh, .inr (13, [.ref rg, .ref dk, .ref hd, .ref lg, .ref pl, .ref pr, .int 0, .int 0, .int 0, .int 0, .int 0, .int mi, .int 0, .int 0, .int 0, .int fo, .int 0])), (pr, .inr (10, [.long re, .long rn])), (dk, .inr (4, [.ref w0, .ref w1, .ref ol, .int 1, .int 0, .int 0, .int 0])), (w0, .inr (14, [.int t0, .int k0])), (w1, .inr (14, [.int t1, .int k1])), (hd, .inr (6, [.ref hu, .ref hy, .int 0])), (hu, .inl (cU, 20, .inl (fun _ => 0))), (hy, .inl (cW, 20, .inl (fun _ => 0)))] s.heap := hP
  have hD : va_D A [(sh, .inr (13, [.ref rg, .ref dk, .ref hd, .ref lg, .ref pl, .ref pr, .int 0, .int 0, .int 0, .int 0, .int 0, .int mi, .int 0, .int 0, .int 0, .int fo, .int 0])), (pr, .inr (10, [.long re, .long rn])), (dk, .inr (4, [.ref w0, .ref w1, .ref ol, .int 1, .int 0, .int 0, .int 0])), (w0, .inr (14, [.int t0, .int k0])), (w1, .inr (14, [.int t1, .int k1])), (hd, .inr (6, [.ref hu, .ref hy, .int 0])), (hu, .inl (cU, 20, .inl (fun _ => 0))), (hy, .inl (cW, 20, .inl (fun _ => 0)))] := hD
  have hl := lv_entry ([.ref sh]) (n := 2) (Nat.le_of_ble_eq_true rfl)
  rw [lg_entry_eq]
  generalize (lg_sl ([.ref sh]) ++ List.replicate (2 - (lg_sl ([.ref sh])).length) Slot.unset).toArray = ls at hl ⊢
  have hl : lv_has ls 2 [(0, .ref sh)] := hl
  refine lv_aload_n hx hb dX9_keepTime_0 rfl (lv_at hl 0 rfl) ?_
  refine va_get (D := (dC, dI)) (ci := 13) (v := .int mi) (C := RX9) (T := TX9) (N := 17) hx hb hts hiX9 hown hK hP 0 rfl rfl 11 (by decide) (hts (.fieldLink RX9 65 "SquareRig$Ship" "minute" "I") (by decide +kernel)) (fun _ h9 => h9) rfl dX9_keepTime_1 ?_
  refine lv_bipush (v := 30) hx hb dX9_keepTime_4 (by decide) ?_
  refine lv_irem hx hb dX9_keepTime_6 (by decide +kernel) ?_
  refine lv_if_ne (tgt := 36) hx hb dX9_keepTime_7 (by decide) (fun c1 => ?_) (fun c1 => ?_)
  · skip
    refine lv_aload_n hx hb dX9_keepTime_36 rfl (lv_at hl 0 rfl) ?_
    refine va_get (D := (dC, dI)) (ci := 13) (v := .int mi) (C := RX9) (T := TX9) (N := 17) hx hb hts hiX9 hown hK hP 0 rfl rfl 11 (by decide) (hts (.fieldLink RX9 65 "SquareRig$Ship" "minute" "I") (by decide +kernel)) (fun _ h9 => h9) rfl dX9_keepTime_37 ?_
    refine lv_sipush (v := 240) hx hb dX9_keepTime_40 (by decide) ?_
    refine lv_irem hx hb dX9_keepTime_43 (by decide +kernel) ?_
    refine lv_if_ne (tgt := 54) hx hb dX9_keepTime_44 (by decide) (fun c2 => ?_) (fun c2 => ?_)
    · skip
      refine lv_aload_n hx hb dX9_keepTime_54 rfl (lv_at hl 0 rfl) ?_
      refine va_get (D := (dC, dI)) (ci := 13) (v := .int mi) (C := RX9) (T := TX9) (N := 17) hx hb hts hiX9 hown hK hP 0 rfl rfl 11 (by decide) (hts (.fieldLink RX9 65 "SquareRig$Ship" "minute" "I") (by decide +kernel)) (fun _ h9 => h9) rfl dX9_keepTime_55 ?_
      refine lv_sipush (v := 1440) hx hb dX9_keepTime_58 (by decide) ?_
      refine lv_irem hx hb dX9_keepTime_61 (by decide +kernel) ?_
      refine lv_if_ne (tgt := 69) hx hb dX9_keepTime_62 (by decide) (fun c3 => ?_) (fun c3 => ?_)
      · skip
        exact W.vret hx hb hr (fun t ht hW => ⟨⟨(), rfl, trivial, ⟨fo, re, rn, 1, t0, k0, t1, k1, (Or.inr rfl), kB_end (w9 := [(sh, .inr (13, [.ref rg, .ref dk, .ref hd, .ref lg, .ref pl, .ref pr, .int 0, .int 0, .int 0, .int 0, .int 0, .int mi, .int 0, .int 0, .int 0, .int fo, .int 0])), (pr, .inr (10, [.long re, .long rn])), (dk, .inr (4, [.ref w0, .ref w1, .ref ol, .int 1, .int 0, .int 0, .int 0])), (w0, .inr (14, [.int t0, .int k0])), (w1, .inr (14, [.int t1, .int k1])), (hd, .inr (6, [.ref hu, .ref hy, .int 0])), (hu, .inl (cU, 20, .inl (fun _ => 0))), (hy, .inl (cW, 20, .inl (fun _ => 0)))]) (t9 := []) hP hK hD [0, 1, 2, 3, 4, 5, 6, 7] [] rfl (by decide) rfl rfl t ht hW⟩⟩, hS.F ht⟩) hS.2.2 dX9_keepTime_69
      · skip
        refine lv_aload_n hx hb dX9_keepTime_65 rfl (lv_at hl 0 rfl) ?_
        have hPc := hP.sub (ws' := [(sh, .inr (13, [.ref rg, .ref dk, .ref hd, .ref lg, .ref pl, .ref pr, .int 0, .int 0, .int 0, .int 0, .int 0, .int mi, .int 0, .int 0, .int 0, .int fo, .int 0])), (dk, .inr (4, [.ref w0, .ref w1, .ref ol, .int 1, .int 0, .int 0, .int 0])), (w0, .inr (14, [.int t0, .int k0])), (w1, .inr (14, [.int t1, .int k1])), (hd, .inr (6, [.ref hu, .ref hy, .int 0])), (hu, .inl (cU, 20, .inl (fun _ => 0))), (hy, .inl (cW, 20, .inl (fun _ => 0)))]) [0, 2, 3, 4, 5, 6, 7] rfl
        have hDc := hD.sub (ws' := [(sh, .inr (13, [.ref rg, .ref dk, .ref hd, .ref lg, .ref pl, .ref pr, .int 0, .int 0, .int 0, .int 0, .int 0, .int mi, .int 0, .int 0, .int 0, .int fo, .int 0])), (dk, .inr (4, [.ref w0, .ref w1, .ref ol, .int 1, .int 0, .int 0, .int 0])), (w0, .inr (14, [.int t0, .int k0])), (w1, .inr (14, [.int t1, .int k1])), (hd, .inr (6, [.ref hu, .ref hy, .int 0])), (hu, .inl (cU, 20, .inl (fun _ => 0))), (hy, .inl (cW, 20, .inl (fun _ => 0)))]) [0, 2, 3, 4, 5, 6, 7] (by decide) rfl
        have hKc := hK.sub (tys' := [(cU, .int), (cW, .boolean)]) [0, 1] rfl
        have hFc := va_free (wc := [(sh, .inr (13, [.ref rg, .ref dk, .ref hd, .ref lg, .ref pl, .ref pr, .int 0, .int 0, .int 0, .int 0, .int 0, .int mi, .int 0, .int 0, .int 0, .int fo, .int 0])), (dk, .inr (4, [.ref w0, .ref w1, .ref ol, .int 1, .int 0, .int 0, .int 0])), (w0, .inr (14, [.int t0, .int k0])), (w1, .inr (14, [.int t1, .int k1])), (hd, .inr (6, [.ref hu, .ref hy, .int 0])), (hu, .inl (cU, 20, .inl (fun _ => 0))), (hy, .inl (cW, 20, .inl (fun _ => 0)))]) hD hS hA [0, 2, 3, 4, 5, 6, 7] rfl
        refine va_callv (va_runV (As := []) (rest := []) ⟨hx, hb, hml, hown, hts⟩ (k_endDay1 l dC dI z zK zV sh rg dk w0 w1 ol hd hu hy lg pl pr cU cW mi fo t0 k0 t1 k1 s.heap.size) (cwV 0 hts gX9_keepTime_X9_endDay rfl rfl rfl (by decide +kernel) ⟨Nat.le_of_ble_eq_true rfl, Nat.le_of_ble_eq_true rfl⟩) ⟨kP_blind, va_recv hKc hPc (ci := 13) (q0 := 0) rfl rfl, kP_go hPc hKc hDc hFc hM hS⟩ rfl rfl hl.1 rfl (lv_room (Nat.le_of_ble_eq_true rfl)) dX9_keepTime_66 ⟨Nat.le_of_ble_eq_true rfl, Nat.le_of_ble_eq_true rfl⟩) hS (fun q _ h => hFc q h) hFc (fun u t H1 locs ht hvm hw hB hz1 hk1 hS => ?_)
        obtain ⟨u4, u5, u6, hB⟩ := hB
        obtain ⟨hP, hD, hK⟩ := kJ (wr := [(pr, .inr (10, [.long re, .long rn]))]) (w1 := [(sh, .inr (13, [.ref rg, .ref dk, .ref hd, .ref lg, .ref pl, .ref pr, .int 0, .int 0, .int 0, .int 0, .int 0, .int mi, .int 0, .int 0, .int 0, .int u4, .int 0])), (hd, .inr (6, [.ref hu, .ref hy, .int 0])), (hu, .inl (cU, 20, .inl (fun _ => 0))), (hy, .inl (cW, 20, .inl (fun _ => 0))), (dk, .inr (4, [.ref w0, .ref w1, .ref ol, .int 1, .int 0, .int 0, .int 0])), (w0, .inr (14, [.int t0, .int u5])), (w1, .inr (14, [.int t1, .int u6]))]) (t1 := []) hP hD hK [0, 2, 3, 4, 5, 6, 7] [1] rfl rfl (by decide) (by decide) hk1 hFc ht hvm hB
        generalize H1 = H at hP hS ⊢
        have hP : va_P (dC, dI) vwCl [(pr, .inr (10, [.long re, .long rn])), (sh, .inr (13, [.ref rg, .ref dk, .ref hd, .ref lg, .ref pl, .ref pr, .int 0, .int 0, .int 0, .int 0, .int 0, .int mi, .int 0, .int 0, .int 0, .int u4, .int 0])), (hd, .inr (6, [.ref hu, .ref hy, .int 0])), (hu, .inl (cU, 20, .inl (fun _ => 0))), (hy, .inl (cW, 20, .inl (fun _ => 0))), (dk, .inr (4, [.ref w0, .ref w1, .ref ol, .int 1, .int 0, .int 0, .int 0])), (w0, .inr (14, [.int t0, .int u5])), (w1, .inr (14, [.int t1, .int u6]))] H := hP
        have hD : va_D A [(pr, .inr (10, [.long re, .long rn])), (sh, .inr (13, [.ref rg, .ref dk, .ref hd, .ref lg, .ref pl, .ref pr, .int 0, .int 0, .int 0, .int 0, .int 0, .int mi, .int 0, .int 0, .int 0, .int u4, .int 0])), (hd, .inr (6, [.ref hu, .ref hy, .int 0])), (hu, .inl (cU, 20, .inl (fun _ => 0))), (hy, .inl (cW, 20, .inl (fun _ => 0))), (dk, .inr (4, [.ref w0, .ref w1, .ref ol, .int 1, .int 0, .int 0, .int 0])), (w0, .inr (14, [.int t0, .int u5])), (w1, .inr (14, [.int t1, .int u6]))] := hD
        have hK : va_K (dC, dI) vwCl [(cU, .int), (cW, .boolean)] s := hK
        clear hw
        exact W.vret hx hb hr (fun t ht hW => ⟨⟨(), rfl, trivial, ⟨u4, re, rn, 1, t0, u5, t1, u6, (Or.inr rfl), kB_end (w9 := [(sh, .inr (13, [.ref rg, .ref dk, .ref hd, .ref lg, .ref pl, .ref pr, .int 0, .int 0, .int 0, .int 0, .int 0, .int mi, .int 0, .int 0, .int 0, .int u4, .int 0])), (pr, .inr (10, [.long re, .long rn])), (dk, .inr (4, [.ref w0, .ref w1, .ref ol, .int 1, .int 0, .int 0, .int 0])), (w0, .inr (14, [.int t0, .int u5])), (w1, .inr (14, [.int t1, .int u6])), (hd, .inr (6, [.ref hu, .ref hy, .int 0])), (hu, .inl (cU, 20, .inl (fun _ => 0))), (hy, .inl (cW, 20, .inl (fun _ => 0)))]) (t9 := []) hP hK hD [1, 0, 5, 6, 7, 2, 3, 4] [] rfl (by decide) rfl rfl t ht hW⟩⟩, hS.F ht⟩) hS.2.2 dX9_keepTime_69
    · skip
      refine lv_aload_n hx hb dX9_keepTime_47 rfl (lv_at hl 0 rfl) ?_
      refine va_get (D := (dC, dI)) (ci := 13) (v := .ref dk) (C := RX9) (T := TX9) (N := 17) hx hb hts hiX9 hown hK hP 0 rfl rfl 1 (by decide) (hts (.fieldLink RX9 21 "SquareRig$Ship" "deck" "LSquareRig$Deck;") (by decide +kernel)) (fun _ h9 => h9) rfl dX9_keepTime_48 ?_
      have hPc := hP.sub (ws' := [(dk, .inr (4, [.ref w0, .ref w1, .ref ol, .int 1, .int 0, .int 0, .int 0])), (w0, .inr (14, [.int t0, .int k0])), (w1, .inr (14, [.int t1, .int k1]))]) [2, 3, 4] rfl
      have hDc := hD.sub (ws' := [(dk, .inr (4, [.ref w0, .ref w1, .ref ol, .int 1, .int 0, .int 0, .int 0])), (w0, .inr (14, [.int t0, .int k0])), (w1, .inr (14, [.int t1, .int k1]))]) [2, 3, 4] (by decide) rfl
      have hKc := hK.sub (tys' := []) [] rfl
      have hFc := va_free (wc := [(dk, .inr (4, [.ref w0, .ref w1, .ref ol, .int 1, .int 0, .int 0, .int 0])), (w0, .inr (14, [.int t0, .int k0])), (w1, .inr (14, [.int t1, .int k1]))]) hD hS hA [2, 3, 4] rfl
      refine va_callv (va_runV (As := []) (rest := []) ⟨hx, hb, hml, hown, hts⟩ (k_changeWatch1 l dC dI z zK zV dk w0 w1 ol t0 k0 t1 k1 s.heap.size) (cwV 0 hts gX9_keepTime_X0_changeWatch rfl rfl rfl (by decide +kernel) ⟨Nat.le_of_ble_eq_true rfl, Nat.le_of_ble_eq_true rfl⟩) ⟨kP_blind, va_recv hKc hPc (ci := 4) (q0 := 0) rfl rfl, kP_go hPc hKc hDc hFc hM hS⟩ rfl rfl hl.1 rfl (lv_room (Nat.le_of_ble_eq_true rfl)) dX9_keepTime_51 ⟨Nat.le_of_ble_eq_true rfl, Nat.le_of_ble_eq_true rfl⟩) hS (fun q _ h => hFc q h) hFc (fun u t H1 locs ht hvm hw hB hz1 hk1 hS => ?_)
      obtain ⟨u7, u8, hB⟩ := hB
      obtain ⟨hP, hD, hK⟩ := kJ (wr := [(sh, .inr (13, [.ref rg, .ref dk, .ref hd, .ref lg, .ref pl, .ref pr, .int 0, .int 0, .int 0, .int 0, .int 0, .int mi, .int 0, .int 0, .int 0, .int fo, .int 0])), (pr, .inr (10, [.long re, .long rn])), (hd, .inr (6, [.ref hu, .ref hy, .int 0])), (hu, .inl (cU, 20, .inl (fun _ => 0))), (hy, .inl (cW, 20, .inl (fun _ => 0)))]) (w1 := [(w1, .inr (14, [.int u7, .int k1])), (dk, .inr (4, [.ref w0, .ref w1, .ref ol, .int 0, .int 0, .int 0, .int 0])), (w0, .inr (14, [.int u8, .int k0]))]) (t1 := []) hP hD hK [2, 3, 4] [0, 1, 5, 6, 7] rfl rfl (by decide) (by decide) hk1 hFc ht hvm hB
      generalize H1 = H at hP hS ⊢
      have hP : va_P (dC, dI) vwCl [(sh, .inr (13, [.ref rg, .ref dk, .ref hd, .ref lg, .ref pl, .ref pr, .int 0, .int 0, .int 0, .int 0, .int 0, .int mi, .int 0, .int 0, .int 0, .int fo, .int 0])), (pr, .inr (10, [.long re, .long rn])), (hd, .inr (6, [.ref hu, .ref hy, .int 0])), (hu, .inl (cU, 20, .inl (fun _ => 0))), (hy, .inl (cW, 20, .inl (fun _ => 0))), (w1, .inr (14, [.int u7, .int k1])), (dk, .inr (4, [.ref w0, .ref w1, .ref ol, .int 0, .int 0, .int 0, .int 0])), (w0, .inr (14, [.int u8, .int k0]))] H := hP
      have hD : va_D A [(sh, .inr (13, [.ref rg, .ref dk, .ref hd, .ref lg, .ref pl, .ref pr, .int 0, .int 0, .int 0, .int 0, .int 0, .int mi, .int 0, .int 0, .int 0, .int fo, .int 0])), (pr, .inr (10, [.long re, .long rn])), (hd, .inr (6, [.ref hu, .ref hy, .int 0])), (hu, .inl (cU, 20, .inl (fun _ => 0))), (hy, .inl (cW, 20, .inl (fun _ => 0))), (w1, .inr (14, [.int u7, .int k1])), (dk, .inr (4, [.ref w0, .ref w1, .ref ol, .int 0, .int 0, .int 0, .int 0])), (w0, .inr (14, [.int u8, .int k0]))] := hD
      have hK : va_K (dC, dI) vwCl [(cU, .int), (cW, .boolean)] s := hK
      clear hw
      refine lv_aload_n hx hb dX9_keepTime_54 rfl (lv_at hl 0 rfl) ?_
      refine va_get (D := (dC, dI)) (ci := 13) (v := .int mi) (C := RX9) (T := TX9) (N := 17) hx hb hts hiX9 hown hK hP 0 rfl rfl 11 (by decide) (hts (.fieldLink RX9 65 "SquareRig$Ship" "minute" "I") (by decide +kernel)) (fun _ h9 => h9) rfl dX9_keepTime_55 ?_
      refine lv_sipush (v := 1440) hx hb dX9_keepTime_58 (by decide) ?_
      refine lv_irem hx hb dX9_keepTime_61 (by decide +kernel) ?_
      refine lv_if_ne (tgt := 69) hx hb dX9_keepTime_62 (by decide) (fun c9 => ?_) (fun c9 => ?_)
      · skip
        exact W.vret hx hb hr (fun t ht hW => ⟨⟨(), rfl, trivial, ⟨fo, re, rn, 0, u8, k0, u7, k1, (Or.inl rfl), kB_end (w9 := [(sh, .inr (13, [.ref rg, .ref dk, .ref hd, .ref lg, .ref pl, .ref pr, .int 0, .int 0, .int 0, .int 0, .int 0, .int mi, .int 0, .int 0, .int 0, .int fo, .int 0])), (pr, .inr (10, [.long re, .long rn])), (dk, .inr (4, [.ref w0, .ref w1, .ref ol, .int 0, .int 0, .int 0, .int 0])), (w0, .inr (14, [.int u8, .int k0])), (w1, .inr (14, [.int u7, .int k1])), (hd, .inr (6, [.ref hu, .ref hy, .int 0])), (hu, .inl (cU, 20, .inl (fun _ => 0))), (hy, .inl (cW, 20, .inl (fun _ => 0)))]) (t9 := []) hP hK hD [0, 1, 6, 7, 5, 2, 3, 4] [] rfl (by decide) rfl rfl t ht hW⟩⟩, hS.F ht⟩) hS.2.2 dX9_keepTime_69
      · skip
        refine lv_aload_n hx hb dX9_keepTime_65 rfl (lv_at hl 0 rfl) ?_
        have hPc := hP.sub (ws' := [(sh, .inr (13, [.ref rg, .ref dk, .ref hd, .ref lg, .ref pl, .ref pr, .int 0, .int 0, .int 0, .int 0, .int 0, .int mi, .int 0, .int 0, .int 0, .int fo, .int 0])), (dk, .inr (4, [.ref w0, .ref w1, .ref ol, .int 0, .int 0, .int 0, .int 0])), (w0, .inr (14, [.int u8, .int k0])), (w1, .inr (14, [.int u7, .int k1])), (hd, .inr (6, [.ref hu, .ref hy, .int 0])), (hu, .inl (cU, 20, .inl (fun _ => 0))), (hy, .inl (cW, 20, .inl (fun _ => 0)))]) [0, 6, 7, 5, 2, 3, 4] rfl
        have hDc := hD.sub (ws' := [(sh, .inr (13, [.ref rg, .ref dk, .ref hd, .ref lg, .ref pl, .ref pr, .int 0, .int 0, .int 0, .int 0, .int 0, .int mi, .int 0, .int 0, .int 0, .int fo, .int 0])), (dk, .inr (4, [.ref w0, .ref w1, .ref ol, .int 0, .int 0, .int 0, .int 0])), (w0, .inr (14, [.int u8, .int k0])), (w1, .inr (14, [.int u7, .int k1])), (hd, .inr (6, [.ref hu, .ref hy, .int 0])), (hu, .inl (cU, 20, .inl (fun _ => 0))), (hy, .inl (cW, 20, .inl (fun _ => 0)))]) [0, 6, 7, 5, 2, 3, 4] (by decide) rfl
        have hKc := hK.sub (tys' := [(cU, .int), (cW, .boolean)]) [0, 1] rfl
        have hFc := va_free (wc := [(sh, .inr (13, [.ref rg, .ref dk, .ref hd, .ref lg, .ref pl, .ref pr, .int 0, .int 0, .int 0, .int 0, .int 0, .int mi, .int 0, .int 0, .int 0, .int fo, .int 0])), (dk, .inr (4, [.ref w0, .ref w1, .ref ol, .int 0, .int 0, .int 0, .int 0])), (w0, .inr (14, [.int u8, .int k0])), (w1, .inr (14, [.int u7, .int k1])), (hd, .inr (6, [.ref hu, .ref hy, .int 0])), (hu, .inl (cU, 20, .inl (fun _ => 0))), (hy, .inl (cW, 20, .inl (fun _ => 0)))]) hD hS hA [0, 6, 7, 5, 2, 3, 4] rfl
        refine va_callv (va_runV (As := []) (rest := []) ⟨hx, hb, hml, hown, hts⟩ (k_endDay0 l dC dI z zK zV sh rg dk w0 w1 ol hd hu hy lg pl pr cU cW mi fo u8 k0 u7 k1 H.size) (cwV 0 hts gX9_keepTime_X9_endDay rfl rfl rfl (by decide +kernel) ⟨Nat.le_of_ble_eq_true rfl, Nat.le_of_ble_eq_true rfl⟩) ⟨kP_blind, va_recv hKc hPc (ci := 13) (q0 := 0) rfl rfl, kP_go hPc hKc hDc hFc hM hS⟩ rfl rfl hl.1 rfl (lv_room (Nat.le_of_ble_eq_true rfl)) dX9_keepTime_66 ⟨Nat.le_of_ble_eq_true rfl, Nat.le_of_ble_eq_true rfl⟩) hS (fun q _ h => hFc q h) hFc (fun u t H1 locs ht hvm hw hB hz1 hk1 hS => ?_)
        obtain ⟨u10, u11, u12, hB⟩ := hB
        obtain ⟨hP, hD, hK⟩ := kJ (wr := [(pr, .inr (10, [.long re, .long rn]))]) (w1 := [(sh, .inr (13, [.ref rg, .ref dk, .ref hd, .ref lg, .ref pl, .ref pr, .int 0, .int 0, .int 0, .int 0, .int 0, .int mi, .int 0, .int 0, .int 0, .int u10, .int 0])), (hd, .inr (6, [.ref hu, .ref hy, .int 0])), (hu, .inl (cU, 20, .inl (fun _ => 0))), (hy, .inl (cW, 20, .inl (fun _ => 0))), (dk, .inr (4, [.ref w0, .ref w1, .ref ol, .int 0, .int 0, .int 0, .int 0])), (w0, .inr (14, [.int u8, .int u11])), (w1, .inr (14, [.int u7, .int u12]))]) (t1 := []) hP hD hK [0, 6, 7, 5, 2, 3, 4] [1] rfl rfl (by decide) (by decide) hk1 hFc ht hvm hB
        generalize H1 = H at hP hS ⊢
        have hP : va_P (dC, dI) vwCl [(pr, .inr (10, [.long re, .long rn])), (sh, .inr (13, [.ref rg, .ref dk, .ref hd, .ref lg, .ref pl, .ref pr, .int 0, .int 0, .int 0, .int 0, .int 0, .int mi, .int 0, .int 0, .int 0, .int u10, .int 0])), (hd, .inr (6, [.ref hu, .ref hy, .int 0])), (hu, .inl (cU, 20, .inl (fun _ => 0))), (hy, .inl (cW, 20, .inl (fun _ => 0))), (dk, .inr (4, [.ref w0, .ref w1, .ref ol, .int 0, .int 0, .int 0, .int 0])), (w0, .inr (14, [.int u8, .int u11])), (w1, .inr (14, [.int u7, .int u12]))] H := hP
        have hD : va_D A [(pr, .inr (10, [.long re, .long rn])), (sh, .inr (13, [.ref rg, .ref dk, .ref hd, .ref lg, .ref pl, .ref pr, .int 0, .int 0, .int 0, .int 0, .int 0, .int mi, .int 0, .int 0, .int 0, .int u10, .int 0])), (hd, .inr (6, [.ref hu, .ref hy, .int 0])), (hu, .inl (cU, 20, .inl (fun _ => 0))), (hy, .inl (cW, 20, .inl (fun _ => 0))), (dk, .inr (4, [.ref w0, .ref w1, .ref ol, .int 0, .int 0, .int 0, .int 0])), (w0, .inr (14, [.int u8, .int u11])), (w1, .inr (14, [.int u7, .int u12]))] := hD
        have hK : va_K (dC, dI) vwCl [(cU, .int), (cW, .boolean)] s := hK
        clear hw
        exact W.vret hx hb hr (fun t ht hW => ⟨⟨(), rfl, trivial, ⟨u10, re, rn, 0, u8, u11, u7, u12, (Or.inl rfl), kB_end (w9 := [(sh, .inr (13, [.ref rg, .ref dk, .ref hd, .ref lg, .ref pl, .ref pr, .int 0, .int 0, .int 0, .int 0, .int 0, .int mi, .int 0, .int 0, .int 0, .int u10, .int 0])), (pr, .inr (10, [.long re, .long rn])), (dk, .inr (4, [.ref w0, .ref w1, .ref ol, .int 0, .int 0, .int 0, .int 0])), (w0, .inr (14, [.int u8, .int u11])), (w1, .inr (14, [.int u7, .int u12])), (hd, .inr (6, [.ref hu, .ref hy, .int 0])), (hu, .inl (cU, 20, .inl (fun _ => 0))), (hy, .inl (cW, 20, .inl (fun _ => 0)))]) (t9 := []) hP hK hD [1, 0, 5, 6, 7, 2, 3, 4] [] rfl (by decide) rfl rfl t ht hW⟩⟩, hS.F ht⟩) hS.2.2 dX9_keepTime_69
  · skip
    refine lv_aload_n hx hb dX9_keepTime_10 rfl (lv_at hl 0 rfl) ?_
    refine va_get (D := (dC, dI)) (ci := 13) (v := .int 0) (C := RX9) (T := TX9) (N := 17) hx hb hts hiX9 hown hK hP 0 rfl rfl 13 (by decide) (hts (.fieldLink RX9 71 "SquareRig$Ship" "speed" "I") (by decide +kernel)) (fun _ h9 => h9) rfl dX9_keepTime_11 ?_
    refine lv_bipush (v := 10) hx hb dX9_keepTime_14 (by decide) ?_
    refine lv_idiv hx hb dX9_keepTime_16 (by decide +kernel) ?_
    refine kc_i (y := 0) (by decide +kernel) ?_
    refine lv_istore_n (lv' := [(1, .int 0), (0, .ref sh)]) hx hb dX9_keepTime_17 rfl hl (by decide) rfl (fun ls hl => ?_)
    refine lv_aload_n hx hb dX9_keepTime_18 rfl (lv_at hl 1 rfl) ?_
    refine va_get (D := (dC, dI)) (ci := 13) (v := .ref pr) (C := RX9) (T := TX9) (N := 17) hx hb hts hiX9 hown hK hP 0 rfl rfl 5 (by decide) (hts (.fieldLink RX9 46 "SquareRig$Ship" "reckoned" "LSquareRig$Place;") (by decide +kernel)) (fun _ h9 => h9) rfl dX9_keepTime_19 ?_
    refine lv_aload_n hx hb dX9_keepTime_22 rfl (lv_at hl 1 rfl) ?_
    refine va_get (D := (dC, dI)) (ci := 13) (v := .int 0) (C := RX9) (T := TX9) (N := 17) hx hb hts hiX9 hown hK hP 0 rfl rfl 12 (by decide) (hts (.fieldLink RX9 68 "SquareRig$Ship" "heading" "I") (by decide +kernel)) (fun _ h9 => h9) rfl dX9_keepTime_23 ?_
    refine lv_bipush (v := 30) hx hb dX9_keepTime_26 (by decide) ?_
    refine lv_iload_n hx hb dX9_keepTime_28 rfl (lv_at hl 0 rfl) ?_
    refine lv_imul hx hb dX9_keepTime_29 ?_
    refine kc_i (y := 0) (by decide +kernel) ?_
    refine lv_bipush (v := 10) hx hb dX9_keepTime_30 (by decide) ?_
    refine lv_imul hx hb dX9_keepTime_32 ?_
    refine kc_i (y := 0) (by decide +kernel) ?_
    have hPc := hP.sub (ws' := [(pr, .inr (10, [.long re, .long rn]))]) [1] rfl
    have hDc := hD.sub (ws' := [(pr, .inr (10, [.long re, .long rn]))]) [1] (by decide) rfl
    have hKc := hK.sub (tys' := []) [] rfl
    have hFc := va_free (wc := [(pr, .inr (10, [.long re, .long rn]))]) hD hS hA [1] rfl
    refine va_callv (va_runV (As := [.int 0, .int 0]) (rest := []) ⟨hx, hb, hml, hown, hts⟩ (k_Place_go0 l dC dI z zK zV pr re rn s.heap.size) (cwV 2 hts gX9_keepTime_X6_go rfl rfl rfl (by decide +kernel) ⟨Nat.le_of_ble_eq_true rfl, Nat.le_of_ble_eq_true rfl⟩) ⟨kP_blind, va_recv hKc hPc (ci := 10) (q0 := 0) rfl rfl, kP_go hPc hKc hDc hFc hM hS⟩ rfl rfl hl.1 rfl (lv_room (Nat.le_of_ble_eq_true rfl)) dX9_keepTime_33 ⟨Nat.le_of_ble_eq_true rfl, Nat.le_of_ble_eq_true rfl⟩) hS (fun q _ h => hFc q h) hFc (fun u t H1 locs ht hvm hw hB hz1 hk1 hS => ?_)
    obtain ⟨u13, u14, hB⟩ := hB
    obtain ⟨hP, hD, hK⟩ := kJ (wr := [(sh, .inr (13, [.ref rg, .ref dk, .ref hd, .ref lg, .ref pl, .ref pr, .int 0, .int 0, .int 0, .int 0, .int 0, .int mi, .int 0, .int 0, .int 0, .int fo, .int 0])), (dk, .inr (4, [.ref w0, .ref w1, .ref ol, .int 1, .int 0, .int 0, .int 0])), (w0, .inr (14, [.int t0, .int k0])), (w1, .inr (14, [.int t1, .int k1])), (hd, .inr (6, [.ref hu, .ref hy, .int 0])), (hu, .inl (cU, 20, .inl (fun _ => 0))), (hy, .inl (cW, 20, .inl (fun _ => 0)))]) (w1 := [(pr, .inr (10, [.long u13, .long u14]))]) (t1 := []) hP hD hK [1] [0, 2, 3, 4, 5, 6, 7] rfl rfl (by decide) (by decide) hk1 hFc ht hvm hB
    generalize H1 = H at hP hS ⊢
    have hP : va_P (dC, dI) vwCl [(sh, .inr (13, [.ref rg, .ref dk, .ref hd, .ref lg, .ref pl, .ref pr, .int 0, .int 0, .int 0, .int 0, .int 0, .int mi, .int 0, .int 0, .int 0, .int fo, .int 0])), (dk, .inr (4, [.ref w0, .ref w1, .ref ol, .int 1, .int 0, .int 0, .int 0])), (w0, .inr (14, [.int t0, .int k0])), (w1, .inr (14, [.int t1, .int k1])), (hd, .inr (6, [.ref hu, .ref hy, .int 0])), (hu, .inl (cU, 20, .inl (fun _ => 0))), (hy, .inl (cW, 20, .inl (fun _ => 0))), (pr, .inr (10, [.long u13, .long u14]))] H := hP
    have hD : va_D A [(sh, .inr (13, [.ref rg, .ref dk, .ref hd, .ref lg, .ref pl, .ref pr, .int 0, .int 0, .int 0, .int 0, .int 0, .int mi, .int 0, .int 0, .int 0, .int fo, .int 0])), (dk, .inr (4, [.ref w0, .ref w1, .ref ol, .int 1, .int 0, .int 0, .int 0])), (w0, .inr (14, [.int t0, .int k0])), (w1, .inr (14, [.int t1, .int k1])), (hd, .inr (6, [.ref hu, .ref hy, .int 0])), (hu, .inl (cU, 20, .inl (fun _ => 0))), (hy, .inl (cW, 20, .inl (fun _ => 0))), (pr, .inr (10, [.long u13, .long u14]))] := hD
    have hK : va_K (dC, dI) vwCl [(cU, .int), (cW, .boolean)] s := hK
    clear hw
    refine lv_aload_n hx hb dX9_keepTime_36 rfl (lv_at hl 1 rfl) ?_
    refine va_get (D := (dC, dI)) (ci := 13) (v := .int mi) (C := RX9) (T := TX9) (N := 17) hx hb hts hiX9 hown hK hP 0 rfl rfl 11 (by decide) (hts (.fieldLink RX9 65 "SquareRig$Ship" "minute" "I") (by decide +kernel)) (fun _ h9 => h9) rfl dX9_keepTime_37 ?_
    refine lv_sipush (v := 240) hx hb dX9_keepTime_40 (by decide) ?_
    refine lv_irem hx hb dX9_keepTime_43 (by decide +kernel) ?_
    refine lv_if_ne (tgt := 54) hx hb dX9_keepTime_44 (by decide) (fun c15 => ?_) (fun c15 => ?_)
    · skip
      refine lv_aload_n hx hb dX9_keepTime_54 rfl (lv_at hl 1 rfl) ?_
      refine va_get (D := (dC, dI)) (ci := 13) (v := .int mi) (C := RX9) (T := TX9) (N := 17) hx hb hts hiX9 hown hK hP 0 rfl rfl 11 (by decide) (hts (.fieldLink RX9 65 "SquareRig$Ship" "minute" "I") (by decide +kernel)) (fun _ h9 => h9) rfl dX9_keepTime_55 ?_
      refine lv_sipush (v := 1440) hx hb dX9_keepTime_58 (by decide) ?_
      refine lv_irem hx hb dX9_keepTime_61 (by decide +kernel) ?_
      refine lv_if_ne (tgt := 69) hx hb dX9_keepTime_62 (by decide) (fun c16 => ?_) (fun c16 => ?_)
      · skip
        exact W.vret hx hb hr (fun t ht hW => ⟨⟨(), rfl, trivial, ⟨fo, u13, u14, 1, t0, k0, t1, k1, (Or.inr rfl), kB_end (w9 := [(sh, .inr (13, [.ref rg, .ref dk, .ref hd, .ref lg, .ref pl, .ref pr, .int 0, .int 0, .int 0, .int 0, .int 0, .int mi, .int 0, .int 0, .int 0, .int fo, .int 0])), (pr, .inr (10, [.long u13, .long u14])), (dk, .inr (4, [.ref w0, .ref w1, .ref ol, .int 1, .int 0, .int 0, .int 0])), (w0, .inr (14, [.int t0, .int k0])), (w1, .inr (14, [.int t1, .int k1])), (hd, .inr (6, [.ref hu, .ref hy, .int 0])), (hu, .inl (cU, 20, .inl (fun _ => 0))), (hy, .inl (cW, 20, .inl (fun _ => 0)))]) (t9 := []) hP hK hD [0, 7, 1, 2, 3, 4, 5, 6] [] rfl (by decide) rfl rfl t ht hW⟩⟩, hS.F ht⟩) hS.2.2 dX9_keepTime_69
      · skip
        refine lv_aload_n hx hb dX9_keepTime_65 rfl (lv_at hl 1 rfl) ?_
        have hPc := hP.sub (ws' := [(sh, .inr (13, [.ref rg, .ref dk, .ref hd, .ref lg, .ref pl, .ref pr, .int 0, .int 0, .int 0, .int 0, .int 0, .int mi, .int 0, .int 0, .int 0, .int fo, .int 0])), (dk, .inr (4, [.ref w0, .ref w1, .ref ol, .int 1, .int 0, .int 0, .int 0])), (w0, .inr (14, [.int t0, .int k0])), (w1, .inr (14, [.int t1, .int k1])), (hd, .inr (6, [.ref hu, .ref hy, .int 0])), (hu, .inl (cU, 20, .inl (fun _ => 0))), (hy, .inl (cW, 20, .inl (fun _ => 0)))]) [0, 1, 2, 3, 4, 5, 6] rfl
        have hDc := hD.sub (ws' := [(sh, .inr (13, [.ref rg, .ref dk, .ref hd, .ref lg, .ref pl, .ref pr, .int 0, .int 0, .int 0, .int 0, .int 0, .int mi, .int 0, .int 0, .int 0, .int fo, .int 0])), (dk, .inr (4, [.ref w0, .ref w1, .ref ol, .int 1, .int 0, .int 0, .int 0])), (w0, .inr (14, [.int t0, .int k0])), (w1, .inr (14, [.int t1, .int k1])), (hd, .inr (6, [.ref hu, .ref hy, .int 0])), (hu, .inl (cU, 20, .inl (fun _ => 0))), (hy, .inl (cW, 20, .inl (fun _ => 0)))]) [0, 1, 2, 3, 4, 5, 6] (by decide) rfl
        have hKc := hK.sub (tys' := [(cU, .int), (cW, .boolean)]) [0, 1] rfl
        have hFc := va_free (wc := [(sh, .inr (13, [.ref rg, .ref dk, .ref hd, .ref lg, .ref pl, .ref pr, .int 0, .int 0, .int 0, .int 0, .int 0, .int mi, .int 0, .int 0, .int 0, .int fo, .int 0])), (dk, .inr (4, [.ref w0, .ref w1, .ref ol, .int 1, .int 0, .int 0, .int 0])), (w0, .inr (14, [.int t0, .int k0])), (w1, .inr (14, [.int t1, .int k1])), (hd, .inr (6, [.ref hu, .ref hy, .int 0])), (hu, .inl (cU, 20, .inl (fun _ => 0))), (hy, .inl (cW, 20, .inl (fun _ => 0)))]) hD hS hA [0, 1, 2, 3, 4, 5, 6] rfl
        refine va_callv (va_runV (As := []) (rest := []) ⟨hx, hb, hml, hown, hts⟩ (k_endDay1 l dC dI z zK zV sh rg dk w0 w1 ol hd hu hy lg pl pr cU cW mi fo t0 k0 t1 k1 H.size) (cwV 0 hts gX9_keepTime_X9_endDay rfl rfl rfl (by decide +kernel) ⟨Nat.le_of_ble_eq_true rfl, Nat.le_of_ble_eq_true rfl⟩) ⟨kP_blind, va_recv hKc hPc (ci := 13) (q0 := 0) rfl rfl, kP_go hPc hKc hDc hFc hM hS⟩ rfl rfl hl.1 rfl (lv_room (Nat.le_of_ble_eq_true rfl)) dX9_keepTime_66 ⟨Nat.le_of_ble_eq_true rfl, Nat.le_of_ble_eq_true rfl⟩) hS (fun q _ h => hFc q h) hFc (fun u t H1 locs ht hvm hw hB hz1 hk1 hS => ?_)
        obtain ⟨u17, u18, u19, hB⟩ := hB
        obtain ⟨hP, hD, hK⟩ := kJ (wr := [(pr, .inr (10, [.long u13, .long u14]))]) (w1 := [(sh, .inr (13, [.ref rg, .ref dk, .ref hd, .ref lg, .ref pl, .ref pr, .int 0, .int 0, .int 0, .int 0, .int 0, .int mi, .int 0, .int 0, .int 0, .int u17, .int 0])), (hd, .inr (6, [.ref hu, .ref hy, .int 0])), (hu, .inl (cU, 20, .inl (fun _ => 0))), (hy, .inl (cW, 20, .inl (fun _ => 0))), (dk, .inr (4, [.ref w0, .ref w1, .ref ol, .int 1, .int 0, .int 0, .int 0])), (w0, .inr (14, [.int t0, .int u18])), (w1, .inr (14, [.int t1, .int u19]))]) (t1 := []) hP hD hK [0, 1, 2, 3, 4, 5, 6] [7] rfl rfl (by decide) (by decide) hk1 hFc ht hvm hB
        generalize H1 = H at hP hS ⊢
        have hP : va_P (dC, dI) vwCl [(pr, .inr (10, [.long u13, .long u14])), (sh, .inr (13, [.ref rg, .ref dk, .ref hd, .ref lg, .ref pl, .ref pr, .int 0, .int 0, .int 0, .int 0, .int 0, .int mi, .int 0, .int 0, .int 0, .int u17, .int 0])), (hd, .inr (6, [.ref hu, .ref hy, .int 0])), (hu, .inl (cU, 20, .inl (fun _ => 0))), (hy, .inl (cW, 20, .inl (fun _ => 0))), (dk, .inr (4, [.ref w0, .ref w1, .ref ol, .int 1, .int 0, .int 0, .int 0])), (w0, .inr (14, [.int t0, .int u18])), (w1, .inr (14, [.int t1, .int u19]))] H := hP
        have hD : va_D A [(pr, .inr (10, [.long u13, .long u14])), (sh, .inr (13, [.ref rg, .ref dk, .ref hd, .ref lg, .ref pl, .ref pr, .int 0, .int 0, .int 0, .int 0, .int 0, .int mi, .int 0, .int 0, .int 0, .int u17, .int 0])), (hd, .inr (6, [.ref hu, .ref hy, .int 0])), (hu, .inl (cU, 20, .inl (fun _ => 0))), (hy, .inl (cW, 20, .inl (fun _ => 0))), (dk, .inr (4, [.ref w0, .ref w1, .ref ol, .int 1, .int 0, .int 0, .int 0])), (w0, .inr (14, [.int t0, .int u18])), (w1, .inr (14, [.int t1, .int u19]))] := hD
        have hK : va_K (dC, dI) vwCl [(cU, .int), (cW, .boolean)] s := hK
        clear hw
        exact W.vret hx hb hr (fun t ht hW => ⟨⟨(), rfl, trivial, ⟨u17, u13, u14, 1, t0, u18, t1, u19, (Or.inr rfl), kB_end (w9 := [(sh, .inr (13, [.ref rg, .ref dk, .ref hd, .ref lg, .ref pl, .ref pr, .int 0, .int 0, .int 0, .int 0, .int 0, .int mi, .int 0, .int 0, .int 0, .int u17, .int 0])), (pr, .inr (10, [.long u13, .long u14])), (dk, .inr (4, [.ref w0, .ref w1, .ref ol, .int 1, .int 0, .int 0, .int 0])), (w0, .inr (14, [.int t0, .int u18])), (w1, .inr (14, [.int t1, .int u19])), (hd, .inr (6, [.ref hu, .ref hy, .int 0])), (hu, .inl (cU, 20, .inl (fun _ => 0))), (hy, .inl (cW, 20, .inl (fun _ => 0)))]) (t9 := []) hP hK hD [1, 0, 5, 6, 7, 2, 3, 4] [] rfl (by decide) rfl rfl t ht hW⟩⟩, hS.F ht⟩) hS.2.2 dX9_keepTime_69
    · skip
      refine lv_aload_n hx hb dX9_keepTime_47 rfl (lv_at hl 1 rfl) ?_
      refine va_get (D := (dC, dI)) (ci := 13) (v := .ref dk) (C := RX9) (T := TX9) (N := 17) hx hb hts hiX9 hown hK hP 0 rfl rfl 1 (by decide) (hts (.fieldLink RX9 21 "SquareRig$Ship" "deck" "LSquareRig$Deck;") (by decide +kernel)) (fun _ h9 => h9) rfl dX9_keepTime_48 ?_
      have hPc := hP.sub (ws' := [(dk, .inr (4, [.ref w0, .ref w1, .ref ol, .int 1, .int 0, .int 0, .int 0])), (w0, .inr (14, [.int t0, .int k0])), (w1, .inr (14, [.int t1, .int k1]))]) [1, 2, 3] rfl
      have hDc := hD.sub (ws' := [(dk, .inr (4, [.ref w0, .ref w1, .ref ol, .int 1, .int 0, .int 0, .int 0])), (w0, .inr (14, [.int t0, .int k0])), (w1, .inr (14, [.int t1, .int k1]))]) [1, 2, 3] (by decide) rfl
      have hKc := hK.sub (tys' := []) [] rfl
      have hFc := va_free (wc := [(dk, .inr (4, [.ref w0, .ref w1, .ref ol, .int 1, .int 0, .int 0, .int 0])), (w0, .inr (14, [.int t0, .int k0])), (w1, .inr (14, [.int t1, .int k1]))]) hD hS hA [1, 2, 3] rfl
      refine va_callv (va_runV (As := []) (rest := []) ⟨hx, hb, hml, hown, hts⟩ (k_changeWatch1 l dC dI z zK zV dk w0 w1 ol t0 k0 t1 k1 H.size) (cwV 0 hts gX9_keepTime_X0_changeWatch rfl rfl rfl (by decide +kernel) ⟨Nat.le_of_ble_eq_true rfl, Nat.le_of_ble_eq_true rfl⟩) ⟨kP_blind, va_recv hKc hPc (ci := 4) (q0 := 0) rfl rfl, kP_go hPc hKc hDc hFc hM hS⟩ rfl rfl hl.1 rfl (lv_room (Nat.le_of_ble_eq_true rfl)) dX9_keepTime_51 ⟨Nat.le_of_ble_eq_true rfl, Nat.le_of_ble_eq_true rfl⟩) hS (fun q _ h => hFc q h) hFc (fun u t H1 locs ht hvm hw hB hz1 hk1 hS => ?_)
      obtain ⟨u20, u21, hB⟩ := hB
      obtain ⟨hP, hD, hK⟩ := kJ (wr := [(sh, .inr (13, [.ref rg, .ref dk, .ref hd, .ref lg, .ref pl, .ref pr, .int 0, .int 0, .int 0, .int 0, .int 0, .int mi, .int 0, .int 0, .int 0, .int fo, .int 0])), (hd, .inr (6, [.ref hu, .ref hy, .int 0])), (hu, .inl (cU, 20, .inl (fun _ => 0))), (hy, .inl (cW, 20, .inl (fun _ => 0))), (pr, .inr (10, [.long u13, .long u14]))]) (w1 := [(w1, .inr (14, [.int u20, .int k1])), (dk, .inr (4, [.ref w0, .ref w1, .ref ol, .int 0, .int 0, .int 0, .int 0])), (w0, .inr (14, [.int u21, .int k0]))]) (t1 := []) hP hD hK [1, 2, 3] [0, 4, 5, 6, 7] rfl rfl (by decide) (by decide) hk1 hFc ht hvm hB
      generalize H1 = H at hP hS ⊢
      have hP : va_P (dC, dI) vwCl [(sh, .inr (13, [.ref rg, .ref dk, .ref hd, .ref lg, .ref pl, .ref pr, .int 0, .int 0, .int 0, .int 0, .int 0, .int mi, .int 0, .int 0, .int 0, .int fo, .int 0])), (hd, .inr (6, [.ref hu, .ref hy, .int 0])), (hu, .inl (cU, 20, .inl (fun _ => 0))), (hy, .inl (cW, 20, .inl (fun _ => 0))), (pr, .inr (10, [.long u13, .long u14])), (w1, .inr (14, [.int u20, .int k1])), (dk, .inr (4, [.ref w0, .ref w1, .ref ol, .int 0, .int 0, .int 0, .int 0])), (w0, .inr (14, [.int u21, .int k0]))] H := hP
      have hD : va_D A [(sh, .inr (13, [.ref rg, .ref dk, .ref hd, .ref lg, .ref pl, .ref pr, .int 0, .int 0, .int 0, .int 0, .int 0, .int mi, .int 0, .int 0, .int 0, .int fo, .int 0])), (hd, .inr (6, [.ref hu, .ref hy, .int 0])), (hu, .inl (cU, 20, .inl (fun _ => 0))), (hy, .inl (cW, 20, .inl (fun _ => 0))), (pr, .inr (10, [.long u13, .long u14])), (w1, .inr (14, [.int u20, .int k1])), (dk, .inr (4, [.ref w0, .ref w1, .ref ol, .int 0, .int 0, .int 0, .int 0])), (w0, .inr (14, [.int u21, .int k0]))] := hD
      have hK : va_K (dC, dI) vwCl [(cU, .int), (cW, .boolean)] s := hK
      clear hw
      refine lv_aload_n hx hb dX9_keepTime_54 rfl (lv_at hl 1 rfl) ?_
      refine va_get (D := (dC, dI)) (ci := 13) (v := .int mi) (C := RX9) (T := TX9) (N := 17) hx hb hts hiX9 hown hK hP 0 rfl rfl 11 (by decide) (hts (.fieldLink RX9 65 "SquareRig$Ship" "minute" "I") (by decide +kernel)) (fun _ h9 => h9) rfl dX9_keepTime_55 ?_
      refine lv_sipush (v := 1440) hx hb dX9_keepTime_58 (by decide) ?_
      refine lv_irem hx hb dX9_keepTime_61 (by decide +kernel) ?_
      refine lv_if_ne (tgt := 69) hx hb dX9_keepTime_62 (by decide) (fun c22 => ?_) (fun c22 => ?_)
      · skip
        exact W.vret hx hb hr (fun t ht hW => ⟨⟨(), rfl, trivial, ⟨fo, u13, u14, 0, u21, k0, u20, k1, (Or.inl rfl), kB_end (w9 := [(sh, .inr (13, [.ref rg, .ref dk, .ref hd, .ref lg, .ref pl, .ref pr, .int 0, .int 0, .int 0, .int 0, .int 0, .int mi, .int 0, .int 0, .int 0, .int fo, .int 0])), (pr, .inr (10, [.long u13, .long u14])), (dk, .inr (4, [.ref w0, .ref w1, .ref ol, .int 0, .int 0, .int 0, .int 0])), (w0, .inr (14, [.int u21, .int k0])), (w1, .inr (14, [.int u20, .int k1])), (hd, .inr (6, [.ref hu, .ref hy, .int 0])), (hu, .inl (cU, 20, .inl (fun _ => 0))), (hy, .inl (cW, 20, .inl (fun _ => 0)))]) (t9 := []) hP hK hD [0, 4, 6, 7, 5, 1, 2, 3] [] rfl (by decide) rfl rfl t ht hW⟩⟩, hS.F ht⟩) hS.2.2 dX9_keepTime_69
      · skip
        refine lv_aload_n hx hb dX9_keepTime_65 rfl (lv_at hl 1 rfl) ?_
        have hPc := hP.sub (ws' := [(sh, .inr (13, [.ref rg, .ref dk, .ref hd, .ref lg, .ref pl, .ref pr, .int 0, .int 0, .int 0, .int 0, .int 0, .int mi, .int 0, .int 0, .int 0, .int fo, .int 0])), (dk, .inr (4, [.ref w0, .ref w1, .ref ol, .int 0, .int 0, .int 0, .int 0])), (w0, .inr (14, [.int u21, .int k0])), (w1, .inr (14, [.int u20, .int k1])), (hd, .inr (6, [.ref hu, .ref hy, .int 0])), (hu, .inl (cU, 20, .inl (fun _ => 0))), (hy, .inl (cW, 20, .inl (fun _ => 0)))]) [0, 6, 7, 5, 1, 2, 3] rfl
        have hDc := hD.sub (ws' := [(sh, .inr (13, [.ref rg, .ref dk, .ref hd, .ref lg, .ref pl, .ref pr, .int 0, .int 0, .int 0, .int 0, .int 0, .int mi, .int 0, .int 0, .int 0, .int fo, .int 0])), (dk, .inr (4, [.ref w0, .ref w1, .ref ol, .int 0, .int 0, .int 0, .int 0])), (w0, .inr (14, [.int u21, .int k0])), (w1, .inr (14, [.int u20, .int k1])), (hd, .inr (6, [.ref hu, .ref hy, .int 0])), (hu, .inl (cU, 20, .inl (fun _ => 0))), (hy, .inl (cW, 20, .inl (fun _ => 0)))]) [0, 6, 7, 5, 1, 2, 3] (by decide) rfl
        have hKc := hK.sub (tys' := [(cU, .int), (cW, .boolean)]) [0, 1] rfl
        have hFc := va_free (wc := [(sh, .inr (13, [.ref rg, .ref dk, .ref hd, .ref lg, .ref pl, .ref pr, .int 0, .int 0, .int 0, .int 0, .int 0, .int mi, .int 0, .int 0, .int 0, .int fo, .int 0])), (dk, .inr (4, [.ref w0, .ref w1, .ref ol, .int 0, .int 0, .int 0, .int 0])), (w0, .inr (14, [.int u21, .int k0])), (w1, .inr (14, [.int u20, .int k1])), (hd, .inr (6, [.ref hu, .ref hy, .int 0])), (hu, .inl (cU, 20, .inl (fun _ => 0))), (hy, .inl (cW, 20, .inl (fun _ => 0)))]) hD hS hA [0, 6, 7, 5, 1, 2, 3] rfl
        refine va_callv (va_runV (As := []) (rest := []) ⟨hx, hb, hml, hown, hts⟩ (k_endDay0 l dC dI z zK zV sh rg dk w0 w1 ol hd hu hy lg pl pr cU cW mi fo u21 k0 u20 k1 H.size) (cwV 0 hts gX9_keepTime_X9_endDay rfl rfl rfl (by decide +kernel) ⟨Nat.le_of_ble_eq_true rfl, Nat.le_of_ble_eq_true rfl⟩) ⟨kP_blind, va_recv hKc hPc (ci := 13) (q0 := 0) rfl rfl, kP_go hPc hKc hDc hFc hM hS⟩ rfl rfl hl.1 rfl (lv_room (Nat.le_of_ble_eq_true rfl)) dX9_keepTime_66 ⟨Nat.le_of_ble_eq_true rfl, Nat.le_of_ble_eq_true rfl⟩) hS (fun q _ h => hFc q h) hFc (fun u t H1 locs ht hvm hw hB hz1 hk1 hS => ?_)
        obtain ⟨u23, u24, u25, hB⟩ := hB
        obtain ⟨hP, hD, hK⟩ := kJ (wr := [(pr, .inr (10, [.long u13, .long u14]))]) (w1 := [(sh, .inr (13, [.ref rg, .ref dk, .ref hd, .ref lg, .ref pl, .ref pr, .int 0, .int 0, .int 0, .int 0, .int 0, .int mi, .int 0, .int 0, .int 0, .int u23, .int 0])), (hd, .inr (6, [.ref hu, .ref hy, .int 0])), (hu, .inl (cU, 20, .inl (fun _ => 0))), (hy, .inl (cW, 20, .inl (fun _ => 0))), (dk, .inr (4, [.ref w0, .ref w1, .ref ol, .int 0, .int 0, .int 0, .int 0])), (w0, .inr (14, [.int u21, .int u24])), (w1, .inr (14, [.int u20, .int u25]))]) (t1 := []) hP hD hK [0, 6, 7, 5, 1, 2, 3] [4] rfl rfl (by decide) (by decide) hk1 hFc ht hvm hB
        generalize H1 = H at hP hS ⊢
        have hP : va_P (dC, dI) vwCl [(pr, .inr (10, [.long u13, .long u14])), (sh, .inr (13, [.ref rg, .ref dk, .ref hd, .ref lg, .ref pl, .ref pr, .int 0, .int 0, .int 0, .int 0, .int 0, .int mi, .int 0, .int 0, .int 0, .int u23, .int 0])), (hd, .inr (6, [.ref hu, .ref hy, .int 0])), (hu, .inl (cU, 20, .inl (fun _ => 0))), (hy, .inl (cW, 20, .inl (fun _ => 0))), (dk, .inr (4, [.ref w0, .ref w1, .ref ol, .int 0, .int 0, .int 0, .int 0])), (w0, .inr (14, [.int u21, .int u24])), (w1, .inr (14, [.int u20, .int u25]))] H := hP
        have hD : va_D A [(pr, .inr (10, [.long u13, .long u14])), (sh, .inr (13, [.ref rg, .ref dk, .ref hd, .ref lg, .ref pl, .ref pr, .int 0, .int 0, .int 0, .int 0, .int 0, .int mi, .int 0, .int 0, .int 0, .int u23, .int 0])), (hd, .inr (6, [.ref hu, .ref hy, .int 0])), (hu, .inl (cU, 20, .inl (fun _ => 0))), (hy, .inl (cW, 20, .inl (fun _ => 0))), (dk, .inr (4, [.ref w0, .ref w1, .ref ol, .int 0, .int 0, .int 0, .int 0])), (w0, .inr (14, [.int u21, .int u24])), (w1, .inr (14, [.int u20, .int u25]))] := hD
        have hK : va_K (dC, dI) vwCl [(cU, .int), (cW, .boolean)] s := hK
        clear hw
        exact W.vret hx hb hr (fun t ht hW => ⟨⟨(), rfl, trivial, ⟨u23, u13, u14, 0, u21, u24, u20, u25, (Or.inl rfl), kB_end (w9 := [(sh, .inr (13, [.ref rg, .ref dk, .ref hd, .ref lg, .ref pl, .ref pr, .int 0, .int 0, .int 0, .int 0, .int 0, .int mi, .int 0, .int 0, .int 0, .int u23, .int 0])), (pr, .inr (10, [.long u13, .long u14])), (dk, .inr (4, [.ref w0, .ref w1, .ref ol, .int 0, .int 0, .int 0, .int 0])), (w0, .inr (14, [.int u21, .int u24])), (w1, .inr (14, [.int u20, .int u25])), (hd, .inr (6, [.ref hu, .ref hy, .int 0])), (hu, .inl (cU, 20, .inl (fun _ => 0))), (hy, .inl (cW, 20, .inl (fun _ => 0)))]) (t9 := []) hP hK hD [1, 0, 5, 6, 7, 2, 3, 4] [] rfl (by decide) rfl rfl t ht hW⟩⟩, hS.F ht⟩) hS.2.2 dX9_keepTime_69
