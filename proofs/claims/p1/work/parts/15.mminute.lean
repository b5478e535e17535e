set_option maxRecDepth 20000 in
theorem ggX15_doOrders_Jx4a65c_iterator_32c93 : GoodIn wsX15_doOrders wsJx4a65c_iterator_32c93 := goodIn_r _ [10, 11, 12, 13, 14, 15, 16, 17, 18, 19, 20, 21, 22, 23, 24, 233, 234, 235, 236, 237, 238, 239] (by decide +kernel) (by decide +kernel)
set_option maxRecDepth 20000 in
theorem gX15_doOrders_Jx4a65c_iterator_32c93_f181Jx4a65c : GoodIn wsX15_doOrders (va_wsF RX15 181 RJx4a65c ⟨"java/util/List", "iterator", "()Ljava/util/Iterator;"⟩ yJx4a65c_iterator_32c93 wsJx4a65c_iterator_32c93) := goodIn_app (goodIn_of _ (by decide +kernel)) ggX15_doOrders_Jx4a65c_iterator_32c93
set_option maxRecDepth 20000 in
theorem ggX15_doOrders_Jx35411_hasNext_aae02 : GoodIn wsX15_doOrders wsJx35411_hasNext_aae02 := goodIn_r _ [28, 29, 17, 233, 234, 235, 236, 237, 238, 239] (by decide +kernel) (by decide +kernel)
set_option maxRecDepth 20000 in
theorem gX15_doOrders_Jx35411_hasNext_aae02_f185Jx35411 : GoodIn wsX15_doOrders (va_wsF RX15 185 RJx35411 ⟨"java/util/Iterator", "hasNext", "()Z"⟩ yJx35411_hasNext_aae02 wsJx35411_hasNext_aae02) := goodIn_app (goodIn_of _ (by decide +kernel)) ggX15_doOrders_Jx35411_hasNext_aae02
theorem dX15_doOrders_0 : decode cX15_doOrders 0 = .ok (.aload_n 0, 1) := by decide +kernel
theorem dX15_doOrders_1 : decode cX15_doOrders 1 = .ok (.getfield 19, 3) := by decide +kernel
theorem dX15_doOrders_4 : decode cX15_doOrders 4 = .ok (.invokeinterface 181 1, 5) := by decide +kernel
theorem dX15_doOrders_9 : decode cX15_doOrders 9 = .ok (.astore_n 1, 1) := by decide +kernel
theorem dX15_doOrders_10 : decode cX15_doOrders 10 = .ok (.aload_n 1, 1) := by decide +kernel
theorem dX15_doOrders_11 : decode cX15_doOrders 11 = .ok (.invokeinterface 185 1, 5) := by decide +kernel
theorem dX15_doOrders_16 : decode cX15_doOrders 16 = .ok (.ifCond .eq 47, 3) := by decide +kernel
theorem dX15_doOrders_63 : decode cX15_doOrders 63 = .ok (.aload_n 0, 1) := by decide +kernel
theorem dX15_doOrders_64 : decode cX15_doOrders 64 = .ok (.getfield 19, 3) := by decide +kernel
theorem dX15_doOrders_67 : decode cX15_doOrders 67 = .ok (.invokeinterface 181 1, 5) := by decide +kernel
theorem dX15_doOrders_72 : decode cX15_doOrders 72 = .ok (.astore_n 1, 1) := by decide +kernel
theorem dX15_doOrders_73 : decode cX15_doOrders 73 = .ok (.aload_n 1, 1) := by decide +kernel
theorem dX15_doOrders_74 : decode cX15_doOrders 74 = .ok (.invokeinterface 185 1, 5) := by decide +kernel
theorem dX15_doOrders_79 : decode cX15_doOrders 79 = .ok (.ifCond .eq 74, 3) := by decide +kernel
theorem dX15_doOrders_153 : decode cX15_doOrders 153 = .ok (.return_, 1) := by decide +kernel
set_option maxRecDepth 20000 in
theorem ggX15_strain_X15_forceOf : GoodIn wsX15_strain wsX15_forceOf := goodIn_ca (goodIn_r _ [14, 8, 15, 16, 17, 13, 18, 19, 20, 21, 22, 23, 24, 25, 26, 27, 28, 29, 30, 31, 32, 33, 34, 35, 36, 37, 38, 39, 40, 41, 42, 43, 44, 45, 46, 47, 48, 49, 50, 51, 52, 53, 54, 55, 56, 57, 58, 59, 60, 61, 62, 63, 64, 2, 3, 4, 5, 65, 66, 67, 68, 69, 70, 71, 72, 73, 74, 75, 76, 77, 78, 79, 80, 81, 82, 83, 84, 85, 86, 87, 88, 89, 90, 91, 92, 93, 94, 95, 96, 97, 98, 185, 186, 187, 188, 189, 190, 191, 192, 193, 194, 195, 196, 197, 198, 199, 200, 201, 202, 203, 204, 205, 206, 207, 208, 209, 210, 211, 212, 213, 214] (by decide +kernel) (by decide +kernel)) (goodIn_sub (fun _ h => List.mem_cons_of_mem _ (List.mem_append_right _ h)) (by decide +kernel))
set_option maxRecDepth 20000 in
theorem gX15_strain_X15_forceOf : GoodIn wsX15_strain (wsV RX15 115 RX15 yX15_forceOf wsX15_forceOf) := goodIn_app (goodIn_of _ (by decide +kernel)) ggX15_strain_X15_forceOf
set_option maxRecDepth 20000 in
theorem ggX15_strain_X15_mast : GoodIn wsX15_strain wsX15_mast := goodIn_r _ [90, 16, 17, 13, 18, 19, 20, 21, 22, 23, 24, 25, 26, 27, 28, 29, 30, 31, 32, 33, 34, 35, 36, 37, 38, 39, 40, 41, 42, 43, 44, 45, 46, 47, 48, 49, 50, 51, 52, 53, 54, 55, 56, 57, 58, 59, 213, 214] (by decide +kernel) (by decide +kernel)
set_option maxRecDepth 20000 in
theorem gX15_strain_X15_mast : GoodIn wsX15_strain (va_wsS RX15 93 yX15_mast wsX15_mast) := goodIn_app (goodIn_of _ (by decide +kernel)) ggX15_strain_X15_mast
theorem dX15_strain_0 : decode cX15_strain 0 = .ok (.iconst 3, 1) := by decide +kernel
theorem dX15_strain_1 : decode cX15_strain 1 = .ok (.newarray .int, 2) := by decide +kernel
theorem dX15_strain_3 : decode cX15_strain 3 = .ok (.astore_n 1, 1) := by decide +kernel
theorem dX15_strain_4 : decode cX15_strain 4 = .ok (.bipush 9, 2) := by decide +kernel
theorem dX15_strain_6 : decode cX15_strain 6 = .ok (.newarray .int, 2) := by decide +kernel
theorem dX15_strain_8 : decode cX15_strain 8 = .ok (.astore_n 2, 1) := by decide +kernel
theorem dX15_strain_9 : decode cX15_strain 9 = .ok (.iconst 0, 1) := by decide +kernel
theorem dX15_strain_10 : decode cX15_strain 10 = .ok (.istore_n 3, 1) := by decide +kernel
theorem dX15_strain_11 : decode cX15_strain 11 = .ok (.iload_n 3, 1) := by decide +kernel
theorem dX15_strain_12 : decode cX15_strain 12 = .ok (.bipush 9, 2) := by decide +kernel
theorem dX15_strain_14 : decode cX15_strain 14 = .ok (.if_icmp .ge 20, 3) := by decide +kernel
theorem dX15_strain_17 : decode cX15_strain 17 = .ok (.aload_n 2, 1) := by decide +kernel
theorem dX15_strain_18 : decode cX15_strain 18 = .ok (.iload_n 3, 1) := by decide +kernel
theorem dX15_strain_19 : decode cX15_strain 19 = .ok (.aload_n 0, 1) := by decide +kernel
theorem dX15_strain_20 : decode cX15_strain 20 = .ok (.iload_n 3, 1) := by decide +kernel
theorem dX15_strain_21 : decode cX15_strain 21 = .ok (.invokevirtual 115, 3) := by decide +kernel
theorem dX15_strain_24 : decode cX15_strain 24 = .ok (.invokestatic 99, 3) := by decide +kernel
theorem dX15_strain_27 : decode cX15_strain 27 = .ok (.iastore, 1) := by decide +kernel
theorem dX15_strain_28 : decode cX15_strain 28 = .ok (.iinc 3 1, 3) := by decide +kernel
theorem dX15_strain_31 : decode cX15_strain 31 = .ok (.goto (-20), 3) := by decide +kernel
theorem dX15_strain_34 : decode cX15_strain 34 = .ok (.iconst 0, 1) := by decide +kernel
theorem dX15_strain_35 : decode cX15_strain 35 = .ok (.istore_n 3, 1) := by decide +kernel
theorem dX15_strain_36 : decode cX15_strain 36 = .ok (.iload_n 3, 1) := by decide +kernel
theorem dX15_strain_37 : decode cX15_strain 37 = .ok (.bipush 9, 2) := by decide +kernel
theorem dX15_strain_39 : decode cX15_strain 39 = .ok (.if_icmp .ge 84, 3) := by decide +kernel
theorem dX15_strain_42 : decode cX15_strain 42 = .ok (.aload_n 2, 1) := by decide +kernel
theorem dX15_strain_43 : decode cX15_strain 43 = .ok (.iload_n 3, 1) := by decide +kernel
theorem dX15_strain_44 : decode cX15_strain 44 = .ok (.iaload, 1) := by decide +kernel
theorem dX15_strain_45 : decode cX15_strain 45 = .ok (.aload_n 0, 1) := by decide +kernel
theorem dX15_strain_46 : decode cX15_strain 46 = .ok (.getfield 32, 3) := by decide +kernel
theorem dX15_strain_49 : decode cX15_strain 49 = .ok (.iload_n 3, 1) := by decide +kernel
theorem dX15_strain_50 : decode cX15_strain 50 = .ok (.iaload, 1) := by decide +kernel
theorem dX15_strain_51 : decode cX15_strain 51 = .ok (.if_icmp .le 26, 3) := by decide +kernel
theorem dX15_strain_77 : decode cX15_strain 77 = .ok (.aload_n 0, 1) := by decide +kernel
theorem dX15_strain_78 : decode cX15_strain 78 = .ok (.getfield 32, 3) := by decide +kernel
theorem dX15_strain_81 : decode cX15_strain 81 = .ok (.iload_n 3, 1) := by decide +kernel
theorem dX15_strain_82 : decode cX15_strain 82 = .ok (.dup2, 1) := by decide +kernel
theorem dX15_strain_83 : decode cX15_strain 83 = .ok (.iaload, 1) := by decide +kernel
theorem dX15_strain_84 : decode cX15_strain 84 = .ok (.iconst 2, 1) := by decide +kernel
theorem dX15_strain_85 : decode cX15_strain 85 = .ok (.aload_n 2, 1) := by decide +kernel
theorem dX15_strain_86 : decode cX15_strain 86 = .ok (.iload_n 3, 1) := by decide +kernel
theorem dX15_strain_87 : decode cX15_strain 87 = .ok (.iaload, 1) := by decide +kernel
theorem dX15_strain_88 : decode cX15_strain 88 = .ok (.imul, 1) := by decide +kernel
theorem dX15_strain_89 : decode cX15_strain 89 = .ok (.aload_n 0, 1) := by decide +kernel
theorem dX15_strain_90 : decode cX15_strain 90 = .ok (.getfield 32, 3) := by decide +kernel
theorem dX15_strain_93 : decode cX15_strain 93 = .ok (.iload_n 3, 1) := by decide +kernel
theorem dX15_strain_94 : decode cX15_strain 94 = .ok (.iaload, 1) := by decide +kernel
theorem dX15_strain_95 : decode cX15_strain 95 = .ok (.if_icmp .le 7, 3) := by decide +kernel
theorem dX15_strain_102 : decode cX15_strain 102 = .ok (.iconst 0, 1) := by decide +kernel
theorem dX15_strain_103 : decode cX15_strain 103 = .ok (.isub, 1) := by decide +kernel
theorem dX15_strain_104 : decode cX15_strain 104 = .ok (.iastore, 1) := by decide +kernel
theorem dX15_strain_105 : decode cX15_strain 105 = .ok (.aload_n 1, 1) := by decide +kernel
theorem dX15_strain_106 : decode cX15_strain 106 = .ok (.iload_n 3, 1) := by decide +kernel
theorem dX15_strain_107 : decode cX15_strain 107 = .ok (.invokestatic 93, 3) := by decide +kernel
theorem dX15_strain_110 : decode cX15_strain 110 = .ok (.dup2, 1) := by decide +kernel
theorem dX15_strain_111 : decode cX15_strain 111 = .ok (.iaload, 1) := by decide +kernel
theorem dX15_strain_112 : decode cX15_strain 112 = .ok (.aload_n 2, 1) := by decide +kernel
theorem dX15_strain_113 : decode cX15_strain 113 = .ok (.iload_n 3, 1) := by decide +kernel
theorem dX15_strain_114 : decode cX15_strain 114 = .ok (.iaload, 1) := by decide +kernel
theorem dX15_strain_115 : decode cX15_strain 115 = .ok (.iadd, 1) := by decide +kernel
theorem dX15_strain_116 : decode cX15_strain 116 = .ok (.iastore, 1) := by decide +kernel
theorem dX15_strain_117 : decode cX15_strain 117 = .ok (.iinc 3 1, 3) := by decide +kernel
theorem dX15_strain_120 : decode cX15_strain 120 = .ok (.goto (-84), 3) := by decide +kernel
theorem dX15_strain_123 : decode cX15_strain 123 = .ok (.iconst 0, 1) := by decide +kernel
theorem dX15_strain_124 : decode cX15_strain 124 = .ok (.istore_n 3, 1) := by decide +kernel
theorem dX15_strain_125 : decode cX15_strain 125 = .ok (.iload_n 3, 1) := by decide +kernel
theorem dX15_strain_126 : decode cX15_strain 126 = .ok (.iconst 3, 1) := by decide +kernel
theorem dX15_strain_127 : decode cX15_strain 127 = .ok (.if_icmp .ge 105, 3) := by decide +kernel
theorem dX15_strain_130 : decode cX15_strain 130 = .ok (.aload_n 1, 1) := by decide +kernel
theorem dX15_strain_131 : decode cX15_strain 131 = .ok (.iload_n 3, 1) := by decide +kernel
theorem dX15_strain_132 : decode cX15_strain 132 = .ok (.iaload, 1) := by decide +kernel
theorem dX15_strain_133 : decode cX15_strain 133 = .ok (.sipush 2000, 3) := by decide +kernel
theorem dX15_strain_136 : decode cX15_strain 136 = .ok (.if_icmp .le 90, 3) := by decide +kernel
theorem dX15_strain_226 : decode cX15_strain 226 = .ok (.iinc 3 1, 3) := by decide +kernel
theorem dX15_strain_229 : decode cX15_strain 229 = .ok (.goto (-104), 3) := by decide +kernel
theorem dX15_strain_232 : decode cX15_strain 232 = .ok (.return_, 1) := by decide +kernel
set_option maxRecDepth 20000 in
theorem ggX15_turnShip_X15_forceOf : GoodIn wsX15_turnShip wsX15_forceOf := goodIn_ca (goodIn_r _ [18, 19, 20, 21, 22, 17, 23, 24, 25, 26, 27, 28, 29, 30, 31, 32, 33, 34, 35, 36, 37, 38, 39, 40, 41, 42, 43, 44, 45, 46, 47, 48, 49, 50, 51, 52, 53, 54, 55, 56, 57, 58, 59, 60, 61, 62, 63, 64, 65, 66, 67, 68, 69, 70, 71, 5, 72, 7, 8, 9, 73, 74, 75, 76, 3, 4, 6, 77, 78, 79, 80, 81, 12, 82, 83, 84, 85, 86, 87, 88, 89, 90, 91, 92, 93, 94, 95, 96, 97, 98, 99, 190, 191, 192, 193, 194, 195, 196, 197, 198, 199, 200, 201, 202, 203, 204, 205, 206, 207, 208, 209, 210, 211, 212, 213, 214, 215, 216, 217, 218, 219] (by decide +kernel) (by decide +kernel)) (goodIn_sub (fun _ h => List.mem_cons_of_mem _ (List.mem_append_right _ h)) (by decide +kernel))
set_option maxRecDepth 20000 in
theorem gX15_turnShip_X15_forceOf : GoodIn wsX15_turnShip (wsV RX15 115 RX15 yX15_forceOf wsX15_forceOf) := goodIn_app (goodIn_of _ (by decide +kernel)) ggX15_turnShip_X15_forceOf
set_option maxRecDepth 20000 in
theorem ggX15_turnShip_X15_strains : GoodIn wsX15_turnShip wsX15_strains := goodIn_ca (goodIn_r _ [103, 70, 71, 5, 72, 89, 90, 17, 91, 21, 22, 23, 24, 25, 26, 27, 28, 29, 30, 31, 32, 33, 34, 35, 36, 37, 38, 39, 40, 41, 42, 43, 44, 45, 46, 47, 48, 49, 50, 51, 52, 53, 54, 55, 56, 57, 58, 59, 60, 61, 62, 63, 64, 14, 15, 16, 18, 19, 20, 65, 66, 67, 68, 69, 7, 8, 9, 73, 74, 75, 76, 3, 4, 6, 77, 78, 79, 80, 81, 12, 82, 83, 84, 85, 86, 87, 88, 92, 93, 94, 95, 96, 97, 98, 99, 218, 219, 190, 191, 192, 193, 194, 195, 196, 197, 198, 199, 200, 201, 202, 203, 204, 205, 206, 207, 208, 209, 210, 211, 212, 213, 214, 215, 216, 217] (by decide +kernel) (by decide +kernel)) (goodIn_sub (fun _ h => List.mem_cons_of_mem _ (List.mem_append_right _ h)) (by decide +kernel))
set_option maxRecDepth 20000 in
theorem gX15_turnShip_X15_strains : GoodIn wsX15_turnShip (wsV RX15 271 RX15 yX15_strains wsX15_strains) := goodIn_app (goodIn_of _ (by decide +kernel)) ggX15_turnShip_X15_strains
set_option maxRecDepth 20000 in
theorem ggX15_turnShip_X15_sideNow : GoodIn wsX15_turnShip wsX15_sideNow := goodIn_r _ [99, 77, 78, 79, 17, 80, 81, 12, 82, 83, 84, 85, 190, 191, 192, 193, 194, 195, 196, 197, 198, 199, 200, 201, 202, 203, 204, 205, 206, 207, 208, 209, 210, 211, 212, 213, 214, 215, 216, 217] (by decide +kernel) (by decide +kernel)
set_option maxRecDepth 20000 in
theorem gX15_turnShip_X15_sideNow : GoodIn wsX15_turnShip (wsV RX15 81 RX15 yX15_sideNow wsX15_sideNow) := goodIn_app (goodIn_of _ (by decide +kernel)) ggX15_turnShip_X15_sideNow
theorem dX15_turnShip_0 : decode cX15_turnShip 0 = .ok (.iconst 0, 1) := by decide +kernel
theorem dX15_turnShip_1 : decode cX15_turnShip 1 = .ok (.istore_n 1, 1) := by decide +kernel
theorem dX15_turnShip_2 : decode cX15_turnShip 2 = .ok (.iconst 0, 1) := by decide +kernel
theorem dX15_turnShip_3 : decode cX15_turnShip 3 = .ok (.istore_n 2, 1) := by decide +kernel
theorem dX15_turnShip_4 : decode cX15_turnShip 4 = .ok (.iload_n 2, 1) := by decide +kernel
theorem dX15_turnShip_5 : decode cX15_turnShip 5 = .ok (.bipush 9, 2) := by decide +kernel
theorem dX15_turnShip_7 : decode cX15_turnShip 7 = .ok (.if_icmp .ge 17, 3) := by decide +kernel
theorem dX15_turnShip_10 : decode cX15_turnShip 10 = .ok (.iload_n 1, 1) := by decide +kernel
theorem dX15_turnShip_11 : decode cX15_turnShip 11 = .ok (.aload_n 0, 1) := by decide +kernel
theorem dX15_turnShip_12 : decode cX15_turnShip 12 = .ok (.iload_n 2, 1) := by decide +kernel
theorem dX15_turnShip_13 : decode cX15_turnShip 13 = .ok (.invokevirtual 115, 3) := by decide +kernel
theorem dX15_turnShip_16 : decode cX15_turnShip 16 = .ok (.iadd, 1) := by decide +kernel
theorem dX15_turnShip_17 : decode cX15_turnShip 17 = .ok (.istore_n 1, 1) := by decide +kernel
theorem dX15_turnShip_18 : decode cX15_turnShip 18 = .ok (.iinc 2 1, 3) := by decide +kernel
theorem dX15_turnShip_21 : decode cX15_turnShip 21 = .ok (.goto (-17), 3) := by decide +kernel
theorem dX15_turnShip_24 : decode cX15_turnShip 24 = .ok (.iload_n 1, 1) := by decide +kernel
theorem dX15_turnShip_25 : decode cX15_turnShip 25 = .ok (.bipush 30, 2) := by decide +kernel
theorem dX15_turnShip_27 : decode cX15_turnShip 27 = .ok (.aload_n 0, 1) := by decide +kernel
theorem dX15_turnShip_28 : decode cX15_turnShip 28 = .ok (.getfield 262, 3) := by decide +kernel
theorem dX15_turnShip_31 : decode cX15_turnShip 31 = .ok (.iadd, 1) := by decide +kernel
theorem dX15_turnShip_32 : decode cX15_turnShip 32 = .ok (.idiv, 1) := by decide +kernel
theorem dX15_turnShip_33 : decode cX15_turnShip 33 = .ok (.istore_n 2, 1) := by decide +kernel
theorem dX15_turnShip_34 : decode cX15_turnShip 34 = .ok (.aload_n 0, 1) := by decide +kernel
theorem dX15_turnShip_35 : decode cX15_turnShip 35 = .ok (.dup, 1) := by decide +kernel
theorem dX15_turnShip_36 : decode cX15_turnShip 36 = .ok (.getfield 265, 3) := by decide +kernel
theorem dX15_turnShip_39 : decode cX15_turnShip 39 = .ok (.bipush (-2), 2) := by decide +kernel
theorem dX15_turnShip_41 : decode cX15_turnShip 41 = .ok (.iconst 2, 1) := by decide +kernel
theorem dX15_turnShip_42 : decode cX15_turnShip 42 = .ok (.iload_n 2, 1) := by decide +kernel
theorem dX15_turnShip_43 : decode cX15_turnShip 43 = .ok (.aload_n 0, 1) := by decide +kernel
theorem dX15_turnShip_44 : decode cX15_turnShip 44 = .ok (.getfield 265, 3) := by decide +kernel
theorem dX15_turnShip_47 : decode cX15_turnShip 47 = .ok (.isub, 1) := by decide +kernel
theorem dX15_turnShip_48 : decode cX15_turnShip 48 = .ok (.invokestatic 75, 3) := by decide +kernel
theorem dX15_turnShip_51 : decode cX15_turnShip 51 = .ok (.invokestatic 102, 3) := by decide +kernel
theorem dX15_turnShip_54 : decode cX15_turnShip 54 = .ok (.iadd, 1) := by decide +kernel
theorem dX15_turnShip_55 : decode cX15_turnShip 55 = .ok (.putfield 265, 3) := by decide +kernel
theorem dX15_turnShip_58 : decode cX15_turnShip 58 = .ok (.aload_n 0, 1) := by decide +kernel
theorem dX15_turnShip_59 : decode cX15_turnShip 59 = .ok (.dup, 1) := by decide +kernel
theorem dX15_turnShip_60 : decode cX15_turnShip 60 = .ok (.getfield 268, 3) := by decide +kernel
theorem dX15_turnShip_63 : decode cX15_turnShip 63 = .ok (.aload_n 0, 1) := by decide +kernel
theorem dX15_turnShip_64 : decode cX15_turnShip 64 = .ok (.getfield 140, 3) := by decide +kernel
theorem dX15_turnShip_67 : decode cX15_turnShip 67 = .ok (.aload_n 0, 1) := by decide +kernel
theorem dX15_turnShip_68 : decode cX15_turnShip 68 = .ok (.getfield 265, 3) := by decide +kernel
theorem dX15_turnShip_71 : decode cX15_turnShip 71 = .ok (.imul, 1) := by decide +kernel
theorem dX15_turnShip_72 : decode cX15_turnShip 72 = .ok (.iconst 4, 1) := by decide +kernel
theorem dX15_turnShip_73 : decode cX15_turnShip 73 = .ok (.idiv, 1) := by decide +kernel
theorem dX15_turnShip_74 : decode cX15_turnShip 74 = .ok (.iadd, 1) := by decide +kernel
theorem dX15_turnShip_75 : decode cX15_turnShip 75 = .ok (.putfield 268, 3) := by decide +kernel
theorem dX15_turnShip_78 : decode cX15_turnShip 78 = .ok (.aload_n 0, 1) := by decide +kernel
theorem dX15_turnShip_79 : decode cX15_turnShip 79 = .ok (.iconst 2, 1) := by decide +kernel
theorem dX15_turnShip_80 : decode cX15_turnShip 80 = .ok (.invokevirtual 271, 3) := by decide +kernel
theorem dX15_turnShip_83 : decode cX15_turnShip 83 = .ok (.aload_n 0, 1) := by decide +kernel
theorem dX15_turnShip_84 : decode cX15_turnShip 84 = .ok (.iconst 0, 1) := by decide +kernel
theorem dX15_turnShip_85 : decode cX15_turnShip 85 = .ok (.invokevirtual 271, 3) := by decide +kernel
theorem dX15_turnShip_88 : decode cX15_turnShip 88 = .ok (.isub, 1) := by decide +kernel
theorem dX15_turnShip_89 : decode cX15_turnShip 89 = .ok (.bipush 50, 2) := by decide +kernel
theorem dX15_turnShip_91 : decode cX15_turnShip 91 = .ok (.idiv, 1) := by decide +kernel
theorem dX15_turnShip_92 : decode cX15_turnShip 92 = .ok (.istore_n 3, 1) := by decide +kernel
theorem dX15_turnShip_93 : decode cX15_turnShip 93 = .ok (.aload_n 0, 1) := by decide +kernel
theorem dX15_turnShip_94 : decode cX15_turnShip 94 = .ok (.dup, 1) := by decide +kernel
theorem dX15_turnShip_95 : decode cX15_turnShip 95 = .ok (.getfield 268, 3) := by decide +kernel
theorem dX15_turnShip_98 : decode cX15_turnShip 98 = .ok (.aload_n 0, 1) := by decide +kernel
theorem dX15_turnShip_99 : decode cX15_turnShip 99 = .ok (.invokevirtual 81, 3) := by decide +kernel
theorem dX15_turnShip_102 : decode cX15_turnShip 102 = .ok (.iload_n 3, 1) := by decide +kernel
theorem dX15_turnShip_103 : decode cX15_turnShip 103 = .ok (.imul, 1) := by decide +kernel
theorem dX15_turnShip_104 : decode cX15_turnShip 104 = .ok (.iadd, 1) := by decide +kernel
theorem dX15_turnShip_105 : decode cX15_turnShip 105 = .ok (.putfield 268, 3) := by decide +kernel
theorem dX15_turnShip_108 : decode cX15_turnShip 108 = .ok (.aload_n 0, 1) := by decide +kernel
theorem dX15_turnShip_109 : decode cX15_turnShip 109 = .ok (.getfield 268, 3) := by decide +kernel
theorem dX15_turnShip_112 : decode cX15_turnShip 112 = .ok (.bipush 100, 2) := by decide +kernel
theorem dX15_turnShip_114 : decode cX15_turnShip 114 = .ok (.if_icmp .lt 30, 3) := by decide +kernel
theorem dX15_turnShip_144 : decode cX15_turnShip 144 = .ok (.aload_n 0, 1) := by decide +kernel
theorem dX15_turnShip_145 : decode cX15_turnShip 145 = .ok (.getfield 268, 3) := by decide +kernel
theorem dX15_turnShip_148 : decode cX15_turnShip 148 = .ok (.bipush (-100), 2) := by decide +kernel
theorem dX15_turnShip_150 : decode cX15_turnShip 150 = .ok (.if_icmp .gt 33, 3) := by decide +kernel
theorem dX15_turnShip_183 : decode cX15_turnShip 183 = .ok (.aload_n 0, 1) := by decide +kernel
theorem dX15_turnShip_184 : decode cX15_turnShip 184 = .ok (.invokevirtual 81, 3) := by decide +kernel
theorem dX15_turnShip_187 : decode cX15_turnShip 187 = .ok (.istore 4, 2) := by decide +kernel
theorem dX15_turnShip_189 : decode cX15_turnShip 189 = .ok (.iload 4, 2) := by decide +kernel
theorem dX15_turnShip_191 : decode cX15_turnShip 191 = .ok (.ifCond .eq 39, 3) := by decide +kernel
theorem dX15_turnShip_230 : decode cX15_turnShip 230 = .ok (.aload_n 0, 1) := by decide +kernel
theorem dX15_turnShip_231 : decode cX15_turnShip 231 = .ok (.iload 4, 2) := by decide +kernel
theorem dX15_turnShip_233 : decode cX15_turnShip 233 = .ok (.ifCond .ne 10, 3) := by decide +kernel
theorem dX15_turnShip_236 : decode cX15_turnShip 236 = .ok (.aload_n 0, 1) := by decide +kernel
theorem dX15_turnShip_237 : decode cX15_turnShip 237 = .ok (.getfield 274, 3) := by decide +kernel
theorem dX15_turnShip_240 : decode cX15_turnShip 240 = .ok (.goto 5, 3) := by decide +kernel
theorem dX15_turnShip_245 : decode cX15_turnShip 245 = .ok (.putfield 274, 3) := by decide +kernel
theorem dX15_turnShip_248 : decode cX15_turnShip 248 = .ok (.return_, 1) := by decide +kernel
set_option maxRecDepth 20000 in
theorem ggX15_go_X15_points : GoodIn wsX15_go wsX15_points := goodIn_r _ [12, 13, 14, 15, 16, 17, 18, 19, 11, 20, 4, 3, 21, 22, 23, 24, 110, 111, 112, 113, 114, 115, 116, 117, 118, 119, 120, 121, 122, 123, 124, 125, 126, 127, 128, 129, 130, 131, 132, 133, 134, 135, 136, 137] (by decide +kernel) (by decide +kernel)
set_option maxRecDepth 20000 in
theorem gX15_go_X15_points : GoodIn wsX15_go (wsV RX15 78 RX15 yX15_points wsX15_points) := goodIn_app (goodIn_of _ (by decide +kernel)) ggX15_go_X15_points
set_option maxRecDepth 20000 in
theorem ggX15_go_X15_strains : GoodIn wsX15_go wsX15_strains := goodIn_ca (goodIn_r _ [28, 29, 30, 15, 31, 32, 33, 11, 34, 35, 36, 37, 38, 39, 40, 41, 42, 43, 44, 45, 46, 47, 48, 49, 50, 51, 52, 53, 54, 55, 56, 57, 58, 59, 60, 61, 62, 63, 64, 65, 66, 67, 68, 69, 70, 71, 72, 73, 74, 75, 76, 77, 78, 79, 80, 81, 82, 83, 84, 85, 86, 87, 88, 89, 90, 91, 92, 8, 9, 10, 12, 13, 14, 16, 17, 18, 19, 20, 4, 3, 21, 22, 23, 24, 93, 94, 95, 96, 97, 98, 99, 100, 101, 102, 103, 138, 139, 110, 111, 112, 113, 114, 115, 116, 117, 118, 119, 120, 121, 122, 123, 124, 125, 126, 127, 128, 129, 130, 131, 132, 133, 134, 135, 136, 137] (by decide +kernel) (by decide +kernel)) (goodIn_sub (fun _ h => List.mem_cons_of_mem _ (List.mem_append_right _ h)) (by decide +kernel))
set_option maxRecDepth 20000 in
theorem gX15_go_X15_strains : GoodIn wsX15_go (wsV RX15 271 RX15 yX15_strains wsX15_strains) := goodIn_app (goodIn_of _ (by decide +kernel)) ggX15_go_X15_strains
set_option maxRecDepth 20000 in
theorem ggX15_go_X15_northOf : GoodIn wsX15_go wsX15_northOf := goodIn_r _ [106, 21, 22, 23, 24, 104, 105, 11] (by decide +kernel) (by decide +kernel)
set_option maxRecDepth 20000 in
theorem gX15_go_X15_northOf : GoodIn wsX15_go (va_wsS RX15 61 yX15_northOf wsX15_northOf) := goodIn_app (goodIn_of _ (by decide +kernel)) ggX15_go_X15_northOf
set_option maxRecDepth 20000 in
theorem ggX15_go_X15_eastOf : GoodIn wsX15_go wsX15_eastOf := goodIn_r _ [109, 104, 105, 11, 106, 21, 22, 23, 24] (by decide +kernel) (by decide +kernel)
set_option maxRecDepth 20000 in
theorem gX15_go_X15_eastOf : GoodIn wsX15_go (va_wsS RX15 284 yX15_eastOf wsX15_eastOf) := goodIn_app (goodIn_of _ (by decide +kernel)) ggX15_go_X15_eastOf
theorem dX15_go_0 : decode cX15_go 0 = .ok (.aload_n 0, 1) := by decide +kernel
theorem dX15_go_1 : decode cX15_go 1 = .ok (.invokevirtual 78, 3) := by decide +kernel
theorem dX15_go_4 : decode cX15_go 4 = .ok (.bipush 10, 2) := by decide +kernel
theorem dX15_go_6 : decode cX15_go 6 = .ok (.if_icmp .gt 15, 3) := by decide +kernel
theorem dX15_go_9 : decode cX15_go 9 = .ok (.aload_n 0, 1) := by decide +kernel
theorem dX15_go_10 : decode cX15_go 10 = .ok (.iconst (-1), 1) := by decide +kernel
theorem dX15_go_11 : decode cX15_go 11 = .ok (.invokevirtual 271, 3) := by decide +kernel
theorem dX15_go_14 : decode cX15_go 14 = .ok (.sipush 200, 3) := by decide +kernel
theorem dX15_go_17 : decode cX15_go 17 = .ok (.idiv, 1) := by decide +kernel
theorem dX15_go_18 : decode cX15_go 18 = .ok (.goto 4, 3) := by decide +kernel
theorem dX15_go_22 : decode cX15_go 22 = .ok (.istore_n 1, 1) := by decide +kernel
theorem dX15_go_23 : decode cX15_go 23 = .ok (.aload_n 0, 1) := by decide +kernel
theorem dX15_go_24 : decode cX15_go 24 = .ok (.dup, 1) := by decide +kernel
theorem dX15_go_25 : decode cX15_go 25 = .ok (.getfield 277, 3) := by decide +kernel
theorem dX15_go_28 : decode cX15_go 28 = .ok (.aload_n 0, 1) := by decide +kernel
theorem dX15_go_29 : decode cX15_go 29 = .ok (.getfield 265, 3) := by decide +kernel
theorem dX15_go_32 : decode cX15_go 32 = .ok (.i2l, 1) := by decide +kernel
theorem dX15_go_33 : decode cX15_go 33 = .ok (.aload_n 0, 1) := by decide +kernel
theorem dX15_go_34 : decode cX15_go 34 = .ok (.getfield 68, 3) := by decide +kernel
theorem dX15_go_37 : decode cX15_go 37 = .ok (.invokestatic 61, 3) := by decide +kernel
theorem dX15_go_40 : decode cX15_go 40 = .ok (.i2l, 1) := by decide +kernel
theorem dX15_go_41 : decode cX15_go 41 = .ok (.lmul, 1) := by decide +kernel
theorem dX15_go_42 : decode cX15_go 42 = .ok (.iload_n 1, 1) := by decide +kernel
theorem dX15_go_43 : decode cX15_go 43 = .ok (.i2l, 1) := by decide +kernel
theorem dX15_go_44 : decode cX15_go 44 = .ok (.aload_n 0, 1) := by decide +kernel
theorem dX15_go_45 : decode cX15_go 45 = .ok (.getfield 65, 3) := by decide +kernel
theorem dX15_go_48 : decode cX15_go 48 = .ok (.bipush 16, 2) := by decide +kernel
theorem dX15_go_50 : decode cX15_go 50 = .ok (.iadd, 1) := by decide +kernel
theorem dX15_go_51 : decode cX15_go 51 = .ok (.invokestatic 61, 3) := by decide +kernel
theorem dX15_go_54 : decode cX15_go 54 = .ok (.i2l, 1) := by decide +kernel
theorem dX15_go_55 : decode cX15_go 55 = .ok (.lmul, 1) := by decide +kernel
theorem dX15_go_56 : decode cX15_go 56 = .ok (.ladd, 1) := by decide +kernel
theorem dX15_go_57 : decode cX15_go 57 = .ok (.aload_n 0, 1) := by decide +kernel
theorem dX15_go_58 : decode cX15_go 58 = .ok (.getfield 133, 3) := by decide +kernel
theorem dX15_go_61 : decode cX15_go 61 = .ok (.i2l, 1) := by decide +kernel
theorem dX15_go_62 : decode cX15_go 62 = .ok (.ladd, 1) := by decide +kernel
theorem dX15_go_63 : decode cX15_go 63 = .ok (.ladd, 1) := by decide +kernel
theorem dX15_go_64 : decode cX15_go 64 = .ok (.putfield 277, 3) := by decide +kernel
theorem dX15_go_67 : decode cX15_go 67 = .ok (.aload_n 0, 1) := by decide +kernel
theorem dX15_go_68 : decode cX15_go 68 = .ok (.dup, 1) := by decide +kernel
theorem dX15_go_69 : decode cX15_go 69 = .ok (.getfield 281, 3) := by decide +kernel
theorem dX15_go_72 : decode cX15_go 72 = .ok (.aload_n 0, 1) := by decide +kernel
theorem dX15_go_73 : decode cX15_go 73 = .ok (.getfield 265, 3) := by decide +kernel
theorem dX15_go_76 : decode cX15_go 76 = .ok (.i2l, 1) := by decide +kernel
theorem dX15_go_77 : decode cX15_go 77 = .ok (.aload_n 0, 1) := by decide +kernel
theorem dX15_go_78 : decode cX15_go 78 = .ok (.getfield 68, 3) := by decide +kernel
theorem dX15_go_81 : decode cX15_go 81 = .ok (.invokestatic 284, 3) := by decide +kernel
theorem dX15_go_84 : decode cX15_go 84 = .ok (.i2l, 1) := by decide +kernel
theorem dX15_go_85 : decode cX15_go 85 = .ok (.lmul, 1) := by decide +kernel
theorem dX15_go_86 : decode cX15_go 86 = .ok (.iload_n 1, 1) := by decide +kernel
theorem dX15_go_87 : decode cX15_go 87 = .ok (.i2l, 1) := by decide +kernel
theorem dX15_go_88 : decode cX15_go 88 = .ok (.aload_n 0, 1) := by decide +kernel
theorem dX15_go_89 : decode cX15_go 89 = .ok (.getfield 65, 3) := by decide +kernel
theorem dX15_go_92 : decode cX15_go 92 = .ok (.bipush 16, 2) := by decide +kernel
theorem dX15_go_94 : decode cX15_go 94 = .ok (.iadd, 1) := by decide +kernel
theorem dX15_go_95 : decode cX15_go 95 = .ok (.invokestatic 284, 3) := by decide +kernel
theorem dX15_go_98 : decode cX15_go 98 = .ok (.i2l, 1) := by decide +kernel
theorem dX15_go_99 : decode cX15_go 99 = .ok (.lmul, 1) := by decide +kernel
theorem dX15_go_100 : decode cX15_go 100 = .ok (.ladd, 1) := by decide +kernel
theorem dX15_go_101 : decode cX15_go 101 = .ok (.aload_n 0, 1) := by decide +kernel
theorem dX15_go_102 : decode cX15_go 102 = .ok (.getfield 130, 3) := by decide +kernel
theorem dX15_go_105 : decode cX15_go 105 = .ok (.i2l, 1) := by decide +kernel
theorem dX15_go_106 : decode cX15_go 106 = .ok (.ladd, 1) := by decide +kernel
theorem dX15_go_107 : decode cX15_go 107 = .ok (.ladd, 1) := by decide +kernel
theorem dX15_go_108 : decode cX15_go 108 = .ok (.putfield 281, 3) := by decide +kernel
theorem dX15_go_111 : decode cX15_go 111 = .ok (.return_, 1) := by decide +kernel
set_option maxRecDepth 20000 in
theorem ggX15_take_Jx4a65c_size_8abf5 : GoodIn wsX15_take wsJx4a65c_size_8abf5 := goodIn_r _ [11, 12, 60, 61, 62] (by decide +kernel) (by decide +kernel)
set_option maxRecDepth 20000 in
theorem gX15_take_Jx4a65c_size_8abf5_f156Jx4a65c : GoodIn wsX15_take (va_wsF RX15 156 RJx4a65c ⟨"java/util/List", "size", "()I"⟩ yJx4a65c_size_8abf5 wsJx4a65c_size_8abf5) := goodIn_app (goodIn_of _ (by decide +kernel)) ggX15_take_Jx4a65c_size_8abf5
theorem dX15_take_0 : decode cX15_take 0 = .ok (.iload_n 2, 1) := by decide +kernel
theorem dX15_take_1 : decode cX15_take 1 = .ok (.istore_n 3, 1) := by decide +kernel
theorem dX15_take_2 : decode cX15_take 2 = .ok (.iconst 1, 1) := by decide +kernel
theorem dX15_take_3 : decode cX15_take 3 = .ok (.istore 4, 2) := by decide +kernel
theorem dX15_take_5 : decode cX15_take 5 = .ok (.iload_n 3, 1) := by decide +kernel
theorem dX15_take_6 : decode cX15_take 6 = .ok (.ifCond .le 156, 3) := by decide +kernel
theorem dX15_take_9 : decode cX15_take 9 = .ok (.iload 4, 2) := by decide +kernel
theorem dX15_take_11 : decode cX15_take 11 = .ok (.ifCond .eq 151, 3) := by decide +kernel
theorem dX15_take_14 : decode cX15_take 14 = .ok (.aconst_null, 1) := by decide +kernel
theorem dX15_take_15 : decode cX15_take 15 = .ok (.astore 5, 2) := by decide +kernel
theorem dX15_take_17 : decode cX15_take 17 = .ok (.iconst 0, 1) := by decide +kernel
theorem dX15_take_18 : decode cX15_take 18 = .ok (.istore 6, 2) := by decide +kernel
theorem dX15_take_20 : decode cX15_take 20 = .ok (.aload_n 0, 1) := by decide +kernel
theorem dX15_take_21 : decode cX15_take 21 = .ok (.getfield 23, 3) := by decide +kernel
theorem dX15_take_24 : decode cX15_take 24 = .ok (.invokeinterface 156 1, 5) := by decide +kernel
theorem dX15_take_29 : decode cX15_take 29 = .ok (.iconst 1, 1) := by decide +kernel
theorem dX15_take_30 : decode cX15_take 30 = .ok (.isub, 1) := by decide +kernel
theorem dX15_take_31 : decode cX15_take 31 = .ok (.istore 7, 2) := by decide +kernel
theorem dX15_take_33 : decode cX15_take 33 = .ok (.iload 7, 2) := by decide +kernel
theorem dX15_take_35 : decode cX15_take 35 = .ok (.ifCond .lt 79, 3) := by decide +kernel
theorem dX15_take_114 : decode cX15_take 114 = .ok (.aload 5, 2) := by decide +kernel
theorem dX15_take_116 : decode cX15_take 116 = .ok (.ifnull 7, 3) := by decide +kernel
theorem dX15_take_123 : decode cX15_take 123 = .ok (.iconst 0, 1) := by decide +kernel
theorem dX15_take_124 : decode cX15_take 124 = .ok (.istore 4, 2) := by decide +kernel
theorem dX15_take_126 : decode cX15_take 126 = .ok (.iload 4, 2) := by decide +kernel
theorem dX15_take_128 : decode cX15_take 128 = .ok (.ifCond .eq 31, 3) := by decide +kernel
theorem dX15_take_159 : decode cX15_take 159 = .ok (.goto (-154), 3) := by decide +kernel
theorem dX15_take_162 : decode cX15_take 162 = .ok (.iload_n 3, 1) := by decide +kernel
theorem dX15_take_163 : decode cX15_take 163 = .ok (.ifCond .ne 7, 3) := by decide +kernel
theorem dX15_take_170 : decode cX15_take 170 = .ok (.iconst 0, 1) := by decide +kernel
theorem dX15_take_171 : decode cX15_take 171 = .ok (.ireturn, 1) := by decide +kernel
set_option maxRecDepth 20000 in
theorem ggX15_tell_X15_northOf : GoodIn wsX15_tell wsX15_northOf := goodIn_r _ [23, 24, 25, 26, 27, 20, 21, 22] (by decide +kernel) (by decide +kernel)
set_option maxRecDepth 20000 in
theorem gX15_tell_X15_northOf : GoodIn wsX15_tell (va_wsS RX15 61 yX15_northOf wsX15_northOf) := goodIn_app (goodIn_of _ (by decide +kernel)) ggX15_tell_X15_northOf
set_option maxRecDepth 20000 in
theorem ggX15_tell_X15_eastOf : GoodIn wsX15_tell wsX15_eastOf := goodIn_r _ [30, 20, 21, 22, 23, 24, 25, 26, 27] (by decide +kernel) (by decide +kernel)
set_option maxRecDepth 20000 in
theorem gX15_tell_X15_eastOf : GoodIn wsX15_tell (va_wsS RX15 284 yX15_eastOf wsX15_eastOf) := goodIn_app (goodIn_of _ (by decide +kernel)) ggX15_tell_X15_eastOf
set_option maxRecDepth 20000 in
theorem ggX15_tell_X15_take : GoodIn wsX15_tell wsX15_take := goodIn_r _ [34, 35, 36, 10, 11, 12, 13, 37, 38, 39, 40, 41, 42, 43, 44, 45, 46, 47, 48, 49, 50, 51, 52, 53, 54, 55, 56, 57, 58, 59, 60, 61, 62, 63, 64, 65, 66, 67, 68, 69, 70, 71, 72, 73, 74, 75, 76, 77, 78, 79, 80, 81, 82, 83, 84, 85, 86, 87, 88, 89, 90, 91, 92] (by decide +kernel) (by decide +kernel)
set_option maxRecDepth 20000 in
theorem gX15_tell_X15_take : GoodIn wsX15_tell (wsV RX15 300 RX15 yX15_take wsX15_take) := goodIn_app (goodIn_of _ (by decide +kernel)) ggX15_tell_X15_take
theorem dX15_tell_0 : decode cX15_tell 0 = .ok (.aload_n 0, 1) := by decide +kernel
theorem dX15_tell_1 : decode cX15_tell 1 = .ok (.getfield 163, 3) := by decide +kernel
theorem dX15_tell_4 : decode cX15_tell 4 = .ok (.bipush 30, 2) := by decide +kernel
theorem dX15_tell_6 : decode cX15_tell 6 = .ok (.irem, 1) := by decide +kernel
theorem dX15_tell_7 : decode cX15_tell 7 = .ok (.ifCond .ne 58, 3) := by decide +kernel
theorem dX15_tell_10 : decode cX15_tell 10 = .ok (.ldc2_w 290, 3) := by decide +kernel
theorem dX15_tell_13 : decode cX15_tell 13 = .ok (.aload_n 0, 1) := by decide +kernel
theorem dX15_tell_14 : decode cX15_tell 14 = .ok (.getfield 265, 3) := by decide +kernel
theorem dX15_tell_17 : decode cX15_tell 17 = .ok (.bipush 10, 2) := by decide +kernel
theorem dX15_tell_19 : decode cX15_tell 19 = .ok (.idiv, 1) := by decide +kernel
theorem dX15_tell_20 : decode cX15_tell 20 = .ok (.i2l, 1) := by decide +kernel
theorem dX15_tell_21 : decode cX15_tell 21 = .ok (.lmul, 1) := by decide +kernel
theorem dX15_tell_22 : decode cX15_tell 22 = .ok (.ldc2_w 292, 3) := by decide +kernel
theorem dX15_tell_25 : decode cX15_tell 25 = .ok (.lmul, 1) := by decide +kernel
theorem dX15_tell_26 : decode cX15_tell 26 = .ok (.lstore_n 1, 1) := by decide +kernel
theorem dX15_tell_27 : decode cX15_tell 27 = .ok (.aload_n 0, 1) := by decide +kernel
theorem dX15_tell_28 : decode cX15_tell 28 = .ok (.dup, 1) := by decide +kernel
theorem dX15_tell_29 : decode cX15_tell 29 = .ok (.getfield 294, 3) := by decide +kernel
theorem dX15_tell_32 : decode cX15_tell 32 = .ok (.lload_n 1, 1) := by decide +kernel
theorem dX15_tell_33 : decode cX15_tell 33 = .ok (.aload_n 0, 1) := by decide +kernel
theorem dX15_tell_34 : decode cX15_tell 34 = .ok (.getfield 68, 3) := by decide +kernel
theorem dX15_tell_37 : decode cX15_tell 37 = .ok (.invokestatic 61, 3) := by decide +kernel
theorem dX15_tell_40 : decode cX15_tell 40 = .ok (.i2l, 1) := by decide +kernel
theorem dX15_tell_41 : decode cX15_tell 41 = .ok (.lmul, 1) := by decide +kernel
theorem dX15_tell_42 : decode cX15_tell 42 = .ok (.ladd, 1) := by decide +kernel
theorem dX15_tell_43 : decode cX15_tell 43 = .ok (.putfield 294, 3) := by decide +kernel
theorem dX15_tell_46 : decode cX15_tell 46 = .ok (.aload_n 0, 1) := by decide +kernel
theorem dX15_tell_47 : decode cX15_tell 47 = .ok (.dup, 1) := by decide +kernel
theorem dX15_tell_48 : decode cX15_tell 48 = .ok (.getfield 297, 3) := by decide +kernel
theorem dX15_tell_51 : decode cX15_tell 51 = .ok (.lload_n 1, 1) := by decide +kernel
theorem dX15_tell_52 : decode cX15_tell 52 = .ok (.aload_n 0, 1) := by decide +kernel
theorem dX15_tell_53 : decode cX15_tell 53 = .ok (.getfield 68, 3) := by decide +kernel
theorem dX15_tell_56 : decode cX15_tell 56 = .ok (.invokestatic 284, 3) := by decide +kernel
theorem dX15_tell_59 : decode cX15_tell 59 = .ok (.i2l, 1) := by decide +kernel
theorem dX15_tell_60 : decode cX15_tell 60 = .ok (.lmul, 1) := by decide +kernel
theorem dX15_tell_61 : decode cX15_tell 61 = .ok (.ladd, 1) := by decide +kernel
theorem dX15_tell_62 : decode cX15_tell 62 = .ok (.putfield 297, 3) := by decide +kernel
theorem dX15_tell_65 : decode cX15_tell 65 = .ok (.aload_n 0, 1) := by decide +kernel
theorem dX15_tell_66 : decode cX15_tell 66 = .ok (.getfield 163, 3) := by decide +kernel
theorem dX15_tell_69 : decode cX15_tell 69 = .ok (.sipush 240, 3) := by decide +kernel
theorem dX15_tell_72 : decode cX15_tell 72 = .ok (.irem, 1) := by decide +kernel
theorem dX15_tell_73 : decode cX15_tell 73 = .ok (.ifCond .ne 94, 3) := by decide +kernel
theorem dX15_tell_76 : decode cX15_tell 76 = .ok (.aload_n 0, 1) := by decide +kernel
theorem dX15_tell_77 : decode cX15_tell 77 = .ok (.getfield 7, 3) := by decide +kernel
theorem dX15_tell_80 : decode cX15_tell 80 = .ok (.aload_n 0, 1) := by decide +kernel
theorem dX15_tell_81 : decode cX15_tell 81 = .ok (.getfield 199, 3) := by decide +kernel
theorem dX15_tell_84 : decode cX15_tell 84 = .ok (.bipush 60, 2) := by decide +kernel
theorem dX15_tell_86 : decode cX15_tell 86 = .ok (.aload_n 0, 1) := by decide +kernel
theorem dX15_tell_87 : decode cX15_tell 87 = .ok (.getfield 7, 3) := by decide +kernel
theorem dX15_tell_90 : decode cX15_tell 90 = .ok (.aload_n 0, 1) := by decide +kernel
theorem dX15_tell_91 : decode cX15_tell 91 = .ok (.getfield 199, 3) := by decide +kernel
theorem dX15_tell_94 : decode cX15_tell 94 = .ok (.iaload, 1) := by decide +kernel
theorem dX15_tell_95 : decode cX15_tell 95 = .ok (.iconst 5, 1) := by decide +kernel
theorem dX15_tell_96 : decode cX15_tell 96 = .ok (.iadd, 1) := by decide +kernel
theorem dX15_tell_97 : decode cX15_tell 97 = .ok (.invokestatic 75, 3) := by decide +kernel
theorem dX15_tell_100 : decode cX15_tell 100 = .ok (.iastore, 1) := by decide +kernel
theorem dX15_tell_101 : decode cX15_tell 101 = .ok (.aload_n 0, 1) := by decide +kernel
theorem dX15_tell_102 : decode cX15_tell 102 = .ok (.getfield 7, 3) := by decide +kernel
theorem dX15_tell_105 : decode cX15_tell 105 = .ok (.iconst 1, 1) := by decide +kernel
theorem dX15_tell_106 : decode cX15_tell 106 = .ok (.aload_n 0, 1) := by decide +kernel
theorem dX15_tell_107 : decode cX15_tell 107 = .ok (.getfield 199, 3) := by decide +kernel
theorem dX15_tell_110 : decode cX15_tell 110 = .ok (.isub, 1) := by decide +kernel
theorem dX15_tell_111 : decode cX15_tell 111 = .ok (.aload_n 0, 1) := by decide +kernel
theorem dX15_tell_112 : decode cX15_tell 112 = .ok (.getfield 195, 3) := by decide +kernel
theorem dX15_tell_115 : decode cX15_tell 115 = .ok (.ifCond .eq 24, 3) := by decide +kernel
theorem dX15_tell_139 : decode cX15_tell 139 = .ok (.iconst 0, 1) := by decide +kernel
theorem dX15_tell_140 : decode cX15_tell 140 = .ok (.aload_n 0, 1) := by decide +kernel
theorem dX15_tell_141 : decode cX15_tell 141 = .ok (.getfield 7, 3) := by decide +kernel
theorem dX15_tell_144 : decode cX15_tell 144 = .ok (.iconst 1, 1) := by decide +kernel
theorem dX15_tell_145 : decode cX15_tell 145 = .ok (.aload_n 0, 1) := by decide +kernel
theorem dX15_tell_146 : decode cX15_tell 146 = .ok (.getfield 199, 3) := by decide +kernel
theorem dX15_tell_149 : decode cX15_tell 149 = .ok (.isub, 1) := by decide +kernel
theorem dX15_tell_150 : decode cX15_tell 150 = .ok (.iaload, 1) := by decide +kernel
theorem dX15_tell_151 : decode cX15_tell 151 = .ok (.iconst 5, 1) := by decide +kernel
theorem dX15_tell_152 : decode cX15_tell 152 = .ok (.isub, 1) := by decide +kernel
theorem dX15_tell_153 : decode cX15_tell 153 = .ok (.invokestatic 102, 3) := by decide +kernel
theorem dX15_tell_156 : decode cX15_tell 156 = .ok (.iastore, 1) := by decide +kernel
theorem dX15_tell_157 : decode cX15_tell 157 = .ok (.aload_n 0, 1) := by decide +kernel
theorem dX15_tell_158 : decode cX15_tell 158 = .ok (.iconst 1, 1) := by decide +kernel
theorem dX15_tell_159 : decode cX15_tell 159 = .ok (.aload_n 0, 1) := by decide +kernel
theorem dX15_tell_160 : decode cX15_tell 160 = .ok (.getfield 199, 3) := by decide +kernel
theorem dX15_tell_163 : decode cX15_tell 163 = .ok (.isub, 1) := by decide +kernel
theorem dX15_tell_164 : decode cX15_tell 164 = .ok (.putfield 199, 3) := by decide +kernel
theorem dX15_tell_167 : decode cX15_tell 167 = .ok (.aload_n 0, 1) := by decide +kernel
theorem dX15_tell_168 : decode cX15_tell 168 = .ok (.getfield 163, 3) := by decide +kernel
theorem dX15_tell_171 : decode cX15_tell 171 = .ok (.sipush 1440, 3) := by decide +kernel
theorem dX15_tell_174 : decode cX15_tell 174 = .ok (.irem, 1) := by decide +kernel
theorem dX15_tell_175 : decode cX15_tell 175 = .ok (.ifCond .ne 84, 3) := by decide +kernel
theorem dX15_tell_178 : decode cX15_tell 178 = .ok (.aload_n 0, 1) := by decide +kernel
theorem dX15_tell_179 : decode cX15_tell 179 = .ok (.iconst 0, 1) := by decide +kernel
theorem dX15_tell_180 : decode cX15_tell 180 = .ok (.bipush 24, 2) := by decide +kernel
theorem dX15_tell_182 : decode cX15_tell 182 = .ok (.invokevirtual 300, 3) := by decide +kernel
theorem dX15_tell_185 : decode cX15_tell 185 = .ok (.istore_n 1, 1) := by decide +kernel
theorem dX15_tell_186 : decode cX15_tell 186 = .ok (.aload_n 0, 1) := by decide +kernel
theorem dX15_tell_187 : decode cX15_tell 187 = .ok (.iconst 1, 1) := by decide +kernel
theorem dX15_tell_188 : decode cX15_tell 188 = .ok (.bipush 24, 2) := by decide +kernel
theorem dX15_tell_190 : decode cX15_tell 190 = .ok (.invokevirtual 300, 3) := by decide +kernel
theorem dX15_tell_193 : decode cX15_tell 193 = .ok (.istore_n 2, 1) := by decide +kernel
theorem dX15_tell_194 : decode cX15_tell 194 = .ok (.iconst 0, 1) := by decide +kernel
theorem dX15_tell_195 : decode cX15_tell 195 = .ok (.istore_n 3, 1) := by decide +kernel
theorem dX15_tell_196 : decode cX15_tell 196 = .ok (.iload_n 3, 1) := by decide +kernel
theorem dX15_tell_197 : decode cX15_tell 197 = .ok (.iconst 2, 1) := by decide +kernel
theorem dX15_tell_198 : decode cX15_tell 198 = .ok (.if_icmp .ge 51, 3) := by decide +kernel
theorem dX15_tell_201 : decode cX15_tell 201 = .ok (.aload_n 0, 1) := by decide +kernel
theorem dX15_tell_202 : decode cX15_tell 202 = .ok (.getfield 13, 3) := by decide +kernel
theorem dX15_tell_205 : decode cX15_tell 205 = .ok (.iload_n 3, 1) := by decide +kernel
theorem dX15_tell_206 : decode cX15_tell 206 = .ok (.iload_n 1, 1) := by decide +kernel
theorem dX15_tell_207 : decode cX15_tell 207 = .ok (.ifCond .eq 22, 3) := by decide +kernel
theorem dX15_tell_229 : decode cX15_tell 229 = .ok (.bipush 12, 2) := by decide +kernel
theorem dX15_tell_231 : decode cX15_tell 231 = .ok (.aload_n 0, 1) := by decide +kernel
theorem dX15_tell_232 : decode cX15_tell 232 = .ok (.getfield 13, 3) := by decide +kernel
theorem dX15_tell_235 : decode cX15_tell 235 = .ok (.iload_n 3, 1) := by decide +kernel
theorem dX15_tell_236 : decode cX15_tell 236 = .ok (.iaload, 1) := by decide +kernel
theorem dX15_tell_237 : decode cX15_tell 237 = .ok (.iconst 1, 1) := by decide +kernel
theorem dX15_tell_238 : decode cX15_tell 238 = .ok (.iadd, 1) := by decide +kernel
theorem dX15_tell_239 : decode cX15_tell 239 = .ok (.invokestatic 75, 3) := by decide +kernel
theorem dX15_tell_242 : decode cX15_tell 242 = .ok (.iastore, 1) := by decide +kernel
theorem dX15_tell_243 : decode cX15_tell 243 = .ok (.iinc 3 1, 3) := by decide +kernel
theorem dX15_tell_246 : decode cX15_tell 246 = .ok (.goto (-50), 3) := by decide +kernel
theorem dX15_tell_249 : decode cX15_tell 249 = .ok (.aload_n 0, 1) := by decide +kernel
theorem dX15_tell_250 : decode cX15_tell 250 = .ok (.dup, 1) := by decide +kernel
theorem dX15_tell_251 : decode cX15_tell 251 = .ok (.getfield 262, 3) := by decide +kernel
theorem dX15_tell_254 : decode cX15_tell 254 = .ok (.iconst 1, 1) := by decide +kernel
theorem dX15_tell_255 : decode cX15_tell 255 = .ok (.iadd, 1) := by decide +kernel
theorem dX15_tell_256 : decode cX15_tell 256 = .ok (.putfield 262, 3) := by decide +kernel
theorem dX15_tell_259 : decode cX15_tell 259 = .ok (.return_, 1) := by decide +kernel
theorem dJx35411_init_45d68_0 : decode cJx35411_init_45d68 0 = .ok (.aload_n 0, 1) := by decide +kernel
theorem dJx35411_init_45d68_1 : decode cJx35411_init_45d68 1 = .ok (.aload_n 1, 1) := by decide +kernel
theorem dJx35411_init_45d68_2 : decode cJx35411_init_45d68 2 = .ok (.putfield 1, 3) := by decide +kernel
theorem dJx35411_init_45d68_5 : decode cJx35411_init_45d68 5 = .ok (.aload_n 0, 1) := by decide +kernel
theorem dJx35411_init_45d68_6 : decode cJx35411_init_45d68 6 = .ok (.invokespecial 7, 3) := by decide +kernel
theorem dJx35411_init_45d68_9 : decode cJx35411_init_45d68 9 = .ok (.aload_n 0, 1) := by decide +kernel
theorem dJx35411_init_45d68_10 : decode cJx35411_init_45d68 10 = .ok (.iconst (-1), 1) := by decide +kernel
theorem dJx35411_init_45d68_11 : decode cJx35411_init_45d68 11 = .ok (.putfield 13, 3) := by decide +kernel
theorem dJx35411_init_45d68_14 : decode cJx35411_init_45d68 14 = .ok (.aload_n 0, 1) := by decide +kernel
theorem dJx35411_init_45d68_15 : decode cJx35411_init_45d68 15 = .ok (.aload_n 0, 1) := by decide +kernel
theorem dJx35411_init_45d68_16 : decode cJx35411_init_45d68 16 = .ok (.getfield 1, 3) := by decide +kernel
theorem dJx35411_init_45d68_19 : decode cJx35411_init_45d68 19 = .ok (.getfield 17, 3) := by decide +kernel
theorem dJx35411_init_45d68_22 : decode cJx35411_init_45d68 22 = .ok (.putfield 22, 3) := by decide +kernel
theorem dJx35411_init_45d68_25 : decode cJx35411_init_45d68 25 = .ok (.return_, 1) := by decide +kernel
theorem dJx35411_hasNext_aae02_0 : decode cJx35411_hasNext_aae02 0 = .ok (.aload_n 0, 1) := by decide +kernel
theorem dJx35411_hasNext_aae02_1 : decode cJx35411_hasNext_aae02 1 = .ok (.getfield 25, 3) := by decide +kernel
theorem dJx35411_hasNext_aae02_4 : decode cJx35411_hasNext_aae02 4 = .ok (.aload_n 0, 1) := by decide +kernel
theorem dJx35411_hasNext_aae02_5 : decode cJx35411_hasNext_aae02 5 = .ok (.getfield 1, 3) := by decide +kernel
theorem dJx35411_hasNext_aae02_8 : decode cJx35411_hasNext_aae02 8 = .ok (.getfield 28, 3) := by decide +kernel
theorem dJx35411_hasNext_aae02_11 : decode cJx35411_hasNext_aae02 11 = .ok (.if_icmp .eq 7, 3) := by decide +kernel
theorem dJx35411_hasNext_aae02_18 : decode cJx35411_hasNext_aae02 18 = .ok (.iconst 0, 1) := by decide +kernel
theorem dJx35411_hasNext_aae02_19 : decode cJx35411_hasNext_aae02 19 = .ok (.ireturn, 1) := by decide +kernel
set_option maxRecDepth 20000 in
theorem ggJx4a65c_iterator_32c93_Jx35411_init_45d68 : GoodIn wsJx4a65c_iterator_32c93 wsJx35411_init_45d68 := goodIn_r _ [6, 7, 8, 9, 10, 11, 12, 13, 14, 15, 16, 17, 18, 19, 20, 21] (by decide +kernel) (by decide +kernel)
set_option maxRecDepth 20000 in
theorem gJx4a65c_iterator_32c93_Jx35411_init_45d68 : GoodIn wsJx4a65c_iterator_32c93 (wsJx35411_init_45d68) := ggJx4a65c_iterator_32c93_Jx35411_init_45d68
theorem dJx4a65c_iterator_32c93_0 : decode cJx4a65c_iterator_32c93 0 = .ok (.new 267, 3) := by decide +kernel
theorem dJx4a65c_iterator_32c93_3 : decode cJx4a65c_iterator_32c93 3 = .ok (.dup, 1) := by decide +kernel
theorem dJx4a65c_iterator_32c93_4 : decode cJx4a65c_iterator_32c93 4 = .ok (.aload_n 0, 1) := by decide +kernel
theorem dJx4a65c_iterator_32c93_5 : decode cJx4a65c_iterator_32c93 5 = .ok (.invokespecial 269, 3) := by decide +kernel
theorem dJx4a65c_iterator_32c93_8 : decode cJx4a65c_iterator_32c93 8 = .ok (.areturn, 1) := by decide +kernel
abbrev wd_k_Itr_init (z : Nat → Nat) (it : Nat) (lo : Nat) : va_W := [(it, .inr (2, [.int 0, .int 0, .int 0, .null])), (lo, .inr (3, [.int 0, .ref (z 0), .int 0]))]
set_option maxHeartbeats 4000000 in
set_option maxRecDepth 100000 in
theorem k_Itr_init (l : Launch) (dC : Nat → ClassId) (dI : Nat → Nat → Nat) (z zK zV : Nat → Nat) (it : Nat) (lo : Nat) (sz : Nat)  : Met l yJx35411_init_45d68 wsJx35411_init_45d68 ({ frames := 1, cells := 0, slots := 0, locals := 12 }) (kP dC dI z zK zV [.ref it, .ref lo] sz (wd_k_Itr_init z it lo) []) (va_Qv (fun _ : Unit => True) (fun _ t => kB (dC, dI) (va_A (wd_k_Itr_init z it lo) sz) [(it, .inr (2, [.int 0, .int (-1), .int 0, .ref lo])), (lo, .inr (3, [.int 0, .ref (z 0), .int 0]))] [] t) (va_A (wd_k_Itr_init z it lo) sz)) 0 0 (va_A (wd_k_Itr_init z it lo) sz) := by
  refine Met.ofW (cc := cJx35411_init_45d68) (maxL := 2) (ret := none) (by decide) rfl ?_
  intro p e s m args below meth c s₁ B hml hv
  obtain ⟨rfl, hsz, hP, hK, hD0, hM⟩ := hv
  have hx := B.exec
  have hb := B.bytes
  have hr := B.returns
  have hts := atoms_spec (ws := wsJx35411_init_45d68) B.pre
  have hown : s.vm.findClass RJx35411 = some m.cls := findClass_of_methodNamed B.named
  have hlocks := B.notSynchronized
  have hin : meth.name = "<init>" := (name_of_methodNamed B.named B.method).1
  have hiJx35411 : ∀ w ∈ u_ws RJx35411 TJx35411 4, w ∈ wsJx35411_init_45d68 := by decide +kernel
  have hiJx4a65c : ∀ w ∈ u_ws RJx4a65c TJx4a65c 3, w ∈ wsJx35411_init_45d68 := by decide +kernel
  have hobj : Cond.code objectInit ⟨#[0xb1]⟩ 1 none ∈ wsJx35411_init_45d68 := by decide +kernel
  subst hsz
  have hD := hD0.self (sz := s.heap.size)
  generalize hAe : va_A (wd_k_Itr_init z it lo) s.heap.size = A at hD hM ⊢
  have hA : ∀ q : Nat, s.heap.size ≤ q → A q := fun q h => by rw [← hAe]; exact Or.inr h
  have hS : va_S A s.heap s.heap [] := va_S.rf
  have hP : va_P (dC, dI) vwCl [(it, .inr (2, [.int 0, .int 0, .int 0, .null])), (lo, .inr (3, [.int 0, .ref (z 0), .int 0]))] s.heap := hP
  have hD : va_D A [(it, .inr (2, [.int 0, .int 0, .int 0, .null])), (lo, .inr (3, [.int 0, .ref (z 0), .int 0]))] := hD
  have hl := lv_entry ([.ref it, .ref lo]) (n := 2) (Nat.le_of_ble_eq_true rfl)
  rw [lg_entry_eq]
  generalize (lg_sl ([.ref it, .ref lo]) ++ List.replicate (2 - (lg_sl ([.ref it, .ref lo])).length) Slot.unset).toArray = ls at hl ⊢
  have hl : lv_has ls 2 [(0, .ref it), (1, .ref lo)] := hl
  refine lv_aload_n hx hb dJx35411_init_45d68_0 rfl (lv_at hl 0 rfl) ?_
  refine lv_aload_n hx hb dJx35411_init_45d68_1 rfl (lv_at hl 1 rfl) ?_
  refine va_putF (D := (dC, dI)) (ci := 2) (v := .ref lo) (ty := .object "java/util/ArrayList") (C := RJx35411) (T := TJx35411) (N := 4) hx hb hts hiJx35411 tyJx35411 tyJx35411_ok nmJx35411 hown hK hP hD hS 0 rfl rfl 3 (by decide) (hts (.fieldLink RJx35411 1 "java/util/ArrayList$Itr" "this$0" "Ljava/util/ArrayList;") (by decide +kernel)) (fun _ h9 => h9) rfl hin rfl (by decide +kernel) rfl rfl (Nat.le_of_ble_eq_true rfl) dJx35411_init_45d68_2 (fun H locs hP hD hS => ?_)
  have hP : va_P (dC, dI) vwCl [(it, .inr (2, [.int 0, .int 0, .int 0, .ref lo])), (lo, .inr (3, [.int 0, .ref (z 0), .int 0]))] H := hP
  have hD : va_D A [(it, .inr (2, [.int 0, .int 0, .int 0, .ref lo])), (lo, .inr (3, [.int 0, .ref (z 0), .int 0]))] := hD
  refine lv_aload_n hx hb dJx35411_init_45d68_5 rfl (lv_at hl 0 rfl) ?_
  refine W.objInit hx hb hown (hts (.methodLink RJx35411 7 objectInit) (by decide +kernel)) (hts (.instanceMethod objectInit) (by decide +kernel)) (hts _ hobj) rfl (by rw [hml]; exact hl.1) rfl dJx35411_init_45d68_6 (Nat.le_of_ble_eq_true rfl) (Nat.le_of_ble_eq_true rfl) ?_
  refine W.eq (g2 := F0 m 9 ls []) rfl ?_
  refine lv_aload_n hx hb dJx35411_init_45d68_9 rfl (lv_at hl 0 rfl) ?_
  refine lv_iconst (v := (-1)) hx hb dJx35411_init_45d68_10 (by decide) ?_
  refine va_put (D := (dC, dI)) (ci := 2) (v := .int (-1)) (ty := .int) (C := RJx35411) (T := TJx35411) (N := 4) hx hb hts hiJx35411 tyJx35411 tyJx35411_ok nmJx35411 hown hK hP hD hS 0 rfl rfl 1 (by decide) (hts (.fieldLink RJx35411 13 "java/util/ArrayList$Itr" "lastRet" "I") (by decide +kernel)) (fun _ h9 => h9) rfl (by decide +kernel) rfl rfl (Nat.le_of_ble_eq_true rfl) dJx35411_init_45d68_11 (fun H locs hP hD hS => ?_)
  have hP : va_P (dC, dI) vwCl [(it, .inr (2, [.int 0, .int (-1), .int 0, .ref lo])), (lo, .inr (3, [.int 0, .ref (z 0), .int 0]))] H := hP
  have hD : va_D A [(it, .inr (2, [.int 0, .int (-1), .int 0, .ref lo])), (lo, .inr (3, [.int 0, .ref (z 0), .int 0]))] := hD
  refine lv_aload_n hx hb dJx35411_init_45d68_14 rfl (lv_at hl 0 rfl) ?_
  refine lv_aload_n hx hb dJx35411_init_45d68_15 rfl (lv_at hl 0 rfl) ?_
  refine va_get (D := (dC, dI)) (ci := 2) (v := .ref lo) (C := RJx35411) (T := TJx35411) (N := 4) hx hb hts hiJx35411 hown hK hP 0 rfl rfl 3 (by decide) (hts (.fieldLink RJx35411 1 "java/util/ArrayList$Itr" "this$0" "Ljava/util/ArrayList;") (by decide +kernel)) (fun _ h9 => h9) rfl dJx35411_init_45d68_16 ?_
  refine va_get (D := (dC, dI)) (ci := 3) (v := .int 0) (C := RJx4a65c) (T := TJx4a65c) (N := 3) hx hb hts hiJx4a65c hown hK hP 1 rfl rfl 0 (by decide) (hts (.fieldLink RJx35411 17 "java/util/ArrayList" "modCount" "I") (by decide +kernel)) (u_same (hts (.sameField "java/util/ArrayList" "java/util/AbstractList" "modCount" "I") (by decide +kernel))) rfl dJx35411_init_45d68_19 ?_
  refine va_put (D := (dC, dI)) (ci := 2) (v := .int 0) (ty := .int) (C := RJx35411) (T := TJx35411) (N := 4) hx hb hts hiJx35411 tyJx35411 tyJx35411_ok nmJx35411 hown hK hP hD hS 0 rfl rfl 2 (by decide) (hts (.fieldLink RJx35411 22 "java/util/ArrayList$Itr" "expectedModCount" "I") (by decide +kernel)) (fun _ h9 => h9) rfl (by decide +kernel) rfl rfl (Nat.le_of_ble_eq_true rfl) dJx35411_init_45d68_22 (fun H locs hP hD hS => ?_)
  have hP : va_P (dC, dI) vwCl [(it, .inr (2, [.int 0, .int (-1), .int 0, .ref lo])), (lo, .inr (3, [.int 0, .ref (z 0), .int 0]))] H := hP
  have hD : va_D A [(it, .inr (2, [.int 0, .int (-1), .int 0, .ref lo])), (lo, .inr (3, [.int 0, .ref (z 0), .int 0]))] := hD
  exact W.vret hx hb hr (fun t ht hW => ⟨⟨(), rfl, trivial, kB_end (w9 := [(it, .inr (2, [.int 0, .int (-1), .int 0, .ref lo])), (lo, .inr (3, [.int 0, .ref (z 0), .int 0]))]) (t9 := []) hP hK hD [0, 1] [] rfl (by decide) rfl rfl t ht hW⟩, hS.F ht⟩) hS.2.2 dJx35411_init_45d68_25
abbrev wd_k_iterator (z : Nat → Nat) (lo : Nat) : va_W := [(lo, .inr (3, [.int 0, .ref (z 0), .int 0]))]
set_option maxHeartbeats 4000000 in
set_option maxRecDepth 100000 in
theorem k_iterator (l : Launch) (dC : Nat → ClassId) (dI : Nat → Nat → Nat) (z zK zV : Nat → Nat) (lo : Nat) (sz : Nat)  : Met l yJx4a65c_iterator_32c93 wsJx4a65c_iterator_32c93 ({ frames := 2, cells := 1, slots := 4, locals := 33 }) (kP dC dI z zK zV [.ref lo] sz (wd_k_iterator z lo) []) (va_Qr (fun _ : Unit => True) (fun _ a t => ∃ (q1 : Nat), q1 = a ∧ kB (dC, dI) (va_A (wd_k_iterator z lo) sz) [(q1, .inr (2, [.int 0, .int (-1), .int 0, .ref lo])), (lo, .inr (3, [.int 0, .ref (z 0), .int 0]))] [] t) (va_A (wd_k_iterator z lo) sz)) 1 4 (va_A (wd_k_iterator z lo) sz) := by
  refine Met.ofW (cc := cJx4a65c_iterator_32c93) (maxL := 1) (ret := (some (.object "java/util/Iterator"))) (by decide) rfl ?_
  intro p e s m args below meth c s₁ B hml hv
  obtain ⟨rfl, hsz, hP, hK, hD0, hM⟩ := hv
  have hx := B.exec
  have hb := B.bytes
  have hr := B.returns
  have hts := atoms_spec (ws := wsJx4a65c_iterator_32c93) B.pre
  have hown : s.vm.findClass RJx4a65c = some m.cls := findClass_of_methodNamed B.named
  have hlocks := B.notSynchronized
  have hiJx35411 : ∀ w ∈ u_ws RJx35411 TJx35411 4, w ∈ wsJx4a65c_iterator_32c93 := by decide +kernel
  subst hsz
  have hD := hD0.self (sz := s.heap.size)
  generalize hAe : va_A (wd_k_iterator z lo) s.heap.size = A at hD hM ⊢
  have hA : ∀ q : Nat, s.heap.size ≤ q → A q := fun q h => by rw [← hAe]; exact Or.inr h
  have hS : va_S A s.heap s.heap [] := va_S.rf
  have hP : va_P (dC, dI) vwCl [(lo, .inr (3, [.int 0, .ref (z 0), .int 0]))] s.heap := hP
  have hD : va_D A [(lo, .inr (3, [.int 0, .ref (z 0), .int 0]))] := hD
  have hl := lv_entry ([.ref lo]) (n := 1) (Nat.le_of_ble_eq_true rfl)
  rw [lg_entry_eq]
  generalize (lg_sl ([.ref lo]) ++ List.replicate (1 - (lg_sl ([.ref lo])).length) Slot.unset).toArray = ls at hl ⊢
  have hl : lv_has ls 1 [(0, .ref lo)] := hl
  refine va_new (ci := 2) (fs := [.int 0, .int 0, .int 0, .null]) (C := RJx35411) (T := TJx35411) (N := 4) hx hb hts hiJx35411 tyJx35411 tyJx35411_ok hown (hts (.classLink RJx4a65c 267 RJx35411) (by decide +kernel)) (hts (.instantiable RJx35411 4) (by decide +kernel)) (hts (.initialized RJx35411) (by decide +kernel)) hK hP hD hS hA rfl (fun j hj => by rcases (show j = 0 ∨ j = 1 ∨ j = 2 ∨ j = 3 by omega) with rfl | rfl | rfl | rfl <;> rfl) (Nat.le_of_ble_eq_true rfl) (Nat.le_of_ble_eq_true rfl) dJx4a65c_iterator_32c93_0 (fun q1 H hP hD hS => ?_)
  have hP : va_P (dC, dI) vwCl [(lo, .inr (3, [.int 0, .ref (z 0), .int 0])), (q1, .inr (2, [.int 0, .int 0, .int 0, .null]))] H := hP
  have hD : va_D A [(lo, .inr (3, [.int 0, .ref (z 0), .int 0])), (q1, .inr (2, [.int 0, .int 0, .int 0, .null]))] := hD
  refine lv_dup hx hb dJx4a65c_iterator_32c93_3 rfl ?_
  refine lv_aload_n hx hb dJx4a65c_iterator_32c93_4 rfl (lv_at hl 0 rfl) ?_
  have hPc := hP.sub (ws' := [(q1, .inr (2, [.int 0, .int 0, .int 0, .null])), (lo, .inr (3, [.int 0, .ref (z 0), .int 0]))]) [1, 0] rfl
  have hDc := hD.sub (ws' := [(q1, .inr (2, [.int 0, .int 0, .int 0, .null])), (lo, .inr (3, [.int 0, .ref (z 0), .int 0]))]) [1, 0] (by decide) rfl
  have hKc := hK.sub (tys' := []) [] rfl
  have hFc := va_free (wc := [(q1, .inr (2, [.int 0, .int 0, .int 0, .null])), (lo, .inr (3, [.int 0, .ref (z 0), .int 0]))]) hD hS hA [1, 0] rfl
  refine va_callv (va_runI (As := [.ref lo]) (rest := [.ref q1]) ⟨hx, hb, hml, hown, hts⟩ (k_Itr_init l dC dI z zK zV q1 lo H.size) (cwI 1 hts gJx4a65c_iterator_32c93_Jx35411_init_45d68 rfl rfl rfl (hts (.initialized RJx35411) (by decide +kernel)) (hts (.methodLink RJx4a65c 269 yJx35411_init_45d68) (by decide +kernel)) (hts (.instanceMethod yJx35411_init_45d68) (by decide +kernel)) rfl (by decide +kernel) ⟨Nat.le_of_ble_eq_true rfl, Nat.le_of_ble_eq_true rfl⟩) ⟨kP_blind, kP_go hPc hKc hDc hFc hM hS⟩ rfl rfl hl.1 rfl (lv_room (Nat.le_of_ble_eq_true rfl)) dJx4a65c_iterator_32c93_5 ⟨Nat.le_of_ble_eq_true rfl, Nat.le_of_ble_eq_true rfl⟩) hS (fun q _ h => hFc q h) hFc (fun u t H1 locs ht hvm hw hB hz1 hk1 hS => ?_)
  obtain ⟨hP, hD, hK⟩ := kJ (wr := []) (w1 := [(q1, .inr (2, [.int 0, .int (-1), .int 0, .ref lo])), (lo, .inr (3, [.int 0, .ref (z 0), .int 0]))]) (t1 := []) hP hD hK [1, 0] [] rfl rfl (by decide) (by decide) hk1 hFc ht hvm hB
  generalize H1 = H at hP hS ⊢
  have hP : va_P (dC, dI) vwCl [(q1, .inr (2, [.int 0, .int (-1), .int 0, .ref lo])), (lo, .inr (3, [.int 0, .ref (z 0), .int 0]))] H := hP
  have hD : va_D A [(q1, .inr (2, [.int 0, .int (-1), .int 0, .ref lo])), (lo, .inr (3, [.int 0, .ref (z 0), .int 0]))] := hD
  have hK : va_K (dC, dI) vwCl [] s := hK
  clear hw
  refine W.widen (k := 1) (n := 4) (Nat.le_of_ble_eq_true rfl) (Nat.le_of_ble_eq_true rfl) ?_
  exact W.aret hx hb hr (Or.inl ⟨_, rfl⟩) (Or.inr ⟨_, rfl⟩) (fun t ht hW => ⟨⟨(), q1, rfl, trivial, ⟨q1, rfl, kB_end (w9 := [(q1, .inr (2, [.int 0, .int (-1), .int 0, .ref lo])), (lo, .inr (3, [.int 0, .ref (z 0), .int 0]))]) (t9 := []) hP hK hD [0, 1] [] rfl (by decide) rfl rfl t ht hW⟩⟩, hS.F ht⟩) hS.2.2 dJx4a65c_iterator_32c93_8
abbrev wd_k_hasNext (z : Nat → Nat) (it : Nat) (lo : Nat) : va_W := [(it, .inr (2, [.int 0, .int (-1), .int 0, .ref lo])), (lo, .inr (3, [.int 0, .ref (z 0), .int 0]))]
set_option maxHeartbeats 4000000 in
set_option maxRecDepth 100000 in
theorem k_hasNext (l : Launch) (dC : Nat → ClassId) (dI : Nat → Nat → Nat) (z zK zV : Nat → Nat) (it : Nat) (lo : Nat) (sz : Nat)  : Met l yJx35411_hasNext_aae02 wsJx35411_hasNext_aae02 ({ frames := 0, cells := 0, slots := 0, locals := 0 }) (kP dC dI z zK zV [.ref it] sz (wd_k_hasNext z it lo) []) (va_Qi (fun (r : Int32) (_ : Unit) => 0 = r) (fun _ t => kB (dC, dI) (va_A (wd_k_hasNext z it lo) sz) [(it, .inr (2, [.int 0, .int (-1), .int 0, .ref lo])), (lo, .inr (3, [.int 0, .ref (z 0), .int 0]))] [] t) (va_A (wd_k_hasNext z it lo) sz)) 0 0 (va_A (wd_k_hasNext z it lo) sz) := by
  refine Met.ofW (cc := cJx35411_hasNext_aae02) (maxL := 1) (ret := (some .boolean)) (by decide) rfl ?_
  intro p e s m args below meth c s₁ B hml hv
  obtain ⟨rfl, hsz, hP, hK, hD0, hM⟩ := hv
  have hx := B.exec
  have hb := B.bytes
  have hr := B.returns
  have hts := atoms_spec (ws := wsJx35411_hasNext_aae02) B.pre
  have hown : s.vm.findClass RJx35411 = some m.cls := findClass_of_methodNamed B.named
  have hlocks := B.notSynchronized
  have hiJx35411 : ∀ w ∈ u_ws RJx35411 TJx35411 4, w ∈ wsJx35411_hasNext_aae02 := by decide +kernel
  have hiJx4a65c : ∀ w ∈ u_ws RJx4a65c TJx4a65c 3, w ∈ wsJx35411_hasNext_aae02 := by decide +kernel
  subst hsz
  have hD := hD0.self (sz := s.heap.size)
  generalize hAe : va_A (wd_k_hasNext z it lo) s.heap.size = A at hD hM ⊢
  have hA : ∀ q : Nat, s.heap.size ≤ q → A q := fun q h => by rw [← hAe]; exact Or.inr h
  have hS : va_S A s.heap s.heap [] := va_S.rf
  have hP : va_P (dC, dI) vwCl [(it, .inr (2, [.int 0, .int (-1), .int 0, .ref lo])), (lo, .inr (3, [.int 0, .ref (z 0), .int 0]))] s.heap := hP
  have hD : va_D A [(it, .inr (2, [.int 0, .int (-1), .int 0, .ref lo])), (lo, .inr (3, [.int 0, .ref (z 0), .int 0]))] := hD
  have hl := lv_entry ([.ref it]) (n := 1) (Nat.le_of_ble_eq_true rfl)
  rw [lg_entry_eq]
  generalize (lg_sl ([.ref it]) ++ List.replicate (1 - (lg_sl ([.ref it])).length) Slot.unset).toArray = ls at hl ⊢
  have hl : lv_has ls 1 [(0, .ref it)] := hl
  refine lv_aload_n hx hb dJx35411_hasNext_aae02_0 rfl (lv_at hl 0 rfl) ?_
  refine va_get (D := (dC, dI)) (ci := 2) (v := .int 0) (C := RJx35411) (T := TJx35411) (N := 4) hx hb hts hiJx35411 hown hK hP 0 rfl rfl 0 (by decide) (hts (.fieldLink RJx35411 25 "java/util/ArrayList$Itr" "cursor" "I") (by decide +kernel)) (fun _ h9 => h9) rfl dJx35411_hasNext_aae02_1 ?_
  refine lv_aload_n hx hb dJx35411_hasNext_aae02_4 rfl (lv_at hl 0 rfl) ?_
  refine va_get (D := (dC, dI)) (ci := 2) (v := .ref lo) (C := RJx35411) (T := TJx35411) (N := 4) hx hb hts hiJx35411 hown hK hP 0 rfl rfl 3 (by decide) (hts (.fieldLink RJx35411 1 "java/util/ArrayList$Itr" "this$0" "Ljava/util/ArrayList;") (by decide +kernel)) (fun _ h9 => h9) rfl dJx35411_hasNext_aae02_5 ?_
  refine va_getN (D := (dC, dI)) (ci := 3) (v := .int 0) (C := RJx4a65c) (T := TJx4a65c) (N := 3) hx hb hts hiJx4a65c hown hK hP 1 rfl rfl 2 (by decide) (va_Nw.use rfl (hM.1 _ (List.mem_of_getElem? (i := 24) rfl))) (fun _ h9 => h9) rfl dJx35411_hasNext_aae02_8 ?_
  refine lv_icmp_eq (tgt := 18) hx hb dJx35411_hasNext_aae02_11 (by decide) (fun _ => ?_) (fun c_ => absurd (by decide +kernel) c_)
  refine lv_iconst (v := 0) hx hb dJx35411_hasNext_aae02_18 (by decide) ?_
  exact W.zret (v := 0) hx hb hr (by decide +kernel) (fun t ht hW => ⟨⟨0, (), rfl, rfl, kB_end (w9 := [(it, .inr (2, [.int 0, .int (-1), .int 0, .ref lo])), (lo, .inr (3, [.int 0, .ref (z 0), .int 0]))]) (t9 := []) hP hK hD [0, 1] [] rfl (by decide) rfl rfl t ht hW⟩, hS.F ht⟩) hS.2.2 dJx35411_hasNext_aae02_19
abbrev wd_k_doOrders (z : Nat → Nat) (mi : Int32) (fo : Int32) (pe : Int64) (pn : Int64) (re : Int64) (rn : Int64) (mo : Nat) (ti : Nat) (si : Nat) (lo : Nat) (lh : Nat) (lk : Nat) (sp : Nat) (st : Nat) (pa : Nat) (br : Nat) (sg : Nat) (th : Int32) (tu : Int32) : va_W := [(mo, .inr (19, [.int 0, .int 0, .int 0, .int 0, .int 0, .int 0, .int tu, .ref ti, .ref si, .ref lo, .ref lh, .ref lk, .ref sp, .ref st, .ref pa, .ref br, .ref sg, .int mi, .int 0, .int 0, .int 0, .int fo, .int 0, .long pe, .long pn, .long re, .long rn, .int th])), (lo, .inr (3, [.int 0, .ref (z 0), .int 0]))]
set_option maxHeartbeats 4000000 in
set_option maxRecDepth 100000 in
theorem k_doOrders (l : Launch) (dC : Nat → ClassId) (dI : Nat → Nat → Nat) (z zK zV : Nat → Nat) (mi : Int32) (fo : Int32) (pe : Int64) (pn : Int64) (re : Int64) (rn : Int64) (mo : Nat) (ti : Nat) (si : Nat) (lo : Nat) (lh : Nat) (lk : Nat) (sp : Nat) (st : Nat) (pa : Nat) (br : Nat) (sg : Nat) (th : Int32) (tu : Int32) (sz : Nat)  : Met l yX15_doOrders wsX15_doOrders ({ frames := 3, cells := 2, slots := 8, locals := 53 }) (kP dC dI z zK zV [.ref mo] sz (wd_k_doOrders z mi fo pe pn re rn mo ti si lo lh lk sp st pa br sg th tu) []) (va_Qv (fun _ : Unit => True) (fun _ t => kB (dC, dI) (va_A (wd_k_doOrders z mi fo pe pn re rn mo ti si lo lh lk sp st pa br sg th tu) sz) [(mo, .inr (19, [.int 0, .int 0, .int 0, .int 0, .int 0, .int 0, .int tu, .ref ti, .ref si, .ref lo, .ref lh, .ref lk, .ref sp, .ref st, .ref pa, .ref br, .ref sg, .int mi, .int 0, .int 0, .int 0, .int fo, .int 0, .long pe, .long pn, .long re, .long rn, .int th])), (lo, .inr (3, [.int 0, .ref (z 0), .int 0]))] [] t) (va_A (wd_k_doOrders z mi fo pe pn re rn mo ti si lo lh lk sp st pa br sg th tu) sz)) 2 8 (va_A (wd_k_doOrders z mi fo pe pn re rn mo ti si lo lh lk sp st pa br sg th tu) sz) := by
  refine Met.ofW (cc := cX15_doOrders) (maxL := 3) (ret := none) (by decide) rfl ?_
  intro p e s m args below meth c s₁ B hml hv
  obtain ⟨rfl, hsz, hP, hK, hD0, hM⟩ := hv
  have hx := B.exec
  have hb := B.bytes
  have hr := B.returns
  have hts := atoms_spec (ws := wsX15_doOrders) B.pre
  have hown : s.vm.findClass RX15 = some m.cls := findClass_of_methodNamed B.named
  have hlocks := B.notSynchronized
  have hiX15 : ∀ w ∈ u_ws RX15 TX15 28, w ∈ wsX15_doOrders := by decide +kernel
  subst hsz
  have hD := hD0.self (sz := s.heap.size)
  generalize hAe : va_A (wd_k_doOrders z mi fo pe pn re rn mo ti si lo lh lk sp st pa br sg th tu) s.heap.size = A at hD hM ⊢
  have hA : ∀ q : Nat, s.heap.size ≤ q → A q := fun q h => by rw [← hAe]; exact Or.inr h
  have hS : va_S A s.heap s.heap [] := va_S.rf
  have hP : va_P (dC, dI) vwCl [(mo, .inr (19, [.int 0, .int 0, .int 0, .int 0, .int 0, .int 0, .int tu, .ref ti, .ref si, .ref lo, .ref lh, .ref lk, .ref sp, .ref st, .ref pa, .ref br, .ref sg, .int mi, .int 0, .int 0, .int 0, .int fo, .int 0, .long pe, .long pn, .long re, .long rn, .int th])), (lo, .inr (3, [.int 0, .ref (z 0), .int 0]))] s.heap := hP
  have hD : va_D A [(mo, .inr (19, [.int 0, .int 0, .int 0, .int 0, .int 0, .int 0, .int tu, .ref ti, .ref si, .ref lo, .ref lh, .ref lk, .ref sp, .ref st, .ref pa, .ref br, .ref sg, .int mi, .int 0, .int 0, .int 0, .int fo, .int 0, .long pe, .long pn, .long re, .long rn, .int th])), (lo, .inr (3, [.int 0, .ref (z 0), .int 0]))] := hD
  have hl := lv_entry ([.ref mo]) (n := 3) (Nat.le_of_ble_eq_true rfl)
  rw [lg_entry_eq]
  generalize (lg_sl ([.ref mo]) ++ List.replicate (3 - (lg_sl ([.ref mo])).length) Slot.unset).toArray = ls at hl ⊢
  have hl : lv_has ls 3 [(0, .ref mo)] := hl
  refine lv_aload_n hx hb dX15_doOrders_0 rfl (lv_at hl 0 rfl) ?_
  refine va_get (D := (dC, dI)) (ci := 19) (v := .ref lo) (C := RX15) (T := TX15) (N := 28) hx hb hts hiX15 hown hK hP 0 rfl rfl 9 (by decide) (hts (.fieldLink RX15 19 "SquareRigModel" "orders" "Ljava/util/List;") (by decide +kernel)) (fun _ h9 => h9) rfl dX15_doOrders_1 ?_
  have hPc := hP.sub (ws' := [(lo, .inr (3, [.int 0, .ref (z 0), .int 0]))]) [1] rfl
  have hDc := hD.sub (ws' := [(lo, .inr (3, [.int 0, .ref (z 0), .int 0]))]) [1] (by decide) rfl
  have hKc := hK.sub (tys' := []) [] rfl
  have hFc := va_free (wc := [(lo, .inr (3, [.int 0, .ref (z 0), .int 0]))]) hD hS hA [1] rfl
  refine va_callFr (va_runF (hK.1 3 _ rfl).2 (As := []) (rest := []) ⟨hx, hb, hml, hown, hts⟩ (k_iterator l dC dI z zK zV lo s.heap.size) (va_cwF 0 hts gX15_doOrders_Jx4a65c_iterator_32c93_f181Jx4a65c rfl rfl rfl hM.2.2.2.2.2.2.2.2.2.2.1.1 (by decide +kernel) ⟨Nat.le_of_ble_eq_true rfl, Nat.le_of_ble_eq_true rfl⟩) ⟨kP_blind, va_recv hKc hPc (ci := 3) (q0 := 0) rfl rfl, kP_go hPc hKc hDc hFc hM hS⟩ rfl rfl hl.1 rfl (lv_room (Nat.le_of_ble_eq_true rfl)) dX15_doOrders_4 ⟨Nat.le_of_ble_eq_true rfl, Nat.le_of_ble_eq_true rfl⟩) hS (fun q _ h => hFc q h) hFc (fun u ra1 t H1 locs ht hvm hw hB hz1 hk1 hS => ?_)
  obtain ⟨q2, rfl, hB⟩ := hB
  obtain ⟨hP, hD, hK⟩ := kJ (wr := [(mo, .inr (19, [.int 0, .int 0, .int 0, .int 0, .int 0, .int 0, .int tu, .ref ti, .ref si, .ref lo, .ref lh, .ref lk, .ref sp, .ref st, .ref pa, .ref br, .ref sg, .int mi, .int 0, .int 0, .int 0, .int fo, .int 0, .long pe, .long pn, .long re, .long rn, .int th]))]) (w1 := [(q2, .inr (2, [.int 0, .int (-1), .int 0, .ref lo])), (lo, .inr (3, [.int 0, .ref (z 0), .int 0]))]) (t1 := []) hP hD hK [1] [0] rfl rfl (by decide) (by decide) hk1 hFc ht hvm hB
  generalize H1 = H at hP hS ⊢
  have hP : va_P (dC, dI) vwCl [(mo, .inr (19, [.int 0, .int 0, .int 0, .int 0, .int 0, .int 0, .int tu, .ref ti, .ref si, .ref lo, .ref lh, .ref lk, .ref sp, .ref st, .ref pa, .ref br, .ref sg, .int mi, .int 0, .int 0, .int 0, .int fo, .int 0, .long pe, .long pn, .long re, .long rn, .int th])), (q2, .inr (2, [.int 0, .int (-1), .int 0, .ref lo])), (lo, .inr (3, [.int 0, .ref (z 0), .int 0]))] H := hP
  have hD : va_D A [(mo, .inr (19, [.int 0, .int 0, .int 0, .int 0, .int 0, .int 0, .int tu, .ref ti, .ref si, .ref lo, .ref lh, .ref lk, .ref sp, .ref st, .ref pa, .ref br, .ref sg, .int mi, .int 0, .int 0, .int 0, .int fo, .int 0, .long pe, .long pn, .long re, .long rn, .int th])), (q2, .inr (2, [.int 0, .int (-1), .int 0, .ref lo])), (lo, .inr (3, [.int 0, .ref (z 0), .int 0]))] := hD
  have hK : va_K (dC, dI) vwCl [] s := hK
  refine lv_astore_n (lv' := [(1, .ref q2), (0, .ref mo)]) hx hb dX15_doOrders_9 rfl hl (by decide) rfl (fun ls hl => ?_)
  refine lv_aload_n hx hb dX15_doOrders_10 rfl (lv_at hl 0 rfl) ?_
  have hPc := hP.sub (ws' := [(q2, .inr (2, [.int 0, .int (-1), .int 0, .ref lo])), (lo, .inr (3, [.int 0, .ref (z 0), .int 0]))]) [1, 2] rfl
  have hDc := hD.sub (ws' := [(q2, .inr (2, [.int 0, .int (-1), .int 0, .ref lo])), (lo, .inr (3, [.int 0, .ref (z 0), .int 0]))]) [1, 2] (by decide) rfl
  have hKc := hK.sub (tys' := []) [] rfl
  have hFc := va_free (wc := [(q2, .inr (2, [.int 0, .int (-1), .int 0, .ref lo])), (lo, .inr (3, [.int 0, .ref (z 0), .int 0]))]) hD hS hA [1, 2] rfl
  refine va_callFi (va_runF (hK.1 2 _ rfl).2 (As := []) (rest := []) ⟨hx, hb, hml, hown, hts⟩ (k_hasNext l dC dI z zK zV q2 lo H.size) (va_cwF 0 hts gX15_doOrders_Jx35411_hasNext_aae02_f185Jx35411 rfl rfl rfl hM.2.2.2.2.2.2.2.2.2.2.1.2.1 (by decide +kernel) ⟨Nat.le_of_ble_eq_true rfl, Nat.le_of_ble_eq_true rfl⟩) ⟨kP_blind, va_recv hKc hPc (ci := 2) (q0 := 0) rfl rfl, kP_go hPc hKc hDc hFc hM hS⟩ rfl rfl hl.1 rfl (lv_room (Nat.le_of_ble_eq_true rfl)) dX15_doOrders_11 ⟨Nat.le_of_ble_eq_true rfl, Nat.le_of_ble_eq_true rfl⟩) hS (fun q _ h => hFc q h) hFc (fun r3 u t H1 locs ht hvm hw hB hz1 hk1 hS => ?_)
  obtain ⟨hP, hD, hK⟩ := kJ (wr := [(mo, .inr (19, [.int 0, .int 0, .int 0, .int 0, .int 0, .int 0, .int tu, .ref ti, .ref si, .ref lo, .ref lh, .ref lk, .ref sp, .ref st, .ref pa, .ref br, .ref sg, .int mi, .int 0, .int 0, .int 0, .int fo, .int 0, .long pe, .long pn, .long re, .long rn, .int th]))]) (w1 := [(q2, .inr (2, [.int 0, .int (-1), .int 0, .ref lo])), (lo, .inr (3, [.int 0, .ref (z 0), .int 0]))]) (t1 := []) hP hD hK [1, 2] [0] rfl rfl (by decide) (by decide) hk1 hFc ht hvm hB
  generalize H1 = H at hP hS ⊢
  have hP : va_P (dC, dI) vwCl [(mo, .inr (19, [.int 0, .int 0, .int 0, .int 0, .int 0, .int 0, .int tu, .ref ti, .ref si, .ref lo, .ref lh, .ref lk, .ref sp, .ref st, .ref pa, .ref br, .ref sg, .int mi, .int 0, .int 0, .int 0, .int fo, .int 0, .long pe, .long pn, .long re, .long rn, .int th])), (q2, .inr (2, [.int 0, .int (-1), .int 0, .ref lo])), (lo, .inr (3, [.int 0, .ref (z 0), .int 0]))] H := hP
  have hD : va_D A [(mo, .inr (19, [.int 0, .int 0, .int 0, .int 0, .int 0, .int 0, .int tu, .ref ti, .ref si, .ref lo, .ref lh, .ref lk, .ref sp, .ref st, .ref pa, .ref br, .ref sg, .int mi, .int 0, .int 0, .int 0, .int fo, .int 0, .long pe, .long pn, .long re, .long rn, .int th])), (q2, .inr (2, [.int 0, .int (-1), .int 0, .ref lo])), (lo, .inr (3, [.int 0, .ref (z 0), .int 0]))] := hD
  have hK : va_K (dC, dI) vwCl [] s := hK
  obtain rfl : 0 = r3 := hw
  refine lv_if_eq (tgt := 63) hx hb dX15_doOrders_16 (by decide) (fun _ => ?_) (fun c_ => absurd (by decide +kernel) c_)
  refine lv_aload_n hx hb dX15_doOrders_63 rfl (lv_at hl 1 rfl) ?_
  refine va_get (D := (dC, dI)) (ci := 19) (v := .ref lo) (C := RX15) (T := TX15) (N := 28) hx hb hts hiX15 hown hK hP 0 rfl rfl 9 (by decide) (hts (.fieldLink RX15 19 "SquareRigModel" "orders" "Ljava/util/List;") (by decide +kernel)) (fun _ h9 => h9) rfl dX15_doOrders_64 ?_
  have hPc := hP.sub (ws' := [(lo, .inr (3, [.int 0, .ref (z 0), .int 0]))]) [2] rfl
  have hDc := hD.sub (ws' := [(lo, .inr (3, [.int 0, .ref (z 0), .int 0]))]) [2] (by decide) rfl
  have hKc := hK.sub (tys' := []) [] rfl
  have hFc := va_free (wc := [(lo, .inr (3, [.int 0, .ref (z 0), .int 0]))]) hD hS hA [2] rfl
  refine va_callFr (va_runF (hK.1 3 _ rfl).2 (As := []) (rest := []) ⟨hx, hb, hml, hown, hts⟩ (k_iterator l dC dI z zK zV lo H.size) (va_cwF 0 hts gX15_doOrders_Jx4a65c_iterator_32c93_f181Jx4a65c rfl rfl rfl hM.2.2.2.2.2.2.2.2.2.2.1.1 (by decide +kernel) ⟨Nat.le_of_ble_eq_true rfl, Nat.le_of_ble_eq_true rfl⟩) ⟨kP_blind, va_recv hKc hPc (ci := 3) (q0 := 0) rfl rfl, kP_go hPc hKc hDc hFc hM hS⟩ rfl rfl hl.1 rfl (lv_room (Nat.le_of_ble_eq_true rfl)) dX15_doOrders_67 ⟨Nat.le_of_ble_eq_true rfl, Nat.le_of_ble_eq_true rfl⟩) hS (fun q _ h => hFc q h) hFc (fun u ra4 t H1 locs ht hvm hw hB hz1 hk1 hS => ?_)
  obtain ⟨q5, rfl, hB⟩ := hB
  obtain ⟨hP, hD, hK⟩ := kJ (wr := [(mo, .inr (19, [.int 0, .int 0, .int 0, .int 0, .int 0, .int 0, .int tu, .ref ti, .ref si, .ref lo, .ref lh, .ref lk, .ref sp, .ref st, .ref pa, .ref br, .ref sg, .int mi, .int 0, .int 0, .int 0, .int fo, .int 0, .long pe, .long pn, .long re, .long rn, .int th])), (q2, .inr (2, [.int 0, .int (-1), .int 0, .ref lo]))]) (w1 := [(q5, .inr (2, [.int 0, .int (-1), .int 0, .ref lo])), (lo, .inr (3, [.int 0, .ref (z 0), .int 0]))]) (t1 := []) hP hD hK [2] [0, 1] rfl rfl (by decide) (by decide) hk1 hFc ht hvm hB
  generalize H1 = H at hP hS ⊢
  have hP : va_P (dC, dI) vwCl [(mo, .inr (19, [.int 0, .int 0, .int 0, .int 0, .int 0, .int 0, .int tu, .ref ti, .ref si, .ref lo, .ref lh, .ref lk, .ref sp, .ref st, .ref pa, .ref br, .ref sg, .int mi, .int 0, .int 0, .int 0, .int fo, .int 0, .long pe, .long pn, .long re, .long rn, .int th])), (q2, .inr (2, [.int 0, .int (-1), .int 0, .ref lo])), (q5, .inr (2, [.int 0, .int (-1), .int 0, .ref lo])), (lo, .inr (3, [.int 0, .ref (z 0), .int 0]))] H := hP
  have hD : va_D A [(mo, .inr (19, [.int 0, .int 0, .int 0, .int 0, .int 0, .int 0, .int tu, .ref ti, .ref si, .ref lo, .ref lh, .ref lk, .ref sp, .ref st, .ref pa, .ref br, .ref sg, .int mi, .int 0, .int 0, .int 0, .int fo, .int 0, .long pe, .long pn, .long re, .long rn, .int th])), (q2, .inr (2, [.int 0, .int (-1), .int 0, .ref lo])), (q5, .inr (2, [.int 0, .int (-1), .int 0, .ref lo])), (lo, .inr (3, [.int 0, .ref (z 0), .int 0]))] := hD
  have hK : va_K (dC, dI) vwCl [] s := hK
  refine lv_astore_n (lv' := [(1, .ref q5), (0, .ref mo)]) hx hb dX15_doOrders_72 rfl hl (by decide) rfl (fun ls hl => ?_)
  refine lv_aload_n hx hb dX15_doOrders_73 rfl (lv_at hl 0 rfl) ?_
  have hPc := hP.sub (ws' := [(q5, .inr (2, [.int 0, .int (-1), .int 0, .ref lo])), (lo, .inr (3, [.int 0, .ref (z 0), .int 0]))]) [2, 3] rfl
  have hDc := hD.sub (ws' := [(q5, .inr (2, [.int 0, .int (-1), .int 0, .ref lo])), (lo, .inr (3, [.int 0, .ref (z 0), .int 0]))]) [2, 3] (by decide) rfl
  have hKc := hK.sub (tys' := []) [] rfl
  have hFc := va_free (wc := [(q5, .inr (2, [.int 0, .int (-1), .int 0, .ref lo])), (lo, .inr (3, [.int 0, .ref (z 0), .int 0]))]) hD hS hA [2, 3] rfl
  refine va_callFi (va_runF (hK.1 2 _ rfl).2 (As := []) (rest := []) ⟨hx, hb, hml, hown, hts⟩ (k_hasNext l dC dI z zK zV q5 lo H.size) (va_cwF 0 hts gX15_doOrders_Jx35411_hasNext_aae02_f185Jx35411 rfl rfl rfl hM.2.2.2.2.2.2.2.2.2.2.1.2.1 (by decide +kernel) ⟨Nat.le_of_ble_eq_true rfl, Nat.le_of_ble_eq_true rfl⟩) ⟨kP_blind, va_recv hKc hPc (ci := 2) (q0 := 0) rfl rfl, kP_go hPc hKc hDc hFc hM hS⟩ rfl rfl hl.1 rfl (lv_room (Nat.le_of_ble_eq_true rfl)) dX15_doOrders_74 ⟨Nat.le_of_ble_eq_true rfl, Nat.le_of_ble_eq_true rfl⟩) hS (fun q _ h => hFc q h) hFc (fun r6 u t H1 locs ht hvm hw hB hz1 hk1 hS => ?_)
  obtain ⟨hP, hD, hK⟩ := kJ (wr := [(mo, .inr (19, [.int 0, .int 0, .int 0, .int 0, .int 0, .int 0, .int tu, .ref ti, .ref si, .ref lo, .ref lh, .ref lk, .ref sp, .ref st, .ref pa, .ref br, .ref sg, .int mi, .int 0, .int 0, .int 0, .int fo, .int 0, .long pe, .long pn, .long re, .long rn, .int th])), (q2, .inr (2, [.int 0, .int (-1), .int 0, .ref lo]))]) (w1 := [(q5, .inr (2, [.int 0, .int (-1), .int 0, .ref lo])), (lo, .inr (3, [.int 0, .ref (z 0), .int 0]))]) (t1 := []) hP hD hK [2, 3] [0, 1] rfl rfl (by decide) (by decide) hk1 hFc ht hvm hB
  generalize H1 = H at hP hS ⊢
  have hP : va_P (dC, dI) vwCl [(mo, .inr (19, [.int 0, .int 0, .int 0, .int 0, .int 0, .int 0, .int tu, .ref ti, .ref si, .ref lo, .ref lh, .ref lk, .ref sp, .ref st, .ref pa, .ref br, .ref sg, .int mi, .int 0, .int 0, .int 0, .int fo, .int 0, .long pe, .long pn, .long re, .long rn, .int th])), (q2, .inr (2, [.int 0, .int (-1), .int 0, .ref lo])), (q5, .inr (2, [.int 0, .int (-1), .int 0, .ref lo])), (lo, .inr (3, [.int 0, .ref (z 0), .int 0]))] H := hP
  have hD : va_D A [(mo, .inr (19, [.int 0, .int 0, .int 0, .int 0, .int 0, .int 0, .int tu, .ref ti, .ref si, .ref lo, .ref lh, .ref lk, .ref sp, .ref st, .ref pa, .ref br, .ref sg, .int mi, .int 0, .int 0, .int 0, .int fo, .int 0, .long pe, .long pn, .long re, .long rn, .int th])), (q2, .inr (2, [.int 0, .int (-1), .int 0, .ref lo])), (q5, .inr (2, [.int 0, .int (-1), .int 0, .ref lo])), (lo, .inr (3, [.int 0, .ref (z 0), .int 0]))] := hD
  have hK : va_K (dC, dI) vwCl [] s := hK
  obtain rfl : 0 = r6 := hw
  refine lv_if_eq (tgt := 153) hx hb dX15_doOrders_79 (by decide) (fun _ => ?_) (fun c_ => absurd (by decide +kernel) c_)
  refine W.widen (k := 2) (n := 8) (Nat.le_of_ble_eq_true rfl) (Nat.le_of_ble_eq_true rfl) ?_
  exact W.vret hx hb hr (fun t ht hW => ⟨⟨(), rfl, trivial, kB_end (w9 := [(mo, .inr (19, [.int 0, .int 0, .int 0, .int 0, .int 0, .int 0, .int tu, .ref ti, .ref si, .ref lo, .ref lh, .ref lk, .ref sp, .ref st, .ref pa, .ref br, .ref sg, .int mi, .int 0, .int 0, .int 0, .int fo, .int 0, .long pe, .long pn, .long re, .long rn, .int th])), (lo, .inr (3, [.int 0, .ref (z 0), .int 0]))]) (t9 := []) hP hK hD [0, 3] [] rfl (by decide) rfl rfl t ht hW⟩, hS.F ht⟩) hS.2.2 dX15_doOrders_153
abbrev wd_k_strain (z : Nat → Nat) (mi : Int32) (fo : Int32) (pe : Int64) (pn : Int64) (re : Int64) (rn : Int64) (mo : Nat) (ti : Nat) (si : Nat) (lo : Nat) (lh : Nat) (lk : Nat) (sp : Nat) (st : Nat) (pa : Nat) (br : Nat) (sg : Nat) (csp : ClassId) (cst : ClassId) (cbr : ClassId) (th : Int32) (tu : Int32) : va_W := [(mo, .inr (19, [.int 0, .int 0, .int 0, .int 0, .int 0, .int 0, .int tu, .ref ti, .ref si, .ref lo, .ref lh, .ref lk, .ref sp, .ref st, .ref pa, .ref br, .ref sg, .int mi, .int 0, .int 0, .int 0, .int fo, .int 0, .long pe, .long pn, .long re, .long rn, .int th])), (sp, .inl (csp, 9, .inl (fun _ => 0))), (st, .inl (cst, 9, .inl (upd (upd (upd (upd (upd (upd (upd (upd (upd (fun _ => 0) 0 900) 1 900) 2 900) 3 900) 4 900) 5 900) 6 900) 7 900) 8 900))), (br, .inl (cbr, 3, .inl (fun _ => 0)))]
set_option maxHeartbeats 4000000 in
set_option maxRecDepth 100000 in
theorem k_strain (l : Launch) (dC : Nat → ClassId) (dI : Nat → Nat → Nat) (z zK zV : Nat → Nat) (mi : Int32) (fo : Int32) (pe : Int64) (pn : Int64) (re : Int64) (rn : Int64) (mo : Nat) (ti : Nat) (si : Nat) (lo : Nat) (lh : Nat) (lk : Nat) (sp : Nat) (st : Nat) (pa : Nat) (br : Nat) (sg : Nat) (csp : ClassId) (cst : ClassId) (cbr : ClassId) (th : Int32) (tu : Int32) (sz : Nat)  : Met l yX15_strain wsX15_strain ({ frames := 8, cells := 2, slots := 12, locals := 171 }) (kP dC dI z zK zV [.ref mo] sz (wd_k_strain z mi fo pe pn re rn mo ti si lo lh lk sp st pa br sg csp cst cbr th tu) [(csp, .int), (cst, .int), (cbr, .int)]) (va_Qv (fun _ : Unit => True) (fun _ t => kB (dC, dI) (va_A (wd_k_strain z mi fo pe pn re rn mo ti si lo lh lk sp st pa br sg csp cst cbr th tu) sz) [(st, .inl (cst, 9, .inl (upd (upd (upd (upd (upd (upd (upd (upd (upd (fun _ => 0) 0 900) 1 900) 2 900) 3 900) 4 900) 5 900) 6 900) 7 900) 8 900))), (sp, .inl (csp, 9, .inl (fun _ => 0))), (br, .inl (cbr, 3, .inl (fun _ => 0))), (mo, .inr (19, [.int 0, .int 0, .int 0, .int 0, .int 0, .int 0, .int tu, .ref ti, .ref si, .ref lo, .ref lh, .ref lk, .ref sp, .ref st, .ref pa, .ref br, .ref sg, .int mi, .int 0, .int 0, .int 0, .int fo, .int 0, .long pe, .long pn, .long re, .long rn, .int th]))] [] t) (va_A (wd_k_strain z mi fo pe pn re rn mo ti si lo lh lk sp st pa br sg csp cst cbr th tu) sz)) 2 12 (va_A (wd_k_strain z mi fo pe pn re rn mo ti si lo lh lk sp st pa br sg csp cst cbr th tu) sz) := by
  refine Met.ofW (cc := cX15_strain) (maxL := 5) (ret := none) (by decide) rfl ?_
  intro p e s m args below meth c s₁ B hml hv
  obtain ⟨rfl, hsz, hP, hK, hD0, hM⟩ := hv
  have hx := B.exec
  have hb := B.bytes
  have hr := B.returns
  have hts := atoms_spec (ws := wsX15_strain) B.pre
  have hown : s.vm.findClass RX15 = some m.cls := findClass_of_methodNamed B.named
  have hlocks := B.notSynchronized
  have hiX15 : ∀ w ∈ u_ws RX15 TX15 28, w ∈ wsX15_strain := by decide +kernel
  subst hsz
  have hD := hD0.self (sz := s.heap.size)
  generalize hAe : va_A (wd_k_strain z mi fo pe pn re rn mo ti si lo lh lk sp st pa br sg csp cst cbr th tu) s.heap.size = A at hD hM ⊢
  have hA : ∀ q : Nat, s.heap.size ≤ q → A q := fun q h => by rw [← hAe]; exact Or.inr h
  have hS : va_S A s.heap s.heap [] := va_S.rf
  have hP : va_P (dC, dI) vwCl [(mo, .inr (19, [.int 0, .int 0, .int 0, .int 0, .int 0, .int 0, .int tu, .ref ti, .ref si, .ref lo, .ref lh, .ref lk, .ref sp, .ref st, .ref pa, .ref br, .ref sg, .int mi, .int 0, .int 0, .int 0, .int fo, .int 0, .long pe, .long pn, .long re, .long rn, .int th])), (sp, .inl (csp, 9, .inl (fun _ => 0))), (st, .inl (cst, 9, .inl (upd (upd (upd (upd (upd (upd (upd (upd (upd (fun _ => 0) 0 900) 1 900) 2 900) 3 900) 4 900) 5 900) 6 900) 7 900) 8 900))), (br, .inl (cbr, 3, .inl (fun _ => 0)))] s.heap := hP
  have hD : va_D A [(mo, .inr (19, [.int 0, .int 0, .int 0, .int 0, .int 0, .int 0, .int tu, .ref ti, .ref si, .ref lo, .ref lh, .ref lk, .ref sp, .ref st, .ref pa, .ref br, .ref sg, .int mi, .int 0, .int 0, .int 0, .int fo, .int 0, .long pe, .long pn, .long re, .long rn, .int th])), (sp, .inl (csp, 9, .inl (fun _ => 0))), (st, .inl (cst, 9, .inl (upd (upd (upd (upd (upd (upd (upd (upd (upd (fun _ => 0) 0 900) 1 900) 2 900) 3 900) 4 900) 5 900) 6 900) 7 900) 8 900))), (br, .inl (cbr, 3, .inl (fun _ => 0)))] := hD
  have hl := lv_entry ([.ref mo]) (n := 5) (Nat.le_of_ble_eq_true rfl)
  rw [lg_entry_eq]
  generalize (lg_sl ([.ref mo]) ++ List.replicate (5 - (lg_sl ([.ref mo])).length) Slot.unset).toArray = ls at hl ⊢
  have hl : lv_has ls 5 [(0, .ref mo)] := hl
  refine lv_iconst (v := 3) hx hb dX15_strain_0 (by decide) ?_
  refine va_newa (atype := .int) (a0 := (3, .inl (fun _ => 0))) (N' := 3) hx hb (hts (.arrayClass .int) (by decide +kernel)) rfl hK hP hD hS hA (fun _ => rfl) (by decide +kernel) (by decide +kernel) (Nat.le_of_ble_eq_true rfl) (Nat.le_of_ble_eq_true rfl) (Nat.le_of_ble_eq_true rfl) dX15_strain_1 (fun q1 cA2 H hK hP hD hS => ?_)
  have hP : va_P (dC, dI) vwCl [(mo, .inr (19, [.int 0, .int 0, .int 0, .int 0, .int 0, .int 0, .int tu, .ref ti, .ref si, .ref lo, .ref lh, .ref lk, .ref sp, .ref st, .ref pa, .ref br, .ref sg, .int mi, .int 0, .int 0, .int 0, .int fo, .int 0, .long pe, .long pn, .long re, .long rn, .int th])), (sp, .inl (csp, 9, .inl (fun _ => 0))), (st, .inl (cst, 9, .inl (upd (upd (upd (upd (upd (upd (upd (upd (upd (fun _ => 0) 0 900) 1 900) 2 900) 3 900) 4 900) 5 900) 6 900) 7 900) 8 900))), (br, .inl (cbr, 3, .inl (fun _ => 0))), (q1, .inl (cA2, 3, .inl (fun _ => 0)))] H := hP
  have hD : va_D A [(mo, .inr (19, [.int 0, .int 0, .int 0, .int 0, .int 0, .int 0, .int tu, .ref ti, .ref si, .ref lo, .ref lh, .ref lk, .ref sp, .ref st, .ref pa, .ref br, .ref sg, .int mi, .int 0, .int 0, .int 0, .int fo, .int 0, .long pe, .long pn, .long re, .long rn, .int th])), (sp, .inl (csp, 9, .inl (fun _ => 0))), (st, .inl (cst, 9, .inl (upd (upd (upd (upd (upd (upd (upd (upd (upd (fun _ => 0) 0 900) 1 900) 2 900) 3 900) 4 900) 5 900) 6 900) 7 900) 8 900))), (br, .inl (cbr, 3, .inl (fun _ => 0))), (q1, .inl (cA2, 3, .inl (fun _ => 0)))] := hD
  have hK : va_K (dC, dI) vwCl [(csp, .int), (cst, .int), (cbr, .int), (cA2, .int)] s := hK
  refine lv_astore_n (lv' := [(1, .ref q1), (0, .ref mo)]) hx hb dX15_strain_3 rfl hl (by decide) rfl (fun ls hl => ?_)
  refine lv_bipush (v := 9) hx hb dX15_strain_4 (by decide) ?_
  refine va_newa (atype := .int) (a0 := (9, .inl (fun _ => 0))) (N' := 9) hx hb (hts (.arrayClass .int) (by decide +kernel)) rfl hK hP hD hS hA (fun _ => rfl) (by decide +kernel) (by decide +kernel) (Nat.le_of_ble_eq_true rfl) (Nat.le_of_ble_eq_true rfl) (Nat.le_of_ble_eq_true rfl) dX15_strain_6 (fun q3 cA4 H hK hP hD hS => ?_)
  have hP : va_P (dC, dI) vwCl [(mo, .inr (19, [.int 0, .int 0, .int 0, .int 0, .int 0, .int 0, .int tu, .ref ti, .ref si, .ref lo, .ref lh, .ref lk, .ref sp, .ref st, .ref pa, .ref br, .ref sg, .int mi, .int 0, .int 0, .int 0, .int fo, .int 0, .long pe, .long pn, .long re, .long rn, .int th])), (sp, .inl (csp, 9, .inl (fun _ => 0))), (st, .inl (cst, 9, .inl (upd (upd (upd (upd (upd (upd (upd (upd (upd (fun _ => 0) 0 900) 1 900) 2 900) 3 900) 4 900) 5 900) 6 900) 7 900) 8 900))), (br, .inl (cbr, 3, .inl (fun _ => 0))), (q1, .inl (cA2, 3, .inl (fun _ => 0))), (q3, .inl (cA4, 9, .inl (fun _ => 0)))] H := hP
  have hD : va_D A [(mo, .inr (19, [.int 0, .int 0, .int 0, .int 0, .int 0, .int 0, .int tu, .ref ti, .ref si, .ref lo, .ref lh, .ref lk, .ref sp, .ref st, .ref pa, .ref br, .ref sg, .int mi, .int 0, .int 0, .int 0, .int fo, .int 0, .long pe, .long pn, .long re, .long rn, .int th])), (sp, .inl (csp, 9, .inl (fun _ => 0))), (st, .inl (cst, 9, .inl (upd (upd (upd (upd (upd (upd (upd (upd (upd (fun _ => 0) 0 900) 1 900) 2 900) 3 900) 4 900) 5 900) 6 900) 7 900) 8 900))), (br, .inl (cbr, 3, .inl (fun _ => 0))), (q1, .inl (cA2, 3, .inl (fun _ => 0))), (q3, .inl (cA4, 9, .inl (fun _ => 0)))] := hD
  have hK : va_K (dC, dI) vwCl [(csp, .int), (cst, .int), (cbr, .int), (cA2, .int), (cA4, .int)] s := hK
  refine lv_astore_n (lv' := [(2, .ref q3), (1, .ref q1), (0, .ref mo)]) hx hb dX15_strain_8 rfl hl (by decide) rfl (fun ls hl => ?_)
  refine lv_iconst (v := 0) hx hb dX15_strain_9 (by decide) ?_
  refine lv_istore_n (lv' := [(3, .int 0), (2, .ref q3), (1, .ref q1), (0, .ref mo)]) hx hb dX15_strain_10 rfl hl (by decide) rfl (fun ls hl => ?_)
  refine lv_iload_n hx hb dX15_strain_11 rfl (lv_at hl 0 rfl) ?_
  refine lv_bipush (v := 9) hx hb dX15_strain_12 (by decide) ?_
  refine lv_icmp_ge (tgt := 34) hx hb dX15_strain_14 (by decide) (fun c_ => absurd c_ (by decide +kernel)) (fun _ => ?_)
  refine lv_aload_n hx hb dX15_strain_17 rfl (lv_at hl 1 rfl) ?_
  refine lv_iload_n hx hb dX15_strain_18 rfl (lv_at hl 0 rfl) ?_
  refine lv_aload_n hx hb dX15_strain_19 rfl (lv_at hl 3 rfl) ?_
  refine lv_iload_n hx hb dX15_strain_20 rfl (lv_at hl 0 rfl) ?_
  have hPc := hP.sub (ws' := [(mo, .inr (19, [.int 0, .int 0, .int 0, .int 0, .int 0, .int 0, .int tu, .ref ti, .ref si, .ref lo, .ref lh, .ref lk, .ref sp, .ref st, .ref pa, .ref br, .ref sg, .int mi, .int 0, .int 0, .int 0, .int fo, .int 0, .long pe, .long pn, .long re, .long rn, .int th])), (sp, .inl (csp, 9, .inl (fun _ => 0))), (br, .inl (cbr, 3, .inl (fun _ => 0)))]) [0, 1, 3] rfl
  have hDc := hD.sub (ws' := [(mo, .inr (19, [.int 0, .int 0, .int 0, .int 0, .int 0, .int 0, .int tu, .ref ti, .ref si, .ref lo, .ref lh, .ref lk, .ref sp, .ref st, .ref pa, .ref br, .ref sg, .int mi, .int 0, .int 0, .int 0, .int fo, .int 0, .long pe, .long pn, .long re, .long rn, .int th])), (sp, .inl (csp, 9, .inl (fun _ => 0))), (br, .inl (cbr, 3, .inl (fun _ => 0)))]) [0, 1, 3] (by decide) rfl
  have hKc := hK.sub (tys' := [(csp, .int), (cbr, .int)]) [0, 2] rfl
  have hFc := va_free (wc := [(mo, .inr (19, [.int 0, .int 0, .int 0, .int 0, .int 0, .int 0, .int tu, .ref ti, .ref si, .ref lo, .ref lh, .ref lk, .ref sp, .ref st, .ref pa, .ref br, .ref sg, .int mi, .int 0, .int 0, .int 0, .int fo, .int 0, .long pe, .long pn, .long re, .long rn, .int th])), (sp, .inl (csp, 9, .inl (fun _ => 0))), (br, .inl (cbr, 3, .inl (fun _ => 0)))]) hD hS hA [0, 1, 3] rfl
  refine va_calli (va_runV (As := [.int 0]) (rest := [.int 0, .ref q3]) ⟨hx, hb, hml, hown, hts⟩ (k_forceOf_0 l dC dI z zK zV mi fo pe pn re rn mo ti si lo lh lk sp st pa br sg csp cbr th tu H.size) (cwV 1 hts gX15_strain_X15_forceOf rfl rfl rfl (by decide +kernel) ⟨Nat.le_of_ble_eq_true rfl, Nat.le_of_ble_eq_true rfl⟩) ⟨kP_blind, va_recv hKc hPc (ci := 19) (q0 := 0) rfl rfl, kP_go hPc hKc hDc hFc hM hS⟩ rfl rfl hl.1 rfl (lv_room (Nat.le_of_ble_eq_true rfl)) dX15_strain_21 ⟨Nat.le_of_ble_eq_true rfl, Nat.le_of_ble_eq_true rfl⟩) hS (fun q _ h => hFc q h) hFc (fun r5 u t H1 locs ht hvm hw hB hz1 hk1 hS => ?_)
  obtain ⟨hP, hD, hK⟩ := kJ (wr := [(st, .inl (cst, 9, .inl (upd (upd (upd (upd (upd (upd (upd (upd (upd (fun _ => 0) 0 900) 1 900) 2 900) 3 900) 4 900) 5 900) 6 900) 7 900) 8 900))), (q1, .inl (cA2, 3, .inl (fun _ => 0))), (q3, .inl (cA4, 9, .inl (fun _ => 0)))]) (w1 := [(sp, .inl (csp, 9, .inl (fun _ => 0))), (br, .inl (cbr, 3, .inl (fun _ => 0))), (mo, .inr (19, [.int 0, .int 0, .int 0, .int 0, .int 0, .int 0, .int tu, .ref ti, .ref si, .ref lo, .ref lh, .ref lk, .ref sp, .ref st, .ref pa, .ref br, .ref sg, .int mi, .int 0, .int 0, .int 0, .int fo, .int 0, .long pe, .long pn, .long re, .long rn, .int th]))]) (t1 := []) hP hD hK [0, 1, 3] [2, 4, 5] rfl rfl (by decide) (by decide) hk1 hFc ht hvm hB
  generalize H1 = H at hP hS ⊢
  have hP : va_P (dC, dI) vwCl [(st, .inl (cst, 9, .inl (upd (upd (upd (upd (upd (upd (upd (upd (upd (fun _ => 0) 0 900) 1 900) 2 900) 3 900) 4 900) 5 900) 6 900) 7 900) 8 900))), (q1, .inl (cA2, 3, .inl (fun _ => 0))), (q3, .inl (cA4, 9, .inl (fun _ => 0))), (sp, .inl (csp, 9, .inl (fun _ => 0))), (br, .inl (cbr, 3, .inl (fun _ => 0))), (mo, .inr (19, [.int 0, .int 0, .int 0, .int 0, .int 0, .int 0, .int tu, .ref ti, .ref si, .ref lo, .ref lh, .ref lk, .ref sp, .ref st, .ref pa, .ref br, .ref sg, .int mi, .int 0, .int 0, .int 0, .int fo, .int 0, .long pe, .long pn, .long re, .long rn, .int th]))] H := hP
  have hD : va_D A [(st, .inl (cst, 9, .inl (upd (upd (upd (upd (upd (upd (upd (upd (upd (fun _ => 0) 0 900) 1 900) 2 900) 3 900) 4 900) 5 900) 6 900) 7 900) 8 900))), (q1, .inl (cA2, 3, .inl (fun _ => 0))), (q3, .inl (cA4, 9, .inl (fun _ => 0))), (sp, .inl (csp, 9, .inl (fun _ => 0))), (br, .inl (cbr, 3, .inl (fun _ => 0))), (mo, .inr (19, [.int 0, .int 0, .int 0, .int 0, .int 0, .int 0, .int tu, .ref ti, .ref si, .ref lo, .ref lh, .ref lk, .ref sp, .ref st, .ref pa, .ref br, .ref sg, .int mi, .int 0, .int 0, .int 0, .int fo, .int 0, .long pe, .long pn, .long re, .long rn, .int th]))] := hD
  have hK : va_K (dC, dI) vwCl [(csp, .int), (cst, .int), (cbr, .int), (cA2, .int), (cA4, .int)] s := hK
  obtain rfl : 0 = r5 := hw
  refine va_mabs hx hb (hml.trans hl.1.symm) hown (hts (.methodLink RX15 99 Lib.Math.abs.name) (by decide +kernel)) (hts (.static Lib.Math.abs.name) (by decide +kernel)) (hts (.initialized "java/lang/Math") (by decide +kernel)) (hts (.code Lib.Math.abs.name Lib.Math.abs.code 1 (some .int)) (by decide +kernel)) (Nat.le_of_ble_eq_true rfl) (Nat.le_of_ble_eq_true rfl) (Nat.le_of_ble_eq_true rfl) (Nat.le_of_ble_eq_true rfl) dX15_strain_24 ?_
  refine kc_i (y := 0) (by decide +kernel) ?_
  refine va_iast hx hb hK hP hD hS 2 4 rfl rfl (pk_in 0 9 (by decide) rfl) dX15_strain_27 (fun H locs hP hD hS => ?_)
  have hP : va_P (dC, dI) vwCl [(st, .inl (cst, 9, .inl (upd (upd (upd (upd (upd (upd (upd (upd (upd (fun _ => 0) 0 900) 1 900) 2 900) 3 900) 4 900) 5 900) 6 900) 7 900) 8 900))), (q1, .inl (cA2, 3, .inl (fun _ => 0))), (q3, .inl (cA4, 9, .inl (upd (fun _ => 0) 0 0))), (sp, .inl (csp, 9, .inl (fun _ => 0))), (br, .inl (cbr, 3, .inl (fun _ => 0))), (mo, .inr (19, [.int 0, .int 0, .int 0, .int 0, .int 0, .int 0, .int tu, .ref ti, .ref si, .ref lo, .ref lh, .ref lk, .ref sp, .ref st, .ref pa, .ref br, .ref sg, .int mi, .int 0, .int 0, .int 0, .int fo, .int 0, .long pe, .long pn, .long re, .long rn, .int th]))] H := hP
  have hD : va_D A [(st, .inl (cst, 9, .inl (upd (upd (upd (upd (upd (upd (upd (upd (upd (fun _ => 0) 0 900) 1 900) 2 900) 3 900) 4 900) 5 900) 6 900) 7 900) 8 900))), (q1, .inl (cA2, 3, .inl (fun _ => 0))), (q3, .inl (cA4, 9, .inl (upd (fun _ => 0) 0 0))), (sp, .inl (csp, 9, .inl (fun _ => 0))), (br, .inl (cbr, 3, .inl (fun _ => 0))), (mo, .inr (19, [.int 0, .int 0, .int 0, .int 0, .int 0, .int 0, .int tu, .ref ti, .ref si, .ref lo, .ref lh, .ref lk, .ref sp, .ref st, .ref pa, .ref br, .ref sg, .int mi, .int 0, .int 0, .int 0, .int fo, .int 0, .long pe, .long pn, .long re, .long rn, .int th]))] := hD
  rw [k_updsame (f := (fun _ => 0)) (i := 0) (x := 0) rfl] at hP hD
  refine lv_iinc (v := 1) (lv' := [(3, .int 1), (2, .ref q3), (1, .ref q1), (0, .ref mo)]) hx hb dX15_strain_28 hl (k := 0) rfl (by decide +kernel) (by decide) rfl (fun ls hl => ?_)
  refine lv_goto (tgt := 11) hx hb dX15_strain_31 (by decide) ?_
  refine lv_iload_n hx hb dX15_strain_11 rfl (lv_at hl 0 rfl) ?_
  refine lv_bipush (v := 9) hx hb dX15_strain_12 (by decide) ?_
  refine lv_icmp_ge (tgt := 34) hx hb dX15_strain_14 (by decide) (fun c_ => absurd c_ (by decide +kernel)) (fun _ => ?_)
  refine lv_aload_n hx hb dX15_strain_17 rfl (lv_at hl 1 rfl) ?_
  refine lv_iload_n hx hb dX15_strain_18 rfl (lv_at hl 0 rfl) ?_
  refine lv_aload_n hx hb dX15_strain_19 rfl (lv_at hl 3 rfl) ?_
  refine lv_iload_n hx hb dX15_strain_20 rfl (lv_at hl 0 rfl) ?_
  have hPc := hP.sub (ws' := [(mo, .inr (19, [.int 0, .int 0, .int 0, .int 0, .int 0, .int 0, .int tu, .ref ti, .ref si, .ref lo, .ref lh, .ref lk, .ref sp, .ref st, .ref pa, .ref br, .ref sg, .int mi, .int 0, .int 0, .int 0, .int fo, .int 0, .long pe, .long pn, .long re, .long rn, .int th])), (sp, .inl (csp, 9, .inl (fun _ => 0))), (br, .inl (cbr, 3, .inl (fun _ => 0)))]) [5, 3, 4] rfl
  have hDc := hD.sub (ws' := [(mo, .inr (19, [.int 0, .int 0, .int 0, .int 0, .int 0, .int 0, .int tu, .ref ti, .ref si, .ref lo, .ref lh, .ref lk, .ref sp, .ref st, .ref pa, .ref br, .ref sg, .int mi, .int 0, .int 0, .int 0, .int fo, .int 0, .long pe, .long pn, .long re, .long rn, .int th])), (sp, .inl (csp, 9, .inl (fun _ => 0))), (br, .inl (cbr, 3, .inl (fun _ => 0)))]) [5, 3, 4] (by decide) rfl
  have hKc := hK.sub (tys' := [(csp, .int), (cbr, .int)]) [0, 2] rfl
  have hFc := va_free (wc := [(mo, .inr (19, [.int 0, .int 0, .int 0, .int 0, .int 0, .int 0, .int tu, .ref ti, .ref si, .ref lo, .ref lh, .ref lk, .ref sp, .ref st, .ref pa, .ref br, .ref sg, .int mi, .int 0, .int 0, .int 0, .int fo, .int 0, .long pe, .long pn, .long re, .long rn, .int th])), (sp, .inl (csp, 9, .inl (fun _ => 0))), (br, .inl (cbr, 3, .inl (fun _ => 0)))]) hD hS hA [5, 3, 4] rfl
  refine va_calli (va_runV (As := [.int 1]) (rest := [.int 1, .ref q3]) ⟨hx, hb, hml, hown, hts⟩ (k_forceOf_1 l dC dI z zK zV mi fo pe pn re rn mo ti si lo lh lk sp st pa br sg csp cbr th tu H.size) (cwV 1 hts gX15_strain_X15_forceOf rfl rfl rfl (by decide +kernel) ⟨Nat.le_of_ble_eq_true rfl, Nat.le_of_ble_eq_true rfl⟩) ⟨kP_blind, va_recv hKc hPc (ci := 19) (q0 := 0) rfl rfl, kP_go hPc hKc hDc hFc hM hS⟩ rfl rfl hl.1 rfl (lv_room (Nat.le_of_ble_eq_true rfl)) dX15_strain_21 ⟨Nat.le_of_ble_eq_true rfl, Nat.le_of_ble_eq_true rfl⟩) hS (fun q _ h => hFc q h) hFc (fun r6 u t H1 locs ht hvm hw hB hz1 hk1 hS => ?_)
  obtain ⟨hP, hD, hK⟩ := kJ (wr := [(st, .inl (cst, 9, .inl (upd (upd (upd (upd (upd (upd (upd (upd (upd (fun _ => 0) 0 900) 1 900) 2 900) 3 900) 4 900) 5 900) 6 900) 7 900) 8 900))), (q1, .inl (cA2, 3, .inl (fun _ => 0))), (q3, .inl (cA4, 9, .inl (fun _ => 0)))]) (w1 := [(sp, .inl (csp, 9, .inl (fun _ => 0))), (br, .inl (cbr, 3, .inl (fun _ => 0))), (mo, .inr (19, [.int 0, .int 0, .int 0, .int 0, .int 0, .int 0, .int tu, .ref ti, .ref si, .ref lo, .ref lh, .ref lk, .ref sp, .ref st, .ref pa, .ref br, .ref sg, .int mi, .int 0, .int 0, .int 0, .int fo, .int 0, .long pe, .long pn, .long re, .long rn, .int th]))]) (t1 := []) hP hD hK [5, 3, 4] [0, 1, 2] rfl rfl (by decide) (by decide) hk1 hFc ht hvm hB
  generalize H1 = H at hP hS ⊢
  have hP : va_P (dC, dI) vwCl [(st, .inl (cst, 9, .inl (upd (upd (upd (upd (upd (upd (upd (upd (upd (fun _ => 0) 0 900) 1 900) 2 900) 3 900) 4 900) 5 900) 6 900) 7 900) 8 900))), (q1, .inl (cA2, 3, .inl (fun _ => 0))), (q3, .inl (cA4, 9, .inl (fun _ => 0))), (sp, .inl (csp, 9, .inl (fun _ => 0))), (br, .inl (cbr, 3, .inl (fun _ => 0))), (mo, .inr (19, [.int 0, .int 0, .int 0, .int 0, .int 0, .int 0, .int tu, .ref ti, .ref si, .ref lo, .ref lh, .ref lk, .ref sp, .ref st, .ref pa, .ref br, .ref sg, .int mi, .int 0, .int 0, .int 0, .int fo, .int 0, .long pe, .long pn, .long re, .long rn, .int th]))] H := hP
  have hD : va_D A [(st, .inl (cst, 9, .inl (upd (upd (upd (upd (upd (upd (upd (upd (upd (fun _ => 0) 0 900) 1 900) 2 900) 3 900) 4 900) 5 900) 6 900) 7 900) 8 900))), (q1, .inl (cA2, 3, .inl (fun _ => 0))), (q3, .inl (cA4, 9, .inl (fun _ => 0))), (sp, .inl (csp, 9, .inl (fun _ => 0))), (br, .inl (cbr, 3, .inl (fun _ => 0))), (mo, .inr (19, [.int 0, .int 0, .int 0, .int 0, .int 0, .int 0, .int tu, .ref ti, .ref si, .ref lo, .ref lh, .ref lk, .ref sp, .ref st, .ref pa, .ref br, .ref sg, .int mi, .int 0, .int 0, .int 0, .int fo, .int 0, .long pe, .long pn, .long re, .long rn, .int th]))] := hD
  have hK : va_K (dC, dI) vwCl [(csp, .int), (cst, .int), (cbr, .int), (cA2, .int), (cA4, .int)] s := hK
  obtain rfl : 0 = r6 := hw
  refine va_mabs hx hb (hml.trans hl.1.symm) hown (hts (.methodLink RX15 99 Lib.Math.abs.name) (by decide +kernel)) (hts (.static Lib.Math.abs.name) (by decide +kernel)) (hts (.initialized "java/lang/Math") (by decide +kernel)) (hts (.code Lib.Math.abs.name Lib.Math.abs.code 1 (some .int)) (by decide +kernel)) (Nat.le_of_ble_eq_true rfl) (Nat.le_of_ble_eq_true rfl) (Nat.le_of_ble_eq_true rfl) (Nat.le_of_ble_eq_true rfl) dX15_strain_24 ?_
  refine kc_i (y := 0) (by decide +kernel) ?_
  refine va_iast hx hb hK hP hD hS 2 4 rfl rfl (pk_in 1 9 (by decide) rfl) dX15_strain_27 (fun H locs hP hD hS => ?_)
  have hP : va_P (dC, dI) vwCl [(st, .inl (cst, 9, .inl (upd (upd (upd (upd (upd (upd (upd (upd (upd (fun _ => 0) 0 900) 1 900) 2 900) 3 900) 4 900) 5 900) 6 900) 7 900) 8 900))), (q1, .inl (cA2, 3, .inl (fun _ => 0))), (q3, .inl (cA4, 9, .inl (upd (fun _ => 0) 1 0))), (sp, .inl (csp, 9, .inl (fun _ => 0))), (br, .inl (cbr, 3, .inl (fun _ => 0))), (mo, .inr (19, [.int 0, .int 0, .int 0, .int 0, .int 0, .int 0, .int tu, .ref ti, .ref si, .ref lo, .ref lh, .ref lk, .ref sp, .ref st, .ref pa, .ref br, .ref sg, .int mi, .int 0, .int 0, .int 0, .int fo, .int 0, .long pe, .long pn, .long re, .long rn, .int th]))] H := hP
  have hD : va_D A [(st, .inl (cst, 9, .inl (upd (upd (upd (upd (upd (upd (upd (upd (upd (fun _ => 0) 0 900) 1 900) 2 900) 3 900) 4 900) 5 900) 6 900) 7 900) 8 900))), (q1, .inl (cA2, 3, .inl (fun _ => 0))), (q3, .inl (cA4, 9, .inl (upd (fun _ => 0) 1 0))), (sp, .inl (csp, 9, .inl (fun _ => 0))), (br, .inl (cbr, 3, .inl (fun _ => 0))), (mo, .inr (19, [.int 0, .int 0, .int 0, .int 0, .int 0, .int 0, .int tu, .ref ti, .ref si, .ref lo, .ref lh, .ref lk, .ref sp, .ref st, .ref pa, .ref br, .ref sg, .int mi, .int 0, .int 0, .int 0, .int fo, .int 0, .long pe, .long pn, .long re, .long rn, .int th]))] := hD
  rw [k_updsame (f := (fun _ => 0)) (i := 1) (x := 0) rfl] at hP hD
  refine lv_iinc (v := 2) (lv' := [(3, .int 2), (2, .ref q3), (1, .ref q1), (0, .ref mo)]) hx hb dX15_strain_28 hl (k := 0) rfl (by decide +kernel) (by decide) rfl (fun ls hl => ?_)
  refine lv_goto (tgt := 11) hx hb dX15_strain_31 (by decide) ?_
  refine lv_iload_n hx hb dX15_strain_11 rfl (lv_at hl 0 rfl) ?_
  refine lv_bipush (v := 9) hx hb dX15_strain_12 (by decide) ?_
  refine lv_icmp_ge (tgt := 34) hx hb dX15_strain_14 (by decide) (fun c_ => absurd c_ (by decide +kernel)) (fun _ => ?_)
  refine lv_aload_n hx hb dX15_strain_17 rfl (lv_at hl 1 rfl) ?_
  refine lv_iload_n hx hb dX15_strain_18 rfl (lv_at hl 0 rfl) ?_
  refine lv_aload_n hx hb dX15_strain_19 rfl (lv_at hl 3 rfl) ?_
  refine lv_iload_n hx hb dX15_strain_20 rfl (lv_at hl 0 rfl) ?_
  have hPc := hP.sub (ws' := [(mo, .inr (19, [.int 0, .int 0, .int 0, .int 0, .int 0, .int 0, .int tu, .ref ti, .ref si, .ref lo, .ref lh, .ref lk, .ref sp, .ref st, .ref pa, .ref br, .ref sg, .int mi, .int 0, .int 0, .int 0, .int fo, .int 0, .long pe, .long pn, .long re, .long rn, .int th])), (sp, .inl (csp, 9, .inl (fun _ => 0))), (br, .inl (cbr, 3, .inl (fun _ => 0)))]) [5, 3, 4] rfl
  have hDc := hD.sub (ws' := [(mo, .inr (19, [.int 0, .int 0, .int 0, .int 0, .int 0, .int 0, .int tu, .ref ti, .ref si, .ref lo, .ref lh, .ref lk, .ref sp, .ref st, .ref pa, .ref br, .ref sg, .int mi, .int 0, .int 0, .int 0, .int fo, .int 0, .long pe, .long pn, .long re, .long rn, .int th])), (sp, .inl (csp, 9, .inl (fun _ => 0))), (br, .inl (cbr, 3, .inl (fun _ => 0)))]) [5, 3, 4] (by decide) rfl
  have hKc := hK.sub (tys' := [(csp, .int), (cbr, .int)]) [0, 2] rfl
  have hFc := va_free (wc := [(mo, .inr (19, [.int 0, .int 0, .int 0, .int 0, .int 0, .int 0, .int tu, .ref ti, .ref si, .ref lo, .ref lh, .ref lk, .ref sp, .ref st, .ref pa, .ref br, .ref sg, .int mi, .int 0, .int 0, .int 0, .int fo, .int 0, .long pe, .long pn, .long re, .long rn, .int th])), (sp, .inl (csp, 9, .inl (fun _ => 0))), (br, .inl (cbr, 3, .inl (fun _ => 0)))]) hD hS hA [5, 3, 4] rfl
  refine va_calli (va_runV (As := [.int 2]) (rest := [.int 2, .ref q3]) ⟨hx, hb, hml, hown, hts⟩ (k_forceOf_2 l dC dI z zK zV mi fo pe pn re rn mo ti si lo lh lk sp st pa br sg csp cbr th tu H.size) (cwV 1 hts gX15_strain_X15_forceOf rfl rfl rfl (by decide +kernel) ⟨Nat.le_of_ble_eq_true rfl, Nat.le_of_ble_eq_true rfl⟩) ⟨kP_blind, va_recv hKc hPc (ci := 19) (q0 := 0) rfl rfl, kP_go hPc hKc hDc hFc hM hS⟩ rfl rfl hl.1 rfl (lv_room (Nat.le_of_ble_eq_true rfl)) dX15_strain_21 ⟨Nat.le_of_ble_eq_true rfl, Nat.le_of_ble_eq_true rfl⟩) hS (fun q _ h => hFc q h) hFc (fun r7 u t H1 locs ht hvm hw hB hz1 hk1 hS => ?_)
  obtain ⟨hP, hD, hK⟩ := kJ (wr := [(st, .inl (cst, 9, .inl (upd (upd (upd (upd (upd (upd (upd (upd (upd (fun _ => 0) 0 900) 1 900) 2 900) 3 900) 4 900) 5 900) 6 900) 7 900) 8 900))), (q1, .inl (cA2, 3, .inl (fun _ => 0))), (q3, .inl (cA4, 9, .inl (fun _ => 0)))]) (w1 := [(sp, .inl (csp, 9, .inl (fun _ => 0))), (br, .inl (cbr, 3, .inl (fun _ => 0))), (mo, .inr (19, [.int 0, .int 0, .int 0, .int 0, .int 0, .int 0, .int tu, .ref ti, .ref si, .ref lo, .ref lh, .ref lk, .ref sp, .ref st, .ref pa, .ref br, .ref sg, .int mi, .int 0, .int 0, .int 0, .int fo, .int 0, .long pe, .long pn, .long re, .long rn, .int th]))]) (t1 := []) hP hD hK [5, 3, 4] [0, 1, 2] rfl rfl (by decide) (by decide) hk1 hFc ht hvm hB
  generalize H1 = H at hP hS ⊢
  have hP : va_P (dC, dI) vwCl [(st, .inl (cst, 9, .inl (upd (upd (upd (upd (upd (upd (upd (upd (upd (fun _ => 0) 0 900) 1 900) 2 900) 3 900) 4 900) 5 900) 6 900) 7 900) 8 900))), (q1, .inl (cA2, 3, .inl (fun _ => 0))), (q3, .inl (cA4, 9, .inl (fun _ => 0))), (sp, .inl (csp, 9, .inl (fun _ => 0))), (br, .inl (cbr, 3, .inl (fun _ => 0))), (mo, .inr (19, [.int 0, .int 0, .int 0, .int 0, .int 0, .int 0, .int tu, .ref ti, .ref si, .ref lo, .ref lh, .ref lk, .ref sp, .ref st, .ref pa, .ref br, .ref sg, .int mi, .int 0, .int 0, .int 0, .int fo, .int 0, .long pe, .long pn, .long re, .long rn, .int th]))] H := hP
  have hD : va_D A [(st, .inl (cst, 9, .inl (upd (upd (upd (upd (upd (upd (upd (upd (upd (fun _ => 0) 0 900) 1 900) 2 900) 3 900) 4 900) 5 900) 6 900) 7 900) 8 900))), (q1, .inl (cA2, 3, .inl (fun _ => 0))), (q3, .inl (cA4, 9, .inl (fun _ => 0))), (sp, .inl (csp, 9, .inl (fun _ => 0))), (br, .inl (cbr, 3, .inl (fun _ => 0))), (mo, .inr (19, [.int 0, .int 0, .int 0, .int 0, .int 0, .int 0, .int tu, .ref ti, .ref si, .ref lo, .ref lh, .ref lk, .ref sp, .ref st, .ref pa, .ref br, .ref sg, .int mi, .int 0, .int 0, .int 0, .int fo, .int 0, .long pe, .long pn, .long re, .long rn, .int th]))] := hD
  have hK : va_K (dC, dI) vwCl [(csp, .int), (cst, .int), (cbr, .int), (cA2, .int), (cA4, .int)] s := hK
  obtain rfl : 0 = r7 := hw
  refine va_mabs hx hb (hml.trans hl.1.symm) hown (hts (.methodLink RX15 99 Lib.Math.abs.name) (by decide +kernel)) (hts (.static Lib.Math.abs.name) (by decide +kernel)) (hts (.initialized "java/lang/Math") (by decide +kernel)) (hts (.code Lib.Math.abs.name Lib.Math.abs.code 1 (some .int)) (by decide +kernel)) (Nat.le_of_ble_eq_true rfl) (Nat.le_of_ble_eq_true rfl) (Nat.le_of_ble_eq_true rfl) (Nat.le_of_ble_eq_true rfl) dX15_strain_24 ?_
  refine kc_i (y := 0) (by decide +kernel) ?_
  refine va_iast hx hb hK hP hD hS 2 4 rfl rfl (pk_in 2 9 (by decide) rfl) dX15_strain_27 (fun H locs hP hD hS => ?_)
  have hP : va_P (dC, dI) vwCl [(st, .inl (cst, 9, .inl (upd (upd (upd (upd (upd (upd (upd (upd (upd (fun _ => 0) 0 900) 1 900) 2 900) 3 900) 4 900) 5 900) 6 900) 7 900) 8 900))), (q1, .inl (cA2, 3, .inl (fun _ => 0))), (q3, .inl (cA4, 9, .inl (upd (fun _ => 0) 2 0))), (sp, .inl (csp, 9, .inl (fun _ => 0))), (br, .inl (cbr, 3, .inl (fun _ => 0))), (mo, .inr (19, [.int 0, .int 0, .int 0, .int 0, .int 0, .int 0, .int tu, .ref ti, .ref si, .ref lo, .ref lh, .ref lk, .ref sp, .ref st, .ref pa, .ref br, .ref sg, .int mi, .int 0, .int 0, .int 0, .int fo, .int 0, .long pe, .long pn, .long re, .long rn, .int th]))] H := hP
  have hD : va_D A [(st, .inl (cst, 9, .inl (upd (upd (upd (upd (upd (upd (upd (upd (upd (fun _ => 0) 0 900) 1 900) 2 900) 3 900) 4 900) 5 900) 6 900) 7 900) 8 900))), (q1, .inl (cA2, 3, .inl (fun _ => 0))), (q3, .inl (cA4, 9, .inl (upd (fun _ => 0) 2 0))), (sp, .inl (csp, 9, .inl (fun _ => 0))), (br, .inl (cbr, 3, .inl (fun _ => 0))), (mo, .inr (19, [.int 0, .int 0, .int 0, .int 0, .int 0, .int 0, .int tu, .ref ti, .ref si, .ref lo, .ref lh, .ref lk, .ref sp, .ref st, .ref pa, .ref br, .ref sg, .int mi, .int 0, .int 0, .int 0, .int fo, .int 0, .long pe, .long pn, .long re, .long rn, .int th]))] := hD
  rw [k_updsame (f := (fun _ => 0)) (i := 2) (x := 0) rfl] at hP hD
  refine lv_iinc (v := 3) (lv' := [(3, .int 3), (2, .ref q3), (1, .ref q1), (0, .ref mo)]) hx hb dX15_strain_28 hl (k := 0) rfl (by decide +kernel) (by decide) rfl (fun ls hl => ?_)
  refine lv_goto (tgt := 11) hx hb dX15_strain_31 (by decide) ?_
  refine lv_iload_n hx hb dX15_strain_11 rfl (lv_at hl 0 rfl) ?_
  refine lv_bipush (v := 9) hx hb dX15_strain_12 (by decide) ?_
  refine lv_icmp_ge (tgt := 34) hx hb dX15_strain_14 (by decide) (fun c_ => absurd c_ (by decide +kernel)) (fun _ => ?_)
  refine lv_aload_n hx hb dX15_strain_17 rfl (lv_at hl 1 rfl) ?_
  refine lv_iload_n hx hb dX15_strain_18 rfl (lv_at hl 0 rfl) ?_
  refine lv_aload_n hx hb dX15_strain_19 rfl (lv_at hl 3 rfl) ?_
  refine lv_iload_n hx hb dX15_strain_20 rfl (lv_at hl 0 rfl) ?_
  have hPc := hP.sub (ws' := [(mo, .inr (19, [.int 0, .int 0, .int 0, .int 0, .int 0, .int 0, .int tu, .ref ti, .ref si, .ref lo, .ref lh, .ref lk, .ref sp, .ref st, .ref pa, .ref br, .ref sg, .int mi, .int 0, .int 0, .int 0, .int fo, .int 0, .long pe, .long pn, .long re, .long rn, .int th])), (sp, .inl (csp, 9, .inl (fun _ => 0))), (br, .inl (cbr, 3, .inl (fun _ => 0)))]) [5, 3, 4] rfl
  have hDc := hD.sub (ws' := [(mo, .inr (19, [.int 0, .int 0, .int 0, .int 0, .int 0, .int 0, .int tu, .ref ti, .ref si, .ref lo, .ref lh, .ref lk, .ref sp, .ref st, .ref pa, .ref br, .ref sg, .int mi, .int 0, .int 0, .int 0, .int fo, .int 0, .long pe, .long pn, .long re, .long rn, .int th])), (sp, .inl (csp, 9, .inl (fun _ => 0))), (br, .inl (cbr, 3, .inl (fun _ => 0)))]) [5, 3, 4] (by decide) rfl
  have hKc := hK.sub (tys' := [(csp, .int), (cbr, .int)]) [0, 2] rfl
  have hFc := va_free (wc := [(mo, .inr (19, [.int 0, .int 0, .int 0, .int 0, .int 0, .int 0, .int tu, .ref ti, .ref si, .ref lo, .ref lh, .ref lk, .ref sp, .ref st, .ref pa, .ref br, .ref sg, .int mi, .int 0, .int 0, .int 0, .int fo, .int 0, .long pe, .long pn, .long re, .long rn, .int th])), (sp, .inl (csp, 9, .inl (fun _ => 0))), (br, .inl (cbr, 3, .inl (fun _ => 0)))]) hD hS hA [5, 3, 4] rfl
  refine va_calli (va_runV (As := [.int 3]) (rest := [.int 3, .ref q3]) ⟨hx, hb, hml, hown, hts⟩ (k_forceOf_3 l dC dI z zK zV mi fo pe pn re rn mo ti si lo lh lk sp st pa br sg csp cbr th tu H.size) (cwV 1 hts gX15_strain_X15_forceOf rfl rfl rfl (by decide +kernel) ⟨Nat.le_of_ble_eq_true rfl, Nat.le_of_ble_eq_true rfl⟩) ⟨kP_blind, va_recv hKc hPc (ci := 19) (q0 := 0) rfl rfl, kP_go hPc hKc hDc hFc hM hS⟩ rfl rfl hl.1 rfl (lv_room (Nat.le_of_ble_eq_true rfl)) dX15_strain_21 ⟨Nat.le_of_ble_eq_true rfl, Nat.le_of_ble_eq_true rfl⟩) hS (fun q _ h => hFc q h) hFc (fun r8 u t H1 locs ht hvm hw hB hz1 hk1 hS => ?_)
  obtain ⟨hP, hD, hK⟩ := kJ (wr := [(st, .inl (cst, 9, .inl (upd (upd (upd (upd (upd (upd (upd (upd (upd (fun _ => 0) 0 900) 1 900) 2 900) 3 900) 4 900) 5 900) 6 900) 7 900) 8 900))), (q1, .inl (cA2, 3, .inl (fun _ => 0))), (q3, .inl (cA4, 9, .inl (fun _ => 0)))]) (w1 := [(sp, .inl (csp, 9, .inl (fun _ => 0))), (br, .inl (cbr, 3, .inl (fun _ => 0))), (mo, .inr (19, [.int 0, .int 0, .int 0, .int 0, .int 0, .int 0, .int tu, .ref ti, .ref si, .ref lo, .ref lh, .ref lk, .ref sp, .ref st, .ref pa, .ref br, .ref sg, .int mi, .int 0, .int 0, .int 0, .int fo, .int 0, .long pe, .long pn, .long re, .long rn, .int th]))]) (t1 := []) hP hD hK [5, 3, 4] [0, 1, 2] rfl rfl (by decide) (by decide) hk1 hFc ht hvm hB
  generalize H1 = H at hP hS ⊢
  have hP : va_P (dC, dI) vwCl [(st, .inl (cst, 9, .inl (upd (upd (upd (upd (upd (upd (upd (upd (upd (fun _ => 0) 0 900) 1 900) 2 900) 3 900) 4 900) 5 900) 6 900) 7 900) 8 900))), (q1, .inl (cA2, 3, .inl (fun _ => 0))), (q3, .inl (cA4, 9, .inl (fun _ => 0))), (sp, .inl (csp, 9, .inl (fun _ => 0))), (br, .inl (cbr, 3, .inl (fun _ => 0))), (mo, .inr (19, [.int 0, .int 0, .int 0, .int 0, .int 0, .int 0, .int tu, .ref ti, .ref si, .ref lo, .ref lh, .ref lk, .ref sp, .ref st, .ref pa, .ref br, .ref sg, .int mi, .int 0, .int 0, .int 0, .int fo, .int 0, .long pe, .long pn, .long re, .long rn, .int th]))] H := hP
  have hD : va_D A [(st, .inl (cst, 9, .inl (upd (upd (upd (upd (upd (upd (upd (upd (upd (fun _ => 0) 0 900) 1 900) 2 900) 3 900) 4 900) 5 900) 6 900) 7 900) 8 900))), (q1, .inl (cA2, 3, .inl (fun _ => 0))), (q3, .inl (cA4, 9, .inl (fun _ => 0))), (sp, .inl (csp, 9, .inl (fun _ => 0))), (br, .inl (cbr, 3, .inl (fun _ => 0))), (mo, .inr (19, [.int 0, .int 0, .int 0, .int 0, .int 0, .int 0, .int tu, .ref ti, .ref si, .ref lo, .ref lh, .ref lk, .ref sp, .ref st, .ref pa, .ref br, .ref sg, .int mi, .int 0, .int 0, .int 0, .int fo, .int 0, .long pe, .long pn, .long re, .long rn, .int th]))] := hD
  have hK : va_K (dC, dI) vwCl [(csp, .int), (cst, .int), (cbr, .int), (cA2, .int), (cA4, .int)] s := hK
  obtain rfl : 0 = r8 := hw
  refine va_mabs hx hb (hml.trans hl.1.symm) hown (hts (.methodLink RX15 99 Lib.Math.abs.name) (by decide +kernel)) (hts (.static Lib.Math.abs.name) (by decide +kernel)) (hts (.initialized "java/lang/Math") (by decide +kernel)) (hts (.code Lib.Math.abs.name Lib.Math.abs.code 1 (some .int)) (by decide +kernel)) (Nat.le_of_ble_eq_true rfl) (Nat.le_of_ble_eq_true rfl) (Nat.le_of_ble_eq_true rfl) (Nat.le_of_ble_eq_true rfl) dX15_strain_24 ?_
  refine kc_i (y := 0) (by decide +kernel) ?_
  refine va_iast hx hb hK hP hD hS 2 4 rfl rfl (pk_in 3 9 (by decide) rfl) dX15_strain_27 (fun H locs hP hD hS => ?_)
  have hP : va_P (dC, dI) vwCl [(st, .inl (cst, 9, .inl (upd (upd (upd (upd (upd (upd (upd (upd (upd (fun _ => 0) 0 900) 1 900) 2 900) 3 900) 4 900) 5 900) 6 900) 7 900) 8 900))), (q1, .inl (cA2, 3, .inl (fun _ => 0))), (q3, .inl (cA4, 9, .inl (upd (fun _ => 0) 3 0))), (sp, .inl (csp, 9, .inl (fun _ => 0))), (br, .inl (cbr, 3, .inl (fun _ => 0))), (mo, .inr (19, [.int 0, .int 0, .int 0, .int 0, .int 0, .int 0, .int tu, .ref ti, .ref si, .ref lo, .ref lh, .ref lk, .ref sp, .ref st, .ref pa, .ref br, .ref sg, .int mi, .int 0, .int 0, .int 0, .int fo, .int 0, .long pe, .long pn, .long re, .long rn, .int th]))] H := hP
  have hD : va_D A [(st, .inl (cst, 9, .inl (upd (upd (upd (upd (upd (upd (upd (upd (upd (fun _ => 0) 0 900) 1 900) 2 900) 3 900) 4 900) 5 900) 6 900) 7 900) 8 900))), (q1, .inl (cA2, 3, .inl (fun _ => 0))), (q3, .inl (cA4, 9, .inl (upd (fun _ => 0) 3 0))), (sp, .inl (csp, 9, .inl (fun _ => 0))), (br, .inl (cbr, 3, .inl (fun _ => 0))), (mo, .inr (19, [.int 0, .int 0, .int 0, .int 0, .int 0, .int 0, .int tu, .ref ti, .ref si, .ref lo, .ref lh, .ref lk, .ref sp, .ref st, .ref pa, .ref br, .ref sg, .int mi, .int 0, .int 0, .int 0, .int fo, .int 0, .long pe, .long pn, .long re, .long rn, .int th]))] := hD
  rw [k_updsame (f := (fun _ => 0)) (i := 3) (x := 0) rfl] at hP hD
  refine lv_iinc (v := 4) (lv' := [(3, .int 4), (2, .ref q3), (1, .ref q1), (0, .ref mo)]) hx hb dX15_strain_28 hl (k := 0) rfl (by decide +kernel) (by decide) rfl (fun ls hl => ?_)
  refine lv_goto (tgt := 11) hx hb dX15_strain_31 (by decide) ?_
  refine lv_iload_n hx hb dX15_strain_11 rfl (lv_at hl 0 rfl) ?_
  refine lv_bipush (v := 9) hx hb dX15_strain_12 (by decide) ?_
  refine lv_icmp_ge (tgt := 34) hx hb dX15_strain_14 (by decide) (fun c_ => absurd c_ (by decide +kernel)) (fun _ => ?_)
  refine lv_aload_n hx hb dX15_strain_17 rfl (lv_at hl 1 rfl) ?_
  refine lv_iload_n hx hb dX15_strain_18 rfl (lv_at hl 0 rfl) ?_
  refine lv_aload_n hx hb dX15_strain_19 rfl (lv_at hl 3 rfl) ?_
  refine lv_iload_n hx hb dX15_strain_20 rfl (lv_at hl 0 rfl) ?_
  have hPc := hP.sub (ws' := [(mo, .inr (19, [.int 0, .int 0, .int 0, .int 0, .int 0, .int 0, .int tu, .ref ti, .ref si, .ref lo, .ref lh, .ref lk, .ref sp, .ref st, .ref pa, .ref br, .ref sg, .int mi, .int 0, .int 0, .int 0, .int fo, .int 0, .long pe, .long pn, .long re, .long rn, .int th])), (sp, .inl (csp, 9, .inl (fun _ => 0))), (br, .inl (cbr, 3, .inl (fun _ => 0)))]) [5, 3, 4] rfl
  have hDc := hD.sub (ws' := [(mo, .inr (19, [.int 0, .int 0, .int 0, .int 0, .int 0, .int 0, .int tu, .ref ti, .ref si, .ref lo, .ref lh, .ref lk, .ref sp, .ref st, .ref pa, .ref br, .ref sg, .int mi, .int 0, .int 0, .int 0, .int fo, .int 0, .long pe, .long pn, .long re, .long rn, .int th])), (sp, .inl (csp, 9, .inl (fun _ => 0))), (br, .inl (cbr, 3, .inl (fun _ => 0)))]) [5, 3, 4] (by decide) rfl
  have hKc := hK.sub (tys' := [(csp, .int), (cbr, .int)]) [0, 2] rfl
  have hFc := va_free (wc := [(mo, .inr (19, [.int 0, .int 0, .int 0, .int 0, .int 0, .int 0, .int tu, .ref ti, .ref si, .ref lo, .ref lh, .ref lk, .ref sp, .ref st, .ref pa, .ref br, .ref sg, .int mi, .int 0, .int 0, .int 0, .int fo, .int 0, .long pe, .long pn, .long re, .long rn, .int th])), (sp, .inl (csp, 9, .inl (fun _ => 0))), (br, .inl (cbr, 3, .inl (fun _ => 0)))]) hD hS hA [5, 3, 4] rfl
  refine va_calli (va_runV (As := [.int 4]) (rest := [.int 4, .ref q3]) ⟨hx, hb, hml, hown, hts⟩ (k_forceOf_4 l dC dI z zK zV mi fo pe pn re rn mo ti si lo lh lk sp st pa br sg csp cbr th tu H.size) (cwV 1 hts gX15_strain_X15_forceOf rfl rfl rfl (by decide +kernel) ⟨Nat.le_of_ble_eq_true rfl, Nat.le_of_ble_eq_true rfl⟩) ⟨kP_blind, va_recv hKc hPc (ci := 19) (q0 := 0) rfl rfl, kP_go hPc hKc hDc hFc hM hS⟩ rfl rfl hl.1 rfl (lv_room (Nat.le_of_ble_eq_true rfl)) dX15_strain_21 ⟨Nat.le_of_ble_eq_true rfl, Nat.le_of_ble_eq_true rfl⟩) hS (fun q _ h => hFc q h) hFc (fun r9 u t H1 locs ht hvm hw hB hz1 hk1 hS => ?_)
  obtain ⟨hP, hD, hK⟩ := kJ (wr := [(st, .inl (cst, 9, .inl (upd (upd (upd (upd (upd (upd (upd (upd (upd (fun _ => 0) 0 900) 1 900) 2 900) 3 900) 4 900) 5 900) 6 900) 7 900) 8 900))), (q1, .inl (cA2, 3, .inl (fun _ => 0))), (q3, .inl (cA4, 9, .inl (fun _ => 0)))]) (w1 := [(sp, .inl (csp, 9, .inl (fun _ => 0))), (br, .inl (cbr, 3, .inl (fun _ => 0))), (mo, .inr (19, [.int 0, .int 0, .int 0, .int 0, .int 0, .int 0, .int tu, .ref ti, .ref si, .ref lo, .ref lh, .ref lk, .ref sp, .ref st, .ref pa, .ref br, .ref sg, .int mi, .int 0, .int 0, .int 0, .int fo, .int 0, .long pe, .long pn, .long re, .long rn, .int th]))]) (t1 := []) hP hD hK [5, 3, 4] [0, 1, 2] rfl rfl (by decide) (by decide) hk1 hFc ht hvm hB
  generalize H1 = H at hP hS ⊢
  have hP : va_P (dC, dI) vwCl [(st, .inl (cst, 9, .inl (upd (upd (upd (upd (upd (upd (upd (upd (upd (fun _ => 0) 0 900) 1 900) 2 900) 3 900) 4 900) 5 900) 6 900) 7 900) 8 900))), (q1, .inl (cA2, 3, .inl (fun _ => 0))), (q3, .inl (cA4, 9, .inl (fun _ => 0))), (sp, .inl (csp, 9, .inl (fun _ => 0))), (br, .inl (cbr, 3, .inl (fun _ => 0))), (mo, .inr (19, [.int 0, .int 0, .int 0, .int 0, .int 0, .int 0, .int tu, .ref ti, .ref si, .ref lo, .ref lh, .ref lk, .ref sp, .ref st, .ref pa, .ref br, .ref sg, .int mi, .int 0, .int 0, .int 0, .int fo, .int 0, .long pe, .long pn, .long re, .long rn, .int th]))] H := hP
  have hD : va_D A [(st, .inl (cst, 9, .inl (upd (upd (upd (upd (upd (upd (upd (upd (upd (fun _ => 0) 0 900) 1 900) 2 900) 3 900) 4 900) 5 900) 6 900) 7 900) 8 900))), (q1, .inl (cA2, 3, .inl (fun _ => 0))), (q3, .inl (cA4, 9, .inl (fun _ => 0))), (sp, .inl (csp, 9, .inl (fun _ => 0))), (br, .inl (cbr, 3, .inl (fun _ => 0))), (mo, .inr (19, [.int 0, .int 0, .int 0, .int 0, .int 0, .int 0, .int tu, .ref ti, .ref si, .ref lo, .ref lh, .ref lk, .ref sp, .ref st, .ref pa, .ref br, .ref sg, .int mi, .int 0, .int 0, .int 0, .int fo, .int 0, .long pe, .long pn, .long re, .long rn, .int th]))] := hD
  have hK : va_K (dC, dI) vwCl [(csp, .int), (cst, .int), (cbr, .int), (cA2, .int), (cA4, .int)] s := hK
  obtain rfl : 0 = r9 := hw
  refine va_mabs hx hb (hml.trans hl.1.symm) hown (hts (.methodLink RX15 99 Lib.Math.abs.name) (by decide +kernel)) (hts (.static Lib.Math.abs.name) (by decide +kernel)) (hts (.initialized "java/lang/Math") (by decide +kernel)) (hts (.code Lib.Math.abs.name Lib.Math.abs.code 1 (some .int)) (by decide +kernel)) (Nat.le_of_ble_eq_true rfl) (Nat.le_of_ble_eq_true rfl) (Nat.le_of_ble_eq_true rfl) (Nat.le_of_ble_eq_true rfl) dX15_strain_24 ?_
  refine kc_i (y := 0) (by decide +kernel) ?_
  refine va_iast hx hb hK hP hD hS 2 4 rfl rfl (pk_in 4 9 (by decide) rfl) dX15_strain_27 (fun H locs hP hD hS => ?_)
  have hP : va_P (dC, dI) vwCl [(st, .inl (cst, 9, .inl (upd (upd (upd (upd (upd (upd (upd (upd (upd (fun _ => 0) 0 900) 1 900) 2 900) 3 900) 4 900) 5 900) 6 900) 7 900) 8 900))), (q1, .inl (cA2, 3, .inl (fun _ => 0))), (q3, .inl (cA4, 9, .inl (upd (fun _ => 0) 4 0))), (sp, .inl (csp, 9, .inl (fun _ => 0))), (br, .inl (cbr, 3, .inl (fun _ => 0))), (mo, .inr (19, [.int 0, .int 0, .int 0, .int 0, .int 0, .int 0, .int tu, .ref ti, .ref si, .ref lo, .ref lh, .ref lk, .ref sp, .ref st, .ref pa, .ref br, .ref sg, .int mi, .int 0, .int 0, .int 0, .int fo, .int 0, .long pe, .long pn, .long re, .long rn, .int th]))] H := hP
  have hD : va_D A [(st, .inl (cst, 9, .inl (upd (upd (upd (upd (upd (upd (upd (upd (upd (fun _ => 0) 0 900) 1 900) 2 900) 3 900) 4 900) 5 900) 6 900) 7 900) 8 900))), (q1, .inl (cA2, 3, .inl (fun _ => 0))), (q3, .inl (cA4, 9, .inl (upd (fun _ => 0) 4 0))), (sp, .inl (csp, 9, .inl (fun _ => 0))), (br, .inl (cbr, 3, .inl (fun _ => 0))), (mo, .inr (19, [.int 0, .int 0, .int 0, .int 0, .int 0, .int 0, .int tu, .ref ti, .ref si, .ref lo, .ref lh, .ref lk, .ref sp, .ref st, .ref pa, .ref br, .ref sg, .int mi, .int 0, .int 0, .int 0, .int fo, .int 0, .long pe, .long pn, .long re, .long rn, .int th]))] := hD
  rw [k_updsame (f := (fun _ => 0)) (i := 4) (x := 0) rfl] at hP hD
  refine lv_iinc (v := 5) (lv' := [(3, .int 5), (2, .ref q3), (1, .ref q1), (0, .ref mo)]) hx hb dX15_strain_28 hl (k := 0) rfl (by decide +kernel) (by decide) rfl (fun ls hl => ?_)
  refine lv_goto (tgt := 11) hx hb dX15_strain_31 (by decide) ?_
  refine lv_iload_n hx hb dX15_strain_11 rfl (lv_at hl 0 rfl) ?_
  refine lv_bipush (v := 9) hx hb dX15_strain_12 (by decide) ?_
  refine lv_icmp_ge (tgt := 34) hx hb dX15_strain_14 (by decide) (fun c_ => absurd c_ (by decide +kernel)) (fun _ => ?_)
  refine lv_aload_n hx hb dX15_strain_17 rfl (lv_at hl 1 rfl) ?_
  refine lv_iload_n hx hb dX15_strain_18 rfl (lv_at hl 0 rfl) ?_
  refine lv_aload_n hx hb dX15_strain_19 rfl (lv_at hl 3 rfl) ?_
  refine lv_iload_n hx hb dX15_strain_20 rfl (lv_at hl 0 rfl) ?_
  have hPc := hP.sub (ws' := [(mo, .inr (19, [.int 0, .int 0, .int 0, .int 0, .int 0, .int 0, .int tu, .ref ti, .ref si, .ref lo, .ref lh, .ref lk, .ref sp, .ref st, .ref pa, .ref br, .ref sg, .int mi, .int 0, .int 0, .int 0, .int fo, .int 0, .long pe, .long pn, .long re, .long rn, .int th])), (sp, .inl (csp, 9, .inl (fun _ => 0))), (br, .inl (cbr, 3, .inl (fun _ => 0)))]) [5, 3, 4] rfl
  have hDc := hD.sub (ws' := [(mo, .inr (19, [.int 0, .int 0, .int 0, .int 0, .int 0, .int 0, .int tu, .ref ti, .ref si, .ref lo, .ref lh, .ref lk, .ref sp, .ref st, .ref pa, .ref br, .ref sg, .int mi, .int 0, .int 0, .int 0, .int fo, .int 0, .long pe, .long pn, .long re, .long rn, .int th])), (sp, .inl (csp, 9, .inl (fun _ => 0))), (br, .inl (cbr, 3, .inl (fun _ => 0)))]) [5, 3, 4] (by decide) rfl
  have hKc := hK.sub (tys' := [(csp, .int), (cbr, .int)]) [0, 2] rfl
  have hFc := va_free (wc := [(mo, .inr (19, [.int 0, .int 0, .int 0, .int 0, .int 0, .int 0, .int tu, .ref ti, .ref si, .ref lo, .ref lh, .ref lk, .ref sp, .ref st, .ref pa, .ref br, .ref sg, .int mi, .int 0, .int 0, .int 0, .int fo, .int 0, .long pe, .long pn, .long re, .long rn, .int th])), (sp, .inl (csp, 9, .inl (fun _ => 0))), (br, .inl (cbr, 3, .inl (fun _ => 0)))]) hD hS hA [5, 3, 4] rfl
  refine va_calli (va_runV (As := [.int 5]) (rest := [.int 5, .ref q3]) ⟨hx, hb, hml, hown, hts⟩ (k_forceOf_5 l dC dI z zK zV mi fo pe pn re rn mo ti si lo lh lk sp st pa br sg csp cbr th tu H.size) (cwV 1 hts gX15_strain_X15_forceOf rfl rfl rfl (by decide +kernel) ⟨Nat.le_of_ble_eq_true rfl, Nat.le_of_ble_eq_true rfl⟩) ⟨kP_blind, va_recv hKc hPc (ci := 19) (q0 := 0) rfl rfl, kP_go hPc hKc hDc hFc hM hS⟩ rfl rfl hl.1 rfl (lv_room (Nat.le_of_ble_eq_true rfl)) dX15_strain_21 ⟨Nat.le_of_ble_eq_true rfl, Nat.le_of_ble_eq_true rfl⟩) hS (fun q _ h => hFc q h) hFc (fun r10 u t H1 locs ht hvm hw hB hz1 hk1 hS => ?_)
  obtain ⟨hP, hD, hK⟩ := kJ (wr := [(st, .inl (cst, 9, .inl (upd (upd (upd (upd (upd (upd (upd (upd (upd (fun _ => 0) 0 900) 1 900) 2 900) 3 900) 4 900) 5 900) 6 900) 7 900) 8 900))), (q1, .inl (cA2, 3, .inl (fun _ => 0))), (q3, .inl (cA4, 9, .inl (fun _ => 0)))]) (w1 := [(sp, .inl (csp, 9, .inl (fun _ => 0))), (br, .inl (cbr, 3, .inl (fun _ => 0))), (mo, .inr (19, [.int 0, .int 0, .int 0, .int 0, .int 0, .int 0, .int tu, .ref ti, .ref si, .ref lo, .ref lh, .ref lk, .ref sp, .ref st, .ref pa, .ref br, .ref sg, .int mi, .int 0, .int 0, .int 0, .int fo, .int 0, .long pe, .long pn, .long re, .long rn, .int th]))]) (t1 := []) hP hD hK [5, 3, 4] [0, 1, 2] rfl rfl (by decide) (by decide) hk1 hFc ht hvm hB
  generalize H1 = H at hP hS ⊢
  have hP : va_P (dC, dI) vwCl [(st, .inl (cst, 9, .inl (upd (upd (upd (upd (upd (upd (upd (upd (upd (fun _ => 0) 0 900) 1 900) 2 900) 3 900) 4 900) 5 900) 6 900) 7 900) 8 900))), (q1, .inl (cA2, 3, .inl (fun _ => 0))), (q3, .inl (cA4, 9, .inl (fun _ => 0))), (sp, .inl (csp, 9, .inl (fun _ => 0))), (br, .inl (cbr, 3, .inl (fun _ => 0))), (mo, .inr (19, [.int 0, .int 0, .int 0, .int 0, .int 0, .int 0, .int tu, .ref ti, .ref si, .ref lo, .ref lh, .ref lk, .ref sp, .ref st, .ref pa, .ref br, .ref sg, .int mi, .int 0, .int 0, .int 0, .int fo, .int 0, .long pe, .long pn, .long re, .long rn, .int th]))] H := hP
  have hD : va_D A [(st, .inl (cst, 9, .inl (upd (upd (upd (upd (upd (upd (upd (upd (upd (fun _ => 0) 0 900) 1 900) 2 900) 3 900) 4 900) 5 900) 6 900) 7 900) 8 900))), (q1, .inl (cA2, 3, .inl (fun _ => 0))), (q3, .inl (cA4, 9, .inl (fun _ => 0))), (sp, .inl (csp, 9, .inl (fun _ => 0))), (br, .inl (cbr, 3, .inl (fun _ => 0))), (mo, .inr (19, [.int 0, .int 0, .int 0, .int 0, .int 0, .int 0, .int tu, .ref ti, .ref si, .ref lo, .ref lh, .ref lk, .ref sp, .ref st, .ref pa, .ref br, .ref sg, .int mi, .int 0, .int 0, .int 0, .int fo, .int 0, .long pe, .long pn, .long re, .long rn, .int th]))] := hD
  have hK : va_K (dC, dI) vwCl [(csp, .int), (cst, .int), (cbr, .int), (cA2, .int), (cA4, .int)] s := hK
  obtain rfl : 0 = r10 := hw
  refine va_mabs hx hb (hml.trans hl.1.symm) hown (hts (.methodLink RX15 99 Lib.Math.abs.name) (by decide +kernel)) (hts (.static Lib.Math.abs.name) (by decide +kernel)) (hts (.initialized "java/lang/Math") (by decide +kernel)) (hts (.code Lib.Math.abs.name Lib.Math.abs.code 1 (some .int)) (by decide +kernel)) (Nat.le_of_ble_eq_true rfl) (Nat.le_of_ble_eq_true rfl) (Nat.le_of_ble_eq_true rfl) (Nat.le_of_ble_eq_true rfl) dX15_strain_24 ?_
  refine kc_i (y := 0) (by decide +kernel) ?_
  refine va_iast hx hb hK hP hD hS 2 4 rfl rfl (pk_in 5 9 (by decide) rfl) dX15_strain_27 (fun H locs hP hD hS => ?_)
  have hP : va_P (dC, dI) vwCl [(st, .inl (cst, 9, .inl (upd (upd (upd (upd (upd (upd (upd (upd (upd (fun _ => 0) 0 900) 1 900) 2 900) 3 900) 4 900) 5 900) 6 900) 7 900) 8 900))), (q1, .inl (cA2, 3, .inl (fun _ => 0))), (q3, .inl (cA4, 9, .inl (upd (fun _ => 0) 5 0))), (sp, .inl (csp, 9, .inl (fun _ => 0))), (br, .inl (cbr, 3, .inl (fun _ => 0))), (mo, .inr (19, [.int 0, .int 0, .int 0, .int 0, .int 0, .int 0, .int tu, .ref ti, .ref si, .ref lo, .ref lh, .ref lk, .ref sp, .ref st, .ref pa, .ref br, .ref sg, .int mi, .int 0, .int 0, .int 0, .int fo, .int 0, .long pe, .long pn, .long re, .long rn, .int th]))] H := hP
  have hD : va_D A [(st, .inl (cst, 9, .inl (upd (upd (upd (upd (upd (upd (upd (upd (upd (fun _ => 0) 0 900) 1 900) 2 900) 3 900) 4 900) 5 900) 6 900) 7 900) 8 900))), (q1, .inl (cA2, 3, .inl (fun _ => 0))), (q3, .inl (cA4, 9, .inl (upd (fun _ => 0) 5 0))), (sp, .inl (csp, 9, .inl (fun _ => 0))), (br, .inl (cbr, 3, .inl (fun _ => 0))), (mo, .inr (19, [.int 0, .int 0, .int 0, .int 0, .int 0, .int 0, .int tu, .ref ti, .ref si, .ref lo, .ref lh, .ref lk, .ref sp, .ref st, .ref pa, .ref br, .ref sg, .int mi, .int 0, .int 0, .int 0, .int fo, .int 0, .long pe, .long pn, .long re, .long rn, .int th]))] := hD
  rw [k_updsame (f := (fun _ => 0)) (i := 5) (x := 0) rfl] at hP hD
  refine lv_iinc (v := 6) (lv' := [(3, .int 6), (2, .ref q3), (1, .ref q1), (0, .ref mo)]) hx hb dX15_strain_28 hl (k := 0) rfl (by decide +kernel) (by decide) rfl (fun ls hl => ?_)
  refine lv_goto (tgt := 11) hx hb dX15_strain_31 (by decide) ?_
  refine lv_iload_n hx hb dX15_strain_11 rfl (lv_at hl 0 rfl) ?_
  refine lv_bipush (v := 9) hx hb dX15_strain_12 (by decide) ?_
  refine lv_icmp_ge (tgt := 34) hx hb dX15_strain_14 (by decide) (fun c_ => absurd c_ (by decide +kernel)) (fun _ => ?_)
  refine lv_aload_n hx hb dX15_strain_17 rfl (lv_at hl 1 rfl) ?_
  refine lv_iload_n hx hb dX15_strain_18 rfl (lv_at hl 0 rfl) ?_
  refine lv_aload_n hx hb dX15_strain_19 rfl (lv_at hl 3 rfl) ?_
  refine lv_iload_n hx hb dX15_strain_20 rfl (lv_at hl 0 rfl) ?_
  have hPc := hP.sub (ws' := [(mo, .inr (19, [.int 0, .int 0, .int 0, .int 0, .int 0, .int 0, .int tu, .ref ti, .ref si, .ref lo, .ref lh, .ref lk, .ref sp, .ref st, .ref pa, .ref br, .ref sg, .int mi, .int 0, .int 0, .int 0, .int fo, .int 0, .long pe, .long pn, .long re, .long rn, .int th])), (sp, .inl (csp, 9, .inl (fun _ => 0))), (br, .inl (cbr, 3, .inl (fun _ => 0)))]) [5, 3, 4] rfl
  have hDc := hD.sub (ws' := [(mo, .inr (19, [.int 0, .int 0, .int 0, .int 0, .int 0, .int 0, .int tu, .ref ti, .ref si, .ref lo, .ref lh, .ref lk, .ref sp, .ref st, .ref pa, .ref br, .ref sg, .int mi, .int 0, .int 0, .int 0, .int fo, .int 0, .long pe, .long pn, .long re, .long rn, .int th])), (sp, .inl (csp, 9, .inl (fun _ => 0))), (br, .inl (cbr, 3, .inl (fun _ => 0)))]) [5, 3, 4] (by decide) rfl
  have hKc := hK.sub (tys' := [(csp, .int), (cbr, .int)]) [0, 2] rfl
  have hFc := va_free (wc := [(mo, .inr (19, [.int 0, .int 0, .int 0, .int 0, .int 0, .int 0, .int tu, .ref ti, .ref si, .ref lo, .ref lh, .ref lk, .ref sp, .ref st, .ref pa, .ref br, .ref sg, .int mi, .int 0, .int 0, .int 0, .int fo, .int 0, .long pe, .long pn, .long re, .long rn, .int th])), (sp, .inl (csp, 9, .inl (fun _ => 0))), (br, .inl (cbr, 3, .inl (fun _ => 0)))]) hD hS hA [5, 3, 4] rfl
  refine va_calli (va_runV (As := [.int 6]) (rest := [.int 6, .ref q3]) ⟨hx, hb, hml, hown, hts⟩ (k_forceOf_6 l dC dI z zK zV mi fo pe pn re rn mo ti si lo lh lk sp st pa br sg csp cbr th tu H.size) (cwV 1 hts gX15_strain_X15_forceOf rfl rfl rfl (by decide +kernel) ⟨Nat.le_of_ble_eq_true rfl, Nat.le_of_ble_eq_true rfl⟩) ⟨kP_blind, va_recv hKc hPc (ci := 19) (q0 := 0) rfl rfl, kP_go hPc hKc hDc hFc hM hS⟩ rfl rfl hl.1 rfl (lv_room (Nat.le_of_ble_eq_true rfl)) dX15_strain_21 ⟨Nat.le_of_ble_eq_true rfl, Nat.le_of_ble_eq_true rfl⟩) hS (fun q _ h => hFc q h) hFc (fun r11 u t H1 locs ht hvm hw hB hz1 hk1 hS => ?_)
  obtain ⟨hP, hD, hK⟩ := kJ (wr := [(st, .inl (cst, 9, .inl (upd (upd (upd (upd (upd (upd (upd (upd (upd (fun _ => 0) 0 900) 1 900) 2 900) 3 900) 4 900) 5 900) 6 900) 7 900) 8 900))), (q1, .inl (cA2, 3, .inl (fun _ => 0))), (q3, .inl (cA4, 9, .inl (fun _ => 0)))]) (w1 := [(sp, .inl (csp, 9, .inl (fun _ => 0))), (br, .inl (cbr, 3, .inl (fun _ => 0))), (mo, .inr (19, [.int 0, .int 0, .int 0, .int 0, .int 0, .int 0, .int tu, .ref ti, .ref si, .ref lo, .ref lh, .ref lk, .ref sp, .ref st, .ref pa, .ref br, .ref sg, .int mi, .int 0, .int 0, .int 0, .int fo, .int 0, .long pe, .long pn, .long re, .long rn, .int th]))]) (t1 := []) hP hD hK [5, 3, 4] [0, 1, 2] rfl rfl (by decide) (by decide) hk1 hFc ht hvm hB
  generalize H1 = H at hP hS ⊢
  have hP : va_P (dC, dI) vwCl [(st, .inl (cst, 9, .inl (upd (upd (upd (upd (upd (upd (upd (upd (upd (fun _ => 0) 0 900) 1 900) 2 900) 3 900) 4 900) 5 900) 6 900) 7 900) 8 900))), (q1, .inl (cA2, 3, .inl (fun _ => 0))), (q3, .inl (cA4, 9, .inl (fun _ => 0))), (sp, .inl (csp, 9, .inl (fun _ => 0))), (br, .inl (cbr, 3, .inl (fun _ => 0))), (mo, .inr (19, [.int 0, .int 0, .int 0, .int 0, .int 0, .int 0, .int tu, .ref ti, .ref si, .ref lo, .ref lh, .ref lk, .ref sp, .ref st, .ref pa, .ref br, .ref sg, .int mi, .int 0, .int 0, .int 0, .int fo, .int 0, .long pe, .long pn, .long re, .long rn, .int th]))] H := hP
  have hD : va_D A [(st, .inl (cst, 9, .inl (upd (upd (upd (upd (upd (upd (upd (upd (upd (fun _ => 0) 0 900) 1 900) 2 900) 3 900) 4 900) 5 900) 6 900) 7 900) 8 900))), (q1, .inl (cA2, 3, .inl (fun _ => 0))), (q3, .inl (cA4, 9, .inl (fun _ => 0))), (sp, .inl (csp, 9, .inl (fun _ => 0))), (br, .inl (cbr, 3, .inl (fun _ => 0))), (mo, .inr (19, [.int 0, .int 0, .int 0, .int 0, .int 0, .int 0, .int tu, .ref ti, .ref si, .ref lo, .ref lh, .ref lk, .ref sp, .ref st, .ref pa, .ref br, .ref sg, .int mi, .int 0, .int 0, .int 0, .int fo, .int 0, .long pe, .long pn, .long re, .long rn, .int th]))] := hD
  have hK : va_K (dC, dI) vwCl [(csp, .int), (cst, .int), (cbr, .int), (cA2, .int), (cA4, .int)] s := hK
  obtain rfl : 0 = r11 := hw
  refine va_mabs hx hb (hml.trans hl.1.symm) hown (hts (.methodLink RX15 99 Lib.Math.abs.name) (by decide +kernel)) (hts (.static Lib.Math.abs.name) (by decide +kernel)) (hts (.initialized "java/lang/Math") (by decide +kernel)) (hts (.code Lib.Math.abs.name Lib.Math.abs.code 1 (some .int)) (by decide +kernel)) (Nat.le_of_ble_eq_true rfl) (Nat.le_of_ble_eq_true rfl) (Nat.le_of_ble_eq_true rfl) (Nat.le_of_ble_eq_true rfl) dX15_strain_24 ?_
  refine kc_i (y := 0) (by decide +kernel) ?_
  refine va_iast hx hb hK hP hD hS 2 4 rfl rfl (pk_in 6 9 (by decide) rfl) dX15_strain_27 (fun H locs hP hD hS => ?_)
  have hP : va_P (dC, dI) vwCl [(st, .inl (cst, 9, .inl (upd (upd (upd (upd (upd (upd (upd (upd (upd (fun _ => 0) 0 900) 1 900) 2 900) 3 900) 4 900) 5 900) 6 900) 7 900) 8 900))), (q1, .inl (cA2, 3, .inl (fun _ => 0))), (q3, .inl (cA4, 9, .inl (upd (fun _ => 0) 6 0))), (sp, .inl (csp, 9, .inl (fun _ => 0))), (br, .inl (cbr, 3, .inl (fun _ => 0))), (mo, .inr (19, [.int 0, .int 0, .int 0, .int 0, .int 0, .int 0, .int tu, .ref ti, .ref si, .ref lo, .ref lh, .ref lk, .ref sp, .ref st, .ref pa, .ref br, .ref sg, .int mi, .int 0, .int 0, .int 0, .int fo, .int 0, .long pe, .long pn, .long re, .long rn, .int th]))] H := hP
  have hD : va_D A [(st, .inl (cst, 9, .inl (upd (upd (upd (upd (upd (upd (upd (upd (upd (fun _ => 0) 0 900) 1 900) 2 900) 3 900) 4 900) 5 900) 6 900) 7 900) 8 900))), (q1, .inl (cA2, 3, .inl (fun _ => 0))), (q3, .inl (cA4, 9, .inl (upd (fun _ => 0) 6 0))), (sp, .inl (csp, 9, .inl (fun _ => 0))), (br, .inl (cbr, 3, .inl (fun _ => 0))), (mo, .inr (19, [.int 0, .int 0, .int 0, .int 0, .int 0, .int 0, .int tu, .ref ti, .ref si, .ref lo, .ref lh, .ref lk, .ref sp, .ref st, .ref pa, .ref br, .ref sg, .int mi, .int 0, .int 0, .int 0, .int fo, .int 0, .long pe, .long pn, .long re, .long rn, .int th]))] := hD
  rw [k_updsame (f := (fun _ => 0)) (i := 6) (x := 0) rfl] at hP hD
  refine lv_iinc (v := 7) (lv' := [(3, .int 7), (2, .ref q3), (1, .ref q1), (0, .ref mo)]) hx hb dX15_strain_28 hl (k := 0) rfl (by decide +kernel) (by decide) rfl (fun ls hl => ?_)
  refine lv_goto (tgt := 11) hx hb dX15_strain_31 (by decide) ?_
  refine lv_iload_n hx hb dX15_strain_11 rfl (lv_at hl 0 rfl) ?_
  refine lv_bipush (v := 9) hx hb dX15_strain_12 (by decide) ?_
  refine lv_icmp_ge (tgt := 34) hx hb dX15_strain_14 (by decide) (fun c_ => absurd c_ (by decide +kernel)) (fun _ => ?_)
  refine lv_aload_n hx hb dX15_strain_17 rfl (lv_at hl 1 rfl) ?_
  refine lv_iload_n hx hb dX15_strain_18 rfl (lv_at hl 0 rfl) ?_
  refine lv_aload_n hx hb dX15_strain_19 rfl (lv_at hl 3 rfl) ?_
  refine lv_iload_n hx hb dX15_strain_20 rfl (lv_at hl 0 rfl) ?_
  have hPc := hP.sub (ws' := [(mo, .inr (19, [.int 0, .int 0, .int 0, .int 0, .int 0, .int 0, .int tu, .ref ti, .ref si, .ref lo, .ref lh, .ref lk, .ref sp, .ref st, .ref pa, .ref br, .ref sg, .int mi, .int 0, .int 0, .int 0, .int fo, .int 0, .long pe, .long pn, .long re, .long rn, .int th])), (sp, .inl (csp, 9, .inl (fun _ => 0))), (br, .inl (cbr, 3, .inl (fun _ => 0)))]) [5, 3, 4] rfl
  have hDc := hD.sub (ws' := [(mo, .inr (19, [.int 0, .int 0, .int 0, .int 0, .int 0, .int 0, .int tu, .ref ti, .ref si, .ref lo, .ref lh, .ref lk, .ref sp, .ref st, .ref pa, .ref br, .ref sg, .int mi, .int 0, .int 0, .int 0, .int fo, .int 0, .long pe, .long pn, .long re, .long rn, .int th])), (sp, .inl (csp, 9, .inl (fun _ => 0))), (br, .inl (cbr, 3, .inl (fun _ => 0)))]) [5, 3, 4] (by decide) rfl
  have hKc := hK.sub (tys' := [(csp, .int), (cbr, .int)]) [0, 2] rfl
  have hFc := va_free (wc := [(mo, .inr (19, [.int 0, .int 0, .int 0, .int 0, .int 0, .int 0, .int tu, .ref ti, .ref si, .ref lo, .ref lh, .ref lk, .ref sp, .ref st, .ref pa, .ref br, .ref sg, .int mi, .int 0, .int 0, .int 0, .int fo, .int 0, .long pe, .long pn, .long re, .long rn, .int th])), (sp, .inl (csp, 9, .inl (fun _ => 0))), (br, .inl (cbr, 3, .inl (fun _ => 0)))]) hD hS hA [5, 3, 4] rfl
  refine va_calli (va_runV (As := [.int 7]) (rest := [.int 7, .ref q3]) ⟨hx, hb, hml, hown, hts⟩ (k_forceOf_7 l dC dI z zK zV mi fo pe pn re rn mo ti si lo lh lk sp st pa br sg csp cbr th tu H.size) (cwV 1 hts gX15_strain_X15_forceOf rfl rfl rfl (by decide +kernel) ⟨Nat.le_of_ble_eq_true rfl, Nat.le_of_ble_eq_true rfl⟩) ⟨kP_blind, va_recv hKc hPc (ci := 19) (q0 := 0) rfl rfl, kP_go hPc hKc hDc hFc hM hS⟩ rfl rfl hl.1 rfl (lv_room (Nat.le_of_ble_eq_true rfl)) dX15_strain_21 ⟨Nat.le_of_ble_eq_true rfl, Nat.le_of_ble_eq_true rfl⟩) hS (fun q _ h => hFc q h) hFc (fun r12 u t H1 locs ht hvm hw hB hz1 hk1 hS => ?_)
  obtain ⟨hP, hD, hK⟩ := kJ (wr := [(st, .inl (cst, 9, .inl (upd (upd (upd (upd (upd (upd (upd (upd (upd (fun _ => 0) 0 900) 1 900) 2 900) 3 900) 4 900) 5 900) 6 900) 7 900) 8 900))), (q1, .inl (cA2, 3, .inl (fun _ => 0))), (q3, .inl (cA4, 9, .inl (fun _ => 0)))]) (w1 := [(sp, .inl (csp, 9, .inl (fun _ => 0))), (br, .inl (cbr, 3, .inl (fun _ => 0))), (mo, .inr (19, [.int 0, .int 0, .int 0, .int 0, .int 0, .int 0, .int tu, .ref ti, .ref si, .ref lo, .ref lh, .ref lk, .ref sp, .ref st, .ref pa, .ref br, .ref sg, .int mi, .int 0, .int 0, .int 0, .int fo, .int 0, .long pe, .long pn, .long re, .long rn, .int th]))]) (t1 := []) hP hD hK [5, 3, 4] [0, 1, 2] rfl rfl (by decide) (by decide) hk1 hFc ht hvm hB
  generalize H1 = H at hP hS ⊢
  have hP : va_P (dC, dI) vwCl [(st, .inl (cst, 9, .inl (upd (upd (upd (upd (upd (upd (upd (upd (upd (fun _ => 0) 0 900) 1 900) 2 900) 3 900) 4 900) 5 900) 6 900) 7 900) 8 900))), (q1, .inl (cA2, 3, .inl (fun _ => 0))), (q3, .inl (cA4, 9, .inl (fun _ => 0))), (sp, .inl (csp, 9, .inl (fun _ => 0))), (br, .inl (cbr, 3, .inl (fun _ => 0))), (mo, .inr (19, [.int 0, .int 0, .int 0, .int 0, .int 0, .int 0, .int tu, .ref ti, .ref si, .ref lo, .ref lh, .ref lk, .ref sp, .ref st, .ref pa, .ref br, .ref sg, .int mi, .int 0, .int 0, .int 0, .int fo, .int 0, .long pe, .long pn, .long re, .long rn, .int th]))] H := hP
  have hD : va_D A [(st, .inl (cst, 9, .inl (upd (upd (upd (upd (upd (upd (upd (upd (upd (fun _ => 0) 0 900) 1 900) 2 900) 3 900) 4 900) 5 900) 6 900) 7 900) 8 900))), (q1, .inl (cA2, 3, .inl (fun _ => 0))), (q3, .inl (cA4, 9, .inl (fun _ => 0))), (sp, .inl (csp, 9, .inl (fun _ => 0))), (br, .inl (cbr, 3, .inl (fun _ => 0))), (mo, .inr (19, [.int 0, .int 0, .int 0, .int 0, .int 0, .int 0, .int tu, .ref ti, .ref si, .ref lo, .ref lh, .ref lk, .ref sp, .ref st, .ref pa, .ref br, .ref sg, .int mi, .int 0, .int 0, .int 0, .int fo, .int 0, .long pe, .long pn, .long re, .long rn, .int th]))] := hD
  have hK : va_K (dC, dI) vwCl [(csp, .int), (cst, .int), (cbr, .int), (cA2, .int), (cA4, .int)] s := hK
  obtain rfl : 0 = r12 := hw
  refine va_mabs hx hb (hml.trans hl.1.symm) hown (hts (.methodLink RX15 99 Lib.Math.abs.name) (by decide +kernel)) (hts (.static Lib.Math.abs.name) (by decide +kernel)) (hts (.initialized "java/lang/Math") (by decide +kernel)) (hts (.code Lib.Math.abs.name Lib.Math.abs.code 1 (some .int)) (by decide +kernel)) (Nat.le_of_ble_eq_true rfl) (Nat.le_of_ble_eq_true rfl) (Nat.le_of_ble_eq_true rfl) (Nat.le_of_ble_eq_true rfl) dX15_strain_24 ?_
  refine kc_i (y := 0) (by decide +kernel) ?_
  refine va_iast hx hb hK hP hD hS 2 4 rfl rfl (pk_in 7 9 (by decide) rfl) dX15_strain_27 (fun H locs hP hD hS => ?_)
  have hP : va_P (dC, dI) vwCl [(st, .inl (cst, 9, .inl (upd (upd (upd (upd (upd (upd (upd (upd (upd (fun _ => 0) 0 900) 1 900) 2 900) 3 900) 4 900) 5 900) 6 900) 7 900) 8 900))), (q1, .inl (cA2, 3, .inl (fun _ => 0))), (q3, .inl (cA4, 9, .inl (upd (fun _ => 0) 7 0))), (sp, .inl (csp, 9, .inl (fun _ => 0))), (br, .inl (cbr, 3, .inl (fun _ => 0))), (mo, .inr (19, [.int 0, .int 0, .int 0, .int 0, .int 0, .int 0, .int tu, .ref ti, .ref si, .ref lo, .ref lh, .ref lk, .ref sp, .ref st, .ref pa, .ref br, .ref sg, .int mi, .int 0, .int 0, .int 0, .int fo, .int 0, .long pe, .long pn, .long re, .long rn, .int th]))] H := hP
  have hD : va_D A [(st, .inl (cst, 9, .inl (upd (upd (upd (upd (upd (upd (upd (upd (upd (fun _ => 0) 0 900) 1 900) 2 900) 3 900) 4 900) 5 900) 6 900) 7 900) 8 900))), (q1, .inl (cA2, 3, .inl (fun _ => 0))), (q3, .inl (cA4, 9, .inl (upd (fun _ => 0) 7 0))), (sp, .inl (csp, 9, .inl (fun _ => 0))), (br, .inl (cbr, 3, .inl (fun _ => 0))), (mo, .inr (19, [.int 0, .int 0, .int 0, .int 0, .int 0, .int 0, .int tu, .ref ti, .ref si, .ref lo, .ref lh, .ref lk, .ref sp, .ref st, .ref pa, .ref br, .ref sg, .int mi, .int 0, .int 0, .int 0, .int fo, .int 0, .long pe, .long pn, .long re, .long rn, .int th]))] := hD
  rw [k_updsame (f := (fun _ => 0)) (i := 7) (x := 0) rfl] at hP hD
  refine lv_iinc (v := 8) (lv' := [(3, .int 8), (2, .ref q3), (1, .ref q1), (0, .ref mo)]) hx hb dX15_strain_28 hl (k := 0) rfl (by decide +kernel) (by decide) rfl (fun ls hl => ?_)
  refine lv_goto (tgt := 11) hx hb dX15_strain_31 (by decide) ?_
  refine lv_iload_n hx hb dX15_strain_11 rfl (lv_at hl 0 rfl) ?_
  refine lv_bipush (v := 9) hx hb dX15_strain_12 (by decide) ?_
  refine lv_icmp_ge (tgt := 34) hx hb dX15_strain_14 (by decide) (fun c_ => absurd c_ (by decide +kernel)) (fun _ => ?_)
  refine lv_aload_n hx hb dX15_strain_17 rfl (lv_at hl 1 rfl) ?_
  refine lv_iload_n hx hb dX15_strain_18 rfl (lv_at hl 0 rfl) ?_
  refine lv_aload_n hx hb dX15_strain_19 rfl (lv_at hl 3 rfl) ?_
  refine lv_iload_n hx hb dX15_strain_20 rfl (lv_at hl 0 rfl) ?_
  have hPc := hP.sub (ws' := [(mo, .inr (19, [.int 0, .int 0, .int 0, .int 0, .int 0, .int 0, .int tu, .ref ti, .ref si, .ref lo, .ref lh, .ref lk, .ref sp, .ref st, .ref pa, .ref br, .ref sg, .int mi, .int 0, .int 0, .int 0, .int fo, .int 0, .long pe, .long pn, .long re, .long rn, .int th])), (sp, .inl (csp, 9, .inl (fun _ => 0))), (br, .inl (cbr, 3, .inl (fun _ => 0)))]) [5, 3, 4] rfl
  have hDc := hD.sub (ws' := [(mo, .inr (19, [.int 0, .int 0, .int 0, .int 0, .int 0, .int 0, .int tu, .ref ti, .ref si, .ref lo, .ref lh, .ref lk, .ref sp, .ref st, .ref pa, .ref br, .ref sg, .int mi, .int 0, .int 0, .int 0, .int fo, .int 0, .long pe, .long pn, .long re, .long rn, .int th])), (sp, .inl (csp, 9, .inl (fun _ => 0))), (br, .inl (cbr, 3, .inl (fun _ => 0)))]) [5, 3, 4] (by decide) rfl
  have hKc := hK.sub (tys' := [(csp, .int), (cbr, .int)]) [0, 2] rfl
  have hFc := va_free (wc := [(mo, .inr (19, [.int 0, .int 0, .int 0, .int 0, .int 0, .int 0, .int tu, .ref ti, .ref si, .ref lo, .ref lh, .ref lk, .ref sp, .ref st, .ref pa, .ref br, .ref sg, .int mi, .int 0, .int 0, .int 0, .int fo, .int 0, .long pe, .long pn, .long re, .long rn, .int th])), (sp, .inl (csp, 9, .inl (fun _ => 0))), (br, .inl (cbr, 3, .inl (fun _ => 0)))]) hD hS hA [5, 3, 4] rfl
  refine va_calli (va_runV (As := [.int 8]) (rest := [.int 8, .ref q3]) ⟨hx, hb, hml, hown, hts⟩ (k_forceOf_8 l dC dI z zK zV mi fo pe pn re rn mo ti si lo lh lk sp st pa br sg csp cbr th tu H.size) (cwV 1 hts gX15_strain_X15_forceOf rfl rfl rfl (by decide +kernel) ⟨Nat.le_of_ble_eq_true rfl, Nat.le_of_ble_eq_true rfl⟩) ⟨kP_blind, va_recv hKc hPc (ci := 19) (q0 := 0) rfl rfl, kP_go hPc hKc hDc hFc hM hS⟩ rfl rfl hl.1 rfl (lv_room (Nat.le_of_ble_eq_true rfl)) dX15_strain_21 ⟨Nat.le_of_ble_eq_true rfl, Nat.le_of_ble_eq_true rfl⟩) hS (fun q _ h => hFc q h) hFc (fun r13 u t H1 locs ht hvm hw hB hz1 hk1 hS => ?_)
  obtain ⟨hP, hD, hK⟩ := kJ (wr := [(st, .inl (cst, 9, .inl (upd (upd (upd (upd (upd (upd (upd (upd (upd (fun _ => 0) 0 900) 1 900) 2 900) 3 900) 4 900) 5 900) 6 900) 7 900) 8 900))), (q1, .inl (cA2, 3, .inl (fun _ => 0))), (q3, .inl (cA4, 9, .inl (fun _ => 0)))]) (w1 := [(sp, .inl (csp, 9, .inl (fun _ => 0))), (br, .inl (cbr, 3, .inl (fun _ => 0))), (mo, .inr (19, [.int 0, .int 0, .int 0, .int 0, .int 0, .int 0, .int tu, .ref ti, .ref si, .ref lo, .ref lh, .ref lk, .ref sp, .ref st, .ref pa, .ref br, .ref sg, .int mi, .int 0, .int 0, .int 0, .int fo, .int 0, .long pe, .long pn, .long re, .long rn, .int th]))]) (t1 := []) hP hD hK [5, 3, 4] [0, 1, 2] rfl rfl (by decide) (by decide) hk1 hFc ht hvm hB
  generalize H1 = H at hP hS ⊢
  have hP : va_P (dC, dI) vwCl [(st, .inl (cst, 9, .inl (upd (upd (upd (upd (upd (upd (upd (upd (upd (fun _ => 0) 0 900) 1 900) 2 900) 3 900) 4 900) 5 900) 6 900) 7 900) 8 900))), (q1, .inl (cA2, 3, .inl (fun _ => 0))), (q3, .inl (cA4, 9, .inl (fun _ => 0))), (sp, .inl (csp, 9, .inl (fun _ => 0))), (br, .inl (cbr, 3, .inl (fun _ => 0))), (mo, .inr (19, [.int 0, .int 0, .int 0, .int 0, .int 0, .int 0, .int tu, .ref ti, .ref si, .ref lo, .ref lh, .ref lk, .ref sp, .ref st, .ref pa, .ref br, .ref sg, .int mi, .int 0, .int 0, .int 0, .int fo, .int 0, .long pe, .long pn, .long re, .long rn, .int th]))] H := hP
  have hD : va_D A [(st, .inl (cst, 9, .inl (upd (upd (upd (upd (upd (upd (upd (upd (upd (fun _ => 0) 0 900) 1 900) 2 900) 3 900) 4 900) 5 900) 6 900) 7 900) 8 900))), (q1, .inl (cA2, 3, .inl (fun _ => 0))), (q3, .inl (cA4, 9, .inl (fun _ => 0))), (sp, .inl (csp, 9, .inl (fun _ => 0))), (br, .inl (cbr, 3, .inl (fun _ => 0))), (mo, .inr (19, [.int 0, .int 0, .int 0, .int 0, .int 0, .int 0, .int tu, .ref ti, .ref si, .ref lo, .ref lh, .ref lk, .ref sp, .ref st, .ref pa, .ref br, .ref sg, .int mi, .int 0, .int 0, .int 0, .int fo, .int 0, .long pe, .long pn, .long re, .long rn, .int th]))] := hD
  have hK : va_K (dC, dI) vwCl [(csp, .int), (cst, .int), (cbr, .int), (cA2, .int), (cA4, .int)] s := hK
  obtain rfl : 0 = r13 := hw
  refine va_mabs hx hb (hml.trans hl.1.symm) hown (hts (.methodLink RX15 99 Lib.Math.abs.name) (by decide +kernel)) (hts (.static Lib.Math.abs.name) (by decide +kernel)) (hts (.initialized "java/lang/Math") (by decide +kernel)) (hts (.code Lib.Math.abs.name Lib.Math.abs.code 1 (some .int)) (by decide +kernel)) (Nat.le_of_ble_eq_true rfl) (Nat.le_of_ble_eq_true rfl) (Nat.le_of_ble_eq_true rfl) (Nat.le_of_ble_eq_true rfl) dX15_strain_24 ?_
  refine kc_i (y := 0) (by decide +kernel) ?_
  refine va_iast hx hb hK hP hD hS 2 4 rfl rfl (pk_in 8 9 (by decide) rfl) dX15_strain_27 (fun H locs hP hD hS => ?_)
  have hP : va_P (dC, dI) vwCl [(st, .inl (cst, 9, .inl (upd (upd (upd (upd (upd (upd (upd (upd (upd (fun _ => 0) 0 900) 1 900) 2 900) 3 900) 4 900) 5 900) 6 900) 7 900) 8 900))), (q1, .inl (cA2, 3, .inl (fun _ => 0))), (q3, .inl (cA4, 9, .inl (upd (fun _ => 0) 8 0))), (sp, .inl (csp, 9, .inl (fun _ => 0))), (br, .inl (cbr, 3, .inl (fun _ => 0))), (mo, .inr (19, [.int 0, .int 0, .int 0, .int 0, .int 0, .int 0, .int tu, .ref ti, .ref si, .ref lo, .ref lh, .ref lk, .ref sp, .ref st, .ref pa, .ref br, .ref sg, .int mi, .int 0, .int 0, .int 0, .int fo, .int 0, .long pe, .long pn, .long re, .long rn, .int th]))] H := hP
  have hD : va_D A [(st, .inl (cst, 9, .inl (upd (upd (upd (upd (upd (upd (upd (upd (upd (fun _ => 0) 0 900) 1 900) 2 900) 3 900) 4 900) 5 900) 6 900) 7 900) 8 900))), (q1, .inl (cA2, 3, .inl (fun _ => 0))), (q3, .inl (cA4, 9, .inl (upd (fun _ => 0) 8 0))), (sp, .inl (csp, 9, .inl (fun _ => 0))), (br, .inl (cbr, 3, .inl (fun _ => 0))), (mo, .inr (19, [.int 0, .int 0, .int 0, .int 0, .int 0, .int 0, .int tu, .ref ti, .ref si, .ref lo, .ref lh, .ref lk, .ref sp, .ref st, .ref pa, .ref br, .ref sg, .int mi, .int 0, .int 0, .int 0, .int fo, .int 0, .long pe, .long pn, .long re, .long rn, .int th]))] := hD
  rw [k_updsame (f := (fun _ => 0)) (i := 8) (x := 0) rfl] at hP hD
  refine lv_iinc (v := 9) (lv' := [(3, .int 9), (2, .ref q3), (1, .ref q1), (0, .ref mo)]) hx hb dX15_strain_28 hl (k := 0) rfl (by decide +kernel) (by decide) rfl (fun ls hl => ?_)
  refine lv_goto (tgt := 11) hx hb dX15_strain_31 (by decide) ?_
  refine lv_iload_n hx hb dX15_strain_11 rfl (lv_at hl 0 rfl) ?_
  refine lv_bipush (v := 9) hx hb dX15_strain_12 (by decide) ?_
  refine lv_icmp_ge (tgt := 34) hx hb dX15_strain_14 (by decide) (fun _ => ?_) (fun c_ => absurd (by decide +kernel) c_)
  refine lv_iconst (v := 0) hx hb dX15_strain_34 (by decide) ?_
  refine lv_istore_n (lv' := [(3, .int 0), (2, .ref q3), (1, .ref q1), (0, .ref mo)]) hx hb dX15_strain_35 rfl hl (by decide) rfl (fun ls hl => ?_)
  refine lv_iload_n hx hb dX15_strain_36 rfl (lv_at hl 0 rfl) ?_
  refine lv_bipush (v := 9) hx hb dX15_strain_37 (by decide) ?_
  refine lv_icmp_ge (tgt := 123) hx hb dX15_strain_39 (by decide) (fun c_ => absurd c_ (by decide +kernel)) (fun _ => ?_)
  refine lv_aload_n hx hb dX15_strain_42 rfl (lv_at hl 1 rfl) ?_
  refine lv_iload_n hx hb dX15_strain_43 rfl (lv_at hl 0 rfl) ?_
  refine va_iald hx hb hK hP 2 4 rfl rfl (pk_in 0 9 (by decide) rfl) dX15_strain_44 ?_
  refine kc_v (y := .int 0) rfl ?_
  refine lv_aload_n hx hb dX15_strain_45 rfl (lv_at hl 3 rfl) ?_
  refine va_get (D := (dC, dI)) (ci := 19) (v := .ref st) (C := RX15) (T := TX15) (N := 28) hx hb hts hiX15 hown hK hP 5 rfl rfl 13 (by decide) (hts (.fieldLink RX15 32 "SquareRigModel" "strength" "[I") (by decide +kernel)) (fun _ h9 => h9) rfl dX15_strain_46 ?_
  refine lv_iload_n hx hb dX15_strain_49 rfl (lv_at hl 0 rfl) ?_
  refine va_iald hx hb hK hP 0 1 rfl rfl (pk_in 0 9 (by decide) rfl) dX15_strain_50 ?_
  refine kc_v (y := .int 900) rfl ?_
  refine lv_icmp_le (tgt := 77) hx hb dX15_strain_51 (by decide) (fun _ => ?_) (fun c_ => absurd (by decide +kernel) c_)
  refine lv_aload_n hx hb dX15_strain_77 rfl (lv_at hl 3 rfl) ?_
  refine va_get (D := (dC, dI)) (ci := 19) (v := .ref st) (C := RX15) (T := TX15) (N := 28) hx hb hts hiX15 hown hK hP 5 rfl rfl 13 (by decide) (hts (.fieldLink RX15 32 "SquareRigModel" "strength" "[I") (by decide +kernel)) (fun _ h9 => h9) rfl dX15_strain_78 ?_
  refine lv_iload_n hx hb dX15_strain_81 rfl (lv_at hl 0 rfl) ?_
  refine lv_dup2_11 hx hb dX15_strain_82 rfl rfl ?_
  refine va_iald hx hb hK hP 0 1 rfl rfl (pk_in 0 9 (by decide) rfl) dX15_strain_83 ?_
  refine kc_v (y := .int 900) rfl ?_
  refine lv_iconst (v := 2) hx hb dX15_strain_84 (by decide) ?_
  refine lv_aload_n hx hb dX15_strain_85 rfl (lv_at hl 1 rfl) ?_
  refine lv_iload_n hx hb dX15_strain_86 rfl (lv_at hl 0 rfl) ?_
  refine va_iald hx hb hK hP 2 4 rfl rfl (pk_in 0 9 (by decide) rfl) dX15_strain_87 ?_
  refine kc_v (y := .int 0) rfl ?_
  refine lv_imul hx hb dX15_strain_88 ?_
  refine kc_i (y := 0) (by decide +kernel) ?_
  refine lv_aload_n hx hb dX15_strain_89 rfl (lv_at hl 3 rfl) ?_
  refine va_get (D := (dC, dI)) (ci := 19) (v := .ref st) (C := RX15) (T := TX15) (N := 28) hx hb hts hiX15 hown hK hP 5 rfl rfl 13 (by decide) (hts (.fieldLink RX15 32 "SquareRigModel" "strength" "[I") (by decide +kernel)) (fun _ h9 => h9) rfl dX15_strain_90 ?_
  refine lv_iload_n hx hb dX15_strain_93 rfl (lv_at hl 0 rfl) ?_
  refine va_iald hx hb hK hP 0 1 rfl rfl (pk_in 0 9 (by decide) rfl) dX15_strain_94 ?_
  refine kc_v (y := .int 900) rfl ?_
  refine lv_icmp_le (tgt := 102) hx hb dX15_strain_95 (by decide) (fun _ => ?_) (fun c_ => absurd (by decide +kernel) c_)
  refine lv_iconst (v := 0) hx hb dX15_strain_102 (by decide) ?_
  refine lv_isub hx hb dX15_strain_103 ?_
  refine kc_i (y := 900) (by decide +kernel) ?_
  refine va_iast hx hb hK hP hD hS 0 1 rfl rfl (pk_in 0 9 (by decide) rfl) dX15_strain_104 (fun H locs hP hD hS => ?_)
  have hP : va_P (dC, dI) vwCl [(st, .inl (cst, 9, .inl (upd (upd (upd (upd (upd (upd (upd (upd (upd (upd (fun _ => 0) 0 900) 1 900) 2 900) 3 900) 4 900) 5 900) 6 900) 7 900) 8 900) 0 900))), (q1, .inl (cA2, 3, .inl (fun _ => 0))), (q3, .inl (cA4, 9, .inl (fun _ => 0))), (sp, .inl (csp, 9, .inl (fun _ => 0))), (br, .inl (cbr, 3, .inl (fun _ => 0))), (mo, .inr (19, [.int 0, .int 0, .int 0, .int 0, .int 0, .int 0, .int tu, .ref ti, .ref si, .ref lo, .ref lh, .ref lk, .ref sp, .ref st, .ref pa, .ref br, .ref sg, .int mi, .int 0, .int 0, .int 0, .int fo, .int 0, .long pe, .long pn, .long re, .long rn, .int th]))] H := hP
  have hD : va_D A [(st, .inl (cst, 9, .inl (upd (upd (upd (upd (upd (upd (upd (upd (upd (upd (fun _ => 0) 0 900) 1 900) 2 900) 3 900) 4 900) 5 900) 6 900) 7 900) 8 900) 0 900))), (q1, .inl (cA2, 3, .inl (fun _ => 0))), (q3, .inl (cA4, 9, .inl (fun _ => 0))), (sp, .inl (csp, 9, .inl (fun _ => 0))), (br, .inl (cbr, 3, .inl (fun _ => 0))), (mo, .inr (19, [.int 0, .int 0, .int 0, .int 0, .int 0, .int 0, .int tu, .ref ti, .ref si, .ref lo, .ref lh, .ref lk, .ref sp, .ref st, .ref pa, .ref br, .ref sg, .int mi, .int 0, .int 0, .int 0, .int fo, .int 0, .long pe, .long pn, .long re, .long rn, .int th]))] := hD
  rw [k_updsame (f := (upd (upd (upd (upd (upd (upd (upd (upd (upd (fun _ => 0) 0 900) 1 900) 2 900) 3 900) 4 900) 5 900) 6 900) 7 900) 8 900)) (i := 0) (x := 900) rfl] at hP hD
  refine lv_aload_n hx hb dX15_strain_105 rfl (lv_at hl 2 rfl) ?_
  refine lv_iload_n hx hb dX15_strain_106 rfl (lv_at hl 0 rfl) ?_
  have hPc := hP.sub (ws' := []) [] rfl
  have hDc := hD.sub (ws' := []) [] (by decide) rfl
  have hKc := hK.sub (tys' := []) [] rfl
  have hFc := va_free (wc := []) hD hS hA [] rfl
  refine va_calli (va_runS (As := [.int 0]) (rest := [.ref q1]) ⟨hx, hb, hml, hown, hts⟩ (k_mast_0 l dC dI z zK zV  H.size) (va_cwS 1 hts gX15_strain_X15_mast rfl rfl rfl (by decide +kernel) ⟨Nat.le_of_ble_eq_true rfl, Nat.le_of_ble_eq_true rfl⟩) ⟨kP_blind, kP_go hPc hKc hDc hFc hM hS⟩ rfl rfl hl.1 rfl (lv_room (Nat.le_of_ble_eq_true rfl)) dX15_strain_107 ⟨Nat.le_of_ble_eq_true rfl, Nat.le_of_ble_eq_true rfl⟩) hS (fun q _ h => hFc q h) hFc (fun r14 u t H1 locs ht hvm hw hB hz1 hk1 hS => ?_)
  obtain ⟨hP, hD, hK⟩ := kJ (wr := [(st, .inl (cst, 9, .inl (upd (upd (upd (upd (upd (upd (upd (upd (upd (fun _ => 0) 0 900) 1 900) 2 900) 3 900) 4 900) 5 900) 6 900) 7 900) 8 900))), (q1, .inl (cA2, 3, .inl (fun _ => 0))), (q3, .inl (cA4, 9, .inl (fun _ => 0))), (sp, .inl (csp, 9, .inl (fun _ => 0))), (br, .inl (cbr, 3, .inl (fun _ => 0))), (mo, .inr (19, [.int 0, .int 0, .int 0, .int 0, .int 0, .int 0, .int tu, .ref ti, .ref si, .ref lo, .ref lh, .ref lk, .ref sp, .ref st, .ref pa, .ref br, .ref sg, .int mi, .int 0, .int 0, .int 0, .int fo, .int 0, .long pe, .long pn, .long re, .long rn, .int th]))]) (w1 := []) (t1 := []) hP hD hK [] [0, 1, 2, 3, 4, 5] rfl rfl (by decide) (by decide) hk1 hFc ht hvm hB
  generalize H1 = H at hP hS ⊢
  have hP : va_P (dC, dI) vwCl [(st, .inl (cst, 9, .inl (upd (upd (upd (upd (upd (upd (upd (upd (upd (fun _ => 0) 0 900) 1 900) 2 900) 3 900) 4 900) 5 900) 6 900) 7 900) 8 900))), (q1, .inl (cA2, 3, .inl (fun _ => 0))), (q3, .inl (cA4, 9, .inl (fun _ => 0))), (sp, .inl (csp, 9, .inl (fun _ => 0))), (br, .inl (cbr, 3, .inl (fun _ => 0))), (mo, .inr (19, [.int 0, .int 0, .int 0, .int 0, .int 0, .int 0, .int tu, .ref ti, .ref si, .ref lo, .ref lh, .ref lk, .ref sp, .ref st, .ref pa, .ref br, .ref sg, .int mi, .int 0, .int 0, .int 0, .int fo, .int 0, .long pe, .long pn, .long re, .long rn, .int th]))] H := hP
  have hD : va_D A [(st, .inl (cst, 9, .inl (upd (upd (upd (upd (upd (upd (upd (upd (upd (fun _ => 0) 0 900) 1 900) 2 900) 3 900) 4 900) 5 900) 6 900) 7 900) 8 900))), (q1, .inl (cA2, 3, .inl (fun _ => 0))), (q3, .inl (cA4, 9, .inl (fun _ => 0))), (sp, .inl (csp, 9, .inl (fun _ => 0))), (br, .inl (cbr, 3, .inl (fun _ => 0))), (mo, .inr (19, [.int 0, .int 0, .int 0, .int 0, .int 0, .int 0, .int tu, .ref ti, .ref si, .ref lo, .ref lh, .ref lk, .ref sp, .ref st, .ref pa, .ref br, .ref sg, .int mi, .int 0, .int 0, .int 0, .int fo, .int 0, .long pe, .long pn, .long re, .long rn, .int th]))] := hD
  have hK : va_K (dC, dI) vwCl [(csp, .int), (cst, .int), (cbr, .int), (cA2, .int), (cA4, .int)] s := hK
  obtain rfl : 0 = r14 := hw
  refine lv_dup2_11 hx hb dX15_strain_110 rfl rfl ?_
  refine va_iald hx hb hK hP 1 3 rfl rfl (pk_in 0 3 (by decide) rfl) dX15_strain_111 ?_
  refine kc_v (y := .int 0) rfl ?_
  refine lv_aload_n hx hb dX15_strain_112 rfl (lv_at hl 1 rfl) ?_
  refine lv_iload_n hx hb dX15_strain_113 rfl (lv_at hl 0 rfl) ?_
  refine va_iald hx hb hK hP 2 4 rfl rfl (pk_in 0 9 (by decide) rfl) dX15_strain_114 ?_
  refine kc_v (y := .int 0) rfl ?_
  refine lv_iadd hx hb dX15_strain_115 ?_
  refine kc_i (y := 0) (by decide +kernel) ?_
  refine va_iast hx hb hK hP hD hS 1 3 rfl rfl (pk_in 0 3 (by decide) rfl) dX15_strain_116 (fun H locs hP hD hS => ?_)
  have hP : va_P (dC, dI) vwCl [(st, .inl (cst, 9, .inl (upd (upd (upd (upd (upd (upd (upd (upd (upd (fun _ => 0) 0 900) 1 900) 2 900) 3 900) 4 900) 5 900) 6 900) 7 900) 8 900))), (q1, .inl (cA2, 3, .inl (upd (fun _ => 0) 0 0))), (q3, .inl (cA4, 9, .inl (fun _ => 0))), (sp, .inl (csp, 9, .inl (fun _ => 0))), (br, .inl (cbr, 3, .inl (fun _ => 0))), (mo, .inr (19, [.int 0, .int 0, .int 0, .int 0, .int 0, .int 0, .int tu, .ref ti, .ref si, .ref lo, .ref lh, .ref lk, .ref sp, .ref st, .ref pa, .ref br, .ref sg, .int mi, .int 0, .int 0, .int 0, .int fo, .int 0, .long pe, .long pn, .long re, .long rn, .int th]))] H := hP
  have hD : va_D A [(st, .inl (cst, 9, .inl (upd (upd (upd (upd (upd (upd (upd (upd (upd (fun _ => 0) 0 900) 1 900) 2 900) 3 900) 4 900) 5 900) 6 900) 7 900) 8 900))), (q1, .inl (cA2, 3, .inl (upd (fun _ => 0) 0 0))), (q3, .inl (cA4, 9, .inl (fun _ => 0))), (sp, .inl (csp, 9, .inl (fun _ => 0))), (br, .inl (cbr, 3, .inl (fun _ => 0))), (mo, .inr (19, [.int 0, .int 0, .int 0, .int 0, .int 0, .int 0, .int tu, .ref ti, .ref si, .ref lo, .ref lh, .ref lk, .ref sp, .ref st, .ref pa, .ref br, .ref sg, .int mi, .int 0, .int 0, .int 0, .int fo, .int 0, .long pe, .long pn, .long re, .long rn, .int th]))] := hD
  rw [k_updsame (f := (fun _ => 0)) (i := 0) (x := 0) rfl] at hP hD
  refine lv_iinc (v := 1) (lv' := [(3, .int 1), (2, .ref q3), (1, .ref q1), (0, .ref mo)]) hx hb dX15_strain_117 hl (k := 0) rfl (by decide +kernel) (by decide) rfl (fun ls hl => ?_)
  refine lv_goto (tgt := 36) hx hb dX15_strain_120 (by decide) ?_
  refine lv_iload_n hx hb dX15_strain_36 rfl (lv_at hl 0 rfl) ?_
  refine lv_bipush (v := 9) hx hb dX15_strain_37 (by decide) ?_
  refine lv_icmp_ge (tgt := 123) hx hb dX15_strain_39 (by decide) (fun c_ => absurd c_ (by decide +kernel)) (fun _ => ?_)
  refine lv_aload_n hx hb dX15_strain_42 rfl (lv_at hl 1 rfl) ?_
  refine lv_iload_n hx hb dX15_strain_43 rfl (lv_at hl 0 rfl) ?_
  refine va_iald hx hb hK hP 2 4 rfl rfl (pk_in 1 9 (by decide) rfl) dX15_strain_44 ?_
  refine kc_v (y := .int 0) rfl ?_
  refine lv_aload_n hx hb dX15_strain_45 rfl (lv_at hl 3 rfl) ?_
  refine va_get (D := (dC, dI)) (ci := 19) (v := .ref st) (C := RX15) (T := TX15) (N := 28) hx hb hts hiX15 hown hK hP 5 rfl rfl 13 (by decide) (hts (.fieldLink RX15 32 "SquareRigModel" "strength" "[I") (by decide +kernel)) (fun _ h9 => h9) rfl dX15_strain_46 ?_
  refine lv_iload_n hx hb dX15_strain_49 rfl (lv_at hl 0 rfl) ?_
  refine va_iald hx hb hK hP 0 1 rfl rfl (pk_in 1 9 (by decide) rfl) dX15_strain_50 ?_
  refine kc_v (y := .int 900) rfl ?_
  refine lv_icmp_le (tgt := 77) hx hb dX15_strain_51 (by decide) (fun _ => ?_) (fun c_ => absurd (by decide +kernel) c_)
  refine lv_aload_n hx hb dX15_strain_77 rfl (lv_at hl 3 rfl) ?_
  refine va_get (D := (dC, dI)) (ci := 19) (v := .ref st) (C := RX15) (T := TX15) (N := 28) hx hb hts hiX15 hown hK hP 5 rfl rfl 13 (by decide) (hts (.fieldLink RX15 32 "SquareRigModel" "strength" "[I") (by decide +kernel)) (fun _ h9 => h9) rfl dX15_strain_78 ?_
  refine lv_iload_n hx hb dX15_strain_81 rfl (lv_at hl 0 rfl) ?_
  refine lv_dup2_11 hx hb dX15_strain_82 rfl rfl ?_
  refine va_iald hx hb hK hP 0 1 rfl rfl (pk_in 1 9 (by decide) rfl) dX15_strain_83 ?_
  refine kc_v (y := .int 900) rfl ?_
  refine lv_iconst (v := 2) hx hb dX15_strain_84 (by decide) ?_
  refine lv_aload_n hx hb dX15_strain_85 rfl (lv_at hl 1 rfl) ?_
  refine lv_iload_n hx hb dX15_strain_86 rfl (lv_at hl 0 rfl) ?_
  refine va_iald hx hb hK hP 2 4 rfl rfl (pk_in 1 9 (by decide) rfl) dX15_strain_87 ?_
  refine kc_v (y := .int 0) rfl ?_
  refine lv_imul hx hb dX15_strain_88 ?_
  refine kc_i (y := 0) (by decide +kernel) ?_
  refine lv_aload_n hx hb dX15_strain_89 rfl (lv_at hl 3 rfl) ?_
  refine va_get (D := (dC, dI)) (ci := 19) (v := .ref st) (C := RX15) (T := TX15) (N := 28) hx hb hts hiX15 hown hK hP 5 rfl rfl 13 (by decide) (hts (.fieldLink RX15 32 "SquareRigModel" "strength" "[I") (by decide +kernel)) (fun _ h9 => h9) rfl dX15_strain_90 ?_
  refine lv_iload_n hx hb dX15_strain_93 rfl (lv_at hl 0 rfl) ?_
  refine va_iald hx hb hK hP 0 1 rfl rfl (pk_in 1 9 (by decide) rfl) dX15_strain_94 ?_
  refine kc_v (y := .int 900) rfl ?_
  refine lv_icmp_le (tgt := 102) hx hb dX15_strain_95 (by decide) (fun _ => ?_) (fun c_ => absurd (by decide +kernel) c_)
  refine lv_iconst (v := 0) hx hb dX15_strain_102 (by decide) ?_
  refine lv_isub hx hb dX15_strain_103 ?_
  refine kc_i (y := 900) (by decide +kernel) ?_
  refine va_iast hx hb hK hP hD hS 0 1 rfl rfl (pk_in 1 9 (by decide) rfl) dX15_strain_104 (fun H locs hP hD hS => ?_)
  have hP : va_P (dC, dI) vwCl [(st, .inl (cst, 9, .inl (upd (upd (upd (upd (upd (upd (upd (upd (upd (upd (fun _ => 0) 0 900) 1 900) 2 900) 3 900) 4 900) 5 900) 6 900) 7 900) 8 900) 1 900))), (q1, .inl (cA2, 3, .inl (fun _ => 0))), (q3, .inl (cA4, 9, .inl (fun _ => 0))), (sp, .inl (csp, 9, .inl (fun _ => 0))), (br, .inl (cbr, 3, .inl (fun _ => 0))), (mo, .inr (19, [.int 0, .int 0, .int 0, .int 0, .int 0, .int 0, .int tu, .ref ti, .ref si, .ref lo, .ref lh, .ref lk, .ref sp, .ref st, .ref pa, .ref br, .ref sg, .int mi, .int 0, .int 0, .int 0, .int fo, .int 0, .long pe, .long pn, .long re, .long rn, .int th]))] H := hP
  have hD : va_D A [(st, .inl (cst, 9, .inl (upd (upd (upd (upd (upd (upd (upd (upd (upd (upd (fun _ => 0) 0 900) 1 900) 2 900) 3 900) 4 900) 5 900) 6 900) 7 900) 8 900) 1 900))), (q1, .inl (cA2, 3, .inl (fun _ => 0))), (q3, .inl (cA4, 9, .inl (fun _ => 0))), (sp, .inl (csp, 9, .inl (fun _ => 0))), (br, .inl (cbr, 3, .inl (fun _ => 0))), (mo, .inr (19, [.int 0, .int 0, .int 0, .int 0, .int 0, .int 0, .int tu, .ref ti, .ref si, .ref lo, .ref lh, .ref lk, .ref sp, .ref st, .ref pa, .ref br, .ref sg, .int mi, .int 0, .int 0, .int 0, .int fo, .int 0, .long pe, .long pn, .long re, .long rn, .int th]))] := hD
  rw [k_updsame (f := (upd (upd (upd (upd (upd (upd (upd (upd (upd (fun _ => 0) 0 900) 1 900) 2 900) 3 900) 4 900) 5 900) 6 900) 7 900) 8 900)) (i := 1) (x := 900) rfl] at hP hD
  refine lv_aload_n hx hb dX15_strain_105 rfl (lv_at hl 2 rfl) ?_
  refine lv_iload_n hx hb dX15_strain_106 rfl (lv_at hl 0 rfl) ?_
  have hPc := hP.sub (ws' := []) [] rfl
  have hDc := hD.sub (ws' := []) [] (by decide) rfl
  have hKc := hK.sub (tys' := []) [] rfl
  have hFc := va_free (wc := []) hD hS hA [] rfl
  refine va_calli (va_runS (As := [.int 1]) (rest := [.ref q1]) ⟨hx, hb, hml, hown, hts⟩ (k_mast_1 l dC dI z zK zV  H.size) (va_cwS 1 hts gX15_strain_X15_mast rfl rfl rfl (by decide +kernel) ⟨Nat.le_of_ble_eq_true rfl, Nat.le_of_ble_eq_true rfl⟩) ⟨kP_blind, kP_go hPc hKc hDc hFc hM hS⟩ rfl rfl hl.1 rfl (lv_room (Nat.le_of_ble_eq_true rfl)) dX15_strain_107 ⟨Nat.le_of_ble_eq_true rfl, Nat.le_of_ble_eq_true rfl⟩) hS (fun q _ h => hFc q h) hFc (fun r15 u t H1 locs ht hvm hw hB hz1 hk1 hS => ?_)
  obtain ⟨hP, hD, hK⟩ := kJ (wr := [(st, .inl (cst, 9, .inl (upd (upd (upd (upd (upd (upd (upd (upd (upd (fun _ => 0) 0 900) 1 900) 2 900) 3 900) 4 900) 5 900) 6 900) 7 900) 8 900))), (q1, .inl (cA2, 3, .inl (fun _ => 0))), (q3, .inl (cA4, 9, .inl (fun _ => 0))), (sp, .inl (csp, 9, .inl (fun _ => 0))), (br, .inl (cbr, 3, .inl (fun _ => 0))), (mo, .inr (19, [.int 0, .int 0, .int 0, .int 0, .int 0, .int 0, .int tu, .ref ti, .ref si, .ref lo, .ref lh, .ref lk, .ref sp, .ref st, .ref pa, .ref br, .ref sg, .int mi, .int 0, .int 0, .int 0, .int fo, .int 0, .long pe, .long pn, .long re, .long rn, .int th]))]) (w1 := []) (t1 := []) hP hD hK [] [0, 1, 2, 3, 4, 5] rfl rfl (by decide) (by decide) hk1 hFc ht hvm hB
  generalize H1 = H at hP hS ⊢
  have hP : va_P (dC, dI) vwCl [(st, .inl (cst, 9, .inl (upd (upd (upd (upd (upd (upd (upd (upd (upd (fun _ => 0) 0 900) 1 900) 2 900) 3 900) 4 900) 5 900) 6 900) 7 900) 8 900))), (q1, .inl (cA2, 3, .inl (fun _ => 0))), (q3, .inl (cA4, 9, .inl (fun _ => 0))), (sp, .inl (csp, 9, .inl (fun _ => 0))), (br, .inl (cbr, 3, .inl (fun _ => 0))), (mo, .inr (19, [.int 0, .int 0, .int 0, .int 0, .int 0, .int 0, .int tu, .ref ti, .ref si, .ref lo, .ref lh, .ref lk, .ref sp, .ref st, .ref pa, .ref br, .ref sg, .int mi, .int 0, .int 0, .int 0, .int fo, .int 0, .long pe, .long pn, .long re, .long rn, .int th]))] H := hP
  have hD : va_D A [(st, .inl (cst, 9, .inl (upd (upd (upd (upd (upd (upd (upd (upd (upd (fun _ => 0) 0 900) 1 900) 2 900) 3 900) 4 900) 5 900) 6 900) 7 900) 8 900))), (q1, .inl (cA2, 3, .inl (fun _ => 0))), (q3, .inl (cA4, 9, .inl (fun _ => 0))), (sp, .inl (csp, 9, .inl (fun _ => 0))), (br, .inl (cbr, 3, .inl (fun _ => 0))), (mo, .inr (19, [.int 0, .int 0, .int 0, .int 0, .int 0, .int 0, .int tu, .ref ti, .ref si, .ref lo, .ref lh, .ref lk, .ref sp, .ref st, .ref pa, .ref br, .ref sg, .int mi, .int 0, .int 0, .int 0, .int fo, .int 0, .long pe, .long pn, .long re, .long rn, .int th]))] := hD
  have hK : va_K (dC, dI) vwCl [(csp, .int), (cst, .int), (cbr, .int), (cA2, .int), (cA4, .int)] s := hK
  obtain rfl : 0 = r15 := hw
  refine lv_dup2_11 hx hb dX15_strain_110 rfl rfl ?_
  refine va_iald hx hb hK hP 1 3 rfl rfl (pk_in 0 3 (by decide) rfl) dX15_strain_111 ?_
  refine kc_v (y := .int 0) rfl ?_
  refine lv_aload_n hx hb dX15_strain_112 rfl (lv_at hl 1 rfl) ?_
  refine lv_iload_n hx hb dX15_strain_113 rfl (lv_at hl 0 rfl) ?_
  refine va_iald hx hb hK hP 2 4 rfl rfl (pk_in 1 9 (by decide) rfl) dX15_strain_114 ?_
  refine kc_v (y := .int 0) rfl ?_
  refine lv_iadd hx hb dX15_strain_115 ?_
  refine kc_i (y := 0) (by decide +kernel) ?_
  refine va_iast hx hb hK hP hD hS 1 3 rfl rfl (pk_in 0 3 (by decide) rfl) dX15_strain_116 (fun H locs hP hD hS => ?_)
  have hP : va_P (dC, dI) vwCl [(st, .inl (cst, 9, .inl (upd (upd (upd (upd (upd (upd (upd (upd (upd (fun _ => 0) 0 900) 1 900) 2 900) 3 900) 4 900) 5 900) 6 900) 7 900) 8 900))), (q1, .inl (cA2, 3, .inl (upd (fun _ => 0) 0 0))), (q3, .inl (cA4, 9, .inl (fun _ => 0))), (sp, .inl (csp, 9, .inl (fun _ => 0))), (br, .inl (cbr, 3, .inl (fun _ => 0))), (mo, .inr (19, [.int 0, .int 0, .int 0, .int 0, .int 0, .int 0, .int tu, .ref ti, .ref si, .ref lo, .ref lh, .ref lk, .ref sp, .ref st, .ref pa, .ref br, .ref sg, .int mi, .int 0, .int 0, .int 0, .int fo, .int 0, .long pe, .long pn, .long re, .long rn, .int th]))] H := hP
  have hD : va_D A [(st, .inl (cst, 9, .inl (upd (upd (upd (upd (upd (upd (upd (upd (upd (fun _ => 0) 0 900) 1 900) 2 900) 3 900) 4 900) 5 900) 6 900) 7 900) 8 900))), (q1, .inl (cA2, 3, .inl (upd (fun _ => 0) 0 0))), (q3, .inl (cA4, 9, .inl (fun _ => 0))), (sp, .inl (csp, 9, .inl (fun _ => 0))), (br, .inl (cbr, 3, .inl (fun _ => 0))), (mo, .inr (19, [.int 0, .int 0, .int 0, .int 0, .int 0, .int 0, .int tu, .ref ti, .ref si, .ref lo, .ref lh, .ref lk, .ref sp, .ref st, .ref pa, .ref br, .ref sg, .int mi, .int 0, .int 0, .int 0, .int fo, .int 0, .long pe, .long pn, .long re, .long rn, .int th]))] := hD
  rw [k_updsame (f := (fun _ => 0)) (i := 0) (x := 0) rfl] at hP hD
  refine lv_iinc (v := 2) (lv' := [(3, .int 2), (2, .ref q3), (1, .ref q1), (0, .ref mo)]) hx hb dX15_strain_117 hl (k := 0) rfl (by decide +kernel) (by decide) rfl (fun ls hl => ?_)
  refine lv_goto (tgt := 36) hx hb dX15_strain_120 (by decide) ?_
  refine lv_iload_n hx hb dX15_strain_36 rfl (lv_at hl 0 rfl) ?_
  refine lv_bipush (v := 9) hx hb dX15_strain_37 (by decide) ?_
  refine lv_icmp_ge (tgt := 123) hx hb dX15_strain_39 (by decide) (fun c_ => absurd c_ (by decide +kernel)) (fun _ => ?_)
  refine lv_aload_n hx hb dX15_strain_42 rfl (lv_at hl 1 rfl) ?_
  refine lv_iload_n hx hb dX15_strain_43 rfl (lv_at hl 0 rfl) ?_
  refine va_iald hx hb hK hP 2 4 rfl rfl (pk_in 2 9 (by decide) rfl) dX15_strain_44 ?_
  refine kc_v (y := .int 0) rfl ?_
  refine lv_aload_n hx hb dX15_strain_45 rfl (lv_at hl 3 rfl) ?_
  refine va_get (D := (dC, dI)) (ci := 19) (v := .ref st) (C := RX15) (T := TX15) (N := 28) hx hb hts hiX15 hown hK hP 5 rfl rfl 13 (by decide) (hts (.fieldLink RX15 32 "SquareRigModel" "strength" "[I") (by decide +kernel)) (fun _ h9 => h9) rfl dX15_strain_46 ?_
  refine lv_iload_n hx hb dX15_strain_49 rfl (lv_at hl 0 rfl) ?_
  refine va_iald hx hb hK hP 0 1 rfl rfl (pk_in 2 9 (by decide) rfl) dX15_strain_50 ?_
  refine kc_v (y := .int 900) rfl ?_
  refine lv_icmp_le (tgt := 77) hx hb dX15_strain_51 (by decide) (fun _ => ?_) (fun c_ => absurd (by decide +kernel) c_)
  refine lv_aload_n hx hb dX15_strain_77 rfl (lv_at hl 3 rfl) ?_
  refine va_get (D := (dC, dI)) (ci := 19) (v := .ref st) (C := RX15) (T := TX15) (N := 28) hx hb hts hiX15 hown hK hP 5 rfl rfl 13 (by decide) (hts (.fieldLink RX15 32 "SquareRigModel" "strength" "[I") (by decide +kernel)) (fun _ h9 => h9) rfl dX15_strain_78 ?_
  refine lv_iload_n hx hb dX15_strain_81 rfl (lv_at hl 0 rfl) ?_
  refine lv_dup2_11 hx hb dX15_strain_82 rfl rfl ?_
  refine va_iald hx hb hK hP 0 1 rfl rfl (pk_in 2 9 (by decide) rfl) dX15_strain_83 ?_
  refine kc_v (y := .int 900) rfl ?_
  refine lv_iconst (v := 2) hx hb dX15_strain_84 (by decide) ?_
  refine lv_aload_n hx hb dX15_strain_85 rfl (lv_at hl 1 rfl) ?_
  refine lv_iload_n hx hb dX15_strain_86 rfl (lv_at hl 0 rfl) ?_
  refine va_iald hx hb hK hP 2 4 rfl rfl (pk_in 2 9 (by decide) rfl) dX15_strain_87 ?_
  refine kc_v (y := .int 0) rfl ?_
  refine lv_imul hx hb dX15_strain_88 ?_
  refine kc_i (y := 0) (by decide +kernel) ?_
  refine lv_aload_n hx hb dX15_strain_89 rfl (lv_at hl 3 rfl) ?_
  refine va_get (D := (dC, dI)) (ci := 19) (v := .ref st) (C := RX15) (T := TX15) (N := 28) hx hb hts hiX15 hown hK hP 5 rfl rfl 13 (by decide) (hts (.fieldLink RX15 32 "SquareRigModel" "strength" "[I") (by decide +kernel)) (fun _ h9 => h9) rfl dX15_strain_90 ?_
  refine lv_iload_n hx hb dX15_strain_93 rfl (lv_at hl 0 rfl) ?_
  refine va_iald hx hb hK hP 0 1 rfl rfl (pk_in 2 9 (by decide) rfl) dX15_strain_94 ?_
  refine kc_v (y := .int 900) rfl ?_
  refine lv_icmp_le (tgt := 102) hx hb dX15_strain_95 (by decide) (fun _ => ?_) (fun c_ => absurd (by decide +kernel) c_)
  refine lv_iconst (v := 0) hx hb dX15_strain_102 (by decide) ?_
  refine lv_isub hx hb dX15_strain_103 ?_
  refine kc_i (y := 900) (by decide +kernel) ?_
  refine va_iast hx hb hK hP hD hS 0 1 rfl rfl (pk_in 2 9 (by decide) rfl) dX15_strain_104 (fun H locs hP hD hS => ?_)
  have hP : va_P (dC, dI) vwCl [(st, .inl (cst, 9, .inl (upd (upd (upd (upd (upd (upd (upd (upd (upd (upd (fun _ => 0) 0 900) 1 900) 2 900) 3 900) 4 900) 5 900) 6 900) 7 900) 8 900) 2 900))), (q1, .inl (cA2, 3, .inl (fun _ => 0))), (q3, .inl (cA4, 9, .inl (fun _ => 0))), (sp, .inl (csp, 9, .inl (fun _ => 0))), (br, .inl (cbr, 3, .inl (fun _ => 0))), (mo, .inr (19, [.int 0, .int 0, .int 0, .int 0, .int 0, .int 0, .int tu, .ref ti, .ref si, .ref lo, .ref lh, .ref lk, .ref sp, .ref st, .ref pa, .ref br, .ref sg, .int mi, .int 0, .int 0, .int 0, .int fo, .int 0, .long pe, .long pn, .long re, .long rn, .int th]))] H := hP
  have hD : va_D A [(st, .inl (cst, 9, .inl (upd (upd (upd (upd (upd (upd (upd (upd (upd (upd (fun _ => 0) 0 900) 1 900) 2 900) 3 900) 4 900) 5 900) 6 900) 7 900) 8 900) 2 900))), (q1, .inl (cA2, 3, .inl (fun _ => 0))), (q3, .inl (cA4, 9, .inl (fun _ => 0))), (sp, .inl (csp, 9, .inl (fun _ => 0))), (br, .inl (cbr, 3, .inl (fun _ => 0))), (mo, .inr (19, [.int 0, .int 0, .int 0, .int 0, .int 0, .int 0, .int tu, .ref ti, .ref si, .ref lo, .ref lh, .ref lk, .ref sp, .ref st, .ref pa, .ref br, .ref sg, .int mi, .int 0, .int 0, .int 0, .int fo, .int 0, .long pe, .long pn, .long re, .long rn, .int th]))] := hD
  rw [k_updsame (f := (upd (upd (upd (upd (upd (upd (upd (upd (upd (fun _ => 0) 0 900) 1 900) 2 900) 3 900) 4 900) 5 900) 6 900) 7 900) 8 900)) (i := 2) (x := 900) rfl] at hP hD
  refine lv_aload_n hx hb dX15_strain_105 rfl (lv_at hl 2 rfl) ?_
  refine lv_iload_n hx hb dX15_strain_106 rfl (lv_at hl 0 rfl) ?_
  have hPc := hP.sub (ws' := []) [] rfl
  have hDc := hD.sub (ws' := []) [] (by decide) rfl
  have hKc := hK.sub (tys' := []) [] rfl
  have hFc := va_free (wc := []) hD hS hA [] rfl
  refine va_calli (va_runS (As := [.int 2]) (rest := [.ref q1]) ⟨hx, hb, hml, hown, hts⟩ (k_mast_2 l dC dI z zK zV  H.size) (va_cwS 1 hts gX15_strain_X15_mast rfl rfl rfl (by decide +kernel) ⟨Nat.le_of_ble_eq_true rfl, Nat.le_of_ble_eq_true rfl⟩) ⟨kP_blind, kP_go hPc hKc hDc hFc hM hS⟩ rfl rfl hl.1 rfl (lv_room (Nat.le_of_ble_eq_true rfl)) dX15_strain_107 ⟨Nat.le_of_ble_eq_true rfl, Nat.le_of_ble_eq_true rfl⟩) hS (fun q _ h => hFc q h) hFc (fun r16 u t H1 locs ht hvm hw hB hz1 hk1 hS => ?_)
  obtain ⟨hP, hD, hK⟩ := kJ (wr := [(st, .inl (cst, 9, .inl (upd (upd (upd (upd (upd (upd (upd (upd (upd (fun _ => 0) 0 900) 1 900) 2 900) 3 900) 4 900) 5 900) 6 900) 7 900) 8 900))), (q1, .inl (cA2, 3, .inl (fun _ => 0))), (q3, .inl (cA4, 9, .inl (fun _ => 0))), (sp, .inl (csp, 9, .inl (fun _ => 0))), (br, .inl (cbr, 3, .inl (fun _ => 0))), (mo, .inr (19, [.int 0, .int 0, .int 0, .int 0, .int 0, .int 0, .int tu, .ref ti, .ref si, .ref lo, .ref lh, .ref lk, .ref sp, .ref st, .ref pa, .ref br, .ref sg, .int mi, .int 0, .int 0, .int 0, .int fo, .int 0, .long pe, .long pn, .long re, .long rn, .int th]))]) (w1 := []) (t1 := []) hP hD hK [] [0, 1, 2, 3, 4, 5] rfl rfl (by decide) (by decide) hk1 hFc ht hvm hB
  generalize H1 = H at hP hS ⊢
  have hP : va_P (dC, dI) vwCl [(st, .inl (cst, 9, .inl (upd (upd (upd (upd (upd (upd (upd (upd (upd (fun _ => 0) 0 900) 1 900) 2 900) 3 900) 4 900) 5 900) 6 900) 7 900) 8 900))), (q1, .inl (cA2, 3, .inl (fun _ => 0))), (q3, .inl (cA4, 9, .inl (fun _ => 0))), (sp, .inl (csp, 9, .inl (fun _ => 0))), (br, .inl (cbr, 3, .inl (fun _ => 0))), (mo, .inr (19, [.int 0, .int 0, .int 0, .int 0, .int 0, .int 0, .int tu, .ref ti, .ref si, .ref lo, .ref lh, .ref lk, .ref sp, .ref st, .ref pa, .ref br, .ref sg, .int mi, .int 0, .int 0, .int 0, .int fo, .int 0, .long pe, .long pn, .long re, .long rn, .int th]))] H := hP
  have hD : va_D A [(st, .inl (cst, 9, .inl (upd (upd (upd (upd (upd (upd (upd (upd (upd (fun _ => 0) 0 900) 1 900) 2 900) 3 900) 4 900) 5 900) 6 900) 7 900) 8 900))), (q1, .inl (cA2, 3, .inl (fun _ => 0))), (q3, .inl (cA4, 9, .inl (fun _ => 0))), (sp, .inl (csp, 9, .inl (fun _ => 0))), (br, .inl (cbr, 3, .inl (fun _ => 0))), (mo, .inr (19, [.int 0, .int 0, .int 0, .int 0, .int 0, .int 0, .int tu, .ref ti, .ref si, .ref lo, .ref lh, .ref lk, .ref sp, .ref st, .ref pa, .ref br, .ref sg, .int mi, .int 0, .int 0, .int 0, .int fo, .int 0, .long pe, .long pn, .long re, .long rn, .int th]))] := hD
  have hK : va_K (dC, dI) vwCl [(csp, .int), (cst, .int), (cbr, .int), (cA2, .int), (cA4, .int)] s := hK
  obtain rfl : 0 = r16 := hw
  refine lv_dup2_11 hx hb dX15_strain_110 rfl rfl ?_
  refine va_iald hx hb hK hP 1 3 rfl rfl (pk_in 0 3 (by decide) rfl) dX15_strain_111 ?_
  refine kc_v (y := .int 0) rfl ?_
  refine lv_aload_n hx hb dX15_strain_112 rfl (lv_at hl 1 rfl) ?_
  refine lv_iload_n hx hb dX15_strain_113 rfl (lv_at hl 0 rfl) ?_
  refine va_iald hx hb hK hP 2 4 rfl rfl (pk_in 2 9 (by decide) rfl) dX15_strain_114 ?_
  refine kc_v (y := .int 0) rfl ?_
  refine lv_iadd hx hb dX15_strain_115 ?_
  refine kc_i (y := 0) (by decide +kernel) ?_
  refine va_iast hx hb hK hP hD hS 1 3 rfl rfl (pk_in 0 3 (by decide) rfl) dX15_strain_116 (fun H locs hP hD hS => ?_)
  have hP : va_P (dC, dI) vwCl [(st, .inl (cst, 9, .inl (upd (upd (upd (upd (upd (upd (upd (upd (upd (fun _ => 0) 0 900) 1 900) 2 900) 3 900) 4 900) 5 900) 6 900) 7 900) 8 900))), (q1, .inl (cA2, 3, .inl (upd (fun _ => 0) 0 0))), (q3, .inl (cA4, 9, .inl (fun _ => 0))), (sp, .inl (csp, 9, .inl (fun _ => 0))), (br, .inl (cbr, 3, .inl (fun _ => 0))), (mo, .inr (19, [.int 0, .int 0, .int 0, .int 0, .int 0, .int 0, .int tu, .ref ti, .ref si, .ref lo, .ref lh, .ref lk, .ref sp, .ref st, .ref pa, .ref br, .ref sg, .int mi, .int 0, .int 0, .int 0, .int fo, .int 0, .long pe, .long pn, .long re, .long rn, .int th]))] H := hP
  have hD : va_D A [(st, .inl (cst, 9, .inl (upd (upd (upd (upd (upd (upd (upd (upd (upd (fun _ => 0) 0 900) 1 900) 2 900) 3 900) 4 900) 5 900) 6 900) 7 900) 8 900))), (q1, .inl (cA2, 3, .inl (upd (fun _ => 0) 0 0))), (q3, .inl (cA4, 9, .inl (fun _ => 0))), (sp, .inl (csp, 9, .inl (fun _ => 0))), (br, .inl (cbr, 3, .inl (fun _ => 0))), (mo, .inr (19, [.int 0, .int 0, .int 0, .int 0, .int 0, .int 0, .int tu, .ref ti, .ref si, .ref lo, .ref lh, .ref lk, .ref sp, .ref st, .ref pa, .ref br, .ref sg, .int mi, .int 0, .int 0, .int 0, .int fo, .int 0, .long pe, .long pn, .long re, .long rn, .int th]))] := hD
  rw [k_updsame (f := (fun _ => 0)) (i := 0) (x := 0) rfl] at hP hD
  refine lv_iinc (v := 3) (lv' := [(3, .int 3), (2, .ref q3), (1, .ref q1), (0, .ref mo)]) hx hb dX15_strain_117 hl (k := 0) rfl (by decide +kernel) (by decide) rfl (fun ls hl => ?_)
  refine lv_goto (tgt := 36) hx hb dX15_strain_120 (by decide) ?_
  refine lv_iload_n hx hb dX15_strain_36 rfl (lv_at hl 0 rfl) ?_
  refine lv_bipush (v := 9) hx hb dX15_strain_37 (by decide) ?_
  refine lv_icmp_ge (tgt := 123) hx hb dX15_strain_39 (by decide) (fun c_ => absurd c_ (by decide +kernel)) (fun _ => ?_)
  refine lv_aload_n hx hb dX15_strain_42 rfl (lv_at hl 1 rfl) ?_
  refine lv_iload_n hx hb dX15_strain_43 rfl (lv_at hl 0 rfl) ?_
  refine va_iald hx hb hK hP 2 4 rfl rfl (pk_in 3 9 (by decide) rfl) dX15_strain_44 ?_
  refine kc_v (y := .int 0) rfl ?_
  refine lv_aload_n hx hb dX15_strain_45 rfl (lv_at hl 3 rfl) ?_
  refine va_get (D := (dC, dI)) (ci := 19) (v := .ref st) (C := RX15) (T := TX15) (N := 28) hx hb hts hiX15 hown hK hP 5 rfl rfl 13 (by decide) (hts (.fieldLink RX15 32 "SquareRigModel" "strength" "[I") (by decide +kernel)) (fun _ h9 => h9) rfl dX15_strain_46 ?_
  refine lv_iload_n hx hb dX15_strain_49 rfl (lv_at hl 0 rfl) ?_
  refine va_iald hx hb hK hP 0 1 rfl rfl (pk_in 3 9 (by decide) rfl) dX15_strain_50 ?_
  refine kc_v (y := .int 900) rfl ?_
  refine lv_icmp_le (tgt := 77) hx hb dX15_strain_51 (by decide) (fun _ => ?_) (fun c_ => absurd (by decide +kernel) c_)
  refine lv_aload_n hx hb dX15_strain_77 rfl (lv_at hl 3 rfl) ?_
  refine va_get (D := (dC, dI)) (ci := 19) (v := .ref st) (C := RX15) (T := TX15) (N := 28) hx hb hts hiX15 hown hK hP 5 rfl rfl 13 (by decide) (hts (.fieldLink RX15 32 "SquareRigModel" "strength" "[I") (by decide +kernel)) (fun _ h9 => h9) rfl dX15_strain_78 ?_
  refine lv_iload_n hx hb dX15_strain_81 rfl (lv_at hl 0 rfl) ?_
  refine lv_dup2_11 hx hb dX15_strain_82 rfl rfl ?_
  refine va_iald hx hb hK hP 0 1 rfl rfl (pk_in 3 9 (by decide) rfl) dX15_strain_83 ?_
  refine kc_v (y := .int 900) rfl ?_
  refine lv_iconst (v := 2) hx hb dX15_strain_84 (by decide) ?_
  refine lv_aload_n hx hb dX15_strain_85 rfl (lv_at hl 1 rfl) ?_
  refine lv_iload_n hx hb dX15_strain_86 rfl (lv_at hl 0 rfl) ?_
  refine va_iald hx hb hK hP 2 4 rfl rfl (pk_in 3 9 (by decide) rfl) dX15_strain_87 ?_
  refine kc_v (y := .int 0) rfl ?_
  refine lv_imul hx hb dX15_strain_88 ?_
  refine kc_i (y := 0) (by decide +kernel) ?_
  refine lv_aload_n hx hb dX15_strain_89 rfl (lv_at hl 3 rfl) ?_
  refine va_get (D := (dC, dI)) (ci := 19) (v := .ref st) (C := RX15) (T := TX15) (N := 28) hx hb hts hiX15 hown hK hP 5 rfl rfl 13 (by decide) (hts (.fieldLink RX15 32 "SquareRigModel" "strength" "[I") (by decide +kernel)) (fun _ h9 => h9) rfl dX15_strain_90 ?_
  refine lv_iload_n hx hb dX15_strain_93 rfl (lv_at hl 0 rfl) ?_
  refine va_iald hx hb hK hP 0 1 rfl rfl (pk_in 3 9 (by decide) rfl) dX15_strain_94 ?_
  refine kc_v (y := .int 900) rfl ?_
  refine lv_icmp_le (tgt := 102) hx hb dX15_strain_95 (by decide) (fun _ => ?_) (fun c_ => absurd (by decide +kernel) c_)
  refine lv_iconst (v := 0) hx hb dX15_strain_102 (by decide) ?_
  refine lv_isub hx hb dX15_strain_103 ?_
  refine kc_i (y := 900) (by decide +kernel) ?_
  refine va_iast hx hb hK hP hD hS 0 1 rfl rfl (pk_in 3 9 (by decide) rfl) dX15_strain_104 (fun H locs hP hD hS => ?_)
  have hP : va_P (dC, dI) vwCl [(st, .inl (cst, 9, .inl (upd (upd (upd (upd (upd (upd (upd (upd (upd (upd (fun _ => 0) 0 900) 1 900) 2 900) 3 900) 4 900) 5 900) 6 900) 7 900) 8 900) 3 900))), (q1, .inl (cA2, 3, .inl (fun _ => 0))), (q3, .inl (cA4, 9, .inl (fun _ => 0))), (sp, .inl (csp, 9, .inl (fun _ => 0))), (br, .inl (cbr, 3, .inl (fun _ => 0))), (mo, .inr (19, [.int 0, .int 0, .int 0, .int 0, .int 0, .int 0, .int tu, .ref ti, .ref si, .ref lo, .ref lh, .ref lk, .ref sp, .ref st, .ref pa, .ref br, .ref sg, .int mi, .int 0, .int 0, .int 0, .int fo, .int 0, .long pe, .long pn, .long re, .long rn, .int th]))] H := hP
  have hD : va_D A [(st, .inl (cst, 9, .inl (upd (upd (upd (upd (upd (upd (upd (upd (upd (upd (fun _ => 0) 0 900) 1 900) 2 900) 3 900) 4 900) 5 900) 6 900) 7 900) 8 900) 3 900))), (q1, .inl (cA2, 3, .inl (fun _ => 0))), (q3, .inl (cA4, 9, .inl (fun _ => 0))), (sp, .inl (csp, 9, .inl (fun _ => 0))), (br, .inl (cbr, 3, .inl (fun _ => 0))), (mo, .inr (19, [.int 0, .int 0, .int 0, .int 0, .int 0, .int 0, .int tu, .ref ti, .ref si, .ref lo, .ref lh, .ref lk, .ref sp, .ref st, .ref pa, .ref br, .ref sg, .int mi, .int 0, .int 0, .int 0, .int fo, .int 0, .long pe, .long pn, .long re, .long rn, .int th]))] := hD
  rw [k_updsame (f := (upd (upd (upd (upd (upd (upd (upd (upd (upd (fun _ => 0) 0 900) 1 900) 2 900) 3 900) 4 900) 5 900) 6 900) 7 900) 8 900)) (i := 3) (x := 900) rfl] at hP hD
  refine lv_aload_n hx hb dX15_strain_105 rfl (lv_at hl 2 rfl) ?_
  refine lv_iload_n hx hb dX15_strain_106 rfl (lv_at hl 0 rfl) ?_
  have hPc := hP.sub (ws' := []) [] rfl
  have hDc := hD.sub (ws' := []) [] (by decide) rfl
  have hKc := hK.sub (tys' := []) [] rfl
  have hFc := va_free (wc := []) hD hS hA [] rfl
  refine va_calli (va_runS (As := [.int 3]) (rest := [.ref q1]) ⟨hx, hb, hml, hown, hts⟩ (k_mast_3 l dC dI z zK zV  H.size) (va_cwS 1 hts gX15_strain_X15_mast rfl rfl rfl (by decide +kernel) ⟨Nat.le_of_ble_eq_true rfl, Nat.le_of_ble_eq_true rfl⟩) ⟨kP_blind, kP_go hPc hKc hDc hFc hM hS⟩ rfl rfl hl.1 rfl (lv_room (Nat.le_of_ble_eq_true rfl)) dX15_strain_107 ⟨Nat.le_of_ble_eq_true rfl, Nat.le_of_ble_eq_true rfl⟩) hS (fun q _ h => hFc q h) hFc (fun r17 u t H1 locs ht hvm hw hB hz1 hk1 hS => ?_)
  obtain ⟨hP, hD, hK⟩ := kJ (wr := [(st, .inl (cst, 9, .inl (upd (upd (upd (upd (upd (upd (upd (upd (upd (fun _ => 0) 0 900) 1 900) 2 900) 3 900) 4 900) 5 900) 6 900) 7 900) 8 900))), (q1, .inl (cA2, 3, .inl (fun _ => 0))), (q3, .inl (cA4, 9, .inl (fun _ => 0))), (sp, .inl (csp, 9, .inl (fun _ => 0))), (br, .inl (cbr, 3, .inl (fun _ => 0))), (mo, .inr (19, [.int 0, .int 0, .int 0, .int 0, .int 0, .int 0, .int tu, .ref ti, .ref si, .ref lo, .ref lh, .ref lk, .ref sp, .ref st, .ref pa, .ref br, .ref sg, .int mi, .int 0, .int 0, .int 0, .int fo, .int 0, .long pe, .long pn, .long re, .long rn, .int th]))]) (w1 := []) (t1 := []) hP hD hK [] [0, 1, 2, 3, 4, 5] rfl rfl (by decide) (by decide) hk1 hFc ht hvm hB
  generalize H1 = H at hP hS ⊢
  have hP : va_P (dC, dI) vwCl [(st, .inl (cst, 9, .inl (upd (upd (upd (upd (upd (upd (upd (upd (upd (fun _ => 0) 0 900) 1 900) 2 900) 3 900) 4 900) 5 900) 6 900) 7 900) 8 900))), (q1, .inl (cA2, 3, .inl (fun _ => 0))), (q3, .inl (cA4, 9, .inl (fun _ => 0))), (sp, .inl (csp, 9, .inl (fun _ => 0))), (br, .inl (cbr, 3, .inl (fun _ => 0))), (mo, .inr (19, [.int 0, .int 0, .int 0, .int 0, .int 0, .int 0, .int tu, .ref ti, .ref si, .ref lo, .ref lh, .ref lk, .ref sp, .ref st, .ref pa, .ref br, .ref sg, .int mi, .int 0, .int 0, .int 0, .int fo, .int 0, .long pe, .long pn, .long re, .long rn, .int th]))] H := hP
  have hD : va_D A [(st, .inl (cst, 9, .inl (upd (upd (upd (upd (upd (upd (upd (upd (upd (fun _ => 0) 0 900) 1 900) 2 900) 3 900) 4 900) 5 900) 6 900) 7 900) 8 900))), (q1, .inl (cA2, 3, .inl (fun _ => 0))), (q3, .inl (cA4, 9, .inl (fun _ => 0))), (sp, .inl (csp, 9, .inl (fun _ => 0))), (br, .inl (cbr, 3, .inl (fun _ => 0))), (mo, .inr (19, [.int 0, .int 0, .int 0, .int 0, .int 0, .int 0, .int tu, .ref ti, .ref si, .ref lo, .ref lh, .ref lk, .ref sp, .ref st, .ref pa, .ref br, .ref sg, .int mi, .int 0, .int 0, .int 0, .int fo, .int 0, .long pe, .long pn, .long re, .long rn, .int th]))] := hD
  have hK : va_K (dC, dI) vwCl [(csp, .int), (cst, .int), (cbr, .int), (cA2, .int), (cA4, .int)] s := hK
  obtain rfl : 1 = r17 := hw
  refine lv_dup2_11 hx hb dX15_strain_110 rfl rfl ?_
  refine va_iald hx hb hK hP 1 3 rfl rfl (pk_in 1 3 (by decide) rfl) dX15_strain_111 ?_
  refine kc_v (y := .int 0) rfl ?_
  refine lv_aload_n hx hb dX15_strain_112 rfl (lv_at hl 1 rfl) ?_
  refine lv_iload_n hx hb dX15_strain_113 rfl (lv_at hl 0 rfl) ?_
  refine va_iald hx hb hK hP 2 4 rfl rfl (pk_in 3 9 (by decide) rfl) dX15_strain_114 ?_
  refine kc_v (y := .int 0) rfl ?_
  refine lv_iadd hx hb dX15_strain_115 ?_
  refine kc_i (y := 0) (by decide +kernel) ?_
  refine va_iast hx hb hK hP hD hS 1 3 rfl rfl (pk_in 1 3 (by decide) rfl) dX15_strain_116 (fun H locs hP hD hS => ?_)
  have hP : va_P (dC, dI) vwCl [(st, .inl (cst, 9, .inl (upd (upd (upd (upd (upd (upd (upd (upd (upd (fun _ => 0) 0 900) 1 900) 2 900) 3 900) 4 900) 5 900) 6 900) 7 900) 8 900))), (q1, .inl (cA2, 3, .inl (upd (fun _ => 0) 1 0))), (q3, .inl (cA4, 9, .inl (fun _ => 0))), (sp, .inl (csp, 9, .inl (fun _ => 0))), (br, .inl (cbr, 3, .inl (fun _ => 0))), (mo, .inr (19, [.int 0, .int 0, .int 0, .int 0, .int 0, .int 0, .int tu, .ref ti, .ref si, .ref lo, .ref lh, .ref lk, .ref sp, .ref st, .ref pa, .ref br, .ref sg, .int mi, .int 0, .int 0, .int 0, .int fo, .int 0, .long pe, .long pn, .long re, .long rn, .int th]))] H := hP
  have hD : va_D A [(st, .inl (cst, 9, .inl (upd (upd (upd (upd (upd (upd (upd (upd (upd (fun _ => 0) 0 900) 1 900) 2 900) 3 900) 4 900) 5 900) 6 900) 7 900) 8 900))), (q1, .inl (cA2, 3, .inl (upd (fun _ => 0) 1 0))), (q3, .inl (cA4, 9, .inl (fun _ => 0))), (sp, .inl (csp, 9, .inl (fun _ => 0))), (br, .inl (cbr, 3, .inl (fun _ => 0))), (mo, .inr (19, [.int 0, .int 0, .int 0, .int 0, .int 0, .int 0, .int tu, .ref ti, .ref si, .ref lo, .ref lh, .ref lk, .ref sp, .ref st, .ref pa, .ref br, .ref sg, .int mi, .int 0, .int 0, .int 0, .int fo, .int 0, .long pe, .long pn, .long re, .long rn, .int th]))] := hD
  rw [k_updsame (f := (fun _ => 0)) (i := 1) (x := 0) rfl] at hP hD
  refine lv_iinc (v := 4) (lv' := [(3, .int 4), (2, .ref q3), (1, .ref q1), (0, .ref mo)]) hx hb dX15_strain_117 hl (k := 0) rfl (by decide +kernel) (by decide) rfl (fun ls hl => ?_)
  refine lv_goto (tgt := 36) hx hb dX15_strain_120 (by decide) ?_
  refine lv_iload_n hx hb dX15_strain_36 rfl (lv_at hl 0 rfl) ?_
  refine lv_bipush (v := 9) hx hb dX15_strain_37 (by decide) ?_
  refine lv_icmp_ge (tgt := 123) hx hb dX15_strain_39 (by decide) (fun c_ => absurd c_ (by decide +kernel)) (fun _ => ?_)
  refine lv_aload_n hx hb dX15_strain_42 rfl (lv_at hl 1 rfl) ?_
  refine lv_iload_n hx hb dX15_strain_43 rfl (lv_at hl 0 rfl) ?_
  refine va_iald hx hb hK hP 2 4 rfl rfl (pk_in 4 9 (by decide) rfl) dX15_strain_44 ?_
  refine kc_v (y := .int 0) rfl ?_
  refine lv_aload_n hx hb dX15_strain_45 rfl (lv_at hl 3 rfl) ?_
  refine va_get (D := (dC, dI)) (ci := 19) (v := .ref st) (C := RX15) (T := TX15) (N := 28) hx hb hts hiX15 hown hK hP 5 rfl rfl 13 (by decide) (hts (.fieldLink RX15 32 "SquareRigModel" "strength" "[I") (by decide +kernel)) (fun _ h9 => h9) rfl dX15_strain_46 ?_
  refine lv_iload_n hx hb dX15_strain_49 rfl (lv_at hl 0 rfl) ?_
  refine va_iald hx hb hK hP 0 1 rfl rfl (pk_in 4 9 (by decide) rfl) dX15_strain_50 ?_
  refine kc_v (y := .int 900) rfl ?_
  refine lv_icmp_le (tgt := 77) hx hb dX15_strain_51 (by decide) (fun _ => ?_) (fun c_ => absurd (by decide +kernel) c_)
  refine lv_aload_n hx hb dX15_strain_77 rfl (lv_at hl 3 rfl) ?_
  refine va_get (D := (dC, dI)) (ci := 19) (v := .ref st) (C := RX15) (T := TX15) (N := 28) hx hb hts hiX15 hown hK hP 5 rfl rfl 13 (by decide) (hts (.fieldLink RX15 32 "SquareRigModel" "strength" "[I") (by decide +kernel)) (fun _ h9 => h9) rfl dX15_strain_78 ?_
  refine lv_iload_n hx hb dX15_strain_81 rfl (lv_at hl 0 rfl) ?_
  refine lv_dup2_11 hx hb dX15_strain_82 rfl rfl ?_
  refine va_iald hx hb hK hP 0 1 rfl rfl (pk_in 4 9 (by decide) rfl) dX15_strain_83 ?_
  refine kc_v (y := .int 900) rfl ?_
  refine lv_iconst (v := 2) hx hb dX15_strain_84 (by decide) ?_
  refine lv_aload_n hx hb dX15_strain_85 rfl (lv_at hl 1 rfl) ?_
  refine lv_iload_n hx hb dX15_strain_86 rfl (lv_at hl 0 rfl) ?_
  refine va_iald hx hb hK hP 2 4 rfl rfl (pk_in 4 9 (by decide) rfl) dX15_strain_87 ?_
  refine kc_v (y := .int 0) rfl ?_
  refine lv_imul hx hb dX15_strain_88 ?_
  refine kc_i (y := 0) (by decide +kernel) ?_
  refine lv_aload_n hx hb dX15_strain_89 rfl (lv_at hl 3 rfl) ?_
  refine va_get (D := (dC, dI)) (ci := 19) (v := .ref st) (C := RX15) (T := TX15) (N := 28) hx hb hts hiX15 hown hK hP 5 rfl rfl 13 (by decide) (hts (.fieldLink RX15 32 "SquareRigModel" "strength" "[I") (by decide +kernel)) (fun _ h9 => h9) rfl dX15_strain_90 ?_
  refine lv_iload_n hx hb dX15_strain_93 rfl (lv_at hl 0 rfl) ?_
  refine va_iald hx hb hK hP 0 1 rfl rfl (pk_in 4 9 (by decide) rfl) dX15_strain_94 ?_
  refine kc_v (y := .int 900) rfl ?_
  refine lv_icmp_le (tgt := 102) hx hb dX15_strain_95 (by decide) (fun _ => ?_) (fun c_ => absurd (by decide +kernel) c_)
  refine lv_iconst (v := 0) hx hb dX15_strain_102 (by decide) ?_
  refine lv_isub hx hb dX15_strain_103 ?_
  refine kc_i (y := 900) (by decide +kernel) ?_
  refine va_iast hx hb hK hP hD hS 0 1 rfl rfl (pk_in 4 9 (by decide) rfl) dX15_strain_104 (fun H locs hP hD hS => ?_)
  have hP : va_P (dC, dI) vwCl [(st, .inl (cst, 9, .inl (upd (upd (upd (upd (upd (upd (upd (upd (upd (upd (fun _ => 0) 0 900) 1 900) 2 900) 3 900) 4 900) 5 900) 6 900) 7 900) 8 900) 4 900))), (q1, .inl (cA2, 3, .inl (fun _ => 0))), (q3, .inl (cA4, 9, .inl (fun _ => 0))), (sp, .inl (csp, 9, .inl (fun _ => 0))), (br, .inl (cbr, 3, .inl (fun _ => 0))), (mo, .inr (19, [.int 0, .int 0, .int 0, .int 0, .int 0, .int 0, .int tu, .ref ti, .ref si, .ref lo, .ref lh, .ref lk, .ref sp, .ref st, .ref pa, .ref br, .ref sg, .int mi, .int 0, .int 0, .int 0, .int fo, .int 0, .long pe, .long pn, .long re, .long rn, .int th]))] H := hP
  have hD : va_D A [(st, .inl (cst, 9, .inl (upd (upd (upd (upd (upd (upd (upd (upd (upd (upd (fun _ => 0) 0 900) 1 900) 2 900) 3 900) 4 900) 5 900) 6 900) 7 900) 8 900) 4 900))), (q1, .inl (cA2, 3, .inl (fun _ => 0))), (q3, .inl (cA4, 9, .inl (fun _ => 0))), (sp, .inl (csp, 9, .inl (fun _ => 0))), (br, .inl (cbr, 3, .inl (fun _ => 0))), (mo, .inr (19, [.int 0, .int 0, .int 0, .int 0, .int 0, .int 0, .int tu, .ref ti, .ref si, .ref lo, .ref lh, .ref lk, .ref sp, .ref st, .ref pa, .ref br, .ref sg, .int mi, .int 0, .int 0, .int 0, .int fo, .int 0, .long pe, .long pn, .long re, .long rn, .int th]))] := hD
  rw [k_updsame (f := (upd (upd (upd (upd (upd (upd (upd (upd (upd (fun _ => 0) 0 900) 1 900) 2 900) 3 900) 4 900) 5 900) 6 900) 7 900) 8 900)) (i := 4) (x := 900) rfl] at hP hD
  refine lv_aload_n hx hb dX15_strain_105 rfl (lv_at hl 2 rfl) ?_
  refine lv_iload_n hx hb dX15_strain_106 rfl (lv_at hl 0 rfl) ?_
  have hPc := hP.sub (ws' := []) [] rfl
  have hDc := hD.sub (ws' := []) [] (by decide) rfl
  have hKc := hK.sub (tys' := []) [] rfl
  have hFc := va_free (wc := []) hD hS hA [] rfl
  refine va_calli (va_runS (As := [.int 4]) (rest := [.ref q1]) ⟨hx, hb, hml, hown, hts⟩ (k_mast_4 l dC dI z zK zV  H.size) (va_cwS 1 hts gX15_strain_X15_mast rfl rfl rfl (by decide +kernel) ⟨Nat.le_of_ble_eq_true rfl, Nat.le_of_ble_eq_true rfl⟩) ⟨kP_blind, kP_go hPc hKc hDc hFc hM hS⟩ rfl rfl hl.1 rfl (lv_room (Nat.le_of_ble_eq_true rfl)) dX15_strain_107 ⟨Nat.le_of_ble_eq_true rfl, Nat.le_of_ble_eq_true rfl⟩) hS (fun q _ h => hFc q h) hFc (fun r18 u t H1 locs ht hvm hw hB hz1 hk1 hS => ?_)
  obtain ⟨hP, hD, hK⟩ := kJ (wr := [(st, .inl (cst, 9, .inl (upd (upd (upd (upd (upd (upd (upd (upd (upd (fun _ => 0) 0 900) 1 900) 2 900) 3 900) 4 900) 5 900) 6 900) 7 900) 8 900))), (q1, .inl (cA2, 3, .inl (fun _ => 0))), (q3, .inl (cA4, 9, .inl (fun _ => 0))), (sp, .inl (csp, 9, .inl (fun _ => 0))), (br, .inl (cbr, 3, .inl (fun _ => 0))), (mo, .inr (19, [.int 0, .int 0, .int 0, .int 0, .int 0, .int 0, .int tu, .ref ti, .ref si, .ref lo, .ref lh, .ref lk, .ref sp, .ref st, .ref pa, .ref br, .ref sg, .int mi, .int 0, .int 0, .int 0, .int fo, .int 0, .long pe, .long pn, .long re, .long rn, .int th]))]) (w1 := []) (t1 := []) hP hD hK [] [0, 1, 2, 3, 4, 5] rfl rfl (by decide) (by decide) hk1 hFc ht hvm hB
  generalize H1 = H at hP hS ⊢
  have hP : va_P (dC, dI) vwCl [(st, .inl (cst, 9, .inl (upd (upd (upd (upd (upd (upd (upd (upd (upd (fun _ => 0) 0 900) 1 900) 2 900) 3 900) 4 900) 5 900) 6 900) 7 900) 8 900))), (q1, .inl (cA2, 3, .inl (fun _ => 0))), (q3, .inl (cA4, 9, .inl (fun _ => 0))), (sp, .inl (csp, 9, .inl (fun _ => 0))), (br, .inl (cbr, 3, .inl (fun _ => 0))), (mo, .inr (19, [.int 0, .int 0, .int 0, .int 0, .int 0, .int 0, .int tu, .ref ti, .ref si, .ref lo, .ref lh, .ref lk, .ref sp, .ref st, .ref pa, .ref br, .ref sg, .int mi, .int 0, .int 0, .int 0, .int fo, .int 0, .long pe, .long pn, .long re, .long rn, .int th]))] H := hP
  have hD : va_D A [(st, .inl (cst, 9, .inl (upd (upd (upd (upd (upd (upd (upd (upd (upd (fun _ => 0) 0 900) 1 900) 2 900) 3 900) 4 900) 5 900) 6 900) 7 900) 8 900))), (q1, .inl (cA2, 3, .inl (fun _ => 0))), (q3, .inl (cA4, 9, .inl (fun _ => 0))), (sp, .inl (csp, 9, .inl (fun _ => 0))), (br, .inl (cbr, 3, .inl (fun _ => 0))), (mo, .inr (19, [.int 0, .int 0, .int 0, .int 0, .int 0, .int 0, .int tu, .ref ti, .ref si, .ref lo, .ref lh, .ref lk, .ref sp, .ref st, .ref pa, .ref br, .ref sg, .int mi, .int 0, .int 0, .int 0, .int fo, .int 0, .long pe, .long pn, .long re, .long rn, .int th]))] := hD
  have hK : va_K (dC, dI) vwCl [(csp, .int), (cst, .int), (cbr, .int), (cA2, .int), (cA4, .int)] s := hK
  obtain rfl : 1 = r18 := hw
  refine lv_dup2_11 hx hb dX15_strain_110 rfl rfl ?_
  refine va_iald hx hb hK hP 1 3 rfl rfl (pk_in 1 3 (by decide) rfl) dX15_strain_111 ?_
  refine kc_v (y := .int 0) rfl ?_
  refine lv_aload_n hx hb dX15_strain_112 rfl (lv_at hl 1 rfl) ?_
  refine lv_iload_n hx hb dX15_strain_113 rfl (lv_at hl 0 rfl) ?_
  refine va_iald hx hb hK hP 2 4 rfl rfl (pk_in 4 9 (by decide) rfl) dX15_strain_114 ?_
  refine kc_v (y := .int 0) rfl ?_
  refine lv_iadd hx hb dX15_strain_115 ?_
  refine kc_i (y := 0) (by decide +kernel) ?_
  refine va_iast hx hb hK hP hD hS 1 3 rfl rfl (pk_in 1 3 (by decide) rfl) dX15_strain_116 (fun H locs hP hD hS => ?_)
  have hP : va_P (dC, dI) vwCl [(st, .inl (cst, 9, .inl (upd (upd (upd (upd (upd (upd (upd (upd (upd (fun _ => 0) 0 900) 1 900) 2 900) 3 900) 4 900) 5 900) 6 900) 7 900) 8 900))), (q1, .inl (cA2, 3, .inl (upd (fun _ => 0) 1 0))), (q3, .inl (cA4, 9, .inl (fun _ => 0))), (sp, .inl (csp, 9, .inl (fun _ => 0))), (br, .inl (cbr, 3, .inl (fun _ => 0))), (mo, .inr (19, [.int 0, .int 0, .int 0, .int 0, .int 0, .int 0, .int tu, .ref ti, .ref si, .ref lo, .ref lh, .ref lk, .ref sp, .ref st, .ref pa, .ref br, .ref sg, .int mi, .int 0, .int 0, .int 0, .int fo, .int 0, .long pe, .long pn, .long re, .long rn, .int th]))] H := hP
  have hD : va_D A [(st, .inl (cst, 9, .inl (upd (upd (upd (upd (upd (upd (upd (upd (upd (fun _ => 0) 0 900) 1 900) 2 900) 3 900) 4 900) 5 900) 6 900) 7 900) 8 900))), (q1, .inl (cA2, 3, .inl (upd (fun _ => 0) 1 0))), (q3, .inl (cA4, 9, .inl (fun _ => 0))), (sp, .inl (csp, 9, .inl (fun _ => 0))), (br, .inl (cbr, 3, .inl (fun _ => 0))), (mo, .inr (19, [.int 0, .int 0, .int 0, .int 0, .int 0, .int 0, .int tu, .ref ti, .ref si, .ref lo, .ref lh, .ref lk, .ref sp, .ref st, .ref pa, .ref br, .ref sg, .int mi, .int 0, .int 0, .int 0, .int fo, .int 0, .long pe, .long pn, .long re, .long rn, .int th]))] := hD
  rw [k_updsame (f := (fun _ => 0)) (i := 1) (x := 0) rfl] at hP hD
  refine lv_iinc (v := 5) (lv' := [(3, .int 5), (2, .ref q3), (1, .ref q1), (0, .ref mo)]) hx hb dX15_strain_117 hl (k := 0) rfl (by decide +kernel) (by decide) rfl (fun ls hl => ?_)
  refine lv_goto (tgt := 36) hx hb dX15_strain_120 (by decide) ?_
  refine lv_iload_n hx hb dX15_strain_36 rfl (lv_at hl 0 rfl) ?_
  refine lv_bipush (v := 9) hx hb dX15_strain_37 (by decide) ?_
  refine lv_icmp_ge (tgt := 123) hx hb dX15_strain_39 (by decide) (fun c_ => absurd c_ (by decide +kernel)) (fun _ => ?_)
  refine lv_aload_n hx hb dX15_strain_42 rfl (lv_at hl 1 rfl) ?_
  refine lv_iload_n hx hb dX15_strain_43 rfl (lv_at hl 0 rfl) ?_
  refine va_iald hx hb hK hP 2 4 rfl rfl (pk_in 5 9 (by decide) rfl) dX15_strain_44 ?_
  refine kc_v (y := .int 0) rfl ?_
  refine lv_aload_n hx hb dX15_strain_45 rfl (lv_at hl 3 rfl) ?_
  refine va_get (D := (dC, dI)) (ci := 19) (v := .ref st) (C := RX15) (T := TX15) (N := 28) hx hb hts hiX15 hown hK hP 5 rfl rfl 13 (by decide) (hts (.fieldLink RX15 32 "SquareRigModel" "strength" "[I") (by decide +kernel)) (fun _ h9 => h9) rfl dX15_strain_46 ?_
  refine lv_iload_n hx hb dX15_strain_49 rfl (lv_at hl 0 rfl) ?_
  refine va_iald hx hb hK hP 0 1 rfl rfl (pk_in 5 9 (by decide) rfl) dX15_strain_50 ?_
  refine kc_v (y := .int 900) rfl ?_
  refine lv_icmp_le (tgt := 77) hx hb dX15_strain_51 (by decide) (fun _ => ?_) (fun c_ => absurd (by decide +kernel) c_)
  refine lv_aload_n hx hb dX15_strain_77 rfl (lv_at hl 3 rfl) ?_
  refine va_get (D := (dC, dI)) (ci := 19) (v := .ref st) (C := RX15) (T := TX15) (N := 28) hx hb hts hiX15 hown hK hP 5 rfl rfl 13 (by decide) (hts (.fieldLink RX15 32 "SquareRigModel" "strength" "[I") (by decide +kernel)) (fun _ h9 => h9) rfl dX15_strain_78 ?_
  refine lv_iload_n hx hb dX15_strain_81 rfl (lv_at hl 0 rfl) ?_
  refine lv_dup2_11 hx hb dX15_strain_82 rfl rfl ?_
  refine va_iald hx hb hK hP 0 1 rfl rfl (pk_in 5 9 (by decide) rfl) dX15_strain_83 ?_
  refine kc_v (y := .int 900) rfl ?_
  refine lv_iconst (v := 2) hx hb dX15_strain_84 (by decide) ?_
  refine lv_aload_n hx hb dX15_strain_85 rfl (lv_at hl 1 rfl) ?_
  refine lv_iload_n hx hb dX15_strain_86 rfl (lv_at hl 0 rfl) ?_
  refine va_iald hx hb hK hP 2 4 rfl rfl (pk_in 5 9 (by decide) rfl) dX15_strain_87 ?_
  refine kc_v (y := .int 0) rfl ?_
  refine lv_imul hx hb dX15_strain_88 ?_
  refine kc_i (y := 0) (by decide +kernel) ?_
  refine lv_aload_n hx hb dX15_strain_89 rfl (lv_at hl 3 rfl) ?_
  refine va_get (D := (dC, dI)) (ci := 19) (v := .ref st) (C := RX15) (T := TX15) (N := 28) hx hb hts hiX15 hown hK hP 5 rfl rfl 13 (by decide) (hts (.fieldLink RX15 32 "SquareRigModel" "strength" "[I") (by decide +kernel)) (fun _ h9 => h9) rfl dX15_strain_90 ?_
  refine lv_iload_n hx hb dX15_strain_93 rfl (lv_at hl 0 rfl) ?_
  refine va_iald hx hb hK hP 0 1 rfl rfl (pk_in 5 9 (by decide) rfl) dX15_strain_94 ?_
  refine kc_v (y := .int 900) rfl ?_
  refine lv_icmp_le (tgt := 102) hx hb dX15_strain_95 (by decide) (fun _ => ?_) (fun c_ => absurd (by decide +kernel) c_)
  refine lv_iconst (v := 0) hx hb dX15_strain_102 (by decide) ?_
  refine lv_isub hx hb dX15_strain_103 ?_
  refine kc_i (y := 900) (by decide +kernel) ?_
  refine va_iast hx hb hK hP hD hS 0 1 rfl rfl (pk_in 5 9 (by decide) rfl) dX15_strain_104 (fun H locs hP hD hS => ?_)
  have hP : va_P (dC, dI) vwCl [(st, .inl (cst, 9, .inl (upd (upd (upd (upd (upd (upd (upd (upd (upd (upd (fun _ => 0) 0 900) 1 900) 2 900) 3 900) 4 900) 5 900) 6 900) 7 900) 8 900) 5 900))), (q1, .inl (cA2, 3, .inl (fun _ => 0))), (q3, .inl (cA4, 9, .inl (fun _ => 0))), (sp, .inl (csp, 9, .inl (fun _ => 0))), (br, .inl (cbr, 3, .inl (fun _ => 0))), (mo, .inr (19, [.int 0, .int 0, .int 0, .int 0, .int 0, .int 0, .int tu, .ref ti, .ref si, .ref lo, .ref lh, .ref lk, .ref sp, .ref st, .ref pa, .ref br, .ref sg, .int mi, .int 0, .int 0, .int 0, .int fo, .int 0, .long pe, .long pn, .long re, .long rn, .int th]))] H := hP
  have hD : va_D A [(st, .inl (cst, 9, .inl (upd (upd (upd (upd (upd (upd (upd (upd (upd (upd (fun _ => 0) 0 900) 1 900) 2 900) 3 900) 4 900) 5 900) 6 900) 7 900) 8 900) 5 900))), (q1, .inl (cA2, 3, .inl (fun _ => 0))), (q3, .inl (cA4, 9, .inl (fun _ => 0))), (sp, .inl (csp, 9, .inl (fun _ => 0))), (br, .inl (cbr, 3, .inl (fun _ => 0))), (mo, .inr (19, [.int 0, .int 0, .int 0, .int 0, .int 0, .int 0, .int tu, .ref ti, .ref si, .ref lo, .ref lh, .ref lk, .ref sp, .ref st, .ref pa, .ref br, .ref sg, .int mi, .int 0, .int 0, .int 0, .int fo, .int 0, .long pe, .long pn, .long re, .long rn, .int th]))] := hD
  rw [k_updsame (f := (upd (upd (upd (upd (upd (upd (upd (upd (upd (fun _ => 0) 0 900) 1 900) 2 900) 3 900) 4 900) 5 900) 6 900) 7 900) 8 900)) (i := 5) (x := 900) rfl] at hP hD
  refine lv_aload_n hx hb dX15_strain_105 rfl (lv_at hl 2 rfl) ?_
  refine lv_iload_n hx hb dX15_strain_106 rfl (lv_at hl 0 rfl) ?_
  have hPc := hP.sub (ws' := []) [] rfl
  have hDc := hD.sub (ws' := []) [] (by decide) rfl
  have hKc := hK.sub (tys' := []) [] rfl
  have hFc := va_free (wc := []) hD hS hA [] rfl
  refine va_calli (va_runS (As := [.int 5]) (rest := [.ref q1]) ⟨hx, hb, hml, hown, hts⟩ (k_mast_5 l dC dI z zK zV  H.size) (va_cwS 1 hts gX15_strain_X15_mast rfl rfl rfl (by decide +kernel) ⟨Nat.le_of_ble_eq_true rfl, Nat.le_of_ble_eq_true rfl⟩) ⟨kP_blind, kP_go hPc hKc hDc hFc hM hS⟩ rfl rfl hl.1 rfl (lv_room (Nat.le_of_ble_eq_true rfl)) dX15_strain_107 ⟨Nat.le_of_ble_eq_true rfl, Nat.le_of_ble_eq_true rfl⟩) hS (fun q _ h => hFc q h) hFc (fun r19 u t H1 locs ht hvm hw hB hz1 hk1 hS => ?_)
  obtain ⟨hP, hD, hK⟩ := kJ (wr := [(st, .inl (cst, 9, .inl (upd (upd (upd (upd (upd (upd (upd (upd (upd (fun _ => 0) 0 900) 1 900) 2 900) 3 900) 4 900) 5 900) 6 900) 7 900) 8 900))), (q1, .inl (cA2, 3, .inl (fun _ => 0))), (q3, .inl (cA4, 9, .inl (fun _ => 0))), (sp, .inl (csp, 9, .inl (fun _ => 0))), (br, .inl (cbr, 3, .inl (fun _ => 0))), (mo, .inr (19, [.int 0, .int 0, .int 0, .int 0, .int 0, .int 0, .int tu, .ref ti, .ref si, .ref lo, .ref lh, .ref lk, .ref sp, .ref st, .ref pa, .ref br, .ref sg, .int mi, .int 0, .int 0, .int 0, .int fo, .int 0, .long pe, .long pn, .long re, .long rn, .int th]))]) (w1 := []) (t1 := []) hP hD hK [] [0, 1, 2, 3, 4, 5] rfl rfl (by decide) (by decide) hk1 hFc ht hvm hB
  generalize H1 = H at hP hS ⊢
  have hP : va_P (dC, dI) vwCl [(st, .inl (cst, 9, .inl (upd (upd (upd (upd (upd (upd (upd (upd (upd (fun _ => 0) 0 900) 1 900) 2 900) 3 900) 4 900) 5 900) 6 900) 7 900) 8 900))), (q1, .inl (cA2, 3, .inl (fun _ => 0))), (q3, .inl (cA4, 9, .inl (fun _ => 0))), (sp, .inl (csp, 9, .inl (fun _ => 0))), (br, .inl (cbr, 3, .inl (fun _ => 0))), (mo, .inr (19, [.int 0, .int 0, .int 0, .int 0, .int 0, .int 0, .int tu, .ref ti, .ref si, .ref lo, .ref lh, .ref lk, .ref sp, .ref st, .ref pa, .ref br, .ref sg, .int mi, .int 0, .int 0, .int 0, .int fo, .int 0, .long pe, .long pn, .long re, .long rn, .int th]))] H := hP
  have hD : va_D A [(st, .inl (cst, 9, .inl (upd (upd (upd (upd (upd (upd (upd (upd (upd (fun _ => 0) 0 900) 1 900) 2 900) 3 900) 4 900) 5 900) 6 900) 7 900) 8 900))), (q1, .inl (cA2, 3, .inl (fun _ => 0))), (q3, .inl (cA4, 9, .inl (fun _ => 0))), (sp, .inl (csp, 9, .inl (fun _ => 0))), (br, .inl (cbr, 3, .inl (fun _ => 0))), (mo, .inr (19, [.int 0, .int 0, .int 0, .int 0, .int 0, .int 0, .int tu, .ref ti, .ref si, .ref lo, .ref lh, .ref lk, .ref sp, .ref st, .ref pa, .ref br, .ref sg, .int mi, .int 0, .int 0, .int 0, .int fo, .int 0, .long pe, .long pn, .long re, .long rn, .int th]))] := hD
  have hK : va_K (dC, dI) vwCl [(csp, .int), (cst, .int), (cbr, .int), (cA2, .int), (cA4, .int)] s := hK
  obtain rfl : 1 = r19 := hw
  refine lv_dup2_11 hx hb dX15_strain_110 rfl rfl ?_
  refine va_iald hx hb hK hP 1 3 rfl rfl (pk_in 1 3 (by decide) rfl) dX15_strain_111 ?_
  refine kc_v (y := .int 0) rfl ?_
  refine lv_aload_n hx hb dX15_strain_112 rfl (lv_at hl 1 rfl) ?_
  refine lv_iload_n hx hb dX15_strain_113 rfl (lv_at hl 0 rfl) ?_
  refine va_iald hx hb hK hP 2 4 rfl rfl (pk_in 5 9 (by decide) rfl) dX15_strain_114 ?_
  refine kc_v (y := .int 0) rfl ?_
  refine lv_iadd hx hb dX15_strain_115 ?_
  refine kc_i (y := 0) (by decide +kernel) ?_
  refine va_iast hx hb hK hP hD hS 1 3 rfl rfl (pk_in 1 3 (by decide) rfl) dX15_strain_116 (fun H locs hP hD hS => ?_)
  have hP : va_P (dC, dI) vwCl [(st, .inl (cst, 9, .inl (upd (upd (upd (upd (upd (upd (upd (upd (upd (fun _ => 0) 0 900) 1 900) 2 900) 3 900) 4 900) 5 900) 6 900) 7 900) 8 900))), (q1, .inl (cA2, 3, .inl (upd (fun _ => 0) 1 0))), (q3, .inl (cA4, 9, .inl (fun _ => 0))), (sp, .inl (csp, 9, .inl (fun _ => 0))), (br, .inl (cbr, 3, .inl (fun _ => 0))), (mo, .inr (19, [.int 0, .int 0, .int 0, .int 0, .int 0, .int 0, .int tu, .ref ti, .ref si, .ref lo, .ref lh, .ref lk, .ref sp, .ref st, .ref pa, .ref br, .ref sg, .int mi, .int 0, .int 0, .int 0, .int fo, .int 0, .long pe, .long pn, .long re, .long rn, .int th]))] H := hP
  have hD : va_D A [(st, .inl (cst, 9, .inl (upd (upd (upd (upd (upd (upd (upd (upd (upd (fun _ => 0) 0 900) 1 900) 2 900) 3 900) 4 900) 5 900) 6 900) 7 900) 8 900))), (q1, .inl (cA2, 3, .inl (upd (fun _ => 0) 1 0))), (q3, .inl (cA4, 9, .inl (fun _ => 0))), (sp, .inl (csp, 9, .inl (fun _ => 0))), (br, .inl (cbr, 3, .inl (fun _ => 0))), (mo, .inr (19, [.int 0, .int 0, .int 0, .int 0, .int 0, .int 0, .int tu, .ref ti, .ref si, .ref lo, .ref lh, .ref lk, .ref sp, .ref st, .ref pa, .ref br, .ref sg, .int mi, .int 0, .int 0, .int 0, .int fo, .int 0, .long pe, .long pn, .long re, .long rn, .int th]))] := hD
  rw [k_updsame (f := (fun _ => 0)) (i := 1) (x := 0) rfl] at hP hD
  refine lv_iinc (v := 6) (lv' := [(3, .int 6), (2, .ref q3), (1, .ref q1), (0, .ref mo)]) hx hb dX15_strain_117 hl (k := 0) rfl (by decide +kernel) (by decide) rfl (fun ls hl => ?_)
  refine lv_goto (tgt := 36) hx hb dX15_strain_120 (by decide) ?_
  refine lv_iload_n hx hb dX15_strain_36 rfl (lv_at hl 0 rfl) ?_
  refine lv_bipush (v := 9) hx hb dX15_strain_37 (by decide) ?_
  refine lv_icmp_ge (tgt := 123) hx hb dX15_strain_39 (by decide) (fun c_ => absurd c_ (by decide +kernel)) (fun _ => ?_)
  refine lv_aload_n hx hb dX15_strain_42 rfl (lv_at hl 1 rfl) ?_
  refine lv_iload_n hx hb dX15_strain_43 rfl (lv_at hl 0 rfl) ?_
  refine va_iald hx hb hK hP 2 4 rfl rfl (pk_in 6 9 (by decide) rfl) dX15_strain_44 ?_
  refine kc_v (y := .int 0) rfl ?_
  refine lv_aload_n hx hb dX15_strain_45 rfl (lv_at hl 3 rfl) ?_
  refine va_get (D := (dC, dI)) (ci := 19) (v := .ref st) (C := RX15) (T := TX15) (N := 28) hx hb hts hiX15 hown hK hP 5 rfl rfl 13 (by decide) (hts (.fieldLink RX15 32 "SquareRigModel" "strength" "[I") (by decide +kernel)) (fun _ h9 => h9) rfl dX15_strain_46 ?_
  refine lv_iload_n hx hb dX15_strain_49 rfl (lv_at hl 0 rfl) ?_
  refine va_iald hx hb hK hP 0 1 rfl rfl (pk_in 6 9 (by decide) rfl) dX15_strain_50 ?_
  refine kc_v (y := .int 900) rfl ?_
  refine lv_icmp_le (tgt := 77) hx hb dX15_strain_51 (by decide) (fun _ => ?_) (fun c_ => absurd (by decide +kernel) c_)
  refine lv_aload_n hx hb dX15_strain_77 rfl (lv_at hl 3 rfl) ?_
  refine va_get (D := (dC, dI)) (ci := 19) (v := .ref st) (C := RX15) (T := TX15) (N := 28) hx hb hts hiX15 hown hK hP 5 rfl rfl 13 (by decide) (hts (.fieldLink RX15 32 "SquareRigModel" "strength" "[I") (by decide +kernel)) (fun _ h9 => h9) rfl dX15_strain_78 ?_
  refine lv_iload_n hx hb dX15_strain_81 rfl (lv_at hl 0 rfl) ?_
  refine lv_dup2_11 hx hb dX15_strain_82 rfl rfl ?_
  refine va_iald hx hb hK hP 0 1 rfl rfl (pk_in 6 9 (by decide) rfl) dX15_strain_83 ?_
  refine kc_v (y := .int 900) rfl ?_
  refine lv_iconst (v := 2) hx hb dX15_strain_84 (by decide) ?_
  refine lv_aload_n hx hb dX15_strain_85 rfl (lv_at hl 1 rfl) ?_
  refine lv_iload_n hx hb dX15_strain_86 rfl (lv_at hl 0 rfl) ?_
  refine va_iald hx hb hK hP 2 4 rfl rfl (pk_in 6 9 (by decide) rfl) dX15_strain_87 ?_
  refine kc_v (y := .int 0) rfl ?_
  refine lv_imul hx hb dX15_strain_88 ?_
  refine kc_i (y := 0) (by decide +kernel) ?_
  refine lv_aload_n hx hb dX15_strain_89 rfl (lv_at hl 3 rfl) ?_
  refine va_get (D := (dC, dI)) (ci := 19) (v := .ref st) (C := RX15) (T := TX15) (N := 28) hx hb hts hiX15 hown hK hP 5 rfl rfl 13 (by decide) (hts (.fieldLink RX15 32 "SquareRigModel" "strength" "[I") (by decide +kernel)) (fun _ h9 => h9) rfl dX15_strain_90 ?_
  refine lv_iload_n hx hb dX15_strain_93 rfl (lv_at hl 0 rfl) ?_
  refine va_iald hx hb hK hP 0 1 rfl rfl (pk_in 6 9 (by decide) rfl) dX15_strain_94 ?_
  refine kc_v (y := .int 900) rfl ?_
  refine lv_icmp_le (tgt := 102) hx hb dX15_strain_95 (by decide) (fun _ => ?_) (fun c_ => absurd (by decide +kernel) c_)
  refine lv_iconst (v := 0) hx hb dX15_strain_102 (by decide) ?_
  refine lv_isub hx hb dX15_strain_103 ?_
  refine kc_i (y := 900) (by decide +kernel) ?_
  refine va_iast hx hb hK hP hD hS 0 1 rfl rfl (pk_in 6 9 (by decide) rfl) dX15_strain_104 (fun H locs hP hD hS => ?_)
  have hP : va_P (dC, dI) vwCl [(st, .inl (cst, 9, .inl (upd (upd (upd (upd (upd (upd (upd (upd (upd (upd (fun _ => 0) 0 900) 1 900) 2 900) 3 900) 4 900) 5 900) 6 900) 7 900) 8 900) 6 900))), (q1, .inl (cA2, 3, .inl (fun _ => 0))), (q3, .inl (cA4, 9, .inl (fun _ => 0))), (sp, .inl (csp, 9, .inl (fun _ => 0))), (br, .inl (cbr, 3, .inl (fun _ => 0))), (mo, .inr (19, [.int 0, .int 0, .int 0, .int 0, .int 0, .int 0, .int tu, .ref ti, .ref si, .ref lo, .ref lh, .ref lk, .ref sp, .ref st, .ref pa, .ref br, .ref sg, .int mi, .int 0, .int 0, .int 0, .int fo, .int 0, .long pe, .long pn, .long re, .long rn, .int th]))] H := hP
  have hD : va_D A [(st, .inl (cst, 9, .inl (upd (upd (upd (upd (upd (upd (upd (upd (upd (upd (fun _ => 0) 0 900) 1 900) 2 900) 3 900) 4 900) 5 900) 6 900) 7 900) 8 900) 6 900))), (q1, .inl (cA2, 3, .inl (fun _ => 0))), (q3, .inl (cA4, 9, .inl (fun _ => 0))), (sp, .inl (csp, 9, .inl (fun _ => 0))), (br, .inl (cbr, 3, .inl (fun _ => 0))), (mo, .inr (19, [.int 0, .int 0, .int 0, .int 0, .int 0, .int 0, .int tu, .ref ti, .ref si, .ref lo, .ref lh, .ref lk, .ref sp, .ref st, .ref pa, .ref br, .ref sg, .int mi, .int 0, .int 0, .int 0, .int fo, .int 0, .long pe, .long pn, .long re, .long rn, .int th]))] := hD
  rw [k_updsame (f := (upd (upd (upd (upd (upd (upd (upd (upd (upd (fun _ => 0) 0 900) 1 900) 2 900) 3 900) 4 900) 5 900) 6 900) 7 900) 8 900)) (i := 6) (x := 900) rfl] at hP hD
  refine lv_aload_n hx hb dX15_strain_105 rfl (lv_at hl 2 rfl) ?_
  refine lv_iload_n hx hb dX15_strain_106 rfl (lv_at hl 0 rfl) ?_
  have hPc := hP.sub (ws' := []) [] rfl
  have hDc := hD.sub (ws' := []) [] (by decide) rfl
  have hKc := hK.sub (tys' := []) [] rfl
  have hFc := va_free (wc := []) hD hS hA [] rfl
  refine va_calli (va_runS (As := [.int 6]) (rest := [.ref q1]) ⟨hx, hb, hml, hown, hts⟩ (k_mast_6 l dC dI z zK zV  H.size) (va_cwS 1 hts gX15_strain_X15_mast rfl rfl rfl (by decide +kernel) ⟨Nat.le_of_ble_eq_true rfl, Nat.le_of_ble_eq_true rfl⟩) ⟨kP_blind, kP_go hPc hKc hDc hFc hM hS⟩ rfl rfl hl.1 rfl (lv_room (Nat.le_of_ble_eq_true rfl)) dX15_strain_107 ⟨Nat.le_of_ble_eq_true rfl, Nat.le_of_ble_eq_true rfl⟩) hS (fun q _ h => hFc q h) hFc (fun r20 u t H1 locs ht hvm hw hB hz1 hk1 hS => ?_)
  obtain ⟨hP, hD, hK⟩ := kJ (wr := [(st, .inl (cst, 9, .inl (upd (upd (upd (upd (upd (upd (upd (upd (upd (fun _ => 0) 0 900) 1 900) 2 900) 3 900) 4 900) 5 900) 6 900) 7 900) 8 900))), (q1, .inl (cA2, 3, .inl (fun _ => 0))), (q3, .inl (cA4, 9, .inl (fun _ => 0))), (sp, .inl (csp, 9, .inl (fun _ => 0))), (br, .inl (cbr, 3, .inl (fun _ => 0))), (mo, .inr (19, [.int 0, .int 0, .int 0, .int 0, .int 0, .int 0, .int tu, .ref ti, .ref si, .ref lo, .ref lh, .ref lk, .ref sp, .ref st, .ref pa, .ref br, .ref sg, .int mi, .int 0, .int 0, .int 0, .int fo, .int 0, .long pe, .long pn, .long re, .long rn, .int th]))]) (w1 := []) (t1 := []) hP hD hK [] [0, 1, 2, 3, 4, 5] rfl rfl (by decide) (by decide) hk1 hFc ht hvm hB
  generalize H1 = H at hP hS ⊢
  have hP : va_P (dC, dI) vwCl [(st, .inl (cst, 9, .inl (upd (upd (upd (upd (upd (upd (upd (upd (upd (fun _ => 0) 0 900) 1 900) 2 900) 3 900) 4 900) 5 900) 6 900) 7 900) 8 900))), (q1, .inl (cA2, 3, .inl (fun _ => 0))), (q3, .inl (cA4, 9, .inl (fun _ => 0))), (sp, .inl (csp, 9, .inl (fun _ => 0))), (br, .inl (cbr, 3, .inl (fun _ => 0))), (mo, .inr (19, [.int 0, .int 0, .int 0, .int 0, .int 0, .int 0, .int tu, .ref ti, .ref si, .ref lo, .ref lh, .ref lk, .ref sp, .ref st, .ref pa, .ref br, .ref sg, .int mi, .int 0, .int 0, .int 0, .int fo, .int 0, .long pe, .long pn, .long re, .long rn, .int th]))] H := hP
  have hD : va_D A [(st, .inl (cst, 9, .inl (upd (upd (upd (upd (upd (upd (upd (upd (upd (fun _ => 0) 0 900) 1 900) 2 900) 3 900) 4 900) 5 900) 6 900) 7 900) 8 900))), (q1, .inl (cA2, 3, .inl (fun _ => 0))), (q3, .inl (cA4, 9, .inl (fun _ => 0))), (sp, .inl (csp, 9, .inl (fun _ => 0))), (br, .inl (cbr, 3, .inl (fun _ => 0))), (mo, .inr (19, [.int 0, .int 0, .int 0, .int 0, .int 0, .int 0, .int tu, .ref ti, .ref si, .ref lo, .ref lh, .ref lk, .ref sp, .ref st, .ref pa, .ref br, .ref sg, .int mi, .int 0, .int 0, .int 0, .int fo, .int 0, .long pe, .long pn, .long re, .long rn, .int th]))] := hD
  have hK : va_K (dC, dI) vwCl [(csp, .int), (cst, .int), (cbr, .int), (cA2, .int), (cA4, .int)] s := hK
  obtain rfl : 2 = r20 := hw
  refine lv_dup2_11 hx hb dX15_strain_110 rfl rfl ?_
  refine va_iald hx hb hK hP 1 3 rfl rfl (pk_in 2 3 (by decide) rfl) dX15_strain_111 ?_
  refine kc_v (y := .int 0) rfl ?_
  refine lv_aload_n hx hb dX15_strain_112 rfl (lv_at hl 1 rfl) ?_
  refine lv_iload_n hx hb dX15_strain_113 rfl (lv_at hl 0 rfl) ?_
  refine va_iald hx hb hK hP 2 4 rfl rfl (pk_in 6 9 (by decide) rfl) dX15_strain_114 ?_
  refine kc_v (y := .int 0) rfl ?_
  refine lv_iadd hx hb dX15_strain_115 ?_
  refine kc_i (y := 0) (by decide +kernel) ?_
  refine va_iast hx hb hK hP hD hS 1 3 rfl rfl (pk_in 2 3 (by decide) rfl) dX15_strain_116 (fun H locs hP hD hS => ?_)
  have hP : va_P (dC, dI) vwCl [(st, .inl (cst, 9, .inl (upd (upd (upd (upd (upd (upd (upd (upd (upd (fun _ => 0) 0 900) 1 900) 2 900) 3 900) 4 900) 5 900) 6 900) 7 900) 8 900))), (q1, .inl (cA2, 3, .inl (upd (fun _ => 0) 2 0))), (q3, .inl (cA4, 9, .inl (fun _ => 0))), (sp, .inl (csp, 9, .inl (fun _ => 0))), (br, .inl (cbr, 3, .inl (fun _ => 0))), (mo, .inr (19, [.int 0, .int 0, .int 0, .int 0, .int 0, .int 0, .int tu, .ref ti, .ref si, .ref lo, .ref lh, .ref lk, .ref sp, .ref st, .ref pa, .ref br, .ref sg, .int mi, .int 0, .int 0, .int 0, .int fo, .int 0, .long pe, .long pn, .long re, .long rn, .int th]))] H := hP
  have hD : va_D A [(st, .inl (cst, 9, .inl (upd (upd (upd (upd (upd (upd (upd (upd (upd (fun _ => 0) 0 900) 1 900) 2 900) 3 900) 4 900) 5 900) 6 900) 7 900) 8 900))), (q1, .inl (cA2, 3, .inl (upd (fun _ => 0) 2 0))), (q3, .inl (cA4, 9, .inl (fun _ => 0))), (sp, .inl (csp, 9, .inl (fun _ => 0))), (br, .inl (cbr, 3, .inl (fun _ => 0))), (mo, .inr (19, [.int 0, .int 0, .int 0, .int 0, .int 0, .int 0, .int tu, .ref ti, .ref si, .ref lo, .ref lh, .ref lk, .ref sp, .ref st, .ref pa, .ref br, .ref sg, .int mi, .int 0, .int 0, .int 0, .int fo, .int 0, .long pe, .long pn, .long re, .long rn, .int th]))] := hD
  rw [k_updsame (f := (fun _ => 0)) (i := 2) (x := 0) rfl] at hP hD
  refine lv_iinc (v := 7) (lv' := [(3, .int 7), (2, .ref q3), (1, .ref q1), (0, .ref mo)]) hx hb dX15_strain_117 hl (k := 0) rfl (by decide +kernel) (by decide) rfl (fun ls hl => ?_)
  refine lv_goto (tgt := 36) hx hb dX15_strain_120 (by decide) ?_
  refine lv_iload_n hx hb dX15_strain_36 rfl (lv_at hl 0 rfl) ?_
  refine lv_bipush (v := 9) hx hb dX15_strain_37 (by decide) ?_
  refine lv_icmp_ge (tgt := 123) hx hb dX15_strain_39 (by decide) (fun c_ => absurd c_ (by decide +kernel)) (fun _ => ?_)
  refine lv_aload_n hx hb dX15_strain_42 rfl (lv_at hl 1 rfl) ?_
  refine lv_iload_n hx hb dX15_strain_43 rfl (lv_at hl 0 rfl) ?_
  refine va_iald hx hb hK hP 2 4 rfl rfl (pk_in 7 9 (by decide) rfl) dX15_strain_44 ?_
  refine kc_v (y := .int 0) rfl ?_
  refine lv_aload_n hx hb dX15_strain_45 rfl (lv_at hl 3 rfl) ?_
  refine va_get (D := (dC, dI)) (ci := 19) (v := .ref st) (C := RX15) (T := TX15) (N := 28) hx hb hts hiX15 hown hK hP 5 rfl rfl 13 (by decide) (hts (.fieldLink RX15 32 "SquareRigModel" "strength" "[I") (by decide +kernel)) (fun _ h9 => h9) rfl dX15_strain_46 ?_
  refine lv_iload_n hx hb dX15_strain_49 rfl (lv_at hl 0 rfl) ?_
  refine va_iald hx hb hK hP 0 1 rfl rfl (pk_in 7 9 (by decide) rfl) dX15_strain_50 ?_
  refine kc_v (y := .int 900) rfl ?_
  refine lv_icmp_le (tgt := 77) hx hb dX15_strain_51 (by decide) (fun _ => ?_) (fun c_ => absurd (by decide +kernel) c_)
  refine lv_aload_n hx hb dX15_strain_77 rfl (lv_at hl 3 rfl) ?_
  refine va_get (D := (dC, dI)) (ci := 19) (v := .ref st) (C := RX15) (T := TX15) (N := 28) hx hb hts hiX15 hown hK hP 5 rfl rfl 13 (by decide) (hts (.fieldLink RX15 32 "SquareRigModel" "strength" "[I") (by decide +kernel)) (fun _ h9 => h9) rfl dX15_strain_78 ?_
  refine lv_iload_n hx hb dX15_strain_81 rfl (lv_at hl 0 rfl) ?_
  refine lv_dup2_11 hx hb dX15_strain_82 rfl rfl ?_
  refine va_iald hx hb hK hP 0 1 rfl rfl (pk_in 7 9 (by decide) rfl) dX15_strain_83 ?_
  refine kc_v (y := .int 900) rfl ?_
  refine lv_iconst (v := 2) hx hb dX15_strain_84 (by decide) ?_
  refine lv_aload_n hx hb dX15_strain_85 rfl (lv_at hl 1 rfl) ?_
  refine lv_iload_n hx hb dX15_strain_86 rfl (lv_at hl 0 rfl) ?_
  refine va_iald hx hb hK hP 2 4 rfl rfl (pk_in 7 9 (by decide) rfl) dX15_strain_87 ?_
  refine kc_v (y := .int 0) rfl ?_
  refine lv_imul hx hb dX15_strain_88 ?_
  refine kc_i (y := 0) (by decide +kernel) ?_
  refine lv_aload_n hx hb dX15_strain_89 rfl (lv_at hl 3 rfl) ?_
  refine va_get (D := (dC, dI)) (ci := 19) (v := .ref st) (C := RX15) (T := TX15) (N := 28) hx hb hts hiX15 hown hK hP 5 rfl rfl 13 (by decide) (hts (.fieldLink RX15 32 "SquareRigModel" "strength" "[I") (by decide +kernel)) (fun _ h9 => h9) rfl dX15_strain_90 ?_
  refine lv_iload_n hx hb dX15_strain_93 rfl (lv_at hl 0 rfl) ?_
  refine va_iald hx hb hK hP 0 1 rfl rfl (pk_in 7 9 (by decide) rfl) dX15_strain_94 ?_
  refine kc_v (y := .int 900) rfl ?_
  refine lv_icmp_le (tgt := 102) hx hb dX15_strain_95 (by decide) (fun _ => ?_) (fun c_ => absurd (by decide +kernel) c_)
  refine lv_iconst (v := 0) hx hb dX15_strain_102 (by decide) ?_
  refine lv_isub hx hb dX15_strain_103 ?_
  refine kc_i (y := 900) (by decide +kernel) ?_
  refine va_iast hx hb hK hP hD hS 0 1 rfl rfl (pk_in 7 9 (by decide) rfl) dX15_strain_104 (fun H locs hP hD hS => ?_)
  have hP : va_P (dC, dI) vwCl [(st, .inl (cst, 9, .inl (upd (upd (upd (upd (upd (upd (upd (upd (upd (upd (fun _ => 0) 0 900) 1 900) 2 900) 3 900) 4 900) 5 900) 6 900) 7 900) 8 900) 7 900))), (q1, .inl (cA2, 3, .inl (fun _ => 0))), (q3, .inl (cA4, 9, .inl (fun _ => 0))), (sp, .inl (csp, 9, .inl (fun _ => 0))), (br, .inl (cbr, 3, .inl (fun _ => 0))), (mo, .inr (19, [.int 0, .int 0, .int 0, .int 0, .int 0, .int 0, .int tu, .ref ti, .ref si, .ref lo, .ref lh, .ref lk, .ref sp, .ref st, .ref pa, .ref br, .ref sg, .int mi, .int 0, .int 0, .int 0, .int fo, .int 0, .long pe, .long pn, .long re, .long rn, .int th]))] H := hP
  have hD : va_D A [(st, .inl (cst, 9, .inl (upd (upd (upd (upd (upd (upd (upd (upd (upd (upd (fun _ => 0) 0 900) 1 900) 2 900) 3 900) 4 900) 5 900) 6 900) 7 900) 8 900) 7 900))), (q1, .inl (cA2, 3, .inl (fun _ => 0))), (q3, .inl (cA4, 9, .inl (fun _ => 0))), (sp, .inl (csp, 9, .inl (fun _ => 0))), (br, .inl (cbr, 3, .inl (fun _ => 0))), (mo, .inr (19, [.int 0, .int 0, .int 0, .int 0, .int 0, .int 0, .int tu, .ref ti, .ref si, .ref lo, .ref lh, .ref lk, .ref sp, .ref st, .ref pa, .ref br, .ref sg, .int mi, .int 0, .int 0, .int 0, .int fo, .int 0, .long pe, .long pn, .long re, .long rn, .int th]))] := hD
  rw [k_updsame (f := (upd (upd (upd (upd (upd (upd (upd (upd (upd (fun _ => 0) 0 900) 1 900) 2 900) 3 900) 4 900) 5 900) 6 900) 7 900) 8 900)) (i := 7) (x := 900) rfl] at hP hD
  refine lv_aload_n hx hb dX15_strain_105 rfl (lv_at hl 2 rfl) ?_
  refine lv_iload_n hx hb dX15_strain_106 rfl (lv_at hl 0 rfl) ?_
  have hPc := hP.sub (ws' := []) [] rfl
  have hDc := hD.sub (ws' := []) [] (by decide) rfl
  have hKc := hK.sub (tys' := []) [] rfl
  have hFc := va_free (wc := []) hD hS hA [] rfl
  refine va_calli (va_runS (As := [.int 7]) (rest := [.ref q1]) ⟨hx, hb, hml, hown, hts⟩ (k_mast_7 l dC dI z zK zV  H.size) (va_cwS 1 hts gX15_strain_X15_mast rfl rfl rfl (by decide +kernel) ⟨Nat.le_of_ble_eq_true rfl, Nat.le_of_ble_eq_true rfl⟩) ⟨kP_blind, kP_go hPc hKc hDc hFc hM hS⟩ rfl rfl hl.1 rfl (lv_room (Nat.le_of_ble_eq_true rfl)) dX15_strain_107 ⟨Nat.le_of_ble_eq_true rfl, Nat.le_of_ble_eq_true rfl⟩) hS (fun q _ h => hFc q h) hFc (fun r21 u t H1 locs ht hvm hw hB hz1 hk1 hS => ?_)
  obtain ⟨hP, hD, hK⟩ := kJ (wr := [(st, .inl (cst, 9, .inl (upd (upd (upd (upd (upd (upd (upd (upd (upd (fun _ => 0) 0 900) 1 900) 2 900) 3 900) 4 900) 5 900) 6 900) 7 900) 8 900))), (q1, .inl (cA2, 3, .inl (fun _ => 0))), (q3, .inl (cA4, 9, .inl (fun _ => 0))), (sp, .inl (csp, 9, .inl (fun _ => 0))), (br, .inl (cbr, 3, .inl (fun _ => 0))), (mo, .inr (19, [.int 0, .int 0, .int 0, .int 0, .int 0, .int 0, .int tu, .ref ti, .ref si, .ref lo, .ref lh, .ref lk, .ref sp, .ref st, .ref pa, .ref br, .ref sg, .int mi, .int 0, .int 0, .int 0, .int fo, .int 0, .long pe, .long pn, .long re, .long rn, .int th]))]) (w1 := []) (t1 := []) hP hD hK [] [0, 1, 2, 3, 4, 5] rfl rfl (by decide) (by decide) hk1 hFc ht hvm hB
  generalize H1 = H at hP hS ⊢
  have hP : va_P (dC, dI) vwCl [(st, .inl (cst, 9, .inl (upd (upd (upd (upd (upd (upd (upd (upd (upd (fun _ => 0) 0 900) 1 900) 2 900) 3 900) 4 900) 5 900) 6 900) 7 900) 8 900))), (q1, .inl (cA2, 3, .inl (fun _ => 0))), (q3, .inl (cA4, 9, .inl (fun _ => 0))), (sp, .inl (csp, 9, .inl (fun _ => 0))), (br, .inl (cbr, 3, .inl (fun _ => 0))), (mo, .inr (19, [.int 0, .int 0, .int 0, .int 0, .int 0, .int 0, .int tu, .ref ti, .ref si, .ref lo, .ref lh, .ref lk, .ref sp, .ref st, .ref pa, .ref br, .ref sg, .int mi, .int 0, .int 0, .int 0, .int fo, .int 0, .long pe, .long pn, .long re, .long rn, .int th]))] H := hP
  have hD : va_D A [(st, .inl (cst, 9, .inl (upd (upd (upd (upd (upd (upd (upd (upd (upd (fun _ => 0) 0 900) 1 900) 2 900) 3 900) 4 900) 5 900) 6 900) 7 900) 8 900))), (q1, .inl (cA2, 3, .inl (fun _ => 0))), (q3, .inl (cA4, 9, .inl (fun _ => 0))), (sp, .inl (csp, 9, .inl (fun _ => 0))), (br, .inl (cbr, 3, .inl (fun _ => 0))), (mo, .inr (19, [.int 0, .int 0, .int 0, .int 0, .int 0, .int 0, .int tu, .ref ti, .ref si, .ref lo, .ref lh, .ref lk, .ref sp, .ref st, .ref pa, .ref br, .ref sg, .int mi, .int 0, .int 0, .int 0, .int fo, .int 0, .long pe, .long pn, .long re, .long rn, .int th]))] := hD
  have hK : va_K (dC, dI) vwCl [(csp, .int), (cst, .int), (cbr, .int), (cA2, .int), (cA4, .int)] s := hK
  obtain rfl : 0 = r21 := hw
  refine lv_dup2_11 hx hb dX15_strain_110 rfl rfl ?_
  refine va_iald hx hb hK hP 1 3 rfl rfl (pk_in 0 3 (by decide) rfl) dX15_strain_111 ?_
  refine kc_v (y := .int 0) rfl ?_
  refine lv_aload_n hx hb dX15_strain_112 rfl (lv_at hl 1 rfl) ?_
  refine lv_iload_n hx hb dX15_strain_113 rfl (lv_at hl 0 rfl) ?_
  refine va_iald hx hb hK hP 2 4 rfl rfl (pk_in 7 9 (by decide) rfl) dX15_strain_114 ?_
  refine kc_v (y := .int 0) rfl ?_
  refine lv_iadd hx hb dX15_strain_115 ?_
  refine kc_i (y := 0) (by decide +kernel) ?_
  refine va_iast hx hb hK hP hD hS 1 3 rfl rfl (pk_in 0 3 (by decide) rfl) dX15_strain_116 (fun H locs hP hD hS => ?_)
  have hP : va_P (dC, dI) vwCl [(st, .inl (cst, 9, .inl (upd (upd (upd (upd (upd (upd (upd (upd (upd (fun _ => 0) 0 900) 1 900) 2 900) 3 900) 4 900) 5 900) 6 900) 7 900) 8 900))), (q1, .inl (cA2, 3, .inl (upd (fun _ => 0) 0 0))), (q3, .inl (cA4, 9, .inl (fun _ => 0))), (sp, .inl (csp, 9, .inl (fun _ => 0))), (br, .inl (cbr, 3, .inl (fun _ => 0))), (mo, .inr (19, [.int 0, .int 0, .int 0, .int 0, .int 0, .int 0, .int tu, .ref ti, .ref si, .ref lo, .ref lh, .ref lk, .ref sp, .ref st, .ref pa, .ref br, .ref sg, .int mi, .int 0, .int 0, .int 0, .int fo, .int 0, .long pe, .long pn, .long re, .long rn, .int th]))] H := hP
  have hD : va_D A [(st, .inl (cst, 9, .inl (upd (upd (upd (upd (upd (upd (upd (upd (upd (fun _ => 0) 0 900) 1 900) 2 900) 3 900) 4 900) 5 900) 6 900) 7 900) 8 900))), (q1, .inl (cA2, 3, .inl (upd (fun _ => 0) 0 0))), (q3, .inl (cA4, 9, .inl (fun _ => 0))), (sp, .inl (csp, 9, .inl (fun _ => 0))), (br, .inl (cbr, 3, .inl (fun _ => 0))), (mo, .inr (19, [.int 0, .int 0, .int 0, .int 0, .int 0, .int 0, .int tu, .ref ti, .ref si, .ref lo, .ref lh, .ref lk, .ref sp, .ref st, .ref pa, .ref br, .ref sg, .int mi, .int 0, .int 0, .int 0, .int fo, .int 0, .long pe, .long pn, .long re, .long rn, .int th]))] := hD
  rw [k_updsame (f := (fun _ => 0)) (i := 0) (x := 0) rfl] at hP hD
  refine lv_iinc (v := 8) (lv' := [(3, .int 8), (2, .ref q3), (1, .ref q1), (0, .ref mo)]) hx hb dX15_strain_117 hl (k := 0) rfl (by decide +kernel) (by decide) rfl (fun ls hl => ?_)
  refine lv_goto (tgt := 36) hx hb dX15_strain_120 (by decide) ?_
  refine lv_iload_n hx hb dX15_strain_36 rfl (lv_at hl 0 rfl) ?_
  refine lv_bipush (v := 9) hx hb dX15_strain_37 (by decide) ?_
  refine lv_icmp_ge (tgt := 123) hx hb dX15_strain_39 (by decide) (fun c_ => absurd c_ (by decide +kernel)) (fun _ => ?_)
  refine lv_aload_n hx hb dX15_strain_42 rfl (lv_at hl 1 rfl) ?_
  refine lv_iload_n hx hb dX15_strain_43 rfl (lv_at hl 0 rfl) ?_
  refine va_iald hx hb hK hP 2 4 rfl rfl (pk_in 8 9 (by decide) rfl) dX15_strain_44 ?_
  refine kc_v (y := .int 0) rfl ?_
  refine lv_aload_n hx hb dX15_strain_45 rfl (lv_at hl 3 rfl) ?_
  refine va_get (D := (dC, dI)) (ci := 19) (v := .ref st) (C := RX15) (T := TX15) (N := 28) hx hb hts hiX15 hown hK hP 5 rfl rfl 13 (by decide) (hts (.fieldLink RX15 32 "SquareRigModel" "strength" "[I") (by decide +kernel)) (fun _ h9 => h9) rfl dX15_strain_46 ?_
  refine lv_iload_n hx hb dX15_strain_49 rfl (lv_at hl 0 rfl) ?_
  refine va_iald hx hb hK hP 0 1 rfl rfl (pk_in 8 9 (by decide) rfl) dX15_strain_50 ?_
  refine kc_v (y := .int 900) rfl ?_
  refine lv_icmp_le (tgt := 77) hx hb dX15_strain_51 (by decide) (fun _ => ?_) (fun c_ => absurd (by decide +kernel) c_)
  refine lv_aload_n hx hb dX15_strain_77 rfl (lv_at hl 3 rfl) ?_
  refine va_get (D := (dC, dI)) (ci := 19) (v := .ref st) (C := RX15) (T := TX15) (N := 28) hx hb hts hiX15 hown hK hP 5 rfl rfl 13 (by decide) (hts (.fieldLink RX15 32 "SquareRigModel" "strength" "[I") (by decide +kernel)) (fun _ h9 => h9) rfl dX15_strain_78 ?_
  refine lv_iload_n hx hb dX15_strain_81 rfl (lv_at hl 0 rfl) ?_
  refine lv_dup2_11 hx hb dX15_strain_82 rfl rfl ?_
  refine va_iald hx hb hK hP 0 1 rfl rfl (pk_in 8 9 (by decide) rfl) dX15_strain_83 ?_
  refine kc_v (y := .int 900) rfl ?_
  refine lv_iconst (v := 2) hx hb dX15_strain_84 (by decide) ?_
  refine lv_aload_n hx hb dX15_strain_85 rfl (lv_at hl 1 rfl) ?_
  refine lv_iload_n hx hb dX15_strain_86 rfl (lv_at hl 0 rfl) ?_
  refine va_iald hx hb hK hP 2 4 rfl rfl (pk_in 8 9 (by decide) rfl) dX15_strain_87 ?_
  refine kc_v (y := .int 0) rfl ?_
  refine lv_imul hx hb dX15_strain_88 ?_
  refine kc_i (y := 0) (by decide +kernel) ?_
  refine lv_aload_n hx hb dX15_strain_89 rfl (lv_at hl 3 rfl) ?_
  refine va_get (D := (dC, dI)) (ci := 19) (v := .ref st) (C := RX15) (T := TX15) (N := 28) hx hb hts hiX15 hown hK hP 5 rfl rfl 13 (by decide) (hts (.fieldLink RX15 32 "SquareRigModel" "strength" "[I") (by decide +kernel)) (fun _ h9 => h9) rfl dX15_strain_90 ?_
  refine lv_iload_n hx hb dX15_strain_93 rfl (lv_at hl 0 rfl) ?_
  refine va_iald hx hb hK hP 0 1 rfl rfl (pk_in 8 9 (by decide) rfl) dX15_strain_94 ?_
  refine kc_v (y := .int 900) rfl ?_
  refine lv_icmp_le (tgt := 102) hx hb dX15_strain_95 (by decide) (fun _ => ?_) (fun c_ => absurd (by decide +kernel) c_)
  refine lv_iconst (v := 0) hx hb dX15_strain_102 (by decide) ?_
  refine lv_isub hx hb dX15_strain_103 ?_
  refine kc_i (y := 900) (by decide +kernel) ?_
  refine va_iast hx hb hK hP hD hS 0 1 rfl rfl (pk_in 8 9 (by decide) rfl) dX15_strain_104 (fun H locs hP hD hS => ?_)
  have hP : va_P (dC, dI) vwCl [(st, .inl (cst, 9, .inl (upd (upd (upd (upd (upd (upd (upd (upd (upd (upd (fun _ => 0) 0 900) 1 900) 2 900) 3 900) 4 900) 5 900) 6 900) 7 900) 8 900) 8 900))), (q1, .inl (cA2, 3, .inl (fun _ => 0))), (q3, .inl (cA4, 9, .inl (fun _ => 0))), (sp, .inl (csp, 9, .inl (fun _ => 0))), (br, .inl (cbr, 3, .inl (fun _ => 0))), (mo, .inr (19, [.int 0, .int 0, .int 0, .int 0, .int 0, .int 0, .int tu, .ref ti, .ref si, .ref lo, .ref lh, .ref lk, .ref sp, .ref st, .ref pa, .ref br, .ref sg, .int mi, .int 0, .int 0, .int 0, .int fo, .int 0, .long pe, .long pn, .long re, .long rn, .int th]))] H := hP
  have hD : va_D A [(st, .inl (cst, 9, .inl (upd (upd (upd (upd (upd (upd (upd (upd (upd (upd (fun _ => 0) 0 900) 1 900) 2 900) 3 900) 4 900) 5 900) 6 900) 7 900) 8 900) 8 900))), (q1, .inl (cA2, 3, .inl (fun _ => 0))), (q3, .inl (cA4, 9, .inl (fun _ => 0))), (sp, .inl (csp, 9, .inl (fun _ => 0))), (br, .inl (cbr, 3, .inl (fun _ => 0))), (mo, .inr (19, [.int 0, .int 0, .int 0, .int 0, .int 0, .int 0, .int tu, .ref ti, .ref si, .ref lo, .ref lh, .ref lk, .ref sp, .ref st, .ref pa, .ref br, .ref sg, .int mi, .int 0, .int 0, .int 0, .int fo, .int 0, .long pe, .long pn, .long re, .long rn, .int th]))] := hD
  rw [k_updsame (f := (upd (upd (upd (upd (upd (upd (upd (upd (upd (fun _ => 0) 0 900) 1 900) 2 900) 3 900) 4 900) 5 900) 6 900) 7 900) 8 900)) (i := 8) (x := 900) rfl] at hP hD
  refine lv_aload_n hx hb dX15_strain_105 rfl (lv_at hl 2 rfl) ?_
  refine lv_iload_n hx hb dX15_strain_106 rfl (lv_at hl 0 rfl) ?_
  have hPc := hP.sub (ws' := []) [] rfl
  have hDc := hD.sub (ws' := []) [] (by decide) rfl
  have hKc := hK.sub (tys' := []) [] rfl
  have hFc := va_free (wc := []) hD hS hA [] rfl
  refine va_calli (va_runS (As := [.int 8]) (rest := [.ref q1]) ⟨hx, hb, hml, hown, hts⟩ (k_mast_8 l dC dI z zK zV  H.size) (va_cwS 1 hts gX15_strain_X15_mast rfl rfl rfl (by decide +kernel) ⟨Nat.le_of_ble_eq_true rfl, Nat.le_of_ble_eq_true rfl⟩) ⟨kP_blind, kP_go hPc hKc hDc hFc hM hS⟩ rfl rfl hl.1 rfl (lv_room (Nat.le_of_ble_eq_true rfl)) dX15_strain_107 ⟨Nat.le_of_ble_eq_true rfl, Nat.le_of_ble_eq_true rfl⟩) hS (fun q _ h => hFc q h) hFc (fun r22 u t H1 locs ht hvm hw hB hz1 hk1 hS => ?_)
  obtain ⟨hP, hD, hK⟩ := kJ (wr := [(st, .inl (cst, 9, .inl (upd (upd (upd (upd (upd (upd (upd (upd (upd (fun _ => 0) 0 900) 1 900) 2 900) 3 900) 4 900) 5 900) 6 900) 7 900) 8 900))), (q1, .inl (cA2, 3, .inl (fun _ => 0))), (q3, .inl (cA4, 9, .inl (fun _ => 0))), (sp, .inl (csp, 9, .inl (fun _ => 0))), (br, .inl (cbr, 3, .inl (fun _ => 0))), (mo, .inr (19, [.int 0, .int 0, .int 0, .int 0, .int 0, .int 0, .int tu, .ref ti, .ref si, .ref lo, .ref lh, .ref lk, .ref sp, .ref st, .ref pa, .ref br, .ref sg, .int mi, .int 0, .int 0, .int 0, .int fo, .int 0, .long pe, .long pn, .long re, .long rn, .int th]))]) (w1 := []) (t1 := []) hP hD hK [] [0, 1, 2, 3, 4, 5] rfl rfl (by decide) (by decide) hk1 hFc ht hvm hB
  generalize H1 = H at hP hS ⊢
  have hP : va_P (dC, dI) vwCl [(st, .inl (cst, 9, .inl (upd (upd (upd (upd (upd (upd (upd (upd (upd (fun _ => 0) 0 900) 1 900) 2 900) 3 900) 4 900) 5 900) 6 900) 7 900) 8 900))), (q1, .inl (cA2, 3, .inl (fun _ => 0))), (q3, .inl (cA4, 9, .inl (fun _ => 0))), (sp, .inl (csp, 9, .inl (fun _ => 0))), (br, .inl (cbr, 3, .inl (fun _ => 0))), (mo, .inr (19, [.int 0, .int 0, .int 0, .int 0, .int 0, .int 0, .int tu, .ref ti, .ref si, .ref lo, .ref lh, .ref lk, .ref sp, .ref st, .ref pa, .ref br, .ref sg, .int mi, .int 0, .int 0, .int 0, .int fo, .int 0, .long pe, .long pn, .long re, .long rn, .int th]))] H := hP
  have hD : va_D A [(st, .inl (cst, 9, .inl (upd (upd (upd (upd (upd (upd (upd (upd (upd (fun _ => 0) 0 900) 1 900) 2 900) 3 900) 4 900) 5 900) 6 900) 7 900) 8 900))), (q1, .inl (cA2, 3, .inl (fun _ => 0))), (q3, .inl (cA4, 9, .inl (fun _ => 0))), (sp, .inl (csp, 9, .inl (fun _ => 0))), (br, .inl (cbr, 3, .inl (fun _ => 0))), (mo, .inr (19, [.int 0, .int 0, .int 0, .int 0, .int 0, .int 0, .int tu, .ref ti, .ref si, .ref lo, .ref lh, .ref lk, .ref sp, .ref st, .ref pa, .ref br, .ref sg, .int mi, .int 0, .int 0, .int 0, .int fo, .int 0, .long pe, .long pn, .long re, .long rn, .int th]))] := hD
  have hK : va_K (dC, dI) vwCl [(csp, .int), (cst, .int), (cbr, .int), (cA2, .int), (cA4, .int)] s := hK
  obtain rfl : 2 = r22 := hw
  refine lv_dup2_11 hx hb dX15_strain_110 rfl rfl ?_
  refine va_iald hx hb hK hP 1 3 rfl rfl (pk_in 2 3 (by decide) rfl) dX15_strain_111 ?_
  refine kc_v (y := .int 0) rfl ?_
  refine lv_aload_n hx hb dX15_strain_112 rfl (lv_at hl 1 rfl) ?_
  refine lv_iload_n hx hb dX15_strain_113 rfl (lv_at hl 0 rfl) ?_
  refine va_iald hx hb hK hP 2 4 rfl rfl (pk_in 8 9 (by decide) rfl) dX15_strain_114 ?_
  refine kc_v (y := .int 0) rfl ?_
  refine lv_iadd hx hb dX15_strain_115 ?_
  refine kc_i (y := 0) (by decide +kernel) ?_
  refine va_iast hx hb hK hP hD hS 1 3 rfl rfl (pk_in 2 3 (by decide) rfl) dX15_strain_116 (fun H locs hP hD hS => ?_)
  have hP : va_P (dC, dI) vwCl [(st, .inl (cst, 9, .inl (upd (upd (upd (upd (upd (upd (upd (upd (upd (fun _ => 0) 0 900) 1 900) 2 900) 3 900) 4 900) 5 900) 6 900) 7 900) 8 900))), (q1, .inl (cA2, 3, .inl (upd (fun _ => 0) 2 0))), (q3, .inl (cA4, 9, .inl (fun _ => 0))), (sp, .inl (csp, 9, .inl (fun _ => 0))), (br, .inl (cbr, 3, .inl (fun _ => 0))), (mo, .inr (19, [.int 0, .int 0, .int 0, .int 0, .int 0, .int 0, .int tu, .ref ti, .ref si, .ref lo, .ref lh, .ref lk, .ref sp, .ref st, .ref pa, .ref br, .ref sg, .int mi, .int 0, .int 0, .int 0, .int fo, .int 0, .long pe, .long pn, .long re, .long rn, .int th]))] H := hP
  have hD : va_D A [(st, .inl (cst, 9, .inl (upd (upd (upd (upd (upd (upd (upd (upd (upd (fun _ => 0) 0 900) 1 900) 2 900) 3 900) 4 900) 5 900) 6 900) 7 900) 8 900))), (q1, .inl (cA2, 3, .inl (upd (fun _ => 0) 2 0))), (q3, .inl (cA4, 9, .inl (fun _ => 0))), (sp, .inl (csp, 9, .inl (fun _ => 0))), (br, .inl (cbr, 3, .inl (fun _ => 0))), (mo, .inr (19, [.int 0, .int 0, .int 0, .int 0, .int 0, .int 0, .int tu, .ref ti, .ref si, .ref lo, .ref lh, .ref lk, .ref sp, .ref st, .ref pa, .ref br, .ref sg, .int mi, .int 0, .int 0, .int 0, .int fo, .int 0, .long pe, .long pn, .long re, .long rn, .int th]))] := hD
  rw [k_updsame (f := (fun _ => 0)) (i := 2) (x := 0) rfl] at hP hD
  refine lv_iinc (v := 9) (lv' := [(3, .int 9), (2, .ref q3), (1, .ref q1), (0, .ref mo)]) hx hb dX15_strain_117 hl (k := 0) rfl (by decide +kernel) (by decide) rfl (fun ls hl => ?_)
  refine lv_goto (tgt := 36) hx hb dX15_strain_120 (by decide) ?_
  refine lv_iload_n hx hb dX15_strain_36 rfl (lv_at hl 0 rfl) ?_
  refine lv_bipush (v := 9) hx hb dX15_strain_37 (by decide) ?_
  refine lv_icmp_ge (tgt := 123) hx hb dX15_strain_39 (by decide) (fun _ => ?_) (fun c_ => absurd (by decide +kernel) c_)
  refine lv_iconst (v := 0) hx hb dX15_strain_123 (by decide) ?_
  refine lv_istore_n (lv' := [(3, .int 0), (2, .ref q3), (1, .ref q1), (0, .ref mo)]) hx hb dX15_strain_124 rfl hl (by decide) rfl (fun ls hl => ?_)
  refine lv_iload_n hx hb dX15_strain_125 rfl (lv_at hl 0 rfl) ?_
  refine lv_iconst (v := 3) hx hb dX15_strain_126 (by decide) ?_
  refine lv_icmp_ge (tgt := 232) hx hb dX15_strain_127 (by decide) (fun c_ => absurd c_ (by decide +kernel)) (fun _ => ?_)
  refine lv_aload_n hx hb dX15_strain_130 rfl (lv_at hl 2 rfl) ?_
  refine lv_iload_n hx hb dX15_strain_131 rfl (lv_at hl 0 rfl) ?_
  refine va_iald hx hb hK hP 1 3 rfl rfl (pk_in 0 3 (by decide) rfl) dX15_strain_132 ?_
  refine kc_v (y := .int 0) rfl ?_
  refine lv_sipush (v := 2000) hx hb dX15_strain_133 (by decide) ?_
  refine lv_icmp_le (tgt := 226) hx hb dX15_strain_136 (by decide) (fun _ => ?_) (fun c_ => absurd (by decide +kernel) c_)
  refine lv_iinc (v := 1) (lv' := [(3, .int 1), (2, .ref q3), (1, .ref q1), (0, .ref mo)]) hx hb dX15_strain_226 hl (k := 0) rfl (by decide +kernel) (by decide) rfl (fun ls hl => ?_)
  refine lv_goto (tgt := 125) hx hb dX15_strain_229 (by decide) ?_
  refine lv_iload_n hx hb dX15_strain_125 rfl (lv_at hl 0 rfl) ?_
  refine lv_iconst (v := 3) hx hb dX15_strain_126 (by decide) ?_
  refine lv_icmp_ge (tgt := 232) hx hb dX15_strain_127 (by decide) (fun c_ => absurd c_ (by decide +kernel)) (fun _ => ?_)
  refine lv_aload_n hx hb dX15_strain_130 rfl (lv_at hl 2 rfl) ?_
  refine lv_iload_n hx hb dX15_strain_131 rfl (lv_at hl 0 rfl) ?_
  refine va_iald hx hb hK hP 1 3 rfl rfl (pk_in 1 3 (by decide) rfl) dX15_strain_132 ?_
  refine kc_v (y := .int 0) rfl ?_
  refine lv_sipush (v := 2000) hx hb dX15_strain_133 (by decide) ?_
  refine lv_icmp_le (tgt := 226) hx hb dX15_strain_136 (by decide) (fun _ => ?_) (fun c_ => absurd (by decide +kernel) c_)
  refine lv_iinc (v := 2) (lv' := [(3, .int 2), (2, .ref q3), (1, .ref q1), (0, .ref mo)]) hx hb dX15_strain_226 hl (k := 0) rfl (by decide +kernel) (by decide) rfl (fun ls hl => ?_)
  refine lv_goto (tgt := 125) hx hb dX15_strain_229 (by decide) ?_
  refine lv_iload_n hx hb dX15_strain_125 rfl (lv_at hl 0 rfl) ?_
  refine lv_iconst (v := 3) hx hb dX15_strain_126 (by decide) ?_
  refine lv_icmp_ge (tgt := 232) hx hb dX15_strain_127 (by decide) (fun c_ => absurd c_ (by decide +kernel)) (fun _ => ?_)
  refine lv_aload_n hx hb dX15_strain_130 rfl (lv_at hl 2 rfl) ?_
  refine lv_iload_n hx hb dX15_strain_131 rfl (lv_at hl 0 rfl) ?_
  refine va_iald hx hb hK hP 1 3 rfl rfl (pk_in 2 3 (by decide) rfl) dX15_strain_132 ?_
  refine kc_v (y := .int 0) rfl ?_
  refine lv_sipush (v := 2000) hx hb dX15_strain_133 (by decide) ?_
  refine lv_icmp_le (tgt := 226) hx hb dX15_strain_136 (by decide) (fun _ => ?_) (fun c_ => absurd (by decide +kernel) c_)
  refine lv_iinc (v := 3) (lv' := [(3, .int 3), (2, .ref q3), (1, .ref q1), (0, .ref mo)]) hx hb dX15_strain_226 hl (k := 0) rfl (by decide +kernel) (by decide) rfl (fun ls hl => ?_)
  refine lv_goto (tgt := 125) hx hb dX15_strain_229 (by decide) ?_
  refine lv_iload_n hx hb dX15_strain_125 rfl (lv_at hl 0 rfl) ?_
  refine lv_iconst (v := 3) hx hb dX15_strain_126 (by decide) ?_
  refine lv_icmp_ge (tgt := 232) hx hb dX15_strain_127 (by decide) (fun _ => ?_) (fun c_ => absurd (by decide +kernel) c_)
  refine W.widen (k := 2) (n := 12) (Nat.le_of_ble_eq_true rfl) (Nat.le_of_ble_eq_true rfl) ?_
  exact W.vret hx hb hr (fun t ht hW => ⟨⟨(), rfl, trivial, kB_end (w9 := [(st, .inl (cst, 9, .inl (upd (upd (upd (upd (upd (upd (upd (upd (upd (fun _ => 0) 0 900) 1 900) 2 900) 3 900) 4 900) 5 900) 6 900) 7 900) 8 900))), (sp, .inl (csp, 9, .inl (fun _ => 0))), (br, .inl (cbr, 3, .inl (fun _ => 0))), (mo, .inr (19, [.int 0, .int 0, .int 0, .int 0, .int 0, .int 0, .int tu, .ref ti, .ref si, .ref lo, .ref lh, .ref lk, .ref sp, .ref st, .ref pa, .ref br, .ref sg, .int mi, .int 0, .int 0, .int 0, .int fo, .int 0, .long pe, .long pn, .long re, .long rn, .int th]))]) (t9 := []) hP hK hD [0, 3, 4, 5] [] rfl (by decide) rfl rfl t ht hW⟩, hS.F ht⟩) hS.2.2 dX15_strain_232
abbrev wd_k_turnShip (z : Nat → Nat) (mi : Int32) (fo : Int32) (pe : Int64) (pn : Int64) (re : Int64) (rn : Int64) (mo : Nat) (ti : Nat) (si : Nat) (lo : Nat) (lh : Nat) (lk : Nat) (sp : Nat) (st : Nat) (pa : Nat) (br : Nat) (sg : Nat) (csp : ClassId) (cbr : ClassId) (th : Int32) (tu : Int32) : va_W := [(mo, .inr (19, [.int 0, .int 0, .int 0, .int 0, .int 0, .int 0, .int tu, .ref ti, .ref si, .ref lo, .ref lh, .ref lk, .ref sp, .ref st, .ref pa, .ref br, .ref sg, .int mi, .int 0, .int 0, .int 0, .int fo, .int 0, .long pe, .long pn, .long re, .long rn, .int th])), (sp, .inl (csp, 9, .inl (fun _ => 0))), (br, .inl (cbr, 3, .inl (fun _ => 0)))]
set_option maxHeartbeats 4000000 in
set_option maxRecDepth 100000 in
theorem k_turnShip (l : Launch) (dC : Nat → ClassId) (dI : Nat → Nat → Nat) (z zK zV : Nat → Nat) (mi : Int32) (fo : Int32) (pe : Int64) (pn : Int64) (re : Int64) (rn : Int64) (mo : Nat) (ti : Nat) (si : Nat) (lo : Nat) (lh : Nat) (lk : Nat) (sp : Nat) (st : Nat) (pa : Nat) (br : Nat) (sg : Nat) (csp : ClassId) (cbr : ClassId) (th : Int32) (tu : Int32) (sz : Nat) (hfo : ¬ 30 + fo = 0) : Met l yX15_turnShip wsX15_turnShip ({ frames := 9, cells := 0, slots := 0, locals := 194 }) (kP dC dI z zK zV [.ref mo] sz (wd_k_turnShip z mi fo pe pn re rn mo ti si lo lh lk sp st pa br sg csp cbr th tu) [(csp, .int), (cbr, .int)]) (va_Qv (fun _ : Unit => True) (fun _ t => kB (dC, dI) (va_A (wd_k_turnShip z mi fo pe pn re rn mo ti si lo lh lk sp st pa br sg csp cbr th tu) sz) [(sp, .inl (csp, 9, .inl (fun _ => 0))), (br, .inl (cbr, 3, .inl (fun _ => 0))), (mo, .inr (19, [.int 0, .int 0, .int 0, .int 0, .int 0, .int 0, .int tu, .ref ti, .ref si, .ref lo, .ref lh, .ref lk, .ref sp, .ref st, .ref pa, .ref br, .ref sg, .int mi, .int 0, .int 0, .int 0, .int fo, .int 0, .long pe, .long pn, .long re, .long rn, .int th]))] [] t) (va_A (wd_k_turnShip z mi fo pe pn re rn mo ti si lo lh lk sp st pa br sg csp cbr th tu) sz)) 0 0 (va_A (wd_k_turnShip z mi fo pe pn re rn mo ti si lo lh lk sp st pa br sg csp cbr th tu) sz) := by
  refine Met.ofW (cc := cX15_turnShip) (maxL := 5) (ret := none) (by decide) rfl ?_
  intro p e s m args below meth c s₁ B hml hv
  obtain ⟨rfl, hsz, hP, hK, hD0, hM⟩ := hv
  have hx := B.exec
  have hb := B.bytes
  have hr := B.returns
  have hts := atoms_spec (ws := wsX15_turnShip) B.pre
  have hown : s.vm.findClass RX15 = some m.cls := findClass_of_methodNamed B.named
  have hlocks := B.notSynchronized
  have hiX15 : ∀ w ∈ u_ws RX15 TX15 28, w ∈ wsX15_turnShip := by decide +kernel
  subst hsz
  have hD := hD0.self (sz := s.heap.size)
  generalize hAe : va_A (wd_k_turnShip z mi fo pe pn re rn mo ti si lo lh lk sp st pa br sg csp cbr th tu) s.heap.size = A at hD hM ⊢
  have hA : ∀ q : Nat, s.heap.size ≤ q → A q := fun q h => by rw [← hAe]; exact Or.inr h
  have hS : va_S A s.heap s.heap [] := va_S.rf
  have hP : va_P (dC, dI) vwCl [(mo, .inr (19, [.int 0, .int 0, .int 0, .int 0, .int 0, .int 0, .int tu, .ref ti, .ref si, .ref lo, .ref lh, .ref lk, .ref sp, .ref st, .ref pa, .ref br, .ref sg, .int mi, .int 0, .int 0, .int 0, .int fo, .int 0, .long pe, .long pn, .long re, .long rn, .int th])), (sp, .inl (csp, 9, .inl (fun _ => 0))), (br, .inl (cbr, 3, .inl (fun _ => 0)))] s.heap := hP
  have hD : va_D A [(mo, .inr (19, [.int 0, .int 0, .int 0, .int 0, .int 0, .int 0, .int tu, .ref ti, .ref si, .ref lo, .ref lh, .ref lk, .ref sp, .ref st, .ref pa, .ref br, .ref sg, .int mi, .int 0, .int 0, .int 0, .int fo, .int 0, .long pe, .long pn, .long re, .long rn, .int th])), (sp, .inl (csp, 9, .inl (fun _ => 0))), (br, .inl (cbr, 3, .inl (fun _ => 0)))] := hD
  have hl := lv_entry ([.ref mo]) (n := 5) (Nat.le_of_ble_eq_true rfl)
  rw [lg_entry_eq]
  generalize (lg_sl ([.ref mo]) ++ List.replicate (5 - (lg_sl ([.ref mo])).length) Slot.unset).toArray = ls at hl ⊢
  have hl : lv_has ls 5 [(0, .ref mo)] := hl
  refine lv_iconst (v := 0) hx hb dX15_turnShip_0 (by decide) ?_
  refine lv_istore_n (lv' := [(1, .int 0), (0, .ref mo)]) hx hb dX15_turnShip_1 rfl hl (by decide) rfl (fun ls hl => ?_)
  refine lv_iconst (v := 0) hx hb dX15_turnShip_2 (by decide) ?_
  refine lv_istore_n (lv' := [(2, .int 0), (1, .int 0), (0, .ref mo)]) hx hb dX15_turnShip_3 rfl hl (by decide) rfl (fun ls hl => ?_)
  refine lv_iload_n hx hb dX15_turnShip_4 rfl (lv_at hl 0 rfl) ?_
  refine lv_bipush (v := 9) hx hb dX15_turnShip_5 (by decide) ?_
  refine lv_icmp_ge (tgt := 24) hx hb dX15_turnShip_7 (by decide) (fun c_ => absurd c_ (by decide +kernel)) (fun _ => ?_)
  refine lv_iload_n hx hb dX15_turnShip_10 rfl (lv_at hl 1 rfl) ?_
  refine lv_aload_n hx hb dX15_turnShip_11 rfl (lv_at hl 2 rfl) ?_
  refine lv_iload_n hx hb dX15_turnShip_12 rfl (lv_at hl 0 rfl) ?_
  have hPc := hP.sub (ws' := [(mo, .inr (19, [.int 0, .int 0, .int 0, .int 0, .int 0, .int 0, .int tu, .ref ti, .ref si, .ref lo, .ref lh, .ref lk, .ref sp, .ref st, .ref pa, .ref br, .ref sg, .int mi, .int 0, .int 0, .int 0, .int fo, .int 0, .long pe, .long pn, .long re, .long rn, .int th])), (sp, .inl (csp, 9, .inl (fun _ => 0))), (br, .inl (cbr, 3, .inl (fun _ => 0)))]) [0, 1, 2] rfl
  have hDc := hD.sub (ws' := [(mo, .inr (19, [.int 0, .int 0, .int 0, .int 0, .int 0, .int 0, .int tu, .ref ti, .ref si, .ref lo, .ref lh, .ref lk, .ref sp, .ref st, .ref pa, .ref br, .ref sg, .int mi, .int 0, .int 0, .int 0, .int fo, .int 0, .long pe, .long pn, .long re, .long rn, .int th])), (sp, .inl (csp, 9, .inl (fun _ => 0))), (br, .inl (cbr, 3, .inl (fun _ => 0)))]) [0, 1, 2] (by decide) rfl
  have hKc := hK.sub (tys' := [(csp, .int), (cbr, .int)]) [0, 1] rfl
  have hFc := va_free (wc := [(mo, .inr (19, [.int 0, .int 0, .int 0, .int 0, .int 0, .int 0, .int tu, .ref ti, .ref si, .ref lo, .ref lh, .ref lk, .ref sp, .ref st, .ref pa, .ref br, .ref sg, .int mi, .int 0, .int 0, .int 0, .int fo, .int 0, .long pe, .long pn, .long re, .long rn, .int th])), (sp, .inl (csp, 9, .inl (fun _ => 0))), (br, .inl (cbr, 3, .inl (fun _ => 0)))]) hD hS hA [0, 1, 2] rfl
  refine va_calli (va_runV (As := [.int 0]) (rest := [.int 0]) ⟨hx, hb, hml, hown, hts⟩ (k_forceOf_0 l dC dI z zK zV mi fo pe pn re rn mo ti si lo lh lk sp st pa br sg csp cbr th tu s.heap.size) (cwV 1 hts gX15_turnShip_X15_forceOf rfl rfl rfl (by decide +kernel) ⟨Nat.le_of_ble_eq_true rfl, Nat.le_of_ble_eq_true rfl⟩) ⟨kP_blind, va_recv hKc hPc (ci := 19) (q0 := 0) rfl rfl, kP_go hPc hKc hDc hFc hM hS⟩ rfl rfl hl.1 rfl (lv_room (Nat.le_of_ble_eq_true rfl)) dX15_turnShip_13 ⟨Nat.le_of_ble_eq_true rfl, Nat.le_of_ble_eq_true rfl⟩) hS (fun q _ h => hFc q h) hFc (fun r1 u t H1 locs ht hvm hw hB hz1 hk1 hS => ?_)
  obtain ⟨hP, hD, hK⟩ := kJ (wr := []) (w1 := [(sp, .inl (csp, 9, .inl (fun _ => 0))), (br, .inl (cbr, 3, .inl (fun _ => 0))), (mo, .inr (19, [.int 0, .int 0, .int 0, .int 0, .int 0, .int 0, .int tu, .ref ti, .ref si, .ref lo, .ref lh, .ref lk, .ref sp, .ref st, .ref pa, .ref br, .ref sg, .int mi, .int 0, .int 0, .int 0, .int fo, .int 0, .long pe, .long pn, .long re, .long rn, .int th]))]) (t1 := []) hP hD hK [0, 1, 2] [] rfl rfl (by decide) (by decide) hk1 hFc ht hvm hB
  generalize H1 = H at hP hS ⊢
  have hP : va_P (dC, dI) vwCl [(sp, .inl (csp, 9, .inl (fun _ => 0))), (br, .inl (cbr, 3, .inl (fun _ => 0))), (mo, .inr (19, [.int 0, .int 0, .int 0, .int 0, .int 0, .int 0, .int tu, .ref ti, .ref si, .ref lo, .ref lh, .ref lk, .ref sp, .ref st, .ref pa, .ref br, .ref sg, .int mi, .int 0, .int 0, .int 0, .int fo, .int 0, .long pe, .long pn, .long re, .long rn, .int th]))] H := hP
  have hD : va_D A [(sp, .inl (csp, 9, .inl (fun _ => 0))), (br, .inl (cbr, 3, .inl (fun _ => 0))), (mo, .inr (19, [.int 0, .int 0, .int 0, .int 0, .int 0, .int 0, .int tu, .ref ti, .ref si, .ref lo, .ref lh, .ref lk, .ref sp, .ref st, .ref pa, .ref br, .ref sg, .int mi, .int 0, .int 0, .int 0, .int fo, .int 0, .long pe, .long pn, .long re, .long rn, .int th]))] := hD
  have hK : va_K (dC, dI) vwCl [(csp, .int), (cbr, .int)] s := hK
  obtain rfl : 0 = r1 := hw
  refine lv_iadd hx hb dX15_turnShip_16 ?_
  refine kc_i (y := 0) (by decide +kernel) ?_
  refine lv_istore_n (lv' := [(1, .int 0), (2, .int 0), (0, .ref mo)]) hx hb dX15_turnShip_17 rfl hl (by decide) rfl (fun ls hl => ?_)
  refine lv_iinc (v := 1) (lv' := [(2, .int 1), (1, .int 0), (0, .ref mo)]) hx hb dX15_turnShip_18 hl (k := 1) rfl (by decide +kernel) (by decide) rfl (fun ls hl => ?_)
  refine lv_goto (tgt := 4) hx hb dX15_turnShip_21 (by decide) ?_
  refine lv_iload_n hx hb dX15_turnShip_4 rfl (lv_at hl 0 rfl) ?_
  refine lv_bipush (v := 9) hx hb dX15_turnShip_5 (by decide) ?_
  refine lv_icmp_ge (tgt := 24) hx hb dX15_turnShip_7 (by decide) (fun c_ => absurd c_ (by decide +kernel)) (fun _ => ?_)
  refine lv_iload_n hx hb dX15_turnShip_10 rfl (lv_at hl 1 rfl) ?_
  refine lv_aload_n hx hb dX15_turnShip_11 rfl (lv_at hl 2 rfl) ?_
  refine lv_iload_n hx hb dX15_turnShip_12 rfl (lv_at hl 0 rfl) ?_
  have hPc := hP.sub (ws' := [(mo, .inr (19, [.int 0, .int 0, .int 0, .int 0, .int 0, .int 0, .int tu, .ref ti, .ref si, .ref lo, .ref lh, .ref lk, .ref sp, .ref st, .ref pa, .ref br, .ref sg, .int mi, .int 0, .int 0, .int 0, .int fo, .int 0, .long pe, .long pn, .long re, .long rn, .int th])), (sp, .inl (csp, 9, .inl (fun _ => 0))), (br, .inl (cbr, 3, .inl (fun _ => 0)))]) [2, 0, 1] rfl
  have hDc := hD.sub (ws' := [(mo, .inr (19, [.int 0, .int 0, .int 0, .int 0, .int 0, .int 0, .int tu, .ref ti, .ref si, .ref lo, .ref lh, .ref lk, .ref sp, .ref st, .ref pa, .ref br, .ref sg, .int mi, .int 0, .int 0, .int 0, .int fo, .int 0, .long pe, .long pn, .long re, .long rn, .int th])), (sp, .inl (csp, 9, .inl (fun _ => 0))), (br, .inl (cbr, 3, .inl (fun _ => 0)))]) [2, 0, 1] (by decide) rfl
  have hKc := hK.sub (tys' := [(csp, .int), (cbr, .int)]) [0, 1] rfl
  have hFc := va_free (wc := [(mo, .inr (19, [.int 0, .int 0, .int 0, .int 0, .int 0, .int 0, .int tu, .ref ti, .ref si, .ref lo, .ref lh, .ref lk, .ref sp, .ref st, .ref pa, .ref br, .ref sg, .int mi, .int 0, .int 0, .int 0, .int fo, .int 0, .long pe, .long pn, .long re, .long rn, .int th])), (sp, .inl (csp, 9, .inl (fun _ => 0))), (br, .inl (cbr, 3, .inl (fun _ => 0)))]) hD hS hA [2, 0, 1] rfl
  refine va_calli (va_runV (As := [.int 1]) (rest := [.int 0]) ⟨hx, hb, hml, hown, hts⟩ (k_forceOf_1 l dC dI z zK zV mi fo pe pn re rn mo ti si lo lh lk sp st pa br sg csp cbr th tu H.size) (cwV 1 hts gX15_turnShip_X15_forceOf rfl rfl rfl (by decide +kernel) ⟨Nat.le_of_ble_eq_true rfl, Nat.le_of_ble_eq_true rfl⟩) ⟨kP_blind, va_recv hKc hPc (ci := 19) (q0 := 0) rfl rfl, kP_go hPc hKc hDc hFc hM hS⟩ rfl rfl hl.1 rfl (lv_room (Nat.le_of_ble_eq_true rfl)) dX15_turnShip_13 ⟨Nat.le_of_ble_eq_true rfl, Nat.le_of_ble_eq_true rfl⟩) hS (fun q _ h => hFc q h) hFc (fun r2 u t H1 locs ht hvm hw hB hz1 hk1 hS => ?_)
  obtain ⟨hP, hD, hK⟩ := kJ (wr := []) (w1 := [(sp, .inl (csp, 9, .inl (fun _ => 0))), (br, .inl (cbr, 3, .inl (fun _ => 0))), (mo, .inr (19, [.int 0, .int 0, .int 0, .int 0, .int 0, .int 0, .int tu, .ref ti, .ref si, .ref lo, .ref lh, .ref lk, .ref sp, .ref st, .ref pa, .ref br, .ref sg, .int mi, .int 0, .int 0, .int 0, .int fo, .int 0, .long pe, .long pn, .long re, .long rn, .int th]))]) (t1 := []) hP hD hK [2, 0, 1] [] rfl rfl (by decide) (by decide) hk1 hFc ht hvm hB
  generalize H1 = H at hP hS ⊢
  have hP : va_P (dC, dI) vwCl [(sp, .inl (csp, 9, .inl (fun _ => 0))), (br, .inl (cbr, 3, .inl (fun _ => 0))), (mo, .inr (19, [.int 0, .int 0, .int 0, .int 0, .int 0, .int 0, .int tu, .ref ti, .ref si, .ref lo, .ref lh, .ref lk, .ref sp, .ref st, .ref pa, .ref br, .ref sg, .int mi, .int 0, .int 0, .int 0, .int fo, .int 0, .long pe, .long pn, .long re, .long rn, .int th]))] H := hP
  have hD : va_D A [(sp, .inl (csp, 9, .inl (fun _ => 0))), (br, .inl (cbr, 3, .inl (fun _ => 0))), (mo, .inr (19, [.int 0, .int 0, .int 0, .int 0, .int 0, .int 0, .int tu, .ref ti, .ref si, .ref lo, .ref lh, .ref lk, .ref sp, .ref st, .ref pa, .ref br, .ref sg, .int mi, .int 0, .int 0, .int 0, .int fo, .int 0, .long pe, .long pn, .long re, .long rn, .int th]))] := hD
  have hK : va_K (dC, dI) vwCl [(csp, .int), (cbr, .int)] s := hK
  obtain rfl : 0 = r2 := hw
  refine lv_iadd hx hb dX15_turnShip_16 ?_
  refine kc_i (y := 0) (by decide +kernel) ?_
  refine lv_istore_n (lv' := [(1, .int 0), (2, .int 1), (0, .ref mo)]) hx hb dX15_turnShip_17 rfl hl (by decide) rfl (fun ls hl => ?_)
  refine lv_iinc (v := 2) (lv' := [(2, .int 2), (1, .int 0), (0, .ref mo)]) hx hb dX15_turnShip_18 hl (k := 1) rfl (by decide +kernel) (by decide) rfl (fun ls hl => ?_)
  refine lv_goto (tgt := 4) hx hb dX15_turnShip_21 (by decide) ?_
  refine lv_iload_n hx hb dX15_turnShip_4 rfl (lv_at hl 0 rfl) ?_
  refine lv_bipush (v := 9) hx hb dX15_turnShip_5 (by decide) ?_
  refine lv_icmp_ge (tgt := 24) hx hb dX15_turnShip_7 (by decide) (fun c_ => absurd c_ (by decide +kernel)) (fun _ => ?_)
  refine lv_iload_n hx hb dX15_turnShip_10 rfl (lv_at hl 1 rfl) ?_
  refine lv_aload_n hx hb dX15_turnShip_11 rfl (lv_at hl 2 rfl) ?_
  refine lv_iload_n hx hb dX15_turnShip_12 rfl (lv_at hl 0 rfl) ?_
  have hPc := hP.sub (ws' := [(mo, .inr (19, [.int 0, .int 0, .int 0, .int 0, .int 0, .int 0, .int tu, .ref ti, .ref si, .ref lo, .ref lh, .ref lk, .ref sp, .ref st, .ref pa, .ref br, .ref sg, .int mi, .int 0, .int 0, .int 0, .int fo, .int 0, .long pe, .long pn, .long re, .long rn, .int th])), (sp, .inl (csp, 9, .inl (fun _ => 0))), (br, .inl (cbr, 3, .inl (fun _ => 0)))]) [2, 0, 1] rfl
  have hDc := hD.sub (ws' := [(mo, .inr (19, [.int 0, .int 0, .int 0, .int 0, .int 0, .int 0, .int tu, .ref ti, .ref si, .ref lo, .ref lh, .ref lk, .ref sp, .ref st, .ref pa, .ref br, .ref sg, .int mi, .int 0, .int 0, .int 0, .int fo, .int 0, .long pe, .long pn, .long re, .long rn, .int th])), (sp, .inl (csp, 9, .inl (fun _ => 0))), (br, .inl (cbr, 3, .inl (fun _ => 0)))]) [2, 0, 1] (by decide) rfl
  have hKc := hK.sub (tys' := [(csp, .int), (cbr, .int)]) [0, 1] rfl
  have hFc := va_free (wc := [(mo, .inr (19, [.int 0, .int 0, .int 0, .int 0, .int 0, .int 0, .int tu, .ref ti, .ref si, .ref lo, .ref lh, .ref lk, .ref sp, .ref st, .ref pa, .ref br, .ref sg, .int mi, .int 0, .int 0, .int 0, .int fo, .int 0, .long pe, .long pn, .long re, .long rn, .int th])), (sp, .inl (csp, 9, .inl (fun _ => 0))), (br, .inl (cbr, 3, .inl (fun _ => 0)))]) hD hS hA [2, 0, 1] rfl
  refine va_calli (va_runV (As := [.int 2]) (rest := [.int 0]) ⟨hx, hb, hml, hown, hts⟩ (k_forceOf_2 l dC dI z zK zV mi fo pe pn re rn mo ti si lo lh lk sp st pa br sg csp cbr th tu H.size) (cwV 1 hts gX15_turnShip_X15_forceOf rfl rfl rfl (by decide +kernel) ⟨Nat.le_of_ble_eq_true rfl, Nat.le_of_ble_eq_true rfl⟩) ⟨kP_blind, va_recv hKc hPc (ci := 19) (q0 := 0) rfl rfl, kP_go hPc hKc hDc hFc hM hS⟩ rfl rfl hl.1 rfl (lv_room (Nat.le_of_ble_eq_true rfl)) dX15_turnShip_13 ⟨Nat.le_of_ble_eq_true rfl, Nat.le_of_ble_eq_true rfl⟩) hS (fun q _ h => hFc q h) hFc (fun r3 u t H1 locs ht hvm hw hB hz1 hk1 hS => ?_)
  obtain ⟨hP, hD, hK⟩ := kJ (wr := []) (w1 := [(sp, .inl (csp, 9, .inl (fun _ => 0))), (br, .inl (cbr, 3, .inl (fun _ => 0))), (mo, .inr (19, [.int 0, .int 0, .int 0, .int 0, .int 0, .int 0, .int tu, .ref ti, .ref si, .ref lo, .ref lh, .ref lk, .ref sp, .ref st, .ref pa, .ref br, .ref sg, .int mi, .int 0, .int 0, .int 0, .int fo, .int 0, .long pe, .long pn, .long re, .long rn, .int th]))]) (t1 := []) hP hD hK [2, 0, 1] [] rfl rfl (by decide) (by decide) hk1 hFc ht hvm hB
  generalize H1 = H at hP hS ⊢
  have hP : va_P (dC, dI) vwCl [(sp, .inl (csp, 9, .inl (fun _ => 0))), (br, .inl (cbr, 3, .inl (fun _ => 0))), (mo, .inr (19, [.int 0, .int 0, .int 0, .int 0, .int 0, .int 0, .int tu, .ref ti, .ref si, .ref lo, .ref lh, .ref lk, .ref sp, .ref st, .ref pa, .ref br, .ref sg, .int mi, .int 0, .int 0, .int 0, .int fo, .int 0, .long pe, .long pn, .long re, .long rn, .int th]))] H := hP
  have hD : va_D A [(sp, .inl (csp, 9, .inl (fun _ => 0))), (br, .inl (cbr, 3, .inl (fun _ => 0))), (mo, .inr (19, [.int 0, .int 0, .int 0, .int 0, .int 0, .int 0, .int tu, .ref ti, .ref si, .ref lo, .ref lh, .ref lk, .ref sp, .ref st, .ref pa, .ref br, .ref sg, .int mi, .int 0, .int 0, .int 0, .int fo, .int 0, .long pe, .long pn, .long re, .long rn, .int th]))] := hD
  have hK : va_K (dC, dI) vwCl [(csp, .int), (cbr, .int)] s := hK
  obtain rfl : 0 = r3 := hw
  refine lv_iadd hx hb dX15_turnShip_16 ?_
  refine kc_i (y := 0) (by decide +kernel) ?_
  refine lv_istore_n (lv' := [(1, .int 0), (2, .int 2), (0, .ref mo)]) hx hb dX15_turnShip_17 rfl hl (by decide) rfl (fun ls hl => ?_)
  refine lv_iinc (v := 3) (lv' := [(2, .int 3), (1, .int 0), (0, .ref mo)]) hx hb dX15_turnShip_18 hl (k := 1) rfl (by decide +kernel) (by decide) rfl (fun ls hl => ?_)
  refine lv_goto (tgt := 4) hx hb dX15_turnShip_21 (by decide) ?_
  refine lv_iload_n hx hb dX15_turnShip_4 rfl (lv_at hl 0 rfl) ?_
  refine lv_bipush (v := 9) hx hb dX15_turnShip_5 (by decide) ?_
  refine lv_icmp_ge (tgt := 24) hx hb dX15_turnShip_7 (by decide) (fun c_ => absurd c_ (by decide +kernel)) (fun _ => ?_)
  refine lv_iload_n hx hb dX15_turnShip_10 rfl (lv_at hl 1 rfl) ?_
  refine lv_aload_n hx hb dX15_turnShip_11 rfl (lv_at hl 2 rfl) ?_
  refine lv_iload_n hx hb dX15_turnShip_12 rfl (lv_at hl 0 rfl) ?_
  have hPc := hP.sub (ws' := [(mo, .inr (19, [.int 0, .int 0, .int 0, .int 0, .int 0, .int 0, .int tu, .ref ti, .ref si, .ref lo, .ref lh, .ref lk, .ref sp, .ref st, .ref pa, .ref br, .ref sg, .int mi, .int 0, .int 0, .int 0, .int fo, .int 0, .long pe, .long pn, .long re, .long rn, .int th])), (sp, .inl (csp, 9, .inl (fun _ => 0))), (br, .inl (cbr, 3, .inl (fun _ => 0)))]) [2, 0, 1] rfl
  have hDc := hD.sub (ws' := [(mo, .inr (19, [.int 0, .int 0, .int 0, .int 0, .int 0, .int 0, .int tu, .ref ti, .ref si, .ref lo, .ref lh, .ref lk, .ref sp, .ref st, .ref pa, .ref br, .ref sg, .int mi, .int 0, .int 0, .int 0, .int fo, .int 0, .long pe, .long pn, .long re, .long rn, .int th])), (sp, .inl (csp, 9, .inl (fun _ => 0))), (br, .inl (cbr, 3, .inl (fun _ => 0)))]) [2, 0, 1] (by decide) rfl
  have hKc := hK.sub (tys' := [(csp, .int), (cbr, .int)]) [0, 1] rfl
  have hFc := va_free (wc := [(mo, .inr (19, [.int 0, .int 0, .int 0, .int 0, .int 0, .int 0, .int tu, .ref ti, .ref si, .ref lo, .ref lh, .ref lk, .ref sp, .ref st, .ref pa, .ref br, .ref sg, .int mi, .int 0, .int 0, .int 0, .int fo, .int 0, .long pe, .long pn, .long re, .long rn, .int th])), (sp, .inl (csp, 9, .inl (fun _ => 0))), (br, .inl (cbr, 3, .inl (fun _ => 0)))]) hD hS hA [2, 0, 1] rfl
  refine va_calli (va_runV (As := [.int 3]) (rest := [.int 0]) ⟨hx, hb, hml, hown, hts⟩ (k_forceOf_3 l dC dI z zK zV mi fo pe pn re rn mo ti si lo lh lk sp st pa br sg csp cbr th tu H.size) (cwV 1 hts gX15_turnShip_X15_forceOf rfl rfl rfl (by decide +kernel) ⟨Nat.le_of_ble_eq_true rfl, Nat.le_of_ble_eq_true rfl⟩) ⟨kP_blind, va_recv hKc hPc (ci := 19) (q0 := 0) rfl rfl, kP_go hPc hKc hDc hFc hM hS⟩ rfl rfl hl.1 rfl (lv_room (Nat.le_of_ble_eq_true rfl)) dX15_turnShip_13 ⟨Nat.le_of_ble_eq_true rfl, Nat.le_of_ble_eq_true rfl⟩) hS (fun q _ h => hFc q h) hFc (fun r4 u t H1 locs ht hvm hw hB hz1 hk1 hS => ?_)
  obtain ⟨hP, hD, hK⟩ := kJ (wr := []) (w1 := [(sp, .inl (csp, 9, .inl (fun _ => 0))), (br, .inl (cbr, 3, .inl (fun _ => 0))), (mo, .inr (19, [.int 0, .int 0, .int 0, .int 0, .int 0, .int 0, .int tu, .ref ti, .ref si, .ref lo, .ref lh, .ref lk, .ref sp, .ref st, .ref pa, .ref br, .ref sg, .int mi, .int 0, .int 0, .int 0, .int fo, .int 0, .long pe, .long pn, .long re, .long rn, .int th]))]) (t1 := []) hP hD hK [2, 0, 1] [] rfl rfl (by decide) (by decide) hk1 hFc ht hvm hB
  generalize H1 = H at hP hS ⊢
  have hP : va_P (dC, dI) vwCl [(sp, .inl (csp, 9, .inl (fun _ => 0))), (br, .inl (cbr, 3, .inl (fun _ => 0))), (mo, .inr (19, [.int 0, .int 0, .int 0, .int 0, .int 0, .int 0, .int tu, .ref ti, .ref si, .ref lo, .ref lh, .ref lk, .ref sp, .ref st, .ref pa, .ref br, .ref sg, .int mi, .int 0, .int 0, .int 0, .int fo, .int 0, .long pe, .long pn, .long re, .long rn, .int th]))] H := hP
  have hD : va_D A [(sp, .inl (csp, 9, .inl (fun _ => 0))), (br, .inl (cbr, 3, .inl (fun _ => 0))), (mo, .inr (19, [.int 0, .int 0, .int 0, .int 0, .int 0, .int 0, .int tu, .ref ti, .ref si, .ref lo, .ref lh, .ref lk, .ref sp, .ref st, .ref pa, .ref br, .ref sg, .int mi, .int 0, .int 0, .int 0, .int fo, .int 0, .long pe, .long pn, .long re, .long rn, .int th]))] := hD
  have hK : va_K (dC, dI) vwCl [(csp, .int), (cbr, .int)] s := hK
  obtain rfl : 0 = r4 := hw
  refine lv_iadd hx hb dX15_turnShip_16 ?_
  refine kc_i (y := 0) (by decide +kernel) ?_
  refine lv_istore_n (lv' := [(1, .int 0), (2, .int 3), (0, .ref mo)]) hx hb dX15_turnShip_17 rfl hl (by decide) rfl (fun ls hl => ?_)
  refine lv_iinc (v := 4) (lv' := [(2, .int 4), (1, .int 0), (0, .ref mo)]) hx hb dX15_turnShip_18 hl (k := 1) rfl (by decide +kernel) (by decide) rfl (fun ls hl => ?_)
  refine lv_goto (tgt := 4) hx hb dX15_turnShip_21 (by decide) ?_
  refine lv_iload_n hx hb dX15_turnShip_4 rfl (lv_at hl 0 rfl) ?_
  refine lv_bipush (v := 9) hx hb dX15_turnShip_5 (by decide) ?_
  refine lv_icmp_ge (tgt := 24) hx hb dX15_turnShip_7 (by decide) (fun c_ => absurd c_ (by decide +kernel)) (fun _ => ?_)
  refine lv_iload_n hx hb dX15_turnShip_10 rfl (lv_at hl 1 rfl) ?_
  refine lv_aload_n hx hb dX15_turnShip_11 rfl (lv_at hl 2 rfl) ?_
  refine lv_iload_n hx hb dX15_turnShip_12 rfl (lv_at hl 0 rfl) ?_
  have hPc := hP.sub (ws' := [(mo, .inr (19, [.int 0, .int 0, .int 0, .int 0, .int 0, .int 0, .int tu, .ref ti, .ref si, .ref lo, .ref lh, .ref lk, .ref sp, .ref st, .ref pa, .ref br, .ref sg, .int mi, .int 0, .int 0, .int 0, .int fo, .int 0, .long pe, .long pn, .long re, .long rn, .int th])), (sp, .inl (csp, 9, .inl (fun _ => 0))), (br, .inl (cbr, 3, .inl (fun _ => 0)))]) [2, 0, 1] rfl
  have hDc := hD.sub (ws' := [(mo, .inr (19, [.int 0, .int 0, .int 0, .int 0, .int 0, .int 0, .int tu, .ref ti, .ref si, .ref lo, .ref lh, .ref lk, .ref sp, .ref st, .ref pa, .ref br, .ref sg, .int mi, .int 0, .int 0, .int 0, .int fo, .int 0, .long pe, .long pn, .long re, .long rn, .int th])), (sp, .inl (csp, 9, .inl (fun _ => 0))), (br, .inl (cbr, 3, .inl (fun _ => 0)))]) [2, 0, 1] (by decide) rfl
  have hKc := hK.sub (tys' := [(csp, .int), (cbr, .int)]) [0, 1] rfl
  have hFc := va_free (wc := [(mo, .inr (19, [.int 0, .int 0, .int 0, .int 0, .int 0, .int 0, .int tu, .ref ti, .ref si, .ref lo, .ref lh, .ref lk, .ref sp, .ref st, .ref pa, .ref br, .ref sg, .int mi, .int 0, .int 0, .int 0, .int fo, .int 0, .long pe, .long pn, .long re, .long rn, .int th])), (sp, .inl (csp, 9, .inl (fun _ => 0))), (br, .inl (cbr, 3, .inl (fun _ => 0)))]) hD hS hA [2, 0, 1] rfl
  refine va_calli (va_runV (As := [.int 4]) (rest := [.int 0]) ⟨hx, hb, hml, hown, hts⟩ (k_forceOf_4 l dC dI z zK zV mi fo pe pn re rn mo ti si lo lh lk sp st pa br sg csp cbr th tu H.size) (cwV 1 hts gX15_turnShip_X15_forceOf rfl rfl rfl (by decide +kernel) ⟨Nat.le_of_ble_eq_true rfl, Nat.le_of_ble_eq_true rfl⟩) ⟨kP_blind, va_recv hKc hPc (ci := 19) (q0 := 0) rfl rfl, kP_go hPc hKc hDc hFc hM hS⟩ rfl rfl hl.1 rfl (lv_room (Nat.le_of_ble_eq_true rfl)) dX15_turnShip_13 ⟨Nat.le_of_ble_eq_true rfl, Nat.le_of_ble_eq_true rfl⟩) hS (fun q _ h => hFc q h) hFc (fun r5 u t H1 locs ht hvm hw hB hz1 hk1 hS => ?_)
  obtain ⟨hP, hD, hK⟩ := kJ (wr := []) (w1 := [(sp, .inl (csp, 9, .inl (fun _ => 0))), (br, .inl (cbr, 3, .inl (fun _ => 0))), (mo, .inr (19, [.int 0, .int 0, .int 0, .int 0, .int 0, .int 0, .int tu, .ref ti, .ref si, .ref lo, .ref lh, .ref lk, .ref sp, .ref st, .ref pa, .ref br, .ref sg, .int mi, .int 0, .int 0, .int 0, .int fo, .int 0, .long pe, .long pn, .long re, .long rn, .int th]))]) (t1 := []) hP hD hK [2, 0, 1] [] rfl rfl (by decide) (by decide) hk1 hFc ht hvm hB
  generalize H1 = H at hP hS ⊢
  have hP : va_P (dC, dI) vwCl [(sp, .inl (csp, 9, .inl (fun _ => 0))), (br, .inl (cbr, 3, .inl (fun _ => 0))), (mo, .inr (19, [.int 0, .int 0, .int 0, .int 0, .int 0, .int 0, .int tu, .ref ti, .ref si, .ref lo, .ref lh, .ref lk, .ref sp, .ref st, .ref pa, .ref br, .ref sg, .int mi, .int 0, .int 0, .int 0, .int fo, .int 0, .long pe, .long pn, .long re, .long rn, .int th]))] H := hP
  have hD : va_D A [(sp, .inl (csp, 9, .inl (fun _ => 0))), (br, .inl (cbr, 3, .inl (fun _ => 0))), (mo, .inr (19, [.int 0, .int 0, .int 0, .int 0, .int 0, .int 0, .int tu, .ref ti, .ref si, .ref lo, .ref lh, .ref lk, .ref sp, .ref st, .ref pa, .ref br, .ref sg, .int mi, .int 0, .int 0, .int 0, .int fo, .int 0, .long pe, .long pn, .long re, .long rn, .int th]))] := hD
  have hK : va_K (dC, dI) vwCl [(csp, .int), (cbr, .int)] s := hK
  obtain rfl : 0 = r5 := hw
  refine lv_iadd hx hb dX15_turnShip_16 ?_
  refine kc_i (y := 0) (by decide +kernel) ?_
  refine lv_istore_n (lv' := [(1, .int 0), (2, .int 4), (0, .ref mo)]) hx hb dX15_turnShip_17 rfl hl (by decide) rfl (fun ls hl => ?_)
  refine lv_iinc (v := 5) (lv' := [(2, .int 5), (1, .int 0), (0, .ref mo)]) hx hb dX15_turnShip_18 hl (k := 1) rfl (by decide +kernel) (by decide) rfl (fun ls hl => ?_)
  refine lv_goto (tgt := 4) hx hb dX15_turnShip_21 (by decide) ?_
  refine lv_iload_n hx hb dX15_turnShip_4 rfl (lv_at hl 0 rfl) ?_
  refine lv_bipush (v := 9) hx hb dX15_turnShip_5 (by decide) ?_
  refine lv_icmp_ge (tgt := 24) hx hb dX15_turnShip_7 (by decide) (fun c_ => absurd c_ (by decide +kernel)) (fun _ => ?_)
  refine lv_iload_n hx hb dX15_turnShip_10 rfl (lv_at hl 1 rfl) ?_
  refine lv_aload_n hx hb dX15_turnShip_11 rfl (lv_at hl 2 rfl) ?_
  refine lv_iload_n hx hb dX15_turnShip_12 rfl (lv_at hl 0 rfl) ?_
  have hPc := hP.sub (ws' := [(mo, .inr (19, [.int 0, .int 0, .int 0, .int 0, .int 0, .int 0, .int tu, .ref ti, .ref si, .ref lo, .ref lh, .ref lk, .ref sp, .ref st, .ref pa, .ref br, .ref sg, .int mi, .int 0, .int 0, .int 0, .int fo, .int 0, .long pe, .long pn, .long re, .long rn, .int th])), (sp, .inl (csp, 9, .inl (fun _ => 0))), (br, .inl (cbr, 3, .inl (fun _ => 0)))]) [2, 0, 1] rfl
  have hDc := hD.sub (ws' := [(mo, .inr (19, [.int 0, .int 0, .int 0, .int 0, .int 0, .int 0, .int tu, .ref ti, .ref si, .ref lo, .ref lh, .ref lk, .ref sp, .ref st, .ref pa, .ref br, .ref sg, .int mi, .int 0, .int 0, .int 0, .int fo, .int 0, .long pe, .long pn, .long re, .long rn, .int th])), (sp, .inl (csp, 9, .inl (fun _ => 0))), (br, .inl (cbr, 3, .inl (fun _ => 0)))]) [2, 0, 1] (by decide) rfl
  have hKc := hK.sub (tys' := [(csp, .int), (cbr, .int)]) [0, 1] rfl
  have hFc := va_free (wc := [(mo, .inr (19, [.int 0, .int 0, .int 0, .int 0, .int 0, .int 0, .int tu, .ref ti, .ref si, .ref lo, .ref lh, .ref lk, .ref sp, .ref st, .ref pa, .ref br, .ref sg, .int mi, .int 0, .int 0, .int 0, .int fo, .int 0, .long pe, .long pn, .long re, .long rn, .int th])), (sp, .inl (csp, 9, .inl (fun _ => 0))), (br, .inl (cbr, 3, .inl (fun _ => 0)))]) hD hS hA [2, 0, 1] rfl
  refine va_calli (va_runV (As := [.int 5]) (rest := [.int 0]) ⟨hx, hb, hml, hown, hts⟩ (k_forceOf_5 l dC dI z zK zV mi fo pe pn re rn mo ti si lo lh lk sp st pa br sg csp cbr th tu H.size) (cwV 1 hts gX15_turnShip_X15_forceOf rfl rfl rfl (by decide +kernel) ⟨Nat.le_of_ble_eq_true rfl, Nat.le_of_ble_eq_true rfl⟩) ⟨kP_blind, va_recv hKc hPc (ci := 19) (q0 := 0) rfl rfl, kP_go hPc hKc hDc hFc hM hS⟩ rfl rfl hl.1 rfl (lv_room (Nat.le_of_ble_eq_true rfl)) dX15_turnShip_13 ⟨Nat.le_of_ble_eq_true rfl, Nat.le_of_ble_eq_true rfl⟩) hS (fun q _ h => hFc q h) hFc (fun r6 u t H1 locs ht hvm hw hB hz1 hk1 hS => ?_)
  obtain ⟨hP, hD, hK⟩ := kJ (wr := []) (w1 := [(sp, .inl (csp, 9, .inl (fun _ => 0))), (br, .inl (cbr, 3, .inl (fun _ => 0))), (mo, .inr (19, [.int 0, .int 0, .int 0, .int 0, .int 0, .int 0, .int tu, .ref ti, .ref si, .ref lo, .ref lh, .ref lk, .ref sp, .ref st, .ref pa, .ref br, .ref sg, .int mi, .int 0, .int 0, .int 0, .int fo, .int 0, .long pe, .long pn, .long re, .long rn, .int th]))]) (t1 := []) hP hD hK [2, 0, 1] [] rfl rfl (by decide) (by decide) hk1 hFc ht hvm hB
  generalize H1 = H at hP hS ⊢
  have hP : va_P (dC, dI) vwCl [(sp, .inl (csp, 9, .inl (fun _ => 0))), (br, .inl (cbr, 3, .inl (fun _ => 0))), (mo, .inr (19, [.int 0, .int 0, .int 0, .int 0, .int 0, .int 0, .int tu, .ref ti, .ref si, .ref lo, .ref lh, .ref lk, .ref sp, .ref st, .ref pa, .ref br, .ref sg, .int mi, .int 0, .int 0, .int 0, .int fo, .int 0, .long pe, .long pn, .long re, .long rn, .int th]))] H := hP
  have hD : va_D A [(sp, .inl (csp, 9, .inl (fun _ => 0))), (br, .inl (cbr, 3, .inl (fun _ => 0))), (mo, .inr (19, [.int 0, .int 0, .int 0, .int 0, .int 0, .int 0, .int tu, .ref ti, .ref si, .ref lo, .ref lh, .ref lk, .ref sp, .ref st, .ref pa, .ref br, .ref sg, .int mi, .int 0, .int 0, .int 0, .int fo, .int 0, .long pe, .long pn, .long re, .long rn, .int th]))] := hD
  have hK : va_K (dC, dI) vwCl [(csp, .int), (cbr, .int)] s := hK
  obtain rfl : 0 = r6 := hw
  refine lv_iadd hx hb dX15_turnShip_16 ?_
  refine kc_i (y := 0) (by decide +kernel) ?_
  refine lv_istore_n (lv' := [(1, .int 0), (2, .int 5), (0, .ref mo)]) hx hb dX15_turnShip_17 rfl hl (by decide) rfl (fun ls hl => ?_)
  refine lv_iinc (v := 6) (lv' := [(2, .int 6), (1, .int 0), (0, .ref mo)]) hx hb dX15_turnShip_18 hl (k := 1) rfl (by decide +kernel) (by decide) rfl (fun ls hl => ?_)
  refine lv_goto (tgt := 4) hx hb dX15_turnShip_21 (by decide) ?_
  refine lv_iload_n hx hb dX15_turnShip_4 rfl (lv_at hl 0 rfl) ?_
  refine lv_bipush (v := 9) hx hb dX15_turnShip_5 (by decide) ?_
  refine lv_icmp_ge (tgt := 24) hx hb dX15_turnShip_7 (by decide) (fun c_ => absurd c_ (by decide +kernel)) (fun _ => ?_)
  refine lv_iload_n hx hb dX15_turnShip_10 rfl (lv_at hl 1 rfl) ?_
  refine lv_aload_n hx hb dX15_turnShip_11 rfl (lv_at hl 2 rfl) ?_
  refine lv_iload_n hx hb dX15_turnShip_12 rfl (lv_at hl 0 rfl) ?_
  have hPc := hP.sub (ws' := [(mo, .inr (19, [.int 0, .int 0, .int 0, .int 0, .int 0, .int 0, .int tu, .ref ti, .ref si, .ref lo, .ref lh, .ref lk, .ref sp, .ref st, .ref pa, .ref br, .ref sg, .int mi, .int 0, .int 0, .int 0, .int fo, .int 0, .long pe, .long pn, .long re, .long rn, .int th])), (sp, .inl (csp, 9, .inl (fun _ => 0))), (br, .inl (cbr, 3, .inl (fun _ => 0)))]) [2, 0, 1] rfl
  have hDc := hD.sub (ws' := [(mo, .inr (19, [.int 0, .int 0, .int 0, .int 0, .int 0, .int 0, .int tu, .ref ti, .ref si, .ref lo, .ref lh, .ref lk, .ref sp, .ref st, .ref pa, .ref br, .ref sg, .int mi, .int 0, .int 0, .int 0, .int fo, .int 0, .long pe, .long pn, .long re, .long rn, .int th])), (sp, .inl (csp, 9, .inl (fun _ => 0))), (br, .inl (cbr, 3, .inl (fun _ => 0)))]) [2, 0, 1] (by decide) rfl
  have hKc := hK.sub (tys' := [(csp, .int), (cbr, .int)]) [0, 1] rfl
  have hFc := va_free (wc := [(mo, .inr (19, [.int 0, .int 0, .int 0, .int 0, .int 0, .int 0, .int tu, .ref ti, .ref si, .ref lo, .ref lh, .ref lk, .ref sp, .ref st, .ref pa, .ref br, .ref sg, .int mi, .int 0, .int 0, .int 0, .int fo, .int 0, .long pe, .long pn, .long re, .long rn, .int th])), (sp, .inl (csp, 9, .inl (fun _ => 0))), (br, .inl (cbr, 3, .inl (fun _ => 0)))]) hD hS hA [2, 0, 1] rfl
  refine va_calli (va_runV (As := [.int 6]) (rest := [.int 0]) ⟨hx, hb, hml, hown, hts⟩ (k_forceOf_6 l dC dI z zK zV mi fo pe pn re rn mo ti si lo lh lk sp st pa br sg csp cbr th tu H.size) (cwV 1 hts gX15_turnShip_X15_forceOf rfl rfl rfl (by decide +kernel) ⟨Nat.le_of_ble_eq_true rfl, Nat.le_of_ble_eq_true rfl⟩) ⟨kP_blind, va_recv hKc hPc (ci := 19) (q0 := 0) rfl rfl, kP_go hPc hKc hDc hFc hM hS⟩ rfl rfl hl.1 rfl (lv_room (Nat.le_of_ble_eq_true rfl)) dX15_turnShip_13 ⟨Nat.le_of_ble_eq_true rfl, Nat.le_of_ble_eq_true rfl⟩) hS (fun q _ h => hFc q h) hFc (fun r7 u t H1 locs ht hvm hw hB hz1 hk1 hS => ?_)
  obtain ⟨hP, hD, hK⟩ := kJ (wr := []) (w1 := [(sp, .inl (csp, 9, .inl (fun _ => 0))), (br, .inl (cbr, 3, .inl (fun _ => 0))), (mo, .inr (19, [.int 0, .int 0, .int 0, .int 0, .int 0, .int 0, .int tu, .ref ti, .ref si, .ref lo, .ref lh, .ref lk, .ref sp, .ref st, .ref pa, .ref br, .ref sg, .int mi, .int 0, .int 0, .int 0, .int fo, .int 0, .long pe, .long pn, .long re, .long rn, .int th]))]) (t1 := []) hP hD hK [2, 0, 1] [] rfl rfl (by decide) (by decide) hk1 hFc ht hvm hB
  generalize H1 = H at hP hS ⊢
  have hP : va_P (dC, dI) vwCl [(sp, .inl (csp, 9, .inl (fun _ => 0))), (br, .inl (cbr, 3, .inl (fun _ => 0))), (mo, .inr (19, [.int 0, .int 0, .int 0, .int 0, .int 0, .int 0, .int tu, .ref ti, .ref si, .ref lo, .ref lh, .ref lk, .ref sp, .ref st, .ref pa, .ref br, .ref sg, .int mi, .int 0, .int 0, .int 0, .int fo, .int 0, .long pe, .long pn, .long re, .long rn, .int th]))] H := hP
  have hD : va_D A [(sp, .inl (csp, 9, .inl (fun _ => 0))), (br, .inl (cbr, 3, .inl (fun _ => 0))), (mo, .inr (19, [.int 0, .int 0, .int 0, .int 0, .int 0, .int 0, .int tu, .ref ti, .ref si, .ref lo, .ref lh, .ref lk, .ref sp, .ref st, .ref pa, .ref br, .ref sg, .int mi, .int 0, .int 0, .int 0, .int fo, .int 0, .long pe, .long pn, .long re, .long rn, .int th]))] := hD
  have hK : va_K (dC, dI) vwCl [(csp, .int), (cbr, .int)] s := hK
  obtain rfl : 0 = r7 := hw
  refine lv_iadd hx hb dX15_turnShip_16 ?_
  refine kc_i (y := 0) (by decide +kernel) ?_
  refine lv_istore_n (lv' := [(1, .int 0), (2, .int 6), (0, .ref mo)]) hx hb dX15_turnShip_17 rfl hl (by decide) rfl (fun ls hl => ?_)
  refine lv_iinc (v := 7) (lv' := [(2, .int 7), (1, .int 0), (0, .ref mo)]) hx hb dX15_turnShip_18 hl (k := 1) rfl (by decide +kernel) (by decide) rfl (fun ls hl => ?_)
  refine lv_goto (tgt := 4) hx hb dX15_turnShip_21 (by decide) ?_
  refine lv_iload_n hx hb dX15_turnShip_4 rfl (lv_at hl 0 rfl) ?_
  refine lv_bipush (v := 9) hx hb dX15_turnShip_5 (by decide) ?_
  refine lv_icmp_ge (tgt := 24) hx hb dX15_turnShip_7 (by decide) (fun c_ => absurd c_ (by decide +kernel)) (fun _ => ?_)
  refine lv_iload_n hx hb dX15_turnShip_10 rfl (lv_at hl 1 rfl) ?_
  refine lv_aload_n hx hb dX15_turnShip_11 rfl (lv_at hl 2 rfl) ?_
  refine lv_iload_n hx hb dX15_turnShip_12 rfl (lv_at hl 0 rfl) ?_
  have hPc := hP.sub (ws' := [(mo, .inr (19, [.int 0, .int 0, .int 0, .int 0, .int 0, .int 0, .int tu, .ref ti, .ref si, .ref lo, .ref lh, .ref lk, .ref sp, .ref st, .ref pa, .ref br, .ref sg, .int mi, .int 0, .int 0, .int 0, .int fo, .int 0, .long pe, .long pn, .long re, .long rn, .int th])), (sp, .inl (csp, 9, .inl (fun _ => 0))), (br, .inl (cbr, 3, .inl (fun _ => 0)))]) [2, 0, 1] rfl
  have hDc := hD.sub (ws' := [(mo, .inr (19, [.int 0, .int 0, .int 0, .int 0, .int 0, .int 0, .int tu, .ref ti, .ref si, .ref lo, .ref lh, .ref lk, .ref sp, .ref st, .ref pa, .ref br, .ref sg, .int mi, .int 0, .int 0, .int 0, .int fo, .int 0, .long pe, .long pn, .long re, .long rn, .int th])), (sp, .inl (csp, 9, .inl (fun _ => 0))), (br, .inl (cbr, 3, .inl (fun _ => 0)))]) [2, 0, 1] (by decide) rfl
  have hKc := hK.sub (tys' := [(csp, .int), (cbr, .int)]) [0, 1] rfl
  have hFc := va_free (wc := [(mo, .inr (19, [.int 0, .int 0, .int 0, .int 0, .int 0, .int 0, .int tu, .ref ti, .ref si, .ref lo, .ref lh, .ref lk, .ref sp, .ref st, .ref pa, .ref br, .ref sg, .int mi, .int 0, .int 0, .int 0, .int fo, .int 0, .long pe, .long pn, .long re, .long rn, .int th])), (sp, .inl (csp, 9, .inl (fun _ => 0))), (br, .inl (cbr, 3, .inl (fun _ => 0)))]) hD hS hA [2, 0, 1] rfl
  refine va_calli (va_runV (As := [.int 7]) (rest := [.int 0]) ⟨hx, hb, hml, hown, hts⟩ (k_forceOf_7 l dC dI z zK zV mi fo pe pn re rn mo ti si lo lh lk sp st pa br sg csp cbr th tu H.size) (cwV 1 hts gX15_turnShip_X15_forceOf rfl rfl rfl (by decide +kernel) ⟨Nat.le_of_ble_eq_true rfl, Nat.le_of_ble_eq_true rfl⟩) ⟨kP_blind, va_recv hKc hPc (ci := 19) (q0 := 0) rfl rfl, kP_go hPc hKc hDc hFc hM hS⟩ rfl rfl hl.1 rfl (lv_room (Nat.le_of_ble_eq_true rfl)) dX15_turnShip_13 ⟨Nat.le_of_ble_eq_true rfl, Nat.le_of_ble_eq_true rfl⟩) hS (fun q _ h => hFc q h) hFc (fun r8 u t H1 locs ht hvm hw hB hz1 hk1 hS => ?_)
  obtain ⟨hP, hD, hK⟩ := kJ (wr := []) (w1 := [(sp, .inl (csp, 9, .inl (fun _ => 0))), (br, .inl (cbr, 3, .inl (fun _ => 0))), (mo, .inr (19, [.int 0, .int 0, .int 0, .int 0, .int 0, .int 0, .int tu, .ref ti, .ref si, .ref lo, .ref lh, .ref lk, .ref sp, .ref st, .ref pa, .ref br, .ref sg, .int mi, .int 0, .int 0, .int 0, .int fo, .int 0, .long pe, .long pn, .long re, .long rn, .int th]))]) (t1 := []) hP hD hK [2, 0, 1] [] rfl rfl (by decide) (by decide) hk1 hFc ht hvm hB
  generalize H1 = H at hP hS ⊢
  have hP : va_P (dC, dI) vwCl [(sp, .inl (csp, 9, .inl (fun _ => 0))), (br, .inl (cbr, 3, .inl (fun _ => 0))), (mo, .inr (19, [.int 0, .int 0, .int 0, .int 0, .int 0, .int 0, .int tu, .ref ti, .ref si, .ref lo, .ref lh, .ref lk, .ref sp, .ref st, .ref pa, .ref br, .ref sg, .int mi, .int 0, .int 0, .int 0, .int fo, .int 0, .long pe, .long pn, .long re, .long rn, .int th]))] H := hP
  have hD : va_D A [(sp, .inl (csp, 9, .inl (fun _ => 0))), (br, .inl (cbr, 3, .inl (fun _ => 0))), (mo, .inr (19, [.int 0, .int 0, .int 0, .int 0, .int 0, .int 0, .int tu, .ref ti, .ref si, .ref lo, .ref lh, .ref lk, .ref sp, .ref st, .ref pa, .ref br, .ref sg, .int mi, .int 0, .int 0, .int 0, .int fo, .int 0, .long pe, .long pn, .long re, .long rn, .int th]))] := hD
  have hK : va_K (dC, dI) vwCl [(csp, .int), (cbr, .int)] s := hK
  obtain rfl : 0 = r8 := hw
  refine lv_iadd hx hb dX15_turnShip_16 ?_
  refine kc_i (y := 0) (by decide +kernel) ?_
  refine lv_istore_n (lv' := [(1, .int 0), (2, .int 7), (0, .ref mo)]) hx hb dX15_turnShip_17 rfl hl (by decide) rfl (fun ls hl => ?_)
  refine lv_iinc (v := 8) (lv' := [(2, .int 8), (1, .int 0), (0, .ref mo)]) hx hb dX15_turnShip_18 hl (k := 1) rfl (by decide +kernel) (by decide) rfl (fun ls hl => ?_)
  refine lv_goto (tgt := 4) hx hb dX15_turnShip_21 (by decide) ?_
  refine lv_iload_n hx hb dX15_turnShip_4 rfl (lv_at hl 0 rfl) ?_
  refine lv_bipush (v := 9) hx hb dX15_turnShip_5 (by decide) ?_
  refine lv_icmp_ge (tgt := 24) hx hb dX15_turnShip_7 (by decide) (fun c_ => absurd c_ (by decide +kernel)) (fun _ => ?_)
  refine lv_iload_n hx hb dX15_turnShip_10 rfl (lv_at hl 1 rfl) ?_
  refine lv_aload_n hx hb dX15_turnShip_11 rfl (lv_at hl 2 rfl) ?_
  refine lv_iload_n hx hb dX15_turnShip_12 rfl (lv_at hl 0 rfl) ?_
  have hPc := hP.sub (ws' := [(mo, .inr (19, [.int 0, .int 0, .int 0, .int 0, .int 0, .int 0, .int tu, .ref ti, .ref si, .ref lo, .ref lh, .ref lk, .ref sp, .ref st, .ref pa, .ref br, .ref sg, .int mi, .int 0, .int 0, .int 0, .int fo, .int 0, .long pe, .long pn, .long re, .long rn, .int th])), (sp, .inl (csp, 9, .inl (fun _ => 0))), (br, .inl (cbr, 3, .inl (fun _ => 0)))]) [2, 0, 1] rfl
  have hDc := hD.sub (ws' := [(mo, .inr (19, [.int 0, .int 0, .int 0, .int 0, .int 0, .int 0, .int tu, .ref ti, .ref si, .ref lo, .ref lh, .ref lk, .ref sp, .ref st, .ref pa, .ref br, .ref sg, .int mi, .int 0, .int 0, .int 0, .int fo, .int 0, .long pe, .long pn, .long re, .long rn, .int th])), (sp, .inl (csp, 9, .inl (fun _ => 0))), (br, .inl (cbr, 3, .inl (fun _ => 0)))]) [2, 0, 1] (by decide) rfl
  have hKc := hK.sub (tys' := [(csp, .int), (cbr, .int)]) [0, 1] rfl
  have hFc := va_free (wc := [(mo, .inr (19, [.int 0, .int 0, .int 0, .int 0, .int 0, .int 0, .int tu, .ref ti, .ref si, .ref lo, .ref lh, .ref lk, .ref sp, .ref st, .ref pa, .ref br, .ref sg, .int mi, .int 0, .int 0, .int 0, .int fo, .int 0, .long pe, .long pn, .long re, .long rn, .int th])), (sp, .inl (csp, 9, .inl (fun _ => 0))), (br, .inl (cbr, 3, .inl (fun _ => 0)))]) hD hS hA [2, 0, 1] rfl
  refine va_calli (va_runV (As := [.int 8]) (rest := [.int 0]) ⟨hx, hb, hml, hown, hts⟩ (k_forceOf_8 l dC dI z zK zV mi fo pe pn re rn mo ti si lo lh lk sp st pa br sg csp cbr th tu H.size) (cwV 1 hts gX15_turnShip_X15_forceOf rfl rfl rfl (by decide +kernel) ⟨Nat.le_of_ble_eq_true rfl, Nat.le_of_ble_eq_true rfl⟩) ⟨kP_blind, va_recv hKc hPc (ci := 19) (q0 := 0) rfl rfl, kP_go hPc hKc hDc hFc hM hS⟩ rfl rfl hl.1 rfl (lv_room (Nat.le_of_ble_eq_true rfl)) dX15_turnShip_13 ⟨Nat.le_of_ble_eq_true rfl, Nat.le_of_ble_eq_true rfl⟩) hS (fun q _ h => hFc q h) hFc (fun r9 u t H1 locs ht hvm hw hB hz1 hk1 hS => ?_)
  obtain ⟨hP, hD, hK⟩ := kJ (wr := []) (w1 := [(sp, .inl (csp, 9, .inl (fun _ => 0))), (br, .inl (cbr, 3, .inl (fun _ => 0))), (mo, .inr (19, [.int 0, .int 0, .int 0, .int 0, .int 0, .int 0, .int tu, .ref ti, .ref si, .ref lo, .ref lh, .ref lk, .ref sp, .ref st, .ref pa, .ref br, .ref sg, .int mi, .int 0, .int 0, .int 0, .int fo, .int 0, .long pe, .long pn, .long re, .long rn, .int th]))]) (t1 := []) hP hD hK [2, 0, 1] [] rfl rfl (by decide) (by decide) hk1 hFc ht hvm hB
  generalize H1 = H at hP hS ⊢
  have hP : va_P (dC, dI) vwCl [(sp, .inl (csp, 9, .inl (fun _ => 0))), (br, .inl (cbr, 3, .inl (fun _ => 0))), (mo, .inr (19, [.int 0, .int 0, .int 0, .int 0, .int 0, .int 0, .int tu, .ref ti, .ref si, .ref lo, .ref lh, .ref lk, .ref sp, .ref st, .ref pa, .ref br, .ref sg, .int mi, .int 0, .int 0, .int 0, .int fo, .int 0, .long pe, .long pn, .long re, .long rn, .int th]))] H := hP
  have hD : va_D A [(sp, .inl (csp, 9, .inl (fun _ => 0))), (br, .inl (cbr, 3, .inl (fun _ => 0))), (mo, .inr (19, [.int 0, .int 0, .int 0, .int 0, .int 0, .int 0, .int tu, .ref ti, .ref si, .ref lo, .ref lh, .ref lk, .ref sp, .ref st, .ref pa, .ref br, .ref sg, .int mi, .int 0, .int 0, .int 0, .int fo, .int 0, .long pe, .long pn, .long re, .long rn, .int th]))] := hD
  have hK : va_K (dC, dI) vwCl [(csp, .int), (cbr, .int)] s := hK
  obtain rfl : 0 = r9 := hw
  refine lv_iadd hx hb dX15_turnShip_16 ?_
  refine kc_i (y := 0) (by decide +kernel) ?_
  refine lv_istore_n (lv' := [(1, .int 0), (2, .int 8), (0, .ref mo)]) hx hb dX15_turnShip_17 rfl hl (by decide) rfl (fun ls hl => ?_)
  refine lv_iinc (v := 9) (lv' := [(2, .int 9), (1, .int 0), (0, .ref mo)]) hx hb dX15_turnShip_18 hl (k := 1) rfl (by decide +kernel) (by decide) rfl (fun ls hl => ?_)
  refine lv_goto (tgt := 4) hx hb dX15_turnShip_21 (by decide) ?_
  refine lv_iload_n hx hb dX15_turnShip_4 rfl (lv_at hl 0 rfl) ?_
  refine lv_bipush (v := 9) hx hb dX15_turnShip_5 (by decide) ?_
  refine lv_icmp_ge (tgt := 24) hx hb dX15_turnShip_7 (by decide) (fun _ => ?_) (fun c_ => absurd (by decide +kernel) c_)
  refine lv_iload_n hx hb dX15_turnShip_24 rfl (lv_at hl 1 rfl) ?_
  refine lv_bipush (v := 30) hx hb dX15_turnShip_25 (by decide) ?_
  refine lv_aload_n hx hb dX15_turnShip_27 rfl (lv_at hl 2 rfl) ?_
  refine va_get (D := (dC, dI)) (ci := 19) (v := .int fo) (C := RX15) (T := TX15) (N := 28) hx hb hts hiX15 hown hK hP 2 rfl rfl 21 (by decide) (hts (.fieldLink RX15 262 "SquareRigModel" "foul" "I") (by decide +kernel)) (fun _ h9 => h9) rfl dX15_turnShip_28 ?_
  refine lv_iadd hx hb dX15_turnShip_31 ?_
  refine lv_idiv hx hb dX15_turnShip_32 hfo ?_
  refine kc_i (y := 0) (k_zdiv _) ?_
  refine lv_istore_n (lv' := [(2, .int 0), (1, .int 0), (0, .ref mo)]) hx hb dX15_turnShip_33 rfl hl (by decide) rfl (fun ls hl => ?_)
  refine lv_aload_n hx hb dX15_turnShip_34 rfl (lv_at hl 2 rfl) ?_
  refine lv_dup hx hb dX15_turnShip_35 rfl ?_
  refine va_get (D := (dC, dI)) (ci := 19) (v := .int 0) (C := RX15) (T := TX15) (N := 28) hx hb hts hiX15 hown hK hP 2 rfl rfl 19 (by decide) (hts (.fieldLink RX15 265 "SquareRigModel" "speed" "I") (by decide +kernel)) (fun _ h9 => h9) rfl dX15_turnShip_36 ?_
  refine lv_bipush (v := (-2)) hx hb dX15_turnShip_39 (by decide) ?_
  refine lv_iconst (v := 2) hx hb dX15_turnShip_41 (by decide) ?_
  refine lv_iload_n hx hb dX15_turnShip_42 rfl (lv_at hl 0 rfl) ?_
  refine lv_aload_n hx hb dX15_turnShip_43 rfl (lv_at hl 2 rfl) ?_
  refine va_get (D := (dC, dI)) (ci := 19) (v := .int 0) (C := RX15) (T := TX15) (N := 28) hx hb hts hiX15 hown hK hP 2 rfl rfl 19 (by decide) (hts (.fieldLink RX15 265 "SquareRigModel" "speed" "I") (by decide +kernel)) (fun _ h9 => h9) rfl dX15_turnShip_44 ?_
  refine lv_isub hx hb dX15_turnShip_47 ?_
  refine kc_i (y := 0) (by decide +kernel) ?_
  refine va_mmin hx hb (hml.trans hl.1.symm) hown (hts (.methodLink RX15 75 Lib.Math.min.name) (by decide +kernel)) (hts (.static Lib.Math.min.name) (by decide +kernel)) (hts (.initialized "java/lang/Math") (by decide +kernel)) (hts (.code Lib.Math.min.name Lib.Math.min.code 2 (some .int)) (by decide +kernel)) (Nat.le_of_ble_eq_true rfl) (Nat.le_of_ble_eq_true rfl) (Nat.le_of_ble_eq_true rfl) (Nat.le_of_ble_eq_true rfl) dX15_turnShip_48 ?_
  refine kc_i (y := 0) (by decide +kernel) ?_
  refine va_mmax hx hb (hml.trans hl.1.symm) hown (hts (.methodLink RX15 102 Lib.Math.max.name) (by decide +kernel)) (hts (.static Lib.Math.max.name) (by decide +kernel)) (hts (.initialized "java/lang/Math") (by decide +kernel)) (hts (.code Lib.Math.max.name Lib.Math.max.code 2 (some .int)) (by decide +kernel)) (Nat.le_of_ble_eq_true rfl) (Nat.le_of_ble_eq_true rfl) (Nat.le_of_ble_eq_true rfl) (Nat.le_of_ble_eq_true rfl) dX15_turnShip_51 ?_
  refine kc_i (y := 0) (by decide +kernel) ?_
  refine lv_iadd hx hb dX15_turnShip_54 ?_
  refine kc_i (y := 0) (by decide +kernel) ?_
  refine va_put (D := (dC, dI)) (ci := 19) (v := .int 0) (ty := .int) (C := RX15) (T := TX15) (N := 28) hx hb hts hiX15 tyX15 tyX15_ok nmX15 hown hK hP hD hS 2 rfl rfl 19 (by decide) (hts (.fieldLink RX15 265 "SquareRigModel" "speed" "I") (by decide +kernel)) (fun _ h9 => h9) rfl (by decide +kernel) rfl rfl (Nat.le_of_ble_eq_true rfl) dX15_turnShip_55 (fun H locs hP hD hS => ?_)
  have hP : va_P (dC, dI) vwCl [(sp, .inl (csp, 9, .inl (fun _ => 0))), (br, .inl (cbr, 3, .inl (fun _ => 0))), (mo, .inr (19, [.int 0, .int 0, .int 0, .int 0, .int 0, .int 0, .int tu, .ref ti, .ref si, .ref lo, .ref lh, .ref lk, .ref sp, .ref st, .ref pa, .ref br, .ref sg, .int mi, .int 0, .int 0, .int 0, .int fo, .int 0, .long pe, .long pn, .long re, .long rn, .int th]))] H := hP
  have hD : va_D A [(sp, .inl (csp, 9, .inl (fun _ => 0))), (br, .inl (cbr, 3, .inl (fun _ => 0))), (mo, .inr (19, [.int 0, .int 0, .int 0, .int 0, .int 0, .int 0, .int tu, .ref ti, .ref si, .ref lo, .ref lh, .ref lk, .ref sp, .ref st, .ref pa, .ref br, .ref sg, .int mi, .int 0, .int 0, .int 0, .int fo, .int 0, .long pe, .long pn, .long re, .long rn, .int th]))] := hD
  refine lv_aload_n hx hb dX15_turnShip_58 rfl (lv_at hl 2 rfl) ?_
  refine lv_dup hx hb dX15_turnShip_59 rfl ?_
  refine va_get (D := (dC, dI)) (ci := 19) (v := .int 0) (C := RX15) (T := TX15) (N := 28) hx hb hts hiX15 hown hK hP 2 rfl rfl 20 (by decide) (hts (.fieldLink RX15 268 "SquareRigModel" "swing" "I") (by decide +kernel)) (fun _ h9 => h9) rfl dX15_turnShip_60 ?_
  refine lv_aload_n hx hb dX15_turnShip_63 rfl (lv_at hl 2 rfl) ?_
  refine va_get (D := (dC, dI)) (ci := 19) (v := .int 0) (C := RX15) (T := TX15) (N := 28) hx hb hts hiX15 hown hK hP 2 rfl rfl 4 (by decide) (hts (.fieldLink RX15 140 "SquareRigModel" "helm" "I") (by decide +kernel)) (fun _ h9 => h9) rfl dX15_turnShip_64 ?_
  refine lv_aload_n hx hb dX15_turnShip_67 rfl (lv_at hl 2 rfl) ?_
  refine va_get (D := (dC, dI)) (ci := 19) (v := .int 0) (C := RX15) (T := TX15) (N := 28) hx hb hts hiX15 hown hK hP 2 rfl rfl 19 (by decide) (hts (.fieldLink RX15 265 "SquareRigModel" "speed" "I") (by decide +kernel)) (fun _ h9 => h9) rfl dX15_turnShip_68 ?_
  refine lv_imul hx hb dX15_turnShip_71 ?_
  refine kc_i (y := 0) (by decide +kernel) ?_
  refine lv_iconst (v := 4) hx hb dX15_turnShip_72 (by decide) ?_
  refine lv_idiv hx hb dX15_turnShip_73 (by decide +kernel) ?_
  refine kc_i (y := 0) (by decide +kernel) ?_
  refine lv_iadd hx hb dX15_turnShip_74 ?_
  refine kc_i (y := 0) (by decide +kernel) ?_
  refine va_put (D := (dC, dI)) (ci := 19) (v := .int 0) (ty := .int) (C := RX15) (T := TX15) (N := 28) hx hb hts hiX15 tyX15 tyX15_ok nmX15 hown hK hP hD hS 2 rfl rfl 20 (by decide) (hts (.fieldLink RX15 268 "SquareRigModel" "swing" "I") (by decide +kernel)) (fun _ h9 => h9) rfl (by decide +kernel) rfl rfl (Nat.le_of_ble_eq_true rfl) dX15_turnShip_75 (fun H locs hP hD hS => ?_)
  have hP : va_P (dC, dI) vwCl [(sp, .inl (csp, 9, .inl (fun _ => 0))), (br, .inl (cbr, 3, .inl (fun _ => 0))), (mo, .inr (19, [.int 0, .int 0, .int 0, .int 0, .int 0, .int 0, .int tu, .ref ti, .ref si, .ref lo, .ref lh, .ref lk, .ref sp, .ref st, .ref pa, .ref br, .ref sg, .int mi, .int 0, .int 0, .int 0, .int fo, .int 0, .long pe, .long pn, .long re, .long rn, .int th]))] H := hP
  have hD : va_D A [(sp, .inl (csp, 9, .inl (fun _ => 0))), (br, .inl (cbr, 3, .inl (fun _ => 0))), (mo, .inr (19, [.int 0, .int 0, .int 0, .int 0, .int 0, .int 0, .int tu, .ref ti, .ref si, .ref lo, .ref lh, .ref lk, .ref sp, .ref st, .ref pa, .ref br, .ref sg, .int mi, .int 0, .int 0, .int 0, .int fo, .int 0, .long pe, .long pn, .long re, .long rn, .int th]))] := hD
  refine lv_aload_n hx hb dX15_turnShip_78 rfl (lv_at hl 2 rfl) ?_
  refine lv_iconst (v := 2) hx hb dX15_turnShip_79 (by decide) ?_
  have hPc := hP.sub (ws' := [(mo, .inr (19, [.int 0, .int 0, .int 0, .int 0, .int 0, .int 0, .int tu, .ref ti, .ref si, .ref lo, .ref lh, .ref lk, .ref sp, .ref st, .ref pa, .ref br, .ref sg, .int mi, .int 0, .int 0, .int 0, .int fo, .int 0, .long pe, .long pn, .long re, .long rn, .int th])), (sp, .inl (csp, 9, .inl (fun _ => 0))), (br, .inl (cbr, 3, .inl (fun _ => 0)))]) [2, 0, 1] rfl
  have hDc := hD.sub (ws' := [(mo, .inr (19, [.int 0, .int 0, .int 0, .int 0, .int 0, .int 0, .int tu, .ref ti, .ref si, .ref lo, .ref lh, .ref lk, .ref sp, .ref st, .ref pa, .ref br, .ref sg, .int mi, .int 0, .int 0, .int 0, .int fo, .int 0, .long pe, .long pn, .long re, .long rn, .int th])), (sp, .inl (csp, 9, .inl (fun _ => 0))), (br, .inl (cbr, 3, .inl (fun _ => 0)))]) [2, 0, 1] (by decide) rfl
  have hKc := hK.sub (tys' := [(csp, .int), (cbr, .int)]) [0, 1] rfl
  have hFc := va_free (wc := [(mo, .inr (19, [.int 0, .int 0, .int 0, .int 0, .int 0, .int 0, .int tu, .ref ti, .ref si, .ref lo, .ref lh, .ref lk, .ref sp, .ref st, .ref pa, .ref br, .ref sg, .int mi, .int 0, .int 0, .int 0, .int fo, .int 0, .long pe, .long pn, .long re, .long rn, .int th])), (sp, .inl (csp, 9, .inl (fun _ => 0))), (br, .inl (cbr, 3, .inl (fun _ => 0)))]) hD hS hA [2, 0, 1] rfl
  refine va_calli (va_runV (As := [.int 2]) (rest := []) ⟨hx, hb, hml, hown, hts⟩ (k_strains_2 l dC dI z zK zV mi fo pe pn re rn mo ti si lo lh lk sp st pa br sg csp cbr th tu H.size) (cwV 1 hts gX15_turnShip_X15_strains rfl rfl rfl (by decide +kernel) ⟨Nat.le_of_ble_eq_true rfl, Nat.le_of_ble_eq_true rfl⟩) ⟨kP_blind, va_recv hKc hPc (ci := 19) (q0 := 0) rfl rfl, kP_go hPc hKc hDc hFc hM hS⟩ rfl rfl hl.1 rfl (lv_room (Nat.le_of_ble_eq_true rfl)) dX15_turnShip_80 ⟨Nat.le_of_ble_eq_true rfl, Nat.le_of_ble_eq_true rfl⟩) hS (fun q _ h => hFc q h) hFc (fun r10 u t H1 locs ht hvm hw hB hz1 hk1 hS => ?_)
  obtain ⟨hP, hD, hK⟩ := kJ (wr := []) (w1 := [(sp, .inl (csp, 9, .inl (fun _ => 0))), (br, .inl (cbr, 3, .inl (fun _ => 0))), (mo, .inr (19, [.int 0, .int 0, .int 0, .int 0, .int 0, .int 0, .int tu, .ref ti, .ref si, .ref lo, .ref lh, .ref lk, .ref sp, .ref st, .ref pa, .ref br, .ref sg, .int mi, .int 0, .int 0, .int 0, .int fo, .int 0, .long pe, .long pn, .long re, .long rn, .int th]))]) (t1 := []) hP hD hK [2, 0, 1] [] rfl rfl (by decide) (by decide) hk1 hFc ht hvm hB
  generalize H1 = H at hP hS ⊢
  have hP : va_P (dC, dI) vwCl [(sp, .inl (csp, 9, .inl (fun _ => 0))), (br, .inl (cbr, 3, .inl (fun _ => 0))), (mo, .inr (19, [.int 0, .int 0, .int 0, .int 0, .int 0, .int 0, .int tu, .ref ti, .ref si, .ref lo, .ref lh, .ref lk, .ref sp, .ref st, .ref pa, .ref br, .ref sg, .int mi, .int 0, .int 0, .int 0, .int fo, .int 0, .long pe, .long pn, .long re, .long rn, .int th]))] H := hP
  have hD : va_D A [(sp, .inl (csp, 9, .inl (fun _ => 0))), (br, .inl (cbr, 3, .inl (fun _ => 0))), (mo, .inr (19, [.int 0, .int 0, .int 0, .int 0, .int 0, .int 0, .int tu, .ref ti, .ref si, .ref lo, .ref lh, .ref lk, .ref sp, .ref st, .ref pa, .ref br, .ref sg, .int mi, .int 0, .int 0, .int 0, .int fo, .int 0, .long pe, .long pn, .long re, .long rn, .int th]))] := hD
  have hK : va_K (dC, dI) vwCl [(csp, .int), (cbr, .int)] s := hK
  obtain rfl : 0 = r10 := hw
  refine lv_aload_n hx hb dX15_turnShip_83 rfl (lv_at hl 2 rfl) ?_
  refine lv_iconst (v := 0) hx hb dX15_turnShip_84 (by decide) ?_
  have hPc := hP.sub (ws' := [(mo, .inr (19, [.int 0, .int 0, .int 0, .int 0, .int 0, .int 0, .int tu, .ref ti, .ref si, .ref lo, .ref lh, .ref lk, .ref sp, .ref st, .ref pa, .ref br, .ref sg, .int mi, .int 0, .int 0, .int 0, .int fo, .int 0, .long pe, .long pn, .long re, .long rn, .int th])), (sp, .inl (csp, 9, .inl (fun _ => 0))), (br, .inl (cbr, 3, .inl (fun _ => 0)))]) [2, 0, 1] rfl
  have hDc := hD.sub (ws' := [(mo, .inr (19, [.int 0, .int 0, .int 0, .int 0, .int 0, .int 0, .int tu, .ref ti, .ref si, .ref lo, .ref lh, .ref lk, .ref sp, .ref st, .ref pa, .ref br, .ref sg, .int mi, .int 0, .int 0, .int 0, .int fo, .int 0, .long pe, .long pn, .long re, .long rn, .int th])), (sp, .inl (csp, 9, .inl (fun _ => 0))), (br, .inl (cbr, 3, .inl (fun _ => 0)))]) [2, 0, 1] (by decide) rfl
  have hKc := hK.sub (tys' := [(csp, .int), (cbr, .int)]) [0, 1] rfl
  have hFc := va_free (wc := [(mo, .inr (19, [.int 0, .int 0, .int 0, .int 0, .int 0, .int 0, .int tu, .ref ti, .ref si, .ref lo, .ref lh, .ref lk, .ref sp, .ref st, .ref pa, .ref br, .ref sg, .int mi, .int 0, .int 0, .int 0, .int fo, .int 0, .long pe, .long pn, .long re, .long rn, .int th])), (sp, .inl (csp, 9, .inl (fun _ => 0))), (br, .inl (cbr, 3, .inl (fun _ => 0)))]) hD hS hA [2, 0, 1] rfl
  refine va_calli (va_runV (As := [.int 0]) (rest := [.int 0]) ⟨hx, hb, hml, hown, hts⟩ (k_strains_0 l dC dI z zK zV mi fo pe pn re rn mo ti si lo lh lk sp st pa br sg csp cbr th tu H.size) (cwV 1 hts gX15_turnShip_X15_strains rfl rfl rfl (by decide +kernel) ⟨Nat.le_of_ble_eq_true rfl, Nat.le_of_ble_eq_true rfl⟩) ⟨kP_blind, va_recv hKc hPc (ci := 19) (q0 := 0) rfl rfl, kP_go hPc hKc hDc hFc hM hS⟩ rfl rfl hl.1 rfl (lv_room (Nat.le_of_ble_eq_true rfl)) dX15_turnShip_85 ⟨Nat.le_of_ble_eq_true rfl, Nat.le_of_ble_eq_true rfl⟩) hS (fun q _ h => hFc q h) hFc (fun r11 u t H1 locs ht hvm hw hB hz1 hk1 hS => ?_)
  obtain ⟨hP, hD, hK⟩ := kJ (wr := []) (w1 := [(sp, .inl (csp, 9, .inl (fun _ => 0))), (br, .inl (cbr, 3, .inl (fun _ => 0))), (mo, .inr (19, [.int 0, .int 0, .int 0, .int 0, .int 0, .int 0, .int tu, .ref ti, .ref si, .ref lo, .ref lh, .ref lk, .ref sp, .ref st, .ref pa, .ref br, .ref sg, .int mi, .int 0, .int 0, .int 0, .int fo, .int 0, .long pe, .long pn, .long re, .long rn, .int th]))]) (t1 := []) hP hD hK [2, 0, 1] [] rfl rfl (by decide) (by decide) hk1 hFc ht hvm hB
  generalize H1 = H at hP hS ⊢
  have hP : va_P (dC, dI) vwCl [(sp, .inl (csp, 9, .inl (fun _ => 0))), (br, .inl (cbr, 3, .inl (fun _ => 0))), (mo, .inr (19, [.int 0, .int 0, .int 0, .int 0, .int 0, .int 0, .int tu, .ref ti, .ref si, .ref lo, .ref lh, .ref lk, .ref sp, .ref st, .ref pa, .ref br, .ref sg, .int mi, .int 0, .int 0, .int 0, .int fo, .int 0, .long pe, .long pn, .long re, .long rn, .int th]))] H := hP
  have hD : va_D A [(sp, .inl (csp, 9, .inl (fun _ => 0))), (br, .inl (cbr, 3, .inl (fun _ => 0))), (mo, .inr (19, [.int 0, .int 0, .int 0, .int 0, .int 0, .int 0, .int tu, .ref ti, .ref si, .ref lo, .ref lh, .ref lk, .ref sp, .ref st, .ref pa, .ref br, .ref sg, .int mi, .int 0, .int 0, .int 0, .int fo, .int 0, .long pe, .long pn, .long re, .long rn, .int th]))] := hD
  have hK : va_K (dC, dI) vwCl [(csp, .int), (cbr, .int)] s := hK
  obtain rfl : 0 = r11 := hw
  refine lv_isub hx hb dX15_turnShip_88 ?_
  refine kc_i (y := 0) (by decide +kernel) ?_
  refine lv_bipush (v := 50) hx hb dX15_turnShip_89 (by decide) ?_
  refine lv_idiv hx hb dX15_turnShip_91 (by decide +kernel) ?_
  refine kc_i (y := 0) (by decide +kernel) ?_
  refine lv_istore_n (lv' := [(3, .int 0), (2, .int 0), (1, .int 0), (0, .ref mo)]) hx hb dX15_turnShip_92 rfl hl (by decide) rfl (fun ls hl => ?_)
  refine lv_aload_n hx hb dX15_turnShip_93 rfl (lv_at hl 3 rfl) ?_
  refine lv_dup hx hb dX15_turnShip_94 rfl ?_
  refine va_get (D := (dC, dI)) (ci := 19) (v := .int 0) (C := RX15) (T := TX15) (N := 28) hx hb hts hiX15 hown hK hP 2 rfl rfl 20 (by decide) (hts (.fieldLink RX15 268 "SquareRigModel" "swing" "I") (by decide +kernel)) (fun _ h9 => h9) rfl dX15_turnShip_95 ?_
  refine lv_aload_n hx hb dX15_turnShip_98 rfl (lv_at hl 3 rfl) ?_
  have hPc := hP.sub (ws' := [(mo, .inr (19, [.int 0, .int 0, .int 0, .int 0, .int 0, .int 0, .int tu, .ref ti, .ref si, .ref lo, .ref lh, .ref lk, .ref sp, .ref st, .ref pa, .ref br, .ref sg, .int mi, .int 0, .int 0, .int 0, .int fo, .int 0, .long pe, .long pn, .long re, .long rn, .int th]))]) [2] rfl
  have hDc := hD.sub (ws' := [(mo, .inr (19, [.int 0, .int 0, .int 0, .int 0, .int 0, .int 0, .int tu, .ref ti, .ref si, .ref lo, .ref lh, .ref lk, .ref sp, .ref st, .ref pa, .ref br, .ref sg, .int mi, .int 0, .int 0, .int 0, .int fo, .int 0, .long pe, .long pn, .long re, .long rn, .int th]))]) [2] (by decide) rfl
  have hKc := hK.sub (tys' := []) [] rfl
  have hFc := va_free (wc := [(mo, .inr (19, [.int 0, .int 0, .int 0, .int 0, .int 0, .int 0, .int tu, .ref ti, .ref si, .ref lo, .ref lh, .ref lk, .ref sp, .ref st, .ref pa, .ref br, .ref sg, .int mi, .int 0, .int 0, .int 0, .int fo, .int 0, .long pe, .long pn, .long re, .long rn, .int th]))]) hD hS hA [2] rfl
  refine va_calli (va_runV (As := []) (rest := [.int 0, .ref mo]) ⟨hx, hb, hml, hown, hts⟩ (k_sideNow l dC dI z zK zV mi fo pe pn re rn mo ti si lo lh lk sp st pa br sg th tu H.size) (cwV 0 hts gX15_turnShip_X15_sideNow rfl rfl rfl (by decide +kernel) ⟨Nat.le_of_ble_eq_true rfl, Nat.le_of_ble_eq_true rfl⟩) ⟨kP_blind, va_recv hKc hPc (ci := 19) (q0 := 0) rfl rfl, kP_go hPc hKc hDc hFc hM hS⟩ rfl rfl hl.1 rfl (lv_room (Nat.le_of_ble_eq_true rfl)) dX15_turnShip_99 ⟨Nat.le_of_ble_eq_true rfl, Nat.le_of_ble_eq_true rfl⟩) hS (fun q _ h => hFc q h) hFc (fun r12 u t H1 locs ht hvm hw hB hz1 hk1 hS => ?_)
  obtain ⟨hP, hD, hK⟩ := kJ (wr := [(sp, .inl (csp, 9, .inl (fun _ => 0))), (br, .inl (cbr, 3, .inl (fun _ => 0)))]) (w1 := [(mo, .inr (19, [.int 0, .int 0, .int 0, .int 0, .int 0, .int 0, .int tu, .ref ti, .ref si, .ref lo, .ref lh, .ref lk, .ref sp, .ref st, .ref pa, .ref br, .ref sg, .int mi, .int 0, .int 0, .int 0, .int fo, .int 0, .long pe, .long pn, .long re, .long rn, .int th]))]) (t1 := []) hP hD hK [2] [0, 1] rfl rfl (by decide) (by decide) hk1 hFc ht hvm hB
  generalize H1 = H at hP hS ⊢
  have hP : va_P (dC, dI) vwCl [(sp, .inl (csp, 9, .inl (fun _ => 0))), (br, .inl (cbr, 3, .inl (fun _ => 0))), (mo, .inr (19, [.int 0, .int 0, .int 0, .int 0, .int 0, .int 0, .int tu, .ref ti, .ref si, .ref lo, .ref lh, .ref lk, .ref sp, .ref st, .ref pa, .ref br, .ref sg, .int mi, .int 0, .int 0, .int 0, .int fo, .int 0, .long pe, .long pn, .long re, .long rn, .int th]))] H := hP
  have hD : va_D A [(sp, .inl (csp, 9, .inl (fun _ => 0))), (br, .inl (cbr, 3, .inl (fun _ => 0))), (mo, .inr (19, [.int 0, .int 0, .int 0, .int 0, .int 0, .int 0, .int tu, .ref ti, .ref si, .ref lo, .ref lh, .ref lk, .ref sp, .ref st, .ref pa, .ref br, .ref sg, .int mi, .int 0, .int 0, .int 0, .int fo, .int 0, .long pe, .long pn, .long re, .long rn, .int th]))] := hD
  have hK : va_K (dC, dI) vwCl [(csp, .int), (cbr, .int)] s := hK
  obtain rfl : 0 = r12 := hw
  refine lv_iload_n hx hb dX15_turnShip_102 rfl (lv_at hl 0 rfl) ?_
  refine lv_imul hx hb dX15_turnShip_103 ?_
  refine kc_i (y := 0) (by decide +kernel) ?_
  refine lv_iadd hx hb dX15_turnShip_104 ?_
  refine kc_i (y := 0) (by decide +kernel) ?_
  refine va_put (D := (dC, dI)) (ci := 19) (v := .int 0) (ty := .int) (C := RX15) (T := TX15) (N := 28) hx hb hts hiX15 tyX15 tyX15_ok nmX15 hown hK hP hD hS 2 rfl rfl 20 (by decide) (hts (.fieldLink RX15 268 "SquareRigModel" "swing" "I") (by decide +kernel)) (fun _ h9 => h9) rfl (by decide +kernel) rfl rfl (Nat.le_of_ble_eq_true rfl) dX15_turnShip_105 (fun H locs hP hD hS => ?_)
  have hP : va_P (dC, dI) vwCl [(sp, .inl (csp, 9, .inl (fun _ => 0))), (br, .inl (cbr, 3, .inl (fun _ => 0))), (mo, .inr (19, [.int 0, .int 0, .int 0, .int 0, .int 0, .int 0, .int tu, .ref ti, .ref si, .ref lo, .ref lh, .ref lk, .ref sp, .ref st, .ref pa, .ref br, .ref sg, .int mi, .int 0, .int 0, .int 0, .int fo, .int 0, .long pe, .long pn, .long re, .long rn, .int th]))] H := hP
  have hD : va_D A [(sp, .inl (csp, 9, .inl (fun _ => 0))), (br, .inl (cbr, 3, .inl (fun _ => 0))), (mo, .inr (19, [.int 0, .int 0, .int 0, .int 0, .int 0, .int 0, .int tu, .ref ti, .ref si, .ref lo, .ref lh, .ref lk, .ref sp, .ref st, .ref pa, .ref br, .ref sg, .int mi, .int 0, .int 0, .int 0, .int fo, .int 0, .long pe, .long pn, .long re, .long rn, .int th]))] := hD
  refine lv_aload_n hx hb dX15_turnShip_108 rfl (lv_at hl 3 rfl) ?_
  refine va_get (D := (dC, dI)) (ci := 19) (v := .int 0) (C := RX15) (T := TX15) (N := 28) hx hb hts hiX15 hown hK hP 2 rfl rfl 20 (by decide) (hts (.fieldLink RX15 268 "SquareRigModel" "swing" "I") (by decide +kernel)) (fun _ h9 => h9) rfl dX15_turnShip_109 ?_
  refine lv_bipush (v := 100) hx hb dX15_turnShip_112 (by decide) ?_
  refine lv_icmp_lt (tgt := 144) hx hb dX15_turnShip_114 (by decide) (fun _ => ?_) (fun c_ => absurd (by decide +kernel) c_)
  refine lv_aload_n hx hb dX15_turnShip_144 rfl (lv_at hl 3 rfl) ?_
  refine va_get (D := (dC, dI)) (ci := 19) (v := .int 0) (C := RX15) (T := TX15) (N := 28) hx hb hts hiX15 hown hK hP 2 rfl rfl 20 (by decide) (hts (.fieldLink RX15 268 "SquareRigModel" "swing" "I") (by decide +kernel)) (fun _ h9 => h9) rfl dX15_turnShip_145 ?_
  refine lv_bipush (v := (-100)) hx hb dX15_turnShip_148 (by decide) ?_
  refine lv_icmp_gt (tgt := 183) hx hb dX15_turnShip_150 (by decide) (fun _ => ?_) (fun c_ => absurd (by decide +kernel) c_)
  refine lv_aload_n hx hb dX15_turnShip_183 rfl (lv_at hl 3 rfl) ?_
  have hPc := hP.sub (ws' := [(mo, .inr (19, [.int 0, .int 0, .int 0, .int 0, .int 0, .int 0, .int tu, .ref ti, .ref si, .ref lo, .ref lh, .ref lk, .ref sp, .ref st, .ref pa, .ref br, .ref sg, .int mi, .int 0, .int 0, .int 0, .int fo, .int 0, .long pe, .long pn, .long re, .long rn, .int th]))]) [2] rfl
  have hDc := hD.sub (ws' := [(mo, .inr (19, [.int 0, .int 0, .int 0, .int 0, .int 0, .int 0, .int tu, .ref ti, .ref si, .ref lo, .ref lh, .ref lk, .ref sp, .ref st, .ref pa, .ref br, .ref sg, .int mi, .int 0, .int 0, .int 0, .int fo, .int 0, .long pe, .long pn, .long re, .long rn, .int th]))]) [2] (by decide) rfl
  have hKc := hK.sub (tys' := []) [] rfl
  have hFc := va_free (wc := [(mo, .inr (19, [.int 0, .int 0, .int 0, .int 0, .int 0, .int 0, .int tu, .ref ti, .ref si, .ref lo, .ref lh, .ref lk, .ref sp, .ref st, .ref pa, .ref br, .ref sg, .int mi, .int 0, .int 0, .int 0, .int fo, .int 0, .long pe, .long pn, .long re, .long rn, .int th]))]) hD hS hA [2] rfl
  refine va_calli (va_runV (As := []) (rest := []) ⟨hx, hb, hml, hown, hts⟩ (k_sideNow l dC dI z zK zV mi fo pe pn re rn mo ti si lo lh lk sp st pa br sg th tu H.size) (cwV 0 hts gX15_turnShip_X15_sideNow rfl rfl rfl (by decide +kernel) ⟨Nat.le_of_ble_eq_true rfl, Nat.le_of_ble_eq_true rfl⟩) ⟨kP_blind, va_recv hKc hPc (ci := 19) (q0 := 0) rfl rfl, kP_go hPc hKc hDc hFc hM hS⟩ rfl rfl hl.1 rfl (lv_room (Nat.le_of_ble_eq_true rfl)) dX15_turnShip_184 ⟨Nat.le_of_ble_eq_true rfl, Nat.le_of_ble_eq_true rfl⟩) hS (fun q _ h => hFc q h) hFc (fun r13 u t H1 locs ht hvm hw hB hz1 hk1 hS => ?_)
  obtain ⟨hP, hD, hK⟩ := kJ (wr := [(sp, .inl (csp, 9, .inl (fun _ => 0))), (br, .inl (cbr, 3, .inl (fun _ => 0)))]) (w1 := [(mo, .inr (19, [.int 0, .int 0, .int 0, .int 0, .int 0, .int 0, .int tu, .ref ti, .ref si, .ref lo, .ref lh, .ref lk, .ref sp, .ref st, .ref pa, .ref br, .ref sg, .int mi, .int 0, .int 0, .int 0, .int fo, .int 0, .long pe, .long pn, .long re, .long rn, .int th]))]) (t1 := []) hP hD hK [2] [0, 1] rfl rfl (by decide) (by decide) hk1 hFc ht hvm hB
  generalize H1 = H at hP hS ⊢
  have hP : va_P (dC, dI) vwCl [(sp, .inl (csp, 9, .inl (fun _ => 0))), (br, .inl (cbr, 3, .inl (fun _ => 0))), (mo, .inr (19, [.int 0, .int 0, .int 0, .int 0, .int 0, .int 0, .int tu, .ref ti, .ref si, .ref lo, .ref lh, .ref lk, .ref sp, .ref st, .ref pa, .ref br, .ref sg, .int mi, .int 0, .int 0, .int 0, .int fo, .int 0, .long pe, .long pn, .long re, .long rn, .int th]))] H := hP
  have hD : va_D A [(sp, .inl (csp, 9, .inl (fun _ => 0))), (br, .inl (cbr, 3, .inl (fun _ => 0))), (mo, .inr (19, [.int 0, .int 0, .int 0, .int 0, .int 0, .int 0, .int tu, .ref ti, .ref si, .ref lo, .ref lh, .ref lk, .ref sp, .ref st, .ref pa, .ref br, .ref sg, .int mi, .int 0, .int 0, .int 0, .int fo, .int 0, .long pe, .long pn, .long re, .long rn, .int th]))] := hD
  have hK : va_K (dC, dI) vwCl [(csp, .int), (cbr, .int)] s := hK
  obtain rfl : 0 = r13 := hw
  refine lv_istore (lv' := [(4, .int 0), (3, .int 0), (2, .int 0), (1, .int 0), (0, .ref mo)]) hx hb dX15_turnShip_187 hl (by decide) rfl (fun ls hl => ?_)
  refine lv_iload hx hb dX15_turnShip_189 (lv_at hl 0 rfl) ?_
  refine lv_if_eq (tgt := 230) hx hb dX15_turnShip_191 (by decide) (fun _ => ?_) (fun c_ => absurd (by decide +kernel) c_)
  refine lv_aload_n hx hb dX15_turnShip_230 rfl (lv_at hl 4 rfl) ?_
  refine lv_iload hx hb dX15_turnShip_231 (lv_at hl 0 rfl) ?_
  refine lv_if_ne (tgt := 243) hx hb dX15_turnShip_233 (by decide) (fun c_ => absurd (by decide +kernel) c_) (fun _ => ?_)
  refine lv_aload_n hx hb dX15_turnShip_236 rfl (lv_at hl 4 rfl) ?_
  refine va_get (D := (dC, dI)) (ci := 19) (v := .int 0) (C := RX15) (T := TX15) (N := 28) hx hb hts hiX15 hown hK hP 2 rfl rfl 22 (by decide) (hts (.fieldLink RX15 274 "SquareRigModel" "side" "I") (by decide +kernel)) (fun _ h9 => h9) rfl dX15_turnShip_237 ?_
  refine lv_goto (tgt := 245) hx hb dX15_turnShip_240 (by decide) ?_
  refine va_put (D := (dC, dI)) (ci := 19) (v := .int 0) (ty := .int) (C := RX15) (T := TX15) (N := 28) hx hb hts hiX15 tyX15 tyX15_ok nmX15 hown hK hP hD hS 2 rfl rfl 22 (by decide) (hts (.fieldLink RX15 274 "SquareRigModel" "side" "I") (by decide +kernel)) (fun _ h9 => h9) rfl (by decide +kernel) rfl rfl (Nat.le_of_ble_eq_true rfl) dX15_turnShip_245 (fun H locs hP hD hS => ?_)
  have hP : va_P (dC, dI) vwCl [(sp, .inl (csp, 9, .inl (fun _ => 0))), (br, .inl (cbr, 3, .inl (fun _ => 0))), (mo, .inr (19, [.int 0, .int 0, .int 0, .int 0, .int 0, .int 0, .int tu, .ref ti, .ref si, .ref lo, .ref lh, .ref lk, .ref sp, .ref st, .ref pa, .ref br, .ref sg, .int mi, .int 0, .int 0, .int 0, .int fo, .int 0, .long pe, .long pn, .long re, .long rn, .int th]))] H := hP
  have hD : va_D A [(sp, .inl (csp, 9, .inl (fun _ => 0))), (br, .inl (cbr, 3, .inl (fun _ => 0))), (mo, .inr (19, [.int 0, .int 0, .int 0, .int 0, .int 0, .int 0, .int tu, .ref ti, .ref si, .ref lo, .ref lh, .ref lk, .ref sp, .ref st, .ref pa, .ref br, .ref sg, .int mi, .int 0, .int 0, .int 0, .int fo, .int 0, .long pe, .long pn, .long re, .long rn, .int th]))] := hD
  exact W.vret hx hb hr (fun t ht hW => ⟨⟨(), rfl, trivial, kB_end (w9 := [(sp, .inl (csp, 9, .inl (fun _ => 0))), (br, .inl (cbr, 3, .inl (fun _ => 0))), (mo, .inr (19, [.int 0, .int 0, .int 0, .int 0, .int 0, .int 0, .int tu, .ref ti, .ref si, .ref lo, .ref lh, .ref lk, .ref sp, .ref st, .ref pa, .ref br, .ref sg, .int mi, .int 0, .int 0, .int 0, .int fo, .int 0, .long pe, .long pn, .long re, .long rn, .int th]))]) (t9 := []) hP hK hD [0, 1, 2] [] rfl (by decide) rfl rfl t ht hW⟩, hS.F ht⟩) hS.2.2 dX15_turnShip_248
abbrev wd_k_mgo (z : Nat → Nat) (mi : Int32) (fo : Int32) (pe : Int64) (pn : Int64) (re : Int64) (rn : Int64) (mo : Nat) (ti : Nat) (si : Nat) (lo : Nat) (lh : Nat) (lk : Nat) (sp : Nat) (st : Nat) (pa : Nat) (br : Nat) (sg : Nat) (csp : ClassId) (cbr : ClassId) (th : Int32) (tu : Int32) : va_W := [(mo, .inr (19, [.int 0, .int 0, .int 0, .int 0, .int 0, .int 0, .int tu, .ref ti, .ref si, .ref lo, .ref lh, .ref lk, .ref sp, .ref st, .ref pa, .ref br, .ref sg, .int mi, .int 0, .int 0, .int 0, .int fo, .int 0, .long pe, .long pn, .long re, .long rn, .int th])), (sp, .inl (csp, 9, .inl (fun _ => 0))), (br, .inl (cbr, 3, .inl (fun _ => 0)))]
set_option maxHeartbeats 4000000 in
set_option maxRecDepth 100000 in
theorem k_mgo (l : Launch) (dC : Nat → ClassId) (dI : Nat → Nat → Nat) (z zK zV : Nat → Nat) (mi : Int32) (fo : Int32) (pe : Int64) (pn : Int64) (re : Int64) (rn : Int64) (mo : Nat) (ti : Nat) (si : Nat) (lo : Nat) (lh : Nat) (lk : Nat) (sp : Nat) (st : Nat) (pa : Nat) (br : Nat) (sg : Nat) (csp : ClassId) (cbr : ClassId) (th : Int32) (tu : Int32) (sz : Nat)  : Met l yX15_go wsX15_go ({ frames := 9, cells := 0, slots := 0, locals := 194 }) (kP dC dI z zK zV [.ref mo] sz (wd_k_mgo z mi fo pe pn re rn mo ti si lo lh lk sp st pa br sg csp cbr th tu) [(csp, .int), (cbr, .int)]) (va_Qv (fun _ : Unit => True) (fun _ t => ∃ (u1 : Int64) (u2 : Int64), kB (dC, dI) (va_A (wd_k_mgo z mi fo pe pn re rn mo ti si lo lh lk sp st pa br sg csp cbr th tu) sz) [(sp, .inl (csp, 9, .inl (fun _ => 0))), (br, .inl (cbr, 3, .inl (fun _ => 0))), (mo, .inr (19, [.int 0, .int 0, .int 0, .int 0, .int 0, .int 0, .int tu, .ref ti, .ref si, .ref lo, .ref lh, .ref lk, .ref sp, .ref st, .ref pa, .ref br, .ref sg, .int mi, .int 0, .int 0, .int 0, .int fo, .int 0, .long u1, .long u2, .long re, .long rn, .int th]))] [] t) (va_A (wd_k_mgo z mi fo pe pn re rn mo ti si lo lh lk sp st pa br sg csp cbr th tu) sz)) 0 0 (va_A (wd_k_mgo z mi fo pe pn re rn mo ti si lo lh lk sp st pa br sg csp cbr th tu) sz) := by
  refine Met.ofW (cc := cX15_go) (maxL := 2) (ret := none) (by decide) rfl ?_
  intro p e s m args below meth c s₁ B hml hv
  obtain ⟨rfl, hsz, hP, hK, hD0, hM⟩ := hv
  have hx := B.exec
  have hb := B.bytes
  have hr := B.returns
  have hts := atoms_spec (ws := wsX15_go) B.pre
  have hown : s.vm.findClass RX15 = some m.cls := findClass_of_methodNamed B.named
  have hlocks := B.notSynchronized
  have hiX15 : ∀ w ∈ u_ws RX15 TX15 28, w ∈ wsX15_go := by decide +kernel
  subst hsz
  have hD := hD0.self (sz := s.heap.size)
  generalize hAe : va_A (wd_k_mgo z mi fo pe pn re rn mo ti si lo lh lk sp st pa br sg csp cbr th tu) s.heap.size = A at hD hM ⊢
  have hA : ∀ q : Nat, s.heap.size ≤ q → A q := fun q h => by rw [← hAe]; exact Or.inr h
  have hS : va_S A s.heap s.heap [] := va_S.rf
  have hP : va_P (dC, dI) vwCl [(mo, .inr (19, [.int 0, .int 0, .int 0, .int 0, .int 0, .int 0, .int tu, .ref ti, .ref si, .ref lo, .ref lh, .ref lk, .ref sp, .ref st, .ref pa, .ref br, .ref sg, .int mi, .int 0, .int 0, .int 0, .int fo, .int 0, .long pe, .long pn, .long re, .long rn, .int th])), (sp, .inl (csp, 9, .inl (fun _ => 0))), (br, .inl (cbr, 3, .inl (fun _ => 0)))] s.heap := hP
  have hD : va_D A [(mo, .inr (19, [.int 0, .int 0, .int 0, .int 0, .int 0, .int 0, .int tu, .ref ti, .ref si, .ref lo, .ref lh, .ref lk, .ref sp, .ref st, .ref pa, .ref br, .ref sg, .int mi, .int 0, .int 0, .int 0, .int fo, .int 0, .long pe, .long pn, .long re, .long rn, .int th])), (sp, .inl (csp, 9, .inl (fun _ => 0))), (br, .inl (cbr, 3, .inl (fun _ => 0)))] := hD
  have hl := lv_entry ([.ref mo]) (n := 2) (Nat.le_of_ble_eq_true rfl)
  rw [lg_entry_eq]
  generalize (lg_sl ([.ref mo]) ++ List.replicate (2 - (lg_sl ([.ref mo])).length) Slot.unset).toArray = ls at hl ⊢
  have hl : lv_has ls 2 [(0, .ref mo)] := hl
  refine lv_aload_n hx hb dX15_go_0 rfl (lv_at hl 0 rfl) ?_
  have hPc := hP.sub (ws' := [(mo, .inr (19, [.int 0, .int 0, .int 0, .int 0, .int 0, .int 0, .int tu, .ref ti, .ref si, .ref lo, .ref lh, .ref lk, .ref sp, .ref st, .ref pa, .ref br, .ref sg, .int mi, .int 0, .int 0, .int 0, .int fo, .int 0, .long pe, .long pn, .long re, .long rn, .int th]))]) [0] rfl
  have hDc := hD.sub (ws' := [(mo, .inr (19, [.int 0, .int 0, .int 0, .int 0, .int 0, .int 0, .int tu, .ref ti, .ref si, .ref lo, .ref lh, .ref lk, .ref sp, .ref st, .ref pa, .ref br, .ref sg, .int mi, .int 0, .int 0, .int 0, .int fo, .int 0, .long pe, .long pn, .long re, .long rn, .int th]))]) [0] (by decide) rfl
  have hKc := hK.sub (tys' := []) [] rfl
  have hFc := va_free (wc := [(mo, .inr (19, [.int 0, .int 0, .int 0, .int 0, .int 0, .int 0, .int tu, .ref ti, .ref si, .ref lo, .ref lh, .ref lk, .ref sp, .ref st, .ref pa, .ref br, .ref sg, .int mi, .int 0, .int 0, .int 0, .int fo, .int 0, .long pe, .long pn, .long re, .long rn, .int th]))]) hD hS hA [0] rfl
  refine va_calli (va_runV (As := []) (rest := []) ⟨hx, hb, hml, hown, hts⟩ (k_points l dC dI z zK zV mi fo pe pn re rn mo ti si lo lh lk sp st pa br sg th tu s.heap.size) (cwV 0 hts gX15_go_X15_points rfl rfl rfl (by decide +kernel) ⟨Nat.le_of_ble_eq_true rfl, Nat.le_of_ble_eq_true rfl⟩) ⟨kP_blind, va_recv hKc hPc (ci := 19) (q0 := 0) rfl rfl, kP_go hPc hKc hDc hFc hM hS⟩ rfl rfl hl.1 rfl (lv_room (Nat.le_of_ble_eq_true rfl)) dX15_go_1 ⟨Nat.le_of_ble_eq_true rfl, Nat.le_of_ble_eq_true rfl⟩) hS (fun q _ h => hFc q h) hFc (fun r1 u t H1 locs ht hvm hw hB hz1 hk1 hS => ?_)
  obtain ⟨hP, hD, hK⟩ := kJ (wr := [(sp, .inl (csp, 9, .inl (fun _ => 0))), (br, .inl (cbr, 3, .inl (fun _ => 0)))]) (w1 := [(mo, .inr (19, [.int 0, .int 0, .int 0, .int 0, .int 0, .int 0, .int tu, .ref ti, .ref si, .ref lo, .ref lh, .ref lk, .ref sp, .ref st, .ref pa, .ref br, .ref sg, .int mi, .int 0, .int 0, .int 0, .int fo, .int 0, .long pe, .long pn, .long re, .long rn, .int th]))]) (t1 := []) hP hD hK [0] [1, 2] rfl rfl (by decide) (by decide) hk1 hFc ht hvm hB
  generalize H1 = H at hP hS ⊢
  have hP : va_P (dC, dI) vwCl [(sp, .inl (csp, 9, .inl (fun _ => 0))), (br, .inl (cbr, 3, .inl (fun _ => 0))), (mo, .inr (19, [.int 0, .int 0, .int 0, .int 0, .int 0, .int 0, .int tu, .ref ti, .ref si, .ref lo, .ref lh, .ref lk, .ref sp, .ref st, .ref pa, .ref br, .ref sg, .int mi, .int 0, .int 0, .int 0, .int fo, .int 0, .long pe, .long pn, .long re, .long rn, .int th]))] H := hP
  have hD : va_D A [(sp, .inl (csp, 9, .inl (fun _ => 0))), (br, .inl (cbr, 3, .inl (fun _ => 0))), (mo, .inr (19, [.int 0, .int 0, .int 0, .int 0, .int 0, .int 0, .int tu, .ref ti, .ref si, .ref lo, .ref lh, .ref lk, .ref sp, .ref st, .ref pa, .ref br, .ref sg, .int mi, .int 0, .int 0, .int 0, .int fo, .int 0, .long pe, .long pn, .long re, .long rn, .int th]))] := hD
  have hK : va_K (dC, dI) vwCl [(csp, .int), (cbr, .int)] s := hK
  obtain rfl : 0 = r1 := hw
  refine lv_bipush (v := 10) hx hb dX15_go_4 (by decide) ?_
  refine lv_icmp_gt (tgt := 21) hx hb dX15_go_6 (by decide) (fun c_ => absurd c_ (by decide +kernel)) (fun _ => ?_)
  refine lv_aload_n hx hb dX15_go_9 rfl (lv_at hl 0 rfl) ?_
  refine lv_iconst (v := (-1)) hx hb dX15_go_10 (by decide) ?_
  have hPc := hP.sub (ws' := [(mo, .inr (19, [.int 0, .int 0, .int 0, .int 0, .int 0, .int 0, .int tu, .ref ti, .ref si, .ref lo, .ref lh, .ref lk, .ref sp, .ref st, .ref pa, .ref br, .ref sg, .int mi, .int 0, .int 0, .int 0, .int fo, .int 0, .long pe, .long pn, .long re, .long rn, .int th])), (sp, .inl (csp, 9, .inl (fun _ => 0))), (br, .inl (cbr, 3, .inl (fun _ => 0)))]) [2, 0, 1] rfl
  have hDc := hD.sub (ws' := [(mo, .inr (19, [.int 0, .int 0, .int 0, .int 0, .int 0, .int 0, .int tu, .ref ti, .ref si, .ref lo, .ref lh, .ref lk, .ref sp, .ref st, .ref pa, .ref br, .ref sg, .int mi, .int 0, .int 0, .int 0, .int fo, .int 0, .long pe, .long pn, .long re, .long rn, .int th])), (sp, .inl (csp, 9, .inl (fun _ => 0))), (br, .inl (cbr, 3, .inl (fun _ => 0)))]) [2, 0, 1] (by decide) rfl
  have hKc := hK.sub (tys' := [(csp, .int), (cbr, .int)]) [0, 1] rfl
  have hFc := va_free (wc := [(mo, .inr (19, [.int 0, .int 0, .int 0, .int 0, .int 0, .int 0, .int tu, .ref ti, .ref si, .ref lo, .ref lh, .ref lk, .ref sp, .ref st, .ref pa, .ref br, .ref sg, .int mi, .int 0, .int 0, .int 0, .int fo, .int 0, .long pe, .long pn, .long re, .long rn, .int th])), (sp, .inl (csp, 9, .inl (fun _ => 0))), (br, .inl (cbr, 3, .inl (fun _ => 0)))]) hD hS hA [2, 0, 1] rfl
  refine va_calli (va_runV (As := [.int (-1)]) (rest := []) ⟨hx, hb, hml, hown, hts⟩ (k_strains_m1 l dC dI z zK zV mi fo pe pn re rn mo ti si lo lh lk sp st pa br sg csp cbr th tu H.size) (cwV 1 hts gX15_go_X15_strains rfl rfl rfl (by decide +kernel) ⟨Nat.le_of_ble_eq_true rfl, Nat.le_of_ble_eq_true rfl⟩) ⟨kP_blind, va_recv hKc hPc (ci := 19) (q0 := 0) rfl rfl, kP_go hPc hKc hDc hFc hM hS⟩ rfl rfl hl.1 rfl (lv_room (Nat.le_of_ble_eq_true rfl)) dX15_go_11 ⟨Nat.le_of_ble_eq_true rfl, Nat.le_of_ble_eq_true rfl⟩) hS (fun q _ h => hFc q h) hFc (fun r2 u t H1 locs ht hvm hw hB hz1 hk1 hS => ?_)
  obtain ⟨hP, hD, hK⟩ := kJ (wr := []) (w1 := [(sp, .inl (csp, 9, .inl (fun _ => 0))), (br, .inl (cbr, 3, .inl (fun _ => 0))), (mo, .inr (19, [.int 0, .int 0, .int 0, .int 0, .int 0, .int 0, .int tu, .ref ti, .ref si, .ref lo, .ref lh, .ref lk, .ref sp, .ref st, .ref pa, .ref br, .ref sg, .int mi, .int 0, .int 0, .int 0, .int fo, .int 0, .long pe, .long pn, .long re, .long rn, .int th]))]) (t1 := []) hP hD hK [2, 0, 1] [] rfl rfl (by decide) (by decide) hk1 hFc ht hvm hB
  generalize H1 = H at hP hS ⊢
  have hP : va_P (dC, dI) vwCl [(sp, .inl (csp, 9, .inl (fun _ => 0))), (br, .inl (cbr, 3, .inl (fun _ => 0))), (mo, .inr (19, [.int 0, .int 0, .int 0, .int 0, .int 0, .int 0, .int tu, .ref ti, .ref si, .ref lo, .ref lh, .ref lk, .ref sp, .ref st, .ref pa, .ref br, .ref sg, .int mi, .int 0, .int 0, .int 0, .int fo, .int 0, .long pe, .long pn, .long re, .long rn, .int th]))] H := hP
  have hD : va_D A [(sp, .inl (csp, 9, .inl (fun _ => 0))), (br, .inl (cbr, 3, .inl (fun _ => 0))), (mo, .inr (19, [.int 0, .int 0, .int 0, .int 0, .int 0, .int 0, .int tu, .ref ti, .ref si, .ref lo, .ref lh, .ref lk, .ref sp, .ref st, .ref pa, .ref br, .ref sg, .int mi, .int 0, .int 0, .int 0, .int fo, .int 0, .long pe, .long pn, .long re, .long rn, .int th]))] := hD
  have hK : va_K (dC, dI) vwCl [(csp, .int), (cbr, .int)] s := hK
  obtain rfl : 0 = r2 := hw
  refine lv_sipush (v := 200) hx hb dX15_go_14 (by decide) ?_
  refine lv_idiv hx hb dX15_go_17 (by decide +kernel) ?_
  refine kc_i (y := 0) (by decide +kernel) ?_
  refine lv_goto (tgt := 22) hx hb dX15_go_18 (by decide) ?_
  refine lv_istore_n (lv' := [(1, .int 0), (0, .ref mo)]) hx hb dX15_go_22 rfl hl (by decide) rfl (fun ls hl => ?_)
  refine lv_aload_n hx hb dX15_go_23 rfl (lv_at hl 1 rfl) ?_
  refine lv_dup hx hb dX15_go_24 rfl ?_
  refine va_get (D := (dC, dI)) (ci := 19) (v := .long pn) (C := RX15) (T := TX15) (N := 28) hx hb hts hiX15 hown hK hP 2 rfl rfl 24 (by decide) (hts (.fieldLink RX15 277 "SquareRigModel" "north" "J") (by decide +kernel)) (fun _ h9 => h9) rfl dX15_go_25 ?_
  refine lv_aload_n hx hb dX15_go_28 rfl (lv_at hl 1 rfl) ?_
  refine va_get (D := (dC, dI)) (ci := 19) (v := .int 0) (C := RX15) (T := TX15) (N := 28) hx hb hts hiX15 hown hK hP 2 rfl rfl 19 (by decide) (hts (.fieldLink RX15 265 "SquareRigModel" "speed" "I") (by decide +kernel)) (fun _ h9 => h9) rfl dX15_go_29 ?_
  refine lv_i2l (v := 0) hx hb dX15_go_32 (by decide +kernel) ?_
  refine lv_aload_n hx hb dX15_go_33 rfl (lv_at hl 1 rfl) ?_
  refine va_get (D := (dC, dI)) (ci := 19) (v := .int 0) (C := RX15) (T := TX15) (N := 28) hx hb hts hiX15 hown hK hP 2 rfl rfl 18 (by decide) (hts (.fieldLink RX15 68 "SquareRigModel" "heading" "I") (by decide +kernel)) (fun _ h9 => h9) rfl dX15_go_34 ?_
  have hPc := hP.sub (ws' := []) [] rfl
  have hDc := hD.sub (ws' := []) [] (by decide) rfl
  have hKc := hK.sub (tys' := []) [] rfl
  have hFc := va_free (wc := []) hD hS hA [] rfl
  refine va_calli (va_runS (As := [.int 0]) (rest := [.long 0, .long pn, .ref mo]) ⟨hx, hb, hml, hown, hts⟩ (k_northOf_0 l dC dI z zK zV  H.size) (va_cwS 1 hts gX15_go_X15_northOf rfl rfl rfl (by decide +kernel) ⟨Nat.le_of_ble_eq_true rfl, Nat.le_of_ble_eq_true rfl⟩) ⟨kP_blind, kP_go hPc hKc hDc hFc hM hS⟩ rfl rfl hl.1 rfl (lv_room (Nat.le_of_ble_eq_true rfl)) dX15_go_37 ⟨Nat.le_of_ble_eq_true rfl, Nat.le_of_ble_eq_true rfl⟩) hS (fun q _ h => hFc q h) hFc (fun r3 u t H1 locs ht hvm hw hB hz1 hk1 hS => ?_)
  obtain ⟨hP, hD, hK⟩ := kJ (wr := [(sp, .inl (csp, 9, .inl (fun _ => 0))), (br, .inl (cbr, 3, .inl (fun _ => 0))), (mo, .inr (19, [.int 0, .int 0, .int 0, .int 0, .int 0, .int 0, .int tu, .ref ti, .ref si, .ref lo, .ref lh, .ref lk, .ref sp, .ref st, .ref pa, .ref br, .ref sg, .int mi, .int 0, .int 0, .int 0, .int fo, .int 0, .long pe, .long pn, .long re, .long rn, .int th]))]) (w1 := []) (t1 := []) hP hD hK [] [0, 1, 2] rfl rfl (by decide) (by decide) hk1 hFc ht hvm hB
  generalize H1 = H at hP hS ⊢
  have hP : va_P (dC, dI) vwCl [(sp, .inl (csp, 9, .inl (fun _ => 0))), (br, .inl (cbr, 3, .inl (fun _ => 0))), (mo, .inr (19, [.int 0, .int 0, .int 0, .int 0, .int 0, .int 0, .int tu, .ref ti, .ref si, .ref lo, .ref lh, .ref lk, .ref sp, .ref st, .ref pa, .ref br, .ref sg, .int mi, .int 0, .int 0, .int 0, .int fo, .int 0, .long pe, .long pn, .long re, .long rn, .int th]))] H := hP
  have hD : va_D A [(sp, .inl (csp, 9, .inl (fun _ => 0))), (br, .inl (cbr, 3, .inl (fun _ => 0))), (mo, .inr (19, [.int 0, .int 0, .int 0, .int 0, .int 0, .int 0, .int tu, .ref ti, .ref si, .ref lo, .ref lh, .ref lk, .ref sp, .ref st, .ref pa, .ref br, .ref sg, .int mi, .int 0, .int 0, .int 0, .int fo, .int 0, .long pe, .long pn, .long re, .long rn, .int th]))] := hD
  have hK : va_K (dC, dI) vwCl [(csp, .int), (cbr, .int)] s := hK
  obtain rfl : 100 = r3 := hw
  refine lv_i2l (v := 100) hx hb dX15_go_40 (by decide +kernel) ?_
  refine lv_lmul hx hb dX15_go_41 ?_
  refine kc_l (y := 0) (by decide +kernel) ?_
  refine lv_iload_n hx hb dX15_go_42 rfl (lv_at hl 0 rfl) ?_
  refine lv_i2l (v := 0) hx hb dX15_go_43 (by decide +kernel) ?_
  refine lv_aload_n hx hb dX15_go_44 rfl (lv_at hl 1 rfl) ?_
  refine va_get (D := (dC, dI)) (ci := 19) (v := .int 0) (C := RX15) (T := TX15) (N := 28) hx hb hts hiX15 hown hK hP 2 rfl rfl 0 (by decide) (hts (.fieldLink RX15 65 "SquareRigModel" "from" "I") (by decide +kernel)) (fun _ h9 => h9) rfl dX15_go_45 ?_
  refine lv_bipush (v := 16) hx hb dX15_go_48 (by decide) ?_
  refine lv_iadd hx hb dX15_go_50 ?_
  refine kc_i (y := 16) (by decide +kernel) ?_
  have hPc := hP.sub (ws' := []) [] rfl
  have hDc := hD.sub (ws' := []) [] (by decide) rfl
  have hKc := hK.sub (tys' := []) [] rfl
  have hFc := va_free (wc := []) hD hS hA [] rfl
  refine va_calli (va_runS (As := [.int 16]) (rest := [.long 0, .long 0, .long pn, .ref mo]) ⟨hx, hb, hml, hown, hts⟩ (k_northOf_16 l dC dI z zK zV  H.size) (va_cwS 1 hts gX15_go_X15_northOf rfl rfl rfl (by decide +kernel) ⟨Nat.le_of_ble_eq_true rfl, Nat.le_of_ble_eq_true rfl⟩) ⟨kP_blind, kP_go hPc hKc hDc hFc hM hS⟩ rfl rfl hl.1 rfl (lv_room (Nat.le_of_ble_eq_true rfl)) dX15_go_51 ⟨Nat.le_of_ble_eq_true rfl, Nat.le_of_ble_eq_true rfl⟩) hS (fun q _ h => hFc q h) hFc (fun r4 u t H1 locs ht hvm hw hB hz1 hk1 hS => ?_)
  obtain ⟨hP, hD, hK⟩ := kJ (wr := [(sp, .inl (csp, 9, .inl (fun _ => 0))), (br, .inl (cbr, 3, .inl (fun _ => 0))), (mo, .inr (19, [.int 0, .int 0, .int 0, .int 0, .int 0, .int 0, .int tu, .ref ti, .ref si, .ref lo, .ref lh, .ref lk, .ref sp, .ref st, .ref pa, .ref br, .ref sg, .int mi, .int 0, .int 0, .int 0, .int fo, .int 0, .long pe, .long pn, .long re, .long rn, .int th]))]) (w1 := []) (t1 := []) hP hD hK [] [0, 1, 2] rfl rfl (by decide) (by decide) hk1 hFc ht hvm hB
  generalize H1 = H at hP hS ⊢
  have hP : va_P (dC, dI) vwCl [(sp, .inl (csp, 9, .inl (fun _ => 0))), (br, .inl (cbr, 3, .inl (fun _ => 0))), (mo, .inr (19, [.int 0, .int 0, .int 0, .int 0, .int 0, .int 0, .int tu, .ref ti, .ref si, .ref lo, .ref lh, .ref lk, .ref sp, .ref st, .ref pa, .ref br, .ref sg, .int mi, .int 0, .int 0, .int 0, .int fo, .int 0, .long pe, .long pn, .long re, .long rn, .int th]))] H := hP
  have hD : va_D A [(sp, .inl (csp, 9, .inl (fun _ => 0))), (br, .inl (cbr, 3, .inl (fun _ => 0))), (mo, .inr (19, [.int 0, .int 0, .int 0, .int 0, .int 0, .int 0, .int tu, .ref ti, .ref si, .ref lo, .ref lh, .ref lk, .ref sp, .ref st, .ref pa, .ref br, .ref sg, .int mi, .int 0, .int 0, .int 0, .int fo, .int 0, .long pe, .long pn, .long re, .long rn, .int th]))] := hD
  have hK : va_K (dC, dI) vwCl [(csp, .int), (cbr, .int)] s := hK
  obtain rfl : (-100) = r4 := hw
  refine lv_i2l (v := (-100)) hx hb dX15_go_54 (by decide +kernel) ?_
  refine lv_lmul hx hb dX15_go_55 ?_
  refine kc_l (y := 0) (by decide +kernel) ?_
  refine lv_ladd hx hb dX15_go_56 ?_
  refine kc_l (y := 0) (by decide +kernel) ?_
  refine lv_aload_n hx hb dX15_go_57 rfl (lv_at hl 1 rfl) ?_
  refine va_get (D := (dC, dI)) (ci := 19) (v := .int 0) (C := RX15) (T := TX15) (N := 28) hx hb hts hiX15 hown hK hP 2 rfl rfl 3 (by decide) (hts (.fieldLink RX15 133 "SquareRigModel" "currentNorth" "I") (by decide +kernel)) (fun _ h9 => h9) rfl dX15_go_58 ?_
  refine lv_i2l (v := 0) hx hb dX15_go_61 (by decide +kernel) ?_
  refine lv_ladd hx hb dX15_go_62 ?_
  refine kc_l (y := 0) (by decide +kernel) ?_
  refine lv_ladd hx hb dX15_go_63 ?_
  refine va_put (D := (dC, dI)) (ci := 19) (v := .long (pn + 0)) (ty := .long) (C := RX15) (T := TX15) (N := 28) hx hb hts hiX15 tyX15 tyX15_ok nmX15 hown hK hP hD hS 2 rfl rfl 24 (by decide) (hts (.fieldLink RX15 277 "SquareRigModel" "north" "J") (by decide +kernel)) (fun _ h9 => h9) rfl (by decide +kernel) rfl rfl (Nat.le_of_ble_eq_true rfl) dX15_go_64 (fun H locs hP hD hS => ?_)
  have hP : va_P (dC, dI) vwCl [(sp, .inl (csp, 9, .inl (fun _ => 0))), (br, .inl (cbr, 3, .inl (fun _ => 0))), (mo, .inr (19, [.int 0, .int 0, .int 0, .int 0, .int 0, .int 0, .int tu, .ref ti, .ref si, .ref lo, .ref lh, .ref lk, .ref sp, .ref st, .ref pa, .ref br, .ref sg, .int mi, .int 0, .int 0, .int 0, .int fo, .int 0, .long pe, .long (pn + 0), .long re, .long rn, .int th]))] H := hP
  have hD : va_D A [(sp, .inl (csp, 9, .inl (fun _ => 0))), (br, .inl (cbr, 3, .inl (fun _ => 0))), (mo, .inr (19, [.int 0, .int 0, .int 0, .int 0, .int 0, .int 0, .int tu, .ref ti, .ref si, .ref lo, .ref lh, .ref lk, .ref sp, .ref st, .ref pa, .ref br, .ref sg, .int mi, .int 0, .int 0, .int 0, .int fo, .int 0, .long pe, .long (pn + 0), .long re, .long rn, .int th]))] := hD
  refine lv_aload_n hx hb dX15_go_67 rfl (lv_at hl 1 rfl) ?_
  refine lv_dup hx hb dX15_go_68 rfl ?_
  refine va_get (D := (dC, dI)) (ci := 19) (v := .long pe) (C := RX15) (T := TX15) (N := 28) hx hb hts hiX15 hown hK hP 2 rfl rfl 23 (by decide) (hts (.fieldLink RX15 281 "SquareRigModel" "east" "J") (by decide +kernel)) (fun _ h9 => h9) rfl dX15_go_69 ?_
  refine lv_aload_n hx hb dX15_go_72 rfl (lv_at hl 1 rfl) ?_
  refine va_get (D := (dC, dI)) (ci := 19) (v := .int 0) (C := RX15) (T := TX15) (N := 28) hx hb hts hiX15 hown hK hP 2 rfl rfl 19 (by decide) (hts (.fieldLink RX15 265 "SquareRigModel" "speed" "I") (by decide +kernel)) (fun _ h9 => h9) rfl dX15_go_73 ?_
  refine lv_i2l (v := 0) hx hb dX15_go_76 (by decide +kernel) ?_
  refine lv_aload_n hx hb dX15_go_77 rfl (lv_at hl 1 rfl) ?_
  refine va_get (D := (dC, dI)) (ci := 19) (v := .int 0) (C := RX15) (T := TX15) (N := 28) hx hb hts hiX15 hown hK hP 2 rfl rfl 18 (by decide) (hts (.fieldLink RX15 68 "SquareRigModel" "heading" "I") (by decide +kernel)) (fun _ h9 => h9) rfl dX15_go_78 ?_
  have hPc := hP.sub (ws' := []) [] rfl
  have hDc := hD.sub (ws' := []) [] (by decide) rfl
  have hKc := hK.sub (tys' := []) [] rfl
  have hFc := va_free (wc := []) hD hS hA [] rfl
  refine va_calli (va_runS (As := [.int 0]) (rest := [.long 0, .long pe, .ref mo]) ⟨hx, hb, hml, hown, hts⟩ (k_eastOf_0 l dC dI z zK zV  H.size) (va_cwS 1 hts gX15_go_X15_eastOf rfl rfl rfl (by decide +kernel) ⟨Nat.le_of_ble_eq_true rfl, Nat.le_of_ble_eq_true rfl⟩) ⟨kP_blind, kP_go hPc hKc hDc hFc hM hS⟩ rfl rfl hl.1 rfl (lv_room (Nat.le_of_ble_eq_true rfl)) dX15_go_81 ⟨Nat.le_of_ble_eq_true rfl, Nat.le_of_ble_eq_true rfl⟩) hS (fun q _ h => hFc q h) hFc (fun r5 u t H1 locs ht hvm hw hB hz1 hk1 hS => ?_)
  obtain ⟨hP, hD, hK⟩ := kJ (wr := [(sp, .inl (csp, 9, .inl (fun _ => 0))), (br, .inl (cbr, 3, .inl (fun _ => 0))), (mo, .inr (19, [.int 0, .int 0, .int 0, .int 0, .int 0, .int 0, .int tu, .ref ti, .ref si, .ref lo, .ref lh, .ref lk, .ref sp, .ref st, .ref pa, .ref br, .ref sg, .int mi, .int 0, .int 0, .int 0, .int fo, .int 0, .long pe, .long (pn + 0), .long re, .long rn, .int th]))]) (w1 := []) (t1 := []) hP hD hK [] [0, 1, 2] rfl rfl (by decide) (by decide) hk1 hFc ht hvm hB
  generalize H1 = H at hP hS ⊢
  have hP : va_P (dC, dI) vwCl [(sp, .inl (csp, 9, .inl (fun _ => 0))), (br, .inl (cbr, 3, .inl (fun _ => 0))), (mo, .inr (19, [.int 0, .int 0, .int 0, .int 0, .int 0, .int 0, .int tu, .ref ti, .ref si, .ref lo, .ref lh, .ref lk, .ref sp, .ref st, .ref pa, .ref br, .ref sg, .int mi, .int 0, .int 0, .int 0, .int fo, .int 0, .long pe, .long (pn + 0), .long re, .long rn, .int th]))] H := hP
  have hD : va_D A [(sp, .inl (csp, 9, .inl (fun _ => 0))), (br, .inl (cbr, 3, .inl (fun _ => 0))), (mo, .inr (19, [.int 0, .int 0, .int 0, .int 0, .int 0, .int 0, .int tu, .ref ti, .ref si, .ref lo, .ref lh, .ref lk, .ref sp, .ref st, .ref pa, .ref br, .ref sg, .int mi, .int 0, .int 0, .int 0, .int fo, .int 0, .long pe, .long (pn + 0), .long re, .long rn, .int th]))] := hD
  have hK : va_K (dC, dI) vwCl [(csp, .int), (cbr, .int)] s := hK
  obtain rfl : 0 = r5 := hw
  refine lv_i2l (v := 0) hx hb dX15_go_84 (by decide +kernel) ?_
  refine lv_lmul hx hb dX15_go_85 ?_
  refine kc_l (y := 0) (by decide +kernel) ?_
  refine lv_iload_n hx hb dX15_go_86 rfl (lv_at hl 0 rfl) ?_
  refine lv_i2l (v := 0) hx hb dX15_go_87 (by decide +kernel) ?_
  refine lv_aload_n hx hb dX15_go_88 rfl (lv_at hl 1 rfl) ?_
  refine va_get (D := (dC, dI)) (ci := 19) (v := .int 0) (C := RX15) (T := TX15) (N := 28) hx hb hts hiX15 hown hK hP 2 rfl rfl 0 (by decide) (hts (.fieldLink RX15 65 "SquareRigModel" "from" "I") (by decide +kernel)) (fun _ h9 => h9) rfl dX15_go_89 ?_
  refine lv_bipush (v := 16) hx hb dX15_go_92 (by decide) ?_
  refine lv_iadd hx hb dX15_go_94 ?_
  refine kc_i (y := 16) (by decide +kernel) ?_
  have hPc := hP.sub (ws' := []) [] rfl
  have hDc := hD.sub (ws' := []) [] (by decide) rfl
  have hKc := hK.sub (tys' := []) [] rfl
  have hFc := va_free (wc := []) hD hS hA [] rfl
  refine va_calli (va_runS (As := [.int 16]) (rest := [.long 0, .long 0, .long pe, .ref mo]) ⟨hx, hb, hml, hown, hts⟩ (k_eastOf_16 l dC dI z zK zV  H.size) (va_cwS 1 hts gX15_go_X15_eastOf rfl rfl rfl (by decide +kernel) ⟨Nat.le_of_ble_eq_true rfl, Nat.le_of_ble_eq_true rfl⟩) ⟨kP_blind, kP_go hPc hKc hDc hFc hM hS⟩ rfl rfl hl.1 rfl (lv_room (Nat.le_of_ble_eq_true rfl)) dX15_go_95 ⟨Nat.le_of_ble_eq_true rfl, Nat.le_of_ble_eq_true rfl⟩) hS (fun q _ h => hFc q h) hFc (fun r6 u t H1 locs ht hvm hw hB hz1 hk1 hS => ?_)
  obtain ⟨hP, hD, hK⟩ := kJ (wr := [(sp, .inl (csp, 9, .inl (fun _ => 0))), (br, .inl (cbr, 3, .inl (fun _ => 0))), (mo, .inr (19, [.int 0, .int 0, .int 0, .int 0, .int 0, .int 0, .int tu, .ref ti, .ref si, .ref lo, .ref lh, .ref lk, .ref sp, .ref st, .ref pa, .ref br, .ref sg, .int mi, .int 0, .int 0, .int 0, .int fo, .int 0, .long pe, .long (pn + 0), .long re, .long rn, .int th]))]) (w1 := []) (t1 := []) hP hD hK [] [0, 1, 2] rfl rfl (by decide) (by decide) hk1 hFc ht hvm hB
  generalize H1 = H at hP hS ⊢
  have hP : va_P (dC, dI) vwCl [(sp, .inl (csp, 9, .inl (fun _ => 0))), (br, .inl (cbr, 3, .inl (fun _ => 0))), (mo, .inr (19, [.int 0, .int 0, .int 0, .int 0, .int 0, .int 0, .int tu, .ref ti, .ref si, .ref lo, .ref lh, .ref lk, .ref sp, .ref st, .ref pa, .ref br, .ref sg, .int mi, .int 0, .int 0, .int 0, .int fo, .int 0, .long pe, .long (pn + 0), .long re, .long rn, .int th]))] H := hP
  have hD : va_D A [(sp, .inl (csp, 9, .inl (fun _ => 0))), (br, .inl (cbr, 3, .inl (fun _ => 0))), (mo, .inr (19, [.int 0, .int 0, .int 0, .int 0, .int 0, .int 0, .int tu, .ref ti, .ref si, .ref lo, .ref lh, .ref lk, .ref sp, .ref st, .ref pa, .ref br, .ref sg, .int mi, .int 0, .int 0, .int 0, .int fo, .int 0, .long pe, .long (pn + 0), .long re, .long rn, .int th]))] := hD
  have hK : va_K (dC, dI) vwCl [(csp, .int), (cbr, .int)] s := hK
  obtain rfl : 0 = r6 := hw
  refine lv_i2l (v := 0) hx hb dX15_go_98 (by decide +kernel) ?_
  refine lv_lmul hx hb dX15_go_99 ?_
  refine kc_l (y := 0) (by decide +kernel) ?_
  refine lv_ladd hx hb dX15_go_100 ?_
  refine kc_l (y := 0) (by decide +kernel) ?_
  refine lv_aload_n hx hb dX15_go_101 rfl (lv_at hl 1 rfl) ?_
  refine va_get (D := (dC, dI)) (ci := 19) (v := .int 0) (C := RX15) (T := TX15) (N := 28) hx hb hts hiX15 hown hK hP 2 rfl rfl 2 (by decide) (hts (.fieldLink RX15 130 "SquareRigModel" "currentEast" "I") (by decide +kernel)) (fun _ h9 => h9) rfl dX15_go_102 ?_
  refine lv_i2l (v := 0) hx hb dX15_go_105 (by decide +kernel) ?_
  refine lv_ladd hx hb dX15_go_106 ?_
  refine kc_l (y := 0) (by decide +kernel) ?_
  refine lv_ladd hx hb dX15_go_107 ?_
  refine va_put (D := (dC, dI)) (ci := 19) (v := .long (pe + 0)) (ty := .long) (C := RX15) (T := TX15) (N := 28) hx hb hts hiX15 tyX15 tyX15_ok nmX15 hown hK hP hD hS 2 rfl rfl 23 (by decide) (hts (.fieldLink RX15 281 "SquareRigModel" "east" "J") (by decide +kernel)) (fun _ h9 => h9) rfl (by decide +kernel) rfl rfl (Nat.le_of_ble_eq_true rfl) dX15_go_108 (fun H locs hP hD hS => ?_)
  have hP : va_P (dC, dI) vwCl [(sp, .inl (csp, 9, .inl (fun _ => 0))), (br, .inl (cbr, 3, .inl (fun _ => 0))), (mo, .inr (19, [.int 0, .int 0, .int 0, .int 0, .int 0, .int 0, .int tu, .ref ti, .ref si, .ref lo, .ref lh, .ref lk, .ref sp, .ref st, .ref pa, .ref br, .ref sg, .int mi, .int 0, .int 0, .int 0, .int fo, .int 0, .long (pe + 0), .long (pn + 0), .long re, .long rn, .int th]))] H := hP
  have hD : va_D A [(sp, .inl (csp, 9, .inl (fun _ => 0))), (br, .inl (cbr, 3, .inl (fun _ => 0))), (mo, .inr (19, [.int 0, .int 0, .int 0, .int 0, .int 0, .int 0, .int tu, .ref ti, .ref si, .ref lo, .ref lh, .ref lk, .ref sp, .ref st, .ref pa, .ref br, .ref sg, .int mi, .int 0, .int 0, .int 0, .int fo, .int 0, .long (pe + 0), .long (pn + 0), .long re, .long rn, .int th]))] := hD
  exact W.vret hx hb hr (fun t ht hW => ⟨⟨(), rfl, trivial, ⟨(pe + 0), (pn + 0), kB_end (w9 := [(sp, .inl (csp, 9, .inl (fun _ => 0))), (br, .inl (cbr, 3, .inl (fun _ => 0))), (mo, .inr (19, [.int 0, .int 0, .int 0, .int 0, .int 0, .int 0, .int tu, .ref ti, .ref si, .ref lo, .ref lh, .ref lk, .ref sp, .ref st, .ref pa, .ref br, .ref sg, .int mi, .int 0, .int 0, .int 0, .int fo, .int 0, .long (pe + 0), .long (pn + 0), .long re, .long rn, .int th]))]) (t9 := []) hP hK hD [0, 1, 2] [] rfl (by decide) rfl rfl t ht hW⟩⟩, hS.F ht⟩) hS.2.2 dX15_go_111
abbrev wd_k_mtake0 (z : Nat → Nat) (mi : Int32) (fo : Int32) (pe : Int64) (pn : Int64) (re : Int64) (rn : Int64) (mo : Nat) (ti : Nat) (si : Nat) (lo : Nat) (lh : Nat) (lk : Nat) (sp : Nat) (st : Nat) (pa : Nat) (br : Nat) (sg : Nat) (th : Int32) (tu : Int32) : va_W := [(mo, .inr (19, [.int 0, .int 0, .int 0, .int 0, .int 0, .int 0, .int tu, .ref ti, .ref si, .ref lo, .ref lh, .ref lk, .ref sp, .ref st, .ref pa, .ref br, .ref sg, .int mi, .int 0, .int 0, .int 0, .int fo, .int 0, .long pe, .long pn, .long re, .long rn, .int th])), (lh, .inr (3, [.int 0, .ref (z 0), .int 0]))]
set_option maxHeartbeats 4000000 in
set_option maxRecDepth 100000 in
theorem k_mtake0 (l : Launch) (dC : Nat → ClassId) (dI : Nat → Nat → Nat) (z zK zV : Nat → Nat) (mi : Int32) (fo : Int32) (pe : Int64) (pn : Int64) (re : Int64) (rn : Int64) (mo : Nat) (ti : Nat) (si : Nat) (lo : Nat) (lh : Nat) (lk : Nat) (sp : Nat) (st : Nat) (pa : Nat) (br : Nat) (sg : Nat) (th : Int32) (tu : Int32) (sz : Nat)  : Met l yX15_take wsX15_take ({ frames := 1, cells := 0, slots := 0, locals := 20 }) (kP dC dI z zK zV [.ref mo, .int 0, .int 24] sz (wd_k_mtake0 z mi fo pe pn re rn mo ti si lo lh lk sp st pa br sg th tu) []) (va_Qi (fun (r : Int32) (_ : Unit) => 0 = r) (fun _ t => kB (dC, dI) (va_A (wd_k_mtake0 z mi fo pe pn re rn mo ti si lo lh lk sp st pa br sg th tu) sz) [(mo, .inr (19, [.int 0, .int 0, .int 0, .int 0, .int 0, .int 0, .int tu, .ref ti, .ref si, .ref lo, .ref lh, .ref lk, .ref sp, .ref st, .ref pa, .ref br, .ref sg, .int mi, .int 0, .int 0, .int 0, .int fo, .int 0, .long pe, .long pn, .long re, .long rn, .int th])), (lh, .inr (3, [.int 0, .ref (z 0), .int 0]))] [] t) (va_A (wd_k_mtake0 z mi fo pe pn re rn mo ti si lo lh lk sp st pa br sg th tu) sz)) 0 0 (va_A (wd_k_mtake0 z mi fo pe pn re rn mo ti si lo lh lk sp st pa br sg th tu) sz) := by
  refine Met.ofW (cc := cX15_take) (maxL := 9) (ret := (some .boolean)) (by decide) rfl ?_
  intro p e s m args below meth c s₁ B hml hv
  obtain ⟨rfl, hsz, hP, hK, hD0, hM⟩ := hv
  have hx := B.exec
  have hb := B.bytes
  have hr := B.returns
  have hts := atoms_spec (ws := wsX15_take) B.pre
  have hown : s.vm.findClass RX15 = some m.cls := findClass_of_methodNamed B.named
  have hlocks := B.notSynchronized
  have hiX15 : ∀ w ∈ u_ws RX15 TX15 28, w ∈ wsX15_take := by decide +kernel
  subst hsz
  have hD := hD0.self (sz := s.heap.size)
  generalize hAe : va_A (wd_k_mtake0 z mi fo pe pn re rn mo ti si lo lh lk sp st pa br sg th tu) s.heap.size = A at hD hM ⊢
  have hA : ∀ q : Nat, s.heap.size ≤ q → A q := fun q h => by rw [← hAe]; exact Or.inr h
  have hS : va_S A s.heap s.heap [] := va_S.rf
  have hP : va_P (dC, dI) vwCl [(mo, .inr (19, [.int 0, .int 0, .int 0, .int 0, .int 0, .int 0, .int tu, .ref ti, .ref si, .ref lo, .ref lh, .ref lk, .ref sp, .ref st, .ref pa, .ref br, .ref sg, .int mi, .int 0, .int 0, .int 0, .int fo, .int 0, .long pe, .long pn, .long re, .long rn, .int th])), (lh, .inr (3, [.int 0, .ref (z 0), .int 0]))] s.heap := hP
  have hD : va_D A [(mo, .inr (19, [.int 0, .int 0, .int 0, .int 0, .int 0, .int 0, .int tu, .ref ti, .ref si, .ref lo, .ref lh, .ref lk, .ref sp, .ref st, .ref pa, .ref br, .ref sg, .int mi, .int 0, .int 0, .int 0, .int fo, .int 0, .long pe, .long pn, .long re, .long rn, .int th])), (lh, .inr (3, [.int 0, .ref (z 0), .int 0]))] := hD
  have hl := lv_entry ([.ref mo, .int 0, .int 24]) (n := 9) (Nat.le_of_ble_eq_true rfl)
  rw [lg_entry_eq]
  generalize (lg_sl ([.ref mo, .int 0, .int 24]) ++ List.replicate (9 - (lg_sl ([.ref mo, .int 0, .int 24])).length) Slot.unset).toArray = ls at hl ⊢
  have hl : lv_has ls 9 [(0, .ref mo), (1, .int 0), (2, .int 24)] := hl
  refine lv_iload_n hx hb dX15_take_0 rfl (lv_at hl 2 rfl) ?_
  refine lv_istore_n (lv' := [(3, .int 24), (0, .ref mo), (1, .int 0), (2, .int 24)]) hx hb dX15_take_1 rfl hl (by decide) rfl (fun ls hl => ?_)
  refine lv_iconst (v := 1) hx hb dX15_take_2 (by decide) ?_
  refine lv_istore (lv' := [(4, .int 1), (3, .int 24), (0, .ref mo), (1, .int 0), (2, .int 24)]) hx hb dX15_take_3 hl (by decide) rfl (fun ls hl => ?_)
  refine lv_iload_n hx hb dX15_take_5 rfl (lv_at hl 1 rfl) ?_
  refine lv_if_le (tgt := 162) hx hb dX15_take_6 (by decide) (fun c_ => absurd c_ (by decide +kernel)) (fun _ => ?_)
  refine lv_iload hx hb dX15_take_9 (lv_at hl 0 rfl) ?_
  refine lv_if_eq (tgt := 162) hx hb dX15_take_11 (by decide) (fun c_ => absurd c_ (by decide +kernel)) (fun _ => ?_)
  refine lv_null hx hb dX15_take_14 ?_
  refine lv_astoreN (lv' := [(5, .null), (4, .int 1), (3, .int 24), (0, .ref mo), (1, .int 0), (2, .int 24)]) hx hb dX15_take_15 hl (by decide) rfl (fun ls hl => ?_)
  refine lv_iconst (v := 0) hx hb dX15_take_17 (by decide) ?_
  refine lv_istore (lv' := [(6, .int 0), (5, .null), (4, .int 1), (3, .int 24), (0, .ref mo), (1, .int 0), (2, .int 24)]) hx hb dX15_take_18 hl (by decide) rfl (fun ls hl => ?_)
  refine lv_aload_n hx hb dX15_take_20 rfl (lv_at hl 4 rfl) ?_
  refine va_get (D := (dC, dI)) (ci := 19) (v := .ref lh) (C := RX15) (T := TX15) (N := 28) hx hb hts hiX15 hown hK hP 0 rfl rfl 10 (by decide) (hts (.fieldLink RX15 23 "SquareRigModel" "hold" "Ljava/util/List;") (by decide +kernel)) (fun _ h9 => h9) rfl dX15_take_21 ?_
  have hPc := hP.sub (ws' := [(lh, .inr (3, [.int 0, .ref (z 0), .int 0]))]) [1] rfl
  have hDc := hD.sub (ws' := [(lh, .inr (3, [.int 0, .ref (z 0), .int 0]))]) [1] (by decide) rfl
  have hKc := hK.sub (tys' := []) [] rfl
  have hFc := va_free (wc := [(lh, .inr (3, [.int 0, .ref (z 0), .int 0]))]) hD hS hA [1] rfl
  refine va_callFi (va_runF (hK.1 3 _ rfl).2 (As := []) (rest := []) ⟨hx, hb, hml, hown, hts⟩ (k_size0 l dC dI z zK zV lh s.heap.size) (va_cwF 0 hts gX15_take_Jx4a65c_size_8abf5_f156Jx4a65c rfl rfl rfl hM.2.2.2.2.2.2.2.2.2.2.1.2.2.1 (by decide +kernel) ⟨Nat.le_of_ble_eq_true rfl, Nat.le_of_ble_eq_true rfl⟩) ⟨kP_blind, va_recv hKc hPc (ci := 3) (q0 := 0) rfl rfl, kP_go hPc hKc hDc hFc hM hS⟩ rfl rfl hl.1 rfl (lv_room (Nat.le_of_ble_eq_true rfl)) dX15_take_24 ⟨Nat.le_of_ble_eq_true rfl, Nat.le_of_ble_eq_true rfl⟩) hS (fun q _ h => hFc q h) hFc (fun r1 u t H1 locs ht hvm hw hB hz1 hk1 hS => ?_)
  obtain ⟨hP, hD, hK⟩ := kJ (wr := [(mo, .inr (19, [.int 0, .int 0, .int 0, .int 0, .int 0, .int 0, .int tu, .ref ti, .ref si, .ref lo, .ref lh, .ref lk, .ref sp, .ref st, .ref pa, .ref br, .ref sg, .int mi, .int 0, .int 0, .int 0, .int fo, .int 0, .long pe, .long pn, .long re, .long rn, .int th]))]) (w1 := [(lh, .inr (3, [.int 0, .ref (z 0), .int 0]))]) (t1 := []) hP hD hK [1] [0] rfl rfl (by decide) (by decide) hk1 hFc ht hvm hB
  generalize H1 = H at hP hS ⊢
  have hP : va_P (dC, dI) vwCl [(mo, .inr (19, [.int 0, .int 0, .int 0, .int 0, .int 0, .int 0, .int tu, .ref ti, .ref si, .ref lo, .ref lh, .ref lk, .ref sp, .ref st, .ref pa, .ref br, .ref sg, .int mi, .int 0, .int 0, .int 0, .int fo, .int 0, .long pe, .long pn, .long re, .long rn, .int th])), (lh, .inr (3, [.int 0, .ref (z 0), .int 0]))] H := hP
  have hD : va_D A [(mo, .inr (19, [.int 0, .int 0, .int 0, .int 0, .int 0, .int 0, .int tu, .ref ti, .ref si, .ref lo, .ref lh, .ref lk, .ref sp, .ref st, .ref pa, .ref br, .ref sg, .int mi, .int 0, .int 0, .int 0, .int fo, .int 0, .long pe, .long pn, .long re, .long rn, .int th])), (lh, .inr (3, [.int 0, .ref (z 0), .int 0]))] := hD
  have hK : va_K (dC, dI) vwCl [] s := hK
  obtain rfl : 0 = r1 := hw
  refine lv_iconst (v := 1) hx hb dX15_take_29 (by decide) ?_
  refine lv_isub hx hb dX15_take_30 ?_
  refine kc_i (y := (-1)) (by decide +kernel) ?_
  refine lv_istore (lv' := [(7, .int (-1)), (6, .int 0), (5, .null), (4, .int 1), (3, .int 24), (0, .ref mo), (1, .int 0), (2, .int 24)]) hx hb dX15_take_31 hl (by decide) rfl (fun ls hl => ?_)
  refine lv_iload hx hb dX15_take_33 (lv_at hl 0 rfl) ?_
  refine lv_if_lt (tgt := 114) hx hb dX15_take_35 (by decide) (fun _ => ?_) (fun c_ => absurd (by decide +kernel) c_)
  refine lv_aloadN hx hb dX15_take_114 (lv_at hl 2 rfl) ?_
  refine lv_ifnullN (tgt := 123) hx hb dX15_take_116 (by decide) ?_
  refine lv_iconst (v := 0) hx hb dX15_take_123 (by decide) ?_
  refine lv_istore (lv' := [(4, .int 0), (7, .int (-1)), (6, .int 0), (5, .null), (3, .int 24), (0, .ref mo), (1, .int 0), (2, .int 24)]) hx hb dX15_take_124 hl (by decide) rfl (fun ls hl => ?_)
  refine lv_iload hx hb dX15_take_126 (lv_at hl 0 rfl) ?_
  refine lv_if_eq (tgt := 159) hx hb dX15_take_128 (by decide) (fun _ => ?_) (fun c_ => absurd (by decide +kernel) c_)
  refine lv_goto (tgt := 5) hx hb dX15_take_159 (by decide) ?_
  refine lv_iload_n hx hb dX15_take_5 rfl (lv_at hl 4 rfl) ?_
  refine lv_if_le (tgt := 162) hx hb dX15_take_6 (by decide) (fun c_ => absurd c_ (by decide +kernel)) (fun _ => ?_)
  refine lv_iload hx hb dX15_take_9 (lv_at hl 0 rfl) ?_
  refine lv_if_eq (tgt := 162) hx hb dX15_take_11 (by decide) (fun _ => ?_) (fun c_ => absurd (by decide +kernel) c_)
  refine lv_iload_n hx hb dX15_take_162 rfl (lv_at hl 4 rfl) ?_
  refine lv_if_ne (tgt := 170) hx hb dX15_take_163 (by decide) (fun _ => ?_) (fun c_ => absurd c_ (by decide +kernel))
  refine lv_iconst (v := 0) hx hb dX15_take_170 (by decide) ?_
  exact W.zret (v := 0) hx hb hr (by decide +kernel) (fun t ht hW => ⟨⟨0, (), rfl, rfl, kB_end (w9 := [(mo, .inr (19, [.int 0, .int 0, .int 0, .int 0, .int 0, .int 0, .int tu, .ref ti, .ref si, .ref lo, .ref lh, .ref lk, .ref sp, .ref st, .ref pa, .ref br, .ref sg, .int mi, .int 0, .int 0, .int 0, .int fo, .int 0, .long pe, .long pn, .long re, .long rn, .int th])), (lh, .inr (3, [.int 0, .ref (z 0), .int 0]))]) (t9 := []) hP hK hD [0, 1] [] rfl (by decide) rfl rfl t ht hW⟩, hS.F ht⟩) hS.2.2 dX15_take_171
abbrev wd_k_mtake1 (z : Nat → Nat) (mi : Int32) (fo : Int32) (pe : Int64) (pn : Int64) (re : Int64) (rn : Int64) (mo : Nat) (ti : Nat) (si : Nat) (lo : Nat) (lh : Nat) (lk : Nat) (sp : Nat) (st : Nat) (pa : Nat) (br : Nat) (sg : Nat) (th : Int32) (tu : Int32) : va_W := [(mo, .inr (19, [.int 0, .int 0, .int 0, .int 0, .int 0, .int 0, .int tu, .ref ti, .ref si, .ref lo, .ref lh, .ref lk, .ref sp, .ref st, .ref pa, .ref br, .ref sg, .int mi, .int 0, .int 0, .int 0, .int fo, .int 0, .long pe, .long pn, .long re, .long rn, .int th])), (lh, .inr (3, [.int 0, .ref (z 0), .int 0]))]
set_option maxHeartbeats 4000000 in
set_option maxRecDepth 100000 in
theorem k_mtake1 (l : Launch) (dC : Nat → ClassId) (dI : Nat → Nat → Nat) (z zK zV : Nat → Nat) (mi : Int32) (fo : Int32) (pe : Int64) (pn : Int64) (re : Int64) (rn : Int64) (mo : Nat) (ti : Nat) (si : Nat) (lo : Nat) (lh : Nat) (lk : Nat) (sp : Nat) (st : Nat) (pa : Nat) (br : Nat) (sg : Nat) (th : Int32) (tu : Int32) (sz : Nat)  : Met l yX15_take wsX15_take ({ frames := 1, cells := 0, slots := 0, locals := 20 }) (kP dC dI z zK zV [.ref mo, .int 1, .int 24] sz (wd_k_mtake1 z mi fo pe pn re rn mo ti si lo lh lk sp st pa br sg th tu) []) (va_Qi (fun (r : Int32) (_ : Unit) => 0 = r) (fun _ t => kB (dC, dI) (va_A (wd_k_mtake1 z mi fo pe pn re rn mo ti si lo lh lk sp st pa br sg th tu) sz) [(mo, .inr (19, [.int 0, .int 0, .int 0, .int 0, .int 0, .int 0, .int tu, .ref ti, .ref si, .ref lo, .ref lh, .ref lk, .ref sp, .ref st, .ref pa, .ref br, .ref sg, .int mi, .int 0, .int 0, .int 0, .int fo, .int 0, .long pe, .long pn, .long re, .long rn, .int th])), (lh, .inr (3, [.int 0, .ref (z 0), .int 0]))] [] t) (va_A (wd_k_mtake1 z mi fo pe pn re rn mo ti si lo lh lk sp st pa br sg th tu) sz)) 0 0 (va_A (wd_k_mtake1 z mi fo pe pn re rn mo ti si lo lh lk sp st pa br sg th tu) sz) := by
  refine Met.ofW (cc := cX15_take) (maxL := 9) (ret := (some .boolean)) (by decide) rfl ?_
  intro p e s m args below meth c s₁ B hml hv
  obtain ⟨rfl, hsz, hP, hK, hD0, hM⟩ := hv
  have hx := B.exec
  have hb := B.bytes
  have hr := B.returns
  have hts := atoms_spec (ws := wsX15_take) B.pre
  have hown : s.vm.findClass RX15 = some m.cls := findClass_of_methodNamed B.named
  have hlocks := B.notSynchronized
  have hiX15 : ∀ w ∈ u_ws RX15 TX15 28, w ∈ wsX15_take := by decide +kernel
  subst hsz
  have hD := hD0.self (sz := s.heap.size)
  generalize hAe : va_A (wd_k_mtake1 z mi fo pe pn re rn mo ti si lo lh lk sp st pa br sg th tu) s.heap.size = A at hD hM ⊢
  have hA : ∀ q : Nat, s.heap.size ≤ q → A q := fun q h => by rw [← hAe]; exact Or.inr h
  have hS : va_S A s.heap s.heap [] := va_S.rf
  have hP : va_P (dC, dI) vwCl [(mo, .inr (19, [.int 0, .int 0, .int 0, .int 0, .int 0, .int 0, .int tu, .ref ti, .ref si, .ref lo, .ref lh, .ref lk, .ref sp, .ref st, .ref pa, .ref br, .ref sg, .int mi, .int 0, .int 0, .int 0, .int fo, .int 0, .long pe, .long pn, .long re, .long rn, .int th])), (lh, .inr (3, [.int 0, .ref (z 0), .int 0]))] s.heap := hP
  have hD : va_D A [(mo, .inr (19, [.int 0, .int 0, .int 0, .int 0, .int 0, .int 0, .int tu, .ref ti, .ref si, .ref lo, .ref lh, .ref lk, .ref sp, .ref st, .ref pa, .ref br, .ref sg, .int mi, .int 0, .int 0, .int 0, .int fo, .int 0, .long pe, .long pn, .long re, .long rn, .int th])), (lh, .inr (3, [.int 0, .ref (z 0), .int 0]))] := hD
  have hl := lv_entry ([.ref mo, .int 1, .int 24]) (n := 9) (Nat.le_of_ble_eq_true rfl)
  rw [lg_entry_eq]
  generalize (lg_sl ([.ref mo, .int 1, .int 24]) ++ List.replicate (9 - (lg_sl ([.ref mo, .int 1, .int 24])).length) Slot.unset).toArray = ls at hl ⊢
  have hl : lv_has ls 9 [(0, .ref mo), (1, .int 1), (2, .int 24)] := hl
  refine lv_iload_n hx hb dX15_take_0 rfl (lv_at hl 2 rfl) ?_
  refine lv_istore_n (lv' := [(3, .int 24), (0, .ref mo), (1, .int 1), (2, .int 24)]) hx hb dX15_take_1 rfl hl (by decide) rfl (fun ls hl => ?_)
  refine lv_iconst (v := 1) hx hb dX15_take_2 (by decide) ?_
  refine lv_istore (lv' := [(4, .int 1), (3, .int 24), (0, .ref mo), (1, .int 1), (2, .int 24)]) hx hb dX15_take_3 hl (by decide) rfl (fun ls hl => ?_)
  refine lv_iload_n hx hb dX15_take_5 rfl (lv_at hl 1 rfl) ?_
  refine lv_if_le (tgt := 162) hx hb dX15_take_6 (by decide) (fun c_ => absurd c_ (by decide +kernel)) (fun _ => ?_)
  refine lv_iload hx hb dX15_take_9 (lv_at hl 0 rfl) ?_
  refine lv_if_eq (tgt := 162) hx hb dX15_take_11 (by decide) (fun c_ => absurd c_ (by decide +kernel)) (fun _ => ?_)
  refine lv_null hx hb dX15_take_14 ?_
  refine lv_astoreN (lv' := [(5, .null), (4, .int 1), (3, .int 24), (0, .ref mo), (1, .int 1), (2, .int 24)]) hx hb dX15_take_15 hl (by decide) rfl (fun ls hl => ?_)
  refine lv_iconst (v := 0) hx hb dX15_take_17 (by decide) ?_
  refine lv_istore (lv' := [(6, .int 0), (5, .null), (4, .int 1), (3, .int 24), (0, .ref mo), (1, .int 1), (2, .int 24)]) hx hb dX15_take_18 hl (by decide) rfl (fun ls hl => ?_)
  refine lv_aload_n hx hb dX15_take_20 rfl (lv_at hl 4 rfl) ?_
  refine va_get (D := (dC, dI)) (ci := 19) (v := .ref lh) (C := RX15) (T := TX15) (N := 28) hx hb hts hiX15 hown hK hP 0 rfl rfl 10 (by decide) (hts (.fieldLink RX15 23 "SquareRigModel" "hold" "Ljava/util/List;") (by decide +kernel)) (fun _ h9 => h9) rfl dX15_take_21 ?_
  have hPc := hP.sub (ws' := [(lh, .inr (3, [.int 0, .ref (z 0), .int 0]))]) [1] rfl
  have hDc := hD.sub (ws' := [(lh, .inr (3, [.int 0, .ref (z 0), .int 0]))]) [1] (by decide) rfl
  have hKc := hK.sub (tys' := []) [] rfl
  have hFc := va_free (wc := [(lh, .inr (3, [.int 0, .ref (z 0), .int 0]))]) hD hS hA [1] rfl
  refine va_callFi (va_runF (hK.1 3 _ rfl).2 (As := []) (rest := []) ⟨hx, hb, hml, hown, hts⟩ (k_size0 l dC dI z zK zV lh s.heap.size) (va_cwF 0 hts gX15_take_Jx4a65c_size_8abf5_f156Jx4a65c rfl rfl rfl hM.2.2.2.2.2.2.2.2.2.2.1.2.2.1 (by decide +kernel) ⟨Nat.le_of_ble_eq_true rfl, Nat.le_of_ble_eq_true rfl⟩) ⟨kP_blind, va_recv hKc hPc (ci := 3) (q0 := 0) rfl rfl, kP_go hPc hKc hDc hFc hM hS⟩ rfl rfl hl.1 rfl (lv_room (Nat.le_of_ble_eq_true rfl)) dX15_take_24 ⟨Nat.le_of_ble_eq_true rfl, Nat.le_of_ble_eq_true rfl⟩) hS (fun q _ h => hFc q h) hFc (fun r1 u t H1 locs ht hvm hw hB hz1 hk1 hS => ?_)
  obtain ⟨hP, hD, hK⟩ := kJ (wr := [(mo, .inr (19, [.int 0, .int 0, .int 0, .int 0, .int 0, .int 0, .int tu, .ref ti, .ref si, .ref lo, .ref lh, .ref lk, .ref sp, .ref st, .ref pa, .ref br, .ref sg, .int mi, .int 0, .int 0, .int 0, .int fo, .int 0, .long pe, .long pn, .long re, .long rn, .int th]))]) (w1 := [(lh, .inr (3, [.int 0, .ref (z 0), .int 0]))]) (t1 := []) hP hD hK [1] [0] rfl rfl (by decide) (by decide) hk1 hFc ht hvm hB
  generalize H1 = H at hP hS ⊢
  have hP : va_P (dC, dI) vwCl [(mo, .inr (19, [.int 0, .int 0, .int 0, .int 0, .int 0, .int 0, .int tu, .ref ti, .ref si, .ref lo, .ref lh, .ref lk, .ref sp, .ref st, .ref pa, .ref br, .ref sg, .int mi, .int 0, .int 0, .int 0, .int fo, .int 0, .long pe, .long pn, .long re, .long rn, .int th])), (lh, .inr (3, [.int 0, .ref (z 0), .int 0]))] H := hP
  have hD : va_D A [(mo, .inr (19, [.int 0, .int 0, .int 0, .int 0, .int 0, .int 0, .int tu, .ref ti, .ref si, .ref lo, .ref lh, .ref lk, .ref sp, .ref st, .ref pa, .ref br, .ref sg, .int mi, .int 0, .int 0, .int 0, .int fo, .int 0, .long pe, .long pn, .long re, .long rn, .int th])), (lh, .inr (3, [.int 0, .ref (z 0), .int 0]))] := hD
  have hK : va_K (dC, dI) vwCl [] s := hK
  obtain rfl : 0 = r1 := hw
  refine lv_iconst (v := 1) hx hb dX15_take_29 (by decide) ?_
  refine lv_isub hx hb dX15_take_30 ?_
  refine kc_i (y := (-1)) (by decide +kernel) ?_
  refine lv_istore (lv' := [(7, .int (-1)), (6, .int 0), (5, .null), (4, .int 1), (3, .int 24), (0, .ref mo), (1, .int 1), (2, .int 24)]) hx hb dX15_take_31 hl (by decide) rfl (fun ls hl => ?_)
  refine lv_iload hx hb dX15_take_33 (lv_at hl 0 rfl) ?_
  refine lv_if_lt (tgt := 114) hx hb dX15_take_35 (by decide) (fun _ => ?_) (fun c_ => absurd (by decide +kernel) c_)
  refine lv_aloadN hx hb dX15_take_114 (lv_at hl 2 rfl) ?_
  refine lv_ifnullN (tgt := 123) hx hb dX15_take_116 (by decide) ?_
  refine lv_iconst (v := 0) hx hb dX15_take_123 (by decide) ?_
  refine lv_istore (lv' := [(4, .int 0), (7, .int (-1)), (6, .int 0), (5, .null), (3, .int 24), (0, .ref mo), (1, .int 1), (2, .int 24)]) hx hb dX15_take_124 hl (by decide) rfl (fun ls hl => ?_)
  refine lv_iload hx hb dX15_take_126 (lv_at hl 0 rfl) ?_
  refine lv_if_eq (tgt := 159) hx hb dX15_take_128 (by decide) (fun _ => ?_) (fun c_ => absurd (by decide +kernel) c_)
  refine lv_goto (tgt := 5) hx hb dX15_take_159 (by decide) ?_
  refine lv_iload_n hx hb dX15_take_5 rfl (lv_at hl 4 rfl) ?_
  refine lv_if_le (tgt := 162) hx hb dX15_take_6 (by decide) (fun c_ => absurd c_ (by decide +kernel)) (fun _ => ?_)
  refine lv_iload hx hb dX15_take_9 (lv_at hl 0 rfl) ?_
  refine lv_if_eq (tgt := 162) hx hb dX15_take_11 (by decide) (fun _ => ?_) (fun c_ => absurd (by decide +kernel) c_)
  refine lv_iload_n hx hb dX15_take_162 rfl (lv_at hl 4 rfl) ?_
  refine lv_if_ne (tgt := 170) hx hb dX15_take_163 (by decide) (fun _ => ?_) (fun c_ => absurd c_ (by decide +kernel))
  refine lv_iconst (v := 0) hx hb dX15_take_170 (by decide) ?_
  exact W.zret (v := 0) hx hb hr (by decide +kernel) (fun t ht hW => ⟨⟨0, (), rfl, rfl, kB_end (w9 := [(mo, .inr (19, [.int 0, .int 0, .int 0, .int 0, .int 0, .int 0, .int tu, .ref ti, .ref si, .ref lo, .ref lh, .ref lk, .ref sp, .ref st, .ref pa, .ref br, .ref sg, .int mi, .int 0, .int 0, .int 0, .int fo, .int 0, .long pe, .long pn, .long re, .long rn, .int th])), (lh, .inr (3, [.int 0, .ref (z 0), .int 0]))]) (t9 := []) hP hK hD [0, 1] [] rfl (by decide) rfl rfl t ht hW⟩, hS.F ht⟩) hS.2.2 dX15_take_171
abbrev wd_k_tell0 (z : Nat → Nat) (mi : Int32) (fo : Int32) (pe : Int64) (pn : Int64) (re : Int64) (rn : Int64) (mo : Nat) (ti : Nat) (si : Nat) (lo : Nat) (lh : Nat) (lk : Nat) (sp : Nat) (st : Nat) (pa : Nat) (br : Nat) (sg : Nat) (cti : ClassId) (csi : ClassId) (th : Int32) (tf : Nat → Int32) (sf : Nat → Int32) : va_W := [(mo, .inr (19, [.int 0, .int 0, .int 0, .int 0, .int 0, .int 0, .int 0, .ref ti, .ref si, .ref lo, .ref lh, .ref lk, .ref sp, .ref st, .ref pa, .ref br, .ref sg, .int mi, .int 0, .int 0, .int 0, .int fo, .int 0, .long pe, .long pn, .long re, .long rn, .int th])), (ti, .inl (cti, 2, .inl tf)), (si, .inl (csi, 2, .inl sf)), (lh, .inr (3, [.int 0, .ref (z 0), .int 0]))]
set_option maxHeartbeats 4000000 in
set_option maxRecDepth 100000 in
theorem k_tell0 (l : Launch) (dC : Nat → ClassId) (dI : Nat → Nat → Nat) (z zK zV : Nat → Nat) (mi : Int32) (fo : Int32) (pe : Int64) (pn : Int64) (re : Int64) (rn : Int64) (mo : Nat) (ti : Nat) (si : Nat) (lo : Nat) (lh : Nat) (lk : Nat) (sp : Nat) (st : Nat) (pa : Nat) (br : Nat) (sg : Nat) (cti : ClassId) (csi : ClassId) (th : Int32) (tf : Nat → Int32) (sf : Nat → Int32) (sz : Nat)  : Met l yX15_tell wsX15_tell ({ frames := 4, cells := 0, slots := 0, locals := 84 }) (kP dC dI z zK zV [.ref mo] sz (wd_k_tell0 z mi fo pe pn re rn mo ti si lo lh lk sp st pa br sg cti csi th tf sf) [(cti, .int), (csi, .int)]) (va_Qv (fun _ : Unit => True) (fun _ t => ∃ (u1 : Int32) (u2 : Int32) (u3 : Int64) (u4 : Int64) (uf5 : Nat → Int32) (uf6 : Nat → Int32), (u1 = 0 ∨ u1 = 1) ∧ (u2 = fo ∨ u2 = fo + 1) ∧ kB (dC, dI) (va_A (wd_k_tell0 z mi fo pe pn re rn mo ti si lo lh lk sp st pa br sg cti csi th tf sf) sz) [(mo, .inr (19, [.int 0, .int 0, .int 0, .int 0, .int 0, .int 0, .int u1, .ref ti, .ref si, .ref lo, .ref lh, .ref lk, .ref sp, .ref st, .ref pa, .ref br, .ref sg, .int mi, .int 0, .int 0, .int 0, .int u2, .int 0, .long pe, .long pn, .long u3, .long u4, .int th])), (ti, .inl (cti, 2, .inl uf5)), (si, .inl (csi, 2, .inl uf6)), (lh, .inr (3, [.int 0, .ref (z 0), .int 0]))] [] t) (va_A (wd_k_tell0 z mi fo pe pn re rn mo ti si lo lh lk sp st pa br sg cti csi th tf sf) sz)) 0 0 (va_A (wd_k_tell0 z mi fo pe pn re rn mo ti si lo lh lk sp st pa br sg cti csi th tf sf) sz) := by
  refine Met.ofW (cc := cX15_tell) (maxL := 4) (ret := none) (by decide) rfl ?_
  intro p e s m args below meth c s₁ B hml hv
  obtain ⟨rfl, hsz, hP, hK, hD0, hM⟩ := hv
  have hx := B.exec
  have hb := B.bytes
  have hr := B.returns
  have hts := atoms_spec (ws := wsX15_tell) B.pre
  have hown : s.vm.findClass RX15 = some m.cls := findClass_of_methodNamed B.named
  have hlocks := B.notSynchronized
  have hiX15 : ∀ w ∈ u_ws RX15 TX15 28, w ∈ wsX15_tell := by decide +kernel
  subst hsz
  have hD := hD0.self (sz := s.heap.size)
  generalize hAe : va_A (wd_k_tell0 z mi fo pe pn re rn mo ti si lo lh lk sp st pa br sg cti csi th tf sf) s.heap.size = A at hD hM ⊢
  have hA : ∀ q : Nat, s.heap.size ≤ q → A q := fun q h => by rw [← hAe]; exact Or.inr h
  have hS : va_S A s.heap s.heap [] := va_S.rf
  have hP : va_P (dC, dI) vwCl [(mo, .inr (19, [.int 0, .int 0, .int 0, .int 0, .int 0, .int 0, .int 0, .ref ti, .ref si, .ref lo, .ref lh, .ref lk, .ref sp, .ref st, .ref pa, .ref br, .ref sg, .int mi, .int 0, .int 0, .int 0, .int fo, .int 0, .long pe, .long pn, .long re, .long rn, .int th])), (ti, .inl (cti, 2, .inl tf)), (si, .inl (csi, 2, .inl sf)), (lh, .inr (3, [.int 0, .ref (z 0), .int 0]))] s.heap := hP
  have hD : va_D A [(mo, .inr (19, [.int 0, .int 0, .int 0, .int 0, .int 0, .int 0, .int 0, .ref ti, .ref si, .ref lo, .ref lh, .ref lk, .ref sp, .ref st, .ref pa, .ref br, .ref sg, .int mi, .int 0, .int 0, .int 0, .int fo, .int 0, .long pe, .long pn, .long re, .long rn, .int th])), (ti, .inl (cti, 2, .inl tf)), (si, .inl (csi, 2, .inl sf)), (lh, .inr (3, [.int 0, .ref (z 0), .int 0]))] := hD
  have hl := lv_entry ([.ref mo]) (n := 4) (Nat.le_of_ble_eq_true rfl)
  rw [lg_entry_eq]
  generalize (lg_sl ([.ref mo]) ++ List.replicate (4 - (lg_sl ([.ref mo])).length) Slot.unset).toArray = ls at hl ⊢
  have hl : lv_has ls 4 [(0, .ref mo)] := hl
  refine lv_aload_n hx hb dX15_tell_0 rfl (lv_at hl 0 rfl) ?_
  refine va_get (D := (dC, dI)) (ci := 19) (v := .int mi) (C := RX15) (T := TX15) (N := 28) hx hb hts hiX15 hown hK hP 0 rfl rfl 17 (by decide) (hts (.fieldLink RX15 163 "SquareRigModel" "minute" "I") (by decide +kernel)) (fun _ h9 => h9) rfl dX15_tell_1 ?_
  refine lv_bipush (v := 30) hx hb dX15_tell_4 (by decide) ?_
  refine lv_irem hx hb dX15_tell_6 (by decide +kernel) ?_
  refine lv_if_ne (tgt := 65) hx hb dX15_tell_7 (by decide) (fun c1 => ?_) (fun c1 => ?_)
  · skip
    refine lv_aload_n hx hb dX15_tell_65 rfl (lv_at hl 0 rfl) ?_
    refine va_get (D := (dC, dI)) (ci := 19) (v := .int mi) (C := RX15) (T := TX15) (N := 28) hx hb hts hiX15 hown hK hP 0 rfl rfl 17 (by decide) (hts (.fieldLink RX15 163 "SquareRigModel" "minute" "I") (by decide +kernel)) (fun _ h9 => h9) rfl dX15_tell_66 ?_
    refine lv_sipush (v := 240) hx hb dX15_tell_69 (by decide) ?_
    refine lv_irem hx hb dX15_tell_72 (by decide +kernel) ?_
    refine lv_if_ne (tgt := 167) hx hb dX15_tell_73 (by decide) (fun c2 => ?_) (fun c2 => ?_)
    · skip
      refine lv_aload_n hx hb dX15_tell_167 rfl (lv_at hl 0 rfl) ?_
      refine va_get (D := (dC, dI)) (ci := 19) (v := .int mi) (C := RX15) (T := TX15) (N := 28) hx hb hts hiX15 hown hK hP 0 rfl rfl 17 (by decide) (hts (.fieldLink RX15 163 "SquareRigModel" "minute" "I") (by decide +kernel)) (fun _ h9 => h9) rfl dX15_tell_168 ?_
      refine lv_sipush (v := 1440) hx hb dX15_tell_171 (by decide) ?_
      refine lv_irem hx hb dX15_tell_174 (by decide +kernel) ?_
      refine lv_if_ne (tgt := 259) hx hb dX15_tell_175 (by decide) (fun c3 => ?_) (fun c3 => ?_)
      · skip
        exact W.vret hx hb hr (fun t ht hW => ⟨⟨(), rfl, trivial, ⟨0, fo, re, rn, tf, sf, (Or.inl rfl), (Or.inl rfl), kB_end (w9 := [(mo, .inr (19, [.int 0, .int 0, .int 0, .int 0, .int 0, .int 0, .int 0, .ref ti, .ref si, .ref lo, .ref lh, .ref lk, .ref sp, .ref st, .ref pa, .ref br, .ref sg, .int mi, .int 0, .int 0, .int 0, .int fo, .int 0, .long pe, .long pn, .long re, .long rn, .int th])), (ti, .inl (cti, 2, .inl tf)), (si, .inl (csi, 2, .inl sf)), (lh, .inr (3, [.int 0, .ref (z 0), .int 0]))]) (t9 := []) hP hK hD [0, 1, 2, 3] [] rfl (by decide) rfl rfl t ht hW⟩⟩, hS.F ht⟩) hS.2.2 dX15_tell_259
      · skip
        refine lv_aload_n hx hb dX15_tell_178 rfl (lv_at hl 0 rfl) ?_
        refine lv_iconst (v := 0) hx hb dX15_tell_179 (by decide) ?_
        refine lv_bipush (v := 24) hx hb dX15_tell_180 (by decide) ?_
        have hPc := hP.sub (ws' := [(mo, .inr (19, [.int 0, .int 0, .int 0, .int 0, .int 0, .int 0, .int 0, .ref ti, .ref si, .ref lo, .ref lh, .ref lk, .ref sp, .ref st, .ref pa, .ref br, .ref sg, .int mi, .int 0, .int 0, .int 0, .int fo, .int 0, .long pe, .long pn, .long re, .long rn, .int th])), (lh, .inr (3, [.int 0, .ref (z 0), .int 0]))]) [0, 3] rfl
        have hDc := hD.sub (ws' := [(mo, .inr (19, [.int 0, .int 0, .int 0, .int 0, .int 0, .int 0, .int 0, .ref ti, .ref si, .ref lo, .ref lh, .ref lk, .ref sp, .ref st, .ref pa, .ref br, .ref sg, .int mi, .int 0, .int 0, .int 0, .int fo, .int 0, .long pe, .long pn, .long re, .long rn, .int th])), (lh, .inr (3, [.int 0, .ref (z 0), .int 0]))]) [0, 3] (by decide) rfl
        have hKc := hK.sub (tys' := []) [] rfl
        have hFc := va_free (wc := [(mo, .inr (19, [.int 0, .int 0, .int 0, .int 0, .int 0, .int 0, .int 0, .ref ti, .ref si, .ref lo, .ref lh, .ref lk, .ref sp, .ref st, .ref pa, .ref br, .ref sg, .int mi, .int 0, .int 0, .int 0, .int fo, .int 0, .long pe, .long pn, .long re, .long rn, .int th])), (lh, .inr (3, [.int 0, .ref (z 0), .int 0]))]) hD hS hA [0, 3] rfl
        refine va_calli (va_runV (As := [.int 0, .int 24]) (rest := []) ⟨hx, hb, hml, hown, hts⟩ (k_mtake0 l dC dI z zK zV mi fo pe pn re rn mo ti si lo lh lk sp st pa br sg th 0 s.heap.size) (cwV 2 hts gX15_tell_X15_take rfl rfl rfl (by decide +kernel) ⟨Nat.le_of_ble_eq_true rfl, Nat.le_of_ble_eq_true rfl⟩) ⟨kP_blind, va_recv hKc hPc (ci := 19) (q0 := 0) rfl rfl, kP_go hPc hKc hDc hFc hM hS⟩ rfl rfl hl.1 rfl (lv_room (Nat.le_of_ble_eq_true rfl)) dX15_tell_182 ⟨Nat.le_of_ble_eq_true rfl, Nat.le_of_ble_eq_true rfl⟩) hS (fun q _ h => hFc q h) hFc (fun r4 u t H1 locs ht hvm hw hB hz1 hk1 hS => ?_)
        obtain ⟨hP, hD, hK⟩ := kJ (wr := [(ti, .inl (cti, 2, .inl tf)), (si, .inl (csi, 2, .inl sf))]) (w1 := [(mo, .inr (19, [.int 0, .int 0, .int 0, .int 0, .int 0, .int 0, .int 0, .ref ti, .ref si, .ref lo, .ref lh, .ref lk, .ref sp, .ref st, .ref pa, .ref br, .ref sg, .int mi, .int 0, .int 0, .int 0, .int fo, .int 0, .long pe, .long pn, .long re, .long rn, .int th])), (lh, .inr (3, [.int 0, .ref (z 0), .int 0]))]) (t1 := []) hP hD hK [0, 3] [1, 2] rfl rfl (by decide) (by decide) hk1 hFc ht hvm hB
        generalize H1 = H at hP hS ⊢
        have hP : va_P (dC, dI) vwCl [(ti, .inl (cti, 2, .inl tf)), (si, .inl (csi, 2, .inl sf)), (mo, .inr (19, [.int 0, .int 0, .int 0, .int 0, .int 0, .int 0, .int 0, .ref ti, .ref si, .ref lo, .ref lh, .ref lk, .ref sp, .ref st, .ref pa, .ref br, .ref sg, .int mi, .int 0, .int 0, .int 0, .int fo, .int 0, .long pe, .long pn, .long re, .long rn, .int th])), (lh, .inr (3, [.int 0, .ref (z 0), .int 0]))] H := hP
        have hD : va_D A [(ti, .inl (cti, 2, .inl tf)), (si, .inl (csi, 2, .inl sf)), (mo, .inr (19, [.int 0, .int 0, .int 0, .int 0, .int 0, .int 0, .int 0, .ref ti, .ref si, .ref lo, .ref lh, .ref lk, .ref sp, .ref st, .ref pa, .ref br, .ref sg, .int mi, .int 0, .int 0, .int 0, .int fo, .int 0, .long pe, .long pn, .long re, .long rn, .int th])), (lh, .inr (3, [.int 0, .ref (z 0), .int 0]))] := hD
        have hK : va_K (dC, dI) vwCl [(cti, .int), (csi, .int)] s := hK
        obtain rfl : 0 = r4 := hw
        refine lv_istore_n (lv' := [(1, .int 0), (0, .ref mo)]) hx hb dX15_tell_185 rfl hl (by decide) rfl (fun ls hl => ?_)
        refine lv_aload_n hx hb dX15_tell_186 rfl (lv_at hl 1 rfl) ?_
        refine lv_iconst (v := 1) hx hb dX15_tell_187 (by decide) ?_
        refine lv_bipush (v := 24) hx hb dX15_tell_188 (by decide) ?_
        have hPc := hP.sub (ws' := [(mo, .inr (19, [.int 0, .int 0, .int 0, .int 0, .int 0, .int 0, .int 0, .ref ti, .ref si, .ref lo, .ref lh, .ref lk, .ref sp, .ref st, .ref pa, .ref br, .ref sg, .int mi, .int 0, .int 0, .int 0, .int fo, .int 0, .long pe, .long pn, .long re, .long rn, .int th])), (lh, .inr (3, [.int 0, .ref (z 0), .int 0]))]) [2, 3] rfl
        have hDc := hD.sub (ws' := [(mo, .inr (19, [.int 0, .int 0, .int 0, .int 0, .int 0, .int 0, .int 0, .ref ti, .ref si, .ref lo, .ref lh, .ref lk, .ref sp, .ref st, .ref pa, .ref br, .ref sg, .int mi, .int 0, .int 0, .int 0, .int fo, .int 0, .long pe, .long pn, .long re, .long rn, .int th])), (lh, .inr (3, [.int 0, .ref (z 0), .int 0]))]) [2, 3] (by decide) rfl
        have hKc := hK.sub (tys' := []) [] rfl
        have hFc := va_free (wc := [(mo, .inr (19, [.int 0, .int 0, .int 0, .int 0, .int 0, .int 0, .int 0, .ref ti, .ref si, .ref lo, .ref lh, .ref lk, .ref sp, .ref st, .ref pa, .ref br, .ref sg, .int mi, .int 0, .int 0, .int 0, .int fo, .int 0, .long pe, .long pn, .long re, .long rn, .int th])), (lh, .inr (3, [.int 0, .ref (z 0), .int 0]))]) hD hS hA [2, 3] rfl
        refine va_calli (va_runV (As := [.int 1, .int 24]) (rest := []) ⟨hx, hb, hml, hown, hts⟩ (k_mtake1 l dC dI z zK zV mi fo pe pn re rn mo ti si lo lh lk sp st pa br sg th 0 H.size) (cwV 2 hts gX15_tell_X15_take rfl rfl rfl (by decide +kernel) ⟨Nat.le_of_ble_eq_true rfl, Nat.le_of_ble_eq_true rfl⟩) ⟨kP_blind, va_recv hKc hPc (ci := 19) (q0 := 0) rfl rfl, kP_go hPc hKc hDc hFc hM hS⟩ rfl rfl hl.1 rfl (lv_room (Nat.le_of_ble_eq_true rfl)) dX15_tell_190 ⟨Nat.le_of_ble_eq_true rfl, Nat.le_of_ble_eq_true rfl⟩) hS (fun q _ h => hFc q h) hFc (fun r5 u t H1 locs ht hvm hw hB hz1 hk1 hS => ?_)
        obtain ⟨hP, hD, hK⟩ := kJ (wr := [(ti, .inl (cti, 2, .inl tf)), (si, .inl (csi, 2, .inl sf))]) (w1 := [(mo, .inr (19, [.int 0, .int 0, .int 0, .int 0, .int 0, .int 0, .int 0, .ref ti, .ref si, .ref lo, .ref lh, .ref lk, .ref sp, .ref st, .ref pa, .ref br, .ref sg, .int mi, .int 0, .int 0, .int 0, .int fo, .int 0, .long pe, .long pn, .long re, .long rn, .int th])), (lh, .inr (3, [.int 0, .ref (z 0), .int 0]))]) (t1 := []) hP hD hK [2, 3] [0, 1] rfl rfl (by decide) (by decide) hk1 hFc ht hvm hB
        generalize H1 = H at hP hS ⊢
        have hP : va_P (dC, dI) vwCl [(ti, .inl (cti, 2, .inl tf)), (si, .inl (csi, 2, .inl sf)), (mo, .inr (19, [.int 0, .int 0, .int 0, .int 0, .int 0, .int 0, .int 0, .ref ti, .ref si, .ref lo, .ref lh, .ref lk, .ref sp, .ref st, .ref pa, .ref br, .ref sg, .int mi, .int 0, .int 0, .int 0, .int fo, .int 0, .long pe, .long pn, .long re, .long rn, .int th])), (lh, .inr (3, [.int 0, .ref (z 0), .int 0]))] H := hP
        have hD : va_D A [(ti, .inl (cti, 2, .inl tf)), (si, .inl (csi, 2, .inl sf)), (mo, .inr (19, [.int 0, .int 0, .int 0, .int 0, .int 0, .int 0, .int 0, .ref ti, .ref si, .ref lo, .ref lh, .ref lk, .ref sp, .ref st, .ref pa, .ref br, .ref sg, .int mi, .int 0, .int 0, .int 0, .int fo, .int 0, .long pe, .long pn, .long re, .long rn, .int th])), (lh, .inr (3, [.int 0, .ref (z 0), .int 0]))] := hD
        have hK : va_K (dC, dI) vwCl [(cti, .int), (csi, .int)] s := hK
        obtain rfl : 0 = r5 := hw
        refine lv_istore_n (lv' := [(2, .int 0), (1, .int 0), (0, .ref mo)]) hx hb dX15_tell_193 rfl hl (by decide) rfl (fun ls hl => ?_)
        refine lv_iconst (v := 0) hx hb dX15_tell_194 (by decide) ?_
        refine lv_istore_n (lv' := [(3, .int 0), (2, .int 0), (1, .int 0), (0, .ref mo)]) hx hb dX15_tell_195 rfl hl (by decide) rfl (fun ls hl => ?_)
        refine lv_iload_n hx hb dX15_tell_196 rfl (lv_at hl 0 rfl) ?_
        refine lv_iconst (v := 2) hx hb dX15_tell_197 (by decide) ?_
        refine lv_icmp_ge (tgt := 249) hx hb dX15_tell_198 (by decide) (fun c_ => absurd c_ (by decide +kernel)) (fun _ => ?_)
        refine lv_aload_n hx hb dX15_tell_201 rfl (lv_at hl 3 rfl) ?_
        refine va_get (D := (dC, dI)) (ci := 19) (v := .ref si) (C := RX15) (T := TX15) (N := 28) hx hb hts hiX15 hown hK hP 2 rfl rfl 8 (by decide) (hts (.fieldLink RX15 13 "SquareRigModel" "sick" "[I") (by decide +kernel)) (fun _ h9 => h9) rfl dX15_tell_202 ?_
        refine lv_iload_n hx hb dX15_tell_205 rfl (lv_at hl 0 rfl) ?_
        refine lv_iload_n hx hb dX15_tell_206 rfl (lv_at hl 2 rfl) ?_
        refine lv_if_eq (tgt := 229) hx hb dX15_tell_207 (by decide) (fun _ => ?_) (fun c_ => absurd (by decide +kernel) c_)
        refine lv_bipush (v := 12) hx hb dX15_tell_229 (by decide) ?_
        refine lv_aload_n hx hb dX15_tell_231 rfl (lv_at hl 3 rfl) ?_
        refine va_get (D := (dC, dI)) (ci := 19) (v := .ref si) (C := RX15) (T := TX15) (N := 28) hx hb hts hiX15 hown hK hP 2 rfl rfl 8 (by decide) (hts (.fieldLink RX15 13 "SquareRigModel" "sick" "[I") (by decide +kernel)) (fun _ h9 => h9) rfl dX15_tell_232 ?_
        refine lv_iload_n hx hb dX15_tell_235 rfl (lv_at hl 0 rfl) ?_
        refine va_iald hx hb hK hP 1 1 rfl rfl (pk_in 0 2 (by decide) rfl) dX15_tell_236 ?_
        refine kc_v (y := .int (sf 0)) rfl ?_
        refine lv_iconst (v := 1) hx hb dX15_tell_237 (by decide) ?_
        refine lv_iadd hx hb dX15_tell_238 ?_
        refine va_mmin hx hb (hml.trans hl.1.symm) hown (hts (.methodLink RX15 75 Lib.Math.min.name) (by decide +kernel)) (hts (.static Lib.Math.min.name) (by decide +kernel)) (hts (.initialized "java/lang/Math") (by decide +kernel)) (hts (.code Lib.Math.min.name Lib.Math.min.code 2 (some .int)) (by decide +kernel)) (Nat.le_of_ble_eq_true rfl) (Nat.le_of_ble_eq_true rfl) (Nat.le_of_ble_eq_true rfl) (Nat.le_of_ble_eq_true rfl) dX15_tell_239 ?_
        refine va_iast hx hb hK hP hD hS 1 1 rfl rfl (pk_in 0 2 (by decide) rfl) dX15_tell_242 (fun H locs hP hD hS => ?_)
        have hP : va_P (dC, dI) vwCl [(ti, .inl (cti, 2, .inl tf)), (si, .inl (csi, 2, .inl (upd sf 0 (if ((sf 0) + 1) < 12 then ((sf 0) + 1) else 12)))), (mo, .inr (19, [.int 0, .int 0, .int 0, .int 0, .int 0, .int 0, .int 0, .ref ti, .ref si, .ref lo, .ref lh, .ref lk, .ref sp, .ref st, .ref pa, .ref br, .ref sg, .int mi, .int 0, .int 0, .int 0, .int fo, .int 0, .long pe, .long pn, .long re, .long rn, .int th])), (lh, .inr (3, [.int 0, .ref (z 0), .int 0]))] H := hP
        have hD : va_D A [(ti, .inl (cti, 2, .inl tf)), (si, .inl (csi, 2, .inl (upd sf 0 (if ((sf 0) + 1) < 12 then ((sf 0) + 1) else 12)))), (mo, .inr (19, [.int 0, .int 0, .int 0, .int 0, .int 0, .int 0, .int 0, .ref ti, .ref si, .ref lo, .ref lh, .ref lk, .ref sp, .ref st, .ref pa, .ref br, .ref sg, .int mi, .int 0, .int 0, .int 0, .int fo, .int 0, .long pe, .long pn, .long re, .long rn, .int th])), (lh, .inr (3, [.int 0, .ref (z 0), .int 0]))] := hD
        refine lv_iinc (v := 1) (lv' := [(3, .int 1), (2, .int 0), (1, .int 0), (0, .ref mo)]) hx hb dX15_tell_243 hl (k := 0) rfl (by decide +kernel) (by decide) rfl (fun ls hl => ?_)
        refine lv_goto (tgt := 196) hx hb dX15_tell_246 (by decide) ?_
        refine lv_iload_n hx hb dX15_tell_196 rfl (lv_at hl 0 rfl) ?_
        refine lv_iconst (v := 2) hx hb dX15_tell_197 (by decide) ?_
        refine lv_icmp_ge (tgt := 249) hx hb dX15_tell_198 (by decide) (fun c_ => absurd c_ (by decide +kernel)) (fun _ => ?_)
        refine lv_aload_n hx hb dX15_tell_201 rfl (lv_at hl 3 rfl) ?_
        refine va_get (D := (dC, dI)) (ci := 19) (v := .ref si) (C := RX15) (T := TX15) (N := 28) hx hb hts hiX15 hown hK hP 2 rfl rfl 8 (by decide) (hts (.fieldLink RX15 13 "SquareRigModel" "sick" "[I") (by decide +kernel)) (fun _ h9 => h9) rfl dX15_tell_202 ?_
        refine lv_iload_n hx hb dX15_tell_205 rfl (lv_at hl 0 rfl) ?_
        refine lv_iload_n hx hb dX15_tell_206 rfl (lv_at hl 2 rfl) ?_
        refine lv_if_eq (tgt := 229) hx hb dX15_tell_207 (by decide) (fun _ => ?_) (fun c_ => absurd (by decide +kernel) c_)
        refine lv_bipush (v := 12) hx hb dX15_tell_229 (by decide) ?_
        refine lv_aload_n hx hb dX15_tell_231 rfl (lv_at hl 3 rfl) ?_
        refine va_get (D := (dC, dI)) (ci := 19) (v := .ref si) (C := RX15) (T := TX15) (N := 28) hx hb hts hiX15 hown hK hP 2 rfl rfl 8 (by decide) (hts (.fieldLink RX15 13 "SquareRigModel" "sick" "[I") (by decide +kernel)) (fun _ h9 => h9) rfl dX15_tell_232 ?_
        refine lv_iload_n hx hb dX15_tell_235 rfl (lv_at hl 0 rfl) ?_
        refine va_iald hx hb hK hP 1 1 rfl rfl (pk_in 1 2 (by decide) rfl) dX15_tell_236 ?_
        refine kc_v (y := .int (sf 1)) rfl ?_
        refine lv_iconst (v := 1) hx hb dX15_tell_237 (by decide) ?_
        refine lv_iadd hx hb dX15_tell_238 ?_
        refine va_mmin hx hb (hml.trans hl.1.symm) hown (hts (.methodLink RX15 75 Lib.Math.min.name) (by decide +kernel)) (hts (.static Lib.Math.min.name) (by decide +kernel)) (hts (.initialized "java/lang/Math") (by decide +kernel)) (hts (.code Lib.Math.min.name Lib.Math.min.code 2 (some .int)) (by decide +kernel)) (Nat.le_of_ble_eq_true rfl) (Nat.le_of_ble_eq_true rfl) (Nat.le_of_ble_eq_true rfl) (Nat.le_of_ble_eq_true rfl) dX15_tell_239 ?_
        refine va_iast hx hb hK hP hD hS 1 1 rfl rfl (pk_in 1 2 (by decide) rfl) dX15_tell_242 (fun H locs hP hD hS => ?_)
        have hP : va_P (dC, dI) vwCl [(ti, .inl (cti, 2, .inl tf)), (si, .inl (csi, 2, .inl (upd (upd sf 0 (if ((sf 0) + 1) < 12 then ((sf 0) + 1) else 12)) 1 (if ((sf 1) + 1) < 12 then ((sf 1) + 1) else 12)))), (mo, .inr (19, [.int 0, .int 0, .int 0, .int 0, .int 0, .int 0, .int 0, .ref ti, .ref si, .ref lo, .ref lh, .ref lk, .ref sp, .ref st, .ref pa, .ref br, .ref sg, .int mi, .int 0, .int 0, .int 0, .int fo, .int 0, .long pe, .long pn, .long re, .long rn, .int th])), (lh, .inr (3, [.int 0, .ref (z 0), .int 0]))] H := hP
        have hD : va_D A [(ti, .inl (cti, 2, .inl tf)), (si, .inl (csi, 2, .inl (upd (upd sf 0 (if ((sf 0) + 1) < 12 then ((sf 0) + 1) else 12)) 1 (if ((sf 1) + 1) < 12 then ((sf 1) + 1) else 12)))), (mo, .inr (19, [.int 0, .int 0, .int 0, .int 0, .int 0, .int 0, .int 0, .ref ti, .ref si, .ref lo, .ref lh, .ref lk, .ref sp, .ref st, .ref pa, .ref br, .ref sg, .int mi, .int 0, .int 0, .int 0, .int fo, .int 0, .long pe, .long pn, .long re, .long rn, .int th])), (lh, .inr (3, [.int 0, .ref (z 0), .int 0]))] := hD
        refine lv_iinc (v := 2) (lv' := [(3, .int 2), (2, .int 0), (1, .int 0), (0, .ref mo)]) hx hb dX15_tell_243 hl (k := 0) rfl (by decide +kernel) (by decide) rfl (fun ls hl => ?_)
        refine lv_goto (tgt := 196) hx hb dX15_tell_246 (by decide) ?_
        refine lv_iload_n hx hb dX15_tell_196 rfl (lv_at hl 0 rfl) ?_
        refine lv_iconst (v := 2) hx hb dX15_tell_197 (by decide) ?_
        refine lv_icmp_ge (tgt := 249) hx hb dX15_tell_198 (by decide) (fun _ => ?_) (fun c_ => absurd (by decide +kernel) c_)
        refine lv_aload_n hx hb dX15_tell_249 rfl (lv_at hl 3 rfl) ?_
        refine lv_dup hx hb dX15_tell_250 rfl ?_
        refine va_get (D := (dC, dI)) (ci := 19) (v := .int fo) (C := RX15) (T := TX15) (N := 28) hx hb hts hiX15 hown hK hP 2 rfl rfl 21 (by decide) (hts (.fieldLink RX15 262 "SquareRigModel" "foul" "I") (by decide +kernel)) (fun _ h9 => h9) rfl dX15_tell_251 ?_
        refine lv_iconst (v := 1) hx hb dX15_tell_254 (by decide) ?_
        refine lv_iadd hx hb dX15_tell_255 ?_
        refine va_put (D := (dC, dI)) (ci := 19) (v := .int (fo + 1)) (ty := .int) (C := RX15) (T := TX15) (N := 28) hx hb hts hiX15 tyX15 tyX15_ok nmX15 hown hK hP hD hS 2 rfl rfl 21 (by decide) (hts (.fieldLink RX15 262 "SquareRigModel" "foul" "I") (by decide +kernel)) (fun _ h9 => h9) rfl (by decide +kernel) rfl rfl (Nat.le_of_ble_eq_true rfl) dX15_tell_256 (fun H locs hP hD hS => ?_)
        have hP : va_P (dC, dI) vwCl [(ti, .inl (cti, 2, .inl tf)), (si, .inl (csi, 2, .inl (upd (upd sf 0 (if ((sf 0) + 1) < 12 then ((sf 0) + 1) else 12)) 1 (if ((sf 1) + 1) < 12 then ((sf 1) + 1) else 12)))), (mo, .inr (19, [.int 0, .int 0, .int 0, .int 0, .int 0, .int 0, .int 0, .ref ti, .ref si, .ref lo, .ref lh, .ref lk, .ref sp, .ref st, .ref pa, .ref br, .ref sg, .int mi, .int 0, .int 0, .int 0, .int (fo + 1), .int 0, .long pe, .long pn, .long re, .long rn, .int th])), (lh, .inr (3, [.int 0, .ref (z 0), .int 0]))] H := hP
        have hD : va_D A [(ti, .inl (cti, 2, .inl tf)), (si, .inl (csi, 2, .inl (upd (upd sf 0 (if ((sf 0) + 1) < 12 then ((sf 0) + 1) else 12)) 1 (if ((sf 1) + 1) < 12 then ((sf 1) + 1) else 12)))), (mo, .inr (19, [.int 0, .int 0, .int 0, .int 0, .int 0, .int 0, .int 0, .ref ti, .ref si, .ref lo, .ref lh, .ref lk, .ref sp, .ref st, .ref pa, .ref br, .ref sg, .int mi, .int 0, .int 0, .int 0, .int (fo + 1), .int 0, .long pe, .long pn, .long re, .long rn, .int th])), (lh, .inr (3, [.int 0, .ref (z 0), .int 0]))] := hD
        exact W.vret hx hb hr (fun t ht hW => ⟨⟨(), rfl, trivial, ⟨0, (fo + 1), re, rn, tf, (upd (upd sf 0 (if ((sf 0) + 1) < 12 then ((sf 0) + 1) else 12)) 1 (if ((sf 1) + 1) < 12 then ((sf 1) + 1) else 12)), (Or.inl rfl), (Or.inr rfl), kB_end (w9 := [(mo, .inr (19, [.int 0, .int 0, .int 0, .int 0, .int 0, .int 0, .int 0, .ref ti, .ref si, .ref lo, .ref lh, .ref lk, .ref sp, .ref st, .ref pa, .ref br, .ref sg, .int mi, .int 0, .int 0, .int 0, .int (fo + 1), .int 0, .long pe, .long pn, .long re, .long rn, .int th])), (ti, .inl (cti, 2, .inl tf)), (si, .inl (csi, 2, .inl (upd (upd sf 0 (if ((sf 0) + 1) < 12 then ((sf 0) + 1) else 12)) 1 (if ((sf 1) + 1) < 12 then ((sf 1) + 1) else 12)))), (lh, .inr (3, [.int 0, .ref (z 0), .int 0]))]) (t9 := []) hP hK hD [2, 0, 1, 3] [] rfl (by decide) rfl rfl t ht hW⟩⟩, hS.F ht⟩) hS.2.2 dX15_tell_259
    · skip
      refine lv_aload_n hx hb dX15_tell_76 rfl (lv_at hl 0 rfl) ?_
      refine va_get (D := (dC, dI)) (ci := 19) (v := .ref ti) (C := RX15) (T := TX15) (N := 28) hx hb hts hiX15 hown hK hP 0 rfl rfl 7 (by decide) (hts (.fieldLink RX15 7 "SquareRigModel" "tired" "[I") (by decide +kernel)) (fun _ h9 => h9) rfl dX15_tell_77 ?_
      refine lv_aload_n hx hb dX15_tell_80 rfl (lv_at hl 0 rfl) ?_
      refine va_get (D := (dC, dI)) (ci := 19) (v := .int 0) (C := RX15) (T := TX15) (N := 28) hx hb hts hiX15 hown hK hP 0 rfl rfl 6 (by decide) (hts (.fieldLink RX15 199 "SquareRigModel" "turn" "I") (by decide +kernel)) (fun _ h9 => h9) rfl dX15_tell_81 ?_
      refine lv_bipush (v := 60) hx hb dX15_tell_84 (by decide) ?_
      refine lv_aload_n hx hb dX15_tell_86 rfl (lv_at hl 0 rfl) ?_
      refine va_get (D := (dC, dI)) (ci := 19) (v := .ref ti) (C := RX15) (T := TX15) (N := 28) hx hb hts hiX15 hown hK hP 0 rfl rfl 7 (by decide) (hts (.fieldLink RX15 7 "SquareRigModel" "tired" "[I") (by decide +kernel)) (fun _ h9 => h9) rfl dX15_tell_87 ?_
      refine lv_aload_n hx hb dX15_tell_90 rfl (lv_at hl 0 rfl) ?_
      refine va_get (D := (dC, dI)) (ci := 19) (v := .int 0) (C := RX15) (T := TX15) (N := 28) hx hb hts hiX15 hown hK hP 0 rfl rfl 6 (by decide) (hts (.fieldLink RX15 199 "SquareRigModel" "turn" "I") (by decide +kernel)) (fun _ h9 => h9) rfl dX15_tell_91 ?_
      refine va_iald hx hb hK hP 1 0 rfl rfl (pk_in 0 2 (by decide) rfl) dX15_tell_94 ?_
      refine kc_v (y := .int (tf 0)) rfl ?_
      refine lv_iconst (v := 5) hx hb dX15_tell_95 (by decide) ?_
      refine lv_iadd hx hb dX15_tell_96 ?_
      refine va_mmin hx hb (hml.trans hl.1.symm) hown (hts (.methodLink RX15 75 Lib.Math.min.name) (by decide +kernel)) (hts (.static Lib.Math.min.name) (by decide +kernel)) (hts (.initialized "java/lang/Math") (by decide +kernel)) (hts (.code Lib.Math.min.name Lib.Math.min.code 2 (some .int)) (by decide +kernel)) (Nat.le_of_ble_eq_true rfl) (Nat.le_of_ble_eq_true rfl) (Nat.le_of_ble_eq_true rfl) (Nat.le_of_ble_eq_true rfl) dX15_tell_97 ?_
      refine va_iast hx hb hK hP hD hS 1 0 rfl rfl (pk_in 0 2 (by decide) rfl) dX15_tell_100 (fun H locs hP hD hS => ?_)
      have hP : va_P (dC, dI) vwCl [(mo, .inr (19, [.int 0, .int 0, .int 0, .int 0, .int 0, .int 0, .int 0, .ref ti, .ref si, .ref lo, .ref lh, .ref lk, .ref sp, .ref st, .ref pa, .ref br, .ref sg, .int mi, .int 0, .int 0, .int 0, .int fo, .int 0, .long pe, .long pn, .long re, .long rn, .int th])), (ti, .inl (cti, 2, .inl (upd tf 0 (if ((tf 0) + 5) < 60 then ((tf 0) + 5) else 60)))), (si, .inl (csi, 2, .inl sf)), (lh, .inr (3, [.int 0, .ref (z 0), .int 0]))] H := hP
      have hD : va_D A [(mo, .inr (19, [.int 0, .int 0, .int 0, .int 0, .int 0, .int 0, .int 0, .ref ti, .ref si, .ref lo, .ref lh, .ref lk, .ref sp, .ref st, .ref pa, .ref br, .ref sg, .int mi, .int 0, .int 0, .int 0, .int fo, .int 0, .long pe, .long pn, .long re, .long rn, .int th])), (ti, .inl (cti, 2, .inl (upd tf 0 (if ((tf 0) + 5) < 60 then ((tf 0) + 5) else 60)))), (si, .inl (csi, 2, .inl sf)), (lh, .inr (3, [.int 0, .ref (z 0), .int 0]))] := hD
      refine lv_aload_n hx hb dX15_tell_101 rfl (lv_at hl 0 rfl) ?_
      refine va_get (D := (dC, dI)) (ci := 19) (v := .ref ti) (C := RX15) (T := TX15) (N := 28) hx hb hts hiX15 hown hK hP 0 rfl rfl 7 (by decide) (hts (.fieldLink RX15 7 "SquareRigModel" "tired" "[I") (by decide +kernel)) (fun _ h9 => h9) rfl dX15_tell_102 ?_
      refine lv_iconst (v := 1) hx hb dX15_tell_105 (by decide) ?_
      refine lv_aload_n hx hb dX15_tell_106 rfl (lv_at hl 0 rfl) ?_
      refine va_get (D := (dC, dI)) (ci := 19) (v := .int 0) (C := RX15) (T := TX15) (N := 28) hx hb hts hiX15 hown hK hP 0 rfl rfl 6 (by decide) (hts (.fieldLink RX15 199 "SquareRigModel" "turn" "I") (by decide +kernel)) (fun _ h9 => h9) rfl dX15_tell_107 ?_
      refine lv_isub hx hb dX15_tell_110 ?_
      refine kc_i (y := 1) (by decide +kernel) ?_
      refine lv_aload_n hx hb dX15_tell_111 rfl (lv_at hl 0 rfl) ?_
      refine va_get (D := (dC, dI)) (ci := 19) (v := .int 0) (C := RX15) (T := TX15) (N := 28) hx hb hts hiX15 hown hK hP 0 rfl rfl 5 (by decide) (hts (.fieldLink RX15 195 "SquareRigModel" "areAll" "Z") (by decide +kernel)) (fun _ h9 => h9) rfl dX15_tell_112 ?_
      refine lv_if_eq (tgt := 139) hx hb dX15_tell_115 (by decide) (fun _ => ?_) (fun c_ => absurd (by decide +kernel) c_)
      refine lv_iconst (v := 0) hx hb dX15_tell_139 (by decide) ?_
      refine lv_aload_n hx hb dX15_tell_140 rfl (lv_at hl 0 rfl) ?_
      refine va_get (D := (dC, dI)) (ci := 19) (v := .ref ti) (C := RX15) (T := TX15) (N := 28) hx hb hts hiX15 hown hK hP 0 rfl rfl 7 (by decide) (hts (.fieldLink RX15 7 "SquareRigModel" "tired" "[I") (by decide +kernel)) (fun _ h9 => h9) rfl dX15_tell_141 ?_
      refine lv_iconst (v := 1) hx hb dX15_tell_144 (by decide) ?_
      refine lv_aload_n hx hb dX15_tell_145 rfl (lv_at hl 0 rfl) ?_
      refine va_get (D := (dC, dI)) (ci := 19) (v := .int 0) (C := RX15) (T := TX15) (N := 28) hx hb hts hiX15 hown hK hP 0 rfl rfl 6 (by decide) (hts (.fieldLink RX15 199 "SquareRigModel" "turn" "I") (by decide +kernel)) (fun _ h9 => h9) rfl dX15_tell_146 ?_
      refine lv_isub hx hb dX15_tell_149 ?_
      refine kc_i (y := 1) (by decide +kernel) ?_
      refine va_iald hx hb hK hP 1 0 rfl rfl (pk_in 1 2 (by decide) rfl) dX15_tell_150 ?_
      refine kc_v (y := .int (tf 1)) rfl ?_
      refine lv_iconst (v := 5) hx hb dX15_tell_151 (by decide) ?_
      refine lv_isub hx hb dX15_tell_152 ?_
      refine va_mmax hx hb (hml.trans hl.1.symm) hown (hts (.methodLink RX15 102 Lib.Math.max.name) (by decide +kernel)) (hts (.static Lib.Math.max.name) (by decide +kernel)) (hts (.initialized "java/lang/Math") (by decide +kernel)) (hts (.code Lib.Math.max.name Lib.Math.max.code 2 (some .int)) (by decide +kernel)) (Nat.le_of_ble_eq_true rfl) (Nat.le_of_ble_eq_true rfl) (Nat.le_of_ble_eq_true rfl) (Nat.le_of_ble_eq_true rfl) dX15_tell_153 ?_
      refine va_iast hx hb hK hP hD hS 1 0 rfl rfl (pk_in 1 2 (by decide) rfl) dX15_tell_156 (fun H locs hP hD hS => ?_)
      have hP : va_P (dC, dI) vwCl [(mo, .inr (19, [.int 0, .int 0, .int 0, .int 0, .int 0, .int 0, .int 0, .ref ti, .ref si, .ref lo, .ref lh, .ref lk, .ref sp, .ref st, .ref pa, .ref br, .ref sg, .int mi, .int 0, .int 0, .int 0, .int fo, .int 0, .long pe, .long pn, .long re, .long rn, .int th])), (ti, .inl (cti, 2, .inl (upd (upd tf 0 (if ((tf 0) + 5) < 60 then ((tf 0) + 5) else 60)) 1 (if 0 < ((tf 1) - 5) then ((tf 1) - 5) else 0)))), (si, .inl (csi, 2, .inl sf)), (lh, .inr (3, [.int 0, .ref (z 0), .int 0]))] H := hP
      have hD : va_D A [(mo, .inr (19, [.int 0, .int 0, .int 0, .int 0, .int 0, .int 0, .int 0, .ref ti, .ref si, .ref lo, .ref lh, .ref lk, .ref sp, .ref st, .ref pa, .ref br, .ref sg, .int mi, .int 0, .int 0, .int 0, .int fo, .int 0, .long pe, .long pn, .long re, .long rn, .int th])), (ti, .inl (cti, 2, .inl (upd (upd tf 0 (if ((tf 0) + 5) < 60 then ((tf 0) + 5) else 60)) 1 (if 0 < ((tf 1) - 5) then ((tf 1) - 5) else 0)))), (si, .inl (csi, 2, .inl sf)), (lh, .inr (3, [.int 0, .ref (z 0), .int 0]))] := hD
      refine lv_aload_n hx hb dX15_tell_157 rfl (lv_at hl 0 rfl) ?_
      refine lv_iconst (v := 1) hx hb dX15_tell_158 (by decide) ?_
      refine lv_aload_n hx hb dX15_tell_159 rfl (lv_at hl 0 rfl) ?_
      refine va_get (D := (dC, dI)) (ci := 19) (v := .int 0) (C := RX15) (T := TX15) (N := 28) hx hb hts hiX15 hown hK hP 0 rfl rfl 6 (by decide) (hts (.fieldLink RX15 199 "SquareRigModel" "turn" "I") (by decide +kernel)) (fun _ h9 => h9) rfl dX15_tell_160 ?_
      refine lv_isub hx hb dX15_tell_163 ?_
      refine kc_i (y := 1) (by decide +kernel) ?_
      refine va_put (D := (dC, dI)) (ci := 19) (v := .int 1) (ty := .int) (C := RX15) (T := TX15) (N := 28) hx hb hts hiX15 tyX15 tyX15_ok nmX15 hown hK hP hD hS 0 rfl rfl 6 (by decide) (hts (.fieldLink RX15 199 "SquareRigModel" "turn" "I") (by decide +kernel)) (fun _ h9 => h9) rfl (by decide +kernel) rfl rfl (Nat.le_of_ble_eq_true rfl) dX15_tell_164 (fun H locs hP hD hS => ?_)
      have hP : va_P (dC, dI) vwCl [(mo, .inr (19, [.int 0, .int 0, .int 0, .int 0, .int 0, .int 0, .int 1, .ref ti, .ref si, .ref lo, .ref lh, .ref lk, .ref sp, .ref st, .ref pa, .ref br, .ref sg, .int mi, .int 0, .int 0, .int 0, .int fo, .int 0, .long pe, .long pn, .long re, .long rn, .int th])), (ti, .inl (cti, 2, .inl (upd (upd tf 0 (if ((tf 0) + 5) < 60 then ((tf 0) + 5) else 60)) 1 (if 0 < ((tf 1) - 5) then ((tf 1) - 5) else 0)))), (si, .inl (csi, 2, .inl sf)), (lh, .inr (3, [.int 0, .ref (z 0), .int 0]))] H := hP
      have hD : va_D A [(mo, .inr (19, [.int 0, .int 0, .int 0, .int 0, .int 0, .int 0, .int 1, .ref ti, .ref si, .ref lo, .ref lh, .ref lk, .ref sp, .ref st, .ref pa, .ref br, .ref sg, .int mi, .int 0, .int 0, .int 0, .int fo, .int 0, .long pe, .long pn, .long re, .long rn, .int th])), (ti, .inl (cti, 2, .inl (upd (upd tf 0 (if ((tf 0) + 5) < 60 then ((tf 0) + 5) else 60)) 1 (if 0 < ((tf 1) - 5) then ((tf 1) - 5) else 0)))), (si, .inl (csi, 2, .inl sf)), (lh, .inr (3, [.int 0, .ref (z 0), .int 0]))] := hD
      refine lv_aload_n hx hb dX15_tell_167 rfl (lv_at hl 0 rfl) ?_
      refine va_get (D := (dC, dI)) (ci := 19) (v := .int mi) (C := RX15) (T := TX15) (N := 28) hx hb hts hiX15 hown hK hP 0 rfl rfl 17 (by decide) (hts (.fieldLink RX15 163 "SquareRigModel" "minute" "I") (by decide +kernel)) (fun _ h9 => h9) rfl dX15_tell_168 ?_
      refine lv_sipush (v := 1440) hx hb dX15_tell_171 (by decide) ?_
      refine lv_irem hx hb dX15_tell_174 (by decide +kernel) ?_
      refine lv_if_ne (tgt := 259) hx hb dX15_tell_175 (by decide) (fun c6 => ?_) (fun c6 => ?_)
      · skip
        exact W.vret hx hb hr (fun t ht hW => ⟨⟨(), rfl, trivial, ⟨1, fo, re, rn, (upd (upd tf 0 (if ((tf 0) + 5) < 60 then ((tf 0) + 5) else 60)) 1 (if 0 < ((tf 1) - 5) then ((tf 1) - 5) else 0)), sf, (Or.inr rfl), (Or.inl rfl), kB_end (w9 := [(mo, .inr (19, [.int 0, .int 0, .int 0, .int 0, .int 0, .int 0, .int 1, .ref ti, .ref si, .ref lo, .ref lh, .ref lk, .ref sp, .ref st, .ref pa, .ref br, .ref sg, .int mi, .int 0, .int 0, .int 0, .int fo, .int 0, .long pe, .long pn, .long re, .long rn, .int th])), (ti, .inl (cti, 2, .inl (upd (upd tf 0 (if ((tf 0) + 5) < 60 then ((tf 0) + 5) else 60)) 1 (if 0 < ((tf 1) - 5) then ((tf 1) - 5) else 0)))), (si, .inl (csi, 2, .inl sf)), (lh, .inr (3, [.int 0, .ref (z 0), .int 0]))]) (t9 := []) hP hK hD [0, 1, 2, 3] [] rfl (by decide) rfl rfl t ht hW⟩⟩, hS.F ht⟩) hS.2.2 dX15_tell_259
      · skip
        refine lv_aload_n hx hb dX15_tell_178 rfl (lv_at hl 0 rfl) ?_
        refine lv_iconst (v := 0) hx hb dX15_tell_179 (by decide) ?_
        refine lv_bipush (v := 24) hx hb dX15_tell_180 (by decide) ?_
        have hPc := hP.sub (ws' := [(mo, .inr (19, [.int 0, .int 0, .int 0, .int 0, .int 0, .int 0, .int 1, .ref ti, .ref si, .ref lo, .ref lh, .ref lk, .ref sp, .ref st, .ref pa, .ref br, .ref sg, .int mi, .int 0, .int 0, .int 0, .int fo, .int 0, .long pe, .long pn, .long re, .long rn, .int th])), (lh, .inr (3, [.int 0, .ref (z 0), .int 0]))]) [0, 3] rfl
        have hDc := hD.sub (ws' := [(mo, .inr (19, [.int 0, .int 0, .int 0, .int 0, .int 0, .int 0, .int 1, .ref ti, .ref si, .ref lo, .ref lh, .ref lk, .ref sp, .ref st, .ref pa, .ref br, .ref sg, .int mi, .int 0, .int 0, .int 0, .int fo, .int 0, .long pe, .long pn, .long re, .long rn, .int th])), (lh, .inr (3, [.int 0, .ref (z 0), .int 0]))]) [0, 3] (by decide) rfl
        have hKc := hK.sub (tys' := []) [] rfl
        have hFc := va_free (wc := [(mo, .inr (19, [.int 0, .int 0, .int 0, .int 0, .int 0, .int 0, .int 1, .ref ti, .ref si, .ref lo, .ref lh, .ref lk, .ref sp, .ref st, .ref pa, .ref br, .ref sg, .int mi, .int 0, .int 0, .int 0, .int fo, .int 0, .long pe, .long pn, .long re, .long rn, .int th])), (lh, .inr (3, [.int 0, .ref (z 0), .int 0]))]) hD hS hA [0, 3] rfl
        refine va_calli (va_runV (As := [.int 0, .int 24]) (rest := []) ⟨hx, hb, hml, hown, hts⟩ (k_mtake0 l dC dI z zK zV mi fo pe pn re rn mo ti si lo lh lk sp st pa br sg th 1 H.size) (cwV 2 hts gX15_tell_X15_take rfl rfl rfl (by decide +kernel) ⟨Nat.le_of_ble_eq_true rfl, Nat.le_of_ble_eq_true rfl⟩) ⟨kP_blind, va_recv hKc hPc (ci := 19) (q0 := 0) rfl rfl, kP_go hPc hKc hDc hFc hM hS⟩ rfl rfl hl.1 rfl (lv_room (Nat.le_of_ble_eq_true rfl)) dX15_tell_182 ⟨Nat.le_of_ble_eq_true rfl, Nat.le_of_ble_eq_true rfl⟩) hS (fun q _ h => hFc q h) hFc (fun r7 u t H1 locs ht hvm hw hB hz1 hk1 hS => ?_)
        obtain ⟨hP, hD, hK⟩ := kJ (wr := [(ti, .inl (cti, 2, .inl (upd (upd tf 0 (if ((tf 0) + 5) < 60 then ((tf 0) + 5) else 60)) 1 (if 0 < ((tf 1) - 5) then ((tf 1) - 5) else 0)))), (si, .inl (csi, 2, .inl sf))]) (w1 := [(mo, .inr (19, [.int 0, .int 0, .int 0, .int 0, .int 0, .int 0, .int 1, .ref ti, .ref si, .ref lo, .ref lh, .ref lk, .ref sp, .ref st, .ref pa, .ref br, .ref sg, .int mi, .int 0, .int 0, .int 0, .int fo, .int 0, .long pe, .long pn, .long re, .long rn, .int th])), (lh, .inr (3, [.int 0, .ref (z 0), .int 0]))]) (t1 := []) hP hD hK [0, 3] [1, 2] rfl rfl (by decide) (by decide) hk1 hFc ht hvm hB
        generalize H1 = H at hP hS ⊢
        have hP : va_P (dC, dI) vwCl [(ti, .inl (cti, 2, .inl (upd (upd tf 0 (if ((tf 0) + 5) < 60 then ((tf 0) + 5) else 60)) 1 (if 0 < ((tf 1) - 5) then ((tf 1) - 5) else 0)))), (si, .inl (csi, 2, .inl sf)), (mo, .inr (19, [.int 0, .int 0, .int 0, .int 0, .int 0, .int 0, .int 1, .ref ti, .ref si, .ref lo, .ref lh, .ref lk, .ref sp, .ref st, .ref pa, .ref br, .ref sg, .int mi, .int 0, .int 0, .int 0, .int fo, .int 0, .long pe, .long pn, .long re, .long rn, .int th])), (lh, .inr (3, [.int 0, .ref (z 0), .int 0]))] H := hP
        have hD : va_D A [(ti, .inl (cti, 2, .inl (upd (upd tf 0 (if ((tf 0) + 5) < 60 then ((tf 0) + 5) else 60)) 1 (if 0 < ((tf 1) - 5) then ((tf 1) - 5) else 0)))), (si, .inl (csi, 2, .inl sf)), (mo, .inr (19, [.int 0, .int 0, .int 0, .int 0, .int 0, .int 0, .int 1, .ref ti, .ref si, .ref lo, .ref lh, .ref lk, .ref sp, .ref st, .ref pa, .ref br, .ref sg, .int mi, .int 0, .int 0, .int 0, .int fo, .int 0, .long pe, .long pn, .long re, .long rn, .int th])), (lh, .inr (3, [.int 0, .ref (z 0), .int 0]))] := hD
        have hK : va_K (dC, dI) vwCl [(cti, .int), (csi, .int)] s := hK
        obtain rfl : 0 = r7 := hw
        refine lv_istore_n (lv' := [(1, .int 0), (0, .ref mo)]) hx hb dX15_tell_185 rfl hl (by decide) rfl (fun ls hl => ?_)
        refine lv_aload_n hx hb dX15_tell_186 rfl (lv_at hl 1 rfl) ?_
        refine lv_iconst (v := 1) hx hb dX15_tell_187 (by decide) ?_
        refine lv_bipush (v := 24) hx hb dX15_tell_188 (by decide) ?_
        have hPc := hP.sub (ws' := [(mo, .inr (19, [.int 0, .int 0, .int 0, .int 0, .int 0, .int 0, .int 1, .ref ti, .ref si, .ref lo, .ref lh, .ref lk, .ref sp, .ref st, .ref pa, .ref br, .ref sg, .int mi, .int 0, .int 0, .int 0, .int fo, .int 0, .long pe, .long pn, .long re, .long rn, .int th])), (lh, .inr (3, [.int 0, .ref (z 0), .int 0]))]) [2, 3] rfl
        have hDc := hD.sub (ws' := [(mo, .inr (19, [.int 0, .int 0, .int 0, .int 0, .int 0, .int 0, .int 1, .ref ti, .ref si, .ref lo, .ref lh, .ref lk, .ref sp, .ref st, .ref pa, .ref br, .ref sg, .int mi, .int 0, .int 0, .int 0, .int fo, .int 0, .long pe, .long pn, .long re, .long rn, .int th])), (lh, .inr (3, [.int 0, .ref (z 0), .int 0]))]) [2, 3] (by decide) rfl
        have hKc := hK.sub (tys' := []) [] rfl
        have hFc := va_free (wc := [(mo, .inr (19, [.int 0, .int 0, .int 0, .int 0, .int 0, .int 0, .int 1, .ref ti, .ref si, .ref lo, .ref lh, .ref lk, .ref sp, .ref st, .ref pa, .ref br, .ref sg, .int mi, .int 0, .int 0, .int 0, .int fo, .int 0, .long pe, .long pn, .long re, .long rn, .int th])), (lh, .inr (3, [.int 0, .ref (z 0), .int 0]))]) hD hS hA [2, 3] rfl
        refine va_calli (va_runV (As := [.int 1, .int 24]) (rest := []) ⟨hx, hb, hml, hown, hts⟩ (k_mtake1 l dC dI z zK zV mi fo pe pn re rn mo ti si lo lh lk sp st pa br sg th 1 H.size) (cwV 2 hts gX15_tell_X15_take rfl rfl rfl (by decide +kernel) ⟨Nat.le_of_ble_eq_true rfl, Nat.le_of_ble_eq_true rfl⟩) ⟨kP_blind, va_recv hKc hPc (ci := 19) (q0 := 0) rfl rfl, kP_go hPc hKc hDc hFc hM hS⟩ rfl rfl hl.1 rfl (lv_room (Nat.le_of_ble_eq_true rfl)) dX15_tell_190 ⟨Nat.le_of_ble_eq_true rfl, Nat.le_of_ble_eq_true rfl⟩) hS (fun q _ h => hFc q h) hFc (fun r8 u t H1 locs ht hvm hw hB hz1 hk1 hS => ?_)
        obtain ⟨hP, hD, hK⟩ := kJ (wr := [(ti, .inl (cti, 2, .inl (upd (upd tf 0 (if ((tf 0) + 5) < 60 then ((tf 0) + 5) else 60)) 1 (if 0 < ((tf 1) - 5) then ((tf 1) - 5) else 0)))), (si, .inl (csi, 2, .inl sf))]) (w1 := [(mo, .inr (19, [.int 0, .int 0, .int 0, .int 0, .int 0, .int 0, .int 1, .ref ti, .ref si, .ref lo, .ref lh, .ref lk, .ref sp, .ref st, .ref pa, .ref br, .ref sg, .int mi, .int 0, .int 0, .int 0, .int fo, .int 0, .long pe, .long pn, .long re, .long rn, .int th])), (lh, .inr (3, [.int 0, .ref (z 0), .int 0]))]) (t1 := []) hP hD hK [2, 3] [0, 1] rfl rfl (by decide) (by decide) hk1 hFc ht hvm hB
        generalize H1 = H at hP hS ⊢
        have hP : va_P (dC, dI) vwCl [(ti, .inl (cti, 2, .inl (upd (upd tf 0 (if ((tf 0) + 5) < 60 then ((tf 0) + 5) else 60)) 1 (if 0 < ((tf 1) - 5) then ((tf 1) - 5) else 0)))), (si, .inl (csi, 2, .inl sf)), (mo, .inr (19, [.int 0, .int 0, .int 0, .int 0, .int 0, .int 0, .int 1, .ref ti, .ref si, .ref lo, .ref lh, .ref lk, .ref sp, .ref st, .ref pa, .ref br, .ref sg, .int mi, .int 0, .int 0, .int 0, .int fo, .int 0, .long pe, .long pn, .long re, .long rn, .int th])), (lh, .inr (3, [.int 0, .ref (z 0), .int 0]))] H := hP
        have hD : va_D A [(ti, .inl (cti, 2, .inl (upd (upd tf 0 (if ((tf 0) + 5) < 60 then ((tf 0) + 5) else 60)) 1 (if 0 < ((tf 1) - 5) then ((tf 1) - 5) else 0)))), (si, .inl (csi, 2, .inl sf)), (mo, .inr (19, [.int 0, .int 0, .int 0, .int 0, .int 0, .int 0, .int 1, .ref ti, .ref si, .ref lo, .ref lh, .ref lk, .ref sp, .ref st, .ref pa, .ref br, .ref sg, .int mi, .int 0, .int 0, .int 0, .int fo, .int 0, .long pe, .long pn, .long re, .long rn, .int th])), (lh, .inr (3, [.int 0, .ref (z 0), .int 0]))] := hD
        have hK : va_K (dC, dI) vwCl [(cti, .int), (csi, .int)] s := hK
        obtain rfl : 0 = r8 := hw
        refine lv_istore_n (lv' := [(2, .int 0), (1, .int 0), (0, .ref mo)]) hx hb dX15_tell_193 rfl hl (by decide) rfl (fun ls hl => ?_)
        refine lv_iconst (v := 0) hx hb dX15_tell_194 (by decide) ?_
        refine lv_istore_n (lv' := [(3, .int 0), (2, .int 0), (1, .int 0), (0, .ref mo)]) hx hb dX15_tell_195 rfl hl (by decide) rfl (fun ls hl => ?_)
        refine lv_iload_n hx hb dX15_tell_196 rfl (lv_at hl 0 rfl) ?_
        refine lv_iconst (v := 2) hx hb dX15_tell_197 (by decide) ?_
        refine lv_icmp_ge (tgt := 249) hx hb dX15_tell_198 (by decide) (fun c_ => absurd c_ (by decide +kernel)) (fun _ => ?_)
        refine lv_aload_n hx hb dX15_tell_201 rfl (lv_at hl 3 rfl) ?_
        refine va_get (D := (dC, dI)) (ci := 19) (v := .ref si) (C := RX15) (T := TX15) (N := 28) hx hb hts hiX15 hown hK hP 2 rfl rfl 8 (by decide) (hts (.fieldLink RX15 13 "SquareRigModel" "sick" "[I") (by decide +kernel)) (fun _ h9 => h9) rfl dX15_tell_202 ?_
        refine lv_iload_n hx hb dX15_tell_205 rfl (lv_at hl 0 rfl) ?_
        refine lv_iload_n hx hb dX15_tell_206 rfl (lv_at hl 2 rfl) ?_
        refine lv_if_eq (tgt := 229) hx hb dX15_tell_207 (by decide) (fun _ => ?_) (fun c_ => absurd (by decide +kernel) c_)
        refine lv_bipush (v := 12) hx hb dX15_tell_229 (by decide) ?_
        refine lv_aload_n hx hb dX15_tell_231 rfl (lv_at hl 3 rfl) ?_
        refine va_get (D := (dC, dI)) (ci := 19) (v := .ref si) (C := RX15) (T := TX15) (N := 28) hx hb hts hiX15 hown hK hP 2 rfl rfl 8 (by decide) (hts (.fieldLink RX15 13 "SquareRigModel" "sick" "[I") (by decide +kernel)) (fun _ h9 => h9) rfl dX15_tell_232 ?_
        refine lv_iload_n hx hb dX15_tell_235 rfl (lv_at hl 0 rfl) ?_
        refine va_iald hx hb hK hP 1 1 rfl rfl (pk_in 0 2 (by decide) rfl) dX15_tell_236 ?_
        refine kc_v (y := .int (sf 0)) rfl ?_
        refine lv_iconst (v := 1) hx hb dX15_tell_237 (by decide) ?_
        refine lv_iadd hx hb dX15_tell_238 ?_
        refine va_mmin hx hb (hml.trans hl.1.symm) hown (hts (.methodLink RX15 75 Lib.Math.min.name) (by decide +kernel)) (hts (.static Lib.Math.min.name) (by decide +kernel)) (hts (.initialized "java/lang/Math") (by decide +kernel)) (hts (.code Lib.Math.min.name Lib.Math.min.code 2 (some .int)) (by decide +kernel)) (Nat.le_of_ble_eq_true rfl) (Nat.le_of_ble_eq_true rfl) (Nat.le_of_ble_eq_true rfl) (Nat.le_of_ble_eq_true rfl) dX15_tell_239 ?_
        refine va_iast hx hb hK hP hD hS 1 1 rfl rfl (pk_in 0 2 (by decide) rfl) dX15_tell_242 (fun H locs hP hD hS => ?_)
        have hP : va_P (dC, dI) vwCl [(ti, .inl (cti, 2, .inl (upd (upd tf 0 (if ((tf 0) + 5) < 60 then ((tf 0) + 5) else 60)) 1 (if 0 < ((tf 1) - 5) then ((tf 1) - 5) else 0)))), (si, .inl (csi, 2, .inl (upd sf 0 (if ((sf 0) + 1) < 12 then ((sf 0) + 1) else 12)))), (mo, .inr (19, [.int 0, .int 0, .int 0, .int 0, .int 0, .int 0, .int 1, .ref ti, .ref si, .ref lo, .ref lh, .ref lk, .ref sp, .ref st, .ref pa, .ref br, .ref sg, .int mi, .int 0, .int 0, .int 0, .int fo, .int 0, .long pe, .long pn, .long re, .long rn, .int th])), (lh, .inr (3, [.int 0, .ref (z 0), .int 0]))] H := hP
        have hD : va_D A [(ti, .inl (cti, 2, .inl (upd (upd tf 0 (if ((tf 0) + 5) < 60 then ((tf 0) + 5) else 60)) 1 (if 0 < ((tf 1) - 5) then ((tf 1) - 5) else 0)))), (si, .inl (csi, 2, .inl (upd sf 0 (if ((sf 0) + 1) < 12 then ((sf 0) + 1) else 12)))), (mo, .inr (19, [.int 0, .int 0, .int 0, .int 0, .int 0, .int 0, .int 1, .ref ti, .ref si, .ref lo, .ref lh, .ref lk, .ref sp, .ref st, .ref pa, .ref br, .ref sg, .int mi, .int 0, .int 0, .int 0, .int fo, .int 0, .long pe, .long pn, .long re, .long rn, .int th])), (lh, .inr (3, [.int 0, .ref (z 0), .int 0]))] := hD
        refine lv_iinc (v := 1) (lv' := [(3, .int 1), (2, .int 0), (1, .int 0), (0, .ref mo)]) hx hb dX15_tell_243 hl (k := 0) rfl (by decide +kernel) (by decide) rfl (fun ls hl => ?_)
        refine lv_goto (tgt := 196) hx hb dX15_tell_246 (by decide) ?_
        refine lv_iload_n hx hb dX15_tell_196 rfl (lv_at hl 0 rfl) ?_
        refine lv_iconst (v := 2) hx hb dX15_tell_197 (by decide) ?_
        refine lv_icmp_ge (tgt := 249) hx hb dX15_tell_198 (by decide) (fun c_ => absurd c_ (by decide +kernel)) (fun _ => ?_)
        refine lv_aload_n hx hb dX15_tell_201 rfl (lv_at hl 3 rfl) ?_
        refine va_get (D := (dC, dI)) (ci := 19) (v := .ref si) (C := RX15) (T := TX15) (N := 28) hx hb hts hiX15 hown hK hP 2 rfl rfl 8 (by decide) (hts (.fieldLink RX15 13 "SquareRigModel" "sick" "[I") (by decide +kernel)) (fun _ h9 => h9) rfl dX15_tell_202 ?_
        refine lv_iload_n hx hb dX15_tell_205 rfl (lv_at hl 0 rfl) ?_
        refine lv_iload_n hx hb dX15_tell_206 rfl (lv_at hl 2 rfl) ?_
        refine lv_if_eq (tgt := 229) hx hb dX15_tell_207 (by decide) (fun _ => ?_) (fun c_ => absurd (by decide +kernel) c_)
        refine lv_bipush (v := 12) hx hb dX15_tell_229 (by decide) ?_
        refine lv_aload_n hx hb dX15_tell_231 rfl (lv_at hl 3 rfl) ?_
        refine va_get (D := (dC, dI)) (ci := 19) (v := .ref si) (C := RX15) (T := TX15) (N := 28) hx hb hts hiX15 hown hK hP 2 rfl rfl 8 (by decide) (hts (.fieldLink RX15 13 "SquareRigModel" "sick" "[I") (by decide +kernel)) (fun _ h9 => h9) rfl dX15_tell_232 ?_
        refine lv_iload_n hx hb dX15_tell_235 rfl (lv_at hl 0 rfl) ?_
        refine va_iald hx hb hK hP 1 1 rfl rfl (pk_in 1 2 (by decide) rfl) dX15_tell_236 ?_
        refine kc_v (y := .int (sf 1)) rfl ?_
        refine lv_iconst (v := 1) hx hb dX15_tell_237 (by decide) ?_
        refine lv_iadd hx hb dX15_tell_238 ?_
        refine va_mmin hx hb (hml.trans hl.1.symm) hown (hts (.methodLink RX15 75 Lib.Math.min.name) (by decide +kernel)) (hts (.static Lib.Math.min.name) (by decide +kernel)) (hts (.initialized "java/lang/Math") (by decide +kernel)) (hts (.code Lib.Math.min.name Lib.Math.min.code 2 (some .int)) (by decide +kernel)) (Nat.le_of_ble_eq_true rfl) (Nat.le_of_ble_eq_true rfl) (Nat.le_of_ble_eq_true rfl) (Nat.le_of_ble_eq_true rfl) dX15_tell_239 ?_
        refine va_iast hx hb hK hP hD hS 1 1 rfl rfl (pk_in 1 2 (by decide) rfl) dX15_tell_242 (fun H locs hP hD hS => ?_)
        have hP : va_P (dC, dI) vwCl [(ti, .inl (cti, 2, .inl (upd (upd tf 0 (if ((tf 0) + 5) < 60 then ((tf 0) + 5) else 60)) 1 (if 0 < ((tf 1) - 5) then ((tf 1) - 5) else 0)))), (si, .inl (csi, 2, .inl (upd (upd sf 0 (if ((sf 0) + 1) < 12 then ((sf 0) + 1) else 12)) 1 (if ((sf 1) + 1) < 12 then ((sf 1) + 1) else 12)))), (mo, .inr (19, [.int 0, .int 0, .int 0, .int 0, .int 0, .int 0, .int 1, .ref ti, .ref si, .ref lo, .ref lh, .ref lk, .ref sp, .ref st, .ref pa, .ref br, .ref sg, .int mi, .int 0, .int 0, .int 0, .int fo, .int 0, .long pe, .long pn, .long re, .long rn, .int th])), (lh, .inr (3, [.int 0, .ref (z 0), .int 0]))] H := hP
        have hD : va_D A [(ti, .inl (cti, 2, .inl (upd (upd tf 0 (if ((tf 0) + 5) < 60 then ((tf 0) + 5) else 60)) 1 (if 0 < ((tf 1) - 5) then ((tf 1) - 5) else 0)))), (si, .inl (csi, 2, .inl (upd (upd sf 0 (if ((sf 0) + 1) < 12 then ((sf 0) + 1) else 12)) 1 (if ((sf 1) + 1) < 12 then ((sf 1) + 1) else 12)))), (mo, .inr (19, [.int 0, .int 0, .int 0, .int 0, .int 0, .int 0, .int 1, .ref ti, .ref si, .ref lo, .ref lh, .ref lk, .ref sp, .ref st, .ref pa, .ref br, .ref sg, .int mi, .int 0, .int 0, .int 0, .int fo, .int 0, .long pe, .long pn, .long re, .long rn, .int th])), (lh, .inr (3, [.int 0, .ref (z 0), .int 0]))] := hD
        refine lv_iinc (v := 2) (lv' := [(3, .int 2), (2, .int 0), (1, .int 0), (0, .ref mo)]) hx hb dX15_tell_243 hl (k := 0) rfl (by decide +kernel) (by decide) rfl (fun ls hl => ?_)
        refine lv_goto (tgt := 196) hx hb dX15_tell_246 (by decide) ?_
        refine lv_iload_n hx hb dX15_tell_196 rfl (lv_at hl 0 rfl) ?_
        refine lv_iconst (v := 2) hx hb dX15_tell_197 (by decide) ?_
        refine lv_icmp_ge (tgt := 249) hx hb dX15_tell_198 (by decide) (fun _ => ?_) (fun c_ => absurd (by decide +kernel) c_)
        refine lv_aload_n hx hb dX15_tell_249 rfl (lv_at hl 3 rfl) ?_
        refine lv_dup hx hb dX15_tell_250 rfl ?_
        refine va_get (D := (dC, dI)) (ci := 19) (v := .int fo) (C := RX15) (T := TX15) (N := 28) hx hb hts hiX15 hown hK hP 2 rfl rfl 21 (by decide) (hts (.fieldLink RX15 262 "SquareRigModel" "foul" "I") (by decide +kernel)) (fun _ h9 => h9) rfl dX15_tell_251 ?_
        refine lv_iconst (v := 1) hx hb dX15_tell_254 (by decide) ?_
        refine lv_iadd hx hb dX15_tell_255 ?_
        refine va_put (D := (dC, dI)) (ci := 19) (v := .int (fo + 1)) (ty := .int) (C := RX15) (T := TX15) (N := 28) hx hb hts hiX15 tyX15 tyX15_ok nmX15 hown hK hP hD hS 2 rfl rfl 21 (by decide) (hts (.fieldLink RX15 262 "SquareRigModel" "foul" "I") (by decide +kernel)) (fun _ h9 => h9) rfl (by decide +kernel) rfl rfl (Nat.le_of_ble_eq_true rfl) dX15_tell_256 (fun H locs hP hD hS => ?_)
        have hP : va_P (dC, dI) vwCl [(ti, .inl (cti, 2, .inl (upd (upd tf 0 (if ((tf 0) + 5) < 60 then ((tf 0) + 5) else 60)) 1 (if 0 < ((tf 1) - 5) then ((tf 1) - 5) else 0)))), (si, .inl (csi, 2, .inl (upd (upd sf 0 (if ((sf 0) + 1) < 12 then ((sf 0) + 1) else 12)) 1 (if ((sf 1) + 1) < 12 then ((sf 1) + 1) else 12)))), (mo, .inr (19, [.int 0, .int 0, .int 0, .int 0, .int 0, .int 0, .int 1, .ref ti, .ref si, .ref lo, .ref lh, .ref lk, .ref sp, .ref st, .ref pa, .ref br, .ref sg, .int mi, .int 0, .int 0, .int 0, .int (fo + 1), .int 0, .long pe, .long pn, .long re, .long rn, .int th])), (lh, .inr (3, [.int 0, .ref (z 0), .int 0]))] H := hP
        have hD : va_D A [(ti, .inl (cti, 2, .inl (upd (upd tf 0 (if ((tf 0) + 5) < 60 then ((tf 0) + 5) else 60)) 1 (if 0 < ((tf 1) - 5) then ((tf 1) - 5) else 0)))), (si, .inl (csi, 2, .inl (upd (upd sf 0 (if ((sf 0) + 1) < 12 then ((sf 0) + 1) else 12)) 1 (if ((sf 1) + 1) < 12 then ((sf 1) + 1) else 12)))), (mo, .inr (19, [.int 0, .int 0, .int 0, .int 0, .int 0, .int 0, .int 1, .ref ti, .ref si, .ref lo, .ref lh, .ref lk, .ref sp, .ref st, .ref pa, .ref br, .ref sg, .int mi, .int 0, .int 0, .int 0, .int (fo + 1), .int 0, .long pe, .long pn, .long re, .long rn, .int th])), (lh, .inr (3, [.int 0, .ref (z 0), .int 0]))] := hD
        exact W.vret hx hb hr (fun t ht hW => ⟨⟨(), rfl, trivial, ⟨1, (fo + 1), re, rn, (upd (upd tf 0 (if ((tf 0) + 5) < 60 then ((tf 0) + 5) else 60)) 1 (if 0 < ((tf 1) - 5) then ((tf 1) - 5) else 0)), (upd (upd sf 0 (if ((sf 0) + 1) < 12 then ((sf 0) + 1) else 12)) 1 (if ((sf 1) + 1) < 12 then ((sf 1) + 1) else 12)), (Or.inr rfl), (Or.inr rfl), kB_end (w9 := [(mo, .inr (19, [.int 0, .int 0, .int 0, .int 0, .int 0, .int 0, .int 1, .ref ti, .ref si, .ref lo, .ref lh, .ref lk, .ref sp, .ref st, .ref pa, .ref br, .ref sg, .int mi, .int 0, .int 0, .int 0, .int (fo + 1), .int 0, .long pe, .long pn, .long re, .long rn, .int th])), (ti, .inl (cti, 2, .inl (upd (upd tf 0 (if ((tf 0) + 5) < 60 then ((tf 0) + 5) else 60)) 1 (if 0 < ((tf 1) - 5) then ((tf 1) - 5) else 0)))), (si, .inl (csi, 2, .inl (upd (upd sf 0 (if ((sf 0) + 1) < 12 then ((sf 0) + 1) else 12)) 1 (if ((sf 1) + 1) < 12 then ((sf 1) + 1) else 12)))), (lh, .inr (3, [.int 0, .ref (z 0), .int 0]))]) (t9 := []) hP hK hD [2, 0, 1, 3] [] rfl (by decide) rfl rfl t ht hW⟩⟩, hS.F ht⟩) hS.2.2 dX15_tell_259
  · skip
    refine lv_ldc2 (v := 30) hx hb hown (hts (.constantLong RX15 290 30) (by decide +kernel)) dX15_tell_10 ?_
    refine lv_aload_n hx hb dX15_tell_13 rfl (lv_at hl 0 rfl) ?_
    refine va_get (D := (dC, dI)) (ci := 19) (v := .int 0) (C := RX15) (T := TX15) (N := 28) hx hb hts hiX15 hown hK hP 0 rfl rfl 19 (by decide) (hts (.fieldLink RX15 265 "SquareRigModel" "speed" "I") (by decide +kernel)) (fun _ h9 => h9) rfl dX15_tell_14 ?_
    refine lv_bipush (v := 10) hx hb dX15_tell_17 (by decide) ?_
    refine lv_idiv hx hb dX15_tell_19 (by decide +kernel) ?_
    refine kc_i (y := 0) (by decide +kernel) ?_
    refine lv_i2l (v := 0) hx hb dX15_tell_20 (by decide +kernel) ?_
    refine lv_lmul hx hb dX15_tell_21 ?_
    refine kc_l (y := 0) (by decide +kernel) ?_
    refine lv_ldc2 (v := 10) hx hb hown (hts (.constantLong RX15 292 10) (by decide +kernel)) dX15_tell_22 ?_
    refine lv_lmul hx hb dX15_tell_25 ?_
    refine kc_l (y := 0) (by decide +kernel) ?_
    refine lv_lstore_n (lv' := [(1, .long 0), (0, .ref mo)]) hx hb dX15_tell_26 rfl hl (by decide) rfl (fun ls hl => ?_)
    refine lv_aload_n hx hb dX15_tell_27 rfl (lv_at hl 1 rfl) ?_
    refine lv_dup hx hb dX15_tell_28 rfl ?_
    refine va_get (D := (dC, dI)) (ci := 19) (v := .long rn) (C := RX15) (T := TX15) (N := 28) hx hb hts hiX15 hown hK hP 0 rfl rfl 26 (by decide) (hts (.fieldLink RX15 294 "SquareRigModel" "reckonedNorth" "J") (by decide +kernel)) (fun _ h9 => h9) rfl dX15_tell_29 ?_
    refine lv_lload_n hx hb dX15_tell_32 rfl (lv_at hl 0 rfl) ?_
    refine lv_aload_n hx hb dX15_tell_33 rfl (lv_at hl 1 rfl) ?_
    refine va_get (D := (dC, dI)) (ci := 19) (v := .int 0) (C := RX15) (T := TX15) (N := 28) hx hb hts hiX15 hown hK hP 0 rfl rfl 18 (by decide) (hts (.fieldLink RX15 68 "SquareRigModel" "heading" "I") (by decide +kernel)) (fun _ h9 => h9) rfl dX15_tell_34 ?_
    have hPc := hP.sub (ws' := []) [] rfl
    have hDc := hD.sub (ws' := []) [] (by decide) rfl
    have hKc := hK.sub (tys' := []) [] rfl
    have hFc := va_free (wc := []) hD hS hA [] rfl
    refine va_calli (va_runS (As := [.int 0]) (rest := [.long 0, .long rn, .ref mo]) ⟨hx, hb, hml, hown, hts⟩ (k_northOf_0 l dC dI z zK zV  s.heap.size) (va_cwS 1 hts gX15_tell_X15_northOf rfl rfl rfl (by decide +kernel) ⟨Nat.le_of_ble_eq_true rfl, Nat.le_of_ble_eq_true rfl⟩) ⟨kP_blind, kP_go hPc hKc hDc hFc hM hS⟩ rfl rfl hl.1 rfl (lv_room (Nat.le_of_ble_eq_true rfl)) dX15_tell_37 ⟨Nat.le_of_ble_eq_true rfl, Nat.le_of_ble_eq_true rfl⟩) hS (fun q _ h => hFc q h) hFc (fun r9 u t H1 locs ht hvm hw hB hz1 hk1 hS => ?_)
    obtain ⟨hP, hD, hK⟩ := kJ (wr := [(mo, .inr (19, [.int 0, .int 0, .int 0, .int 0, .int 0, .int 0, .int 0, .ref ti, .ref si, .ref lo, .ref lh, .ref lk, .ref sp, .ref st, .ref pa, .ref br, .ref sg, .int mi, .int 0, .int 0, .int 0, .int fo, .int 0, .long pe, .long pn, .long re, .long rn, .int th])), (ti, .inl (cti, 2, .inl tf)), (si, .inl (csi, 2, .inl sf)), (lh, .inr (3, [.int 0, .ref (z 0), .int 0]))]) (w1 := []) (t1 := []) hP hD hK [] [0, 1, 2, 3] rfl rfl (by decide) (by decide) hk1 hFc ht hvm hB
    generalize H1 = H at hP hS ⊢
    have hP : va_P (dC, dI) vwCl [(mo, .inr (19, [.int 0, .int 0, .int 0, .int 0, .int 0, .int 0, .int 0, .ref ti, .ref si, .ref lo, .ref lh, .ref lk, .ref sp, .ref st, .ref pa, .ref br, .ref sg, .int mi, .int 0, .int 0, .int 0, .int fo, .int 0, .long pe, .long pn, .long re, .long rn, .int th])), (ti, .inl (cti, 2, .inl tf)), (si, .inl (csi, 2, .inl sf)), (lh, .inr (3, [.int 0, .ref (z 0), .int 0]))] H := hP
    have hD : va_D A [(mo, .inr (19, [.int 0, .int 0, .int 0, .int 0, .int 0, .int 0, .int 0, .ref ti, .ref si, .ref lo, .ref lh, .ref lk, .ref sp, .ref st, .ref pa, .ref br, .ref sg, .int mi, .int 0, .int 0, .int 0, .int fo, .int 0, .long pe, .long pn, .long re, .long rn, .int th])), (ti, .inl (cti, 2, .inl tf)), (si, .inl (csi, 2, .inl sf)), (lh, .inr (3, [.int 0, .ref (z 0), .int 0]))] := hD
    have hK : va_K (dC, dI) vwCl [(cti, .int), (csi, .int)] s := hK
    obtain rfl : 100 = r9 := hw
    refine lv_i2l (v := 100) hx hb dX15_tell_40 (by decide +kernel) ?_
    refine lv_lmul hx hb dX15_tell_41 ?_
    refine kc_l (y := 0) (by decide +kernel) ?_
    refine lv_ladd hx hb dX15_tell_42 ?_
    refine va_put (D := (dC, dI)) (ci := 19) (v := .long (rn + 0)) (ty := .long) (C := RX15) (T := TX15) (N := 28) hx hb hts hiX15 tyX15 tyX15_ok nmX15 hown hK hP hD hS 0 rfl rfl 26 (by decide) (hts (.fieldLink RX15 294 "SquareRigModel" "reckonedNorth" "J") (by decide +kernel)) (fun _ h9 => h9) rfl (by decide +kernel) rfl rfl (Nat.le_of_ble_eq_true rfl) dX15_tell_43 (fun H locs hP hD hS => ?_)
    have hP : va_P (dC, dI) vwCl [(mo, .inr (19, [.int 0, .int 0, .int 0, .int 0, .int 0, .int 0, .int 0, .ref ti, .ref si, .ref lo, .ref lh, .ref lk, .ref sp, .ref st, .ref pa, .ref br, .ref sg, .int mi, .int 0, .int 0, .int 0, .int fo, .int 0, .long pe, .long pn, .long re, .long (rn + 0), .int th])), (ti, .inl (cti, 2, .inl tf)), (si, .inl (csi, 2, .inl sf)), (lh, .inr (3, [.int 0, .ref (z 0), .int 0]))] H := hP
    have hD : va_D A [(mo, .inr (19, [.int 0, .int 0, .int 0, .int 0, .int 0, .int 0, .int 0, .ref ti, .ref si, .ref lo, .ref lh, .ref lk, .ref sp, .ref st, .ref pa, .ref br, .ref sg, .int mi, .int 0, .int 0, .int 0, .int fo, .int 0, .long pe, .long pn, .long re, .long (rn + 0), .int th])), (ti, .inl (cti, 2, .inl tf)), (si, .inl (csi, 2, .inl sf)), (lh, .inr (3, [.int 0, .ref (z 0), .int 0]))] := hD
    refine lv_aload_n hx hb dX15_tell_46 rfl (lv_at hl 1 rfl) ?_
    refine lv_dup hx hb dX15_tell_47 rfl ?_
    refine va_get (D := (dC, dI)) (ci := 19) (v := .long re) (C := RX15) (T := TX15) (N := 28) hx hb hts hiX15 hown hK hP 0 rfl rfl 25 (by decide) (hts (.fieldLink RX15 297 "SquareRigModel" "reckonedEast" "J") (by decide +kernel)) (fun _ h9 => h9) rfl dX15_tell_48 ?_
    refine lv_lload_n hx hb dX15_tell_51 rfl (lv_at hl 0 rfl) ?_
    refine lv_aload_n hx hb dX15_tell_52 rfl (lv_at hl 1 rfl) ?_
    refine va_get (D := (dC, dI)) (ci := 19) (v := .int 0) (C := RX15) (T := TX15) (N := 28) hx hb hts hiX15 hown hK hP 0 rfl rfl 18 (by decide) (hts (.fieldLink RX15 68 "SquareRigModel" "heading" "I") (by decide +kernel)) (fun _ h9 => h9) rfl dX15_tell_53 ?_
    have hPc := hP.sub (ws' := []) [] rfl
    have hDc := hD.sub (ws' := []) [] (by decide) rfl
    have hKc := hK.sub (tys' := []) [] rfl
    have hFc := va_free (wc := []) hD hS hA [] rfl
    refine va_calli (va_runS (As := [.int 0]) (rest := [.long 0, .long re, .ref mo]) ⟨hx, hb, hml, hown, hts⟩ (k_eastOf_0 l dC dI z zK zV  H.size) (va_cwS 1 hts gX15_tell_X15_eastOf rfl rfl rfl (by decide +kernel) ⟨Nat.le_of_ble_eq_true rfl, Nat.le_of_ble_eq_true rfl⟩) ⟨kP_blind, kP_go hPc hKc hDc hFc hM hS⟩ rfl rfl hl.1 rfl (lv_room (Nat.le_of_ble_eq_true rfl)) dX15_tell_56 ⟨Nat.le_of_ble_eq_true rfl, Nat.le_of_ble_eq_true rfl⟩) hS (fun q _ h => hFc q h) hFc (fun r10 u t H1 locs ht hvm hw hB hz1 hk1 hS => ?_)
    obtain ⟨hP, hD, hK⟩ := kJ (wr := [(mo, .inr (19, [.int 0, .int 0, .int 0, .int 0, .int 0, .int 0, .int 0, .ref ti, .ref si, .ref lo, .ref lh, .ref lk, .ref sp, .ref st, .ref pa, .ref br, .ref sg, .int mi, .int 0, .int 0, .int 0, .int fo, .int 0, .long pe, .long pn, .long re, .long (rn + 0), .int th])), (ti, .inl (cti, 2, .inl tf)), (si, .inl (csi, 2, .inl sf)), (lh, .inr (3, [.int 0, .ref (z 0), .int 0]))]) (w1 := []) (t1 := []) hP hD hK [] [0, 1, 2, 3] rfl rfl (by decide) (by decide) hk1 hFc ht hvm hB
    generalize H1 = H at hP hS ⊢
    have hP : va_P (dC, dI) vwCl [(mo, .inr (19, [.int 0, .int 0, .int 0, .int 0, .int 0, .int 0, .int 0, .ref ti, .ref si, .ref lo, .ref lh, .ref lk, .ref sp, .ref st, .ref pa, .ref br, .ref sg, .int mi, .int 0, .int 0, .int 0, .int fo, .int 0, .long pe, .long pn, .long re, .long (rn + 0), .int th])), (ti, .inl (cti, 2, .inl tf)), (si, .inl (csi, 2, .inl sf)), (lh, .inr (3, [.int 0, .ref (z 0), .int 0]))] H := hP
    have hD : va_D A [(mo, .inr (19, [.int 0, .int 0, .int 0, .int 0, .int 0, .int 0, .int 0, .ref ti, .ref si, .ref lo, .ref lh, .ref lk, .ref sp, .ref st, .ref pa, .ref br, .ref sg, .int mi, .int 0, .int 0, .int 0, .int fo, .int 0, .long pe, .long pn, .long re, .long (rn + 0), .int th])), (ti, .inl (cti, 2, .inl tf)), (si, .inl (csi, 2, .inl sf)), (lh, .inr (3, [.int 0, .ref (z 0), .int 0]))] := hD
    have hK : va_K (dC, dI) vwCl [(cti, .int), (csi, .int)] s := hK
    obtain rfl : 0 = r10 := hw
    refine lv_i2l (v := 0) hx hb dX15_tell_59 (by decide +kernel) ?_
    refine lv_lmul hx hb dX15_tell_60 ?_
    refine kc_l (y := 0) (by decide +kernel) ?_
    refine lv_ladd hx hb dX15_tell_61 ?_
    refine va_put (D := (dC, dI)) (ci := 19) (v := .long (re + 0)) (ty := .long) (C := RX15) (T := TX15) (N := 28) hx hb hts hiX15 tyX15 tyX15_ok nmX15 hown hK hP hD hS 0 rfl rfl 25 (by decide) (hts (.fieldLink RX15 297 "SquareRigModel" "reckonedEast" "J") (by decide +kernel)) (fun _ h9 => h9) rfl (by decide +kernel) rfl rfl (Nat.le_of_ble_eq_true rfl) dX15_tell_62 (fun H locs hP hD hS => ?_)
    have hP : va_P (dC, dI) vwCl [(mo, .inr (19, [.int 0, .int 0, .int 0, .int 0, .int 0, .int 0, .int 0, .ref ti, .ref si, .ref lo, .ref lh, .ref lk, .ref sp, .ref st, .ref pa, .ref br, .ref sg, .int mi, .int 0, .int 0, .int 0, .int fo, .int 0, .long pe, .long pn, .long (re + 0), .long (rn + 0), .int th])), (ti, .inl (cti, 2, .inl tf)), (si, .inl (csi, 2, .inl sf)), (lh, .inr (3, [.int 0, .ref (z 0), .int 0]))] H := hP
    have hD : va_D A [(mo, .inr (19, [.int 0, .int 0, .int 0, .int 0, .int 0, .int 0, .int 0, .ref ti, .ref si, .ref lo, .ref lh, .ref lk, .ref sp, .ref st, .ref pa, .ref br, .ref sg, .int mi, .int 0, .int 0, .int 0, .int fo, .int 0, .long pe, .long pn, .long (re + 0), .long (rn + 0), .int th])), (ti, .inl (cti, 2, .inl tf)), (si, .inl (csi, 2, .inl sf)), (lh, .inr (3, [.int 0, .ref (z 0), .int 0]))] := hD
    refine lv_aload_n hx hb dX15_tell_65 rfl (lv_at hl 1 rfl) ?_
    refine va_get (D := (dC, dI)) (ci := 19) (v := .int mi) (C := RX15) (T := TX15) (N := 28) hx hb hts hiX15 hown hK hP 0 rfl rfl 17 (by decide) (hts (.fieldLink RX15 163 "SquareRigModel" "minute" "I") (by decide +kernel)) (fun _ h9 => h9) rfl dX15_tell_66 ?_
    refine lv_sipush (v := 240) hx hb dX15_tell_69 (by decide) ?_
    refine lv_irem hx hb dX15_tell_72 (by decide +kernel) ?_
    refine lv_if_ne (tgt := 167) hx hb dX15_tell_73 (by decide) (fun c11 => ?_) (fun c11 => ?_)
    · skip
      refine lv_aload_n hx hb dX15_tell_167 rfl (lv_at hl 1 rfl) ?_
      refine va_get (D := (dC, dI)) (ci := 19) (v := .int mi) (C := RX15) (T := TX15) (N := 28) hx hb hts hiX15 hown hK hP 0 rfl rfl 17 (by decide) (hts (.fieldLink RX15 163 "SquareRigModel" "minute" "I") (by decide +kernel)) (fun _ h9 => h9) rfl dX15_tell_168 ?_
      refine lv_sipush (v := 1440) hx hb dX15_tell_171 (by decide) ?_
      refine lv_irem hx hb dX15_tell_174 (by decide +kernel) ?_
      refine lv_if_ne (tgt := 259) hx hb dX15_tell_175 (by decide) (fun c12 => ?_) (fun c12 => ?_)
      · skip
        exact W.vret hx hb hr (fun t ht hW => ⟨⟨(), rfl, trivial, ⟨0, fo, (re + 0), (rn + 0), tf, sf, (Or.inl rfl), (Or.inl rfl), kB_end (w9 := [(mo, .inr (19, [.int 0, .int 0, .int 0, .int 0, .int 0, .int 0, .int 0, .ref ti, .ref si, .ref lo, .ref lh, .ref lk, .ref sp, .ref st, .ref pa, .ref br, .ref sg, .int mi, .int 0, .int 0, .int 0, .int fo, .int 0, .long pe, .long pn, .long (re + 0), .long (rn + 0), .int th])), (ti, .inl (cti, 2, .inl tf)), (si, .inl (csi, 2, .inl sf)), (lh, .inr (3, [.int 0, .ref (z 0), .int 0]))]) (t9 := []) hP hK hD [0, 1, 2, 3] [] rfl (by decide) rfl rfl t ht hW⟩⟩, hS.F ht⟩) hS.2.2 dX15_tell_259
      · skip
        refine lv_aload_n hx hb dX15_tell_178 rfl (lv_at hl 1 rfl) ?_
        refine lv_iconst (v := 0) hx hb dX15_tell_179 (by decide) ?_
        refine lv_bipush (v := 24) hx hb dX15_tell_180 (by decide) ?_
        have hPc := hP.sub (ws' := [(mo, .inr (19, [.int 0, .int 0, .int 0, .int 0, .int 0, .int 0, .int 0, .ref ti, .ref si, .ref lo, .ref lh, .ref lk, .ref sp, .ref st, .ref pa, .ref br, .ref sg, .int mi, .int 0, .int 0, .int 0, .int fo, .int 0, .long pe, .long pn, .long (re + 0), .long (rn + 0), .int th])), (lh, .inr (3, [.int 0, .ref (z 0), .int 0]))]) [0, 3] rfl
        have hDc := hD.sub (ws' := [(mo, .inr (19, [.int 0, .int 0, .int 0, .int 0, .int 0, .int 0, .int 0, .ref ti, .ref si, .ref lo, .ref lh, .ref lk, .ref sp, .ref st, .ref pa, .ref br, .ref sg, .int mi, .int 0, .int 0, .int 0, .int fo, .int 0, .long pe, .long pn, .long (re + 0), .long (rn + 0), .int th])), (lh, .inr (3, [.int 0, .ref (z 0), .int 0]))]) [0, 3] (by decide) rfl
        have hKc := hK.sub (tys' := []) [] rfl
        have hFc := va_free (wc := [(mo, .inr (19, [.int 0, .int 0, .int 0, .int 0, .int 0, .int 0, .int 0, .ref ti, .ref si, .ref lo, .ref lh, .ref lk, .ref sp, .ref st, .ref pa, .ref br, .ref sg, .int mi, .int 0, .int 0, .int 0, .int fo, .int 0, .long pe, .long pn, .long (re + 0), .long (rn + 0), .int th])), (lh, .inr (3, [.int 0, .ref (z 0), .int 0]))]) hD hS hA [0, 3] rfl
        refine va_calli (va_runV (As := [.int 0, .int 24]) (rest := []) ⟨hx, hb, hml, hown, hts⟩ (k_mtake0 l dC dI z zK zV mi fo pe pn (re + 0) (rn + 0) mo ti si lo lh lk sp st pa br sg th 0 H.size) (cwV 2 hts gX15_tell_X15_take rfl rfl rfl (by decide +kernel) ⟨Nat.le_of_ble_eq_true rfl, Nat.le_of_ble_eq_true rfl⟩) ⟨kP_blind, va_recv hKc hPc (ci := 19) (q0 := 0) rfl rfl, kP_go hPc hKc hDc hFc hM hS⟩ rfl rfl hl.1 rfl (lv_room (Nat.le_of_ble_eq_true rfl)) dX15_tell_182 ⟨Nat.le_of_ble_eq_true rfl, Nat.le_of_ble_eq_true rfl⟩) hS (fun q _ h => hFc q h) hFc (fun r13 u t H1 locs ht hvm hw hB hz1 hk1 hS => ?_)
        obtain ⟨hP, hD, hK⟩ := kJ (wr := [(ti, .inl (cti, 2, .inl tf)), (si, .inl (csi, 2, .inl sf))]) (w1 := [(mo, .inr (19, [.int 0, .int 0, .int 0, .int 0, .int 0, .int 0, .int 0, .ref ti, .ref si, .ref lo, .ref lh, .ref lk, .ref sp, .ref st, .ref pa, .ref br, .ref sg, .int mi, .int 0, .int 0, .int 0, .int fo, .int 0, .long pe, .long pn, .long (re + 0), .long (rn + 0), .int th])), (lh, .inr (3, [.int 0, .ref (z 0), .int 0]))]) (t1 := []) hP hD hK [0, 3] [1, 2] rfl rfl (by decide) (by decide) hk1 hFc ht hvm hB
        generalize H1 = H at hP hS ⊢
        have hP : va_P (dC, dI) vwCl [(ti, .inl (cti, 2, .inl tf)), (si, .inl (csi, 2, .inl sf)), (mo, .inr (19, [.int 0, .int 0, .int 0, .int 0, .int 0, .int 0, .int 0, .ref ti, .ref si, .ref lo, .ref lh, .ref lk, .ref sp, .ref st, .ref pa, .ref br, .ref sg, .int mi, .int 0, .int 0, .int 0, .int fo, .int 0, .long pe, .long pn, .long (re + 0), .long (rn + 0), .int th])), (lh, .inr (3, [.int 0, .ref (z 0), .int 0]))] H := hP
        have hD : va_D A [(ti, .inl (cti, 2, .inl tf)), (si, .inl (csi, 2, .inl sf)), (mo, .inr (19, [.int 0, .int 0, .int 0, .int 0, .int 0, .int 0, .int 0, .ref ti, .ref si, .ref lo, .ref lh, .ref lk, .ref sp, .ref st, .ref pa, .ref br, .ref sg, .int mi, .int 0, .int 0, .int 0, .int fo, .int 0, .long pe, .long pn, .long (re + 0), .long (rn + 0), .int th])), (lh, .inr (3, [.int 0, .ref (z 0), .int 0]))] := hD
        have hK : va_K (dC, dI) vwCl [(cti, .int), (csi, .int)] s := hK
        obtain rfl : 0 = r13 := hw
        refine lv_istore_n (lv' := [(1, .int 0), (0, .ref mo)]) hx hb dX15_tell_185 rfl hl (by decide) rfl (fun ls hl => ?_)
        refine lv_aload_n hx hb dX15_tell_186 rfl (lv_at hl 1 rfl) ?_
        refine lv_iconst (v := 1) hx hb dX15_tell_187 (by decide) ?_
        refine lv_bipush (v := 24) hx hb dX15_tell_188 (by decide) ?_
        have hPc := hP.sub (ws' := [(mo, .inr (19, [.int 0, .int 0, .int 0, .int 0, .int 0, .int 0, .int 0, .ref ti, .ref si, .ref lo, .ref lh, .ref lk, .ref sp, .ref st, .ref pa, .ref br, .ref sg, .int mi, .int 0, .int 0, .int 0, .int fo, .int 0, .long pe, .long pn, .long (re + 0), .long (rn + 0), .int th])), (lh, .inr (3, [.int 0, .ref (z 0), .int 0]))]) [2, 3] rfl
        have hDc := hD.sub (ws' := [(mo, .inr (19, [.int 0, .int 0, .int 0, .int 0, .int 0, .int 0, .int 0, .ref ti, .ref si, .ref lo, .ref lh, .ref lk, .ref sp, .ref st, .ref pa, .ref br, .ref sg, .int mi, .int 0, .int 0, .int 0, .int fo, .int 0, .long pe, .long pn, .long (re + 0), .long (rn + 0), .int th])), (lh, .inr (3, [.int 0, .ref (z 0), .int 0]))]) [2, 3] (by decide) rfl
        have hKc := hK.sub (tys' := []) [] rfl
        have hFc := va_free (wc := [(mo, .inr (19, [.int 0, .int 0, .int 0, .int 0, .int 0, .int 0, .int 0, .ref ti, .ref si, .ref lo, .ref lh, .ref lk, .ref sp, .ref st, .ref pa, .ref br, .ref sg, .int mi, .int 0, .int 0, .int 0, .int fo, .int 0, .long pe, .long pn, .long (re + 0), .long (rn + 0), .int th])), (lh, .inr (3, [.int 0, .ref (z 0), .int 0]))]) hD hS hA [2, 3] rfl
        refine va_calli (va_runV (As := [.int 1, .int 24]) (rest := []) ⟨hx, hb, hml, hown, hts⟩ (k_mtake1 l dC dI z zK zV mi fo pe pn (re + 0) (rn + 0) mo ti si lo lh lk sp st pa br sg th 0 H.size) (cwV 2 hts gX15_tell_X15_take rfl rfl rfl (by decide +kernel) ⟨Nat.le_of_ble_eq_true rfl, Nat.le_of_ble_eq_true rfl⟩) ⟨kP_blind, va_recv hKc hPc (ci := 19) (q0 := 0) rfl rfl, kP_go hPc hKc hDc hFc hM hS⟩ rfl rfl hl.1 rfl (lv_room (Nat.le_of_ble_eq_true rfl)) dX15_tell_190 ⟨Nat.le_of_ble_eq_true rfl, Nat.le_of_ble_eq_true rfl⟩) hS (fun q _ h => hFc q h) hFc (fun r14 u t H1 locs ht hvm hw hB hz1 hk1 hS => ?_)
        obtain ⟨hP, hD, hK⟩ := kJ (wr := [(ti, .inl (cti, 2, .inl tf)), (si, .inl (csi, 2, .inl sf))]) (w1 := [(mo, .inr (19, [.int 0, .int 0, .int 0, .int 0, .int 0, .int 0, .int 0, .ref ti, .ref si, .ref lo, .ref lh, .ref lk, .ref sp, .ref st, .ref pa, .ref br, .ref sg, .int mi, .int 0, .int 0, .int 0, .int fo, .int 0, .long pe, .long pn, .long (re + 0), .long (rn + 0), .int th])), (lh, .inr (3, [.int 0, .ref (z 0), .int 0]))]) (t1 := []) hP hD hK [2, 3] [0, 1] rfl rfl (by decide) (by decide) hk1 hFc ht hvm hB
        generalize H1 = H at hP hS ⊢
        have hP : va_P (dC, dI) vwCl [(ti, .inl (cti, 2, .inl tf)), (si, .inl (csi, 2, .inl sf)), (mo, .inr (19, [.int 0, .int 0, .int 0, .int 0, .int 0, .int 0, .int 0, .ref ti, .ref si, .ref lo, .ref lh, .ref lk, .ref sp, .ref st, .ref pa, .ref br, .ref sg, .int mi, .int 0, .int 0, .int 0, .int fo, .int 0, .long pe, .long pn, .long (re + 0), .long (rn + 0), .int th])), (lh, .inr (3, [.int 0, .ref (z 0), .int 0]))] H := hP
        have hD : va_D A [(ti, .inl (cti, 2, .inl tf)), (si, .inl (csi, 2, .inl sf)), (mo, .inr (19, [.int 0, .int 0, .int 0, .int 0, .int 0, .int 0, .int 0, .ref ti, .ref si, .ref lo, .ref lh, .ref lk, .ref sp, .ref st, .ref pa, .ref br, .ref sg, .int mi, .int 0, .int 0, .int 0, .int fo, .int 0, .long pe, .long pn, .long (re + 0), .long (rn + 0), .int th])), (lh, .inr (3, [.int 0, .ref (z 0), .int 0]))] := hD
        have hK : va_K (dC, dI) vwCl [(cti, .int), (csi, .int)] s := hK
        obtain rfl : 0 = r14 := hw
        refine lv_istore_n (lv' := [(2, .int 0), (1, .int 0), (0, .ref mo)]) hx hb dX15_tell_193 rfl hl (by decide) rfl (fun ls hl => ?_)
        refine lv_iconst (v := 0) hx hb dX15_tell_194 (by decide) ?_
        refine lv_istore_n (lv' := [(3, .int 0), (2, .int 0), (1, .int 0), (0, .ref mo)]) hx hb dX15_tell_195 rfl hl (by decide) rfl (fun ls hl => ?_)
        refine lv_iload_n hx hb dX15_tell_196 rfl (lv_at hl 0 rfl) ?_
        refine lv_iconst (v := 2) hx hb dX15_tell_197 (by decide) ?_
        refine lv_icmp_ge (tgt := 249) hx hb dX15_tell_198 (by decide) (fun c_ => absurd c_ (by decide +kernel)) (fun _ => ?_)
        refine lv_aload_n hx hb dX15_tell_201 rfl (lv_at hl 3 rfl) ?_
        refine va_get (D := (dC, dI)) (ci := 19) (v := .ref si) (C := RX15) (T := TX15) (N := 28) hx hb hts hiX15 hown hK hP 2 rfl rfl 8 (by decide) (hts (.fieldLink RX15 13 "SquareRigModel" "sick" "[I") (by decide +kernel)) (fun _ h9 => h9) rfl dX15_tell_202 ?_
        refine lv_iload_n hx hb dX15_tell_205 rfl (lv_at hl 0 rfl) ?_
        refine lv_iload_n hx hb dX15_tell_206 rfl (lv_at hl 2 rfl) ?_
        refine lv_if_eq (tgt := 229) hx hb dX15_tell_207 (by decide) (fun _ => ?_) (fun c_ => absurd (by decide +kernel) c_)
        refine lv_bipush (v := 12) hx hb dX15_tell_229 (by decide) ?_
        refine lv_aload_n hx hb dX15_tell_231 rfl (lv_at hl 3 rfl) ?_
        refine va_get (D := (dC, dI)) (ci := 19) (v := .ref si) (C := RX15) (T := TX15) (N := 28) hx hb hts hiX15 hown hK hP 2 rfl rfl 8 (by decide) (hts (.fieldLink RX15 13 "SquareRigModel" "sick" "[I") (by decide +kernel)) (fun _ h9 => h9) rfl dX15_tell_232 ?_
        refine lv_iload_n hx hb dX15_tell_235 rfl (lv_at hl 0 rfl) ?_
        refine va_iald hx hb hK hP 1 1 rfl rfl (pk_in 0 2 (by decide) rfl) dX15_tell_236 ?_
        refine kc_v (y := .int (sf 0)) rfl ?_
        refine lv_iconst (v := 1) hx hb dX15_tell_237 (by decide) ?_
        refine lv_iadd hx hb dX15_tell_238 ?_
        refine va_mmin hx hb (hml.trans hl.1.symm) hown (hts (.methodLink RX15 75 Lib.Math.min.name) (by decide +kernel)) (hts (.static Lib.Math.min.name) (by decide +kernel)) (hts (.initialized "java/lang/Math") (by decide +kernel)) (hts (.code Lib.Math.min.name Lib.Math.min.code 2 (some .int)) (by decide +kernel)) (Nat.le_of_ble_eq_true rfl) (Nat.le_of_ble_eq_true rfl) (Nat.le_of_ble_eq_true rfl) (Nat.le_of_ble_eq_true rfl) dX15_tell_239 ?_
        refine va_iast hx hb hK hP hD hS 1 1 rfl rfl (pk_in 0 2 (by decide) rfl) dX15_tell_242 (fun H locs hP hD hS => ?_)
        have hP : va_P (dC, dI) vwCl [(ti, .inl (cti, 2, .inl tf)), (si, .inl (csi, 2, .inl (upd sf 0 (if ((sf 0) + 1) < 12 then ((sf 0) + 1) else 12)))), (mo, .inr (19, [.int 0, .int 0, .int 0, .int 0, .int 0, .int 0, .int 0, .ref ti, .ref si, .ref lo, .ref lh, .ref lk, .ref sp, .ref st, .ref pa, .ref br, .ref sg, .int mi, .int 0, .int 0, .int 0, .int fo, .int 0, .long pe, .long pn, .long (re + 0), .long (rn + 0), .int th])), (lh, .inr (3, [.int 0, .ref (z 0), .int 0]))] H := hP
        have hD : va_D A [(ti, .inl (cti, 2, .inl tf)), (si, .inl (csi, 2, .inl (upd sf 0 (if ((sf 0) + 1) < 12 then ((sf 0) + 1) else 12)))), (mo, .inr (19, [.int 0, .int 0, .int 0, .int 0, .int 0, .int 0, .int 0, .ref ti, .ref si, .ref lo, .ref lh, .ref lk, .ref sp, .ref st, .ref pa, .ref br, .ref sg, .int mi, .int 0, .int 0, .int 0, .int fo, .int 0, .long pe, .long pn, .long (re + 0), .long (rn + 0), .int th])), (lh, .inr (3, [.int 0, .ref (z 0), .int 0]))] := hD
        refine lv_iinc (v := 1) (lv' := [(3, .int 1), (2, .int 0), (1, .int 0), (0, .ref mo)]) hx hb dX15_tell_243 hl (k := 0) rfl (by decide +kernel) (by decide) rfl (fun ls hl => ?_)
        refine lv_goto (tgt := 196) hx hb dX15_tell_246 (by decide) ?_
        refine lv_iload_n hx hb dX15_tell_196 rfl (lv_at hl 0 rfl) ?_
        refine lv_iconst (v := 2) hx hb dX15_tell_197 (by decide) ?_
        refine lv_icmp_ge (tgt := 249) hx hb dX15_tell_198 (by decide) (fun c_ => absurd c_ (by decide +kernel)) (fun _ => ?_)
        refine lv_aload_n hx hb dX15_tell_201 rfl (lv_at hl 3 rfl) ?_
        refine va_get (D := (dC, dI)) (ci := 19) (v := .ref si) (C := RX15) (T := TX15) (N := 28) hx hb hts hiX15 hown hK hP 2 rfl rfl 8 (by decide) (hts (.fieldLink RX15 13 "SquareRigModel" "sick" "[I") (by decide +kernel)) (fun _ h9 => h9) rfl dX15_tell_202 ?_
        refine lv_iload_n hx hb dX15_tell_205 rfl (lv_at hl 0 rfl) ?_
        refine lv_iload_n hx hb dX15_tell_206 rfl (lv_at hl 2 rfl) ?_
        refine lv_if_eq (tgt := 229) hx hb dX15_tell_207 (by decide) (fun _ => ?_) (fun c_ => absurd (by decide +kernel) c_)
        refine lv_bipush (v := 12) hx hb dX15_tell_229 (by decide) ?_
        refine lv_aload_n hx hb dX15_tell_231 rfl (lv_at hl 3 rfl) ?_
        refine va_get (D := (dC, dI)) (ci := 19) (v := .ref si) (C := RX15) (T := TX15) (N := 28) hx hb hts hiX15 hown hK hP 2 rfl rfl 8 (by decide) (hts (.fieldLink RX15 13 "SquareRigModel" "sick" "[I") (by decide +kernel)) (fun _ h9 => h9) rfl dX15_tell_232 ?_
        refine lv_iload_n hx hb dX15_tell_235 rfl (lv_at hl 0 rfl) ?_
        refine va_iald hx hb hK hP 1 1 rfl rfl (pk_in 1 2 (by decide) rfl) dX15_tell_236 ?_
        refine kc_v (y := .int (sf 1)) rfl ?_
        refine lv_iconst (v := 1) hx hb dX15_tell_237 (by decide) ?_
        refine lv_iadd hx hb dX15_tell_238 ?_
        refine va_mmin hx hb (hml.trans hl.1.symm) hown (hts (.methodLink RX15 75 Lib.Math.min.name) (by decide +kernel)) (hts (.static Lib.Math.min.name) (by decide +kernel)) (hts (.initialized "java/lang/Math") (by decide +kernel)) (hts (.code Lib.Math.min.name Lib.Math.min.code 2 (some .int)) (by decide +kernel)) (Nat.le_of_ble_eq_true rfl) (Nat.le_of_ble_eq_true rfl) (Nat.le_of_ble_eq_true rfl) (Nat.le_of_ble_eq_true rfl) dX15_tell_239 ?_
        refine va_iast hx hb hK hP hD hS 1 1 rfl rfl (pk_in 1 2 (by decide) rfl) dX15_tell_242 (fun H locs hP hD hS => ?_)
        have hP : va_P (dC, dI) vwCl [(ti, .inl (cti, 2, .inl tf)), (si, .inl (csi, 2, .inl (upd (upd sf 0 (if ((sf 0) + 1) < 12 then ((sf 0) + 1) else 12)) 1 (if ((sf 1) + 1) < 12 then ((sf 1) + 1) else 12)))), (mo, .inr (19, [.int 0, .int 0, .int 0, .int 0, .int 0, .int 0, .int 0, .ref ti, .ref si, .ref lo, .ref lh, .ref lk, .ref sp, .ref st, .ref pa, .ref br, .ref sg, .int mi, .int 0, .int 0, .int 0, .int fo, .int 0, .long pe, .long pn, .long (re + 0), .long (rn + 0), .int th])), (lh, .inr (3, [.int 0, .ref (z 0), .int 0]))] H := hP
        have hD : va_D A [(ti, .inl (cti, 2, .inl tf)), (si, .inl (csi, 2, .inl (upd (upd sf 0 (if ((sf 0) + 1) < 12 then ((sf 0) + 1) else 12)) 1 (if ((sf 1) + 1) < 12 then ((sf 1) + 1) else 12)))), (mo, .inr (19, [.int 0, .int 0, .int 0, .int 0, .int 0, .int 0, .int 0, .ref ti, .ref si, .ref lo, .ref lh, .ref lk, .ref sp, .ref st, .ref pa, .ref br, .ref sg, .int mi, .int 0, .int 0, .int 0, .int fo, .int 0, .long pe, .long pn, .long (re + 0), .long (rn + 0), .int th])), (lh, .inr (3, [.int 0, .ref (z 0), .int 0]))] := hD
        refine lv_iinc (v := 2) (lv' := [(3, .int 2), (2, .int 0), (1, .int 0), (0, .ref mo)]) hx hb dX15_tell_243 hl (k := 0) rfl (by decide +kernel) (by decide) rfl (fun ls hl => ?_)
        refine lv_goto (tgt := 196) hx hb dX15_tell_246 (by decide) ?_
        refine lv_iload_n hx hb dX15_tell_196 rfl (lv_at hl 0 rfl) ?_
        refine lv_iconst (v := 2) hx hb dX15_tell_197 (by decide) ?_
        refine lv_icmp_ge (tgt := 249) hx hb dX15_tell_198 (by decide) (fun _ => ?_) (fun c_ => absurd (by decide +kernel) c_)
        refine lv_aload_n hx hb dX15_tell_249 rfl (lv_at hl 3 rfl) ?_
        refine lv_dup hx hb dX15_tell_250 rfl ?_
        refine va_get (D := (dC, dI)) (ci := 19) (v := .int fo) (C := RX15) (T := TX15) (N := 28) hx hb hts hiX15 hown hK hP 2 rfl rfl 21 (by decide) (hts (.fieldLink RX15 262 "SquareRigModel" "foul" "I") (by decide +kernel)) (fun _ h9 => h9) rfl dX15_tell_251 ?_
        refine lv_iconst (v := 1) hx hb dX15_tell_254 (by decide) ?_
        refine lv_iadd hx hb dX15_tell_255 ?_
        refine va_put (D := (dC, dI)) (ci := 19) (v := .int (fo + 1)) (ty := .int) (C := RX15) (T := TX15) (N := 28) hx hb hts hiX15 tyX15 tyX15_ok nmX15 hown hK hP hD hS 2 rfl rfl 21 (by decide) (hts (.fieldLink RX15 262 "SquareRigModel" "foul" "I") (by decide +kernel)) (fun _ h9 => h9) rfl (by decide +kernel) rfl rfl (Nat.le_of_ble_eq_true rfl) dX15_tell_256 (fun H locs hP hD hS => ?_)
        have hP : va_P (dC, dI) vwCl [(ti, .inl (cti, 2, .inl tf)), (si, .inl (csi, 2, .inl (upd (upd sf 0 (if ((sf 0) + 1) < 12 then ((sf 0) + 1) else 12)) 1 (if ((sf 1) + 1) < 12 then ((sf 1) + 1) else 12)))), (mo, .inr (19, [.int 0, .int 0, .int 0, .int 0, .int 0, .int 0, .int 0, .ref ti, .ref si, .ref lo, .ref lh, .ref lk, .ref sp, .ref st, .ref pa, .ref br, .ref sg, .int mi, .int 0, .int 0, .int 0, .int (fo + 1), .int 0, .long pe, .long pn, .long (re + 0), .long (rn + 0), .int th])), (lh, .inr (3, [.int 0, .ref (z 0), .int 0]))] H := hP
        have hD : va_D A [(ti, .inl (cti, 2, .inl tf)), (si, .inl (csi, 2, .inl (upd (upd sf 0 (if ((sf 0) + 1) < 12 then ((sf 0) + 1) else 12)) 1 (if ((sf 1) + 1) < 12 then ((sf 1) + 1) else 12)))), (mo, .inr (19, [.int 0, .int 0, .int 0, .int 0, .int 0, .int 0, .int 0, .ref ti, .ref si, .ref lo, .ref lh, .ref lk, .ref sp, .ref st, .ref pa, .ref br, .ref sg, .int mi, .int 0, .int 0, .int 0, .int (fo + 1), .int 0, .long pe, .long pn, .long (re + 0), .long (rn + 0), .int th])), (lh, .inr (3, [.int 0, .ref (z 0), .int 0]))] := hD
        exact W.vret hx hb hr (fun t ht hW => ⟨⟨(), rfl, trivial, ⟨0, (fo + 1), (re + 0), (rn + 0), tf, (upd (upd sf 0 (if ((sf 0) + 1) < 12 then ((sf 0) + 1) else 12)) 1 (if ((sf 1) + 1) < 12 then ((sf 1) + 1) else 12)), (Or.inl rfl), (Or.inr rfl), kB_end (w9 := [(mo, .inr (19, [.int 0, .int 0, .int 0, .int 0, .int 0, .int 0, .int 0, .ref ti, .ref si, .ref lo, .ref lh, .ref lk, .ref sp, .ref st, .ref pa, .ref br, .ref sg, .int mi, .int 0, .int 0, .int 0, .int (fo + 1), .int 0, .long pe, .long pn, .long (re + 0), .long (rn + 0), .int th])), (ti, .inl (cti, 2, .inl tf)), (si, .inl (csi, 2, .inl (upd (upd sf 0 (if ((sf 0) + 1) < 12 then ((sf 0) + 1) else 12)) 1 (if ((sf 1) + 1) < 12 then ((sf 1) + 1) else 12)))), (lh, .inr (3, [.int 0, .ref (z 0), .int 0]))]) (t9 := []) hP hK hD [2, 0, 1, 3] [] rfl (by decide) rfl rfl t ht hW⟩⟩, hS.F ht⟩) hS.2.2 dX15_tell_259
    · skip
      refine lv_aload_n hx hb dX15_tell_76 rfl (lv_at hl 1 rfl) ?_
      refine va_get (D := (dC, dI)) (ci := 19) (v := .ref ti) (C := RX15) (T := TX15) (N := 28) hx hb hts hiX15 hown hK hP 0 rfl rfl 7 (by decide) (hts (.fieldLink RX15 7 "SquareRigModel" "tired" "[I") (by decide +kernel)) (fun _ h9 => h9) rfl dX15_tell_77 ?_
      refine lv_aload_n hx hb dX15_tell_80 rfl (lv_at hl 1 rfl) ?_
      refine va_get (D := (dC, dI)) (ci := 19) (v := .int 0) (C := RX15) (T := TX15) (N := 28) hx hb hts hiX15 hown hK hP 0 rfl rfl 6 (by decide) (hts (.fieldLink RX15 199 "SquareRigModel" "turn" "I") (by decide +kernel)) (fun _ h9 => h9) rfl dX15_tell_81 ?_
      refine lv_bipush (v := 60) hx hb dX15_tell_84 (by decide) ?_
      refine lv_aload_n hx hb dX15_tell_86 rfl (lv_at hl 1 rfl) ?_
      refine va_get (D := (dC, dI)) (ci := 19) (v := .ref ti) (C := RX15) (T := TX15) (N := 28) hx hb hts hiX15 hown hK hP 0 rfl rfl 7 (by decide) (hts (.fieldLink RX15 7 "SquareRigModel" "tired" "[I") (by decide +kernel)) (fun _ h9 => h9) rfl dX15_tell_87 ?_
      refine lv_aload_n hx hb dX15_tell_90 rfl (lv_at hl 1 rfl) ?_
      refine va_get (D := (dC, dI)) (ci := 19) (v := .int 0) (C := RX15) (T := TX15) (N := 28) hx hb hts hiX15 hown hK hP 0 rfl rfl 6 (by decide) (hts (.fieldLink RX15 199 "SquareRigModel" "turn" "I") (by decide +kernel)) (fun _ h9 => h9) rfl dX15_tell_91 ?_
      refine va_iald hx hb hK hP 1 0 rfl rfl (pk_in 0 2 (by decide) rfl) dX15_tell_94 ?_
      refine kc_v (y := .int (tf 0)) rfl ?_
      refine lv_iconst (v := 5) hx hb dX15_tell_95 (by decide) ?_
      refine lv_iadd hx hb dX15_tell_96 ?_
      refine va_mmin hx hb (hml.trans hl.1.symm) hown (hts (.methodLink RX15 75 Lib.Math.min.name) (by decide +kernel)) (hts (.static Lib.Math.min.name) (by decide +kernel)) (hts (.initialized "java/lang/Math") (by decide +kernel)) (hts (.code Lib.Math.min.name Lib.Math.min.code 2 (some .int)) (by decide +kernel)) (Nat.le_of_ble_eq_true rfl) (Nat.le_of_ble_eq_true rfl) (Nat.le_of_ble_eq_true rfl) (Nat.le_of_ble_eq_true rfl) dX15_tell_97 ?_
      refine va_iast hx hb hK hP hD hS 1 0 rfl rfl (pk_in 0 2 (by decide) rfl) dX15_tell_100 (fun H locs hP hD hS => ?_)
      have hP : va_P (dC, dI) vwCl [(mo, .inr (19, [.int 0, .int 0, .int 0, .int 0, .int 0, .int 0, .int 0, .ref ti, .ref si, .ref lo, .ref lh, .ref lk, .ref sp, .ref st, .ref pa, .ref br, .ref sg, .int mi, .int 0, .int 0, .int 0, .int fo, .int 0, .long pe, .long pn, .long (re + 0), .long (rn + 0), .int th])), (ti, .inl (cti, 2, .inl (upd tf 0 (if ((tf 0) + 5) < 60 then ((tf 0) + 5) else 60)))), (si, .inl (csi, 2, .inl sf)), (lh, .inr (3, [.int 0, .ref (z 0), .int 0]))] H := hP
      have hD : va_D A [(mo, .inr (19, [.int 0, .int 0, .int 0, .int 0, .int 0, .int 0, .int 0, .ref ti, .ref si, .ref lo, .ref lh, .ref lk, .ref sp, .ref st, .ref pa, .ref br, .ref sg, .int mi, .int 0, .int 0, .int 0, .int fo, .int 0, .long pe, .long pn, .long (re + 0), .long (rn + 0), .int th])), (ti, .inl (cti, 2, .inl (upd tf 0 (if ((tf 0) + 5) < 60 then ((tf 0) + 5) else 60)))), (si, .inl (csi, 2, .inl sf)), (lh, .inr (3, [.int 0, .ref (z 0), .int 0]))] := hD
      refine lv_aload_n hx hb dX15_tell_101 rfl (lv_at hl 1 rfl) ?_
      refine va_get (D := (dC, dI)) (ci := 19) (v := .ref ti) (C := RX15) (T := TX15) (N := 28) hx hb hts hiX15 hown hK hP 0 rfl rfl 7 (by decide) (hts (.fieldLink RX15 7 "SquareRigModel" "tired" "[I") (by decide +kernel)) (fun _ h9 => h9) rfl dX15_tell_102 ?_
      refine lv_iconst (v := 1) hx hb dX15_tell_105 (by decide) ?_
      refine lv_aload_n hx hb dX15_tell_106 rfl (lv_at hl 1 rfl) ?_
      refine va_get (D := (dC, dI)) (ci := 19) (v := .int 0) (C := RX15) (T := TX15) (N := 28) hx hb hts hiX15 hown hK hP 0 rfl rfl 6 (by decide) (hts (.fieldLink RX15 199 "SquareRigModel" "turn" "I") (by decide +kernel)) (fun _ h9 => h9) rfl dX15_tell_107 ?_
      refine lv_isub hx hb dX15_tell_110 ?_
      refine kc_i (y := 1) (by decide +kernel) ?_
      refine lv_aload_n hx hb dX15_tell_111 rfl (lv_at hl 1 rfl) ?_
      refine va_get (D := (dC, dI)) (ci := 19) (v := .int 0) (C := RX15) (T := TX15) (N := 28) hx hb hts hiX15 hown hK hP 0 rfl rfl 5 (by decide) (hts (.fieldLink RX15 195 "SquareRigModel" "areAll" "Z") (by decide +kernel)) (fun _ h9 => h9) rfl dX15_tell_112 ?_
      refine lv_if_eq (tgt := 139) hx hb dX15_tell_115 (by decide) (fun _ => ?_) (fun c_ => absurd (by decide +kernel) c_)
      refine lv_iconst (v := 0) hx hb dX15_tell_139 (by decide) ?_
      refine lv_aload_n hx hb dX15_tell_140 rfl (lv_at hl 1 rfl) ?_
      refine va_get (D := (dC, dI)) (ci := 19) (v := .ref ti) (C := RX15) (T := TX15) (N := 28) hx hb hts hiX15 hown hK hP 0 rfl rfl 7 (by decide) (hts (.fieldLink RX15 7 "SquareRigModel" "tired" "[I") (by decide +kernel)) (fun _ h9 => h9) rfl dX15_tell_141 ?_
      refine lv_iconst (v := 1) hx hb dX15_tell_144 (by decide) ?_
      refine lv_aload_n hx hb dX15_tell_145 rfl (lv_at hl 1 rfl) ?_
      refine va_get (D := (dC, dI)) (ci := 19) (v := .int 0) (C := RX15) (T := TX15) (N := 28) hx hb hts hiX15 hown hK hP 0 rfl rfl 6 (by decide) (hts (.fieldLink RX15 199 "SquareRigModel" "turn" "I") (by decide +kernel)) (fun _ h9 => h9) rfl dX15_tell_146 ?_
      refine lv_isub hx hb dX15_tell_149 ?_
      refine kc_i (y := 1) (by decide +kernel) ?_
      refine va_iald hx hb hK hP 1 0 rfl rfl (pk_in 1 2 (by decide) rfl) dX15_tell_150 ?_
      refine kc_v (y := .int (tf 1)) rfl ?_
      refine lv_iconst (v := 5) hx hb dX15_tell_151 (by decide) ?_
      refine lv_isub hx hb dX15_tell_152 ?_
      refine va_mmax hx hb (hml.trans hl.1.symm) hown (hts (.methodLink RX15 102 Lib.Math.max.name) (by decide +kernel)) (hts (.static Lib.Math.max.name) (by decide +kernel)) (hts (.initialized "java/lang/Math") (by decide +kernel)) (hts (.code Lib.Math.max.name Lib.Math.max.code 2 (some .int)) (by decide +kernel)) (Nat.le_of_ble_eq_true rfl) (Nat.le_of_ble_eq_true rfl) (Nat.le_of_ble_eq_true rfl) (Nat.le_of_ble_eq_true rfl) dX15_tell_153 ?_
      refine va_iast hx hb hK hP hD hS 1 0 rfl rfl (pk_in 1 2 (by decide) rfl) dX15_tell_156 (fun H locs hP hD hS => ?_)
      have hP : va_P (dC, dI) vwCl [(mo, .inr (19, [.int 0, .int 0, .int 0, .int 0, .int 0, .int 0, .int 0, .ref ti, .ref si, .ref lo, .ref lh, .ref lk, .ref sp, .ref st, .ref pa, .ref br, .ref sg, .int mi, .int 0, .int 0, .int 0, .int fo, .int 0, .long pe, .long pn, .long (re + 0), .long (rn + 0), .int th])), (ti, .inl (cti, 2, .inl (upd (upd tf 0 (if ((tf 0) + 5) < 60 then ((tf 0) + 5) else 60)) 1 (if 0 < ((tf 1) - 5) then ((tf 1) - 5) else 0)))), (si, .inl (csi, 2, .inl sf)), (lh, .inr (3, [.int 0, .ref (z 0), .int 0]))] H := hP
      have hD : va_D A [(mo, .inr (19, [.int 0, .int 0, .int 0, .int 0, .int 0, .int 0, .int 0, .ref ti, .ref si, .ref lo, .ref lh, .ref lk, .ref sp, .ref st, .ref pa, .ref br, .ref sg, .int mi, .int 0, .int 0, .int 0, .int fo, .int 0, .long pe, .long pn, .long (re + 0), .long (rn + 0), .int th])), (ti, .inl (cti, 2, .inl (upd (upd tf 0 (if ((tf 0) + 5) < 60 then ((tf 0) + 5) else 60)) 1 (if 0 < ((tf 1) - 5) then ((tf 1) - 5) else 0)))), (si, .inl (csi, 2, .inl sf)), (lh, .inr (3, [.int 0, .ref (z 0), .int 0]))] := hD
      refine lv_aload_n hx hb dX15_tell_157 rfl (lv_at hl 1 rfl) ?_
      refine lv_iconst (v := 1) hx hb dX15_tell_158 (by decide) ?_
      refine lv_aload_n hx hb dX15_tell_159 rfl (lv_at hl 1 rfl) ?_
      refine va_get (D := (dC, dI)) (ci := 19) (v := .int 0) (C := RX15) (T := TX15) (N := 28) hx hb hts hiX15 hown hK hP 0 rfl rfl 6 (by decide) (hts (.fieldLink RX15 199 "SquareRigModel" "turn" "I") (by decide +kernel)) (fun _ h9 => h9) rfl dX15_tell_160 ?_
      refine lv_isub hx hb dX15_tell_163 ?_
      refine kc_i (y := 1) (by decide +kernel) ?_
      refine va_put (D := (dC, dI)) (ci := 19) (v := .int 1) (ty := .int) (C := RX15) (T := TX15) (N := 28) hx hb hts hiX15 tyX15 tyX15_ok nmX15 hown hK hP hD hS 0 rfl rfl 6 (by decide) (hts (.fieldLink RX15 199 "SquareRigModel" "turn" "I") (by decide +kernel)) (fun _ h9 => h9) rfl (by decide +kernel) rfl rfl (Nat.le_of_ble_eq_true rfl) dX15_tell_164 (fun H locs hP hD hS => ?_)
      have hP : va_P (dC, dI) vwCl [(mo, .inr (19, [.int 0, .int 0, .int 0, .int 0, .int 0, .int 0, .int 1, .ref ti, .ref si, .ref lo, .ref lh, .ref lk, .ref sp, .ref st, .ref pa, .ref br, .ref sg, .int mi, .int 0, .int 0, .int 0, .int fo, .int 0, .long pe, .long pn, .long (re + 0), .long (rn + 0), .int th])), (ti, .inl (cti, 2, .inl (upd (upd tf 0 (if ((tf 0) + 5) < 60 then ((tf 0) + 5) else 60)) 1 (if 0 < ((tf 1) - 5) then ((tf 1) - 5) else 0)))), (si, .inl (csi, 2, .inl sf)), (lh, .inr (3, [.int 0, .ref (z 0), .int 0]))] H := hP
      have hD : va_D A [(mo, .inr (19, [.int 0, .int 0, .int 0, .int 0, .int 0, .int 0, .int 1, .ref ti, .ref si, .ref lo, .ref lh, .ref lk, .ref sp, .ref st, .ref pa, .ref br, .ref sg, .int mi, .int 0, .int 0, .int 0, .int fo, .int 0, .long pe, .long pn, .long (re + 0), .long (rn + 0), .int th])), (ti, .inl (cti, 2, .inl (upd (upd tf 0 (if ((tf 0) + 5) < 60 then ((tf 0) + 5) else 60)) 1 (if 0 < ((tf 1) - 5) then ((tf 1) - 5) else 0)))), (si, .inl (csi, 2, .inl sf)), (lh, .inr (3, [.int 0, .ref (z 0), .int 0]))] := hD
      refine lv_aload_n hx hb dX15_tell_167 rfl (lv_at hl 1 rfl) ?_
      refine va_get (D := (dC, dI)) (ci := 19) (v := .int mi) (C := RX15) (T := TX15) (N := 28) hx hb hts hiX15 hown hK hP 0 rfl rfl 17 (by decide) (hts (.fieldLink RX15 163 "SquareRigModel" "minute" "I") (by decide +kernel)) (fun _ h9 => h9) rfl dX15_tell_168 ?_
      refine lv_sipush (v := 1440) hx hb dX15_tell_171 (by decide) ?_
      refine lv_irem hx hb dX15_tell_174 (by decide +kernel) ?_
      refine lv_if_ne (tgt := 259) hx hb dX15_tell_175 (by decide) (fun c15 => ?_) (fun c15 => ?_)
      · skip
        exact W.vret hx hb hr (fun t ht hW => ⟨⟨(), rfl, trivial, ⟨1, fo, (re + 0), (rn + 0), (upd (upd tf 0 (if ((tf 0) + 5) < 60 then ((tf 0) + 5) else 60)) 1 (if 0 < ((tf 1) - 5) then ((tf 1) - 5) else 0)), sf, (Or.inr rfl), (Or.inl rfl), kB_end (w9 := [(mo, .inr (19, [.int 0, .int 0, .int 0, .int 0, .int 0, .int 0, .int 1, .ref ti, .ref si, .ref lo, .ref lh, .ref lk, .ref sp, .ref st, .ref pa, .ref br, .ref sg, .int mi, .int 0, .int 0, .int 0, .int fo, .int 0, .long pe, .long pn, .long (re + 0), .long (rn + 0), .int th])), (ti, .inl (cti, 2, .inl (upd (upd tf 0 (if ((tf 0) + 5) < 60 then ((tf 0) + 5) else 60)) 1 (if 0 < ((tf 1) - 5) then ((tf 1) - 5) else 0)))), (si, .inl (csi, 2, .inl sf)), (lh, .inr (3, [.int 0, .ref (z 0), .int 0]))]) (t9 := []) hP hK hD [0, 1, 2, 3] [] rfl (by decide) rfl rfl t ht hW⟩⟩, hS.F ht⟩) hS.2.2 dX15_tell_259
      · skip
        refine lv_aload_n hx hb dX15_tell_178 rfl (lv_at hl 1 rfl) ?_
        refine lv_iconst (v := 0) hx hb dX15_tell_179 (by decide) ?_
        refine lv_bipush (v := 24) hx hb dX15_tell_180 (by decide) ?_
        have hPc := hP.sub (ws' := [(mo, .inr (19, [.int 0, .int 0, .int 0, .int 0, .int 0, .int 0, .int 1, .ref ti, .ref si, .ref lo, .ref lh, .ref lk, .ref sp, .ref st, .ref pa, .ref br, .ref sg, .int mi, .int 0, .int 0, .int 0, .int fo, .int 0, .long pe, .long pn, .long (re + 0), .long (rn + 0), .int th])), (lh, .inr (3, [.int 0, .ref (z 0), .int 0]))]) [0, 3] rfl
        have hDc := hD.sub (ws' := [(mo, .inr (19, [.int 0, .int 0, .int 0, .int 0, .int 0, .int 0, .int 1, .ref ti, .ref si, .ref lo, .ref lh, .ref lk, .ref sp, .ref st, .ref pa, .ref br, .ref sg, .int mi, .int 0, .int 0, .int 0, .int fo, .int 0, .long pe, .long pn, .long (re + 0), .long (rn + 0), .int th])), (lh, .inr (3, [.int 0, .ref (z 0), .int 0]))]) [0, 3] (by decide) rfl
        have hKc := hK.sub (tys' := []) [] rfl
        have hFc := va_free (wc := [(mo, .inr (19, [.int 0, .int 0, .int 0, .int 0, .int 0, .int 0, .int 1, .ref ti, .ref si, .ref lo, .ref lh, .ref lk, .ref sp, .ref st, .ref pa, .ref br, .ref sg, .int mi, .int 0, .int 0, .int 0, .int fo, .int 0, .long pe, .long pn, .long (re + 0), .long (rn + 0), .int th])), (lh, .inr (3, [.int 0, .ref (z 0), .int 0]))]) hD hS hA [0, 3] rfl
        refine va_calli (va_runV (As := [.int 0, .int 24]) (rest := []) ⟨hx, hb, hml, hown, hts⟩ (k_mtake0 l dC dI z zK zV mi fo pe pn (re + 0) (rn + 0) mo ti si lo lh lk sp st pa br sg th 1 H.size) (cwV 2 hts gX15_tell_X15_take rfl rfl rfl (by decide +kernel) ⟨Nat.le_of_ble_eq_true rfl, Nat.le_of_ble_eq_true rfl⟩) ⟨kP_blind, va_recv hKc hPc (ci := 19) (q0 := 0) rfl rfl, kP_go hPc hKc hDc hFc hM hS⟩ rfl rfl hl.1 rfl (lv_room (Nat.le_of_ble_eq_true rfl)) dX15_tell_182 ⟨Nat.le_of_ble_eq_true rfl, Nat.le_of_ble_eq_true rfl⟩) hS (fun q _ h => hFc q h) hFc (fun r16 u t H1 locs ht hvm hw hB hz1 hk1 hS => ?_)
        obtain ⟨hP, hD, hK⟩ := kJ (wr := [(ti, .inl (cti, 2, .inl (upd (upd tf 0 (if ((tf 0) + 5) < 60 then ((tf 0) + 5) else 60)) 1 (if 0 < ((tf 1) - 5) then ((tf 1) - 5) else 0)))), (si, .inl (csi, 2, .inl sf))]) (w1 := [(mo, .inr (19, [.int 0, .int 0, .int 0, .int 0, .int 0, .int 0, .int 1, .ref ti, .ref si, .ref lo, .ref lh, .ref lk, .ref sp, .ref st, .ref pa, .ref br, .ref sg, .int mi, .int 0, .int 0, .int 0, .int fo, .int 0, .long pe, .long pn, .long (re + 0), .long (rn + 0), .int th])), (lh, .inr (3, [.int 0, .ref (z 0), .int 0]))]) (t1 := []) hP hD hK [0, 3] [1, 2] rfl rfl (by decide) (by decide) hk1 hFc ht hvm hB
        generalize H1 = H at hP hS ⊢
        have hP : va_P (dC, dI) vwCl [(ti, .inl (cti, 2, .inl (upd (upd tf 0 (if ((tf 0) + 5) < 60 then ((tf 0) + 5) else 60)) 1 (if 0 < ((tf 1) - 5) then ((tf 1) - 5) else 0)))), (si, .inl (csi, 2, .inl sf)), (mo, .inr (19, [.int 0, .int 0, .int 0, .int 0, .int 0, .int 0, .int 1, .ref ti, .ref si, .ref lo, .ref lh, .ref lk, .ref sp, .ref st, .ref pa, .ref br, .ref sg, .int mi, .int 0, .int 0, .int 0, .int fo, .int 0, .long pe, .long pn, .long (re + 0), .long (rn + 0), .int th])), (lh, .inr (3, [.int 0, .ref (z 0), .int 0]))] H := hP
        have hD : va_D A [(ti, .inl (cti, 2, .inl (upd (upd tf 0 (if ((tf 0) + 5) < 60 then ((tf 0) + 5) else 60)) 1 (if 0 < ((tf 1) - 5) then ((tf 1) - 5) else 0)))), (si, .inl (csi, 2, .inl sf)), (mo, .inr (19, [.int 0, .int 0, .int 0, .int 0, .int 0, .int 0, .int 1, .ref ti, .ref si, .ref lo, .ref lh, .ref lk, .ref sp, .ref st, .ref pa, .ref br, .ref sg, .int mi, .int 0, .int 0, .int 0, .int fo, .int 0, .long pe, .long pn, .long (re + 0), .long (rn + 0), .int th])), (lh, .inr (3, [.int 0, .ref (z 0), .int 0]))] := hD
        have hK : va_K (dC, dI) vwCl [(cti, .int), (csi, .int)] s := hK
        obtain rfl : 0 = r16 := hw
        refine lv_istore_n (lv' := [(1, .int 0), (0, .ref mo)]) hx hb dX15_tell_185 rfl hl (by decide) rfl (fun ls hl => ?_)
        refine lv_aload_n hx hb dX15_tell_186 rfl (lv_at hl 1 rfl) ?_
        refine lv_iconst (v := 1) hx hb dX15_tell_187 (by decide) ?_
        refine lv_bipush (v := 24) hx hb dX15_tell_188 (by decide) ?_
        have hPc := hP.sub (ws' := [(mo, .inr (19, [.int 0, .int 0, .int 0, .int 0, .int 0, .int 0, .int 1, .ref ti, .ref si, .ref lo, .ref lh, .ref lk, .ref sp, .ref st, .ref pa, .ref br, .ref sg, .int mi, .int 0, .int 0, .int 0, .int fo, .int 0, .long pe, .long pn, .long (re + 0), .long (rn + 0), .int th])), (lh, .inr (3, [.int 0, .ref (z 0), .int 0]))]) [2, 3] rfl
        have hDc := hD.sub (ws' := [(mo, .inr (19, [.int 0, .int 0, .int 0, .int 0, .int 0, .int 0, .int 1, .ref ti, .ref si, .ref lo, .ref lh, .ref lk, .ref sp, .ref st, .ref pa, .ref br, .ref sg, .int mi, .int 0, .int 0, .int 0, .int fo, .int 0, .long pe, .long pn, .long (re + 0), .long (rn + 0), .int th])), (lh, .inr (3, [.int 0, .ref (z 0), .int 0]))]) [2, 3] (by decide) rfl
        have hKc := hK.sub (tys' := []) [] rfl
        have hFc := va_free (wc := [(mo, .inr (19, [.int 0, .int 0, .int 0, .int 0, .int 0, .int 0, .int 1, .ref ti, .ref si, .ref lo, .ref lh, .ref lk, .ref sp, .ref st, .ref pa, .ref br, .ref sg, .int mi, .int 0, .int 0, .int 0, .int fo, .int 0, .long pe, .long pn, .long (re + 0), .long (rn + 0), .int th])), (lh, .inr (3, [.int 0, .ref (z 0), .int 0]))]) hD hS hA [2, 3] rfl
        refine va_calli (va_runV (As := [.int 1, .int 24]) (rest := []) ⟨hx, hb, hml, hown, hts⟩ (k_mtake1 l dC dI z zK zV mi fo pe pn (re + 0) (rn + 0) mo ti si lo lh lk sp st pa br sg th 1 H.size) (cwV 2 hts gX15_tell_X15_take rfl rfl rfl (by decide +kernel) ⟨Nat.le_of_ble_eq_true rfl, Nat.le_of_ble_eq_true rfl⟩) ⟨kP_blind, va_recv hKc hPc (ci := 19) (q0 := 0) rfl rfl, kP_go hPc hKc hDc hFc hM hS⟩ rfl rfl hl.1 rfl (lv_room (Nat.le_of_ble_eq_true rfl)) dX15_tell_190 ⟨Nat.le_of_ble_eq_true rfl, Nat.le_of_ble_eq_true rfl⟩) hS (fun q _ h => hFc q h) hFc (fun r17 u t H1 locs ht hvm hw hB hz1 hk1 hS => ?_)
        obtain ⟨hP, hD, hK⟩ := kJ (wr := [(ti, .inl (cti, 2, .inl (upd (upd tf 0 (if ((tf 0) + 5) < 60 then ((tf 0) + 5) else 60)) 1 (if 0 < ((tf 1) - 5) then ((tf 1) - 5) else 0)))), (si, .inl (csi, 2, .inl sf))]) (w1 := [(mo, .inr (19, [.int 0, .int 0, .int 0, .int 0, .int 0, .int 0, .int 1, .ref ti, .ref si, .ref lo, .ref lh, .ref lk, .ref sp, .ref st, .ref pa, .ref br, .ref sg, .int mi, .int 0, .int 0, .int 0, .int fo, .int 0, .long pe, .long pn, .long (re + 0), .long (rn + 0), .int th])), (lh, .inr (3, [.int 0, .ref (z 0), .int 0]))]) (t1 := []) hP hD hK [2, 3] [0, 1] rfl rfl (by decide) (by decide) hk1 hFc ht hvm hB
        generalize H1 = H at hP hS ⊢
        have hP : va_P (dC, dI) vwCl [(ti, .inl (cti, 2, .inl (upd (upd tf 0 (if ((tf 0) + 5) < 60 then ((tf 0) + 5) else 60)) 1 (if 0 < ((tf 1) - 5) then ((tf 1) - 5) else 0)))), (si, .inl (csi, 2, .inl sf)), (mo, .inr (19, [.int 0, .int 0, .int 0, .int 0, .int 0, .int 0, .int 1, .ref ti, .ref si, .ref lo, .ref lh, .ref lk, .ref sp, .ref st, .ref pa, .ref br, .ref sg, .int mi, .int 0, .int 0, .int 0, .int fo, .int 0, .long pe, .long pn, .long (re + 0), .long (rn + 0), .int th])), (lh, .inr (3, [.int 0, .ref (z 0), .int 0]))] H := hP
        have hD : va_D A [(ti, .inl (cti, 2, .inl (upd (upd tf 0 (if ((tf 0) + 5) < 60 then ((tf 0) + 5) else 60)) 1 (if 0 < ((tf 1) - 5) then ((tf 1) - 5) else 0)))), (si, .inl (csi, 2, .inl sf)), (mo, .inr (19, [.int 0, .int 0, .int 0, .int 0, .int 0, .int 0, .int 1, .ref ti, .ref si, .ref lo, .ref lh, .ref lk, .ref sp, .ref st, .ref pa, .ref br, .ref sg, .int mi, .int 0, .int 0, .int 0, .int fo, .int 0, .long pe, .long pn, .long (re + 0), .long (rn + 0), .int th])), (lh, .inr (3, [.int 0, .ref (z 0), .int 0]))] := hD
        have hK : va_K (dC, dI) vwCl [(cti, .int), (csi, .int)] s := hK
        obtain rfl : 0 = r17 := hw
        refine lv_istore_n (lv' := [(2, .int 0), (1, .int 0), (0, .ref mo)]) hx hb dX15_tell_193 rfl hl (by decide) rfl (fun ls hl => ?_)
        refine lv_iconst (v := 0) hx hb dX15_tell_194 (by decide) ?_
        refine lv_istore_n (lv' := [(3, .int 0), (2, .int 0), (1, .int 0), (0, .ref mo)]) hx hb dX15_tell_195 rfl hl (by decide) rfl (fun ls hl => ?_)
        refine lv_iload_n hx hb dX15_tell_196 rfl (lv_at hl 0 rfl) ?_
        refine lv_iconst (v := 2) hx hb dX15_tell_197 (by decide) ?_
        refine lv_icmp_ge (tgt := 249) hx hb dX15_tell_198 (by decide) (fun c_ => absurd c_ (by decide +kernel)) (fun _ => ?_)
        refine lv_aload_n hx hb dX15_tell_201 rfl (lv_at hl 3 rfl) ?_
        refine va_get (D := (dC, dI)) (ci := 19) (v := .ref si) (C := RX15) (T := TX15) (N := 28) hx hb hts hiX15 hown hK hP 2 rfl rfl 8 (by decide) (hts (.fieldLink RX15 13 "SquareRigModel" "sick" "[I") (by decide +kernel)) (fun _ h9 => h9) rfl dX15_tell_202 ?_
        refine lv_iload_n hx hb dX15_tell_205 rfl (lv_at hl 0 rfl) ?_
        refine lv_iload_n hx hb dX15_tell_206 rfl (lv_at hl 2 rfl) ?_
        refine lv_if_eq (tgt := 229) hx hb dX15_tell_207 (by decide) (fun _ => ?_) (fun c_ => absurd (by decide +kernel) c_)
        refine lv_bipush (v := 12) hx hb dX15_tell_229 (by decide) ?_
        refine lv_aload_n hx hb dX15_tell_231 rfl (lv_at hl 3 rfl) ?_
        refine va_get (D := (dC, dI)) (ci := 19) (v := .ref si) (C := RX15) (T := TX15) (N := 28) hx hb hts hiX15 hown hK hP 2 rfl rfl 8 (by decide) (hts (.fieldLink RX15 13 "SquareRigModel" "sick" "[I") (by decide +kernel)) (fun _ h9 => h9) rfl dX15_tell_232 ?_
        refine lv_iload_n hx hb dX15_tell_235 rfl (lv_at hl 0 rfl) ?_
        refine va_iald hx hb hK hP 1 1 rfl rfl (pk_in 0 2 (by decide) rfl) dX15_tell_236 ?_
        refine kc_v (y := .int (sf 0)) rfl ?_
        refine lv_iconst (v := 1) hx hb dX15_tell_237 (by decide) ?_
        refine lv_iadd hx hb dX15_tell_238 ?_
        refine va_mmin hx hb (hml.trans hl.1.symm) hown (hts (.methodLink RX15 75 Lib.Math.min.name) (by decide +kernel)) (hts (.static Lib.Math.min.name) (by decide +kernel)) (hts (.initialized "java/lang/Math") (by decide +kernel)) (hts (.code Lib.Math.min.name Lib.Math.min.code 2 (some .int)) (by decide +kernel)) (Nat.le_of_ble_eq_true rfl) (Nat.le_of_ble_eq_true rfl) (Nat.le_of_ble_eq_true rfl) (Nat.le_of_ble_eq_true rfl) dX15_tell_239 ?_
        refine va_iast hx hb hK hP hD hS 1 1 rfl rfl (pk_in 0 2 (by decide) rfl) dX15_tell_242 (fun H locs hP hD hS => ?_)
        have hP : va_P (dC, dI) vwCl [(ti, .inl (cti, 2, .inl (upd (upd tf 0 (if ((tf 0) + 5) < 60 then ((tf 0) + 5) else 60)) 1 (if 0 < ((tf 1) - 5) then ((tf 1) - 5) else 0)))), (si, .inl (csi, 2, .inl (upd sf 0 (if ((sf 0) + 1) < 12 then ((sf 0) + 1) else 12)))), (mo, .inr (19, [.int 0, .int 0, .int 0, .int 0, .int 0, .int 0, .int 1, .ref ti, .ref si, .ref lo, .ref lh, .ref lk, .ref sp, .ref st, .ref pa, .ref br, .ref sg, .int mi, .int 0, .int 0, .int 0, .int fo, .int 0, .long pe, .long pn, .long (re + 0), .long (rn + 0), .int th])), (lh, .inr (3, [.int 0, .ref (z 0), .int 0]))] H := hP
        have hD : va_D A [(ti, .inl (cti, 2, .inl (upd (upd tf 0 (if ((tf 0) + 5) < 60 then ((tf 0) + 5) else 60)) 1 (if 0 < ((tf 1) - 5) then ((tf 1) - 5) else 0)))), (si, .inl (csi, 2, .inl (upd sf 0 (if ((sf 0) + 1) < 12 then ((sf 0) + 1) else 12)))), (mo, .inr (19, [.int 0, .int 0, .int 0, .int 0, .int 0, .int 0, .int 1, .ref ti, .ref si, .ref lo, .ref lh, .ref lk, .ref sp, .ref st, .ref pa, .ref br, .ref sg, .int mi, .int 0, .int 0, .int 0, .int fo, .int 0, .long pe, .long pn, .long (re + 0), .long (rn + 0), .int th])), (lh, .inr (3, [.int 0, .ref (z 0), .int 0]))] := hD
        refine lv_iinc (v := 1) (lv' := [(3, .int 1), (2, .int 0), (1, .int 0), (0, .ref mo)]) hx hb dX15_tell_243 hl (k := 0) rfl (by decide +kernel) (by decide) rfl (fun ls hl => ?_)
        refine lv_goto (tgt := 196) hx hb dX15_tell_246 (by decide) ?_
        refine lv_iload_n hx hb dX15_tell_196 rfl (lv_at hl 0 rfl) ?_
        refine lv_iconst (v := 2) hx hb dX15_tell_197 (by decide) ?_
        refine lv_icmp_ge (tgt := 249) hx hb dX15_tell_198 (by decide) (fun c_ => absurd c_ (by decide +kernel)) (fun _ => ?_)
        refine lv_aload_n hx hb dX15_tell_201 rfl (lv_at hl 3 rfl) ?_
        refine va_get (D := (dC, dI)) (ci := 19) (v := .ref si) (C := RX15) (T := TX15) (N := 28) hx hb hts hiX15 hown hK hP 2 rfl rfl 8 (by decide) (hts (.fieldLink RX15 13 "SquareRigModel" "sick" "[I") (by decide +kernel)) (fun _ h9 => h9) rfl dX15_tell_202 ?_
        refine lv_iload_n hx hb dX15_tell_205 rfl (lv_at hl 0 rfl) ?_
        refine lv_iload_n hx hb dX15_tell_206 rfl (lv_at hl 2 rfl) ?_
        refine lv_if_eq (tgt := 229) hx hb dX15_tell_207 (by decide) (fun _ => ?_) (fun c_ => absurd (by decide +kernel) c_)
        refine lv_bipush (v := 12) hx hb dX15_tell_229 (by decide) ?_
        refine lv_aload_n hx hb dX15_tell_231 rfl (lv_at hl 3 rfl) ?_
        refine va_get (D := (dC, dI)) (ci := 19) (v := .ref si) (C := RX15) (T := TX15) (N := 28) hx hb hts hiX15 hown hK hP 2 rfl rfl 8 (by decide) (hts (.fieldLink RX15 13 "SquareRigModel" "sick" "[I") (by decide +kernel)) (fun _ h9 => h9) rfl dX15_tell_232 ?_
        refine lv_iload_n hx hb dX15_tell_235 rfl (lv_at hl 0 rfl) ?_
        refine va_iald hx hb hK hP 1 1 rfl rfl (pk_in 1 2 (by decide) rfl) dX15_tell_236 ?_
        refine kc_v (y := .int (sf 1)) rfl ?_
        refine lv_iconst (v := 1) hx hb dX15_tell_237 (by decide) ?_
        refine lv_iadd hx hb dX15_tell_238 ?_
        refine va_mmin hx hb (hml.trans hl.1.symm) hown (hts (.methodLink RX15 75 Lib.Math.min.name) (by decide +kernel)) (hts (.static Lib.Math.min.name) (by decide +kernel)) (hts (.initialized "java/lang/Math") (by decide +kernel)) (hts (.code Lib.Math.min.name Lib.Math.min.code 2 (some .int)) (by decide +kernel)) (Nat.le_of_ble_eq_true rfl) (Nat.le_of_ble_eq_true rfl) (Nat.le_of_ble_eq_true rfl) (Nat.le_of_ble_eq_true rfl) dX15_tell_239 ?_
        refine va_iast hx hb hK hP hD hS 1 1 rfl rfl (pk_in 1 2 (by decide) rfl) dX15_tell_242 (fun H locs hP hD hS => ?_)
        have hP : va_P (dC, dI) vwCl [(ti, .inl (cti, 2, .inl (upd (upd tf 0 (if ((tf 0) + 5) < 60 then ((tf 0) + 5) else 60)) 1 (if 0 < ((tf 1) - 5) then ((tf 1) - 5) else 0)))), (si, .inl (csi, 2, .inl (upd (upd sf 0 (if ((sf 0) + 1) < 12 then ((sf 0) + 1) else 12)) 1 (if ((sf 1) + 1) < 12 then ((sf 1) + 1) else 12)))), (mo, .inr (19, [.int 0, .int 0, .int 0, .int 0, .int 0, .int 0, .int 1, .ref ti, .ref si, .ref lo, .ref lh, .ref lk, .ref sp, .ref st, .ref pa, .ref br, .ref sg, .int mi, .int 0, .int 0, .int 0, .int fo, .int 0, .long pe, .long pn, .long (re + 0), .long (rn + 0), .int th])), (lh, .inr (3, [.int 0, .ref (z 0), .int 0]))] H := hP
        have hD : va_D A [(ti, .inl (cti, 2, .inl (upd (upd tf 0 (if ((tf 0) + 5) < 60 then ((tf 0) + 5) else 60)) 1 (if 0 < ((tf 1) - 5) then ((tf 1) - 5) else 0)))), (si, .inl (csi, 2, .inl (upd (upd sf 0 (if ((sf 0) + 1) < 12 then ((sf 0) + 1) else 12)) 1 (if ((sf 1) + 1) < 12 then ((sf 1) + 1) else 12)))), (mo, .inr (19, [.int 0, .int 0, .int 0, .int 0, .int 0, .int 0, .int 1, .ref ti, .ref si, .ref lo, .ref lh, .ref lk, .ref sp, .ref st, .ref pa, .ref br, .ref sg, .int mi, .int 0, .int 0, .int 0, .int fo, .int 0, .long pe, .long pn, .long (re + 0), .long (rn + 0), .int th])), (lh, .inr (3, [.int 0, .ref (z 0), .int 0]))] := hD
        refine lv_iinc (v := 2) (lv' := [(3, .int 2), (2, .int 0), (1, .int 0), (0, .ref mo)]) hx hb dX15_tell_243 hl (k := 0) rfl (by decide +kernel) (by decide) rfl (fun ls hl => ?_)
        refine lv_goto (tgt := 196) hx hb dX15_tell_246 (by decide) ?_
        refine lv_iload_n hx hb dX15_tell_196 rfl (lv_at hl 0 rfl) ?_
        refine lv_iconst (v := 2) hx hb dX15_tell_197 (by decide) ?_
        refine lv_icmp_ge (tgt := 249) hx hb dX15_tell_198 (by decide) (fun _ => ?_) (fun c_ => absurd (by decide +kernel) c_)
        refine lv_aload_n hx hb dX15_tell_249 rfl (lv_at hl 3 rfl) ?_
        refine lv_dup hx hb dX15_tell_250 rfl ?_
        refine va_get (D := (dC, dI)) (ci := 19) (v := .int fo) (C := RX15) (T := TX15) (N := 28) hx hb hts hiX15 hown hK hP 2 rfl rfl 21 (by decide) (hts (.fieldLink RX15 262 "SquareRigModel" "foul" "I") (by decide +kernel)) (fun _ h9 => h9) rfl dX15_tell_251 ?_
        refine lv_iconst (v := 1) hx hb dX15_tell_254 (by decide) ?_
        refine lv_iadd hx hb dX15_tell_255 ?_
        refine va_put (D := (dC, dI)) (ci := 19) (v := .int (fo + 1)) (ty := .int) (C := RX15) (T := TX15) (N := 28) hx hb hts hiX15 tyX15 tyX15_ok nmX15 hown hK hP hD hS 2 rfl rfl 21 (by decide) (hts (.fieldLink RX15 262 "SquareRigModel" "foul" "I") (by decide +kernel)) (fun _ h9 => h9) rfl (by decide +kernel) rfl rfl (Nat.le_of_ble_eq_true rfl) dX15_tell_256 (fun H locs hP hD hS => ?_)
        have hP : va_P (dC, dI) vwCl [(ti, .inl (cti, 2, .inl (upd (upd tf 0 (if ((tf 0) + 5) < 60 then ((tf 0) + 5) else 60)) 1 (if 0 < ((tf 1) - 5) then ((tf 1) - 5) else 0)))), (si, .inl (csi, 2, .inl (upd (upd sf 0 (if ((sf 0) + 1) < 12 then ((sf 0) + 1) else 12)) 1 (if ((sf 1) + 1) < 12 then ((sf 1) + 1) else 12)))), (mo, .inr (19, [.int 0, .int 0, .int 0, .int 0, .int 0, .int 0, .int 1, .ref ti, .ref si, .ref lo, .ref lh, .ref lk, .ref sp, .ref st, .ref pa, .ref br, .ref sg, .int mi, .int 0, .int 0, .int 0, .int (fo + 1), .int 0, .long pe, .long pn, .long (re + 0), .long (rn + 0), .int th])), (lh, .inr (3, [.int 0, .ref (z 0), .int 0]))] H := hP
        have hD : va_D A [(ti, .inl (cti, 2, .inl (upd (upd tf 0 (if ((tf 0) + 5) < 60 then ((tf 0) + 5) else 60)) 1 (if 0 < ((tf 1) - 5) then ((tf 1) - 5) else 0)))), (si, .inl (csi, 2, .inl (upd (upd sf 0 (if ((sf 0) + 1) < 12 then ((sf 0) + 1) else 12)) 1 (if ((sf 1) + 1) < 12 then ((sf 1) + 1) else 12)))), (mo, .inr (19, [.int 0, .int 0, .int 0, .int 0, .int 0, .int 0, .int 1, .ref ti, .ref si, .ref lo, .ref lh, .ref lk, .ref sp, .ref st, .ref pa, .ref br, .ref sg, .int mi, .int 0, .int 0, .int 0, .int (fo + 1), .int 0, .long pe, .long pn, .long (re + 0), .long (rn + 0), .int th])), (lh, .inr (3, [.int 0, .ref (z 0), .int 0]))] := hD
        exact W.vret hx hb hr (fun t ht hW => ⟨⟨(), rfl, trivial, ⟨1, (fo + 1), (re + 0), (rn + 0), (upd (upd tf 0 (if ((tf 0) + 5) < 60 then ((tf 0) + 5) else 60)) 1 (if 0 < ((tf 1) - 5) then ((tf 1) - 5) else 0)), (upd (upd sf 0 (if ((sf 0) + 1) < 12 then ((sf 0) + 1) else 12)) 1 (if ((sf 1) + 1) < 12 then ((sf 1) + 1) else 12)), (Or.inr rfl), (Or.inr rfl), kB_end (w9 := [(mo, .inr (19, [.int 0, .int 0, .int 0, .int 0, .int 0, .int 0, .int 1, .ref ti, .ref si, .ref lo, .ref lh, .ref lk, .ref sp, .ref st, .ref pa, .ref br, .ref sg, .int mi, .int 0, .int 0, .int 0, .int (fo + 1), .int 0, .long pe, .long pn, .long (re + 0), .long (rn + 0), .int th])), (ti, .inl (cti, 2, .inl (upd (upd tf 0 (if ((tf 0) + 5) < 60 then ((tf 0) + 5) else 60)) 1 (if 0 < ((tf 1) - 5) then ((tf 1) - 5) else 0)))), (si, .inl (csi, 2, .inl (upd (upd sf 0 (if ((sf 0) + 1) < 12 then ((sf 0) + 1) else 12)) 1 (if ((sf 1) + 1) < 12 then ((sf 1) + 1) else 12)))), (lh, .inr (3, [.int 0, .ref (z 0), .int 0]))]) (t9 := []) hP hK hD [2, 0, 1, 3] [] rfl (by decide) rfl rfl t ht hW⟩⟩, hS.F ht⟩) hS.2.2 dX15_tell_259
abbrev wd_k_tell1 (z : Nat → Nat) (mi : Int32) (fo : Int32) (pe : Int64) (pn : Int64) (re : Int64) (rn : Int64) (mo : Nat) (ti : Nat) (si : Nat) (lo : Nat) (lh : Nat) (lk : Nat) (sp : Nat) (st : Nat) (pa : Nat) (br : Nat) (sg : Nat) (cti : ClassId) (csi : ClassId) (th : Int32) (tf : Nat → Int32) (sf : Nat → Int32) : va_W := [(mo, .inr (19, [.int 0, .int 0, .int 0, .int 0, .int 0, .int 0, .int 1, .ref ti, .ref si, .ref lo, .ref lh, .ref lk, .ref sp, .ref st, .ref pa, .ref br, .ref sg, .int mi, .int 0, .int 0, .int 0, .int fo, .int 0, .long pe, .long pn, .long re, .long rn, .int th])), (ti, .inl (cti, 2, .inl tf)), (si, .inl (csi, 2, .inl sf)), (lh, .inr (3, [.int 0, .ref (z 0), .int 0]))]
set_option maxHeartbeats 4000000 in
set_option maxRecDepth 100000 in
theorem k_tell1 (l : Launch) (dC : Nat → ClassId) (dI : Nat → Nat → Nat) (z zK zV : Nat → Nat) (mi : Int32) (fo : Int32) (pe : Int64) (pn : Int64) (re : Int64) (rn : Int64) (mo : Nat) (ti : Nat) (si : Nat) (lo : Nat) (lh : Nat) (lk : Nat) (sp : Nat) (st : Nat) (pa : Nat) (br : Nat) (sg : Nat) (cti : ClassId) (csi : ClassId) (th : Int32) (tf : Nat → Int32) (sf : Nat → Int32) (sz : Nat)  : Met l yX15_tell wsX15_tell ({ frames := 4, cells := 0, slots := 0, locals := 84 }) (kP dC dI z zK zV [.ref mo] sz (wd_k_tell1 z mi fo pe pn re rn mo ti si lo lh lk sp st pa br sg cti csi th tf sf) [(cti, .int), (csi, .int)]) (va_Qv (fun _ : Unit => True) (fun _ t => ∃ (u1 : Int32) (u2 : Int32) (u3 : Int64) (u4 : Int64) (uf5 : Nat → Int32) (uf6 : Nat → Int32), (u1 = 0 ∨ u1 = 1) ∧ (u2 = fo ∨ u2 = fo + 1) ∧ kB (dC, dI) (va_A (wd_k_tell1 z mi fo pe pn re rn mo ti si lo lh lk sp st pa br sg cti csi th tf sf) sz) [(mo, .inr (19, [.int 0, .int 0, .int 0, .int 0, .int 0, .int 0, .int u1, .ref ti, .ref si, .ref lo, .ref lh, .ref lk, .ref sp, .ref st, .ref pa, .ref br, .ref sg, .int mi, .int 0, .int 0, .int 0, .int u2, .int 0, .long pe, .long pn, .long u3, .long u4, .int th])), (ti, .inl (cti, 2, .inl uf5)), (si, .inl (csi, 2, .inl uf6)), (lh, .inr (3, [.int 0, .ref (z 0), .int 0]))] [] t) (va_A (wd_k_tell1 z mi fo pe pn re rn mo ti si lo lh lk sp st pa br sg cti csi th tf sf) sz)) 0 0 (va_A (wd_k_tell1 z mi fo pe pn re rn mo ti si lo lh lk sp st pa br sg cti csi th tf sf) sz) := by
  refine Met.ofW (cc := cX15_tell) (maxL := 4) (ret := none) (by decide) rfl ?_
  intro p e s m args below meth c s₁ B hml hv
  obtain ⟨rfl, hsz, hP, hK, hD0, hM⟩ := hv
  have hx := B.exec
  have hb := B.bytes
  have hr := B.returns
  have hts := atoms_spec (ws := wsX15_tell) B.pre
  have hown : s.vm.findClass RX15 = some m.cls := findClass_of_methodNamed B.named
  have hlocks := B.notSynchronized
  have hiX15 : ∀ w ∈ u_ws RX15 TX15 28, w ∈ wsX15_tell := by decide +kernel
  subst hsz
  have hD := hD0.self (sz := s.heap.size)
  generalize hAe : va_A (wd_k_tell1 z mi fo pe pn re rn mo ti si lo lh lk sp st pa br sg cti csi th tf sf) s.heap.size = A at hD hM ⊢
  have hA : ∀ q : Nat, s.heap.size ≤ q → A q := fun q h => by rw [← hAe]; exact Or.inr h
  have hS : va_S A s.heap s.heap [] := va_S.rf
  have hP : va_P (dC, dI) vwCl [(mo, .inr (19, [.int 0, .int 0, .int 0, .int 0, .int 0, .int 0, .int 1, .ref ti, .ref si, .ref lo, .ref lh, .ref lk, .ref sp, .ref st, .ref pa, .ref br, .ref sg, .int mi, .int 0, .int 0, .int 0, .int fo, .int 0, .long pe, .long pn, .long re, .long rn, .int th])), (ti, .inl (cti, 2, .inl tf)), (si, .inl (csi, 2, .inl sf)), (lh, .inr (3, [.int 0, .ref (z 0), .int 0]))] s.heap := hP
  have hD : va_D A [(mo, .inr (19, [.int 0, .int 0, .int 0, .int 0, .int 0, .int 0, .int 1, .ref ti, .ref si, .ref lo, .ref lh, .ref lk, .ref sp, .ref st, .ref pa, .ref br, .ref sg, .int mi, .int 0, .int 0, .int 0, .int fo, .int 0, .long pe, .long pn, .long re, .long rn, .int th])), (ti, .inl (cti, 2, .inl tf)), (si, .inl (csi, 2, .inl sf)), (lh, .inr (3, [.int 0, .ref (z 0), .int 0]))] := hD
  have hl := lv_entry ([.ref mo]) (n := 4) (Nat.le_of_ble_eq_true rfl)
  rw [lg_entry_eq]
  generalize (lg_sl ([.ref mo]) ++ List.replicate (4 - (lg_sl ([.ref mo])).length) Slot.unset).toArray = ls at hl ⊢
  have hl : lv_has ls 4 [(0, .ref mo)] := hl
  refine lv_aload_n hx hb dX15_tell_0 rfl (lv_at hl 0 rfl) ?_
  refine va_get (D := (dC, dI)) (ci := 19) (v := .int mi) (C := RX15) (T := TX15) (N := 28) hx hb hts hiX15 hown hK hP 0 rfl rfl 17 (by decide) (hts (.fieldLink RX15 163 "SquareRigModel" "minute" "I") (by decide +kernel)) (fun _ h9 => h9) rfl dX15_tell_1 ?_
  refine lv_bipush (v := 30) hx hb dX15_tell_4 (by decide) ?_
  refine lv_irem hx hb dX15_tell_6 (by decide +kernel) ?_
  refine lv_if_ne (tgt := 65) hx hb dX15_tell_7 (by decide) (fun c1 => ?_) (fun c1 => ?_)
  · skip
    refine lv_aload_n hx hb dX15_tell_65 rfl (lv_at hl 0 rfl) ?_
    refine va_get (D := (dC, dI)) (ci := 19) (v := .int mi) (C := RX15) (T := TX15) (N := 28) hx hb hts hiX15 hown hK hP 0 rfl rfl 17 (by decide) (hts (.fieldLink RX15 163 "SquareRigModel" "minute" "I") (by decide +kernel)) (fun _ h9 => h9) rfl dX15_tell_66 ?_
    refine lv_sipush (v := 240) hx hb dX15_tell_69 (by decide) ?_
    refine lv_irem hx hb dX15_tell_72 (by decide +kernel) ?_
    refine lv_if_ne (tgt := 167) hx hb dX15_tell_73 (by decide) (fun c2 => ?_) (fun c2 => ?_)
    · skip
      refine lv_aload_n hx hb dX15_tell_167 rfl (lv_at hl 0 rfl) ?_
      refine va_get (D := (dC, dI)) (ci := 19) (v := .int mi) (C := RX15) (T := TX15) (N := 28) hx hb hts hiX15 hown hK hP 0 rfl rfl 17 (by decide) (hts (.fieldLink RX15 163 "SquareRigModel" "minute" "I") (by decide +kernel)) (fun _ h9 => h9) rfl dX15_tell_168 ?_
      refine lv_sipush (v := 1440) hx hb dX15_tell_171 (by decide) ?_
      refine lv_irem hx hb dX15_tell_174 (by decide +kernel) ?_
      refine lv_if_ne (tgt := 259) hx hb dX15_tell_175 (by decide) (fun c3 => ?_) (fun c3 => ?_)
      · skip
        exact W.vret hx hb hr (fun t ht hW => ⟨⟨(), rfl, trivial, ⟨1, fo, re, rn, tf, sf, (Or.inr rfl), (Or.inl rfl), kB_end (w9 := [(mo, .inr (19, [.int 0, .int 0, .int 0, .int 0, .int 0, .int 0, .int 1, .ref ti, .ref si, .ref lo, .ref lh, .ref lk, .ref sp, .ref st, .ref pa, .ref br, .ref sg, .int mi, .int 0, .int 0, .int 0, .int fo, .int 0, .long pe, .long pn, .long re, .long rn, .int th])), (ti, .inl (cti, 2, .inl tf)), (si, .inl (csi, 2, .inl sf)), (lh, .inr (3, [.int 0, .ref (z 0), .int 0]))]) (t9 := []) hP hK hD [0, 1, 2, 3] [] rfl (by decide) rfl rfl t ht hW⟩⟩, hS.F ht⟩) hS.2.2 dX15_tell_259
      · skip
        refine lv_aload_n hx hb dX15_tell_178 rfl (lv_at hl 0 rfl) ?_
        refine lv_iconst (v := 0) hx hb dX15_tell_179 (by decide) ?_
        refine lv_bipush (v := 24) hx hb dX15_tell_180 (by decide) ?_
        have hPc := hP.sub (ws' := [(mo, .inr (19, [.int 0, .int 0, .int 0, .int 0, .int 0, .int 0, .int 1, .ref ti, .ref si, .ref lo, .ref lh, .ref lk, .ref sp, .ref st, .ref pa, .ref br, .ref sg, .int mi, .int 0, .int 0, .int 0, .int fo, .int 0, .long pe, .long pn, .long re, .long rn, .int th])), (lh, .inr (3, [.int 0, .ref (z 0), .int 0]))]) [0, 3] rfl
        have hDc := hD.sub (ws' := [(mo, .inr (19, [.int 0, .int 0, .int 0, .int 0, .int 0, .int 0, .int 1, .ref ti, .ref si, .ref lo, .ref lh, .ref lk, .ref sp, .ref st, .ref pa, .ref br, .ref sg, .int mi, .int 0, .int 0, .int 0, .int fo, .int 0, .long pe, .long pn, .long re, .long rn, .int th])), (lh, .inr (3, [.int 0, .ref (z 0), .int 0]))]) [0, 3] (by decide) rfl
        have hKc := hK.sub (tys' := []) [] rfl
        have hFc := va_free (wc := [(mo, .inr (19, [.int 0, .int 0, .int 0, .int 0, .int 0, .int 0, .int 1, .ref ti, .ref si, .ref lo, .ref lh, .ref lk, .ref sp, .ref st, .ref pa, .ref br, .ref sg, .int mi, .int 0, .int 0, .int 0, .int fo, .int 0, .long pe, .long pn, .long re, .long rn, .int th])), (lh, .inr (3, [.int 0, .ref (z 0), .int 0]))]) hD hS hA [0, 3] rfl
        refine va_calli (va_runV (As := [.int 0, .int 24]) (rest := []) ⟨hx, hb, hml, hown, hts⟩ (k_mtake0 l dC dI z zK zV mi fo pe pn re rn mo ti si lo lh lk sp st pa br sg th 1 s.heap.size) (cwV 2 hts gX15_tell_X15_take rfl rfl rfl (by decide +kernel) ⟨Nat.le_of_ble_eq_true rfl, Nat.le_of_ble_eq_true rfl⟩) ⟨kP_blind, va_recv hKc hPc (ci := 19) (q0 := 0) rfl rfl, kP_go hPc hKc hDc hFc hM hS⟩ rfl rfl hl.1 rfl (lv_room (Nat.le_of_ble_eq_true rfl)) dX15_tell_182 ⟨Nat.le_of_ble_eq_true rfl, Nat.le_of_ble_eq_true rfl⟩) hS (fun q _ h => hFc q h) hFc (fun r4 u t H1 locs ht hvm hw hB hz1 hk1 hS => ?_)
        obtain ⟨hP, hD, hK⟩ := kJ (wr := [(ti, .inl (cti, 2, .inl tf)), (si, .inl (csi, 2, .inl sf))]) (w1 := [(mo, .inr (19, [.int 0, .int 0, .int 0, .int 0, .int 0, .int 0, .int 1, .ref ti, .ref si, .ref lo, .ref lh, .ref lk, .ref sp, .ref st, .ref pa, .ref br, .ref sg, .int mi, .int 0, .int 0, .int 0, .int fo, .int 0, .long pe, .long pn, .long re, .long rn, .int th])), (lh, .inr (3, [.int 0, .ref (z 0), .int 0]))]) (t1 := []) hP hD hK [0, 3] [1, 2] rfl rfl (by decide) (by decide) hk1 hFc ht hvm hB
        generalize H1 = H at hP hS ⊢
        have hP : va_P (dC, dI) vwCl [(ti, .inl (cti, 2, .inl tf)), (si, .inl (csi, 2, .inl sf)), (mo, .inr (19, [.int 0, .int 0, .int 0, .int 0, .int 0, .int 0, .int 1, .ref ti, .ref si, .ref lo, .ref lh, .ref lk, .ref sp, .ref st, .ref pa, .ref br, .ref sg, .int mi, .int 0, .int 0, .int 0, .int fo, .int 0, .long pe, .long pn, .long re, .long rn, .int th])), (lh, .inr (3, [.int 0, .ref (z 0), .int 0]))] H := hP
        have hD : va_D A [(ti, .inl (cti, 2, .inl tf)), (si, .inl (csi, 2, .inl sf)), (mo, .inr (19, [.int 0, .int 0, .int 0, .int 0, .int 0, .int 0, .int 1, .ref ti, .ref si, .ref lo, .ref lh, .ref lk, .ref sp, .ref st, .ref pa, .ref br, .ref sg, .int mi, .int 0, .int 0, .int 0, .int fo, .int 0, .long pe, .long pn, .long re, .long rn, .int th])), (lh, .inr (3, [.int 0, .ref (z 0), .int 0]))] := hD
        have hK : va_K (dC, dI) vwCl [(cti, .int), (csi, .int)] s := hK
        obtain rfl : 0 = r4 := hw
        refine lv_istore_n (lv' := [(1, .int 0), (0, .ref mo)]) hx hb dX15_tell_185 rfl hl (by decide) rfl (fun ls hl => ?_)
        refine lv_aload_n hx hb dX15_tell_186 rfl (lv_at hl 1 rfl) ?_
        refine lv_iconst (v := 1) hx hb dX15_tell_187 (by decide) ?_
        refine lv_bipush (v := 24) hx hb dX15_tell_188 (by decide) ?_
        have hPc := hP.sub (ws' := [(mo, .inr (19, [.int 0, .int 0, .int 0, .int 0, .int 0, .int 0, .int 1, .ref ti, .ref si, .ref lo, .ref lh, .ref lk, .ref sp, .ref st, .ref pa, .ref br, .ref sg, .int mi, .int 0, .int 0, .int 0, .int fo, .int 0, .long pe, .long pn, .long re, .long rn, .int th])), (lh, .inr (3, [.int 0, .ref (z 0), .int 0]))]) [2, 3] rfl
        have hDc := hD.sub (ws' := [(mo, .inr (19, [.int 0, .int 0, .int 0, .int 0, .int 0, .int 0, .int 1, .ref ti, .ref si, .ref lo, .ref lh, .ref lk, .ref sp, .ref st, .ref pa, .ref br, .ref sg, .int mi, .int 0, .int 0, .int 0, .int fo, .int 0, .long pe, .long pn, .long re, .long rn, .int th])), (lh, .inr (3, [.int 0, .ref (z 0), .int 0]))]) [2, 3] (by decide) rfl
        have hKc := hK.sub (tys' := []) [] rfl
        have hFc := va_free (wc := [(mo, .inr (19, [.int 0, .int 0, .int 0, .int 0, .int 0, .int 0, .int 1, .ref ti, .ref si, .ref lo, .ref lh, .ref lk, .ref sp, .ref st, .ref pa, .ref br, .ref sg, .int mi, .int 0, .int 0, .int 0, .int fo, .int 0, .long pe, .long pn, .long re, .long rn, .int th])), (lh, .inr (3, [.int 0, .ref (z 0), .int 0]))]) hD hS hA [2, 3] rfl
        refine va_calli (va_runV (As := [.int 1, .int 24]) (rest := []) ⟨hx, hb, hml, hown, hts⟩ (k_mtake1 l dC dI z zK zV mi fo pe pn re rn mo ti si lo lh lk sp st pa br sg th 1 H.size) (cwV 2 hts gX15_tell_X15_take rfl rfl rfl (by decide +kernel) ⟨Nat.le_of_ble_eq_true rfl, Nat.le_of_ble_eq_true rfl⟩) ⟨kP_blind, va_recv hKc hPc (ci := 19) (q0 := 0) rfl rfl, kP_go hPc hKc hDc hFc hM hS⟩ rfl rfl hl.1 rfl (lv_room (Nat.le_of_ble_eq_true rfl)) dX15_tell_190 ⟨Nat.le_of_ble_eq_true rfl, Nat.le_of_ble_eq_true rfl⟩) hS (fun q _ h => hFc q h) hFc (fun r5 u t H1 locs ht hvm hw hB hz1 hk1 hS => ?_)
        obtain ⟨hP, hD, hK⟩ := kJ (wr := [(ti, .inl (cti, 2, .inl tf)), (si, .inl (csi, 2, .inl sf))]) (w1 := [(mo, .inr (19, [.int 0, .int 0, .int 0, .int 0, .int 0, .int 0, .int 1, .ref ti, .ref si, .ref lo, .ref lh, .ref lk, .ref sp, .ref st, .ref pa, .ref br, .ref sg, .int mi, .int 0, .int 0, .int 0, .int fo, .int 0, .long pe, .long pn, .long re, .long rn, .int th])), (lh, .inr (3, [.int 0, .ref (z 0), .int 0]))]) (t1 := []) hP hD hK [2, 3] [0, 1] rfl rfl (by decide) (by decide) hk1 hFc ht hvm hB
        generalize H1 = H at hP hS ⊢
        have hP : va_P (dC, dI) vwCl [(ti, .inl (cti, 2, .inl tf)), (si, .inl (csi, 2, .inl sf)), (mo, .inr (19, [.int 0, .int 0, .int 0, .int 0, .int 0, .int 0, .int 1, .ref ti, .ref si, .ref lo, .ref lh, .ref lk, .ref sp, .ref st, .ref pa, .ref br, .ref sg, .int mi, .int 0, .int 0, .int 0, .int fo, .int 0, .long pe, .long pn, .long re, .long rn, .int th])), (lh, .inr (3, [.int 0, .ref (z 0), .int 0]))] H := hP
        have hD : va_D A [(ti, .inl (cti, 2, .inl tf)), (si, .inl (csi, 2, .inl sf)), (mo, .inr (19, [.int 0, .int 0, .int 0, .int 0, .int 0, .int 0, .int 1, .ref ti, .ref si, .ref lo, .ref lh, .ref lk, .ref sp, .ref st, .ref pa, .ref br, .ref sg, .int mi, .int 0, .int 0, .int 0, .int fo, .int 0, .long pe, .long pn, .long re, .long rn, .int th])), (lh, .inr (3, [.int 0, .ref (z 0), .int 0]))] := hD
        have hK : va_K (dC, dI) vwCl [(cti, .int), (csi, .int)] s := hK
        obtain rfl : 0 = r5 := hw
        refine lv_istore_n (lv' := [(2, .int 0), (1, .int 0), (0, .ref mo)]) hx hb dX15_tell_193 rfl hl (by decide) rfl (fun ls hl => ?_)
        refine lv_iconst (v := 0) hx hb dX15_tell_194 (by decide) ?_
        refine lv_istore_n (lv' := [(3, .int 0), (2, .int 0), (1, .int 0), (0, .ref mo)]) hx hb dX15_tell_195 rfl hl (by decide) rfl (fun ls hl => ?_)
        refine lv_iload_n hx hb dX15_tell_196 rfl (lv_at hl 0 rfl) ?_
        refine lv_iconst (v := 2) hx hb dX15_tell_197 (by decide) ?_
        refine lv_icmp_ge (tgt := 249) hx hb dX15_tell_198 (by decide) (fun c_ => absurd c_ (by decide +kernel)) (fun _ => ?_)
        refine lv_aload_n hx hb dX15_tell_201 rfl (lv_at hl 3 rfl) ?_
        refine va_get (D := (dC, dI)) (ci := 19) (v := .ref si) (C := RX15) (T := TX15) (N := 28) hx hb hts hiX15 hown hK hP 2 rfl rfl 8 (by decide) (hts (.fieldLink RX15 13 "SquareRigModel" "sick" "[I") (by decide +kernel)) (fun _ h9 => h9) rfl dX15_tell_202 ?_
        refine lv_iload_n hx hb dX15_tell_205 rfl (lv_at hl 0 rfl) ?_
        refine lv_iload_n hx hb dX15_tell_206 rfl (lv_at hl 2 rfl) ?_
        refine lv_if_eq (tgt := 229) hx hb dX15_tell_207 (by decide) (fun _ => ?_) (fun c_ => absurd (by decide +kernel) c_)
        refine lv_bipush (v := 12) hx hb dX15_tell_229 (by decide) ?_
        refine lv_aload_n hx hb dX15_tell_231 rfl (lv_at hl 3 rfl) ?_
        refine va_get (D := (dC, dI)) (ci := 19) (v := .ref si) (C := RX15) (T := TX15) (N := 28) hx hb hts hiX15 hown hK hP 2 rfl rfl 8 (by decide) (hts (.fieldLink RX15 13 "SquareRigModel" "sick" "[I") (by decide +kernel)) (fun _ h9 => h9) rfl dX15_tell_232 ?_
        refine lv_iload_n hx hb dX15_tell_235 rfl (lv_at hl 0 rfl) ?_
        refine va_iald hx hb hK hP 1 1 rfl rfl (pk_in 0 2 (by decide) rfl) dX15_tell_236 ?_
        refine kc_v (y := .int (sf 0)) rfl ?_
        refine lv_iconst (v := 1) hx hb dX15_tell_237 (by decide) ?_
        refine lv_iadd hx hb dX15_tell_238 ?_
        refine va_mmin hx hb (hml.trans hl.1.symm) hown (hts (.methodLink RX15 75 Lib.Math.min.name) (by decide +kernel)) (hts (.static Lib.Math.min.name) (by decide +kernel)) (hts (.initialized "java/lang/Math") (by decide +kernel)) (hts (.code Lib.Math.min.name Lib.Math.min.code 2 (some .int)) (by decide +kernel)) (Nat.le_of_ble_eq_true rfl) (Nat.le_of_ble_eq_true rfl) (Nat.le_of_ble_eq_true rfl) (Nat.le_of_ble_eq_true rfl) dX15_tell_239 ?_
        refine va_iast hx hb hK hP hD hS 1 1 rfl rfl (pk_in 0 2 (by decide) rfl) dX15_tell_242 (fun H locs hP hD hS => ?_)
        have hP : va_P (dC, dI) vwCl [(ti, .inl (cti, 2, .inl tf)), (si, .inl (csi, 2, .inl (upd sf 0 (if ((sf 0) + 1) < 12 then ((sf 0) + 1) else 12)))), (mo, .inr (19, [.int 0, .int 0, .int 0, .int 0, .int 0, .int 0, .int 1, .ref ti, .ref si, .ref lo, .ref lh, .ref lk, .ref sp, .ref st, .ref pa, .ref br, .ref sg, .int mi, .int 0, .int 0, .int 0, .int fo, .int 0, .long pe, .long pn, .long re, .long rn, .int th])), (lh, .inr (3, [.int 0, .ref (z 0), .int 0]))] H := hP
        have hD : va_D A [(ti, .inl (cti, 2, .inl tf)), (si, .inl (csi, 2, .inl (upd sf 0 (if ((sf 0) + 1) < 12 then ((sf 0) + 1) else 12)))), (mo, .inr (19, [.int 0, .int 0, .int 0, .int 0, .int 0, .int 0, .int 1, .ref ti, .ref si, .ref lo, .ref lh, .ref lk, .ref sp, .ref st, .ref pa, .ref br, .ref sg, .int mi, .int 0, .int 0, .int 0, .int fo, .int 0, .long pe, .long pn, .long re, .long rn, .int th])), (lh, .inr (3, [.int 0, .ref (z 0), .int 0]))] := hD
        refine lv_iinc (v := 1) (lv' := [(3, .int 1), (2, .int 0), (1, .int 0), (0, .ref mo)]) hx hb dX15_tell_243 hl (k := 0) rfl (by decide +kernel) (by decide) rfl (fun ls hl => ?_)
        refine lv_goto (tgt := 196) hx hb dX15_tell_246 (by decide) ?_
        refine lv_iload_n hx hb dX15_tell_196 rfl (lv_at hl 0 rfl) ?_
        refine lv_iconst (v := 2) hx hb dX15_tell_197 (by decide) ?_
        refine lv_icmp_ge (tgt := 249) hx hb dX15_tell_198 (by decide) (fun c_ => absurd c_ (by decide +kernel)) (fun _ => ?_)
        refine lv_aload_n hx hb dX15_tell_201 rfl (lv_at hl 3 rfl) ?_
        refine va_get (D := (dC, dI)) (ci := 19) (v := .ref si) (C := RX15) (T := TX15) (N := 28) hx hb hts hiX15 hown hK hP 2 rfl rfl 8 (by decide) (hts (.fieldLink RX15 13 "SquareRigModel" "sick" "[I") (by decide +kernel)) (fun _ h9 => h9) rfl dX15_tell_202 ?_
        refine lv_iload_n hx hb dX15_tell_205 rfl (lv_at hl 0 rfl) ?_
        refine lv_iload_n hx hb dX15_tell_206 rfl (lv_at hl 2 rfl) ?_
        refine lv_if_eq (tgt := 229) hx hb dX15_tell_207 (by decide) (fun _ => ?_) (fun c_ => absurd (by decide +kernel) c_)
        refine lv_bipush (v := 12) hx hb dX15_tell_229 (by decide) ?_
        refine lv_aload_n hx hb dX15_tell_231 rfl (lv_at hl 3 rfl) ?_
        refine va_get (D := (dC, dI)) (ci := 19) (v := .ref si) (C := RX15) (T := TX15) (N := 28) hx hb hts hiX15 hown hK hP 2 rfl rfl 8 (by decide) (hts (.fieldLink RX15 13 "SquareRigModel" "sick" "[I") (by decide +kernel)) (fun _ h9 => h9) rfl dX15_tell_232 ?_
        refine lv_iload_n hx hb dX15_tell_235 rfl (lv_at hl 0 rfl) ?_
        refine va_iald hx hb hK hP 1 1 rfl rfl (pk_in 1 2 (by decide) rfl) dX15_tell_236 ?_
        refine kc_v (y := .int (sf 1)) rfl ?_
        refine lv_iconst (v := 1) hx hb dX15_tell_237 (by decide) ?_
        refine lv_iadd hx hb dX15_tell_238 ?_
        refine va_mmin hx hb (hml.trans hl.1.symm) hown (hts (.methodLink RX15 75 Lib.Math.min.name) (by decide +kernel)) (hts (.static Lib.Math.min.name) (by decide +kernel)) (hts (.initialized "java/lang/Math") (by decide +kernel)) (hts (.code Lib.Math.min.name Lib.Math.min.code 2 (some .int)) (by decide +kernel)) (Nat.le_of_ble_eq_true rfl) (Nat.le_of_ble_eq_true rfl) (Nat.le_of_ble_eq_true rfl) (Nat.le_of_ble_eq_true rfl) dX15_tell_239 ?_
        refine va_iast hx hb hK hP hD hS 1 1 rfl rfl (pk_in 1 2 (by decide) rfl) dX15_tell_242 (fun H locs hP hD hS => ?_)
        have hP : va_P (dC, dI) vwCl [(ti, .inl (cti, 2, .inl tf)), (si, .inl (csi, 2, .inl (upd (upd sf 0 (if ((sf 0) + 1) < 12 then ((sf 0) + 1) else 12)) 1 (if ((sf 1) + 1) < 12 then ((sf 1) + 1) else 12)))), (mo, .inr (19, [.int 0, .int 0, .int 0, .int 0, .int 0, .int 0, .int 1, .ref ti, .ref si, .ref lo, .ref lh, .ref lk, .ref sp, .ref st, .ref pa, .ref br, .ref sg, .int mi, .int 0, .int 0, .int 0, .int fo, .int 0, .long pe, .long pn, .long re, .long rn, .int th])), (lh, .inr (3, [.int 0, .ref (z 0), .int 0]))] H := hP
        have hD : va_D A [(ti, .inl (cti, 2, .inl tf)), (si, .inl (csi, 2, .inl (upd (upd sf 0 (if ((sf 0) + 1) < 12 then ((sf 0) + 1) else 12)) 1 (if ((sf 1) + 1) < 12 then ((sf 1) + 1) else 12)))), (mo, .inr (19, [.int 0, .int 0, .int 0, .int 0, .int 0, .int 0, .int 1, .ref ti, .ref si, .ref lo, .ref lh, .ref lk, .ref sp, .ref st, .ref pa, .ref br, .ref sg, .int mi, .int 0, .int 0, .int 0, .int fo, .int 0, .long pe, .long pn, .long re, .long rn, .int th])), (lh, .inr (3, [.int 0, .ref (z 0), .int 0]))] := hD
        refine lv_iinc (v := 2) (lv' := [(3, .int 2), (2, .int 0), (1, .int 0), (0, .ref mo)]) hx hb dX15_tell_243 hl (k := 0) rfl (by decide +kernel) (by decide) rfl (fun ls hl => ?_)
        refine lv_goto (tgt := 196) hx hb dX15_tell_246 (by decide) ?_
        refine lv_iload_n hx hb dX15_tell_196 rfl (lv_at hl 0 rfl) ?_
        refine lv_iconst (v := 2) hx hb dX15_tell_197 (by decide) ?_
        refine lv_icmp_ge (tgt := 249) hx hb dX15_tell_198 (by decide) (fun _ => ?_) (fun c_ => absurd (by decide +kernel) c_)
        refine lv_aload_n hx hb dX15_tell_249 rfl (lv_at hl 3 rfl) ?_
        refine lv_dup hx hb dX15_tell_250 rfl ?_
        refine va_get (D := (dC, dI)) (ci := 19) (v := .int fo) (C := RX15) (T := TX15) (N := 28) hx hb hts hiX15 hown hK hP 2 rfl rfl 21 (by decide) (hts (.fieldLink RX15 262 "SquareRigModel" "foul" "I") (by decide +kernel)) (fun _ h9 => h9) rfl dX15_tell_251 ?_
        refine lv_iconst (v := 1) hx hb dX15_tell_254 (by decide) ?_
        refine lv_iadd hx hb dX15_tell_255 ?_
        refine va_put (D := (dC, dI)) (ci := 19) (v := .int (fo + 1)) (ty := .int) (C := RX15) (T := TX15) (N := 28) hx hb hts hiX15 tyX15 tyX15_ok nmX15 hown hK hP hD hS 2 rfl rfl 21 (by decide) (hts (.fieldLink RX15 262 "SquareRigModel" "foul" "I") (by decide +kernel)) (fun _ h9 => h9) rfl (by decide +kernel) rfl rfl (Nat.le_of_ble_eq_true rfl) dX15_tell_256 (fun H locs hP hD hS => ?_)
        have hP : va_P (dC, dI) vwCl [(ti, .inl (cti, 2, .inl tf)), (si, .inl (csi, 2, .inl (upd (upd sf 0 (if ((sf 0) + 1) < 12 then ((sf 0) + 1) else 12)) 1 (if ((sf 1) + 1) < 12 then ((sf 1) + 1) else 12)))), (mo, .inr (19, [.int 0, .int 0, .int 0, .int 0, .int 0, .int 0, .int 1, .ref ti, .ref si, .ref lo, .ref lh, .ref lk, .ref sp, .ref st, .ref pa, .ref br, .ref sg, .int mi, .int 0, .int 0, .int 0, .int (fo + 1), .int 0, .long pe, .long pn, .long re, .long rn, .int th])), (lh, .inr (3, [.int 0, .ref (z 0), .int 0]))] H := hP
        have hD : va_D A [(ti, .inl (cti, 2, .inl tf)), (si, .inl (csi, 2, .inl (upd (upd sf 0 (if ((sf 0) + 1) < 12 then ((sf 0) + 1) else 12)) 1 (if ((sf 1) + 1) < 12 then ((sf 1) + 1) else 12)))), (mo, .inr (19, [.int 0, .int 0, .int 0, .int 0, .int 0, .int 0, .int 1, .ref ti, .ref si, .ref lo, .ref lh, .ref lk, .ref sp, .ref st, .ref pa, .ref br, .ref sg, .int mi, .int 0, .int 0, .int 0, .int (fo + 1), .int 0, .long pe, .long pn, .long re, .long rn, .int th])), (lh, .inr (3, [.int 0, .ref (z 0), .int 0]))] := hD
        exact W.vret hx hb hr (fun t ht hW => ⟨⟨(), rfl, trivial, ⟨1, (fo + 1), re, rn, tf, (upd (upd sf 0 (if ((sf 0) + 1) < 12 then ((sf 0) + 1) else 12)) 1 (if ((sf 1) + 1) < 12 then ((sf 1) + 1) else 12)), (Or.inr rfl), (Or.inr rfl), kB_end (w9 := [(mo, .inr (19, [.int 0, .int 0, .int 0, .int 0, .int 0, .int 0, .int 1, .ref ti, .ref si, .ref lo, .ref lh, .ref lk, .ref sp, .ref st, .ref pa, .ref br, .ref sg, .int mi, .int 0, .int 0, .int 0, .int (fo + 1), .int 0, .long pe, .long pn, .long re, .long rn, .int th])), (ti, .inl (cti, 2, .inl tf)), (si, .inl (csi, 2, .inl (upd (upd sf 0 (if ((sf 0) + 1) < 12 then ((sf 0) + 1) else 12)) 1 (if ((sf 1) + 1) < 12 then ((sf 1) + 1) else 12)))), (lh, .inr (3, [.int 0, .ref (z 0), .int 0]))]) (t9 := []) hP hK hD [2, 0, 1, 3] [] rfl (by decide) rfl rfl t ht hW⟩⟩, hS.F ht⟩) hS.2.2 dX15_tell_259
    · skip
      refine lv_aload_n hx hb dX15_tell_76 rfl (lv_at hl 0 rfl) ?_
      refine va_get (D := (dC, dI)) (ci := 19) (v := .ref ti) (C := RX15) (T := TX15) (N := 28) hx hb hts hiX15 hown hK hP 0 rfl rfl 7 (by decide) (hts (.fieldLink RX15 7 "SquareRigModel" "tired" "[I") (by decide +kernel)) (fun _ h9 => h9) rfl dX15_tell_77 ?_
      refine lv_aload_n hx hb dX15_tell_80 rfl (lv_at hl 0 rfl) ?_
      refine va_get (D := (dC, dI)) (ci := 19) (v := .int 1) (C := RX15) (T := TX15) (N := 28) hx hb hts hiX15 hown hK hP 0 rfl rfl 6 (by decide) (hts (.fieldLink RX15 199 "SquareRigModel" "turn" "I") (by decide +kernel)) (fun _ h9 => h9) rfl dX15_tell_81 ?_
      refine lv_bipush (v := 60) hx hb dX15_tell_84 (by decide) ?_
      refine lv_aload_n hx hb dX15_tell_86 rfl (lv_at hl 0 rfl) ?_
      refine va_get (D := (dC, dI)) (ci := 19) (v := .ref ti) (C := RX15) (T := TX15) (N := 28) hx hb hts hiX15 hown hK hP 0 rfl rfl 7 (by decide) (hts (.fieldLink RX15 7 "SquareRigModel" "tired" "[I") (by decide +kernel)) (fun _ h9 => h9) rfl dX15_tell_87 ?_
      refine lv_aload_n hx hb dX15_tell_90 rfl (lv_at hl 0 rfl) ?_
      refine va_get (D := (dC, dI)) (ci := 19) (v := .int 1) (C := RX15) (T := TX15) (N := 28) hx hb hts hiX15 hown hK hP 0 rfl rfl 6 (by decide) (hts (.fieldLink RX15 199 "SquareRigModel" "turn" "I") (by decide +kernel)) (fun _ h9 => h9) rfl dX15_tell_91 ?_
      refine va_iald hx hb hK hP 1 0 rfl rfl (pk_in 1 2 (by decide) rfl) dX15_tell_94 ?_
      refine kc_v (y := .int (tf 1)) rfl ?_
      refine lv_iconst (v := 5) hx hb dX15_tell_95 (by decide) ?_
      refine lv_iadd hx hb dX15_tell_96 ?_
      refine va_mmin hx hb (hml.trans hl.1.symm) hown (hts (.methodLink RX15 75 Lib.Math.min.name) (by decide +kernel)) (hts (.static Lib.Math.min.name) (by decide +kernel)) (hts (.initialized "java/lang/Math") (by decide +kernel)) (hts (.code Lib.Math.min.name Lib.Math.min.code 2 (some .int)) (by decide +kernel)) (Nat.le_of_ble_eq_true rfl) (Nat.le_of_ble_eq_true rfl) (Nat.le_of_ble_eq_true rfl) (Nat.le_of_ble_eq_true rfl) dX15_tell_97 ?_
      refine va_iast hx hb hK hP hD hS 1 0 rfl rfl (pk_in 1 2 (by decide) rfl) dX15_tell_100 (fun H locs hP hD hS => ?_)
      have hP : va_P (dC, dI) vwCl [(mo, .inr (19, [.int 0, .int 0, .int 0, .int 0, .int 0, .int 0, .int 1, .ref ti, .ref si, .ref lo, .ref lh, .ref lk, .ref sp, .ref st, .ref pa, .ref br, .ref sg, .int mi, .int 0, .int 0, .int 0, .int fo, .int 0, .long pe, .long pn, .long re, .long rn, .int th])), (ti, .inl (cti, 2, .inl (upd tf 1 (if ((tf 1) + 5) < 60 then ((tf 1) + 5) else 60)))), (si, .inl (csi, 2, .inl sf)), (lh, .inr (3, [.int 0, .ref (z 0), .int 0]))] H := hP
      have hD : va_D A [(mo, .inr (19, [.int 0, .int 0, .int 0, .int 0, .int 0, .int 0, .int 1, .ref ti, .ref si, .ref lo, .ref lh, .ref lk, .ref sp, .ref st, .ref pa, .ref br, .ref sg, .int mi, .int 0, .int 0, .int 0, .int fo, .int 0, .long pe, .long pn, .long re, .long rn, .int th])), (ti, .inl (cti, 2, .inl (upd tf 1 (if ((tf 1) + 5) < 60 then ((tf 1) + 5) else 60)))), (si, .inl (csi, 2, .inl sf)), (lh, .inr (3, [.int 0, .ref (z 0), .int 0]))] := hD
      refine lv_aload_n hx hb dX15_tell_101 rfl (lv_at hl 0 rfl) ?_
      refine va_get (D := (dC, dI)) (ci := 19) (v := .ref ti) (C := RX15) (T := TX15) (N := 28) hx hb hts hiX15 hown hK hP 0 rfl rfl 7 (by decide) (hts (.fieldLink RX15 7 "SquareRigModel" "tired" "[I") (by decide +kernel)) (fun _ h9 => h9) rfl dX15_tell_102 ?_
      refine lv_iconst (v := 1) hx hb dX15_tell_105 (by decide) ?_
      refine lv_aload_n hx hb dX15_tell_106 rfl (lv_at hl 0 rfl) ?_
      refine va_get (D := (dC, dI)) (ci := 19) (v := .int 1) (C := RX15) (T := TX15) (N := 28) hx hb hts hiX15 hown hK hP 0 rfl rfl 6 (by decide) (hts (.fieldLink RX15 199 "SquareRigModel" "turn" "I") (by decide +kernel)) (fun _ h9 => h9) rfl dX15_tell_107 ?_
      refine lv_isub hx hb dX15_tell_110 ?_
      refine kc_i (y := 0) (by decide +kernel) ?_
      refine lv_aload_n hx hb dX15_tell_111 rfl (lv_at hl 0 rfl) ?_
      refine va_get (D := (dC, dI)) (ci := 19) (v := .int 0) (C := RX15) (T := TX15) (N := 28) hx hb hts hiX15 hown hK hP 0 rfl rfl 5 (by decide) (hts (.fieldLink RX15 195 "SquareRigModel" "areAll" "Z") (by decide +kernel)) (fun _ h9 => h9) rfl dX15_tell_112 ?_
      refine lv_if_eq (tgt := 139) hx hb dX15_tell_115 (by decide) (fun _ => ?_) (fun c_ => absurd (by decide +kernel) c_)
      refine lv_iconst (v := 0) hx hb dX15_tell_139 (by decide) ?_
      refine lv_aload_n hx hb dX15_tell_140 rfl (lv_at hl 0 rfl) ?_
      refine va_get (D := (dC, dI)) (ci := 19) (v := .ref ti) (C := RX15) (T := TX15) (N := 28) hx hb hts hiX15 hown hK hP 0 rfl rfl 7 (by decide) (hts (.fieldLink RX15 7 "SquareRigModel" "tired" "[I") (by decide +kernel)) (fun _ h9 => h9) rfl dX15_tell_141 ?_
      refine lv_iconst (v := 1) hx hb dX15_tell_144 (by decide) ?_
      refine lv_aload_n hx hb dX15_tell_145 rfl (lv_at hl 0 rfl) ?_
      refine va_get (D := (dC, dI)) (ci := 19) (v := .int 1) (C := RX15) (T := TX15) (N := 28) hx hb hts hiX15 hown hK hP 0 rfl rfl 6 (by decide) (hts (.fieldLink RX15 199 "SquareRigModel" "turn" "I") (by decide +kernel)) (fun _ h9 => h9) rfl dX15_tell_146 ?_
      refine lv_isub hx hb dX15_tell_149 ?_
      refine kc_i (y := 0) (by decide +kernel) ?_
      refine va_iald hx hb hK hP 1 0 rfl rfl (pk_in 0 2 (by decide) rfl) dX15_tell_150 ?_
      refine kc_v (y := .int (tf 0)) rfl ?_
      refine lv_iconst (v := 5) hx hb dX15_tell_151 (by decide) ?_
      refine lv_isub hx hb dX15_tell_152 ?_
      refine va_mmax hx hb (hml.trans hl.1.symm) hown (hts (.methodLink RX15 102 Lib.Math.max.name) (by decide +kernel)) (hts (.static Lib.Math.max.name) (by decide +kernel)) (hts (.initialized "java/lang/Math") (by decide +kernel)) (hts (.code Lib.Math.max.name Lib.Math.max.code 2 (some .int)) (by decide +kernel)) (Nat.le_of_ble_eq_true rfl) (Nat.le_of_ble_eq_true rfl) (Nat.le_of_ble_eq_true rfl) (Nat.le_of_ble_eq_true rfl) dX15_tell_153 ?_
      refine va_iast hx hb hK hP hD hS 1 0 rfl rfl (pk_in 0 2 (by decide) rfl) dX15_tell_156 (fun H locs hP hD hS => ?_)
      have hP : va_P (dC, dI) vwCl [(mo, .inr (19, [.int 0, .int 0, .int 0, .int 0, .int 0, .int 0, .int 1, .ref ti, .ref si, .ref lo, .ref lh, .ref lk, .ref sp, .ref st, .ref pa, .ref br, .ref sg, .int mi, .int 0, .int 0, .int 0, .int fo, .int 0, .long pe, .long pn, .long re, .long rn, .int th])), (ti, .inl (cti, 2, .inl (upd (upd tf 1 (if ((tf 1) + 5) < 60 then ((tf 1) + 5) else 60)) 0 (if 0 < ((tf 0) - 5) then ((tf 0) - 5) else 0)))), (si, .inl (csi, 2, .inl sf)), (lh, .inr (3, [.int 0, .ref (z 0), .int 0]))] H := hP
      have hD : va_D A [(mo, .inr (19, [.int 0, .int 0, .int 0, .int 0, .int 0, .int 0, .int 1, .ref ti, .ref si, .ref lo, .ref lh, .ref lk, .ref sp, .ref st, .ref pa, .ref br, .ref sg, .int mi, .int 0, .int 0, .int 0, .int fo, .int 0, .long pe, .long pn, .long re, .long rn, .int th])), (ti, .inl (cti, 2, .inl (upd (upd tf 1 (if ((tf 1) + 5) < 60 then ((tf 1) + 5) else 60)) 0 (if 0 < ((tf 0) - 5) then ((tf 0) - 5) else 0)))), (si, .inl (csi, 2, .inl sf)), (lh, .inr (3, [.int 0, .ref (z 0), .int 0]))] := hD
      refine lv_aload_n hx hb dX15_tell_157 rfl (lv_at hl 0 rfl) ?_
      refine lv_iconst (v := 1) hx hb dX15_tell_158 (by decide) ?_
      refine lv_aload_n hx hb dX15_tell_159 rfl (lv_at hl 0 rfl) ?_
      refine va_get (D := (dC, dI)) (ci := 19) (v := .int 1) (C := RX15) (T := TX15) (N := 28) hx hb hts hiX15 hown hK hP 0 rfl rfl 6 (by decide) (hts (.fieldLink RX15 199 "SquareRigModel" "turn" "I") (by decide +kernel)) (fun _ h9 => h9) rfl dX15_tell_160 ?_
      refine lv_isub hx hb dX15_tell_163 ?_
      refine kc_i (y := 0) (by decide +kernel) ?_
      refine va_put (D := (dC, dI)) (ci := 19) (v := .int 0) (ty := .int) (C := RX15) (T := TX15) (N := 28) hx hb hts hiX15 tyX15 tyX15_ok nmX15 hown hK hP hD hS 0 rfl rfl 6 (by decide) (hts (.fieldLink RX15 199 "SquareRigModel" "turn" "I") (by decide +kernel)) (fun _ h9 => h9) rfl (by decide +kernel) rfl rfl (Nat.le_of_ble_eq_true rfl) dX15_tell_164 (fun H locs hP hD hS => ?_)
      have hP : va_P (dC, dI) vwCl [(mo, .inr (19, [.int 0, .int 0, .int 0, .int 0, .int 0, .int 0, .int 0, .ref ti, .ref si, .ref lo, .ref lh, .ref lk, .ref sp, .ref st, .ref pa, .ref br, .ref sg, .int mi, .int 0, .int 0, .int 0, .int fo, .int 0, .long pe, .long pn, .long re, .long rn, .int th])), (ti, .inl (cti, 2, .inl (upd (upd tf 1 (if ((tf 1) + 5) < 60 then ((tf 1) + 5) else 60)) 0 (if 0 < ((tf 0) - 5) then ((tf 0) - 5) else 0)))), (si, .inl (csi, 2, .inl sf)), (lh, .inr (3, [.int 0, .ref (z 0), .int 0]))] H := hP
      have hD : va_D A [(mo, .inr (19, [.int 0, .int 0, .int 0, .int 0, .int 0, .int 0, .int 0, .ref ti, .ref si, .ref lo, .ref lh, .ref lk, .ref sp, .ref st, .ref pa, .ref br, .ref sg, .int mi, .int 0, .int 0, .int 0, .int fo, .int 0, .long pe, .long pn, .long re, .long rn, .int th])), (ti, .inl (cti, 2, .inl (upd (upd tf 1 (if ((tf 1) + 5) < 60 then ((tf 1) + 5) else 60)) 0 (if 0 < ((tf 0) - 5) then ((tf 0) - 5) else 0)))), (si, .inl (csi, 2, .inl sf)), (lh, .inr (3, [.int 0, .ref (z 0), .int 0]))] := hD
      refine lv_aload_n hx hb dX15_tell_167 rfl (lv_at hl 0 rfl) ?_
      refine va_get (D := (dC, dI)) (ci := 19) (v := .int mi) (C := RX15) (T := TX15) (N := 28) hx hb hts hiX15 hown hK hP 0 rfl rfl 17 (by decide) (hts (.fieldLink RX15 163 "SquareRigModel" "minute" "I") (by decide +kernel)) (fun _ h9 => h9) rfl dX15_tell_168 ?_
      refine lv_sipush (v := 1440) hx hb dX15_tell_171 (by decide) ?_
      refine lv_irem hx hb dX15_tell_174 (by decide +kernel) ?_
      refine lv_if_ne (tgt := 259) hx hb dX15_tell_175 (by decide) (fun c6 => ?_) (fun c6 => ?_)
      · skip
        exact W.vret hx hb hr (fun t ht hW => ⟨⟨(), rfl, trivial, ⟨0, fo, re, rn, (upd (upd tf 1 (if ((tf 1) + 5) < 60 then ((tf 1) + 5) else 60)) 0 (if 0 < ((tf 0) - 5) then ((tf 0) - 5) else 0)), sf, (Or.inl rfl), (Or.inl rfl), kB_end (w9 := [(mo, .inr (19, [.int 0, .int 0, .int 0, .int 0, .int 0, .int 0, .int 0, .ref ti, .ref si, .ref lo, .ref lh, .ref lk, .ref sp, .ref st, .ref pa, .ref br, .ref sg, .int mi, .int 0, .int 0, .int 0, .int fo, .int 0, .long pe, .long pn, .long re, .long rn, .int th])), (ti, .inl (cti, 2, .inl (upd (upd tf 1 (if ((tf 1) + 5) < 60 then ((tf 1) + 5) else 60)) 0 (if 0 < ((tf 0) - 5) then ((tf 0) - 5) else 0)))), (si, .inl (csi, 2, .inl sf)), (lh, .inr (3, [.int 0, .ref (z 0), .int 0]))]) (t9 := []) hP hK hD [0, 1, 2, 3] [] rfl (by decide) rfl rfl t ht hW⟩⟩, hS.F ht⟩) hS.2.2 dX15_tell_259
      · skip
        refine lv_aload_n hx hb dX15_tell_178 rfl (lv_at hl 0 rfl) ?_
        refine lv_iconst (v := 0) hx hb dX15_tell_179 (by decide) ?_
        refine lv_bipush (v := 24) hx hb dX15_tell_180 (by decide) ?_
        have hPc := hP.sub (ws' := [(mo, .inr (19, [.int 0, .int 0, .int 0, .int 0, .int 0, .int 0, .int 0, .ref ti, .ref si, .ref lo, .ref lh, .ref lk, .ref sp, .ref st, .ref pa, .ref br, .ref sg, .int mi, .int 0, .int 0, .int 0, .int fo, .int 0, .long pe, .long pn, .long re, .long rn, .int th])), (lh, .inr (3, [.int 0, .ref (z 0), .int 0]))]) [0, 3] rfl
        have hDc := hD.sub (ws' := [(mo, .inr (19, [.int 0, .int 0, .int 0, .int 0, .int 0, .int 0, .int 0, .ref ti, .ref si, .ref lo, .ref lh, .ref lk, .ref sp, .ref st, .ref pa, .ref br, .ref sg, .int mi, .int 0, .int 0, .int 0, .int fo, .int 0, .long pe, .long pn, .long re, .long rn, .int th])), (lh, .inr (3, [.int 0, .ref (z 0), .int 0]))]) [0, 3] (by decide) rfl
        have hKc := hK.sub (tys' := []) [] rfl
        have hFc := va_free (wc := [(mo, .inr (19, [.int 0, .int 0, .int 0, .int 0, .int 0, .int 0, .int 0, .ref ti, .ref si, .ref lo, .ref lh, .ref lk, .ref sp, .ref st, .ref pa, .ref br, .ref sg, .int mi, .int 0, .int 0, .int 0, .int fo, .int 0, .long pe, .long pn, .long re, .long rn, .int th])), (lh, .inr (3, [.int 0, .ref (z 0), .int 0]))]) hD hS hA [0, 3] rfl
        refine va_calli (va_runV (As := [.int 0, .int 24]) (rest := []) ⟨hx, hb, hml, hown, hts⟩ (k_mtake0 l dC dI z zK zV mi fo pe pn re rn mo ti si lo lh lk sp st pa br sg th 0 H.size) (cwV 2 hts gX15_tell_X15_take rfl rfl rfl (by decide +kernel) ⟨Nat.le_of_ble_eq_true rfl, Nat.le_of_ble_eq_true rfl⟩) ⟨kP_blind, va_recv hKc hPc (ci := 19) (q0 := 0) rfl rfl, kP_go hPc hKc hDc hFc hM hS⟩ rfl rfl hl.1 rfl (lv_room (Nat.le_of_ble_eq_true rfl)) dX15_tell_182 ⟨Nat.le_of_ble_eq_true rfl, Nat.le_of_ble_eq_true rfl⟩) hS (fun q _ h => hFc q h) hFc (fun r7 u t H1 locs ht hvm hw hB hz1 hk1 hS => ?_)
        obtain ⟨hP, hD, hK⟩ := kJ (wr := [(ti, .inl (cti, 2, .inl (upd (upd tf 1 (if ((tf 1) + 5) < 60 then ((tf 1) + 5) else 60)) 0 (if 0 < ((tf 0) - 5) then ((tf 0) - 5) else 0)))), (si, .inl (csi, 2, .inl sf))]) (w1 := [(mo, .inr (19, [.int 0, .int 0, .int 0, .int 0, .int 0, .int 0, .int 0, .ref ti, .ref si, .ref lo, .ref lh, .ref lk, .ref sp, .ref st, .ref pa, .ref br, .ref sg, .int mi, .int 0, .int 0, .int 0, .int fo, .int 0, .long pe, .long pn, .long re, .long rn, .int th])), (lh, .inr (3, [.int 0, .ref (z 0), .int 0]))]) (t1 := []) hP hD hK [0, 3] [1, 2] rfl rfl (by decide) (by decide) hk1 hFc ht hvm hB
        generalize H1 = H at hP hS ⊢
        have hP : va_P (dC, dI) vwCl [(ti, .inl (cti, 2, .inl (upd (upd tf 1 (if ((tf 1) + 5) < 60 then ((tf 1) + 5) else 60)) 0 (if 0 < ((tf 0) - 5) then ((tf 0) - 5) else 0)))), (si, .inl (csi, 2, .inl sf)), (mo, .inr (19, [.int 0, .int 0, .int 0, .int 0, .int 0, .int 0, .int 0, .ref ti, .ref si, .ref lo, .ref lh, .ref lk, .ref sp, .ref st, .ref pa, .ref br, .ref sg, .int mi, .int 0, .int 0, .int 0, .int fo, .int 0, .long pe, .long pn, .long re, .long rn, .int th])), (lh, .inr (3, [.int 0, .ref (z 0), .int 0]))] H := hP
        have hD : va_D A [(ti, .inl (cti, 2, .inl (upd (upd tf 1 (if ((tf 1) + 5) < 60 then ((tf 1) + 5) else 60)) 0 (if 0 < ((tf 0) - 5) then ((tf 0) - 5) else 0)))), (si, .inl (csi, 2, .inl sf)), (mo, .inr (19, [.int 0, .int 0, .int 0, .int 0, .int 0, .int 0, .int 0, .ref ti, .ref si, .ref lo, .ref lh, .ref lk, .ref sp, .ref st, .ref pa, .ref br, .ref sg, .int mi, .int 0, .int 0, .int 0, .int fo, .int 0, .long pe, .long pn, .long re, .long rn, .int th])), (lh, .inr (3, [.int 0, .ref (z 0), .int 0]))] := hD
        have hK : va_K (dC, dI) vwCl [(cti, .int), (csi, .int)] s := hK
        obtain rfl : 0 = r7 := hw
        refine lv_istore_n (lv' := [(1, .int 0), (0, .ref mo)]) hx hb dX15_tell_185 rfl hl (by decide) rfl (fun ls hl => ?_)
        refine lv_aload_n hx hb dX15_tell_186 rfl (lv_at hl 1 rfl) ?_
        refine lv_iconst (v := 1) hx hb dX15_tell_187 (by decide) ?_
        refine lv_bipush (v := 24) hx hb dX15_tell_188 (by decide) ?_
        have hPc := hP.sub (ws' := [(mo, .inr (19, [.int 0, .int 0, .int 0, .int 0, .int 0, .int 0, .int 0, .ref ti, .ref si, .ref lo, .ref lh, .ref lk, .ref sp, .ref st, .ref pa, .ref br, .ref sg, .int mi, .int 0, .int 0, .int 0, .int fo, .int 0, .long pe, .long pn, .long re, .long rn, .int th])), (lh, .inr (3, [.int 0, .ref (z 0), .int 0]))]) [2, 3] rfl
        have hDc := hD.sub (ws' := [(mo, .inr (19, [.int 0, .int 0, .int 0, .int 0, .int 0, .int 0, .int 0, .ref ti, .ref si, .ref lo, .ref lh, .ref lk, .ref sp, .ref st, .ref pa, .ref br, .ref sg, .int mi, .int 0, .int 0, .int 0, .int fo, .int 0, .long pe, .long pn, .long re, .long rn, .int th])), (lh, .inr (3, [.int 0, .ref (z 0), .int 0]))]) [2, 3] (by decide) rfl
        have hKc := hK.sub (tys' := []) [] rfl
        have hFc := va_free (wc := [(mo, .inr (19, [.int 0, .int 0, .int 0, .int 0, .int 0, .int 0, .int 0, .ref ti, .ref si, .ref lo, .ref lh, .ref lk, .ref sp, .ref st, .ref pa, .ref br, .ref sg, .int mi, .int 0, .int 0, .int 0, .int fo, .int 0, .long pe, .long pn, .long re, .long rn, .int th])), (lh, .inr (3, [.int 0, .ref (z 0), .int 0]))]) hD hS hA [2, 3] rfl
        refine va_calli (va_runV (As := [.int 1, .int 24]) (rest := []) ⟨hx, hb, hml, hown, hts⟩ (k_mtake1 l dC dI z zK zV mi fo pe pn re rn mo ti si lo lh lk sp st pa br sg th 0 H.size) (cwV 2 hts gX15_tell_X15_take rfl rfl rfl (by decide +kernel) ⟨Nat.le_of_ble_eq_true rfl, Nat.le_of_ble_eq_true rfl⟩) ⟨kP_blind, va_recv hKc hPc (ci := 19) (q0 := 0) rfl rfl, kP_go hPc hKc hDc hFc hM hS⟩ rfl rfl hl.1 rfl (lv_room (Nat.le_of_ble_eq_true rfl)) dX15_tell_190 ⟨Nat.le_of_ble_eq_true rfl, Nat.le_of_ble_eq_true rfl⟩) hS (fun q _ h => hFc q h) hFc (fun r8 u t H1 locs ht hvm hw hB hz1 hk1 hS => ?_)
        obtain ⟨hP, hD, hK⟩ := kJ (wr := [(ti, .inl (cti, 2, .inl (upd (upd tf 1 (if ((tf 1) + 5) < 60 then ((tf 1) + 5) else 60)) 0 (if 0 < ((tf 0) - 5) then ((tf 0) - 5) else 0)))), (si, .inl (csi, 2, .inl sf))]) (w1 := [(mo, .inr (19, [.int 0, .int 0, .int 0, .int 0, .int 0, .int 0, .int 0, .ref ti, .ref si, .ref lo, .ref lh, .ref lk, .ref sp, .ref st, .ref pa, .ref br, .ref sg, .int mi, .int 0, .int 0, .int 0, .int fo, .int 0, .long pe, .long pn, .long re, .long rn, .int th])), (lh, .inr (3, [.int 0, .ref (z 0), .int 0]))]) (t1 := []) hP hD hK [2, 3] [0, 1] rfl rfl (by decide) (by decide) hk1 hFc ht hvm hB
        generalize H1 = H at hP hS ⊢
        have hP : va_P (dC, dI) vwCl [(ti, .inl (cti, 2, .inl (upd (upd tf 1 (if ((tf 1) + 5) < 60 then ((tf 1) + 5) else 60)) 0 (if 0 < ((tf 0) - 5) then ((tf 0) - 5) else 0)))), (si, .inl (csi, 2, .inl sf)), (mo, .inr (19, [.int 0, .int 0, .int 0, .int 0, .int 0, .int 0, .int 0, .ref ti, .ref si, .ref lo, .ref lh, .ref lk, .ref sp, .ref st, .ref pa, .ref br, .ref sg, .int mi, .int 0, .int 0, .int 0, .int fo, .int 0, .long pe, .long pn, .long re, .long rn, .int th])), (lh, .inr (3, [.int 0, .ref (z 0), .int 0]))] H := hP
        have hD : va_D A [(ti, .inl (cti, 2, .inl (upd (upd tf 1 (if ((tf 1) + 5) < 60 then ((tf 1) + 5) else 60)) 0 (if 0 < ((tf 0) - 5) then ((tf 0) - 5) else 0)))), (si, .inl (csi, 2, .inl sf)), (mo, .inr (19, [.int 0, .int 0, .int 0, .int 0, .int 0, .int 0, .int 0, .ref ti, .ref si, .ref lo, .ref lh, .ref lk, .ref sp, .ref st, .ref pa, .ref br, .ref sg, .int mi, .int 0, .int 0, .int 0, .int fo, .int 0, .long pe, .long pn, .long re, .long rn, .int th])), (lh, .inr (3, [.int 0, .ref (z 0), .int 0]))] := hD
        have hK : va_K (dC, dI) vwCl [(cti, .int), (csi, .int)] s := hK
        obtain rfl : 0 = r8 := hw
        refine lv_istore_n (lv' := [(2, .int 0), (1, .int 0), (0, .ref mo)]) hx hb dX15_tell_193 rfl hl (by decide) rfl (fun ls hl => ?_)
        refine lv_iconst (v := 0) hx hb dX15_tell_194 (by decide) ?_
        refine lv_istore_n (lv' := [(3, .int 0), (2, .int 0), (1, .int 0), (0, .ref mo)]) hx hb dX15_tell_195 rfl hl (by decide) rfl (fun ls hl => ?_)
        refine lv_iload_n hx hb dX15_tell_196 rfl (lv_at hl 0 rfl) ?_
        refine lv_iconst (v := 2) hx hb dX15_tell_197 (by decide) ?_
        refine lv_icmp_ge (tgt := 249) hx hb dX15_tell_198 (by decide) (fun c_ => absurd c_ (by decide +kernel)) (fun _ => ?_)
        refine lv_aload_n hx hb dX15_tell_201 rfl (lv_at hl 3 rfl) ?_
        refine va_get (D := (dC, dI)) (ci := 19) (v := .ref si) (C := RX15) (T := TX15) (N := 28) hx hb hts hiX15 hown hK hP 2 rfl rfl 8 (by decide) (hts (.fieldLink RX15 13 "SquareRigModel" "sick" "[I") (by decide +kernel)) (fun _ h9 => h9) rfl dX15_tell_202 ?_
        refine lv_iload_n hx hb dX15_tell_205 rfl (lv_at hl 0 rfl) ?_
        refine lv_iload_n hx hb dX15_tell_206 rfl (lv_at hl 2 rfl) ?_
        refine lv_if_eq (tgt := 229) hx hb dX15_tell_207 (by decide) (fun _ => ?_) (fun c_ => absurd (by decide +kernel) c_)
        refine lv_bipush (v := 12) hx hb dX15_tell_229 (by decide) ?_
        refine lv_aload_n hx hb dX15_tell_231 rfl (lv_at hl 3 rfl) ?_
        refine va_get (D := (dC, dI)) (ci := 19) (v := .ref si) (C := RX15) (T := TX15) (N := 28) hx hb hts hiX15 hown hK hP 2 rfl rfl 8 (by decide) (hts (.fieldLink RX15 13 "SquareRigModel" "sick" "[I") (by decide +kernel)) (fun _ h9 => h9) rfl dX15_tell_232 ?_
        refine lv_iload_n hx hb dX15_tell_235 rfl (lv_at hl 0 rfl) ?_
        refine va_iald hx hb hK hP 1 1 rfl rfl (pk_in 0 2 (by decide) rfl) dX15_tell_236 ?_
        refine kc_v (y := .int (sf 0)) rfl ?_
        refine lv_iconst (v := 1) hx hb dX15_tell_237 (by decide) ?_
        refine lv_iadd hx hb dX15_tell_238 ?_
        refine va_mmin hx hb (hml.trans hl.1.symm) hown (hts (.methodLink RX15 75 Lib.Math.min.name) (by decide +kernel)) (hts (.static Lib.Math.min.name) (by decide +kernel)) (hts (.initialized "java/lang/Math") (by decide +kernel)) (hts (.code Lib.Math.min.name Lib.Math.min.code 2 (some .int)) (by decide +kernel)) (Nat.le_of_ble_eq_true rfl) (Nat.le_of_ble_eq_true rfl) (Nat.le_of_ble_eq_true rfl) (Nat.le_of_ble_eq_true rfl) dX15_tell_239 ?_
        refine va_iast hx hb hK hP hD hS 1 1 rfl rfl (pk_in 0 2 (by decide) rfl) dX15_tell_242 (fun H locs hP hD hS => ?_)
        have hP : va_P (dC, dI) vwCl [(ti, .inl (cti, 2, .inl (upd (upd tf 1 (if ((tf 1) + 5) < 60 then ((tf 1) + 5) else 60)) 0 (if 0 < ((tf 0) - 5) then ((tf 0) - 5) else 0)))), (si, .inl (csi, 2, .inl (upd sf 0 (if ((sf 0) + 1) < 12 then ((sf 0) + 1) else 12)))), (mo, .inr (19, [.int 0, .int 0, .int 0, .int 0, .int 0, .int 0, .int 0, .ref ti, .ref si, .ref lo, .ref lh, .ref lk, .ref sp, .ref st, .ref pa, .ref br, .ref sg, .int mi, .int 0, .int 0, .int 0, .int fo, .int 0, .long pe, .long pn, .long re, .long rn, .int th])), (lh, .inr (3, [.int 0, .ref (z 0), .int 0]))] H := hP
        have hD : va_D A [(ti, .inl (cti, 2, .inl (upd (upd tf 1 (if ((tf 1) + 5) < 60 then ((tf 1) + 5) else 60)) 0 (if 0 < ((tf 0) - 5) then ((tf 0) - 5) else 0)))), (si, .inl (csi, 2, .inl (upd sf 0 (if ((sf 0) + 1) < 12 then ((sf 0) + 1) else 12)))), (mo, .inr (19, [.int 0, .int 0, .int 0, .int 0, .int 0, .int 0, .int 0, .ref ti, .ref si, .ref lo, .ref lh, .ref lk, .ref sp, .ref st, .ref pa, .ref br, .ref sg, .int mi, .int 0, .int 0, .int 0, .int fo, .int 0, .long pe, .long pn, .long re, .long rn, .int th])), (lh, .inr (3, [.int 0, .ref (z 0), .int 0]))] := hD
        refine lv_iinc (v := 1) (lv' := [(3, .int 1), (2, .int 0), (1, .int 0), (0, .ref mo)]) hx hb dX15_tell_243 hl (k := 0) rfl (by decide +kernel) (by decide) rfl (fun ls hl => ?_)
        refine lv_goto (tgt := 196) hx hb dX15_tell_246 (by decide) ?_
        refine lv_iload_n hx hb dX15_tell_196 rfl (lv_at hl 0 rfl) ?_
        refine lv_iconst (v := 2) hx hb dX15_tell_197 (by decide) ?_
        refine lv_icmp_ge (tgt := 249) hx hb dX15_tell_198 (by decide) (fun c_ => absurd c_ (by decide +kernel)) (fun _ => ?_)
        refine lv_aload_n hx hb dX15_tell_201 rfl (lv_at hl 3 rfl) ?_
        refine va_get (D := (dC, dI)) (ci := 19) (v := .ref si) (C := RX15) (T := TX15) (N := 28) hx hb hts hiX15 hown hK hP 2 rfl rfl 8 (by decide) (hts (.fieldLink RX15 13 "SquareRigModel" "sick" "[I") (by decide +kernel)) (fun _ h9 => h9) rfl dX15_tell_202 ?_
        refine lv_iload_n hx hb dX15_tell_205 rfl (lv_at hl 0 rfl) ?_
        refine lv_iload_n hx hb dX15_tell_206 rfl (lv_at hl 2 rfl) ?_
        refine lv_if_eq (tgt := 229) hx hb dX15_tell_207 (by decide) (fun _ => ?_) (fun c_ => absurd (by decide +kernel) c_)
        refine lv_bipush (v := 12) hx hb dX15_tell_229 (by decide) ?_
        refine lv_aload_n hx hb dX15_tell_231 rfl (lv_at hl 3 rfl) ?_
        refine va_get (D := (dC, dI)) (ci := 19) (v := .ref si) (C := RX15) (T := TX15) (N := 28) hx hb hts hiX15 hown hK hP 2 rfl rfl 8 (by decide) (hts (.fieldLink RX15 13 "SquareRigModel" "sick" "[I") (by decide +kernel)) (fun _ h9 => h9) rfl dX15_tell_232 ?_
        refine lv_iload_n hx hb dX15_tell_235 rfl (lv_at hl 0 rfl) ?_
        refine va_iald hx hb hK hP 1 1 rfl rfl (pk_in 1 2 (by decide) rfl) dX15_tell_236 ?_
        refine kc_v (y := .int (sf 1)) rfl ?_
        refine lv_iconst (v := 1) hx hb dX15_tell_237 (by decide) ?_
        refine lv_iadd hx hb dX15_tell_238 ?_
        refine va_mmin hx hb (hml.trans hl.1.symm) hown (hts (.methodLink RX15 75 Lib.Math.min.name) (by decide +kernel)) (hts (.static Lib.Math.min.name) (by decide +kernel)) (hts (.initialized "java/lang/Math") (by decide +kernel)) (hts (.code Lib.Math.min.name Lib.Math.min.code 2 (some .int)) (by decide +kernel)) (Nat.le_of_ble_eq_true rfl) (Nat.le_of_ble_eq_true rfl) (Nat.le_of_ble_eq_true rfl) (Nat.le_of_ble_eq_true rfl) dX15_tell_239 ?_
        refine va_iast hx hb hK hP hD hS 1 1 rfl rfl (pk_in 1 2 (by decide) rfl) dX15_tell_242 (fun H locs hP hD hS => ?_)
        have hP : va_P (dC, dI) vwCl [(ti, .inl (cti, 2, .inl (upd (upd tf 1 (if ((tf 1) + 5) < 60 then ((tf 1) + 5) else 60)) 0 (if 0 < ((tf 0) - 5) then ((tf 0) - 5) else 0)))), (si, .inl (csi, 2, .inl (upd (upd sf 0 (if ((sf 0) + 1) < 12 then ((sf 0) + 1) else 12)) 1 (if ((sf 1) + 1) < 12 then ((sf 1) + 1) else 12)))), (mo, .inr (19, [.int 0, .int 0, .int 0, .int 0, .int 0, .int 0, .int 0, .ref ti, .ref si, .ref lo, .ref lh, .ref lk, .ref sp, .ref st, .ref pa, .ref br, .ref sg, .int mi, .int 0, .int 0, .int 0, .int fo, .int 0, .long pe, .long pn, .long re, .long rn, .int th])), (lh, .inr (3, [.int 0, .ref (z 0), .int 0]))] H := hP
        have hD : va_D A [(ti, .inl (cti, 2, .inl (upd (upd tf 1 (if ((tf 1) + 5) < 60 then ((tf 1) + 5) else 60)) 0 (if 0 < ((tf 0) - 5) then ((tf 0) - 5) else 0)))), (si, .inl (csi, 2, .inl (upd (upd sf 0 (if ((sf 0) + 1) < 12 then ((sf 0) + 1) else 12)) 1 (if ((sf 1) + 1) < 12 then ((sf 1) + 1) else 12)))), (mo, .inr (19, [.int 0, .int 0, .int 0, .int 0, .int 0, .int 0, .int 0, .ref ti, .ref si, .ref lo, .ref lh, .ref lk, .ref sp, .ref st, .ref pa, .ref br, .ref sg, .int mi, .int 0, .int 0, .int 0, .int fo, .int 0, .long pe, .long pn, .long re, .long rn, .int th])), (lh, .inr (3, [.int 0, .ref (z 0), .int 0]))] := hD
        refine lv_iinc (v := 2) (lv' := [(3, .int 2), (2, .int 0), (1, .int 0), (0, .ref mo)]) hx hb dX15_tell_243 hl (k := 0) rfl (by decide +kernel) (by decide) rfl (fun ls hl => ?_)
        refine lv_goto (tgt := 196) hx hb dX15_tell_246 (by decide) ?_
        refine lv_iload_n hx hb dX15_tell_196 rfl (lv_at hl 0 rfl) ?_
        refine lv_iconst (v := 2) hx hb dX15_tell_197 (by decide) ?_
        refine lv_icmp_ge (tgt := 249) hx hb dX15_tell_198 (by decide) (fun _ => ?_) (fun c_ => absurd (by decide +kernel) c_)
        refine lv_aload_n hx hb dX15_tell_249 rfl (lv_at hl 3 rfl) ?_
        refine lv_dup hx hb dX15_tell_250 rfl ?_
        refine va_get (D := (dC, dI)) (ci := 19) (v := .int fo) (C := RX15) (T := TX15) (N := 28) hx hb hts hiX15 hown hK hP 2 rfl rfl 21 (by decide) (hts (.fieldLink RX15 262 "SquareRigModel" "foul" "I") (by decide +kernel)) (fun _ h9 => h9) rfl dX15_tell_251 ?_
        refine lv_iconst (v := 1) hx hb dX15_tell_254 (by decide) ?_
        refine lv_iadd hx hb dX15_tell_255 ?_
        refine va_put (D := (dC, dI)) (ci := 19) (v := .int (fo + 1)) (ty := .int) (C := RX15) (T := TX15) (N := 28) hx hb hts hiX15 tyX15 tyX15_ok nmX15 hown hK hP hD hS 2 rfl rfl 21 (by decide) (hts (.fieldLink RX15 262 "SquareRigModel" "foul" "I") (by decide +kernel)) (fun _ h9 => h9) rfl (by decide +kernel) rfl rfl (Nat.le_of_ble_eq_true rfl) dX15_tell_256 (fun H locs hP hD hS => ?_)
        have hP : va_P (dC, dI) vwCl [(ti, .inl (cti, 2, .inl (upd (upd tf 1 (if ((tf 1) + 5) < 60 then ((tf 1) + 5) else 60)) 0 (if 0 < ((tf 0) - 5) then ((tf 0) - 5) else 0)))), (si, .inl (csi, 2, .inl (upd (upd sf 0 (if ((sf 0) + 1) < 12 then ((sf 0) + 1) else 12)) 1 (if ((sf 1) + 1) < 12 then ((sf 1) + 1) else 12)))), (mo, .inr (19, [.int 0, .int 0, .int 0, .int 0, .int 0, .int 0, .int 0, .ref ti, .ref si, .ref lo, .ref lh, .ref lk, .ref sp, .ref st, .ref pa, .ref br, .ref sg, .int mi, .int 0, .int 0, .int 0, .int (fo + 1), .int 0, .long pe, .long pn, .long re, .long rn, .int th])), (lh, .inr (3, [.int 0, .ref (z 0), .int 0]))] H := hP
        have hD : va_D A [(ti, .inl (cti, 2, .inl (upd (upd tf 1 (if ((tf 1) + 5) < 60 then ((tf 1) + 5) else 60)) 0 (if 0 < ((tf 0) - 5) then ((tf 0) - 5) else 0)))), (si, .inl (csi, 2, .inl (upd (upd sf 0 (if ((sf 0) + 1) < 12 then ((sf 0) + 1) else 12)) 1 (if ((sf 1) + 1) < 12 then ((sf 1) + 1) else 12)))), (mo, .inr (19, [.int 0, .int 0, .int 0, .int 0, .int 0, .int 0, .int 0, .ref ti, .ref si, .ref lo, .ref lh, .ref lk, .ref sp, .ref st, .ref pa, .ref br, .ref sg, .int mi, .int 0, .int 0, .int 0, .int (fo + 1), .int 0, .long pe, .long pn, .long re, .long rn, .int th])), (lh, .inr (3, [.int 0, .ref (z 0), .int 0]))] := hD
        exact W.vret hx hb hr (fun t ht hW => ⟨⟨(), rfl, trivial, ⟨0, (fo + 1), re, rn, (upd (upd tf 1 (if ((tf 1) + 5) < 60 then ((tf 1) + 5) else 60)) 0 (if 0 < ((tf 0) - 5) then ((tf 0) - 5) else 0)), (upd (upd sf 0 (if ((sf 0) + 1) < 12 then ((sf 0) + 1) else 12)) 1 (if ((sf 1) + 1) < 12 then ((sf 1) + 1) else 12)), (Or.inl rfl), (Or.inr rfl), kB_end (w9 := [(mo, .inr (19, [.int 0, .int 0, .int 0, .int 0, .int 0, .int 0, .int 0, .ref ti, .ref si, .ref lo, .ref lh, .ref lk, .ref sp, .ref st, .ref pa, .ref br, .ref sg, .int mi, .int 0, .int 0, .int 0, .int (fo + 1), .int 0, .long pe, .long pn, .long re, .long rn, .int th])), (ti, .inl (cti, 2, .inl (upd (upd tf 1 (if ((tf 1) + 5) < 60 then ((tf 1) + 5) else 60)) 0 (if 0 < ((tf 0) - 5) then ((tf 0) - 5) else 0)))), (si, .inl (csi, 2, .inl (upd (upd sf 0 (if ((sf 0) + 1) < 12 then ((sf 0) + 1) else 12)) 1 (if ((sf 1) + 1) < 12 then ((sf 1) + 1) else 12)))), (lh, .inr (3, [.int 0, .ref (z 0), .int 0]))]) (t9 := []) hP hK hD [2, 0, 1, 3] [] rfl (by decide) rfl rfl t ht hW⟩⟩, hS.F ht⟩) hS.2.2 dX15_tell_259
  · skip
    refine lv_ldc2 (v := 30) hx hb hown (hts (.constantLong RX15 290 30) (by decide +kernel)) dX15_tell_10 ?_
    refine lv_aload_n hx hb dX15_tell_13 rfl (lv_at hl 0 rfl) ?_
    refine va_get (D := (dC, dI)) (ci := 19) (v := .int 0) (C := RX15) (T := TX15) (N := 28) hx hb hts hiX15 hown hK hP 0 rfl rfl 19 (by decide) (hts (.fieldLink RX15 265 "SquareRigModel" "speed" "I") (by decide +kernel)) (fun _ h9 => h9) rfl dX15_tell_14 ?_
    refine lv_bipush (v := 10) hx hb dX15_tell_17 (by decide) ?_
    refine lv_idiv hx hb dX15_tell_19 (by decide +kernel) ?_
    refine kc_i (y := 0) (by decide +kernel) ?_
    refine lv_i2l (v := 0) hx hb dX15_tell_20 (by decide +kernel) ?_
    refine lv_lmul hx hb dX15_tell_21 ?_
    refine kc_l (y := 0) (by decide +kernel) ?_
    refine lv_ldc2 (v := 10) hx hb hown (hts (.constantLong RX15 292 10) (by decide +kernel)) dX15_tell_22 ?_
    refine lv_lmul hx hb dX15_tell_25 ?_
    refine kc_l (y := 0) (by decide +kernel) ?_
    refine lv_lstore_n (lv' := [(1, .long 0), (0, .ref mo)]) hx hb dX15_tell_26 rfl hl (by decide) rfl (fun ls hl => ?_)
    refine lv_aload_n hx hb dX15_tell_27 rfl (lv_at hl 1 rfl) ?_
    refine lv_dup hx hb dX15_tell_28 rfl ?_
    refine va_get (D := (dC, dI)) (ci := 19) (v := .long rn) (C := RX15) (T := TX15) (N := 28) hx hb hts hiX15 hown hK hP 0 rfl rfl 26 (by decide) (hts (.fieldLink RX15 294 "SquareRigModel" "reckonedNorth" "J") (by decide +kernel)) (fun _ h9 => h9) rfl dX15_tell_29 ?_
    refine lv_lload_n hx hb dX15_tell_32 rfl (lv_at hl 0 rfl) ?_
    refine lv_aload_n hx hb dX15_tell_33 rfl (lv_at hl 1 rfl) ?_
    refine va_get (D := (dC, dI)) (ci := 19) (v := .int 0) (C := RX15) (T := TX15) (N := 28) hx hb hts hiX15 hown hK hP 0 rfl rfl 18 (by decide) (hts (.fieldLink RX15 68 "SquareRigModel" "heading" "I") (by decide +kernel)) (fun _ h9 => h9) rfl dX15_tell_34 ?_
    have hPc := hP.sub (ws' := []) [] rfl
    have hDc := hD.sub (ws' := []) [] (by decide) rfl
    have hKc := hK.sub (tys' := []) [] rfl
    have hFc := va_free (wc := []) hD hS hA [] rfl
    refine va_calli (va_runS (As := [.int 0]) (rest := [.long 0, .long rn, .ref mo]) ⟨hx, hb, hml, hown, hts⟩ (k_northOf_0 l dC dI z zK zV  s.heap.size) (va_cwS 1 hts gX15_tell_X15_northOf rfl rfl rfl (by decide +kernel) ⟨Nat.le_of_ble_eq_true rfl, Nat.le_of_ble_eq_true rfl⟩) ⟨kP_blind, kP_go hPc hKc hDc hFc hM hS⟩ rfl rfl hl.1 rfl (lv_room (Nat.le_of_ble_eq_true rfl)) dX15_tell_37 ⟨Nat.le_of_ble_eq_true rfl, Nat.le_of_ble_eq_true rfl⟩) hS (fun q _ h => hFc q h) hFc (fun r9 u t H1 locs ht hvm hw hB hz1 hk1 hS => ?_)
    obtain ⟨hP, hD, hK⟩ := kJ (wr := [(mo, .inr (19, [.int 0, .int 0, .int 0, .int 0, .int 0, .int 0, .int 1, .ref ti, .ref si, .ref lo, .ref lh, .ref lk, .ref sp, .ref st, .ref pa, .ref br, .ref sg, .int mi, .int 0, .int 0, .int 0, .int fo, .int 0, .long pe, .long pn, .long re, .long rn, .int th])), (ti, .inl (cti, 2, .inl tf)), (si, .inl (csi, 2, .inl sf)), (lh, .inr (3, [.int 0, .ref (z 0), .int 0]))]) (w1 := []) (t1 := []) hP hD hK [] [0, 1, 2, 3] rfl rfl (by decide) (by decide) hk1 hFc ht hvm hB
    generalize H1 = H at hP hS ⊢
    have hP : va_P (dC, dI) vwCl [(mo, .inr (19, [.int 0, .int 0, .int 0, .int 0, .int 0, .int 0, .int 1, .ref ti, .ref si, .ref lo, .ref lh, .ref lk, .ref sp, .ref st, .ref pa, .ref br, .ref sg, .int mi, .int 0, .int 0, .int 0, .int fo, .int 0, .long pe, .long pn, .long re, .long rn, .int th])), (ti, .inl (cti, 2, .inl tf)), (si, .inl (csi, 2, .inl sf)), (lh, .inr (3, [.int 0, .ref (z 0), .int 0]))] H := hP
    have hD : va_D A [(mo, .inr (19, [.int 0, .int 0, .int 0, .int 0, .int 0, .int 0, .int 1, .ref ti, .ref si, .ref lo, .ref lh, .ref lk, .ref sp, .ref st, .ref pa, .ref br, .ref sg, .int mi, .int 0, .int 0, .int 0, .int fo, .int 0, .long pe, .long pn, .long re, .long rn, .int th])), (ti, .inl (cti, 2, .inl tf)), (si, .inl (csi, 2, .inl sf)), (lh, .inr (3, [.int 0, .ref (z 0), .int 0]))] := hD
    have hK : va_K (dC, dI) vwCl [(cti, .int), (csi, .int)] s := hK
    obtain rfl : 100 = r9 := hw
    refine lv_i2l (v := 100) hx hb dX15_tell_40 (by decide +kernel) ?_
    refine lv_lmul hx hb dX15_tell_41 ?_
    refine kc_l (y := 0) (by decide +kernel) ?_
    refine lv_ladd hx hb dX15_tell_42 ?_
    refine va_put (D := (dC, dI)) (ci := 19) (v := .long (rn + 0)) (ty := .long) (C := RX15) (T := TX15) (N := 28) hx hb hts hiX15 tyX15 tyX15_ok nmX15 hown hK hP hD hS 0 rfl rfl 26 (by decide) (hts (.fieldLink RX15 294 "SquareRigModel" "reckonedNorth" "J") (by decide +kernel)) (fun _ h9 => h9) rfl (by decide +kernel) rfl rfl (Nat.le_of_ble_eq_true rfl) dX15_tell_43 (fun H locs hP hD hS => ?_)
    have hP : va_P (dC, dI) vwCl [(mo, .inr (19, [.int 0, .int 0, .int 0, .int 0, .int 0, .int 0, .int 1, .ref ti, .ref si, .ref lo, .ref lh, .ref lk, .ref sp, .ref st, .ref pa, .ref br, .ref sg, .int mi, .int 0, .int 0, .int 0, .int fo, .int 0, .long pe, .long pn, .long re, .long (rn + 0), .int th])), (ti, .inl (cti, 2, .inl tf)), (si, .inl (csi, 2, .inl sf)), (lh, .inr (3, [.int 0, .ref (z 0), .int 0]))] H := hP
    have hD : va_D A [(mo, .inr (19, [.int 0, .int 0, .int 0, .int 0, .int 0, .int 0, .int 1, .ref ti, .ref si, .ref lo, .ref lh, .ref lk, .ref sp, .ref st, .ref pa, .ref br, .ref sg, .int mi, .int 0, .int 0, .int 0, .int fo, .int 0, .long pe, .long pn, .long re, .long (rn + 0), .int th])), (ti, .inl (cti, 2, .inl tf)), (si, .inl (csi, 2, .inl sf)), (lh, .inr (3, [.int 0, .ref (z 0), .int 0]))] := hD
    refine lv_aload_n hx hb dX15_tell_46 rfl (lv_at hl 1 rfl) ?_
    refine lv_dup hx hb dX15_tell_47 rfl ?_
    refine va_get (D := (dC, dI)) (ci := 19) (v := .long re) (C := RX15) (T := TX15) (N := 28) hx hb hts hiX15 hown hK hP 0 rfl rfl 25 (by decide) (hts (.fieldLink RX15 297 "SquareRigModel" "reckonedEast" "J") (by decide +kernel)) (fun _ h9 => h9) rfl dX15_tell_48 ?_
    refine lv_lload_n hx hb dX15_tell_51 rfl (lv_at hl 0 rfl) ?_
    refine lv_aload_n hx hb dX15_tell_52 rfl (lv_at hl 1 rfl) ?_
    refine va_get (D := (dC, dI)) (ci := 19) (v := .int 0) (C := RX15) (T := TX15) (N := 28) hx hb hts hiX15 hown hK hP 0 rfl rfl 18 (by decide) (hts (.fieldLink RX15 68 "SquareRigModel" "heading" "I") (by decide +kernel)) (fun _ h9 => h9) rfl dX15_tell_53 ?_
    have hPc := hP.sub (ws' := []) [] rfl
    have hDc := hD.sub (ws' := []) [] (by decide) rfl
    have hKc := hK.sub (tys' := []) [] rfl
    have hFc := va_free (wc := []) hD hS hA [] rfl
    refine va_calli (va_runS (As := [.int 0]) (rest := [.long 0, .long re, .ref mo]) ⟨hx, hb, hml, hown, hts⟩ (k_eastOf_0 l dC dI z zK zV  H.size) (va_cwS 1 hts gX15_tell_X15_eastOf rfl rfl rfl (by decide +kernel) ⟨Nat.le_of_ble_eq_true rfl, Nat.le_of_ble_eq_true rfl⟩) ⟨kP_blind, kP_go hPc hKc hDc hFc hM hS⟩ rfl rfl hl.1 rfl (lv_room (Nat.le_of_ble_eq_true rfl)) dX15_tell_56 ⟨Nat.le_of_ble_eq_true rfl, Nat.le_of_ble_eq_true rfl⟩) hS (fun q _ h => hFc q h) hFc (fun r10 u t H1 locs ht hvm hw hB hz1 hk1 hS => ?_)
    obtain ⟨hP, hD, hK⟩ := kJ (wr := [(mo, .inr (19, [.int 0, .int 0, .int 0, .int 0, .int 0, .int 0, .int 1, .ref ti, .ref si, .ref lo, .ref lh, .ref lk, .ref sp, .ref st, .ref pa, .ref br, .ref sg, .int mi, .int 0, .int 0, .int 0, .int fo, .int 0, .long pe, .long pn, .long re, .long (rn + 0), .int th])), (ti, .inl (cti, 2, .inl tf)), (si, .inl (csi, 2, .inl sf)), (lh, .inr (3, [.int 0, .ref (z 0), .int 0]))]) (w1 := []) (t1 := []) hP hD hK [] [0, 1, 2, 3] rfl rfl (by decide) (by decide) hk1 hFc ht hvm hB
    generalize H1 = H at hP hS ⊢
    have hP : va_P (dC, dI) vwCl [(mo, .inr (19, [.int 0, .int 0, .int 0, .int 0, .int 0, .int 0, .int 1, .ref ti, .ref si, .ref lo, .ref lh, .ref lk, .ref sp, .ref st, .ref pa, .ref br, .ref sg, .int mi, .int 0, .int 0, .int 0, .int fo, .int 0, .long pe, .long pn, .long re, .long (rn + 0), .int th])), (ti, .inl (cti, 2, .inl tf)), (si, .inl (csi, 2, .inl sf)), (lh, .inr (3, [.int 0, .ref (z 0), .int 0]))] H := hP
    have hD : va_D A [(mo, .inr (19, [.int 0, .int 0, .int 0, .int 0, .int 0, .int 0, .int 1, .ref ti, .ref si, .ref lo, .ref lh, .ref lk, .ref sp, .ref st, .ref pa, .ref br, .ref sg, .int mi, .int 0, .int 0, .int 0, .int fo, .int 0, .long pe, .long pn, .long re, .long (rn + 0), .int th])), (ti, .inl (cti, 2, .inl tf)), (si, .inl (csi, 2, .inl sf)), (lh, .inr (3, [.int 0, .ref (z 0), .int 0]))] := hD
    have hK : va_K (dC, dI) vwCl [(cti, .int), (csi, .int)] s := hK
    obtain rfl : 0 = r10 := hw
    refine lv_i2l (v := 0) hx hb dX15_tell_59 (by decide +kernel) ?_
    refine lv_lmul hx hb dX15_tell_60 ?_
    refine kc_l (y := 0) (by decide +kernel) ?_
    refine lv_ladd hx hb dX15_tell_61 ?_
    refine va_put (D := (dC, dI)) (ci := 19) (v := .long (re + 0)) (ty := .long) (C := RX15) (T := TX15) (N := 28) hx hb hts hiX15 tyX15 tyX15_ok nmX15 hown hK hP hD hS 0 rfl rfl 25 (by decide) (hts (.fieldLink RX15 297 "SquareRigModel" "reckonedEast" "J") (by decide +kernel)) (fun _ h9 => h9) rfl (by decide +kernel) rfl rfl (Nat.le_of_ble_eq_true rfl) dX15_tell_62 (fun H locs hP hD hS => ?_)
    have hP : va_P (dC, dI) vwCl [(mo, .inr (19, [.int 0, .int 0, .int 0, .int 0, .int 0, .int 0, .int 1, .ref ti, .ref si, .ref lo, .ref lh, .ref lk, .ref sp, .ref st, .ref pa, .ref br, .ref sg, .int mi, .int 0, .int 0, .int 0, .int fo, .int 0, .long pe, .long pn, .long (re + 0), .long (rn + 0), .int th])), (ti, .inl (cti, 2, .inl tf)), (si, .inl (csi, 2, .inl sf)), (lh, .inr (3, [.int 0, .ref (z 0), .int 0]))] H := hP
    have hD : va_D A [(mo, .inr (19, [.int 0, .int 0, .int 0, .int 0, .int 0, .int 0, .int 1, .ref ti, .ref si, .ref lo, .ref lh, .ref lk, .ref sp, .ref st, .ref pa, .ref br, .ref sg, .int mi, .int 0, .int 0, .int 0, .int fo, .int 0, .long pe, .long pn, .long (re + 0), .long (rn + 0), .int th])), (ti, .inl (cti, 2, .inl tf)), (si, .inl (csi, 2, .inl sf)), (lh, .inr (3, [.int 0, .ref (z 0), .int 0]))] := hD
    refine lv_aload_n hx hb dX15_tell_65 rfl (lv_at hl 1 rfl) ?_
    refine va_get (D := (dC, dI)) (ci := 19) (v := .int mi) (C := RX15) (T := TX15) (N := 28) hx hb hts hiX15 hown hK hP 0 rfl rfl 17 (by decide) (hts (.fieldLink RX15 163 "SquareRigModel" "minute" "I") (by decide +kernel)) (fun _ h9 => h9) rfl dX15_tell_66 ?_
    refine lv_sipush (v := 240) hx hb dX15_tell_69 (by decide) ?_
    refine lv_irem hx hb dX15_tell_72 (by decide +kernel) ?_
    refine lv_if_ne (tgt := 167) hx hb dX15_tell_73 (by decide) (fun c11 => ?_) (fun c11 => ?_)
    · skip
      refine lv_aload_n hx hb dX15_tell_167 rfl (lv_at hl 1 rfl) ?_
      refine va_get (D := (dC, dI)) (ci := 19) (v := .int mi) (C := RX15) (T := TX15) (N := 28) hx hb hts hiX15 hown hK hP 0 rfl rfl 17 (by decide) (hts (.fieldLink RX15 163 "SquareRigModel" "minute" "I") (by decide +kernel)) (fun _ h9 => h9) rfl dX15_tell_168 ?_
      refine lv_sipush (v := 1440) hx hb dX15_tell_171 (by decide) ?_
      refine lv_irem hx hb dX15_tell_174 (by decide +kernel) ?_
      refine lv_if_ne (tgt := 259) hx hb dX15_tell_175 (by decide) (fun c12 => ?_) (fun c12 => ?_)
      · skip
        exact W.vret hx hb hr (fun t ht hW => ⟨⟨(), rfl, trivial, ⟨1, fo, (re + 0), (rn + 0), tf, sf, (Or.inr rfl), (Or.inl rfl), kB_end (w9 := [(mo, .inr (19, [.int 0, .int 0, .int 0, .int 0, .int 0, .int 0, .int 1, .ref ti, .ref si, .ref lo, .ref lh, .ref lk, .ref sp, .ref st, .ref pa, .ref br, .ref sg, .int mi, .int 0, .int 0, .int 0, .int fo, .int 0, .long pe, .long pn, .long (re + 0), .long (rn + 0), .int th])), (ti, .inl (cti, 2, .inl tf)), (si, .inl (csi, 2, .inl sf)), (lh, .inr (3, [.int 0, .ref (z 0), .int 0]))]) (t9 := []) hP hK hD [0, 1, 2, 3] [] rfl (by decide) rfl rfl t ht hW⟩⟩, hS.F ht⟩) hS.2.2 dX15_tell_259
      · skip
        refine lv_aload_n hx hb dX15_tell_178 rfl (lv_at hl 1 rfl) ?_
        refine lv_iconst (v := 0) hx hb dX15_tell_179 (by decide) ?_
        refine lv_bipush (v := 24) hx hb dX15_tell_180 (by decide) ?_
        have hPc := hP.sub (ws' := [(mo, .inr (19, [.int 0, .int 0, .int 0, .int 0, .int 0, .int 0, .int 1, .ref ti, .ref si, .ref lo, .ref lh, .ref lk, .ref sp, .ref st, .ref pa, .ref br, .ref sg, .int mi, .int 0, .int 0, .int 0, .int fo, .int 0, .long pe, .long pn, .long (re + 0), .long (rn + 0), .int th])), (lh, .inr (3, [.int 0, .ref (z 0), .int 0]))]) [0, 3] rfl
        have hDc := hD.sub (ws' := [(mo, .inr (19, [.int 0, .int 0, .int 0, .int 0, .int 0, .int 0, .int 1, .ref ti, .ref si, .ref lo, .ref lh, .ref lk, .ref sp, .ref st, .ref pa, .ref br, .ref sg, .int mi, .int 0, .int 0, .int 0, .int fo, .int 0, .long pe, .long pn, .long (re + 0), .long (rn + 0), .int th])), (lh, .inr (3, [.int 0, .ref (z 0), .int 0]))]) [0, 3] (by decide) rfl
        have hKc := hK.sub (tys' := []) [] rfl
        have hFc := va_free (wc := [(mo, .inr (19, [.int 0, .int 0, .int 0, .int 0, .int 0, .int 0, .int 1, .ref ti, .ref si, .ref lo, .ref lh, .ref lk, .ref sp, .ref st, .ref pa, .ref br, .ref sg, .int mi, .int 0, .int 0, .int 0, .int fo, .int 0, .long pe, .long pn, .long (re + 0), .long (rn + 0), .int th])), (lh, .inr (3, [.int 0, .ref (z 0), .int 0]))]) hD hS hA [0, 3] rfl
        refine va_calli (va_runV (As := [.int 0, .int 24]) (rest := []) ⟨hx, hb, hml, hown, hts⟩ (k_mtake0 l dC dI z zK zV mi fo pe pn (re + 0) (rn + 0) mo ti si lo lh lk sp st pa br sg th 1 H.size) (cwV 2 hts gX15_tell_X15_take rfl rfl rfl (by decide +kernel) ⟨Nat.le_of_ble_eq_true rfl, Nat.le_of_ble_eq_true rfl⟩) ⟨kP_blind, va_recv hKc hPc (ci := 19) (q0 := 0) rfl rfl, kP_go hPc hKc hDc hFc hM hS⟩ rfl rfl hl.1 rfl (lv_room (Nat.le_of_ble_eq_true rfl)) dX15_tell_182 ⟨Nat.le_of_ble_eq_true rfl, Nat.le_of_ble_eq_true rfl⟩) hS (fun q _ h => hFc q h) hFc (fun r13 u t H1 locs ht hvm hw hB hz1 hk1 hS => ?_)
        obtain ⟨hP, hD, hK⟩ := kJ (wr := [(ti, .inl (cti, 2, .inl tf)), (si, .inl (csi, 2, .inl sf))]) (w1 := [(mo, .inr (19, [.int 0, .int 0, .int 0, .int 0, .int 0, .int 0, .int 1, .ref ti, .ref si, .ref lo, .ref lh, .ref lk, .ref sp, .ref st, .ref pa, .ref br, .ref sg, .int mi, .int 0, .int 0, .int 0, .int fo, .int 0, .long pe, .long pn, .long (re + 0), .long (rn + 0), .int th])), (lh, .inr (3, [.int 0, .ref (z 0), .int 0]))]) (t1 := []) hP hD hK [0, 3] [1, 2] rfl rfl (by decide) (by decide) hk1 hFc ht hvm hB
        generalize H1 = H at hP hS ⊢
        have hP : va_P (dC, dI) vwCl [(ti, .inl (cti, 2, .inl tf)), (si, .inl (csi, 2, .inl sf)), (mo, .inr (19, [.int 0, .int 0, .int 0, .int 0, .int 0, .int 0, .int 1, .ref ti, .ref si, .ref lo, .ref lh, .ref lk, .ref sp, .ref st, .ref pa, .ref br, .ref sg, .int mi, .int 0, .int 0, .int 0, .int fo, .int 0, .long pe, .long pn, .long (re + 0), .long (rn + 0), .int th])), (lh, .inr (3, [.int 0, .ref (z 0), .int 0]))] H := hP
        have hD : va_D A [(ti, .inl (cti, 2, .inl tf)), (si, .inl (csi, 2, .inl sf)), (mo, .inr (19, [.int 0, .int 0, .int 0, .int 0, .int 0, .int 0, .int 1, .ref ti, .ref si, .ref lo, .ref lh, .ref lk, .ref sp, .ref st, .ref pa, .ref br, .ref sg, .int mi, .int 0, .int 0, .int 0, .int fo, .int 0, .long pe, .long pn, .long (re + 0), .long (rn + 0), .int th])), (lh, .inr (3, [.int 0, .ref (z 0), .int 0]))] := hD
        have hK : va_K (dC, dI) vwCl [(cti, .int), (csi, .int)] s := hK
        obtain rfl : 0 = r13 := hw
        refine lv_istore_n (lv' := [(1, .int 0), (0, .ref mo)]) hx hb dX15_tell_185 rfl hl (by decide) rfl (fun ls hl => ?_)
        refine lv_aload_n hx hb dX15_tell_186 rfl (lv_at hl 1 rfl) ?_
        refine lv_iconst (v := 1) hx hb dX15_tell_187 (by decide) ?_
        refine lv_bipush (v := 24) hx hb dX15_tell_188 (by decide) ?_
        have hPc := hP.sub (ws' := [(mo, .inr (19, [.int 0, .int 0, .int 0, .int 0, .int 0, .int 0, .int 1, .ref ti, .ref si, .ref lo, .ref lh, .ref lk, .ref sp, .ref st, .ref pa, .ref br, .ref sg, .int mi, .int 0, .int 0, .int 0, .int fo, .int 0, .long pe, .long pn, .long (re + 0), .long (rn + 0), .int th])), (lh, .inr (3, [.int 0, .ref (z 0), .int 0]))]) [2, 3] rfl
        have hDc := hD.sub (ws' := [(mo, .inr (19, [.int 0, .int 0, .int 0, .int 0, .int 0, .int 0, .int 1, .ref ti, .ref si, .ref lo, .ref lh, .ref lk, .ref sp, .ref st, .ref pa, .ref br, .ref sg, .int mi, .int 0, .int 0, .int 0, .int fo, .int 0, .long pe, .long pn, .long (re + 0), .long (rn + 0), .int th])), (lh, .inr (3, [.int 0, .ref (z 0), .int 0]))]) [2, 3] (by decide) rfl
        have hKc := hK.sub (tys' := []) [] rfl
        have hFc := va_free (wc := [(mo, .inr (19, [.int 0, .int 0, .int 0, .int 0, .int 0, .int 0, .int 1, .ref ti, .ref si, .ref lo, .ref lh, .ref lk, .ref sp, .ref st, .ref pa, .ref br, .ref sg, .int mi, .int 0, .int 0, .int 0, .int fo, .int 0, .long pe, .long pn, .long (re + 0), .long (rn + 0), .int th])), (lh, .inr (3, [.int 0, .ref (z 0), .int 0]))]) hD hS hA [2, 3] rfl
        refine va_calli (va_runV (As := [.int 1, .int 24]) (rest := []) ⟨hx, hb, hml, hown, hts⟩ (k_mtake1 l dC dI z zK zV mi fo pe pn (re + 0) (rn + 0) mo ti si lo lh lk sp st pa br sg th 1 H.size) (cwV 2 hts gX15_tell_X15_take rfl rfl rfl (by decide +kernel) ⟨Nat.le_of_ble_eq_true rfl, Nat.le_of_ble_eq_true rfl⟩) ⟨kP_blind, va_recv hKc hPc (ci := 19) (q0 := 0) rfl rfl, kP_go hPc hKc hDc hFc hM hS⟩ rfl rfl hl.1 rfl (lv_room (Nat.le_of_ble_eq_true rfl)) dX15_tell_190 ⟨Nat.le_of_ble_eq_true rfl, Nat.le_of_ble_eq_true rfl⟩) hS (fun q _ h => hFc q h) hFc (fun r14 u t H1 locs ht hvm hw hB hz1 hk1 hS => ?_)
        obtain ⟨hP, hD, hK⟩ := kJ (wr := [(ti, .inl (cti, 2, .inl tf)), (si, .inl (csi, 2, .inl sf))]) (w1 := [(mo, .inr (19, [.int 0, .int 0, .int 0, .int 0, .int 0, .int 0, .int 1, .ref ti, .ref si, .ref lo, .ref lh, .ref lk, .ref sp, .ref st, .ref pa, .ref br, .ref sg, .int mi, .int 0, .int 0, .int 0, .int fo, .int 0, .long pe, .long pn, .long (re + 0), .long (rn + 0), .int th])), (lh, .inr (3, [.int 0, .ref (z 0), .int 0]))]) (t1 := []) hP hD hK [2, 3] [0, 1] rfl rfl (by decide) (by decide) hk1 hFc ht hvm hB
        generalize H1 = H at hP hS ⊢
        have hP : va_P (dC, dI) vwCl [(ti, .inl (cti, 2, .inl tf)), (si, .inl (csi, 2, .inl sf)), (mo, .inr (19, [.int 0, .int 0, .int 0, .int 0, .int 0, .int 0, .int 1, .ref ti, .ref si, .ref lo, .ref lh, .ref lk, .ref sp, .ref st, .ref pa, .ref br, .ref sg, .int mi, .int 0, .int 0, .int 0, .int fo, .int 0, .long pe, .long pn, .long (re + 0), .long (rn + 0), .int th])), (lh, .inr (3, [.int 0, .ref (z 0), .int 0]))] H := hP
        have hD : va_D A [(ti, .inl (cti, 2, .inl tf)), (si, .inl (csi, 2, .inl sf)), (mo, .inr (19, [.int 0, .int 0, .int 0, .int 0, .int 0, .int 0, .int 1, .ref ti, .ref si, .ref lo, .ref lh, .ref lk, .ref sp, .ref st, .ref pa, .ref br, .ref sg, .int mi, .int 0, .int 0, .int 0, .int fo, .int 0, .long pe, .long pn, .long (re + 0), .long (rn + 0), .int th])), (lh, .inr (3, [.int 0, .ref (z 0), .int 0]))] := hD
        have hK : va_K (dC, dI) vwCl [(cti, .int), (csi, .int)] s := hK
        obtain rfl : 0 = r14 := hw
        refine lv_istore_n (lv' := [(2, .int 0), (1, .int 0), (0, .ref mo)]) hx hb dX15_tell_193 rfl hl (by decide) rfl (fun ls hl => ?_)
        refine lv_iconst (v := 0) hx hb dX15_tell_194 (by decide) ?_
        refine lv_istore_n (lv' := [(3, .int 0), (2, .int 0), (1, .int 0), (0, .ref mo)]) hx hb dX15_tell_195 rfl hl (by decide) rfl (fun ls hl => ?_)
        refine lv_iload_n hx hb dX15_tell_196 rfl (lv_at hl 0 rfl) ?_
        refine lv_iconst (v := 2) hx hb dX15_tell_197 (by decide) ?_
        refine lv_icmp_ge (tgt := 249) hx hb dX15_tell_198 (by decide) (fun c_ => absurd c_ (by decide +kernel)) (fun _ => ?_)
        refine lv_aload_n hx hb dX15_tell_201 rfl (lv_at hl 3 rfl) ?_
        refine va_get (D := (dC, dI)) (ci := 19) (v := .ref si) (C := RX15) (T := TX15) (N := 28) hx hb hts hiX15 hown hK hP 2 rfl rfl 8 (by decide) (hts (.fieldLink RX15 13 "SquareRigModel" "sick" "[I") (by decide +kernel)) (fun _ h9 => h9) rfl dX15_tell_202 ?_
        refine lv_iload_n hx hb dX15_tell_205 rfl (lv_at hl 0 rfl) ?_
        refine lv_iload_n hx hb dX15_tell_206 rfl (lv_at hl 2 rfl) ?_
        refine lv_if_eq (tgt := 229) hx hb dX15_tell_207 (by decide) (fun _ => ?_) (fun c_ => absurd (by decide +kernel) c_)
        refine lv_bipush (v := 12) hx hb dX15_tell_229 (by decide) ?_
        refine lv_aload_n hx hb dX15_tell_231 rfl (lv_at hl 3 rfl) ?_
        refine va_get (D := (dC, dI)) (ci := 19) (v := .ref si) (C := RX15) (T := TX15) (N := 28) hx hb hts hiX15 hown hK hP 2 rfl rfl 8 (by decide) (hts (.fieldLink RX15 13 "SquareRigModel" "sick" "[I") (by decide +kernel)) (fun _ h9 => h9) rfl dX15_tell_232 ?_
        refine lv_iload_n hx hb dX15_tell_235 rfl (lv_at hl 0 rfl) ?_
        refine va_iald hx hb hK hP 1 1 rfl rfl (pk_in 0 2 (by decide) rfl) dX15_tell_236 ?_
        refine kc_v (y := .int (sf 0)) rfl ?_
        refine lv_iconst (v := 1) hx hb dX15_tell_237 (by decide) ?_
        refine lv_iadd hx hb dX15_tell_238 ?_
        refine va_mmin hx hb (hml.trans hl.1.symm) hown (hts (.methodLink RX15 75 Lib.Math.min.name) (by decide +kernel)) (hts (.static Lib.Math.min.name) (by decide +kernel)) (hts (.initialized "java/lang/Math") (by decide +kernel)) (hts (.code Lib.Math.min.name Lib.Math.min.code 2 (some .int)) (by decide +kernel)) (Nat.le_of_ble_eq_true rfl) (Nat.le_of_ble_eq_true rfl) (Nat.le_of_ble_eq_true rfl) (Nat.le_of_ble_eq_true rfl) dX15_tell_239 ?_
        refine va_iast hx hb hK hP hD hS 1 1 rfl rfl (pk_in 0 2 (by decide) rfl) dX15_tell_242 (fun H locs hP hD hS => ?_)
        have hP : va_P (dC, dI) vwCl [(ti, .inl (cti, 2, .inl tf)), (si, .inl (csi, 2, .inl (upd sf 0 (if ((sf 0) + 1) < 12 then ((sf 0) + 1) else 12)))), (mo, .inr (19, [.int 0, .int 0, .int 0, .int 0, .int 0, .int 0, .int 1, .ref ti, .ref si, .ref lo, .ref lh, .ref lk, .ref sp, .ref st, .ref pa, .ref br, .ref sg, .int mi, .int 0, .int 0, .int 0, .int fo, .int 0, .long pe, .long pn, .long (re + 0), .long (rn + 0), .int th])), (lh, .inr (3, [.int 0, .ref (z 0), .int 0]))] H := hP
        have hD : va_D A [(ti, .inl (cti, 2, .inl tf)), (si, .inl (csi, 2, .inl (upd sf 0 (if ((sf 0) + 1) < 12 then ((sf 0) + 1) else 12)))), (mo, .inr (19, [.int 0, .int 0, .int 0, .int 0, .int 0, .int 0, .int 1, .ref ti, .ref si, .ref lo, .ref lh, .ref lk, .ref sp, .ref st, .ref pa, .ref br, .ref sg, .int mi, .int 0, .int 0, .int 0, .int fo, .int 0, .long pe, .long pn, .long (re + 0), .long (rn + 0), .int th])), (lh, .inr (3, [.int 0, .ref (z 0), .int 0]))] := hD
        refine lv_iinc (v := 1) (lv' := [(3, .int 1), (2, .int 0), (1, .int 0), (0, .ref mo)]) hx hb dX15_tell_243 hl (k := 0) rfl (by decide +kernel) (by decide) rfl (fun ls hl => ?_)
        refine lv_goto (tgt := 196) hx hb dX15_tell_246 (by decide) ?_
        refine lv_iload_n hx hb dX15_tell_196 rfl (lv_at hl 0 rfl) ?_
        refine lv_iconst (v := 2) hx hb dX15_tell_197 (by decide) ?_
        refine lv_icmp_ge (tgt := 249) hx hb dX15_tell_198 (by decide) (fun c_ => absurd c_ (by decide +kernel)) (fun _ => ?_)
        refine lv_aload_n hx hb dX15_tell_201 rfl (lv_at hl 3 rfl) ?_
        refine va_get (D := (dC, dI)) (ci := 19) (v := .ref si) (C := RX15) (T := TX15) (N := 28) hx hb hts hiX15 hown hK hP 2 rfl rfl 8 (by decide) (hts (.fieldLink RX15 13 "SquareRigModel" "sick" "[I") (by decide +kernel)) (fun _ h9 => h9) rfl dX15_tell_202 ?_
        refine lv_iload_n hx hb dX15_tell_205 rfl (lv_at hl 0 rfl) ?_
        refine lv_iload_n hx hb dX15_tell_206 rfl (lv_at hl 2 rfl) ?_
        refine lv_if_eq (tgt := 229) hx hb dX15_tell_207 (by decide) (fun _ => ?_) (fun c_ => absurd (by decide +kernel) c_)
        refine lv_bipush (v := 12) hx hb dX15_tell_229 (by decide) ?_
        refine lv_aload_n hx hb dX15_tell_231 rfl (lv_at hl 3 rfl) ?_
        refine va_get (D := (dC, dI)) (ci := 19) (v := .ref si) (C := RX15) (T := TX15) (N := 28) hx hb hts hiX15 hown hK hP 2 rfl rfl 8 (by decide) (hts (.fieldLink RX15 13 "SquareRigModel" "sick" "[I") (by decide +kernel)) (fun _ h9 => h9) rfl dX15_tell_232 ?_
        refine lv_iload_n hx hb dX15_tell_235 rfl (lv_at hl 0 rfl) ?_
        refine va_iald hx hb hK hP 1 1 rfl rfl (pk_in 1 2 (by decide) rfl) dX15_tell_236 ?_
        refine kc_v (y := .int (sf 1)) rfl ?_
        refine lv_iconst (v := 1) hx hb dX15_tell_237 (by decide) ?_
        refine lv_iadd hx hb dX15_tell_238 ?_
        refine va_mmin hx hb (hml.trans hl.1.symm) hown (hts (.methodLink RX15 75 Lib.Math.min.name) (by decide +kernel)) (hts (.static Lib.Math.min.name) (by decide +kernel)) (hts (.initialized "java/lang/Math") (by decide +kernel)) (hts (.code Lib.Math.min.name Lib.Math.min.code 2 (some .int)) (by decide +kernel)) (Nat.le_of_ble_eq_true rfl) (Nat.le_of_ble_eq_true rfl) (Nat.le_of_ble_eq_true rfl) (Nat.le_of_ble_eq_true rfl) dX15_tell_239 ?_
        refine va_iast hx hb hK hP hD hS 1 1 rfl rfl (pk_in 1 2 (by decide) rfl) dX15_tell_242 (fun H locs hP hD hS => ?_)
        have hP : va_P (dC, dI) vwCl [(ti, .inl (cti, 2, .inl tf)), (si, .inl (csi, 2, .inl (upd (upd sf 0 (if ((sf 0) + 1) < 12 then ((sf 0) + 1) else 12)) 1 (if ((sf 1) + 1) < 12 then ((sf 1) + 1) else 12)))), (mo, .inr (19, [.int 0, .int 0, .int 0, .int 0, .int 0, .int 0, .int 1, .ref ti, .ref si, .ref lo, .ref lh, .ref lk, .ref sp, .ref st, .ref pa, .ref br, .ref sg, .int mi, .int 0, .int 0, .int 0, .int fo, .int 0, .long pe, .long pn, .long (re + 0), .long (rn + 0), .int th])), (lh, .inr (3, [.int 0, .ref (z 0), .int 0]))] H := hP
        have hD : va_D A [(ti, .inl (cti, 2, .inl tf)), (si, .inl (csi, 2, .inl (upd (upd sf 0 (if ((sf 0) + 1) < 12 then ((sf 0) + 1) else 12)) 1 (if ((sf 1) + 1) < 12 then ((sf 1) + 1) else 12)))), (mo, .inr (19, [.int 0, .int 0, .int 0, .int 0, .int 0, .int 0, .int 1, .ref ti, .ref si, .ref lo, .ref lh, .ref lk, .ref sp, .ref st, .ref pa, .ref br, .ref sg, .int mi, .int 0, .int 0, .int 0, .int fo, .int 0, .long pe, .long pn, .long (re + 0), .long (rn + 0), .int th])), (lh, .inr (3, [.int 0, .ref (z 0), .int 0]))] := hD
        refine lv_iinc (v := 2) (lv' := [(3, .int 2), (2, .int 0), (1, .int 0), (0, .ref mo)]) hx hb dX15_tell_243 hl (k := 0) rfl (by decide +kernel) (by decide) rfl (fun ls hl => ?_)
        refine lv_goto (tgt := 196) hx hb dX15_tell_246 (by decide) ?_
        refine lv_iload_n hx hb dX15_tell_196 rfl (lv_at hl 0 rfl) ?_
        refine lv_iconst (v := 2) hx hb dX15_tell_197 (by decide) ?_
        refine lv_icmp_ge (tgt := 249) hx hb dX15_tell_198 (by decide) (fun _ => ?_) (fun c_ => absurd (by decide +kernel) c_)
        refine lv_aload_n hx hb dX15_tell_249 rfl (lv_at hl 3 rfl) ?_
        refine lv_dup hx hb dX15_tell_250 rfl ?_
        refine va_get (D := (dC, dI)) (ci := 19) (v := .int fo) (C := RX15) (T := TX15) (N := 28) hx hb hts hiX15 hown hK hP 2 rfl rfl 21 (by decide) (hts (.fieldLink RX15 262 "SquareRigModel" "foul" "I") (by decide +kernel)) (fun _ h9 => h9) rfl dX15_tell_251 ?_
        refine lv_iconst (v := 1) hx hb dX15_tell_254 (by decide) ?_
        refine lv_iadd hx hb dX15_tell_255 ?_
        refine va_put (D := (dC, dI)) (ci := 19) (v := .int (fo + 1)) (ty := .int) (C := RX15) (T := TX15) (N := 28) hx hb hts hiX15 tyX15 tyX15_ok nmX15 hown hK hP hD hS 2 rfl rfl 21 (by decide) (hts (.fieldLink RX15 262 "SquareRigModel" "foul" "I") (by decide +kernel)) (fun _ h9 => h9) rfl (by decide +kernel) rfl rfl (Nat.le_of_ble_eq_true rfl) dX15_tell_256 (fun H locs hP hD hS => ?_)
        have hP : va_P (dC, dI) vwCl [(ti, .inl (cti, 2, .inl tf)), (si, .inl (csi, 2, .inl (upd (upd sf 0 (if ((sf 0) + 1) < 12 then ((sf 0) + 1) else 12)) 1 (if ((sf 1) + 1) < 12 then ((sf 1) + 1) else 12)))), (mo, .inr (19, [.int 0, .int 0, .int 0, .int 0, .int 0, .int 0, .int 1, .ref ti, .ref si, .ref lo, .ref lh, .ref lk, .ref sp, .ref st, .ref pa, .ref br, .ref sg, .int mi, .int 0, .int 0, .int 0, .int (fo + 1), .int 0, .long pe, .long pn, .long (re + 0), .long (rn + 0), .int th])), (lh, .inr (3, [.int 0, .ref (z 0), .int 0]))] H := hP
        have hD : va_D A [(ti, .inl (cti, 2, .inl tf)), (si, .inl (csi, 2, .inl (upd (upd sf 0 (if ((sf 0) + 1) < 12 then ((sf 0) + 1) else 12)) 1 (if ((sf 1) + 1) < 12 then ((sf 1) + 1) else 12)))), (mo, .inr (19, [.int 0, .int 0, .int 0, .int 0, .int 0, .int 0, .int 1, .ref ti, .ref si, .ref lo, .ref lh, .ref lk, .ref sp, .ref st, .ref pa, .ref br, .ref sg, .int mi, .int 0, .int 0, .int 0, .int (fo + 1), .int 0, .long pe, .long pn, .long (re + 0), .long (rn + 0), .int th])), (lh, .inr (3, [.int 0, .ref (z 0), .int 0]))] := hD
        exact W.vret hx hb hr (fun t ht hW => ⟨⟨(), rfl, trivial, ⟨1, (fo + 1), (re + 0), (rn + 0), tf, (upd (upd sf 0 (if ((sf 0) + 1) < 12 then ((sf 0) + 1) else 12)) 1 (if ((sf 1) + 1) < 12 then ((sf 1) + 1) else 12)), (Or.inr rfl), (Or.inr rfl), kB_end (w9 := [(mo, .inr (19, [.int 0, .int 0, .int 0, .int 0, .int 0, .int 0, .int 1, .ref ti, .ref si, .ref lo, .ref lh, .ref lk, .ref sp, .ref st, .ref pa, .ref br, .ref sg, .int mi, .int 0, .int 0, .int 0, .int (fo + 1), .int 0, .long pe, .long pn, .long (re + 0), .long (rn + 0), .int th])), (ti, .inl (cti, 2, .inl tf)), (si, .inl (csi, 2, .inl (upd (upd sf 0 (if ((sf 0) + 1) < 12 then ((sf 0) + 1) else 12)) 1 (if ((sf 1) + 1) < 12 then ((sf 1) + 1) else 12)))), (lh, .inr (3, [.int 0, .ref (z 0), .int 0]))]) (t9 := []) hP hK hD [2, 0, 1, 3] [] rfl (by decide) rfl rfl t ht hW⟩⟩, hS.F ht⟩) hS.2.2 dX15_tell_259
    · skip
      refine lv_aload_n hx hb dX15_tell_76 rfl (lv_at hl 1 rfl) ?_
      refine va_get (D := (dC, dI)) (ci := 19) (v := .ref ti) (C := RX15) (T := TX15) (N := 28) hx hb hts hiX15 hown hK hP 0 rfl rfl 7 (by decide) (hts (.fieldLink RX15 7 "SquareRigModel" "tired" "[I") (by decide +kernel)) (fun _ h9 => h9) rfl dX15_tell_77 ?_
      refine lv_aload_n hx hb dX15_tell_80 rfl (lv_at hl 1 rfl) ?_
      refine va_get (D := (dC, dI)) (ci := 19) (v := .int 1) (C := RX15) (T := TX15) (N := 28) hx hb hts hiX15 hown hK hP 0 rfl rfl 6 (by decide) (hts (.fieldLink RX15 199 "SquareRigModel" "turn" "I") (by decide +kernel)) (fun _ h9 => h9) rfl dX15_tell_81 ?_
      refine lv_bipush (v := 60) hx hb dX15_tell_84 (by decide) ?_
      refine lv_aload_n hx hb dX15_tell_86 rfl (lv_at hl 1 rfl) ?_
      refine va_get (D := (dC, dI)) (ci := 19) (v := .ref ti) (C := RX15) (T := TX15) (N := 28) hx hb hts hiX15 hown hK hP 0 rfl rfl 7 (by decide) (hts (.fieldLink RX15 7 "SquareRigModel" "tired" "[I") (by decide +kernel)) (fun _ h9 => h9) rfl dX15_tell_87 ?_
      refine lv_aload_n hx hb dX15_tell_90 rfl (lv_at hl 1 rfl) ?_
      refine va_get (D := (dC, dI)) (ci := 19) (v := .int 1) (C := RX15) (T := TX15) (N := 28) hx hb hts hiX15 hown hK hP 0 rfl rfl 6 (by decide) (hts (.fieldLink RX15 199 "SquareRigModel" "turn" "I") (by decide +kernel)) (fun _ h9 => h9) rfl dX15_tell_91 ?_
      refine va_iald hx hb hK hP 1 0 rfl rfl (pk_in 1 2 (by decide) rfl) dX15_tell_94 ?_
      refine kc_v (y := .int (tf 1)) rfl ?_
      refine lv_iconst (v := 5) hx hb dX15_tell_95 (by decide) ?_
      refine lv_iadd hx hb dX15_tell_96 ?_
      refine va_mmin hx hb (hml.trans hl.1.symm) hown (hts (.methodLink RX15 75 Lib.Math.min.name) (by decide +kernel)) (hts (.static Lib.Math.min.name) (by decide +kernel)) (hts (.initialized "java/lang/Math") (by decide +kernel)) (hts (.code Lib.Math.min.name Lib.Math.min.code 2 (some .int)) (by decide +kernel)) (Nat.le_of_ble_eq_true rfl) (Nat.le_of_ble_eq_true rfl) (Nat.le_of_ble_eq_true rfl) (Nat.le_of_ble_eq_true rfl) dX15_tell_97 ?_
      refine va_iast hx hb hK hP hD hS 1 0 rfl rfl (pk_in 1 2 (by decide) rfl) dX15_tell_100 (fun H locs hP hD hS => ?_)
      have hP : va_P (dC, dI) vwCl [(mo, .inr (19, [.int 0, .int 0, .int 0, .int 0, .int 0, .int 0, .int 1, .ref ti, .ref si, .ref lo, .ref lh, .ref lk, .ref sp, .ref st, .ref pa, .ref br, .ref sg, .int mi, .int 0, .int 0, .int 0, .int fo, .int 0, .long pe, .long pn, .long (re + 0), .long (rn + 0), .int th])), (ti, .inl (cti, 2, .inl (upd tf 1 (if ((tf 1) + 5) < 60 then ((tf 1) + 5) else 60)))), (si, .inl (csi, 2, .inl sf)), (lh, .inr (3, [.int 0, .ref (z 0), .int 0]))] H := hP
      have hD : va_D A [(mo, .inr (19, [.int 0, .int 0, .int 0, .int 0, .int 0, .int 0, .int 1, .ref ti, .ref si, .ref lo, .ref lh, .ref lk, .ref sp, .ref st, .ref pa, .ref br, .ref sg, .int mi, .int 0, .int 0, .int 0, .int fo, .int 0, .long pe, .long pn, .long (re + 0), .long (rn + 0), .int th])), (ti, .inl (cti, 2, .inl (upd tf 1 (if ((tf 1) + 5) < 60 then ((tf 1) + 5) else 60)))), (si, .inl (csi, 2, .inl sf)), (lh, .inr (3, [.int 0, .ref (z 0), .int 0]))] := hD
      refine lv_aload_n hx hb dX15_tell_101 rfl (lv_at hl 1 rfl) ?_
      refine va_get (D := (dC, dI)) (ci := 19) (v := .ref ti) (C := RX15) (T := TX15) (N := 28) hx hb hts hiX15 hown hK hP 0 rfl rfl 7 (by decide) (hts (.fieldLink RX15 7 "SquareRigModel" "tired" "[I") (by decide +kernel)) (fun _ h9 => h9) rfl dX15_tell_102 ?_
      refine lv_iconst (v := 1) hx hb dX15_tell_105 (by decide) ?_
      refine lv_aload_n hx hb dX15_tell_106 rfl (lv_at hl 1 rfl) ?_
      refine va_get (D := (dC, dI)) (ci := 19) (v := .int 1) (C := RX15) (T := TX15) (N := 28) hx hb hts hiX15 hown hK hP 0 rfl rfl 6 (by decide) (hts (.fieldLink RX15 199 "SquareRigModel" "turn" "I") (by decide +kernel)) (fun _ h9 => h9) rfl dX15_tell_107 ?_
      refine lv_isub hx hb dX15_tell_110 ?_
      refine kc_i (y := 0) (by decide +kernel) ?_
      refine lv_aload_n hx hb dX15_tell_111 rfl (lv_at hl 1 rfl) ?_
      refine va_get (D := (dC, dI)) (ci := 19) (v := .int 0) (C := RX15) (T := TX15) (N := 28) hx hb hts hiX15 hown hK hP 0 rfl rfl 5 (by decide) (hts (.fieldLink RX15 195 "SquareRigModel" "areAll" "Z") (by decide +kernel)) (fun _ h9 => h9) rfl dX15_tell_112 ?_
      refine lv_if_eq (tgt := 139) hx hb dX15_tell_115 (by decide) (fun _ => ?_) (fun c_ => absurd (by decide +kernel) c_)
      refine lv_iconst (v := 0) hx hb dX15_tell_139 (by decide) ?_
      refine lv_aload_n hx hb dX15_tell_140 rfl (lv_at hl 1 rfl) ?_
      refine va_get (D := (dC, dI)) (ci := 19) (v := .ref ti) (C := RX15) (T := TX15) (N := 28) hx hb hts hiX15 hown hK hP 0 rfl rfl 7 (by decide) (hts (.fieldLink RX15 7 "SquareRigModel" "tired" "[I") (by decide +kernel)) (fun _ h9 => h9) rfl dX15_tell_141 ?_
      refine lv_iconst (v := 1) hx hb dX15_tell_144 (by decide) ?_
      refine lv_aload_n hx hb dX15_tell_145 rfl (lv_at hl 1 rfl) ?_
      refine va_get (D := (dC, dI)) (ci := 19) (v := .int 1) (C := RX15) (T := TX15) (N := 28) hx hb hts hiX15 hown hK hP 0 rfl rfl 6 (by decide) (hts (.fieldLink RX15 199 "SquareRigModel" "turn" "I") (by decide +kernel)) (fun _ h9 => h9) rfl dX15_tell_146 ?_
      refine lv_isub hx hb dX15_tell_149 ?_
      refine kc_i (y := 0) (by decide +kernel) ?_
      refine va_iald hx hb hK hP 1 0 rfl rfl (pk_in 0 2 (by decide) rfl) dX15_tell_150 ?_
      refine kc_v (y := .int (tf 0)) rfl ?_
      refine lv_iconst (v := 5) hx hb dX15_tell_151 (by decide) ?_
      refine lv_isub hx hb dX15_tell_152 ?_
      refine va_mmax hx hb (hml.trans hl.1.symm) hown (hts (.methodLink RX15 102 Lib.Math.max.name) (by decide +kernel)) (hts (.static Lib.Math.max.name) (by decide +kernel)) (hts (.initialized "java/lang/Math") (by decide +kernel)) (hts (.code Lib.Math.max.name Lib.Math.max.code 2 (some .int)) (by decide +kernel)) (Nat.le_of_ble_eq_true rfl) (Nat.le_of_ble_eq_true rfl) (Nat.le_of_ble_eq_true rfl) (Nat.le_of_ble_eq_true rfl) dX15_tell_153 ?_
      refine va_iast hx hb hK hP hD hS 1 0 rfl rfl (pk_in 0 2 (by decide) rfl) dX15_tell_156 (fun H locs hP hD hS => ?_)
      have hP : va_P (dC, dI) vwCl [(mo, .inr (19, [.int 0, .int 0, .int 0, .int 0, .int 0, .int 0, .int 1, .ref ti, .ref si, .ref lo, .ref lh, .ref lk, .ref sp, .ref st, .ref pa, .ref br, .ref sg, .int mi, .int 0, .int 0, .int 0, .int fo, .int 0, .long pe, .long pn, .long (re + 0), .long (rn + 0), .int th])), (ti, .inl (cti, 2, .inl (upd (upd tf 1 (if ((tf 1) + 5) < 60 then ((tf 1) + 5) else 60)) 0 (if 0 < ((tf 0) - 5) then ((tf 0) - 5) else 0)))), (si, .inl (csi, 2, .inl sf)), (lh, .inr (3, [.int 0, .ref (z 0), .int 0]))] H := hP
      have hD : va_D A [(mo, .inr (19, [.int 0, .int 0, .int 0, .int 0, .int 0, .int 0, .int 1, .ref ti, .ref si, .ref lo, .ref lh, .ref lk, .ref sp, .ref st, .ref pa, .ref br, .ref sg, .int mi, .int 0, .int 0, .int 0, .int fo, .int 0, .long pe, .long pn, .long (re + 0), .long (rn + 0), .int th])), (ti, .inl (cti, 2, .inl (upd (upd tf 1 (if ((tf 1) + 5) < 60 then ((tf 1) + 5) else 60)) 0 (if 0 < ((tf 0) - 5) then ((tf 0) - 5) else 0)))), (si, .inl (csi, 2, .inl sf)), (lh, .inr (3, [.int 0, .ref (z 0), .int 0]))] := hD
      refine lv_aload_n hx hb dX15_tell_157 rfl (lv_at hl 1 rfl) ?_
      refine lv_iconst (v := 1) hx hb dX15_tell_158 (by decide) ?_
      refine lv_aload_n hx hb dX15_tell_159 rfl (lv_at hl 1 rfl) ?_
      refine va_get (D := (dC, dI)) (ci := 19) (v := .int 1) (C := RX15) (T := TX15) (N := 28) hx hb hts hiX15 hown hK hP 0 rfl rfl 6 (by decide) (hts (.fieldLink RX15 199 "SquareRigModel" "turn" "I") (by decide +kernel)) (fun _ h9 => h9) rfl dX15_tell_160 ?_
      refine lv_isub hx hb dX15_tell_163 ?_
      refine kc_i (y := 0) (by decide +kernel) ?_
      refine va_put (D := (dC, dI)) (ci := 19) (v := .int 0) (ty := .int) (C := RX15) (T := TX15) (N := 28) hx hb hts hiX15 tyX15 tyX15_ok nmX15 hown hK hP hD hS 0 rfl rfl 6 (by decide) (hts (.fieldLink RX15 199 "SquareRigModel" "turn" "I") (by decide +kernel)) (fun _ h9 => h9) rfl (by decide +kernel) rfl rfl (Nat.le_of_ble_eq_true rfl) dX15_tell_164 (fun H locs hP hD hS => ?_)
      have hP : va_P (dC, dI) vwCl [(mo, .inr (19, [.int 0, .int 0, .int 0, .int 0, .int 0, .int 0, .int 0, .ref ti, .ref si, .ref lo, .ref lh, .ref lk, .ref sp, .ref st, .ref pa, .ref br, .ref sg, .int mi, .int 0, .int 0, .int 0, .int fo, .int 0, .long pe, .long pn, .long (re + 0), .long (rn + 0), .int th])), (ti, .inl (cti, 2, .inl (upd (upd tf 1 (if ((tf 1) + 5) < 60 then ((tf 1) + 5) else 60)) 0 (if 0 < ((tf 0) - 5) then ((tf 0) - 5) else 0)))), (si, .inl (csi, 2, .inl sf)), (lh, .inr (3, [.int 0, .ref (z 0), .int 0]))] H := hP
      have hD : va_D A [(mo, .inr (19, [.int 0, .int 0, .int 0, .int 0, .int 0, .int 0, .int 0, .ref ti, .ref si, .ref lo, .ref lh, .ref lk, .ref sp, .ref st, .ref pa, .ref br, .ref sg, .int mi, .int 0, .int 0, .int 0, .int fo, .int 0, .long pe, .long pn, .long (re + 0), .long (rn + 0), .int th])), (ti, .inl (cti, 2, .inl (upd (upd tf 1 (if ((tf 1) + 5) < 60 then ((tf 1) + 5) else 60)) 0 (if 0 < ((tf 0) - 5) then ((tf 0) - 5) else 0)))), (si, .inl (csi, 2, .inl sf)), (lh, .inr (3, [.int 0, .ref (z 0), .int 0]))] := hD
      refine lv_aload_n hx hb dX15_tell_167 rfl (lv_at hl 1 rfl) ?_
      refine va_get (D := (dC, dI)) (ci := 19) (v := .int mi) (C := RX15) (T := TX15) (N := 28) hx hb hts hiX15 hown hK hP 0 rfl rfl 17 (by decide) (hts (.fieldLink RX15 163 "SquareRigModel" "minute" "I") (by decide +kernel)) (fun _ h9 => h9) rfl dX15_tell_168 ?_
      refine lv_sipush (v := 1440) hx hb dX15_tell_171 (by decide) ?_
      refine lv_irem hx hb dX15_tell_174 (by decide +kernel) ?_
      refine lv_if_ne (tgt := 259) hx hb dX15_tell_175 (by decide) (fun c15 => ?_) (fun c15 => ?_)
      · skip
        exact W.vret hx hb hr (fun t ht hW => ⟨⟨(), rfl, trivial, ⟨0, fo, (re + 0), (rn + 0), (upd (upd tf 1 (if ((tf 1) + 5) < 60 then ((tf 1) + 5) else 60)) 0 (if 0 < ((tf 0) - 5) then ((tf 0) - 5) else 0)), sf, (Or.inl rfl), (Or.inl rfl), kB_end (w9 := [(mo, .inr (19, [.int 0, .int 0, .int 0, .int 0, .int 0, .int 0, .int 0, .ref ti, .ref si, .ref lo, .ref lh, .ref lk, .ref sp, .ref st, .ref pa, .ref br, .ref sg, .int mi, .int 0, .int 0, .int 0, .int fo, .int 0, .long pe, .long pn, .long (re + 0), .long (rn + 0), .int th])), (ti, .inl (cti, 2, .inl (upd (upd tf 1 (if ((tf 1) + 5) < 60 then ((tf 1) + 5) else 60)) 0 (if 0 < ((tf 0) - 5) then ((tf 0) - 5) else 0)))), (si, .inl (csi, 2, .inl sf)), (lh, .inr (3, [.int 0, .ref (z 0), .int 0]))]) (t9 := []) hP hK hD [0, 1, 2, 3] [] rfl (by decide) rfl rfl t ht hW⟩⟩, hS.F ht⟩) hS.2.2 dX15_tell_259
      · skip
        refine lv_aload_n hx hb dX15_tell_178 rfl (lv_at hl 1 rfl) ?_
        refine lv_iconst (v := 0) hx hb dX15_tell_179 (by decide) ?_
        refine lv_bipush (v := 24) hx hb dX15_tell_180 (by decide) ?_
        have hPc := hP.sub (ws' := [(mo, .inr (19, [.int 0, .int 0, .int 0, .int 0, .int 0, .int 0, .int 0, .ref ti, .ref si, .ref lo, .ref lh, .ref lk, .ref sp, .ref st, .ref pa, .ref br, .ref sg, .int mi, .int 0, .int 0, .int 0, .int fo, .int 0, .long pe, .long pn, .long (re + 0), .long (rn + 0), .int th])), (lh, .inr (3, [.int 0, .ref (z 0), .int 0]))]) [0, 3] rfl
        have hDc := hD.sub (ws' := [(mo, .inr (19, [.int 0, .int 0, .int 0, .int 0, .int 0, .int 0, .int 0, .ref ti, .ref si, .ref lo, .ref lh, .ref lk, .ref sp, .ref st, .ref pa, .ref br, .ref sg, .int mi, .int 0, .int 0, .int 0, .int fo, .int 0, .long pe, .long pn, .long (re + 0), .long (rn + 0), .int th])), (lh, .inr (3, [.int 0, .ref (z 0), .int 0]))]) [0, 3] (by decide) rfl
        have hKc := hK.sub (tys' := []) [] rfl
        have hFc := va_free (wc := [(mo, .inr (19, [.int 0, .int 0, .int 0, .int 0, .int 0, .int 0, .int 0, .ref ti, .ref si, .ref lo, .ref lh, .ref lk, .ref sp, .ref st, .ref pa, .ref br, .ref sg, .int mi, .int 0, .int 0, .int 0, .int fo, .int 0, .long pe, .long pn, .long (re + 0), .long (rn + 0), .int th])), (lh, .inr (3, [.int 0, .ref (z 0), .int 0]))]) hD hS hA [0, 3] rfl
        refine va_calli (va_runV (As := [.int 0, .int 24]) (rest := []) ⟨hx, hb, hml, hown, hts⟩ (k_mtake0 l dC dI z zK zV mi fo pe pn (re + 0) (rn + 0) mo ti si lo lh lk sp st pa br sg th 0 H.size) (cwV 2 hts gX15_tell_X15_take rfl rfl rfl (by decide +kernel) ⟨Nat.le_of_ble_eq_true rfl, Nat.le_of_ble_eq_true rfl⟩) ⟨kP_blind, va_recv hKc hPc (ci := 19) (q0 := 0) rfl rfl, kP_go hPc hKc hDc hFc hM hS⟩ rfl rfl hl.1 rfl (lv_room (Nat.le_of_ble_eq_true rfl)) dX15_tell_182 ⟨Nat.le_of_ble_eq_true rfl, Nat.le_of_ble_eq_true rfl⟩) hS (fun q _ h => hFc q h) hFc (fun r16 u t H1 locs ht hvm hw hB hz1 hk1 hS => ?_)
        obtain ⟨hP, hD, hK⟩ := kJ (wr := [(ti, .inl (cti, 2, .inl (upd (upd tf 1 (if ((tf 1) + 5) < 60 then ((tf 1) + 5) else 60)) 0 (if 0 < ((tf 0) - 5) then ((tf 0) - 5) else 0)))), (si, .inl (csi, 2, .inl sf))]) (w1 := [(mo, .inr (19, [.int 0, .int 0, .int 0, .int 0, .int 0, .int 0, .int 0, .ref ti, .ref si, .ref lo, .ref lh, .ref lk, .ref sp, .ref st, .ref pa, .ref br, .ref sg, .int mi, .int 0, .int 0, .int 0, .int fo, .int 0, .long pe, .long pn, .long (re + 0), .long (rn + 0), .int th])), (lh, .inr (3, [.int 0, .ref (z 0), .int 0]))]) (t1 := []) hP hD hK [0, 3] [1, 2] rfl rfl (by decide) (by decide) hk1 hFc ht hvm hB
        generalize H1 = H at hP hS ⊢
        have hP : va_P (dC, dI) vwCl [(ti, .inl (cti, 2, .inl (upd (upd tf 1 (if ((tf 1) + 5) < 60 then ((tf 1) + 5) else 60)) 0 (if 0 < ((tf 0) - 5) then ((tf 0) - 5) else 0)))), (si, .inl (csi, 2, .inl sf)), (mo, .inr (19, [.int 0, .int 0, .int 0, .int 0, .int 0, .int 0, .int 0, .ref ti, .ref si, .ref lo, .ref lh, .ref lk, .ref sp, .ref st, .ref pa, .ref br, .ref sg, .int mi, .int 0, .int 0, .int 0, .int fo, .int 0, .long pe, .long pn, .long (re + 0), .long (rn + 0), .int th])), (lh, .inr (3, [.int 0, .ref (z 0), .int 0]))] H := hP
        have hD : va_D A [(ti, .inl (cti, 2, .inl (upd (upd tf 1 (if ((tf 1) + 5) < 60 then ((tf 1) + 5) else 60)) 0 (if 0 < ((tf 0) - 5) then ((tf 0) - 5) else 0)))), (si, .inl (csi, 2, .inl sf)), (mo, .inr (19, [.int 0, .int 0, .int 0, .int 0, .int 0, .int 0, .int 0, .ref ti, .ref si, .ref lo, .ref lh, .ref lk, .ref sp, .ref st, .ref pa, .ref br, .ref sg, .int mi, .int 0, .int 0, .int 0, .int fo, .int 0, .long pe, .long pn, .long (re + 0), .long (rn + 0), .int th])), (lh, .inr (3, [.int 0, .ref (z 0), .int 0]))] := hD
        have hK : va_K (dC, dI) vwCl [(cti, .int), (csi, .int)] s := hK
        obtain rfl : 0 = r16 := hw
        refine lv_istore_n (lv' := [(1, .int 0), (0, .ref mo)]) hx hb dX15_tell_185 rfl hl (by decide) rfl (fun ls hl => ?_)
        refine lv_aload_n hx hb dX15_tell_186 rfl (lv_at hl 1 rfl) ?_
        refine lv_iconst (v := 1) hx hb dX15_tell_187 (by decide) ?_
        refine lv_bipush (v := 24) hx hb dX15_tell_188 (by decide) ?_
        have hPc := hP.sub (ws' := [(mo, .inr (19, [.int 0, .int 0, .int 0, .int 0, .int 0, .int 0, .int 0, .ref ti, .ref si, .ref lo, .ref lh, .ref lk, .ref sp, .ref st, .ref pa, .ref br, .ref sg, .int mi, .int 0, .int 0, .int 0, .int fo, .int 0, .long pe, .long pn, .long (re + 0), .long (rn + 0), .int th])), (lh, .inr (3, [.int 0, .ref (z 0), .int 0]))]) [2, 3] rfl
        have hDc := hD.sub (ws' := [(mo, .inr (19, [.int 0, .int 0, .int 0, .int 0, .int 0, .int 0, .int 0, .ref ti, .ref si, .ref lo, .ref lh, .ref lk, .ref sp, .ref st, .ref pa, .ref br, .ref sg, .int mi, .int 0, .int 0, .int 0, .int fo, .int 0, .long pe, .long pn, .long (re + 0), .long (rn + 0), .int th])), (lh, .inr (3, [.int 0, .ref (z 0), .int 0]))]) [2, 3] (by decide) rfl
        have hKc := hK.sub (tys' := []) [] rfl
        have hFc := va_free (wc := [(mo, .inr (19, [.int 0, .int 0, .int 0, .int 0, .int 0, .int 0, .int 0, .ref ti, .ref si, .ref lo, .ref lh, .ref lk, .ref sp, .ref st, .ref pa, .ref br, .ref sg, .int mi, .int 0, .int 0, .int 0, .int fo, .int 0, .long pe, .long pn, .long (re + 0), .long (rn + 0), .int th])), (lh, .inr (3, [.int 0, .ref (z 0), .int 0]))]) hD hS hA [2, 3] rfl
        refine va_calli (va_runV (As := [.int 1, .int 24]) (rest := []) ⟨hx, hb, hml, hown, hts⟩ (k_mtake1 l dC dI z zK zV mi fo pe pn (re + 0) (rn + 0) mo ti si lo lh lk sp st pa br sg th 0 H.size) (cwV 2 hts gX15_tell_X15_take rfl rfl rfl (by decide +kernel) ⟨Nat.le_of_ble_eq_true rfl, Nat.le_of_ble_eq_true rfl⟩) ⟨kP_blind, va_recv hKc hPc (ci := 19) (q0 := 0) rfl rfl, kP_go hPc hKc hDc hFc hM hS⟩ rfl rfl hl.1 rfl (lv_room (Nat.le_of_ble_eq_true rfl)) dX15_tell_190 ⟨Nat.le_of_ble_eq_true rfl, Nat.le_of_ble_eq_true rfl⟩) hS (fun q _ h => hFc q h) hFc (fun r17 u t H1 locs ht hvm hw hB hz1 hk1 hS => ?_)
        obtain ⟨hP, hD, hK⟩ := kJ (wr := [(ti, .inl (cti, 2, .inl (upd (upd tf 1 (if ((tf 1) + 5) < 60 then ((tf 1) + 5) else 60)) 0 (if 0 < ((tf 0) - 5) then ((tf 0) - 5) else 0)))), (si, .inl (csi, 2, .inl sf))]) (w1 := [(mo, .inr (19, [.int 0, .int 0, .int 0, .int 0, .int 0, .int 0, .int 0, .ref ti, .ref si, .ref lo, .ref lh, .ref lk, .ref sp, .ref st, .ref pa, .ref br, .ref sg, .int mi, .int 0, .int 0, .int 0, .int fo, .int 0, .long pe, .long pn, .long (re + 0), .long (rn + 0), .int th])), (lh, .inr (3, [.int 0, .ref (z 0), .int 0]))]) (t1 := []) hP hD hK [2, 3] [0, 1] rfl rfl (by decide) (by decide) hk1 hFc ht hvm hB
        generalize H1 = H at hP hS ⊢
        have hP : va_P (dC, dI) vwCl [(ti, .inl (cti, 2, .inl (upd (upd tf 1 (if ((tf 1) + 5) < 60 then ((tf 1) + 5) else 60)) 0 (if 0 < ((tf 0) - 5) then ((tf 0) - 5) else 0)))), (si, .inl (csi, 2, .inl sf)), (mo, .inr (19, [.int 0, .int 0, .int 0, .int 0, .int 0, .int 0, .int 0, .ref ti, .ref si, .ref lo, .ref lh, .ref lk, .ref sp, .ref st, .ref pa, .ref br, .ref sg, .int mi, .int 0, .int 0, .int 0, .int fo, .int 0, .long pe, .long pn, .long (re + 0), .long (rn + 0), .int th])), (lh, .inr (3, [.int 0, .ref (z 0), .int 0]))] H := hP
        have hD : va_D A [(ti, .inl (cti, 2, .inl (upd (upd tf 1 (if ((tf 1) + 5) < 60 then ((tf 1) + 5) else 60)) 0 (if 0 < ((tf 0) - 5) then ((tf 0) - 5) else 0)))), (si, .inl (csi, 2, .inl sf)), (mo, .inr (19, [.int 0, .int 0, .int 0, .int 0, .int 0, .int 0, .int 0, .ref ti, .ref si, .ref lo, .ref lh, .ref lk, .ref sp, .ref st, .ref pa, .ref br, .ref sg, .int mi, .int 0, .int 0, .int 0, .int fo, .int 0, .long pe, .long pn, .long (re + 0), .long (rn + 0), .int th])), (lh, .inr (3, [.int 0, .ref (z 0), .int 0]))] := hD
        have hK : va_K (dC, dI) vwCl [(cti, .int), (csi, .int)] s := hK
        obtain rfl : 0 = r17 := hw
        refine lv_istore_n (lv' := [(2, .int 0), (1, .int 0), (0, .ref mo)]) hx hb dX15_tell_193 rfl hl (by decide) rfl (fun ls hl => ?_)
        refine lv_iconst (v := 0) hx hb dX15_tell_194 (by decide) ?_
        refine lv_istore_n (lv' := [(3, .int 0), (2, .int 0), (1, .int 0), (0, .ref mo)]) hx hb dX15_tell_195 rfl hl (by decide) rfl (fun ls hl => ?_)
        refine lv_iload_n hx hb dX15_tell_196 rfl (lv_at hl 0 rfl) ?_
        refine lv_iconst (v := 2) hx hb dX15_tell_197 (by decide) ?_
        refine lv_icmp_ge (tgt := 249) hx hb dX15_tell_198 (by decide) (fun c_ => absurd c_ (by decide +kernel)) (fun _ => ?_)
        refine lv_aload_n hx hb dX15_tell_201 rfl (lv_at hl 3 rfl) ?_
        refine va_get (D := (dC, dI)) (ci := 19) (v := .ref si) (C := RX15) (T := TX15) (N := 28) hx hb hts hiX15 hown hK hP 2 rfl rfl 8 (by decide) (hts (.fieldLink RX15 13 "SquareRigModel" "sick" "[I") (by decide +kernel)) (fun _ h9 => h9) rfl dX15_tell_202 ?_
        refine lv_iload_n hx hb dX15_tell_205 rfl (lv_at hl 0 rfl) ?_
        refine lv_iload_n hx hb dX15_tell_206 rfl (lv_at hl 2 rfl) ?_
        refine lv_if_eq (tgt := 229) hx hb dX15_tell_207 (by decide) (fun _ => ?_) (fun c_ => absurd (by decide +kernel) c_)
        refine lv_bipush (v := 12) hx hb dX15_tell_229 (by decide) ?_
        refine lv_aload_n hx hb dX15_tell_231 rfl (lv_at hl 3 rfl) ?_
        refine va_get (D := (dC, dI)) (ci := 19) (v := .ref si) (C := RX15) (T := TX15) (N := 28) hx hb hts hiX15 hown hK hP 2 rfl rfl 8 (by decide) (hts (.fieldLink RX15 13 "SquareRigModel" "sick" "[I") (by decide +kernel)) (fun _ h9 => h9) rfl dX15_tell_232 ?_
        refine lv_iload_n hx hb dX15_tell_235 rfl (lv_at hl 0 rfl) ?_
        refine va_iald hx hb hK hP 1 1 rfl rfl (pk_in 0 2 (by decide) rfl) dX15_tell_236 ?_
        refine kc_v (y := .int (sf 0)) rfl ?_
        refine lv_iconst (v := 1) hx hb dX15_tell_237 (by decide) ?_
        refine lv_iadd hx hb dX15_tell_238 ?_
        refine va_mmin hx hb (hml.trans hl.1.symm) hown (hts (.methodLink RX15 75 Lib.Math.min.name) (by decide +kernel)) (hts (.static Lib.Math.min.name) (by decide +kernel)) (hts (.initialized "java/lang/Math") (by decide +kernel)) (hts (.code Lib.Math.min.name Lib.Math.min.code 2 (some .int)) (by decide +kernel)) (Nat.le_of_ble_eq_true rfl) (Nat.le_of_ble_eq_true rfl) (Nat.le_of_ble_eq_true rfl) (Nat.le_of_ble_eq_true rfl) dX15_tell_239 ?_
        refine va_iast hx hb hK hP hD hS 1 1 rfl rfl (pk_in 0 2 (by decide) rfl) dX15_tell_242 (fun H locs hP hD hS => ?_)
        have hP : va_P (dC, dI) vwCl [(ti, .inl (cti, 2, .inl (upd (upd tf 1 (if ((tf 1) + 5) < 60 then ((tf 1) + 5) else 60)) 0 (if 0 < ((tf 0) - 5) then ((tf 0) - 5) else 0)))), (si, .inl (csi, 2, .inl (upd sf 0 (if ((sf 0) + 1) < 12 then ((sf 0) + 1) else 12)))), (mo, .inr (19, [.int 0, .int 0, .int 0, .int 0, .int 0, .int 0, .int 0, .ref ti, .ref si, .ref lo, .ref lh, .ref lk, .ref sp, .ref st, .ref pa, .ref br, .ref sg, .int mi, .int 0, .int 0, .int 0, .int fo, .int 0, .long pe, .long pn, .long (re + 0), .long (rn + 0), .int th])), (lh, .inr (3, [.int 0, .ref (z 0), .int 0]))] H := hP
        have hD : va_D A [(ti, .inl (cti, 2, .inl (upd (upd tf 1 (if ((tf 1) + 5) < 60 then ((tf 1) + 5) else 60)) 0 (if 0 < ((tf 0) - 5) then ((tf 0) - 5) else 0)))), (si, .inl (csi, 2, .inl (upd sf 0 (if ((sf 0) + 1) < 12 then ((sf 0) + 1) else 12)))), (mo, .inr (19, [.int 0, .int 0, .int 0, .int 0, .int 0, .int 0, .int 0, .ref ti, .ref si, .ref lo, .ref lh, .ref lk, .ref sp, .ref st, .ref pa, .ref br, .ref sg, .int mi, .int 0, .int 0, .int 0, .int fo, .int 0, .long pe, .long pn, .long (re + 0), .long (rn + 0), .int th])), (lh, .inr (3, [.int 0, .ref (z 0), .int 0]))] := hD
        refine lv_iinc (v := 1) (lv' := [(3, .int 1), (2, .int 0), (1, .int 0), (0, .ref mo)]) hx hb dX15_tell_243 hl (k := 0) rfl (by decide +kernel) (by decide) rfl (fun ls hl => ?_)
        refine lv_goto (tgt := 196) hx hb dX15_tell_246 (by decide) ?_
        refine lv_iload_n hx hb dX15_tell_196 rfl (lv_at hl 0 rfl) ?_
        refine lv_iconst (v := 2) hx hb dX15_tell_197 (by decide) ?_
        refine lv_icmp_ge (tgt := 249) hx hb dX15_tell_198 (by decide) (fun c_ => absurd c_ (by decide +kernel)) (fun _ => ?_)
        refine lv_aload_n hx hb dX15_tell_201 rfl (lv_at hl 3 rfl) ?_
        refine va_get (D := (dC, dI)) (ci := 19) (v := .ref si) (C := RX15) (T := TX15) (N := 28) hx hb hts hiX15 hown hK hP 2 rfl rfl 8 (by decide) (hts (.fieldLink RX15 13 "SquareRigModel" "sick" "[I") (by decide +kernel)) (fun _ h9 => h9) rfl dX15_tell_202 ?_
        refine lv_iload_n hx hb dX15_tell_205 rfl (lv_at hl 0 rfl) ?_
        refine lv_iload_n hx hb dX15_tell_206 rfl (lv_at hl 2 rfl) ?_
        refine lv_if_eq (tgt := 229) hx hb dX15_tell_207 (by decide) (fun _ => ?_) (fun c_ => absurd (by decide +kernel) c_)
        refine lv_bipush (v := 12) hx hb dX15_tell_229 (by decide) ?_
        refine lv_aload_n hx hb dX15_tell_231 rfl (lv_at hl 3 rfl) ?_
        refine va_get (D := (dC, dI)) (ci := 19) (v := .ref si) (C := RX15) (T := TX15) (N := 28) hx hb hts hiX15 hown hK hP 2 rfl rfl 8 (by decide) (hts (.fieldLink RX15 13 "SquareRigModel" "sick" "[I") (by decide +kernel)) (fun _ h9 => h9) rfl dX15_tell_232 ?_
        refine lv_iload_n hx hb dX15_tell_235 rfl (lv_at hl 0 rfl) ?_
        refine va_iald hx hb hK hP 1 1 rfl rfl (pk_in 1 2 (by decide) rfl) dX15_tell_236 ?_
        refine kc_v (y := .int (sf 1)) rfl ?_
        refine lv_iconst (v := 1) hx hb dX15_tell_237 (by decide) ?_
        refine lv_iadd hx hb dX15_tell_238 ?_
        refine va_mmin hx hb (hml.trans hl.1.symm) hown (hts (.methodLink RX15 75 Lib.Math.min.name) (by decide +kernel)) (hts (.static Lib.Math.min.name) (by decide +kernel)) (hts (.initialized "java/lang/Math") (by decide +kernel)) (hts (.code Lib.Math.min.name Lib.Math.min.code 2 (some .int)) (by decide +kernel)) (Nat.le_of_ble_eq_true rfl) (Nat.le_of_ble_eq_true rfl) (Nat.le_of_ble_eq_true rfl) (Nat.le_of_ble_eq_true rfl) dX15_tell_239 ?_
        refine va_iast hx hb hK hP hD hS 1 1 rfl rfl (pk_in 1 2 (by decide) rfl) dX15_tell_242 (fun H locs hP hD hS => ?_)
        have hP : va_P (dC, dI) vwCl [(ti, .inl (cti, 2, .inl (upd (upd tf 1 (if ((tf 1) + 5) < 60 then ((tf 1) + 5) else 60)) 0 (if 0 < ((tf 0) - 5) then ((tf 0) - 5) else 0)))), (si, .inl (csi, 2, .inl (upd (upd sf 0 (if ((sf 0) + 1) < 12 then ((sf 0) + 1) else 12)) 1 (if ((sf 1) + 1) < 12 then ((sf 1) + 1) else 12)))), (mo, .inr (19, [.int 0, .int 0, .int 0, .int 0, .int 0, .int 0, .int 0, .ref ti, .ref si, .ref lo, .ref lh, .ref lk, .ref sp, .ref st, .ref pa, .ref br, .ref sg, .int mi, .int 0, .int 0, .int 0, .int fo, .int 0, .long pe, .long pn, .long (re + 0), .long (rn + 0), .int th])), (lh, .inr (3, [.int 0, .ref (z 0), .int 0]))] H := hP
        have hD : va_D A [(ti, .inl (cti, 2, .inl (upd (upd tf 1 (if ((tf 1) + 5) < 60 then ((tf 1) + 5) else 60)) 0 (if 0 < ((tf 0) - 5) then ((tf 0) - 5) else 0)))), (si, .inl (csi, 2, .inl (upd (upd sf 0 (if ((sf 0) + 1) < 12 then ((sf 0) + 1) else 12)) 1 (if ((sf 1) + 1) < 12 then ((sf 1) + 1) else 12)))), (mo, .inr (19, [.int 0, .int 0, .int 0, .int 0, .int 0, .int 0, .int 0, .ref ti, .ref si, .ref lo, .ref lh, .ref lk, .ref sp, .ref st, .ref pa, .ref br, .ref sg, .int mi, .int 0, .int 0, .int 0, .int fo, .int 0, .long pe, .long pn, .long (re + 0), .long (rn + 0), .int th])), (lh, .inr (3, [.int 0, .ref (z 0), .int 0]))] := hD
        refine lv_iinc (v := 2) (lv' := [(3, .int 2), (2, .int 0), (1, .int 0), (0, .ref mo)]) hx hb dX15_tell_243 hl (k := 0) rfl (by decide +kernel) (by decide) rfl (fun ls hl => ?_)
        refine lv_goto (tgt := 196) hx hb dX15_tell_246 (by decide) ?_
        refine lv_iload_n hx hb dX15_tell_196 rfl (lv_at hl 0 rfl) ?_
        refine lv_iconst (v := 2) hx hb dX15_tell_197 (by decide) ?_
        refine lv_icmp_ge (tgt := 249) hx hb dX15_tell_198 (by decide) (fun _ => ?_) (fun c_ => absurd (by decide +kernel) c_)
        refine lv_aload_n hx hb dX15_tell_249 rfl (lv_at hl 3 rfl) ?_
        refine lv_dup hx hb dX15_tell_250 rfl ?_
        refine va_get (D := (dC, dI)) (ci := 19) (v := .int fo) (C := RX15) (T := TX15) (N := 28) hx hb hts hiX15 hown hK hP 2 rfl rfl 21 (by decide) (hts (.fieldLink RX15 262 "SquareRigModel" "foul" "I") (by decide +kernel)) (fun _ h9 => h9) rfl dX15_tell_251 ?_
        refine lv_iconst (v := 1) hx hb dX15_tell_254 (by decide) ?_
        refine lv_iadd hx hb dX15_tell_255 ?_
        refine va_put (D := (dC, dI)) (ci := 19) (v := .int (fo + 1)) (ty := .int) (C := RX15) (T := TX15) (N := 28) hx hb hts hiX15 tyX15 tyX15_ok nmX15 hown hK hP hD hS 2 rfl rfl 21 (by decide) (hts (.fieldLink RX15 262 "SquareRigModel" "foul" "I") (by decide +kernel)) (fun _ h9 => h9) rfl (by decide +kernel) rfl rfl (Nat.le_of_ble_eq_true rfl) dX15_tell_256 (fun H locs hP hD hS => ?_)
        have hP : va_P (dC, dI) vwCl [(ti, .inl (cti, 2, .inl (upd (upd tf 1 (if ((tf 1) + 5) < 60 then ((tf 1) + 5) else 60)) 0 (if 0 < ((tf 0) - 5) then ((tf 0) - 5) else 0)))), (si, .inl (csi, 2, .inl (upd (upd sf 0 (if ((sf 0) + 1) < 12 then ((sf 0) + 1) else 12)) 1 (if ((sf 1) + 1) < 12 then ((sf 1) + 1) else 12)))), (mo, .inr (19, [.int 0, .int 0, .int 0, .int 0, .int 0, .int 0, .int 0, .ref ti, .ref si, .ref lo, .ref lh, .ref lk, .ref sp, .ref st, .ref pa, .ref br, .ref sg, .int mi, .int 0, .int 0, .int 0, .int (fo + 1), .int 0, .long pe, .long pn, .long (re + 0), .long (rn + 0), .int th])), (lh, .inr (3, [.int 0, .ref (z 0), .int 0]))] H := hP
        have hD : va_D A [(ti, .inl (cti, 2, .inl (upd (upd tf 1 (if ((tf 1) + 5) < 60 then ((tf 1) + 5) else 60)) 0 (if 0 < ((tf 0) - 5) then ((tf 0) - 5) else 0)))), (si, .inl (csi, 2, .inl (upd (upd sf 0 (if ((sf 0) + 1) < 12 then ((sf 0) + 1) else 12)) 1 (if ((sf 1) + 1) < 12 then ((sf 1) + 1) else 12)))), (mo, .inr (19, [.int 0, .int 0, .int 0, .int 0, .int 0, .int 0, .int 0, .ref ti, .ref si, .ref lo, .ref lh, .ref lk, .ref sp, .ref st, .ref pa, .ref br, .ref sg, .int mi, .int 0, .int 0, .int 0, .int (fo + 1), .int 0, .long pe, .long pn, .long (re + 0), .long (rn + 0), .int th])), (lh, .inr (3, [.int 0, .ref (z 0), .int 0]))] := hD
        exact W.vret hx hb hr (fun t ht hW => ⟨⟨(), rfl, trivial, ⟨0, (fo + 1), (re + 0), (rn + 0), (upd (upd tf 1 (if ((tf 1) + 5) < 60 then ((tf 1) + 5) else 60)) 0 (if 0 < ((tf 0) - 5) then ((tf 0) - 5) else 0)), (upd (upd sf 0 (if ((sf 0) + 1) < 12 then ((sf 0) + 1) else 12)) 1 (if ((sf 1) + 1) < 12 then ((sf 1) + 1) else 12)), (Or.inl rfl), (Or.inr rfl), kB_end (w9 := [(mo, .inr (19, [.int 0, .int 0, .int 0, .int 0, .int 0, .int 0, .int 0, .ref ti, .ref si, .ref lo, .ref lh, .ref lk, .ref sp, .ref st, .ref pa, .ref br, .ref sg, .int mi, .int 0, .int 0, .int 0, .int (fo + 1), .int 0, .long pe, .long pn, .long (re + 0), .long (rn + 0), .int th])), (ti, .inl (cti, 2, .inl (upd (upd tf 1 (if ((tf 1) + 5) < 60 then ((tf 1) + 5) else 60)) 0 (if 0 < ((tf 0) - 5) then ((tf 0) - 5) else 0)))), (si, .inl (csi, 2, .inl (upd (upd sf 0 (if ((sf 0) + 1) < 12 then ((sf 0) + 1) else 12)) 1 (if ((sf 1) + 1) < 12 then ((sf 1) + 1) else 12)))), (lh, .inr (3, [.int 0, .ref (z 0), .int 0]))]) (t9 := []) hP hK hD [2, 0, 1, 3] [] rfl (by decide) rfl rfl t ht hW⟩⟩, hS.F ht⟩) hS.2.2 dX15_tell_259
