set_option maxRecDepth 20000 in
theorem ggX15_northOf_J9_floorMod_7cf53 : GoodIn wsX15_northOf wsJ9_floorMod_7cf53 := goodIn_r _ [4] (by decide +kernel) (by decide +kernel)
set_option maxRecDepth 20000 in
theorem gX15_northOf_J9_floorMod_7cf53 : GoodIn wsX15_northOf (va_wsS RX15 55 yJ9_floorMod_7cf53 wsJ9_floorMod_7cf53) := goodIn_app (goodIn_of _ (by decide +kernel)) ggX15_northOf_J9_floorMod_7cf53
set_option maxRecDepth 20000 in
theorem ggX15_northOf_X15_northOf : GoodIn wsX15_northOf wsX15_northOf := goodIn_r _ [0, 1, 2, 3, 4, 5, 6, 7] (by decide +kernel) (by decide +kernel)
set_option maxRecDepth 20000 in
theorem gX15_northOf_X15_northOf : GoodIn wsX15_northOf (va_wsS RX15 61 yX15_northOf wsX15_northOf) := goodIn_app (goodIn_of _ (by decide +kernel)) ggX15_northOf_X15_northOf
theorem dX15_northOf_0 : decode cX15_northOf 0 = .ok (.iload_n 0, 1) := by decide +kernel
theorem dX15_northOf_1 : decode cX15_northOf 1 = .ok (.bipush 32, 2) := by decide +kernel
theorem dX15_northOf_3 : decode cX15_northOf 3 = .ok (.invokestatic 55, 3) := by decide +kernel
theorem dX15_northOf_6 : decode cX15_northOf 6 = .ok (.istore_n 1, 1) := by decide +kernel
theorem dX15_northOf_7 : decode cX15_northOf 7 = .ok (.iload_n 1, 1) := by decide +kernel
theorem dX15_northOf_8 : decode cX15_northOf 8 = .ok (.bipush 16, 2) := by decide +kernel
theorem dX15_northOf_10 : decode cX15_northOf 10 = .ok (.if_icmp .le 11, 3) := by decide +kernel
theorem dX15_northOf_13 : decode cX15_northOf 13 = .ok (.bipush 32, 2) := by decide +kernel
theorem dX15_northOf_15 : decode cX15_northOf 15 = .ok (.iload_n 1, 1) := by decide +kernel
theorem dX15_northOf_16 : decode cX15_northOf 16 = .ok (.isub, 1) := by decide +kernel
theorem dX15_northOf_17 : decode cX15_northOf 17 = .ok (.invokestatic 61, 3) := by decide +kernel
theorem dX15_northOf_20 : decode cX15_northOf 20 = .ok (.ireturn, 1) := by decide +kernel
theorem dX15_northOf_21 : decode cX15_northOf 21 = .ok (.iload_n 1, 1) := by decide +kernel
theorem dX15_northOf_22 : decode cX15_northOf 22 = .ok (.bipush 8, 2) := by decide +kernel
theorem dX15_northOf_24 : decode cX15_northOf 24 = .ok (.if_icmp .le 12, 3) := by decide +kernel
theorem dX15_northOf_27 : decode cX15_northOf 27 = .ok (.bipush 16, 2) := by decide +kernel
theorem dX15_northOf_29 : decode cX15_northOf 29 = .ok (.iload_n 1, 1) := by decide +kernel
theorem dX15_northOf_30 : decode cX15_northOf 30 = .ok (.isub, 1) := by decide +kernel
theorem dX15_northOf_31 : decode cX15_northOf 31 = .ok (.invokestatic 61, 3) := by decide +kernel
theorem dX15_northOf_34 : decode cX15_northOf 34 = .ok (.ineg, 1) := by decide +kernel
theorem dX15_northOf_35 : decode cX15_northOf 35 = .ok (.ireturn, 1) := by decide +kernel
theorem dX15_northOf_36 : decode cX15_northOf 36 = .ok (.iload_n 1, 1) := by decide +kernel
theorem dX15_northOf_37 : decode cX15_northOf 37 = .ok (.tableswitch 71 0 7 #[47, 50, 53, 56, 59, 62, 65, 68], 47) := by decide +kernel
theorem dX15_northOf_84 : decode cX15_northOf 84 = .ok (.bipush 100, 2) := by decide +kernel
theorem dX15_northOf_86 : decode cX15_northOf 86 = .ok (.ireturn, 1) := by decide +kernel
theorem dX15_northOf_108 : decode cX15_northOf 108 = .ok (.iconst 0, 1) := by decide +kernel
theorem dX15_northOf_109 : decode cX15_northOf 109 = .ok (.ireturn, 1) := by decide +kernel
set_option maxRecDepth 20000 in
theorem ggX15_eastOf_X15_northOf : GoodIn wsX15_eastOf wsX15_northOf := goodIn_r _ [4, 5, 6, 7, 8, 1, 2, 3] (by decide +kernel) (by decide +kernel)
set_option maxRecDepth 20000 in
theorem gX15_eastOf_X15_northOf : GoodIn wsX15_eastOf (va_wsS RX15 61 yX15_northOf wsX15_northOf) := goodIn_app (goodIn_of _ (by decide +kernel)) ggX15_eastOf_X15_northOf
theorem dX15_eastOf_0 : decode cX15_eastOf 0 = .ok (.iload_n 0, 1) := by decide +kernel
theorem dX15_eastOf_1 : decode cX15_eastOf 1 = .ok (.bipush 8, 2) := by decide +kernel
theorem dX15_eastOf_3 : decode cX15_eastOf 3 = .ok (.isub, 1) := by decide +kernel
theorem dX15_eastOf_4 : decode cX15_eastOf 4 = .ok (.invokestatic 61, 3) := by decide +kernel
theorem dX15_eastOf_7 : decode cX15_eastOf 7 = .ok (.ireturn, 1) := by decide +kernel
set_option maxRecDepth 20000 in
theorem ggX15_right_J9_floorMod_7cf53 : GoodIn wsX15_right wsJ9_floorMod_7cf53 := goodIn_r _ [6] (by decide +kernel) (by decide +kernel)
set_option maxRecDepth 20000 in
theorem gX15_right_J9_floorMod_7cf53 : GoodIn wsX15_right (va_wsS RX15 55 yJ9_floorMod_7cf53 wsJ9_floorMod_7cf53) := goodIn_app (goodIn_of _ (by decide +kernel)) ggX15_right_J9_floorMod_7cf53
theorem dX15_right_0 : decode cX15_right 0 = .ok (.aload_n 0, 1) := by decide +kernel
theorem dX15_right_1 : decode cX15_right 1 = .ok (.getfield 65, 3) := by decide +kernel
theorem dX15_right_4 : decode cX15_right 4 = .ok (.aload_n 0, 1) := by decide +kernel
theorem dX15_right_5 : decode cX15_right 5 = .ok (.getfield 68, 3) := by decide +kernel
theorem dX15_right_8 : decode cX15_right 8 = .ok (.isub, 1) := by decide +kernel
theorem dX15_right_9 : decode cX15_right 9 = .ok (.bipush 32, 2) := by decide +kernel
theorem dX15_right_11 : decode cX15_right 11 = .ok (.invokestatic 55, 3) := by decide +kernel
theorem dX15_right_14 : decode cX15_right 14 = .ok (.ireturn, 1) := by decide +kernel
set_option maxRecDepth 20000 in
theorem ggX15_sideNow_X15_right : GoodIn wsX15_sideNow wsX15_right := goodIn_r _ [5, 6, 7, 8, 9, 10, 11, 12, 13, 14, 15, 16, 17, 18, 19, 20, 21, 22, 23, 24, 25, 26, 27, 28, 29, 30, 31, 32, 33, 34, 35, 36, 37, 38, 39] (by decide +kernel) (by decide +kernel)
set_option maxRecDepth 20000 in
theorem gX15_sideNow_X15_right : GoodIn wsX15_sideNow (wsV RX15 71 RX15 yX15_right wsX15_right) := goodIn_app (goodIn_of _ (by decide +kernel)) ggX15_sideNow_X15_right
theorem dX15_sideNow_0 : decode cX15_sideNow 0 = .ok (.aload_n 0, 1) := by decide +kernel
theorem dX15_sideNow_1 : decode cX15_sideNow 1 = .ok (.invokevirtual 71, 3) := by decide +kernel
theorem dX15_sideNow_4 : decode cX15_sideNow 4 = .ok (.istore_n 1, 1) := by decide +kernel
theorem dX15_sideNow_5 : decode cX15_sideNow 5 = .ok (.iload_n 1, 1) := by decide +kernel
theorem dX15_sideNow_6 : decode cX15_sideNow 6 = .ok (.ifCond .eq 9, 3) := by decide +kernel
theorem dX15_sideNow_15 : decode cX15_sideNow 15 = .ok (.iconst 0, 1) := by decide +kernel
theorem dX15_sideNow_16 : decode cX15_sideNow 16 = .ok (.goto 14, 3) := by decide +kernel
theorem dX15_sideNow_30 : decode cX15_sideNow 30 = .ok (.ireturn, 1) := by decide +kernel
set_option maxRecDepth 20000 in
theorem ggX15_points_X15_right : GoodIn wsX15_points wsX15_right := goodIn_r _ [9, 10, 11, 12, 13, 14, 15, 16, 17, 18, 19, 20, 21, 22, 23, 24, 25, 26, 27, 28, 29, 30, 31, 32, 33, 34, 35, 36, 37, 38, 39, 40, 41, 42, 43] (by decide +kernel) (by decide +kernel)
set_option maxRecDepth 20000 in
theorem gX15_points_X15_right : GoodIn wsX15_points (wsV RX15 71 RX15 yX15_right wsX15_right) := goodIn_app (goodIn_of _ (by decide +kernel)) ggX15_points_X15_right
theorem dX15_points_0 : decode cX15_points 0 = .ok (.aload_n 0, 1) := by decide +kernel
theorem dX15_points_1 : decode cX15_points 1 = .ok (.invokevirtual 71, 3) := by decide +kernel
theorem dX15_points_4 : decode cX15_points 4 = .ok (.bipush 32, 2) := by decide +kernel
theorem dX15_points_6 : decode cX15_points 6 = .ok (.aload_n 0, 1) := by decide +kernel
theorem dX15_points_7 : decode cX15_points 7 = .ok (.invokevirtual 71, 3) := by decide +kernel
theorem dX15_points_10 : decode cX15_points 10 = .ok (.isub, 1) := by decide +kernel
theorem dX15_points_11 : decode cX15_points 11 = .ok (.invokestatic 75, 3) := by decide +kernel
theorem dX15_points_14 : decode cX15_points 14 = .ok (.ireturn, 1) := by decide +kernel
set_option maxRecDepth 20000 in
theorem ggX15_bestNow_X15_points : GoodIn wsX15_bestNow wsX15_points := goodIn_r _ [9, 1, 2, 3, 4, 10, 11, 12, 8, 13, 14, 15, 16, 17, 18, 19, 24, 25, 26, 27, 28, 29, 30, 31, 32, 33, 34, 35, 36, 37, 38, 39, 40, 41, 42, 43, 44, 45, 46, 47, 48, 49, 50, 51] (by decide +kernel) (by decide +kernel)
set_option maxRecDepth 20000 in
theorem gX15_bestNow_X15_points : GoodIn wsX15_bestNow (wsV RX15 78 RX15 yX15_points wsX15_points) := goodIn_app (goodIn_of _ (by decide +kernel)) ggX15_bestNow_X15_points
set_option maxRecDepth 20000 in
theorem ggX15_bestNow_X15_sideNow : GoodIn wsX15_bestNow wsX15_sideNow := goodIn_r _ [23, 10, 11, 12, 8, 13, 14, 15, 16, 17, 18, 19, 24, 25, 26, 27, 28, 29, 30, 31, 32, 33, 34, 35, 36, 37, 38, 39, 40, 41, 42, 43, 44, 45, 46, 47, 48, 49, 50, 51] (by decide +kernel) (by decide +kernel)
set_option maxRecDepth 20000 in
theorem gX15_bestNow_X15_sideNow : GoodIn wsX15_bestNow (wsV RX15 81 RX15 yX15_sideNow wsX15_sideNow) := goodIn_app (goodIn_of _ (by decide +kernel)) ggX15_bestNow_X15_sideNow
theorem dX15_bestNow_0 : decode cX15_bestNow 0 = .ok (.iconst 4, 1) := by decide +kernel
theorem dX15_bestNow_1 : decode cX15_bestNow 1 = .ok (.bipush 16, 2) := by decide +kernel
theorem dX15_bestNow_3 : decode cX15_bestNow 3 = .ok (.aload_n 0, 1) := by decide +kernel
theorem dX15_bestNow_4 : decode cX15_bestNow 4 = .ok (.invokevirtual 78, 3) := by decide +kernel
theorem dX15_bestNow_7 : decode cX15_bestNow 7 = .ok (.isub, 1) := by decide +kernel
theorem dX15_bestNow_8 : decode cX15_bestNow 8 = .ok (.iconst 2, 1) := by decide +kernel
theorem dX15_bestNow_9 : decode cX15_bestNow 9 = .ok (.idiv, 1) := by decide +kernel
theorem dX15_bestNow_10 : decode cX15_bestNow 10 = .ok (.invokestatic 75, 3) := by decide +kernel
theorem dX15_bestNow_13 : decode cX15_bestNow 13 = .ok (.istore_n 1, 1) := by decide +kernel
theorem dX15_bestNow_14 : decode cX15_bestNow 14 = .ok (.aload_n 0, 1) := by decide +kernel
theorem dX15_bestNow_15 : decode cX15_bestNow 15 = .ok (.invokevirtual 81, 3) := by decide +kernel
theorem dX15_bestNow_18 : decode cX15_bestNow 18 = .ok (.ifCond .ge 8, 3) := by decide +kernel
theorem dX15_bestNow_26 : decode cX15_bestNow 26 = .ok (.iload_n 1, 1) := by decide +kernel
theorem dX15_bestNow_27 : decode cX15_bestNow 27 = .ok (.ireturn, 1) := by decide +kernel
set_option maxRecDepth 20000 in
theorem ggX15_push_X15_points : GoodIn wsX15_push wsX15_points := goodIn_r _ [13, 14, 15, 4, 16, 17, 18, 19, 12, 20, 21, 22, 23, 24, 25, 26, 85, 86, 87, 88, 89, 90, 91, 92, 93, 94, 95, 96, 97, 98, 99, 100, 101, 102, 103, 104, 105, 106, 107, 108, 109, 110, 111, 112] (by decide +kernel) (by decide +kernel)
set_option maxRecDepth 20000 in
theorem gX15_push_X15_points : GoodIn wsX15_push (wsV RX15 78 RX15 yX15_points wsX15_points) := goodIn_app (goodIn_of _ (by decide +kernel)) ggX15_push_X15_points
set_option maxRecDepth 20000 in
theorem ggX15_push_X15_mast : GoodIn wsX15_push wsX15_mast := goodIn_r _ [76, 27, 28, 12, 29, 30, 31, 32, 33, 34, 35, 36, 37, 38, 39, 40, 41, 42, 43, 44, 45, 46, 47, 48, 49, 50, 51, 52, 53, 54, 55, 56, 57, 58, 59, 60, 61, 62, 63, 64, 65, 66, 67, 68, 69, 70, 113, 114] (by decide +kernel) (by decide +kernel)
set_option maxRecDepth 20000 in
theorem gX15_push_X15_mast : GoodIn wsX15_push (va_wsS RX15 93 yX15_mast wsX15_mast) := goodIn_app (goodIn_of _ (by decide +kernel)) ggX15_push_X15_mast
set_option maxRecDepth 20000 in
theorem ggX15_push_X15_bestNow : GoodIn wsX15_push wsX15_bestNow := goodIn_r _ [80, 14, 15, 4, 16, 9, 10, 11, 12, 13, 17, 18, 19, 20, 21, 22, 23, 24, 25, 26, 81, 82, 83, 84, 85, 86, 87, 88, 89, 90, 91, 92, 93, 94, 95, 96, 97, 98, 99, 100, 101, 102, 103, 104, 105, 106, 107, 108, 109, 110, 111, 112] (by decide +kernel) (by decide +kernel)
set_option maxRecDepth 20000 in
theorem gX15_push_X15_bestNow : GoodIn wsX15_push (wsV RX15 96 RX15 yX15_bestNow wsX15_bestNow) := goodIn_app (goodIn_of _ (by decide +kernel)) ggX15_push_X15_bestNow
theorem dX15_push_0 : decode cX15_push 0 = .ok (.aload_n 0, 1) := by decide +kernel
theorem dX15_push_1 : decode cX15_push 1 = .ok (.invokevirtual 78, 3) := by decide +kernel
theorem dX15_push_4 : decode cX15_push 4 = .ok (.istore_n 2, 1) := by decide +kernel
theorem dX15_push_5 : decode cX15_push 5 = .ok (.iload_n 1, 1) := by decide +kernel
theorem dX15_push_6 : decode cX15_push 6 = .ok (.bipush 7, 2) := by decide +kernel
theorem dX15_push_8 : decode cX15_push 8 = .ok (.if_icmp .lt 21, 3) := by decide +kernel
theorem dX15_push_11 : decode cX15_push 11 = .ok (.iload_n 2, 1) := by decide +kernel
theorem dX15_push_12 : decode cX15_push 12 = .ok (.iconst 4, 1) := by decide +kernel
theorem dX15_push_13 : decode cX15_push 13 = .ok (.if_icmp .ge 7, 3) := by decide +kernel
theorem dX15_push_16 : decode cX15_push 16 = .ok (.iconst 0, 1) := by decide +kernel
theorem dX15_push_17 : decode cX15_push 17 = .ok (.goto 11, 3) := by decide +kernel
theorem dX15_push_28 : decode cX15_push 28 = .ok (.ireturn, 1) := by decide +kernel
theorem dX15_push_29 : decode cX15_push 29 = .ok (.iload_n 2, 1) := by decide +kernel
theorem dX15_push_30 : decode cX15_push 30 = .ok (.bipush 6, 2) := by decide +kernel
theorem dX15_push_32 : decode cX15_push 32 = .ok (.if_icmp .ge 12, 3) := by decide +kernel
theorem dX15_push_35 : decode cX15_push 35 = .ok (.iconst 2, 1) := by decide +kernel
theorem dX15_push_36 : decode cX15_push 36 = .ok (.iload_n 2, 1) := by decide +kernel
theorem dX15_push_37 : decode cX15_push 37 = .ok (.bipush 6, 2) := by decide +kernel
theorem dX15_push_39 : decode cX15_push 39 = .ok (.isub, 1) := by decide +kernel
theorem dX15_push_40 : decode cX15_push 40 = .ok (.imul, 1) := by decide +kernel
theorem dX15_push_41 : decode cX15_push 41 = .ok (.goto 10, 3) := by decide +kernel
theorem dX15_push_51 : decode cX15_push 51 = .ok (.istore_n 3, 1) := by decide +kernel
theorem dX15_push_52 : decode cX15_push 52 = .ok (.bipush (-12), 2) := by decide +kernel
theorem dX15_push_54 : decode cX15_push 54 = .ok (.iload_n 3, 1) := by decide +kernel
theorem dX15_push_55 : decode cX15_push 55 = .ok (.iconst 2, 1) := by decide +kernel
theorem dX15_push_56 : decode cX15_push 56 = .ok (.aload_n 0, 1) := by decide +kernel
theorem dX15_push_57 : decode cX15_push 57 = .ok (.getfield 39, 3) := by decide +kernel
theorem dX15_push_60 : decode cX15_push 60 = .ok (.iload_n 1, 1) := by decide +kernel
theorem dX15_push_61 : decode cX15_push 61 = .ok (.invokestatic 93, 3) := by decide +kernel
theorem dX15_push_64 : decode cX15_push 64 = .ok (.iaload, 1) := by decide +kernel
theorem dX15_push_65 : decode cX15_push 65 = .ok (.aload_n 0, 1) := by decide +kernel
theorem dX15_push_66 : decode cX15_push 66 = .ok (.invokevirtual 96, 3) := by decide +kernel
theorem dX15_push_69 : decode cX15_push 69 = .ok (.isub, 1) := by decide +kernel
theorem dX15_push_70 : decode cX15_push 70 = .ok (.invokestatic 99, 3) := by decide +kernel
theorem dX15_push_73 : decode cX15_push 73 = .ok (.imul, 1) := by decide +kernel
theorem dX15_push_74 : decode cX15_push 74 = .ok (.isub, 1) := by decide +kernel
theorem dX15_push_75 : decode cX15_push 75 = .ok (.invokestatic 102, 3) := by decide +kernel
theorem dX15_push_78 : decode cX15_push 78 = .ok (.ireturn, 1) := by decide +kernel
set_option maxRecDepth 20000 in
theorem ggX15_forceOf_X15_digit : GoodIn wsX15_forceOf wsX15_digit := goodIn_r _ [6, 7, 8, 9, 10, 11, 12, 13, 14, 15, 16, 17, 18, 19, 20, 21, 22, 23, 24, 25, 26, 27, 28, 29, 30, 31, 32, 33, 34, 35, 36, 37, 38, 39, 40, 41, 42, 43, 44, 45, 46, 47, 119, 120] (by decide +kernel) (by decide +kernel)
set_option maxRecDepth 20000 in
theorem gX15_forceOf_X15_digit : GoodIn wsX15_forceOf (va_wsS RX15 86 yX15_digit wsX15_digit) := goodIn_app (goodIn_of _ (by decide +kernel)) ggX15_forceOf_X15_digit
set_option maxRecDepth 20000 in
theorem ggX15_forceOf_X15_push : GoodIn wsX15_forceOf wsX15_push := goodIn_ca (goodIn_r _ [51, 52, 53, 54, 55, 56, 57, 58, 59, 60, 61, 62, 5, 63, 64, 65, 66, 67, 68, 69, 70, 71, 72, 73, 74, 75, 76, 3, 4, 6, 7, 8, 9, 10, 11, 12, 13, 14, 15, 16, 17, 18, 19, 20, 21, 22, 23, 24, 25, 26, 27, 28, 29, 30, 31, 32, 33, 34, 35, 36, 37, 38, 39, 40, 41, 42, 43, 44, 45, 46, 47, 77, 78, 79, 80, 81, 82, 83, 84, 85, 86, 87, 88, 89, 90, 91, 92, 93, 94, 95, 96, 97, 98, 99, 100, 101, 102, 103, 104, 105, 106, 107, 108, 109, 110, 111, 112, 113, 114, 115, 116, 117, 118, 119, 120] (by decide +kernel) (by decide +kernel)) (goodIn_sub (fun _ h => List.mem_cons_of_mem _ (List.mem_append_right _ h)) (by decide +kernel))
set_option maxRecDepth 20000 in
theorem gX15_forceOf_X15_push : GoodIn wsX15_forceOf (wsV RX15 112 RX15 yX15_push wsX15_push) := goodIn_app (goodIn_of _ (by decide +kernel)) ggX15_forceOf_X15_push
theorem dX15_forceOf_0 : decode cX15_forceOf 0 = .ok (.ldc 107, 2) := by decide +kernel
theorem dX15_forceOf_2 : decode cX15_forceOf 2 = .ok (.iload_n 1, 1) := by decide +kernel
theorem dX15_forceOf_3 : decode cX15_forceOf 3 = .ok (.invokestatic 86, 3) := by decide +kernel
theorem dX15_forceOf_6 : decode cX15_forceOf 6 = .ok (.aload_n 0, 1) := by decide +kernel
theorem dX15_forceOf_7 : decode cX15_forceOf 7 = .ok (.getfield 29, 3) := by decide +kernel
theorem dX15_forceOf_10 : decode cX15_forceOf 10 = .ok (.iload_n 1, 1) := by decide +kernel
theorem dX15_forceOf_11 : decode cX15_forceOf 11 = .ok (.iaload, 1) := by decide +kernel
theorem dX15_forceOf_12 : decode cX15_forceOf 12 = .ok (.imul, 1) := by decide +kernel
theorem dX15_forceOf_13 : decode cX15_forceOf 13 = .ok (.aload_n 0, 1) := by decide +kernel
theorem dX15_forceOf_14 : decode cX15_forceOf 14 = .ok (.getfield 109, 3) := by decide +kernel
theorem dX15_forceOf_17 : decode cX15_forceOf 17 = .ok (.imul, 1) := by decide +kernel
theorem dX15_forceOf_18 : decode cX15_forceOf 18 = .ok (.aload_n 0, 1) := by decide +kernel
theorem dX15_forceOf_19 : decode cX15_forceOf 19 = .ok (.iload_n 1, 1) := by decide +kernel
theorem dX15_forceOf_20 : decode cX15_forceOf 20 = .ok (.invokevirtual 112, 3) := by decide +kernel
theorem dX15_forceOf_23 : decode cX15_forceOf 23 = .ok (.imul, 1) := by decide +kernel
theorem dX15_forceOf_24 : decode cX15_forceOf 24 = .ok (.iconst 2, 1) := by decide +kernel
theorem dX15_forceOf_25 : decode cX15_forceOf 25 = .ok (.idiv, 1) := by decide +kernel
theorem dX15_forceOf_26 : decode cX15_forceOf 26 = .ok (.ireturn, 1) := by decide +kernel
set_option maxRecDepth 20000 in
theorem ggX15_strains_X15_mast : GoodIn wsX15_strains wsX15_mast := goodIn_r _ [8, 9, 10, 7, 11, 12, 13, 14, 15, 16, 17, 18, 19, 20, 21, 22, 23, 24, 25, 26, 27, 28, 29, 30, 31, 32, 33, 34, 35, 36, 37, 38, 39, 40, 41, 42, 43, 44, 45, 46, 47, 48, 49, 50, 51, 52, 95, 96] (by decide +kernel) (by decide +kernel)
set_option maxRecDepth 20000 in
theorem gX15_strains_X15_mast : GoodIn wsX15_strains (va_wsS RX15 93 yX15_mast wsX15_mast) := goodIn_app (goodIn_of _ (by decide +kernel)) ggX15_strains_X15_mast
set_option maxRecDepth 20000 in
theorem ggX15_strains_X15_forceOf : GoodIn wsX15_strains wsX15_forceOf := goodIn_ca (goodIn_r _ [56, 57, 58, 9, 10, 7, 11, 12, 13, 14, 15, 16, 17, 18, 19, 20, 21, 22, 23, 24, 25, 26, 27, 28, 29, 30, 31, 32, 33, 34, 35, 36, 37, 38, 39, 40, 41, 42, 43, 44, 45, 46, 47, 48, 49, 50, 51, 52, 59, 60, 61, 62, 63, 1, 2, 3, 4, 64, 65, 66, 67, 68, 69, 70, 71, 72, 73, 74, 75, 76, 77, 78, 79, 80, 81, 82, 83, 84, 85, 86, 5, 6, 8, 87, 88, 89, 90, 91, 92, 93, 94, 97, 98, 99, 100, 101, 102, 103, 104, 105, 106, 107, 108, 109, 110, 111, 112, 113, 114, 115, 116, 117, 118, 119, 120, 121, 122, 123, 124, 95, 96] (by decide +kernel) (by decide +kernel)) (goodIn_sub (fun _ h => List.mem_cons_of_mem _ (List.mem_append_right _ h)) (by decide +kernel))
set_option maxRecDepth 20000 in
theorem gX15_strains_X15_forceOf : GoodIn wsX15_strains (wsV RX15 115 RX15 yX15_forceOf wsX15_forceOf) := goodIn_app (goodIn_of _ (by decide +kernel)) ggX15_strains_X15_forceOf
theorem dX15_strains_0 : decode cX15_strains 0 = .ok (.iconst 0, 1) := by decide +kernel
theorem dX15_strains_1 : decode cX15_strains 1 = .ok (.istore_n 2, 1) := by decide +kernel
theorem dX15_strains_2 : decode cX15_strains 2 = .ok (.iconst 0, 1) := by decide +kernel
theorem dX15_strains_3 : decode cX15_strains 3 = .ok (.istore_n 3, 1) := by decide +kernel
theorem dX15_strains_4 : decode cX15_strains 4 = .ok (.iload_n 3, 1) := by decide +kernel
theorem dX15_strains_5 : decode cX15_strains 5 = .ok (.bipush 9, 2) := by decide +kernel
theorem dX15_strains_7 : decode cX15_strains 7 = .ok (.if_icmp .ge 37, 3) := by decide +kernel
theorem dX15_strains_10 : decode cX15_strains 10 = .ok (.iload_n 2, 1) := by decide +kernel
theorem dX15_strains_11 : decode cX15_strains 11 = .ok (.iload_n 1, 1) := by decide +kernel
theorem dX15_strains_12 : decode cX15_strains 12 = .ok (.iconst (-1), 1) := by decide +kernel
theorem dX15_strains_13 : decode cX15_strains 13 = .ok (.if_icmp .eq 11, 3) := by decide +kernel
theorem dX15_strains_16 : decode cX15_strains 16 = .ok (.iload_n 3, 1) := by decide +kernel
theorem dX15_strains_17 : decode cX15_strains 17 = .ok (.invokestatic 93, 3) := by decide +kernel
theorem dX15_strains_20 : decode cX15_strains 20 = .ok (.iload_n 1, 1) := by decide +kernel
theorem dX15_strains_21 : decode cX15_strains 21 = .ok (.if_icmp .ne 14, 3) := by decide +kernel
theorem dX15_strains_24 : decode cX15_strains 24 = .ok (.aload_n 0, 1) := by decide +kernel
theorem dX15_strains_25 : decode cX15_strains 25 = .ok (.iload_n 3, 1) := by decide +kernel
theorem dX15_strains_26 : decode cX15_strains 26 = .ok (.invokevirtual 115, 3) := by decide +kernel
theorem dX15_strains_29 : decode cX15_strains 29 = .ok (.invokestatic 99, 3) := by decide +kernel
theorem dX15_strains_32 : decode cX15_strains 32 = .ok (.goto 4, 3) := by decide +kernel
theorem dX15_strains_35 : decode cX15_strains 35 = .ok (.iconst 0, 1) := by decide +kernel
theorem dX15_strains_36 : decode cX15_strains 36 = .ok (.iadd, 1) := by decide +kernel
theorem dX15_strains_37 : decode cX15_strains 37 = .ok (.istore_n 2, 1) := by decide +kernel
theorem dX15_strains_38 : decode cX15_strains 38 = .ok (.iinc 3 1, 3) := by decide +kernel
theorem dX15_strains_41 : decode cX15_strains 41 = .ok (.goto (-37), 3) := by decide +kernel
theorem dX15_strains_44 : decode cX15_strains 44 = .ok (.iload_n 2, 1) := by decide +kernel
theorem dX15_strains_45 : decode cX15_strains 45 = .ok (.ireturn, 1) := by decide +kernel
theorem dJ9_floorMod_7cf53_0 : decode cJ9_floorMod_7cf53 0 = .ok (.iload_n 0, 1) := by decide +kernel
theorem dJ9_floorMod_7cf53_1 : decode cJ9_floorMod_7cf53 1 = .ok (.iload_n 1, 1) := by decide +kernel
theorem dJ9_floorMod_7cf53_2 : decode cJ9_floorMod_7cf53 2 = .ok (.irem, 1) := by decide +kernel
theorem dJ9_floorMod_7cf53_3 : decode cJ9_floorMod_7cf53 3 = .ok (.istore_n 2, 1) := by decide +kernel
theorem dJ9_floorMod_7cf53_4 : decode cJ9_floorMod_7cf53 4 = .ok (.iload_n 0, 1) := by decide +kernel
theorem dJ9_floorMod_7cf53_5 : decode cJ9_floorMod_7cf53 5 = .ok (.iload_n 1, 1) := by decide +kernel
theorem dJ9_floorMod_7cf53_6 : decode cJ9_floorMod_7cf53 6 = .ok (.ixor, 1) := by decide +kernel
theorem dJ9_floorMod_7cf53_7 : decode cJ9_floorMod_7cf53 7 = .ok (.ifCond .ge 11, 3) := by decide +kernel
theorem dJ9_floorMod_7cf53_10 : decode cJ9_floorMod_7cf53 10 = .ok (.iload_n 2, 1) := by decide +kernel
theorem dJ9_floorMod_7cf53_11 : decode cJ9_floorMod_7cf53 11 = .ok (.ifCond .eq 7, 3) := by decide +kernel
theorem dJ9_floorMod_7cf53_14 : decode cJ9_floorMod_7cf53 14 = .ok (.iload_n 2, 1) := by decide +kernel
theorem dJ9_floorMod_7cf53_15 : decode cJ9_floorMod_7cf53 15 = .ok (.iload_n 1, 1) := by decide +kernel
theorem dJ9_floorMod_7cf53_16 : decode cJ9_floorMod_7cf53 16 = .ok (.iadd, 1) := by decide +kernel
theorem dJ9_floorMod_7cf53_17 : decode cJ9_floorMod_7cf53 17 = .ok (.ireturn, 1) := by decide +kernel
theorem dJ9_floorMod_7cf53_18 : decode cJ9_floorMod_7cf53 18 = .ok (.iload_n 2, 1) := by decide +kernel
theorem dJ9_floorMod_7cf53_19 : decode cJ9_floorMod_7cf53 19 = .ok (.ireturn, 1) := by decide +kernel
abbrev wd_k_floorMod_0 (_z : Nat → Nat) : va_W := []
set_option maxHeartbeats 4000000 in
set_option maxRecDepth 100000 in
theorem k_floorMod_0 (l : Launch) (dC : Nat → ClassId) (dI : Nat → Nat → Nat) (z zK zV : Nat → Nat)  (sz : Nat)  : Met l yJ9_floorMod_7cf53 wsJ9_floorMod_7cf53 ({ frames := 0, cells := 0, slots := 0, locals := 0 }) (kP dC dI z zK zV [.int 0, .int 32] sz (wd_k_floorMod_0 z) []) (va_Qi (fun (r : Int32) (_ : Unit) => 0 = r) (fun _ t => kB (dC, dI) (va_A (wd_k_floorMod_0 z) sz) [] [] t) (va_A (wd_k_floorMod_0 z) sz)) 0 0 (va_A (wd_k_floorMod_0 z) sz) := by
  refine va_MetF (cc := cJ9_floorMod_7cf53) (maxL := 3) (ret := (some .int)) (by decide +kernel) rfl ?_
  intro p e s m args below meth c s₁ B hml hv
  obtain ⟨rfl, hsz, hP, hK, hD0, hM⟩ := hv
  have hx := B.exec
  have hb := B.bytes
  have hr := B.returns
  have hts := atoms_spec (ws := wsJ9_floorMod_7cf53) B.pre
  have hown : s.vm.findClass RJ9 = some m.cls := findClass_of_methodNamed B.named
  have hlocks := B.notSynchronized
  subst hsz
  have hD := hD0.self (sz := s.heap.size)
  generalize hAe : va_A (wd_k_floorMod_0 z) s.heap.size = A at hD hM ⊢
  have hA : ∀ q : Nat, s.heap.size ≤ q → A q := fun q h => by rw [← hAe]; exact Or.inr h
  have hS : va_S A s.heap s.heap [] := va_S.rf
  have hP : va_P (dC, dI) vwCl [] s.heap := hP
  have hD : va_D A [] := hD
  have hl := lv_entry ([.int 0, .int 32]) (n := 3) (Nat.le_of_ble_eq_true rfl)
  rw [lg_entry_eq]
  generalize (lg_sl ([.int 0, .int 32]) ++ List.replicate (3 - (lg_sl ([.int 0, .int 32])).length) Slot.unset).toArray = ls at hl ⊢
  have hl : lv_has ls 3 [(0, .int 0), (1, .int 32)] := hl
  refine lv_iload_n hx hb dJ9_floorMod_7cf53_0 rfl (lv_at hl 0 rfl) ?_
  refine lv_iload_n hx hb dJ9_floorMod_7cf53_1 rfl (lv_at hl 1 rfl) ?_
  refine lv_irem hx hb dJ9_floorMod_7cf53_2 (by decide +kernel) ?_
  refine kc_i (y := 0) (by decide +kernel) ?_
  refine lv_istore_n (lv' := [(2, .int 0), (0, .int 0), (1, .int 32)]) hx hb dJ9_floorMod_7cf53_3 rfl hl (by decide) rfl (fun ls hl => ?_)
  refine lv_iload_n hx hb dJ9_floorMod_7cf53_4 rfl (lv_at hl 1 rfl) ?_
  refine lv_iload_n hx hb dJ9_floorMod_7cf53_5 rfl (lv_at hl 2 rfl) ?_
  refine lv_ixor hx hb dJ9_floorMod_7cf53_6 ?_
  refine kc_i (y := 32) (by decide +kernel) ?_
  refine lv_if_ge (tgt := 18) hx hb dJ9_floorMod_7cf53_7 (by decide) (fun _ => ?_) (fun c_ => absurd (by decide +kernel) c_)
  refine lv_iload_n hx hb dJ9_floorMod_7cf53_18 rfl (lv_at hl 0 rfl) ?_
  exact W.iret (v := 0) hx hb hr (fun t ht hW => ⟨⟨0, (), rfl, rfl, kB_end (w9 := []) (t9 := []) hP hK hD [] [] rfl (by decide) rfl rfl t ht hW⟩, hS.F ht⟩) hS.2.2 dJ9_floorMod_7cf53_19
abbrev wd_k_floorMod_m8 (_z : Nat → Nat) : va_W := []
set_option maxHeartbeats 4000000 in
set_option maxRecDepth 100000 in
theorem k_floorMod_m8 (l : Launch) (dC : Nat → ClassId) (dI : Nat → Nat → Nat) (z zK zV : Nat → Nat)  (sz : Nat)  : Met l yJ9_floorMod_7cf53 wsJ9_floorMod_7cf53 ({ frames := 0, cells := 0, slots := 0, locals := 0 }) (kP dC dI z zK zV [.int (-8), .int 32] sz (wd_k_floorMod_m8 z) []) (va_Qi (fun (r : Int32) (_ : Unit) => 24 = r) (fun _ t => kB (dC, dI) (va_A (wd_k_floorMod_m8 z) sz) [] [] t) (va_A (wd_k_floorMod_m8 z) sz)) 0 0 (va_A (wd_k_floorMod_m8 z) sz) := by
  refine va_MetF (cc := cJ9_floorMod_7cf53) (maxL := 3) (ret := (some .int)) (by decide +kernel) rfl ?_
  intro p e s m args below meth c s₁ B hml hv
  obtain ⟨rfl, hsz, hP, hK, hD0, hM⟩ := hv
  have hx := B.exec
  have hb := B.bytes
  have hr := B.returns
  have hts := atoms_spec (ws := wsJ9_floorMod_7cf53) B.pre
  have hown : s.vm.findClass RJ9 = some m.cls := findClass_of_methodNamed B.named
  have hlocks := B.notSynchronized
  subst hsz
  have hD := hD0.self (sz := s.heap.size)
  generalize hAe : va_A (wd_k_floorMod_m8 z) s.heap.size = A at hD hM ⊢
  have hA : ∀ q : Nat, s.heap.size ≤ q → A q := fun q h => by rw [← hAe]; exact Or.inr h
  have hS : va_S A s.heap s.heap [] := va_S.rf
  have hP : va_P (dC, dI) vwCl [] s.heap := hP
  have hD : va_D A [] := hD
  have hl := lv_entry ([.int (-8), .int 32]) (n := 3) (Nat.le_of_ble_eq_true rfl)
  rw [lg_entry_eq]
  generalize (lg_sl ([.int (-8), .int 32]) ++ List.replicate (3 - (lg_sl ([.int (-8), .int 32])).length) Slot.unset).toArray = ls at hl ⊢
  have hl : lv_has ls 3 [(0, .int (-8)), (1, .int 32)] := hl
  refine lv_iload_n hx hb dJ9_floorMod_7cf53_0 rfl (lv_at hl 0 rfl) ?_
  refine lv_iload_n hx hb dJ9_floorMod_7cf53_1 rfl (lv_at hl 1 rfl) ?_
  refine lv_irem hx hb dJ9_floorMod_7cf53_2 (by decide +kernel) ?_
  refine kc_i (y := (-8)) (by decide +kernel) ?_
  refine lv_istore_n (lv' := [(2, .int (-8)), (0, .int (-8)), (1, .int 32)]) hx hb dJ9_floorMod_7cf53_3 rfl hl (by decide) rfl (fun ls hl => ?_)
  refine lv_iload_n hx hb dJ9_floorMod_7cf53_4 rfl (lv_at hl 1 rfl) ?_
  refine lv_iload_n hx hb dJ9_floorMod_7cf53_5 rfl (lv_at hl 2 rfl) ?_
  refine lv_ixor hx hb dJ9_floorMod_7cf53_6 ?_
  refine kc_i (y := (-40)) (by decide +kernel) ?_
  refine lv_if_ge (tgt := 18) hx hb dJ9_floorMod_7cf53_7 (by decide) (fun c_ => absurd c_ (by decide +kernel)) (fun _ => ?_)
  refine lv_iload_n hx hb dJ9_floorMod_7cf53_10 rfl (lv_at hl 0 rfl) ?_
  refine lv_if_eq (tgt := 18) hx hb dJ9_floorMod_7cf53_11 (by decide) (fun c_ => absurd c_ (by decide +kernel)) (fun _ => ?_)
  refine lv_iload_n hx hb dJ9_floorMod_7cf53_14 rfl (lv_at hl 0 rfl) ?_
  refine lv_iload_n hx hb dJ9_floorMod_7cf53_15 rfl (lv_at hl 2 rfl) ?_
  refine lv_iadd hx hb dJ9_floorMod_7cf53_16 ?_
  refine kc_i (y := 24) (by decide +kernel) ?_
  exact W.iret (v := 24) hx hb hr (fun t ht hW => ⟨⟨24, (), rfl, rfl, kB_end (w9 := []) (t9 := []) hP hK hD [] [] rfl (by decide) rfl rfl t ht hW⟩, hS.F ht⟩) hS.2.2 dJ9_floorMod_7cf53_17
abbrev wd_k_floorMod_16 (_z : Nat → Nat) : va_W := []
set_option maxHeartbeats 4000000 in
set_option maxRecDepth 100000 in
theorem k_floorMod_16 (l : Launch) (dC : Nat → ClassId) (dI : Nat → Nat → Nat) (z zK zV : Nat → Nat)  (sz : Nat)  : Met l yJ9_floorMod_7cf53 wsJ9_floorMod_7cf53 ({ frames := 0, cells := 0, slots := 0, locals := 0 }) (kP dC dI z zK zV [.int 16, .int 32] sz (wd_k_floorMod_16 z) []) (va_Qi (fun (r : Int32) (_ : Unit) => 16 = r) (fun _ t => kB (dC, dI) (va_A (wd_k_floorMod_16 z) sz) [] [] t) (va_A (wd_k_floorMod_16 z) sz)) 0 0 (va_A (wd_k_floorMod_16 z) sz) := by
  refine va_MetF (cc := cJ9_floorMod_7cf53) (maxL := 3) (ret := (some .int)) (by decide +kernel) rfl ?_
  intro p e s m args below meth c s₁ B hml hv
  obtain ⟨rfl, hsz, hP, hK, hD0, hM⟩ := hv
  have hx := B.exec
  have hb := B.bytes
  have hr := B.returns
  have hts := atoms_spec (ws := wsJ9_floorMod_7cf53) B.pre
  have hown : s.vm.findClass RJ9 = some m.cls := findClass_of_methodNamed B.named
  have hlocks := B.notSynchronized
  subst hsz
  have hD := hD0.self (sz := s.heap.size)
  generalize hAe : va_A (wd_k_floorMod_16 z) s.heap.size = A at hD hM ⊢
  have hA : ∀ q : Nat, s.heap.size ≤ q → A q := fun q h => by rw [← hAe]; exact Or.inr h
  have hS : va_S A s.heap s.heap [] := va_S.rf
  have hP : va_P (dC, dI) vwCl [] s.heap := hP
  have hD : va_D A [] := hD
  have hl := lv_entry ([.int 16, .int 32]) (n := 3) (Nat.le_of_ble_eq_true rfl)
  rw [lg_entry_eq]
  generalize (lg_sl ([.int 16, .int 32]) ++ List.replicate (3 - (lg_sl ([.int 16, .int 32])).length) Slot.unset).toArray = ls at hl ⊢
  have hl : lv_has ls 3 [(0, .int 16), (1, .int 32)] := hl
  refine lv_iload_n hx hb dJ9_floorMod_7cf53_0 rfl (lv_at hl 0 rfl) ?_
  refine lv_iload_n hx hb dJ9_floorMod_7cf53_1 rfl (lv_at hl 1 rfl) ?_
  refine lv_irem hx hb dJ9_floorMod_7cf53_2 (by decide +kernel) ?_
  refine kc_i (y := 16) (by decide +kernel) ?_
  refine lv_istore_n (lv' := [(2, .int 16), (0, .int 16), (1, .int 32)]) hx hb dJ9_floorMod_7cf53_3 rfl hl (by decide) rfl (fun ls hl => ?_)
  refine lv_iload_n hx hb dJ9_floorMod_7cf53_4 rfl (lv_at hl 1 rfl) ?_
  refine lv_iload_n hx hb dJ9_floorMod_7cf53_5 rfl (lv_at hl 2 rfl) ?_
  refine lv_ixor hx hb dJ9_floorMod_7cf53_6 ?_
  refine kc_i (y := 48) (by decide +kernel) ?_
  refine lv_if_ge (tgt := 18) hx hb dJ9_floorMod_7cf53_7 (by decide) (fun _ => ?_) (fun c_ => absurd (by decide +kernel) c_)
  refine lv_iload_n hx hb dJ9_floorMod_7cf53_18 rfl (lv_at hl 0 rfl) ?_
  exact W.iret (v := 16) hx hb hr (fun t ht hW => ⟨⟨16, (), rfl, rfl, kB_end (w9 := []) (t9 := []) hP hK hD [] [] rfl (by decide) rfl rfl t ht hW⟩, hS.F ht⟩) hS.2.2 dJ9_floorMod_7cf53_19
abbrev wd_k_floorMod_8 (_z : Nat → Nat) : va_W := []
set_option maxHeartbeats 4000000 in
set_option maxRecDepth 100000 in
theorem k_floorMod_8 (l : Launch) (dC : Nat → ClassId) (dI : Nat → Nat → Nat) (z zK zV : Nat → Nat)  (sz : Nat)  : Met l yJ9_floorMod_7cf53 wsJ9_floorMod_7cf53 ({ frames := 0, cells := 0, slots := 0, locals := 0 }) (kP dC dI z zK zV [.int 8, .int 32] sz (wd_k_floorMod_8 z) []) (va_Qi (fun (r : Int32) (_ : Unit) => 8 = r) (fun _ t => kB (dC, dI) (va_A (wd_k_floorMod_8 z) sz) [] [] t) (va_A (wd_k_floorMod_8 z) sz)) 0 0 (va_A (wd_k_floorMod_8 z) sz) := by
  refine va_MetF (cc := cJ9_floorMod_7cf53) (maxL := 3) (ret := (some .int)) (by decide +kernel) rfl ?_
  intro p e s m args below meth c s₁ B hml hv
  obtain ⟨rfl, hsz, hP, hK, hD0, hM⟩ := hv
  have hx := B.exec
  have hb := B.bytes
  have hr := B.returns
  have hts := atoms_spec (ws := wsJ9_floorMod_7cf53) B.pre
  have hown : s.vm.findClass RJ9 = some m.cls := findClass_of_methodNamed B.named
  have hlocks := B.notSynchronized
  subst hsz
  have hD := hD0.self (sz := s.heap.size)
  generalize hAe : va_A (wd_k_floorMod_8 z) s.heap.size = A at hD hM ⊢
  have hA : ∀ q : Nat, s.heap.size ≤ q → A q := fun q h => by rw [← hAe]; exact Or.inr h
  have hS : va_S A s.heap s.heap [] := va_S.rf
  have hP : va_P (dC, dI) vwCl [] s.heap := hP
  have hD : va_D A [] := hD
  have hl := lv_entry ([.int 8, .int 32]) (n := 3) (Nat.le_of_ble_eq_true rfl)
  rw [lg_entry_eq]
  generalize (lg_sl ([.int 8, .int 32]) ++ List.replicate (3 - (lg_sl ([.int 8, .int 32])).length) Slot.unset).toArray = ls at hl ⊢
  have hl : lv_has ls 3 [(0, .int 8), (1, .int 32)] := hl
  refine lv_iload_n hx hb dJ9_floorMod_7cf53_0 rfl (lv_at hl 0 rfl) ?_
  refine lv_iload_n hx hb dJ9_floorMod_7cf53_1 rfl (lv_at hl 1 rfl) ?_
  refine lv_irem hx hb dJ9_floorMod_7cf53_2 (by decide +kernel) ?_
  refine kc_i (y := 8) (by decide +kernel) ?_
  refine lv_istore_n (lv' := [(2, .int 8), (0, .int 8), (1, .int 32)]) hx hb dJ9_floorMod_7cf53_3 rfl hl (by decide) rfl (fun ls hl => ?_)
  refine lv_iload_n hx hb dJ9_floorMod_7cf53_4 rfl (lv_at hl 1 rfl) ?_
  refine lv_iload_n hx hb dJ9_floorMod_7cf53_5 rfl (lv_at hl 2 rfl) ?_
  refine lv_ixor hx hb dJ9_floorMod_7cf53_6 ?_
  refine kc_i (y := 40) (by decide +kernel) ?_
  refine lv_if_ge (tgt := 18) hx hb dJ9_floorMod_7cf53_7 (by decide) (fun _ => ?_) (fun c_ => absurd (by decide +kernel) c_)
  refine lv_iload_n hx hb dJ9_floorMod_7cf53_18 rfl (lv_at hl 0 rfl) ?_
  exact W.iret (v := 8) hx hb hr (fun t ht hW => ⟨⟨8, (), rfl, rfl, kB_end (w9 := []) (t9 := []) hP hK hD [] [] rfl (by decide) rfl rfl t ht hW⟩, hS.F ht⟩) hS.2.2 dJ9_floorMod_7cf53_19
abbrev wd_k_northOf_8 (_z : Nat → Nat) : va_W := []
set_option maxHeartbeats 4000000 in
set_option maxRecDepth 100000 in
theorem k_northOf_8 (l : Launch) (dC : Nat → ClassId) (dI : Nat → Nat → Nat) (z zK zV : Nat → Nat)  (sz : Nat)  : Met l yX15_northOf wsX15_northOf ({ frames := 1, cells := 0, slots := 0, locals := 22 }) (kP dC dI z zK zV [.int 8] sz (wd_k_northOf_8 z) []) (va_Qi (fun (r : Int32) (_ : Unit) => 0 = r) (fun _ t => kB (dC, dI) (va_A (wd_k_northOf_8 z) sz) [] [] t) (va_A (wd_k_northOf_8 z) sz)) 0 0 (va_A (wd_k_northOf_8 z) sz) := by
  refine Met.ofW (cc := cX15_northOf) (maxL := 2) (ret := (some .int)) (by decide) rfl ?_
  intro p e s m args below meth c s₁ B hml hv
  obtain ⟨rfl, hsz, hP, hK, hD0, hM⟩ := hv
  have hx := B.exec
  have hb := B.bytes
  have hr := B.returns
  have hts := atoms_spec (ws := wsX15_northOf) B.pre
  have hown : s.vm.findClass RX15 = some m.cls := findClass_of_methodNamed B.named
  have hlocks := B.notSynchronized
  subst hsz
  have hD := hD0.self (sz := s.heap.size)
  generalize hAe : va_A (wd_k_northOf_8 z) s.heap.size = A at hD hM ⊢
  have hA : ∀ q : Nat, s.heap.size ≤ q → A q := fun q h => by rw [← hAe]; exact Or.inr h
  have hS : va_S A s.heap s.heap [] := va_S.rf
  have hP : va_P (dC, dI) vwCl [] s.heap := hP
  have hD : va_D A [] := hD
  have hl := lv_entry ([.int 8]) (n := 2) (Nat.le_of_ble_eq_true rfl)
  rw [lg_entry_eq]
  generalize (lg_sl ([.int 8]) ++ List.replicate (2 - (lg_sl ([.int 8])).length) Slot.unset).toArray = ls at hl ⊢
  have hl : lv_has ls 2 [(0, .int 8)] := hl
  refine lv_iload_n hx hb dX15_northOf_0 rfl (lv_at hl 0 rfl) ?_
  refine lv_bipush (v := 32) hx hb dX15_northOf_1 (by decide) ?_
  have hPc := hP.sub (ws' := []) [] rfl
  have hDc := hD.sub (ws' := []) [] (by decide) rfl
  have hKc := hK.sub (tys' := []) [] rfl
  have hFc := va_free (wc := []) hD hS hA [] rfl
  refine va_calli (va_runS (As := [.int 8, .int 32]) (rest := []) ⟨hx, hb, hml, hown, hts⟩ (k_floorMod_8 l dC dI z zK zV  s.heap.size) (va_cwS 2 hts gX15_northOf_J9_floorMod_7cf53 rfl rfl rfl (by decide +kernel) ⟨Nat.le_of_ble_eq_true rfl, Nat.le_of_ble_eq_true rfl⟩) ⟨kP_blind, kP_go hPc hKc hDc hFc hM hS⟩ rfl rfl hl.1 rfl (lv_room (Nat.le_of_ble_eq_true rfl)) dX15_northOf_3 ⟨Nat.le_of_ble_eq_true rfl, Nat.le_of_ble_eq_true rfl⟩) hS (fun q _ h => hFc q h) hFc (fun r1 u t H1 locs ht hvm hw hB hz1 hk1 hS => ?_)
  obtain ⟨hP, hD, hK⟩ := kJ (wr := []) (w1 := []) (t1 := []) hP hD hK [] [] rfl rfl (by decide) (by decide) hk1 hFc ht hvm hB
  generalize H1 = H at hP hS ⊢
  have hP : va_P (dC, dI) vwCl [] H := hP
  have hD : va_D A [] := hD
  have hK : va_K (dC, dI) vwCl [] s := hK
  obtain rfl : 8 = r1 := hw
  refine lv_istore_n (lv' := [(1, .int 8), (0, .int 8)]) hx hb dX15_northOf_6 rfl hl (by decide) rfl (fun ls hl => ?_)
  refine lv_iload_n hx hb dX15_northOf_7 rfl (lv_at hl 0 rfl) ?_
  refine lv_bipush (v := 16) hx hb dX15_northOf_8 (by decide) ?_
  refine lv_icmp_le (tgt := 21) hx hb dX15_northOf_10 (by decide) (fun _ => ?_) (fun c_ => absurd (by decide +kernel) c_)
  refine lv_iload_n hx hb dX15_northOf_21 rfl (lv_at hl 0 rfl) ?_
  refine lv_bipush (v := 8) hx hb dX15_northOf_22 (by decide) ?_
  refine lv_icmp_le (tgt := 36) hx hb dX15_northOf_24 (by decide) (fun _ => ?_) (fun c_ => absurd (by decide +kernel) c_)
  refine lv_iload_n hx hb dX15_northOf_36 rfl (lv_at hl 0 rfl) ?_
  refine lv_tableOut (tgt := 108) hx hb dX15_northOf_37 (by decide +kernel) (by decide) ?_
  refine lv_iconst (v := 0) hx hb dX15_northOf_108 (by decide) ?_
  exact W.iret (v := 0) hx hb hr (fun t ht hW => ⟨⟨0, (), rfl, rfl, kB_end (w9 := []) (t9 := []) hP hK hD [] [] rfl (by decide) rfl rfl t ht hW⟩, hS.F ht⟩) hS.2.2 dX15_northOf_109
abbrev wd_k_northOf_0 (_z : Nat → Nat) : va_W := []
set_option maxHeartbeats 4000000 in
set_option maxRecDepth 100000 in
theorem k_northOf_0 (l : Launch) (dC : Nat → ClassId) (dI : Nat → Nat → Nat) (z zK zV : Nat → Nat)  (sz : Nat)  : Met l yX15_northOf wsX15_northOf ({ frames := 1, cells := 0, slots := 0, locals := 22 }) (kP dC dI z zK zV [.int 0] sz (wd_k_northOf_0 z) []) (va_Qi (fun (r : Int32) (_ : Unit) => 100 = r) (fun _ t => kB (dC, dI) (va_A (wd_k_northOf_0 z) sz) [] [] t) (va_A (wd_k_northOf_0 z) sz)) 0 0 (va_A (wd_k_northOf_0 z) sz) := by
  refine Met.ofW (cc := cX15_northOf) (maxL := 2) (ret := (some .int)) (by decide) rfl ?_
  intro p e s m args below meth c s₁ B hml hv
  obtain ⟨rfl, hsz, hP, hK, hD0, hM⟩ := hv
  have hx := B.exec
  have hb := B.bytes
  have hr := B.returns
  have hts := atoms_spec (ws := wsX15_northOf) B.pre
  have hown : s.vm.findClass RX15 = some m.cls := findClass_of_methodNamed B.named
  have hlocks := B.notSynchronized
  subst hsz
  have hD := hD0.self (sz := s.heap.size)
  generalize hAe : va_A (wd_k_northOf_0 z) s.heap.size = A at hD hM ⊢
  have hA : ∀ q : Nat, s.heap.size ≤ q → A q := fun q h => by rw [← hAe]; exact Or.inr h
  have hS : va_S A s.heap s.heap [] := va_S.rf
  have hP : va_P (dC, dI) vwCl [] s.heap := hP
  have hD : va_D A [] := hD
  have hl := lv_entry ([.int 0]) (n := 2) (Nat.le_of_ble_eq_true rfl)
  rw [lg_entry_eq]
  generalize (lg_sl ([.int 0]) ++ List.replicate (2 - (lg_sl ([.int 0])).length) Slot.unset).toArray = ls at hl ⊢
  have hl : lv_has ls 2 [(0, .int 0)] := hl
  refine lv_iload_n hx hb dX15_northOf_0 rfl (lv_at hl 0 rfl) ?_
  refine lv_bipush (v := 32) hx hb dX15_northOf_1 (by decide) ?_
  have hPc := hP.sub (ws' := []) [] rfl
  have hDc := hD.sub (ws' := []) [] (by decide) rfl
  have hKc := hK.sub (tys' := []) [] rfl
  have hFc := va_free (wc := []) hD hS hA [] rfl
  refine va_calli (va_runS (As := [.int 0, .int 32]) (rest := []) ⟨hx, hb, hml, hown, hts⟩ (k_floorMod_0 l dC dI z zK zV  s.heap.size) (va_cwS 2 hts gX15_northOf_J9_floorMod_7cf53 rfl rfl rfl (by decide +kernel) ⟨Nat.le_of_ble_eq_true rfl, Nat.le_of_ble_eq_true rfl⟩) ⟨kP_blind, kP_go hPc hKc hDc hFc hM hS⟩ rfl rfl hl.1 rfl (lv_room (Nat.le_of_ble_eq_true rfl)) dX15_northOf_3 ⟨Nat.le_of_ble_eq_true rfl, Nat.le_of_ble_eq_true rfl⟩) hS (fun q _ h => hFc q h) hFc (fun r1 u t H1 locs ht hvm hw hB hz1 hk1 hS => ?_)
  obtain ⟨hP, hD, hK⟩ := kJ (wr := []) (w1 := []) (t1 := []) hP hD hK [] [] rfl rfl (by decide) (by decide) hk1 hFc ht hvm hB
  generalize H1 = H at hP hS ⊢
  have hP : va_P (dC, dI) vwCl [] H := hP
  have hD : va_D A [] := hD
  have hK : va_K (dC, dI) vwCl [] s := hK
  obtain rfl : 0 = r1 := hw
  refine lv_istore_n (lv' := [(1, .int 0), (0, .int 0)]) hx hb dX15_northOf_6 rfl hl (by decide) rfl (fun ls hl => ?_)
  refine lv_iload_n hx hb dX15_northOf_7 rfl (lv_at hl 0 rfl) ?_
  refine lv_bipush (v := 16) hx hb dX15_northOf_8 (by decide) ?_
  refine lv_icmp_le (tgt := 21) hx hb dX15_northOf_10 (by decide) (fun _ => ?_) (fun c_ => absurd (by decide +kernel) c_)
  refine lv_iload_n hx hb dX15_northOf_21 rfl (lv_at hl 0 rfl) ?_
  refine lv_bipush (v := 8) hx hb dX15_northOf_22 (by decide) ?_
  refine lv_icmp_le (tgt := 36) hx hb dX15_northOf_24 (by decide) (fun _ => ?_) (fun c_ => absurd (by decide +kernel) c_)
  refine lv_iload_n hx hb dX15_northOf_36 rfl (lv_at hl 0 rfl) ?_
  refine lv_tableIn (off := 47) (tgt := 84) hx hb dX15_northOf_37 (by decide +kernel) (by decide +kernel) rfl (by decide) ?_
  refine lv_bipush (v := 100) hx hb dX15_northOf_84 (by decide) ?_
  exact W.iret (v := 100) hx hb hr (fun t ht hW => ⟨⟨100, (), rfl, rfl, kB_end (w9 := []) (t9 := []) hP hK hD [] [] rfl (by decide) rfl rfl t ht hW⟩, hS.F ht⟩) hS.2.2 dX15_northOf_86
abbrev wd_k_northOf_16 (_z : Nat → Nat) : va_W := []
set_option maxHeartbeats 4000000 in
set_option maxRecDepth 100000 in
theorem k_northOf_16 (l : Launch) (dC : Nat → ClassId) (dI : Nat → Nat → Nat) (z zK zV : Nat → Nat)  (sz : Nat)  : Met l yX15_northOf wsX15_northOf ({ frames := 2, cells := 0, slots := 0, locals := 43 }) (kP dC dI z zK zV [.int 16] sz (wd_k_northOf_16 z) []) (va_Qi (fun (r : Int32) (_ : Unit) => (-100) = r) (fun _ t => kB (dC, dI) (va_A (wd_k_northOf_16 z) sz) [] [] t) (va_A (wd_k_northOf_16 z) sz)) 0 0 (va_A (wd_k_northOf_16 z) sz) := by
  refine Met.ofW (cc := cX15_northOf) (maxL := 2) (ret := (some .int)) (by decide) rfl ?_
  intro p e s m args below meth c s₁ B hml hv
  obtain ⟨rfl, hsz, hP, hK, hD0, hM⟩ := hv
  have hx := B.exec
  have hb := B.bytes
  have hr := B.returns
  have hts := atoms_spec (ws := wsX15_northOf) B.pre
  have hown : s.vm.findClass RX15 = some m.cls := findClass_of_methodNamed B.named
  have hlocks := B.notSynchronized
  subst hsz
  have hD := hD0.self (sz := s.heap.size)
  generalize hAe : va_A (wd_k_northOf_16 z) s.heap.size = A at hD hM ⊢
  have hA : ∀ q : Nat, s.heap.size ≤ q → A q := fun q h => by rw [← hAe]; exact Or.inr h
  have hS : va_S A s.heap s.heap [] := va_S.rf
  have hP : va_P (dC, dI) vwCl [] s.heap := hP
  have hD : va_D A [] := hD
  have hl := lv_entry ([.int 16]) (n := 2) (Nat.le_of_ble_eq_true rfl)
  rw [lg_entry_eq]
  generalize (lg_sl ([.int 16]) ++ List.replicate (2 - (lg_sl ([.int 16])).length) Slot.unset).toArray = ls at hl ⊢
  have hl : lv_has ls 2 [(0, .int 16)] := hl
  refine lv_iload_n hx hb dX15_northOf_0 rfl (lv_at hl 0 rfl) ?_
  refine lv_bipush (v := 32) hx hb dX15_northOf_1 (by decide) ?_
  have hPc := hP.sub (ws' := []) [] rfl
  have hDc := hD.sub (ws' := []) [] (by decide) rfl
  have hKc := hK.sub (tys' := []) [] rfl
  have hFc := va_free (wc := []) hD hS hA [] rfl
  refine va_calli (va_runS (As := [.int 16, .int 32]) (rest := []) ⟨hx, hb, hml, hown, hts⟩ (k_floorMod_16 l dC dI z zK zV  s.heap.size) (va_cwS 2 hts gX15_northOf_J9_floorMod_7cf53 rfl rfl rfl (by decide +kernel) ⟨Nat.le_of_ble_eq_true rfl, Nat.le_of_ble_eq_true rfl⟩) ⟨kP_blind, kP_go hPc hKc hDc hFc hM hS⟩ rfl rfl hl.1 rfl (lv_room (Nat.le_of_ble_eq_true rfl)) dX15_northOf_3 ⟨Nat.le_of_ble_eq_true rfl, Nat.le_of_ble_eq_true rfl⟩) hS (fun q _ h => hFc q h) hFc (fun r1 u t H1 locs ht hvm hw hB hz1 hk1 hS => ?_)
  obtain ⟨hP, hD, hK⟩ := kJ (wr := []) (w1 := []) (t1 := []) hP hD hK [] [] rfl rfl (by decide) (by decide) hk1 hFc ht hvm hB
  generalize H1 = H at hP hS ⊢
  have hP : va_P (dC, dI) vwCl [] H := hP
  have hD : va_D A [] := hD
  have hK : va_K (dC, dI) vwCl [] s := hK
  obtain rfl : 16 = r1 := hw
  refine lv_istore_n (lv' := [(1, .int 16), (0, .int 16)]) hx hb dX15_northOf_6 rfl hl (by decide) rfl (fun ls hl => ?_)
  refine lv_iload_n hx hb dX15_northOf_7 rfl (lv_at hl 0 rfl) ?_
  refine lv_bipush (v := 16) hx hb dX15_northOf_8 (by decide) ?_
  refine lv_icmp_le (tgt := 21) hx hb dX15_northOf_10 (by decide) (fun _ => ?_) (fun c_ => absurd (by decide +kernel) c_)
  refine lv_iload_n hx hb dX15_northOf_21 rfl (lv_at hl 0 rfl) ?_
  refine lv_bipush (v := 8) hx hb dX15_northOf_22 (by decide) ?_
  refine lv_icmp_le (tgt := 36) hx hb dX15_northOf_24 (by decide) (fun c_ => absurd c_ (by decide +kernel)) (fun _ => ?_)
  refine lv_bipush (v := 16) hx hb dX15_northOf_27 (by decide) ?_
  refine lv_iload_n hx hb dX15_northOf_29 rfl (lv_at hl 0 rfl) ?_
  refine lv_isub hx hb dX15_northOf_30 ?_
  refine kc_i (y := 0) (by decide +kernel) ?_
  have hPc := hP.sub (ws' := []) [] rfl
  have hDc := hD.sub (ws' := []) [] (by decide) rfl
  have hKc := hK.sub (tys' := []) [] rfl
  have hFc := va_free (wc := []) hD hS hA [] rfl
  refine va_calli (va_runS (As := [.int 0]) (rest := []) ⟨hx, hb, hml, hown, hts⟩ (k_northOf_0 l dC dI z zK zV  H.size) (va_cwS 1 hts gX15_northOf_X15_northOf rfl rfl rfl (by decide +kernel) ⟨Nat.le_of_ble_eq_true rfl, Nat.le_of_ble_eq_true rfl⟩) ⟨kP_blind, kP_go hPc hKc hDc hFc hM hS⟩ rfl rfl hl.1 rfl (lv_room (Nat.le_of_ble_eq_true rfl)) dX15_northOf_31 ⟨Nat.le_of_ble_eq_true rfl, Nat.le_of_ble_eq_true rfl⟩) hS (fun q _ h => hFc q h) hFc (fun r2 u t H1 locs ht hvm hw hB hz1 hk1 hS => ?_)
  obtain ⟨hP, hD, hK⟩ := kJ (wr := []) (w1 := []) (t1 := []) hP hD hK [] [] rfl rfl (by decide) (by decide) hk1 hFc ht hvm hB
  generalize H1 = H at hP hS ⊢
  have hP : va_P (dC, dI) vwCl [] H := hP
  have hD : va_D A [] := hD
  have hK : va_K (dC, dI) vwCl [] s := hK
  obtain rfl : 100 = r2 := hw
  refine lv_ineg hx hb dX15_northOf_34 ?_
  refine kc_i (y := (-100)) (by decide +kernel) ?_
  exact W.iret (v := (-100)) hx hb hr (fun t ht hW => ⟨⟨(-100), (), rfl, rfl, kB_end (w9 := []) (t9 := []) hP hK hD [] [] rfl (by decide) rfl rfl t ht hW⟩, hS.F ht⟩) hS.2.2 dX15_northOf_35
abbrev wd_k_northOf_m8 (_z : Nat → Nat) : va_W := []
set_option maxHeartbeats 4000000 in
set_option maxRecDepth 100000 in
theorem k_northOf_m8 (l : Launch) (dC : Nat → ClassId) (dI : Nat → Nat → Nat) (z zK zV : Nat → Nat)  (sz : Nat)  : Met l yX15_northOf wsX15_northOf ({ frames := 2, cells := 0, slots := 0, locals := 43 }) (kP dC dI z zK zV [.int (-8)] sz (wd_k_northOf_m8 z) []) (va_Qi (fun (r : Int32) (_ : Unit) => 0 = r) (fun _ t => kB (dC, dI) (va_A (wd_k_northOf_m8 z) sz) [] [] t) (va_A (wd_k_northOf_m8 z) sz)) 0 0 (va_A (wd_k_northOf_m8 z) sz) := by
  refine Met.ofW (cc := cX15_northOf) (maxL := 2) (ret := (some .int)) (by decide) rfl ?_
  intro p e s m args below meth c s₁ B hml hv
  obtain ⟨rfl, hsz, hP, hK, hD0, hM⟩ := hv
  have hx := B.exec
  have hb := B.bytes
  have hr := B.returns
  have hts := atoms_spec (ws := wsX15_northOf) B.pre
  have hown : s.vm.findClass RX15 = some m.cls := findClass_of_methodNamed B.named
  have hlocks := B.notSynchronized
  subst hsz
  have hD := hD0.self (sz := s.heap.size)
  generalize hAe : va_A (wd_k_northOf_m8 z) s.heap.size = A at hD hM ⊢
  have hA : ∀ q : Nat, s.heap.size ≤ q → A q := fun q h => by rw [← hAe]; exact Or.inr h
  have hS : va_S A s.heap s.heap [] := va_S.rf
  have hP : va_P (dC, dI) vwCl [] s.heap := hP
  have hD : va_D A [] := hD
  have hl := lv_entry ([.int (-8)]) (n := 2) (Nat.le_of_ble_eq_true rfl)
  rw [lg_entry_eq]
  generalize (lg_sl ([.int (-8)]) ++ List.replicate (2 - (lg_sl ([.int (-8)])).length) Slot.unset).toArray = ls at hl ⊢
  have hl : lv_has ls 2 [(0, .int (-8))] := hl
  refine lv_iload_n hx hb dX15_northOf_0 rfl (lv_at hl 0 rfl) ?_
  refine lv_bipush (v := 32) hx hb dX15_northOf_1 (by decide) ?_
  have hPc := hP.sub (ws' := []) [] rfl
  have hDc := hD.sub (ws' := []) [] (by decide) rfl
  have hKc := hK.sub (tys' := []) [] rfl
  have hFc := va_free (wc := []) hD hS hA [] rfl
  refine va_calli (va_runS (As := [.int (-8), .int 32]) (rest := []) ⟨hx, hb, hml, hown, hts⟩ (k_floorMod_m8 l dC dI z zK zV  s.heap.size) (va_cwS 2 hts gX15_northOf_J9_floorMod_7cf53 rfl rfl rfl (by decide +kernel) ⟨Nat.le_of_ble_eq_true rfl, Nat.le_of_ble_eq_true rfl⟩) ⟨kP_blind, kP_go hPc hKc hDc hFc hM hS⟩ rfl rfl hl.1 rfl (lv_room (Nat.le_of_ble_eq_true rfl)) dX15_northOf_3 ⟨Nat.le_of_ble_eq_true rfl, Nat.le_of_ble_eq_true rfl⟩) hS (fun q _ h => hFc q h) hFc (fun r1 u t H1 locs ht hvm hw hB hz1 hk1 hS => ?_)
  obtain ⟨hP, hD, hK⟩ := kJ (wr := []) (w1 := []) (t1 := []) hP hD hK [] [] rfl rfl (by decide) (by decide) hk1 hFc ht hvm hB
  generalize H1 = H at hP hS ⊢
  have hP : va_P (dC, dI) vwCl [] H := hP
  have hD : va_D A [] := hD
  have hK : va_K (dC, dI) vwCl [] s := hK
  obtain rfl : 24 = r1 := hw
  refine lv_istore_n (lv' := [(1, .int 24), (0, .int (-8))]) hx hb dX15_northOf_6 rfl hl (by decide) rfl (fun ls hl => ?_)
  refine lv_iload_n hx hb dX15_northOf_7 rfl (lv_at hl 0 rfl) ?_
  refine lv_bipush (v := 16) hx hb dX15_northOf_8 (by decide) ?_
  refine lv_icmp_le (tgt := 21) hx hb dX15_northOf_10 (by decide) (fun c_ => absurd c_ (by decide +kernel)) (fun _ => ?_)
  refine lv_bipush (v := 32) hx hb dX15_northOf_13 (by decide) ?_
  refine lv_iload_n hx hb dX15_northOf_15 rfl (lv_at hl 0 rfl) ?_
  refine lv_isub hx hb dX15_northOf_16 ?_
  refine kc_i (y := 8) (by decide +kernel) ?_
  have hPc := hP.sub (ws' := []) [] rfl
  have hDc := hD.sub (ws' := []) [] (by decide) rfl
  have hKc := hK.sub (tys' := []) [] rfl
  have hFc := va_free (wc := []) hD hS hA [] rfl
  refine va_calli (va_runS (As := [.int 8]) (rest := []) ⟨hx, hb, hml, hown, hts⟩ (k_northOf_8 l dC dI z zK zV  H.size) (va_cwS 1 hts gX15_northOf_X15_northOf rfl rfl rfl (by decide +kernel) ⟨Nat.le_of_ble_eq_true rfl, Nat.le_of_ble_eq_true rfl⟩) ⟨kP_blind, kP_go hPc hKc hDc hFc hM hS⟩ rfl rfl hl.1 rfl (lv_room (Nat.le_of_ble_eq_true rfl)) dX15_northOf_17 ⟨Nat.le_of_ble_eq_true rfl, Nat.le_of_ble_eq_true rfl⟩) hS (fun q _ h => hFc q h) hFc (fun r2 u t H1 locs ht hvm hw hB hz1 hk1 hS => ?_)
  obtain ⟨hP, hD, hK⟩ := kJ (wr := []) (w1 := []) (t1 := []) hP hD hK [] [] rfl rfl (by decide) (by decide) hk1 hFc ht hvm hB
  generalize H1 = H at hP hS ⊢
  have hP : va_P (dC, dI) vwCl [] H := hP
  have hD : va_D A [] := hD
  have hK : va_K (dC, dI) vwCl [] s := hK
  obtain rfl : 0 = r2 := hw
  exact W.iret (v := 0) hx hb hr (fun t ht hW => ⟨⟨0, (), rfl, rfl, kB_end (w9 := []) (t9 := []) hP hK hD [] [] rfl (by decide) rfl rfl t ht hW⟩, hS.F ht⟩) hS.2.2 dX15_northOf_20
abbrev wd_k_eastOf_0 (_z : Nat → Nat) : va_W := []
set_option maxHeartbeats 4000000 in
set_option maxRecDepth 100000 in
theorem k_eastOf_0 (l : Launch) (dC : Nat → ClassId) (dI : Nat → Nat → Nat) (z zK zV : Nat → Nat)  (sz : Nat)  : Met l yX15_eastOf wsX15_eastOf ({ frames := 3, cells := 0, slots := 0, locals := 64 }) (kP dC dI z zK zV [.int 0] sz (wd_k_eastOf_0 z) []) (va_Qi (fun (r : Int32) (_ : Unit) => 0 = r) (fun _ t => kB (dC, dI) (va_A (wd_k_eastOf_0 z) sz) [] [] t) (va_A (wd_k_eastOf_0 z) sz)) 0 0 (va_A (wd_k_eastOf_0 z) sz) := by
  refine Met.ofW (cc := cX15_eastOf) (maxL := 1) (ret := (some .int)) (by decide) rfl ?_
  intro p e s m args below meth c s₁ B hml hv
  obtain ⟨rfl, hsz, hP, hK, hD0, hM⟩ := hv
  have hx := B.exec
  have hb := B.bytes
  have hr := B.returns
  have hts := atoms_spec (ws := wsX15_eastOf) B.pre
  have hown : s.vm.findClass RX15 = some m.cls := findClass_of_methodNamed B.named
  have hlocks := B.notSynchronized
  subst hsz
  have hD := hD0.self (sz := s.heap.size)
  generalize hAe : va_A (wd_k_eastOf_0 z) s.heap.size = A at hD hM ⊢
  have hA : ∀ q : Nat, s.heap.size ≤ q → A q := fun q h => by rw [← hAe]; exact Or.inr h
  have hS : va_S A s.heap s.heap [] := va_S.rf
  have hP : va_P (dC, dI) vwCl [] s.heap := hP
  have hD : va_D A [] := hD
  have hl := lv_entry ([.int 0]) (n := 1) (Nat.le_of_ble_eq_true rfl)
  rw [lg_entry_eq]
  generalize (lg_sl ([.int 0]) ++ List.replicate (1 - (lg_sl ([.int 0])).length) Slot.unset).toArray = ls at hl ⊢
  have hl : lv_has ls 1 [(0, .int 0)] := hl
  refine lv_iload_n hx hb dX15_eastOf_0 rfl (lv_at hl 0 rfl) ?_
  refine lv_bipush (v := 8) hx hb dX15_eastOf_1 (by decide) ?_
  refine lv_isub hx hb dX15_eastOf_3 ?_
  refine kc_i (y := (-8)) (by decide +kernel) ?_
  have hPc := hP.sub (ws' := []) [] rfl
  have hDc := hD.sub (ws' := []) [] (by decide) rfl
  have hKc := hK.sub (tys' := []) [] rfl
  have hFc := va_free (wc := []) hD hS hA [] rfl
  refine va_calli (va_runS (As := [.int (-8)]) (rest := []) ⟨hx, hb, hml, hown, hts⟩ (k_northOf_m8 l dC dI z zK zV  s.heap.size) (va_cwS 1 hts gX15_eastOf_X15_northOf rfl rfl rfl (by decide +kernel) ⟨Nat.le_of_ble_eq_true rfl, Nat.le_of_ble_eq_true rfl⟩) ⟨kP_blind, kP_go hPc hKc hDc hFc hM hS⟩ rfl rfl hl.1 rfl (lv_room (Nat.le_of_ble_eq_true rfl)) dX15_eastOf_4 ⟨Nat.le_of_ble_eq_true rfl, Nat.le_of_ble_eq_true rfl⟩) hS (fun q _ h => hFc q h) hFc (fun r1 u t H1 locs ht hvm hw hB hz1 hk1 hS => ?_)
  obtain ⟨hP, hD, hK⟩ := kJ (wr := []) (w1 := []) (t1 := []) hP hD hK [] [] rfl rfl (by decide) (by decide) hk1 hFc ht hvm hB
  generalize H1 = H at hP hS ⊢
  have hP : va_P (dC, dI) vwCl [] H := hP
  have hD : va_D A [] := hD
  have hK : va_K (dC, dI) vwCl [] s := hK
  obtain rfl : 0 = r1 := hw
  exact W.iret (v := 0) hx hb hr (fun t ht hW => ⟨⟨0, (), rfl, rfl, kB_end (w9 := []) (t9 := []) hP hK hD [] [] rfl (by decide) rfl rfl t ht hW⟩, hS.F ht⟩) hS.2.2 dX15_eastOf_7
abbrev wd_k_eastOf_16 (_z : Nat → Nat) : va_W := []
set_option maxHeartbeats 4000000 in
set_option maxRecDepth 100000 in
theorem k_eastOf_16 (l : Launch) (dC : Nat → ClassId) (dI : Nat → Nat → Nat) (z zK zV : Nat → Nat)  (sz : Nat)  : Met l yX15_eastOf wsX15_eastOf ({ frames := 2, cells := 0, slots := 0, locals := 43 }) (kP dC dI z zK zV [.int 16] sz (wd_k_eastOf_16 z) []) (va_Qi (fun (r : Int32) (_ : Unit) => 0 = r) (fun _ t => kB (dC, dI) (va_A (wd_k_eastOf_16 z) sz) [] [] t) (va_A (wd_k_eastOf_16 z) sz)) 0 0 (va_A (wd_k_eastOf_16 z) sz) := by
  refine Met.ofW (cc := cX15_eastOf) (maxL := 1) (ret := (some .int)) (by decide) rfl ?_
  intro p e s m args below meth c s₁ B hml hv
  obtain ⟨rfl, hsz, hP, hK, hD0, hM⟩ := hv
  have hx := B.exec
  have hb := B.bytes
  have hr := B.returns
  have hts := atoms_spec (ws := wsX15_eastOf) B.pre
  have hown : s.vm.findClass RX15 = some m.cls := findClass_of_methodNamed B.named
  have hlocks := B.notSynchronized
  subst hsz
  have hD := hD0.self (sz := s.heap.size)
  generalize hAe : va_A (wd_k_eastOf_16 z) s.heap.size = A at hD hM ⊢
  have hA : ∀ q : Nat, s.heap.size ≤ q → A q := fun q h => by rw [← hAe]; exact Or.inr h
  have hS : va_S A s.heap s.heap [] := va_S.rf
  have hP : va_P (dC, dI) vwCl [] s.heap := hP
  have hD : va_D A [] := hD
  have hl := lv_entry ([.int 16]) (n := 1) (Nat.le_of_ble_eq_true rfl)
  rw [lg_entry_eq]
  generalize (lg_sl ([.int 16]) ++ List.replicate (1 - (lg_sl ([.int 16])).length) Slot.unset).toArray = ls at hl ⊢
  have hl : lv_has ls 1 [(0, .int 16)] := hl
  refine lv_iload_n hx hb dX15_eastOf_0 rfl (lv_at hl 0 rfl) ?_
  refine lv_bipush (v := 8) hx hb dX15_eastOf_1 (by decide) ?_
  refine lv_isub hx hb dX15_eastOf_3 ?_
  refine kc_i (y := 8) (by decide +kernel) ?_
  have hPc := hP.sub (ws' := []) [] rfl
  have hDc := hD.sub (ws' := []) [] (by decide) rfl
  have hKc := hK.sub (tys' := []) [] rfl
  have hFc := va_free (wc := []) hD hS hA [] rfl
  refine va_calli (va_runS (As := [.int 8]) (rest := []) ⟨hx, hb, hml, hown, hts⟩ (k_northOf_8 l dC dI z zK zV  s.heap.size) (va_cwS 1 hts gX15_eastOf_X15_northOf rfl rfl rfl (by decide +kernel) ⟨Nat.le_of_ble_eq_true rfl, Nat.le_of_ble_eq_true rfl⟩) ⟨kP_blind, kP_go hPc hKc hDc hFc hM hS⟩ rfl rfl hl.1 rfl (lv_room (Nat.le_of_ble_eq_true rfl)) dX15_eastOf_4 ⟨Nat.le_of_ble_eq_true rfl, Nat.le_of_ble_eq_true rfl⟩) hS (fun q _ h => hFc q h) hFc (fun r1 u t H1 locs ht hvm hw hB hz1 hk1 hS => ?_)
  obtain ⟨hP, hD, hK⟩ := kJ (wr := []) (w1 := []) (t1 := []) hP hD hK [] [] rfl rfl (by decide) (by decide) hk1 hFc ht hvm hB
  generalize H1 = H at hP hS ⊢
  have hP : va_P (dC, dI) vwCl [] H := hP
  have hD : va_D A [] := hD
  have hK : va_K (dC, dI) vwCl [] s := hK
  obtain rfl : 0 = r1 := hw
  exact W.iret (v := 0) hx hb hr (fun t ht hW => ⟨⟨0, (), rfl, rfl, kB_end (w9 := []) (t9 := []) hP hK hD [] [] rfl (by decide) rfl rfl t ht hW⟩, hS.F ht⟩) hS.2.2 dX15_eastOf_7
abbrev wd_k_right (z : Nat → Nat) (mi : Int32) (fo : Int32) (pe : Int64) (pn : Int64) (re : Int64) (rn : Int64) (mo : Nat) (ti : Nat) (si : Nat) (lo : Nat) (lh : Nat) (lk : Nat) (sp : Nat) (st : Nat) (pa : Nat) (br : Nat) (sg : Nat) (th : Int32) (tu : Int32) : va_W := [(mo, .inr (19, [.int 0, .int 0, .int 0, .int 0, .int 0, .int 0, .int tu, .ref ti, .ref si, .ref lo, .ref lh, .ref lk, .ref sp, .ref st, .ref pa, .ref br, .ref sg, .int mi, .int 0, .int 0, .int 0, .int fo, .int 0, .long pe, .long pn, .long re, .long rn, .int th]))]
set_option maxHeartbeats 4000000 in
set_option maxRecDepth 100000 in
theorem k_right (l : Launch) (dC : Nat → ClassId) (dI : Nat → Nat → Nat) (z zK zV : Nat → Nat) (mi : Int32) (fo : Int32) (pe : Int64) (pn : Int64) (re : Int64) (rn : Int64) (mo : Nat) (ti : Nat) (si : Nat) (lo : Nat) (lh : Nat) (lk : Nat) (sp : Nat) (st : Nat) (pa : Nat) (br : Nat) (sg : Nat) (th : Int32) (tu : Int32) (sz : Nat)  : Met l yX15_right wsX15_right ({ frames := 1, cells := 0, slots := 0, locals := 22 }) (kP dC dI z zK zV [.ref mo] sz (wd_k_right z mi fo pe pn re rn mo ti si lo lh lk sp st pa br sg th tu) []) (va_Qi (fun (r : Int32) (_ : Unit) => 0 = r) (fun _ t => kB (dC, dI) (va_A (wd_k_right z mi fo pe pn re rn mo ti si lo lh lk sp st pa br sg th tu) sz) [(mo, .inr (19, [.int 0, .int 0, .int 0, .int 0, .int 0, .int 0, .int tu, .ref ti, .ref si, .ref lo, .ref lh, .ref lk, .ref sp, .ref st, .ref pa, .ref br, .ref sg, .int mi, .int 0, .int 0, .int 0, .int fo, .int 0, .long pe, .long pn, .long re, .long rn, .int th]))] [] t) (va_A (wd_k_right z mi fo pe pn re rn mo ti si lo lh lk sp st pa br sg th tu) sz)) 0 0 (va_A (wd_k_right z mi fo pe pn re rn mo ti si lo lh lk sp st pa br sg th tu) sz) := by
  refine Met.ofW (cc := cX15_right) (maxL := 1) (ret := (some .int)) (by decide) rfl ?_
  intro p e s m args below meth c s₁ B hml hv
  obtain ⟨rfl, hsz, hP, hK, hD0, hM⟩ := hv
  have hx := B.exec
  have hb := B.bytes
  have hr := B.returns
  have hts := atoms_spec (ws := wsX15_right) B.pre
  have hown : s.vm.findClass RX15 = some m.cls := findClass_of_methodNamed B.named
  have hlocks := B.notSynchronized
  have hiX15 : ∀ w ∈ u_ws RX15 TX15 28, w ∈ wsX15_right := by decide +kernel
  subst hsz
  have hD := hD0.self (sz := s.heap.size)
  generalize hAe : va_A (wd_k_right z mi fo pe pn re rn mo ti si lo lh lk sp st pa br sg th tu) s.heap.size = A at hD hM ⊢
  have hA : ∀ q : Nat, s.heap.size ≤ q → A q := fun q h => by rw [← hAe]; exact Or.inr h
  have hS : va_S A s.heap s.heap [] := va_S.rf
  have hP : va_P (dC, dI) vwCl [(mo, .inr (19, [.int 0, .int 0, .int 0, .int 0, .int 0, .int 0, .int tu, .ref ti, .ref si, .ref lo, .ref lh, .ref lk, .ref sp, .ref st, .ref pa, .ref br, .ref sg, .int mi, .int 0, .int 0, .int 0, .int fo, .int 0, .long pe, .long pn, .long re, .long rn, .int th]))] s.heap := hP
  have hD : va_D A [(mo, .inr (19, [.int 0, .int 0, .int 0, .int 0, .int 0, .int 0, .int tu, .ref ti, .ref si, .ref lo, .ref lh, .ref lk, .ref sp, .ref st, .ref pa, .ref br, .ref sg, .int mi, .int 0, .int 0, .int 0, .int fo, .int 0, .long pe, .long pn, .long re, .long rn, .int th]))] := hD
  have hl := lv_entry ([.ref mo]) (n := 1) (Nat.le_of_ble_eq_true rfl)
  rw [lg_entry_eq]
  generalize (lg_sl ([.ref mo]) ++ List.replicate (1 - (lg_sl ([.ref mo])).length) Slot.unset).toArray = ls at hl ⊢
  have hl : lv_has ls 1 [(0, .ref mo)] := hl
  refine lv_aload_n hx hb dX15_right_0 rfl (lv_at hl 0 rfl) ?_
  refine va_get (D := (dC, dI)) (ci := 19) (v := .int 0) (C := RX15) (T := TX15) (N := 28) hx hb hts hiX15 hown hK hP 0 rfl rfl 0 (by decide) (hts (.fieldLink RX15 65 "SquareRigModel" "from" "I") (by decide +kernel)) (fun _ h9 => h9) rfl dX15_right_1 ?_
  refine lv_aload_n hx hb dX15_right_4 rfl (lv_at hl 0 rfl) ?_
  refine va_get (D := (dC, dI)) (ci := 19) (v := .int 0) (C := RX15) (T := TX15) (N := 28) hx hb hts hiX15 hown hK hP 0 rfl rfl 18 (by decide) (hts (.fieldLink RX15 68 "SquareRigModel" "heading" "I") (by decide +kernel)) (fun _ h9 => h9) rfl dX15_right_5 ?_
  refine lv_isub hx hb dX15_right_8 ?_
  refine kc_i (y := 0) (by decide +kernel) ?_
  refine lv_bipush (v := 32) hx hb dX15_right_9 (by decide) ?_
  have hPc := hP.sub (ws' := []) [] rfl
  have hDc := hD.sub (ws' := []) [] (by decide) rfl
  have hKc := hK.sub (tys' := []) [] rfl
  have hFc := va_free (wc := []) hD hS hA [] rfl
  refine va_calli (va_runS (As := [.int 0, .int 32]) (rest := []) ⟨hx, hb, hml, hown, hts⟩ (k_floorMod_0 l dC dI z zK zV  s.heap.size) (va_cwS 2 hts gX15_right_J9_floorMod_7cf53 rfl rfl rfl (by decide +kernel) ⟨Nat.le_of_ble_eq_true rfl, Nat.le_of_ble_eq_true rfl⟩) ⟨kP_blind, kP_go hPc hKc hDc hFc hM hS⟩ rfl rfl hl.1 rfl (lv_room (Nat.le_of_ble_eq_true rfl)) dX15_right_11 ⟨Nat.le_of_ble_eq_true rfl, Nat.le_of_ble_eq_true rfl⟩) hS (fun q _ h => hFc q h) hFc (fun r1 u t H1 locs ht hvm hw hB hz1 hk1 hS => ?_)
  obtain ⟨hP, hD, hK⟩ := kJ (wr := [(mo, .inr (19, [.int 0, .int 0, .int 0, .int 0, .int 0, .int 0, .int tu, .ref ti, .ref si, .ref lo, .ref lh, .ref lk, .ref sp, .ref st, .ref pa, .ref br, .ref sg, .int mi, .int 0, .int 0, .int 0, .int fo, .int 0, .long pe, .long pn, .long re, .long rn, .int th]))]) (w1 := []) (t1 := []) hP hD hK [] [0] rfl rfl (by decide) (by decide) hk1 hFc ht hvm hB
  generalize H1 = H at hP hS ⊢
  have hP : va_P (dC, dI) vwCl [(mo, .inr (19, [.int 0, .int 0, .int 0, .int 0, .int 0, .int 0, .int tu, .ref ti, .ref si, .ref lo, .ref lh, .ref lk, .ref sp, .ref st, .ref pa, .ref br, .ref sg, .int mi, .int 0, .int 0, .int 0, .int fo, .int 0, .long pe, .long pn, .long re, .long rn, .int th]))] H := hP
  have hD : va_D A [(mo, .inr (19, [.int 0, .int 0, .int 0, .int 0, .int 0, .int 0, .int tu, .ref ti, .ref si, .ref lo, .ref lh, .ref lk, .ref sp, .ref st, .ref pa, .ref br, .ref sg, .int mi, .int 0, .int 0, .int 0, .int fo, .int 0, .long pe, .long pn, .long re, .long rn, .int th]))] := hD
  have hK : va_K (dC, dI) vwCl [] s := hK
  obtain rfl : 0 = r1 := hw
  exact W.iret (v := 0) hx hb hr (fun t ht hW => ⟨⟨0, (), rfl, rfl, kB_end (w9 := [(mo, .inr (19, [.int 0, .int 0, .int 0, .int 0, .int 0, .int 0, .int tu, .ref ti, .ref si, .ref lo, .ref lh, .ref lk, .ref sp, .ref st, .ref pa, .ref br, .ref sg, .int mi, .int 0, .int 0, .int 0, .int fo, .int 0, .long pe, .long pn, .long re, .long rn, .int th]))]) (t9 := []) hP hK hD [0] [] rfl (by decide) rfl rfl t ht hW⟩, hS.F ht⟩) hS.2.2 dX15_right_14
abbrev wd_k_sideNow (z : Nat → Nat) (mi : Int32) (fo : Int32) (pe : Int64) (pn : Int64) (re : Int64) (rn : Int64) (mo : Nat) (ti : Nat) (si : Nat) (lo : Nat) (lh : Nat) (lk : Nat) (sp : Nat) (st : Nat) (pa : Nat) (br : Nat) (sg : Nat) (th : Int32) (tu : Int32) : va_W := [(mo, .inr (19, [.int 0, .int 0, .int 0, .int 0, .int 0, .int 0, .int tu, .ref ti, .ref si, .ref lo, .ref lh, .ref lk, .ref sp, .ref st, .ref pa, .ref br, .ref sg, .int mi, .int 0, .int 0, .int 0, .int fo, .int 0, .long pe, .long pn, .long re, .long rn, .int th]))]
set_option maxHeartbeats 4000000 in
set_option maxRecDepth 100000 in
theorem k_sideNow (l : Launch) (dC : Nat → ClassId) (dI : Nat → Nat → Nat) (z zK zV : Nat → Nat) (mi : Int32) (fo : Int32) (pe : Int64) (pn : Int64) (re : Int64) (rn : Int64) (mo : Nat) (ti : Nat) (si : Nat) (lo : Nat) (lh : Nat) (lk : Nat) (sp : Nat) (st : Nat) (pa : Nat) (br : Nat) (sg : Nat) (th : Int32) (tu : Int32) (sz : Nat)  : Met l yX15_sideNow wsX15_sideNow ({ frames := 2, cells := 0, slots := 0, locals := 42 }) (kP dC dI z zK zV [.ref mo] sz (wd_k_sideNow z mi fo pe pn re rn mo ti si lo lh lk sp st pa br sg th tu) []) (va_Qi (fun (r : Int32) (_ : Unit) => 0 = r) (fun _ t => kB (dC, dI) (va_A (wd_k_sideNow z mi fo pe pn re rn mo ti si lo lh lk sp st pa br sg th tu) sz) [(mo, .inr (19, [.int 0, .int 0, .int 0, .int 0, .int 0, .int 0, .int tu, .ref ti, .ref si, .ref lo, .ref lh, .ref lk, .ref sp, .ref st, .ref pa, .ref br, .ref sg, .int mi, .int 0, .int 0, .int 0, .int fo, .int 0, .long pe, .long pn, .long re, .long rn, .int th]))] [] t) (va_A (wd_k_sideNow z mi fo pe pn re rn mo ti si lo lh lk sp st pa br sg th tu) sz)) 0 0 (va_A (wd_k_sideNow z mi fo pe pn re rn mo ti si lo lh lk sp st pa br sg th tu) sz) := by
  refine Met.ofW (cc := cX15_sideNow) (maxL := 2) (ret := (some .int)) (by decide) rfl ?_
  intro p e s m args below meth c s₁ B hml hv
  obtain ⟨rfl, hsz, hP, hK, hD0, hM⟩ := hv
  have hx := B.exec
  have hb := B.bytes
  have hr := B.returns
  have hts := atoms_spec (ws := wsX15_sideNow) B.pre
  have hown : s.vm.findClass RX15 = some m.cls := findClass_of_methodNamed B.named
  have hlocks := B.notSynchronized
  subst hsz
  have hD := hD0.self (sz := s.heap.size)
  generalize hAe : va_A (wd_k_sideNow z mi fo pe pn re rn mo ti si lo lh lk sp st pa br sg th tu) s.heap.size = A at hD hM ⊢
  have hA : ∀ q : Nat, s.heap.size ≤ q → A q := fun q h => by rw [← hAe]; exact Or.inr h
  have hS : va_S A s.heap s.heap [] := va_S.rf
  have hP : va_P (dC, dI) vwCl [(mo, .inr (19, [.int 0, .int 0, .int 0, .int 0, .int 0, .int 0, .int tu, .ref ti, .ref si, .ref lo, .ref lh, .ref lk, .ref sp, .ref st, .ref pa, .ref br, .ref sg, .int mi, .int 0, .int 0, .int 0, .int fo, .int 0, .long pe, .long pn, .long re, .long rn, .int th]))] s.heap := hP
  have hD : va_D A [(mo, .inr (19, [.int 0, .int 0, .int 0, .int 0, .int 0, .int 0, .int tu, .ref ti, .ref si, .ref lo, .ref lh, .ref lk, .ref sp, .ref st, .ref pa, .ref br, .ref sg, .int mi, .int 0, .int 0, .int 0, .int fo, .int 0, .long pe, .long pn, .long re, .long rn, .int th]))] := hD
  have hl := lv_entry ([.ref mo]) (n := 2) (Nat.le_of_ble_eq_true rfl)
  rw [lg_entry_eq]
  generalize (lg_sl ([.ref mo]) ++ List.replicate (2 - (lg_sl ([.ref mo])).length) Slot.unset).toArray = ls at hl ⊢
  have hl : lv_has ls 2 [(0, .ref mo)] := hl
  refine lv_aload_n hx hb dX15_sideNow_0 rfl (lv_at hl 0 rfl) ?_
  have hPc := hP.sub (ws' := [(mo, .inr (19, [.int 0, .int 0, .int 0, .int 0, .int 0, .int 0, .int tu, .ref ti, .ref si, .ref lo, .ref lh, .ref lk, .ref sp, .ref st, .ref pa, .ref br, .ref sg, .int mi, .int 0, .int 0, .int 0, .int fo, .int 0, .long pe, .long pn, .long re, .long rn, .int th]))]) [0] rfl
  have hDc := hD.sub (ws' := [(mo, .inr (19, [.int 0, .int 0, .int 0, .int 0, .int 0, .int 0, .int tu, .ref ti, .ref si, .ref lo, .ref lh, .ref lk, .ref sp, .ref st, .ref pa, .ref br, .ref sg, .int mi, .int 0, .int 0, .int 0, .int fo, .int 0, .long pe, .long pn, .long re, .long rn, .int th]))]) [0] (by decide) rfl
  have hKc := hK.sub (tys' := []) [] rfl
  have hFc := va_free (wc := [(mo, .inr (19, [.int 0, .int 0, .int 0, .int 0, .int 0, .int 0, .int tu, .ref ti, .ref si, .ref lo, .ref lh, .ref lk, .ref sp, .ref st, .ref pa, .ref br, .ref sg, .int mi, .int 0, .int 0, .int 0, .int fo, .int 0, .long pe, .long pn, .long re, .long rn, .int th]))]) hD hS hA [0] rfl
  refine va_calli (va_runV (As := []) (rest := []) ⟨hx, hb, hml, hown, hts⟩ (k_right l dC dI z zK zV mi fo pe pn re rn mo ti si lo lh lk sp st pa br sg th tu s.heap.size) (cwV 0 hts gX15_sideNow_X15_right rfl rfl rfl (by decide +kernel) ⟨Nat.le_of_ble_eq_true rfl, Nat.le_of_ble_eq_true rfl⟩) ⟨kP_blind, va_recv hKc hPc (ci := 19) (q0 := 0) rfl rfl, kP_go hPc hKc hDc hFc hM hS⟩ rfl rfl hl.1 rfl (lv_room (Nat.le_of_ble_eq_true rfl)) dX15_sideNow_1 ⟨Nat.le_of_ble_eq_true rfl, Nat.le_of_ble_eq_true rfl⟩) hS (fun q _ h => hFc q h) hFc (fun r1 u t H1 locs ht hvm hw hB hz1 hk1 hS => ?_)
  obtain ⟨hP, hD, hK⟩ := kJ (wr := []) (w1 := [(mo, .inr (19, [.int 0, .int 0, .int 0, .int 0, .int 0, .int 0, .int tu, .ref ti, .ref si, .ref lo, .ref lh, .ref lk, .ref sp, .ref st, .ref pa, .ref br, .ref sg, .int mi, .int 0, .int 0, .int 0, .int fo, .int 0, .long pe, .long pn, .long re, .long rn, .int th]))]) (t1 := []) hP hD hK [0] [] rfl rfl (by decide) (by decide) hk1 hFc ht hvm hB
  generalize H1 = H at hP hS ⊢
  have hP : va_P (dC, dI) vwCl [(mo, .inr (19, [.int 0, .int 0, .int 0, .int 0, .int 0, .int 0, .int tu, .ref ti, .ref si, .ref lo, .ref lh, .ref lk, .ref sp, .ref st, .ref pa, .ref br, .ref sg, .int mi, .int 0, .int 0, .int 0, .int fo, .int 0, .long pe, .long pn, .long re, .long rn, .int th]))] H := hP
  have hD : va_D A [(mo, .inr (19, [.int 0, .int 0, .int 0, .int 0, .int 0, .int 0, .int tu, .ref ti, .ref si, .ref lo, .ref lh, .ref lk, .ref sp, .ref st, .ref pa, .ref br, .ref sg, .int mi, .int 0, .int 0, .int 0, .int fo, .int 0, .long pe, .long pn, .long re, .long rn, .int th]))] := hD
  have hK : va_K (dC, dI) vwCl [] s := hK
  obtain rfl : 0 = r1 := hw
  refine lv_istore_n (lv' := [(1, .int 0), (0, .ref mo)]) hx hb dX15_sideNow_4 rfl hl (by decide) rfl (fun ls hl => ?_)
  refine lv_iload_n hx hb dX15_sideNow_5 rfl (lv_at hl 0 rfl) ?_
  refine lv_if_eq (tgt := 15) hx hb dX15_sideNow_6 (by decide) (fun _ => ?_) (fun c_ => absurd (by decide +kernel) c_)
  refine lv_iconst (v := 0) hx hb dX15_sideNow_15 (by decide) ?_
  refine lv_goto (tgt := 30) hx hb dX15_sideNow_16 (by decide) ?_
  exact W.iret (v := 0) hx hb hr (fun t ht hW => ⟨⟨0, (), rfl, rfl, kB_end (w9 := [(mo, .inr (19, [.int 0, .int 0, .int 0, .int 0, .int 0, .int 0, .int tu, .ref ti, .ref si, .ref lo, .ref lh, .ref lk, .ref sp, .ref st, .ref pa, .ref br, .ref sg, .int mi, .int 0, .int 0, .int 0, .int fo, .int 0, .long pe, .long pn, .long re, .long rn, .int th]))]) (t9 := []) hP hK hD [0] [] rfl (by decide) rfl rfl t ht hW⟩, hS.F ht⟩) hS.2.2 dX15_sideNow_30
abbrev wd_k_points (z : Nat → Nat) (mi : Int32) (fo : Int32) (pe : Int64) (pn : Int64) (re : Int64) (rn : Int64) (mo : Nat) (ti : Nat) (si : Nat) (lo : Nat) (lh : Nat) (lk : Nat) (sp : Nat) (st : Nat) (pa : Nat) (br : Nat) (sg : Nat) (th : Int32) (tu : Int32) : va_W := [(mo, .inr (19, [.int 0, .int 0, .int 0, .int 0, .int 0, .int 0, .int tu, .ref ti, .ref si, .ref lo, .ref lh, .ref lk, .ref sp, .ref st, .ref pa, .ref br, .ref sg, .int mi, .int 0, .int 0, .int 0, .int fo, .int 0, .long pe, .long pn, .long re, .long rn, .int th]))]
set_option maxHeartbeats 4000000 in
set_option maxRecDepth 100000 in
theorem k_points (l : Launch) (dC : Nat → ClassId) (dI : Nat → Nat → Nat) (z zK zV : Nat → Nat) (mi : Int32) (fo : Int32) (pe : Int64) (pn : Int64) (re : Int64) (rn : Int64) (mo : Nat) (ti : Nat) (si : Nat) (lo : Nat) (lh : Nat) (lk : Nat) (sp : Nat) (st : Nat) (pa : Nat) (br : Nat) (sg : Nat) (th : Int32) (tu : Int32) (sz : Nat)  : Met l yX15_points wsX15_points ({ frames := 2, cells := 0, slots := 0, locals := 42 }) (kP dC dI z zK zV [.ref mo] sz (wd_k_points z mi fo pe pn re rn mo ti si lo lh lk sp st pa br sg th tu) []) (va_Qi (fun (r : Int32) (_ : Unit) => 0 = r) (fun _ t => kB (dC, dI) (va_A (wd_k_points z mi fo pe pn re rn mo ti si lo lh lk sp st pa br sg th tu) sz) [(mo, .inr (19, [.int 0, .int 0, .int 0, .int 0, .int 0, .int 0, .int tu, .ref ti, .ref si, .ref lo, .ref lh, .ref lk, .ref sp, .ref st, .ref pa, .ref br, .ref sg, .int mi, .int 0, .int 0, .int 0, .int fo, .int 0, .long pe, .long pn, .long re, .long rn, .int th]))] [] t) (va_A (wd_k_points z mi fo pe pn re rn mo ti si lo lh lk sp st pa br sg th tu) sz)) 0 0 (va_A (wd_k_points z mi fo pe pn re rn mo ti si lo lh lk sp st pa br sg th tu) sz) := by
  refine Met.ofW (cc := cX15_points) (maxL := 1) (ret := (some .int)) (by decide) rfl ?_
  intro p e s m args below meth c s₁ B hml hv
  obtain ⟨rfl, hsz, hP, hK, hD0, hM⟩ := hv
  have hx := B.exec
  have hb := B.bytes
  have hr := B.returns
  have hts := atoms_spec (ws := wsX15_points) B.pre
  have hown : s.vm.findClass RX15 = some m.cls := findClass_of_methodNamed B.named
  have hlocks := B.notSynchronized
  subst hsz
  have hD := hD0.self (sz := s.heap.size)
  generalize hAe : va_A (wd_k_points z mi fo pe pn re rn mo ti si lo lh lk sp st pa br sg th tu) s.heap.size = A at hD hM ⊢
  have hA : ∀ q : Nat, s.heap.size ≤ q → A q := fun q h => by rw [← hAe]; exact Or.inr h
  have hS : va_S A s.heap s.heap [] := va_S.rf
  have hP : va_P (dC, dI) vwCl [(mo, .inr (19, [.int 0, .int 0, .int 0, .int 0, .int 0, .int 0, .int tu, .ref ti, .ref si, .ref lo, .ref lh, .ref lk, .ref sp, .ref st, .ref pa, .ref br, .ref sg, .int mi, .int 0, .int 0, .int 0, .int fo, .int 0, .long pe, .long pn, .long re, .long rn, .int th]))] s.heap := hP
  have hD : va_D A [(mo, .inr (19, [.int 0, .int 0, .int 0, .int 0, .int 0, .int 0, .int tu, .ref ti, .ref si, .ref lo, .ref lh, .ref lk, .ref sp, .ref st, .ref pa, .ref br, .ref sg, .int mi, .int 0, .int 0, .int 0, .int fo, .int 0, .long pe, .long pn, .long re, .long rn, .int th]))] := hD
  have hl := lv_entry ([.ref mo]) (n := 1) (Nat.le_of_ble_eq_true rfl)
  rw [lg_entry_eq]
  generalize (lg_sl ([.ref mo]) ++ List.replicate (1 - (lg_sl ([.ref mo])).length) Slot.unset).toArray = ls at hl ⊢
  have hl : lv_has ls 1 [(0, .ref mo)] := hl
  refine lv_aload_n hx hb dX15_points_0 rfl (lv_at hl 0 rfl) ?_
  have hPc := hP.sub (ws' := [(mo, .inr (19, [.int 0, .int 0, .int 0, .int 0, .int 0, .int 0, .int tu, .ref ti, .ref si, .ref lo, .ref lh, .ref lk, .ref sp, .ref st, .ref pa, .ref br, .ref sg, .int mi, .int 0, .int 0, .int 0, .int fo, .int 0, .long pe, .long pn, .long re, .long rn, .int th]))]) [0] rfl
  have hDc := hD.sub (ws' := [(mo, .inr (19, [.int 0, .int 0, .int 0, .int 0, .int 0, .int 0, .int tu, .ref ti, .ref si, .ref lo, .ref lh, .ref lk, .ref sp, .ref st, .ref pa, .ref br, .ref sg, .int mi, .int 0, .int 0, .int 0, .int fo, .int 0, .long pe, .long pn, .long re, .long rn, .int th]))]) [0] (by decide) rfl
  have hKc := hK.sub (tys' := []) [] rfl
  have hFc := va_free (wc := [(mo, .inr (19, [.int 0, .int 0, .int 0, .int 0, .int 0, .int 0, .int tu, .ref ti, .ref si, .ref lo, .ref lh, .ref lk, .ref sp, .ref st, .ref pa, .ref br, .ref sg, .int mi, .int 0, .int 0, .int 0, .int fo, .int 0, .long pe, .long pn, .long re, .long rn, .int th]))]) hD hS hA [0] rfl
  refine va_calli (va_runV (As := []) (rest := []) ⟨hx, hb, hml, hown, hts⟩ (k_right l dC dI z zK zV mi fo pe pn re rn mo ti si lo lh lk sp st pa br sg th tu s.heap.size) (cwV 0 hts gX15_points_X15_right rfl rfl rfl (by decide +kernel) ⟨Nat.le_of_ble_eq_true rfl, Nat.le_of_ble_eq_true rfl⟩) ⟨kP_blind, va_recv hKc hPc (ci := 19) (q0 := 0) rfl rfl, kP_go hPc hKc hDc hFc hM hS⟩ rfl rfl hl.1 rfl (lv_room (Nat.le_of_ble_eq_true rfl)) dX15_points_1 ⟨Nat.le_of_ble_eq_true rfl, Nat.le_of_ble_eq_true rfl⟩) hS (fun q _ h => hFc q h) hFc (fun r1 u t H1 locs ht hvm hw hB hz1 hk1 hS => ?_)
  obtain ⟨hP, hD, hK⟩ := kJ (wr := []) (w1 := [(mo, .inr (19, [.int 0, .int 0, .int 0, .int 0, .int 0, .int 0, .int tu, .ref ti, .ref si, .ref lo, .ref lh, .ref lk, .ref sp, .ref st, .ref pa, .ref br, .ref sg, .int mi, .int 0, .int 0, .int 0, .int fo, .int 0, .long pe, .long pn, .long re, .long rn, .int th]))]) (t1 := []) hP hD hK [0] [] rfl rfl (by decide) (by decide) hk1 hFc ht hvm hB
  generalize H1 = H at hP hS ⊢
  have hP : va_P (dC, dI) vwCl [(mo, .inr (19, [.int 0, .int 0, .int 0, .int 0, .int 0, .int 0, .int tu, .ref ti, .ref si, .ref lo, .ref lh, .ref lk, .ref sp, .ref st, .ref pa, .ref br, .ref sg, .int mi, .int 0, .int 0, .int 0, .int fo, .int 0, .long pe, .long pn, .long re, .long rn, .int th]))] H := hP
  have hD : va_D A [(mo, .inr (19, [.int 0, .int 0, .int 0, .int 0, .int 0, .int 0, .int tu, .ref ti, .ref si, .ref lo, .ref lh, .ref lk, .ref sp, .ref st, .ref pa, .ref br, .ref sg, .int mi, .int 0, .int 0, .int 0, .int fo, .int 0, .long pe, .long pn, .long re, .long rn, .int th]))] := hD
  have hK : va_K (dC, dI) vwCl [] s := hK
  obtain rfl : 0 = r1 := hw
  refine lv_bipush (v := 32) hx hb dX15_points_4 (by decide) ?_
  refine lv_aload_n hx hb dX15_points_6 rfl (lv_at hl 0 rfl) ?_
  have hPc := hP.sub (ws' := [(mo, .inr (19, [.int 0, .int 0, .int 0, .int 0, .int 0, .int 0, .int tu, .ref ti, .ref si, .ref lo, .ref lh, .ref lk, .ref sp, .ref st, .ref pa, .ref br, .ref sg, .int mi, .int 0, .int 0, .int 0, .int fo, .int 0, .long pe, .long pn, .long re, .long rn, .int th]))]) [0] rfl
  have hDc := hD.sub (ws' := [(mo, .inr (19, [.int 0, .int 0, .int 0, .int 0, .int 0, .int 0, .int tu, .ref ti, .ref si, .ref lo, .ref lh, .ref lk, .ref sp, .ref st, .ref pa, .ref br, .ref sg, .int mi, .int 0, .int 0, .int 0, .int fo, .int 0, .long pe, .long pn, .long re, .long rn, .int th]))]) [0] (by decide) rfl
  have hKc := hK.sub (tys' := []) [] rfl
  have hFc := va_free (wc := [(mo, .inr (19, [.int 0, .int 0, .int 0, .int 0, .int 0, .int 0, .int tu, .ref ti, .ref si, .ref lo, .ref lh, .ref lk, .ref sp, .ref st, .ref pa, .ref br, .ref sg, .int mi, .int 0, .int 0, .int 0, .int fo, .int 0, .long pe, .long pn, .long re, .long rn, .int th]))]) hD hS hA [0] rfl
  refine va_calli (va_runV (As := []) (rest := [.int 32, .int 0]) ⟨hx, hb, hml, hown, hts⟩ (k_right l dC dI z zK zV mi fo pe pn re rn mo ti si lo lh lk sp st pa br sg th tu H.size) (cwV 0 hts gX15_points_X15_right rfl rfl rfl (by decide +kernel) ⟨Nat.le_of_ble_eq_true rfl, Nat.le_of_ble_eq_true rfl⟩) ⟨kP_blind, va_recv hKc hPc (ci := 19) (q0 := 0) rfl rfl, kP_go hPc hKc hDc hFc hM hS⟩ rfl rfl hl.1 rfl (lv_room (Nat.le_of_ble_eq_true rfl)) dX15_points_7 ⟨Nat.le_of_ble_eq_true rfl, Nat.le_of_ble_eq_true rfl⟩) hS (fun q _ h => hFc q h) hFc (fun r2 u t H1 locs ht hvm hw hB hz1 hk1 hS => ?_)
  obtain ⟨hP, hD, hK⟩ := kJ (wr := []) (w1 := [(mo, .inr (19, [.int 0, .int 0, .int 0, .int 0, .int 0, .int 0, .int tu, .ref ti, .ref si, .ref lo, .ref lh, .ref lk, .ref sp, .ref st, .ref pa, .ref br, .ref sg, .int mi, .int 0, .int 0, .int 0, .int fo, .int 0, .long pe, .long pn, .long re, .long rn, .int th]))]) (t1 := []) hP hD hK [0] [] rfl rfl (by decide) (by decide) hk1 hFc ht hvm hB
  generalize H1 = H at hP hS ⊢
  have hP : va_P (dC, dI) vwCl [(mo, .inr (19, [.int 0, .int 0, .int 0, .int 0, .int 0, .int 0, .int tu, .ref ti, .ref si, .ref lo, .ref lh, .ref lk, .ref sp, .ref st, .ref pa, .ref br, .ref sg, .int mi, .int 0, .int 0, .int 0, .int fo, .int 0, .long pe, .long pn, .long re, .long rn, .int th]))] H := hP
  have hD : va_D A [(mo, .inr (19, [.int 0, .int 0, .int 0, .int 0, .int 0, .int 0, .int tu, .ref ti, .ref si, .ref lo, .ref lh, .ref lk, .ref sp, .ref st, .ref pa, .ref br, .ref sg, .int mi, .int 0, .int 0, .int 0, .int fo, .int 0, .long pe, .long pn, .long re, .long rn, .int th]))] := hD
  have hK : va_K (dC, dI) vwCl [] s := hK
  obtain rfl : 0 = r2 := hw
  refine lv_isub hx hb dX15_points_10 ?_
  refine kc_i (y := 32) (by decide +kernel) ?_
  refine va_mmin hx hb (hml.trans hl.1.symm) hown (hts (.methodLink RX15 75 Lib.Math.min.name) (by decide +kernel)) (hts (.static Lib.Math.min.name) (by decide +kernel)) (hts (.initialized "java/lang/Math") (by decide +kernel)) (hts (.code Lib.Math.min.name Lib.Math.min.code 2 (some .int)) (by decide +kernel)) (Nat.le_of_ble_eq_true rfl) (Nat.le_of_ble_eq_true rfl) (Nat.le_of_ble_eq_true rfl) (Nat.le_of_ble_eq_true rfl) dX15_points_11 ?_
  refine kc_i (y := 0) (by decide +kernel) ?_
  exact W.iret (v := 0) hx hb hr (fun t ht hW => ⟨⟨0, (), rfl, rfl, kB_end (w9 := [(mo, .inr (19, [.int 0, .int 0, .int 0, .int 0, .int 0, .int 0, .int tu, .ref ti, .ref si, .ref lo, .ref lh, .ref lk, .ref sp, .ref st, .ref pa, .ref br, .ref sg, .int mi, .int 0, .int 0, .int 0, .int fo, .int 0, .long pe, .long pn, .long re, .long rn, .int th]))]) (t9 := []) hP hK hD [0] [] rfl (by decide) rfl rfl t ht hW⟩, hS.F ht⟩) hS.2.2 dX15_points_14
abbrev wd_k_bestNow (z : Nat → Nat) (mi : Int32) (fo : Int32) (pe : Int64) (pn : Int64) (re : Int64) (rn : Int64) (mo : Nat) (ti : Nat) (si : Nat) (lo : Nat) (lh : Nat) (lk : Nat) (sp : Nat) (st : Nat) (pa : Nat) (br : Nat) (sg : Nat) (th : Int32) (tu : Int32) : va_W := [(mo, .inr (19, [.int 0, .int 0, .int 0, .int 0, .int 0, .int 0, .int tu, .ref ti, .ref si, .ref lo, .ref lh, .ref lk, .ref sp, .ref st, .ref pa, .ref br, .ref sg, .int mi, .int 0, .int 0, .int 0, .int fo, .int 0, .long pe, .long pn, .long re, .long rn, .int th]))]
set_option maxHeartbeats 4000000 in
set_option maxRecDepth 100000 in
theorem k_bestNow (l : Launch) (dC : Nat → ClassId) (dI : Nat → Nat → Nat) (z zK zV : Nat → Nat) (mi : Int32) (fo : Int32) (pe : Int64) (pn : Int64) (re : Int64) (rn : Int64) (mo : Nat) (ti : Nat) (si : Nat) (lo : Nat) (lh : Nat) (lk : Nat) (sp : Nat) (st : Nat) (pa : Nat) (br : Nat) (sg : Nat) (th : Int32) (tu : Int32) (sz : Nat)  : Met l yX15_bestNow wsX15_bestNow ({ frames := 3, cells := 0, slots := 0, locals := 63 }) (kP dC dI z zK zV [.ref mo] sz (wd_k_bestNow z mi fo pe pn re rn mo ti si lo lh lk sp st pa br sg th tu) []) (va_Qi (fun (r : Int32) (_ : Unit) => 4 = r) (fun _ t => kB (dC, dI) (va_A (wd_k_bestNow z mi fo pe pn re rn mo ti si lo lh lk sp st pa br sg th tu) sz) [(mo, .inr (19, [.int 0, .int 0, .int 0, .int 0, .int 0, .int 0, .int tu, .ref ti, .ref si, .ref lo, .ref lh, .ref lk, .ref sp, .ref st, .ref pa, .ref br, .ref sg, .int mi, .int 0, .int 0, .int 0, .int fo, .int 0, .long pe, .long pn, .long re, .long rn, .int th]))] [] t) (va_A (wd_k_bestNow z mi fo pe pn re rn mo ti si lo lh lk sp st pa br sg th tu) sz)) 0 0 (va_A (wd_k_bestNow z mi fo pe pn re rn mo ti si lo lh lk sp st pa br sg th tu) sz) := by
  refine Met.ofW (cc := cX15_bestNow) (maxL := 2) (ret := (some .int)) (by decide) rfl ?_
  intro p e s m args below meth c s₁ B hml hv
  obtain ⟨rfl, hsz, hP, hK, hD0, hM⟩ := hv
  have hx := B.exec
  have hb := B.bytes
  have hr := B.returns
  have hts := atoms_spec (ws := wsX15_bestNow) B.pre
  have hown : s.vm.findClass RX15 = some m.cls := findClass_of_methodNamed B.named
  have hlocks := B.notSynchronized
  subst hsz
  have hD := hD0.self (sz := s.heap.size)
  generalize hAe : va_A (wd_k_bestNow z mi fo pe pn re rn mo ti si lo lh lk sp st pa br sg th tu) s.heap.size = A at hD hM ⊢
  have hA : ∀ q : Nat, s.heap.size ≤ q → A q := fun q h => by rw [← hAe]; exact Or.inr h
  have hS : va_S A s.heap s.heap [] := va_S.rf
  have hP : va_P (dC, dI) vwCl [(mo, .inr (19, [.int 0, .int 0, .int 0, .int 0, .int 0, .int 0, .int tu, .ref ti, .ref si, .ref lo, .ref lh, .ref lk, .ref sp, .ref st, .ref pa, .ref br, .ref sg, .int mi, .int 0, .int 0, .int 0, .int fo, .int 0, .long pe, .long pn, .long re, .long rn, .int th]))] s.heap := hP
  have hD : va_D A [(mo, .inr (19, [.int 0, .int 0, .int 0, .int 0, .int 0, .int 0, .int tu, .ref ti, .ref si, .ref lo, .ref lh, .ref lk, .ref sp, .ref st, .ref pa, .ref br, .ref sg, .int mi, .int 0, .int 0, .int 0, .int fo, .int 0, .long pe, .long pn, .long re, .long rn, .int th]))] := hD
  have hl := lv_entry ([.ref mo]) (n := 2) (Nat.le_of_ble_eq_true rfl)
  rw [lg_entry_eq]
  generalize (lg_sl ([.ref mo]) ++ List.replicate (2 - (lg_sl ([.ref mo])).length) Slot.unset).toArray = ls at hl ⊢
  have hl : lv_has ls 2 [(0, .ref mo)] := hl
  refine lv_iconst (v := 4) hx hb dX15_bestNow_0 (by decide) ?_
  refine lv_bipush (v := 16) hx hb dX15_bestNow_1 (by decide) ?_
  refine lv_aload_n hx hb dX15_bestNow_3 rfl (lv_at hl 0 rfl) ?_
  have hPc := hP.sub (ws' := [(mo, .inr (19, [.int 0, .int 0, .int 0, .int 0, .int 0, .int 0, .int tu, .ref ti, .ref si, .ref lo, .ref lh, .ref lk, .ref sp, .ref st, .ref pa, .ref br, .ref sg, .int mi, .int 0, .int 0, .int 0, .int fo, .int 0, .long pe, .long pn, .long re, .long rn, .int th]))]) [0] rfl
  have hDc := hD.sub (ws' := [(mo, .inr (19, [.int 0, .int 0, .int 0, .int 0, .int 0, .int 0, .int tu, .ref ti, .ref si, .ref lo, .ref lh, .ref lk, .ref sp, .ref st, .ref pa, .ref br, .ref sg, .int mi, .int 0, .int 0, .int 0, .int fo, .int 0, .long pe, .long pn, .long re, .long rn, .int th]))]) [0] (by decide) rfl
  have hKc := hK.sub (tys' := []) [] rfl
  have hFc := va_free (wc := [(mo, .inr (19, [.int 0, .int 0, .int 0, .int 0, .int 0, .int 0, .int tu, .ref ti, .ref si, .ref lo, .ref lh, .ref lk, .ref sp, .ref st, .ref pa, .ref br, .ref sg, .int mi, .int 0, .int 0, .int 0, .int fo, .int 0, .long pe, .long pn, .long re, .long rn, .int th]))]) hD hS hA [0] rfl
  refine va_calli (va_runV (As := []) (rest := [.int 16, .int 4]) ⟨hx, hb, hml, hown, hts⟩ (k_points l dC dI z zK zV mi fo pe pn re rn mo ti si lo lh lk sp st pa br sg th tu s.heap.size) (cwV 0 hts gX15_bestNow_X15_points rfl rfl rfl (by decide +kernel) ⟨Nat.le_of_ble_eq_true rfl, Nat.le_of_ble_eq_true rfl⟩) ⟨kP_blind, va_recv hKc hPc (ci := 19) (q0 := 0) rfl rfl, kP_go hPc hKc hDc hFc hM hS⟩ rfl rfl hl.1 rfl (lv_room (Nat.le_of_ble_eq_true rfl)) dX15_bestNow_4 ⟨Nat.le_of_ble_eq_true rfl, Nat.le_of_ble_eq_true rfl⟩) hS (fun q _ h => hFc q h) hFc (fun r1 u t H1 locs ht hvm hw hB hz1 hk1 hS => ?_)
  obtain ⟨hP, hD, hK⟩ := kJ (wr := []) (w1 := [(mo, .inr (19, [.int 0, .int 0, .int 0, .int 0, .int 0, .int 0, .int tu, .ref ti, .ref si, .ref lo, .ref lh, .ref lk, .ref sp, .ref st, .ref pa, .ref br, .ref sg, .int mi, .int 0, .int 0, .int 0, .int fo, .int 0, .long pe, .long pn, .long re, .long rn, .int th]))]) (t1 := []) hP hD hK [0] [] rfl rfl (by decide) (by decide) hk1 hFc ht hvm hB
  generalize H1 = H at hP hS ⊢
  have hP : va_P (dC, dI) vwCl [(mo, .inr (19, [.int 0, .int 0, .int 0, .int 0, .int 0, .int 0, .int tu, .ref ti, .ref si, .ref lo, .ref lh, .ref lk, .ref sp, .ref st, .ref pa, .ref br, .ref sg, .int mi, .int 0, .int 0, .int 0, .int fo, .int 0, .long pe, .long pn, .long re, .long rn, .int th]))] H := hP
  have hD : va_D A [(mo, .inr (19, [.int 0, .int 0, .int 0, .int 0, .int 0, .int 0, .int tu, .ref ti, .ref si, .ref lo, .ref lh, .ref lk, .ref sp, .ref st, .ref pa, .ref br, .ref sg, .int mi, .int 0, .int 0, .int 0, .int fo, .int 0, .long pe, .long pn, .long re, .long rn, .int th]))] := hD
  have hK : va_K (dC, dI) vwCl [] s := hK
  obtain rfl : 0 = r1 := hw
  refine lv_isub hx hb dX15_bestNow_7 ?_
  refine kc_i (y := 16) (by decide +kernel) ?_
  refine lv_iconst (v := 2) hx hb dX15_bestNow_8 (by decide) ?_
  refine lv_idiv hx hb dX15_bestNow_9 (by decide +kernel) ?_
  refine kc_i (y := 8) (by decide +kernel) ?_
  refine va_mmin hx hb (hml.trans hl.1.symm) hown (hts (.methodLink RX15 75 Lib.Math.min.name) (by decide +kernel)) (hts (.static Lib.Math.min.name) (by decide +kernel)) (hts (.initialized "java/lang/Math") (by decide +kernel)) (hts (.code Lib.Math.min.name Lib.Math.min.code 2 (some .int)) (by decide +kernel)) (Nat.le_of_ble_eq_true rfl) (Nat.le_of_ble_eq_true rfl) (Nat.le_of_ble_eq_true rfl) (Nat.le_of_ble_eq_true rfl) dX15_bestNow_10 ?_
  refine kc_i (y := 4) (by decide +kernel) ?_
  refine lv_istore_n (lv' := [(1, .int 4), (0, .ref mo)]) hx hb dX15_bestNow_13 rfl hl (by decide) rfl (fun ls hl => ?_)
  refine lv_aload_n hx hb dX15_bestNow_14 rfl (lv_at hl 1 rfl) ?_
  have hPc := hP.sub (ws' := [(mo, .inr (19, [.int 0, .int 0, .int 0, .int 0, .int 0, .int 0, .int tu, .ref ti, .ref si, .ref lo, .ref lh, .ref lk, .ref sp, .ref st, .ref pa, .ref br, .ref sg, .int mi, .int 0, .int 0, .int 0, .int fo, .int 0, .long pe, .long pn, .long re, .long rn, .int th]))]) [0] rfl
  have hDc := hD.sub (ws' := [(mo, .inr (19, [.int 0, .int 0, .int 0, .int 0, .int 0, .int 0, .int tu, .ref ti, .ref si, .ref lo, .ref lh, .ref lk, .ref sp, .ref st, .ref pa, .ref br, .ref sg, .int mi, .int 0, .int 0, .int 0, .int fo, .int 0, .long pe, .long pn, .long re, .long rn, .int th]))]) [0] (by decide) rfl
  have hKc := hK.sub (tys' := []) [] rfl
  have hFc := va_free (wc := [(mo, .inr (19, [.int 0, .int 0, .int 0, .int 0, .int 0, .int 0, .int tu, .ref ti, .ref si, .ref lo, .ref lh, .ref lk, .ref sp, .ref st, .ref pa, .ref br, .ref sg, .int mi, .int 0, .int 0, .int 0, .int fo, .int 0, .long pe, .long pn, .long re, .long rn, .int th]))]) hD hS hA [0] rfl
  refine va_calli (va_runV (As := []) (rest := []) ⟨hx, hb, hml, hown, hts⟩ (k_sideNow l dC dI z zK zV mi fo pe pn re rn mo ti si lo lh lk sp st pa br sg th tu H.size) (cwV 0 hts gX15_bestNow_X15_sideNow rfl rfl rfl (by decide +kernel) ⟨Nat.le_of_ble_eq_true rfl, Nat.le_of_ble_eq_true rfl⟩) ⟨kP_blind, va_recv hKc hPc (ci := 19) (q0 := 0) rfl rfl, kP_go hPc hKc hDc hFc hM hS⟩ rfl rfl hl.1 rfl (lv_room (Nat.le_of_ble_eq_true rfl)) dX15_bestNow_15 ⟨Nat.le_of_ble_eq_true rfl, Nat.le_of_ble_eq_true rfl⟩) hS (fun q _ h => hFc q h) hFc (fun r2 u t H1 locs ht hvm hw hB hz1 hk1 hS => ?_)
  obtain ⟨hP, hD, hK⟩ := kJ (wr := []) (w1 := [(mo, .inr (19, [.int 0, .int 0, .int 0, .int 0, .int 0, .int 0, .int tu, .ref ti, .ref si, .ref lo, .ref lh, .ref lk, .ref sp, .ref st, .ref pa, .ref br, .ref sg, .int mi, .int 0, .int 0, .int 0, .int fo, .int 0, .long pe, .long pn, .long re, .long rn, .int th]))]) (t1 := []) hP hD hK [0] [] rfl rfl (by decide) (by decide) hk1 hFc ht hvm hB
  generalize H1 = H at hP hS ⊢
  have hP : va_P (dC, dI) vwCl [(mo, .inr (19, [.int 0, .int 0, .int 0, .int 0, .int 0, .int 0, .int tu, .ref ti, .ref si, .ref lo, .ref lh, .ref lk, .ref sp, .ref st, .ref pa, .ref br, .ref sg, .int mi, .int 0, .int 0, .int 0, .int fo, .int 0, .long pe, .long pn, .long re, .long rn, .int th]))] H := hP
  have hD : va_D A [(mo, .inr (19, [.int 0, .int 0, .int 0, .int 0, .int 0, .int 0, .int tu, .ref ti, .ref si, .ref lo, .ref lh, .ref lk, .ref sp, .ref st, .ref pa, .ref br, .ref sg, .int mi, .int 0, .int 0, .int 0, .int fo, .int 0, .long pe, .long pn, .long re, .long rn, .int th]))] := hD
  have hK : va_K (dC, dI) vwCl [] s := hK
  obtain rfl : 0 = r2 := hw
  refine lv_if_ge (tgt := 26) hx hb dX15_bestNow_18 (by decide) (fun _ => ?_) (fun c_ => absurd (by decide +kernel) c_)
  refine lv_iload_n hx hb dX15_bestNow_26 rfl (lv_at hl 0 rfl) ?_
  exact W.iret (v := 4) hx hb hr (fun t ht hW => ⟨⟨4, (), rfl, rfl, kB_end (w9 := [(mo, .inr (19, [.int 0, .int 0, .int 0, .int 0, .int 0, .int 0, .int tu, .ref ti, .ref si, .ref lo, .ref lh, .ref lk, .ref sp, .ref st, .ref pa, .ref br, .ref sg, .int mi, .int 0, .int 0, .int 0, .int fo, .int 0, .long pe, .long pn, .long re, .long rn, .int th]))]) (t9 := []) hP hK hD [0] [] rfl (by decide) rfl rfl t ht hW⟩, hS.F ht⟩) hS.2.2 dX15_bestNow_27
abbrev wd_k_push_0 (z : Nat → Nat) (mi : Int32) (fo : Int32) (pe : Int64) (pn : Int64) (re : Int64) (rn : Int64) (mo : Nat) (ti : Nat) (si : Nat) (lo : Nat) (lh : Nat) (lk : Nat) (sp : Nat) (st : Nat) (pa : Nat) (br : Nat) (sg : Nat) (cbr : ClassId) (th : Int32) (tu : Int32) : va_W := [(mo, .inr (19, [.int 0, .int 0, .int 0, .int 0, .int 0, .int 0, .int tu, .ref ti, .ref si, .ref lo, .ref lh, .ref lk, .ref sp, .ref st, .ref pa, .ref br, .ref sg, .int mi, .int 0, .int 0, .int 0, .int fo, .int 0, .long pe, .long pn, .long re, .long rn, .int th])), (br, .inl (cbr, 3, .inl (fun _ => 0)))]
set_option maxHeartbeats 4000000 in
set_option maxRecDepth 100000 in
theorem k_push_0 (l : Launch) (dC : Nat → ClassId) (dI : Nat → Nat → Nat) (z zK zV : Nat → Nat) (mi : Int32) (fo : Int32) (pe : Int64) (pn : Int64) (re : Int64) (rn : Int64) (mo : Nat) (ti : Nat) (si : Nat) (lo : Nat) (lh : Nat) (lk : Nat) (sp : Nat) (st : Nat) (pa : Nat) (br : Nat) (sg : Nat) (cbr : ClassId) (th : Int32) (tu : Int32) (sz : Nat)  : Met l yX15_push wsX15_push ({ frames := 6, cells := 0, slots := 0, locals := 127 }) (kP dC dI z zK zV [.ref mo, .int 0] sz (wd_k_push_0 z mi fo pe pn re rn mo ti si lo lh lk sp st pa br sg cbr th tu) [(cbr, .int)]) (va_Qi (fun (r : Int32) (_ : Unit) => (-12) = r) (fun _ t => kB (dC, dI) (va_A (wd_k_push_0 z mi fo pe pn re rn mo ti si lo lh lk sp st pa br sg cbr th tu) sz) [(br, .inl (cbr, 3, .inl (fun _ => 0))), (mo, .inr (19, [.int 0, .int 0, .int 0, .int 0, .int 0, .int 0, .int tu, .ref ti, .ref si, .ref lo, .ref lh, .ref lk, .ref sp, .ref st, .ref pa, .ref br, .ref sg, .int mi, .int 0, .int 0, .int 0, .int fo, .int 0, .long pe, .long pn, .long re, .long rn, .int th]))] [] t) (va_A (wd_k_push_0 z mi fo pe pn re rn mo ti si lo lh lk sp st pa br sg cbr th tu) sz)) 0 0 (va_A (wd_k_push_0 z mi fo pe pn re rn mo ti si lo lh lk sp st pa br sg cbr th tu) sz) := by
  refine Met.ofW (cc := cX15_push) (maxL := 4) (ret := (some .int)) (by decide) rfl ?_
  intro p e s m args below meth c s₁ B hml hv
  obtain ⟨rfl, hsz, hP, hK, hD0, hM⟩ := hv
  have hx := B.exec
  have hb := B.bytes
  have hr := B.returns
  have hts := atoms_spec (ws := wsX15_push) B.pre
  have hown : s.vm.findClass RX15 = some m.cls := findClass_of_methodNamed B.named
  have hlocks := B.notSynchronized
  have hiX15 : ∀ w ∈ u_ws RX15 TX15 28, w ∈ wsX15_push := by decide +kernel
  subst hsz
  have hD := hD0.self (sz := s.heap.size)
  generalize hAe : va_A (wd_k_push_0 z mi fo pe pn re rn mo ti si lo lh lk sp st pa br sg cbr th tu) s.heap.size = A at hD hM ⊢
  have hA : ∀ q : Nat, s.heap.size ≤ q → A q := fun q h => by rw [← hAe]; exact Or.inr h
  have hS : va_S A s.heap s.heap [] := va_S.rf
  have hP : va_P (dC, dI) vwCl [(mo, .inr (19, [.int 0, .int 0, .int 0, .int 0, .int 0, .int 0, .int tu, .ref ti, .ref si, .ref lo, .ref lh, .ref lk, .ref sp, .ref st, .ref pa, .ref br, .ref sg, .int mi, .int 0, .int 0, .int 0, .int fo, .int 0, .long pe, .long pn, .long re, .long rn, .int th])), (br, .inl (cbr, 3, .inl (fun _ => 0)))] s.heap := hP
  have hD : va_D A [(mo, .inr (19, [.int 0, .int 0, .int 0, .int 0, .int 0, .int 0, .int tu, .ref ti, .ref si, .ref lo, .ref lh, .ref lk, .ref sp, .ref st, .ref pa, .ref br, .ref sg, .int mi, .int 0, .int 0, .int 0, .int fo, .int 0, .long pe, .long pn, .long re, .long rn, .int th])), (br, .inl (cbr, 3, .inl (fun _ => 0)))] := hD
  have hl := lv_entry ([.ref mo, .int 0]) (n := 4) (Nat.le_of_ble_eq_true rfl)
  rw [lg_entry_eq]
  generalize (lg_sl ([.ref mo, .int 0]) ++ List.replicate (4 - (lg_sl ([.ref mo, .int 0])).length) Slot.unset).toArray = ls at hl ⊢
  have hl : lv_has ls 4 [(0, .ref mo), (1, .int 0)] := hl
  refine lv_aload_n hx hb dX15_push_0 rfl (lv_at hl 0 rfl) ?_
  have hPc := hP.sub (ws' := [(mo, .inr (19, [.int 0, .int 0, .int 0, .int 0, .int 0, .int 0, .int tu, .ref ti, .ref si, .ref lo, .ref lh, .ref lk, .ref sp, .ref st, .ref pa, .ref br, .ref sg, .int mi, .int 0, .int 0, .int 0, .int fo, .int 0, .long pe, .long pn, .long re, .long rn, .int th]))]) [0] rfl
  have hDc := hD.sub (ws' := [(mo, .inr (19, [.int 0, .int 0, .int 0, .int 0, .int 0, .int 0, .int tu, .ref ti, .ref si, .ref lo, .ref lh, .ref lk, .ref sp, .ref st, .ref pa, .ref br, .ref sg, .int mi, .int 0, .int 0, .int 0, .int fo, .int 0, .long pe, .long pn, .long re, .long rn, .int th]))]) [0] (by decide) rfl
  have hKc := hK.sub (tys' := []) [] rfl
  have hFc := va_free (wc := [(mo, .inr (19, [.int 0, .int 0, .int 0, .int 0, .int 0, .int 0, .int tu, .ref ti, .ref si, .ref lo, .ref lh, .ref lk, .ref sp, .ref st, .ref pa, .ref br, .ref sg, .int mi, .int 0, .int 0, .int 0, .int fo, .int 0, .long pe, .long pn, .long re, .long rn, .int th]))]) hD hS hA [0] rfl
  refine va_calli (va_runV (As := []) (rest := []) ⟨hx, hb, hml, hown, hts⟩ (k_points l dC dI z zK zV mi fo pe pn re rn mo ti si lo lh lk sp st pa br sg th tu s.heap.size) (cwV 0 hts gX15_push_X15_points rfl rfl rfl (by decide +kernel) ⟨Nat.le_of_ble_eq_true rfl, Nat.le_of_ble_eq_true rfl⟩) ⟨kP_blind, va_recv hKc hPc (ci := 19) (q0 := 0) rfl rfl, kP_go hPc hKc hDc hFc hM hS⟩ rfl rfl hl.1 rfl (lv_room (Nat.le_of_ble_eq_true rfl)) dX15_push_1 ⟨Nat.le_of_ble_eq_true rfl, Nat.le_of_ble_eq_true rfl⟩) hS (fun q _ h => hFc q h) hFc (fun r1 u t H1 locs ht hvm hw hB hz1 hk1 hS => ?_)
  obtain ⟨hP, hD, hK⟩ := kJ (wr := [(br, .inl (cbr, 3, .inl (fun _ => 0)))]) (w1 := [(mo, .inr (19, [.int 0, .int 0, .int 0, .int 0, .int 0, .int 0, .int tu, .ref ti, .ref si, .ref lo, .ref lh, .ref lk, .ref sp, .ref st, .ref pa, .ref br, .ref sg, .int mi, .int 0, .int 0, .int 0, .int fo, .int 0, .long pe, .long pn, .long re, .long rn, .int th]))]) (t1 := []) hP hD hK [0] [1] rfl rfl (by decide) (by decide) hk1 hFc ht hvm hB
  generalize H1 = H at hP hS ⊢
  have hP : va_P (dC, dI) vwCl [(br, .inl (cbr, 3, .inl (fun _ => 0))), (mo, .inr (19, [.int 0, .int 0, .int 0, .int 0, .int 0, .int 0, .int tu, .ref ti, .ref si, .ref lo, .ref lh, .ref lk, .ref sp, .ref st, .ref pa, .ref br, .ref sg, .int mi, .int 0, .int 0, .int 0, .int fo, .int 0, .long pe, .long pn, .long re, .long rn, .int th]))] H := hP
  have hD : va_D A [(br, .inl (cbr, 3, .inl (fun _ => 0))), (mo, .inr (19, [.int 0, .int 0, .int 0, .int 0, .int 0, .int 0, .int tu, .ref ti, .ref si, .ref lo, .ref lh, .ref lk, .ref sp, .ref st, .ref pa, .ref br, .ref sg, .int mi, .int 0, .int 0, .int 0, .int fo, .int 0, .long pe, .long pn, .long re, .long rn, .int th]))] := hD
  have hK : va_K (dC, dI) vwCl [(cbr, .int)] s := hK
  obtain rfl : 0 = r1 := hw
  refine lv_istore_n (lv' := [(2, .int 0), (0, .ref mo), (1, .int 0)]) hx hb dX15_push_4 rfl hl (by decide) rfl (fun ls hl => ?_)
  refine lv_iload_n hx hb dX15_push_5 rfl (lv_at hl 2 rfl) ?_
  refine lv_bipush (v := 7) hx hb dX15_push_6 (by decide) ?_
  refine lv_icmp_lt (tgt := 29) hx hb dX15_push_8 (by decide) (fun _ => ?_) (fun c_ => absurd (by decide +kernel) c_)
  refine lv_iload_n hx hb dX15_push_29 rfl (lv_at hl 0 rfl) ?_
  refine lv_bipush (v := 6) hx hb dX15_push_30 (by decide) ?_
  refine lv_icmp_ge (tgt := 44) hx hb dX15_push_32 (by decide) (fun c_ => absurd c_ (by decide +kernel)) (fun _ => ?_)
  refine lv_iconst (v := 2) hx hb dX15_push_35 (by decide) ?_
  refine lv_iload_n hx hb dX15_push_36 rfl (lv_at hl 0 rfl) ?_
  refine lv_bipush (v := 6) hx hb dX15_push_37 (by decide) ?_
  refine lv_isub hx hb dX15_push_39 ?_
  refine kc_i (y := (-6)) (by decide +kernel) ?_
  refine lv_imul hx hb dX15_push_40 ?_
  refine kc_i (y := (-12)) (by decide +kernel) ?_
  refine lv_goto (tgt := 51) hx hb dX15_push_41 (by decide) ?_
  refine lv_istore_n (lv' := [(3, .int (-12)), (2, .int 0), (0, .ref mo), (1, .int 0)]) hx hb dX15_push_51 rfl hl (by decide) rfl (fun ls hl => ?_)
  refine lv_bipush (v := (-12)) hx hb dX15_push_52 (by decide) ?_
  refine lv_iload_n hx hb dX15_push_54 rfl (lv_at hl 0 rfl) ?_
  refine lv_iconst (v := 2) hx hb dX15_push_55 (by decide) ?_
  refine lv_aload_n hx hb dX15_push_56 rfl (lv_at hl 2 rfl) ?_
  refine va_get (D := (dC, dI)) (ci := 19) (v := .ref br) (C := RX15) (T := TX15) (N := 28) hx hb hts hiX15 hown hK hP 1 rfl rfl 15 (by decide) (hts (.fieldLink RX15 39 "SquareRigModel" "braced" "[I") (by decide +kernel)) (fun _ h9 => h9) rfl dX15_push_57 ?_
  refine lv_iload_n hx hb dX15_push_60 rfl (lv_at hl 3 rfl) ?_
  have hPc := hP.sub (ws' := []) [] rfl
  have hDc := hD.sub (ws' := []) [] (by decide) rfl
  have hKc := hK.sub (tys' := []) [] rfl
  have hFc := va_free (wc := []) hD hS hA [] rfl
  refine va_calli (va_runS (As := [.int 0]) (rest := [.ref br, .int 2, .int (-12), .int (-12)]) ⟨hx, hb, hml, hown, hts⟩ (k_mast_0 l dC dI z zK zV  H.size) (va_cwS 1 hts gX15_push_X15_mast rfl rfl rfl (by decide +kernel) ⟨Nat.le_of_ble_eq_true rfl, Nat.le_of_ble_eq_true rfl⟩) ⟨kP_blind, kP_go hPc hKc hDc hFc hM hS⟩ rfl rfl hl.1 rfl (lv_room (Nat.le_of_ble_eq_true rfl)) dX15_push_61 ⟨Nat.le_of_ble_eq_true rfl, Nat.le_of_ble_eq_true rfl⟩) hS (fun q _ h => hFc q h) hFc (fun r2 u t H1 locs ht hvm hw hB hz1 hk1 hS => ?_)
  obtain ⟨hP, hD, hK⟩ := kJ (wr := [(br, .inl (cbr, 3, .inl (fun _ => 0))), (mo, .inr (19, [.int 0, .int 0, .int 0, .int 0, .int 0, .int 0, .int tu, .ref ti, .ref si, .ref lo, .ref lh, .ref lk, .ref sp, .ref st, .ref pa, .ref br, .ref sg, .int mi, .int 0, .int 0, .int 0, .int fo, .int 0, .long pe, .long pn, .long re, .long rn, .int th]))]) (w1 := []) (t1 := []) hP hD hK [] [0, 1] rfl rfl (by decide) (by decide) hk1 hFc ht hvm hB
  generalize H1 = H at hP hS ⊢
  have hP : va_P (dC, dI) vwCl [(br, .inl (cbr, 3, .inl (fun _ => 0))), (mo, .inr (19, [.int 0, .int 0, .int 0, .int 0, .int 0, .int 0, .int tu, .ref ti, .ref si, .ref lo, .ref lh, .ref lk, .ref sp, .ref st, .ref pa, .ref br, .ref sg, .int mi, .int 0, .int 0, .int 0, .int fo, .int 0, .long pe, .long pn, .long re, .long rn, .int th]))] H := hP
  have hD : va_D A [(br, .inl (cbr, 3, .inl (fun _ => 0))), (mo, .inr (19, [.int 0, .int 0, .int 0, .int 0, .int 0, .int 0, .int tu, .ref ti, .ref si, .ref lo, .ref lh, .ref lk, .ref sp, .ref st, .ref pa, .ref br, .ref sg, .int mi, .int 0, .int 0, .int 0, .int fo, .int 0, .long pe, .long pn, .long re, .long rn, .int th]))] := hD
  have hK : va_K (dC, dI) vwCl [(cbr, .int)] s := hK
  obtain rfl : 0 = r2 := hw
  refine va_iald hx hb hK hP 0 0 rfl rfl (pk_in 0 3 (by decide) rfl) dX15_push_64 ?_
  refine kc_v (y := .int 0) rfl ?_
  refine lv_aload_n hx hb dX15_push_65 rfl (lv_at hl 2 rfl) ?_
  have hPc := hP.sub (ws' := [(mo, .inr (19, [.int 0, .int 0, .int 0, .int 0, .int 0, .int 0, .int tu, .ref ti, .ref si, .ref lo, .ref lh, .ref lk, .ref sp, .ref st, .ref pa, .ref br, .ref sg, .int mi, .int 0, .int 0, .int 0, .int fo, .int 0, .long pe, .long pn, .long re, .long rn, .int th]))]) [1] rfl
  have hDc := hD.sub (ws' := [(mo, .inr (19, [.int 0, .int 0, .int 0, .int 0, .int 0, .int 0, .int tu, .ref ti, .ref si, .ref lo, .ref lh, .ref lk, .ref sp, .ref st, .ref pa, .ref br, .ref sg, .int mi, .int 0, .int 0, .int 0, .int fo, .int 0, .long pe, .long pn, .long re, .long rn, .int th]))]) [1] (by decide) rfl
  have hKc := hK.sub (tys' := []) [] rfl
  have hFc := va_free (wc := [(mo, .inr (19, [.int 0, .int 0, .int 0, .int 0, .int 0, .int 0, .int tu, .ref ti, .ref si, .ref lo, .ref lh, .ref lk, .ref sp, .ref st, .ref pa, .ref br, .ref sg, .int mi, .int 0, .int 0, .int 0, .int fo, .int 0, .long pe, .long pn, .long re, .long rn, .int th]))]) hD hS hA [1] rfl
  refine va_calli (va_runV (As := []) (rest := [.int 0, .int 2, .int (-12), .int (-12)]) ⟨hx, hb, hml, hown, hts⟩ (k_bestNow l dC dI z zK zV mi fo pe pn re rn mo ti si lo lh lk sp st pa br sg th tu H.size) (cwV 0 hts gX15_push_X15_bestNow rfl rfl rfl (by decide +kernel) ⟨Nat.le_of_ble_eq_true rfl, Nat.le_of_ble_eq_true rfl⟩) ⟨kP_blind, va_recv hKc hPc (ci := 19) (q0 := 0) rfl rfl, kP_go hPc hKc hDc hFc hM hS⟩ rfl rfl hl.1 rfl (lv_room (Nat.le_of_ble_eq_true rfl)) dX15_push_66 ⟨Nat.le_of_ble_eq_true rfl, Nat.le_of_ble_eq_true rfl⟩) hS (fun q _ h => hFc q h) hFc (fun r3 u t H1 locs ht hvm hw hB hz1 hk1 hS => ?_)
  obtain ⟨hP, hD, hK⟩ := kJ (wr := [(br, .inl (cbr, 3, .inl (fun _ => 0)))]) (w1 := [(mo, .inr (19, [.int 0, .int 0, .int 0, .int 0, .int 0, .int 0, .int tu, .ref ti, .ref si, .ref lo, .ref lh, .ref lk, .ref sp, .ref st, .ref pa, .ref br, .ref sg, .int mi, .int 0, .int 0, .int 0, .int fo, .int 0, .long pe, .long pn, .long re, .long rn, .int th]))]) (t1 := []) hP hD hK [1] [0] rfl rfl (by decide) (by decide) hk1 hFc ht hvm hB
  generalize H1 = H at hP hS ⊢
  have hP : va_P (dC, dI) vwCl [(br, .inl (cbr, 3, .inl (fun _ => 0))), (mo, .inr (19, [.int 0, .int 0, .int 0, .int 0, .int 0, .int 0, .int tu, .ref ti, .ref si, .ref lo, .ref lh, .ref lk, .ref sp, .ref st, .ref pa, .ref br, .ref sg, .int mi, .int 0, .int 0, .int 0, .int fo, .int 0, .long pe, .long pn, .long re, .long rn, .int th]))] H := hP
  have hD : va_D A [(br, .inl (cbr, 3, .inl (fun _ => 0))), (mo, .inr (19, [.int 0, .int 0, .int 0, .int 0, .int 0, .int 0, .int tu, .ref ti, .ref si, .ref lo, .ref lh, .ref lk, .ref sp, .ref st, .ref pa, .ref br, .ref sg, .int mi, .int 0, .int 0, .int 0, .int fo, .int 0, .long pe, .long pn, .long re, .long rn, .int th]))] := hD
  have hK : va_K (dC, dI) vwCl [(cbr, .int)] s := hK
  obtain rfl : 4 = r3 := hw
  refine lv_isub hx hb dX15_push_69 ?_
  refine kc_i (y := (-4)) (by decide +kernel) ?_
  refine va_mabs hx hb (hml.trans hl.1.symm) hown (hts (.methodLink RX15 99 Lib.Math.abs.name) (by decide +kernel)) (hts (.static Lib.Math.abs.name) (by decide +kernel)) (hts (.initialized "java/lang/Math") (by decide +kernel)) (hts (.code Lib.Math.abs.name Lib.Math.abs.code 1 (some .int)) (by decide +kernel)) (Nat.le_of_ble_eq_true rfl) (Nat.le_of_ble_eq_true rfl) (Nat.le_of_ble_eq_true rfl) (Nat.le_of_ble_eq_true rfl) dX15_push_70 ?_
  refine kc_i (y := 4) (by decide +kernel) ?_
  refine lv_imul hx hb dX15_push_73 ?_
  refine kc_i (y := 8) (by decide +kernel) ?_
  refine lv_isub hx hb dX15_push_74 ?_
  refine kc_i (y := (-20)) (by decide +kernel) ?_
  refine va_mmax hx hb (hml.trans hl.1.symm) hown (hts (.methodLink RX15 102 Lib.Math.max.name) (by decide +kernel)) (hts (.static Lib.Math.max.name) (by decide +kernel)) (hts (.initialized "java/lang/Math") (by decide +kernel)) (hts (.code Lib.Math.max.name Lib.Math.max.code 2 (some .int)) (by decide +kernel)) (Nat.le_of_ble_eq_true rfl) (Nat.le_of_ble_eq_true rfl) (Nat.le_of_ble_eq_true rfl) (Nat.le_of_ble_eq_true rfl) dX15_push_75 ?_
  refine kc_i (y := (-12)) (by decide +kernel) ?_
  exact W.iret (v := (-12)) hx hb hr (fun t ht hW => ⟨⟨(-12), (), rfl, rfl, kB_end (w9 := [(br, .inl (cbr, 3, .inl (fun _ => 0))), (mo, .inr (19, [.int 0, .int 0, .int 0, .int 0, .int 0, .int 0, .int tu, .ref ti, .ref si, .ref lo, .ref lh, .ref lk, .ref sp, .ref st, .ref pa, .ref br, .ref sg, .int mi, .int 0, .int 0, .int 0, .int fo, .int 0, .long pe, .long pn, .long re, .long rn, .int th]))]) (t9 := []) hP hK hD [0, 1] [] rfl (by decide) rfl rfl t ht hW⟩, hS.F ht⟩) hS.2.2 dX15_push_78
abbrev wd_k_push_1 (z : Nat → Nat) (mi : Int32) (fo : Int32) (pe : Int64) (pn : Int64) (re : Int64) (rn : Int64) (mo : Nat) (ti : Nat) (si : Nat) (lo : Nat) (lh : Nat) (lk : Nat) (sp : Nat) (st : Nat) (pa : Nat) (br : Nat) (sg : Nat) (cbr : ClassId) (th : Int32) (tu : Int32) : va_W := [(mo, .inr (19, [.int 0, .int 0, .int 0, .int 0, .int 0, .int 0, .int tu, .ref ti, .ref si, .ref lo, .ref lh, .ref lk, .ref sp, .ref st, .ref pa, .ref br, .ref sg, .int mi, .int 0, .int 0, .int 0, .int fo, .int 0, .long pe, .long pn, .long re, .long rn, .int th])), (br, .inl (cbr, 3, .inl (fun _ => 0)))]
set_option maxHeartbeats 4000000 in
set_option maxRecDepth 100000 in
theorem k_push_1 (l : Launch) (dC : Nat → ClassId) (dI : Nat → Nat → Nat) (z zK zV : Nat → Nat) (mi : Int32) (fo : Int32) (pe : Int64) (pn : Int64) (re : Int64) (rn : Int64) (mo : Nat) (ti : Nat) (si : Nat) (lo : Nat) (lh : Nat) (lk : Nat) (sp : Nat) (st : Nat) (pa : Nat) (br : Nat) (sg : Nat) (cbr : ClassId) (th : Int32) (tu : Int32) (sz : Nat)  : Met l yX15_push wsX15_push ({ frames := 6, cells := 0, slots := 0, locals := 127 }) (kP dC dI z zK zV [.ref mo, .int 1] sz (wd_k_push_1 z mi fo pe pn re rn mo ti si lo lh lk sp st pa br sg cbr th tu) [(cbr, .int)]) (va_Qi (fun (r : Int32) (_ : Unit) => (-12) = r) (fun _ t => kB (dC, dI) (va_A (wd_k_push_1 z mi fo pe pn re rn mo ti si lo lh lk sp st pa br sg cbr th tu) sz) [(br, .inl (cbr, 3, .inl (fun _ => 0))), (mo, .inr (19, [.int 0, .int 0, .int 0, .int 0, .int 0, .int 0, .int tu, .ref ti, .ref si, .ref lo, .ref lh, .ref lk, .ref sp, .ref st, .ref pa, .ref br, .ref sg, .int mi, .int 0, .int 0, .int 0, .int fo, .int 0, .long pe, .long pn, .long re, .long rn, .int th]))] [] t) (va_A (wd_k_push_1 z mi fo pe pn re rn mo ti si lo lh lk sp st pa br sg cbr th tu) sz)) 0 0 (va_A (wd_k_push_1 z mi fo pe pn re rn mo ti si lo lh lk sp st pa br sg cbr th tu) sz) := by
  refine Met.ofW (cc := cX15_push) (maxL := 4) (ret := (some .int)) (by decide) rfl ?_
  intro p e s m args below meth c s₁ B hml hv
  obtain ⟨rfl, hsz, hP, hK, hD0, hM⟩ := hv
  have hx := B.exec
  have hb := B.bytes
  have hr := B.returns
  have hts := atoms_spec (ws := wsX15_push) B.pre
  have hown : s.vm.findClass RX15 = some m.cls := findClass_of_methodNamed B.named
  have hlocks := B.notSynchronized
  have hiX15 : ∀ w ∈ u_ws RX15 TX15 28, w ∈ wsX15_push := by decide +kernel
  subst hsz
  have hD := hD0.self (sz := s.heap.size)
  generalize hAe : va_A (wd_k_push_1 z mi fo pe pn re rn mo ti si lo lh lk sp st pa br sg cbr th tu) s.heap.size = A at hD hM ⊢
  have hA : ∀ q : Nat, s.heap.size ≤ q → A q := fun q h => by rw [← hAe]; exact Or.inr h
  have hS : va_S A s.heap s.heap [] := va_S.rf
  have hP : va_P (dC, dI) vwCl [(mo, .inr (19, [.int 0, .int 0, .int 0, .int 0, .int 0, .int 0, .int tu, .ref ti, .ref si, .ref lo, .ref lh, .ref lk, .ref sp, .ref st, .ref pa, .ref br, .ref sg, .int mi, .int 0, .int 0, .int 0, .int fo, .int 0, .long pe, .long pn, .long re, .long rn, .int th])), (br, .inl (cbr, 3, .inl (fun _ => 0)))] s.heap := hP
  have hD : va_D A [(mo, .inr (19, [.int 0, .int 0, .int 0, .int 0, .int 0, .int 0, .int tu, .ref ti, .ref si, .ref lo, .ref lh, .ref lk, .ref sp, .ref st, .ref pa, .ref br, .ref sg, .int mi, .int 0, .int 0, .int 0, .int fo, .int 0, .long pe, .long pn, .long re, .long rn, .int th])), (br, .inl (cbr, 3, .inl (fun _ => 0)))] := hD
  have hl := lv_entry ([.ref mo, .int 1]) (n := 4) (Nat.le_of_ble_eq_true rfl)
  rw [lg_entry_eq]
  generalize (lg_sl ([.ref mo, .int 1]) ++ List.replicate (4 - (lg_sl ([.ref mo, .int 1])).length) Slot.unset).toArray = ls at hl ⊢
  have hl : lv_has ls 4 [(0, .ref mo), (1, .int 1)] := hl
  refine lv_aload_n hx hb dX15_push_0 rfl (lv_at hl 0 rfl) ?_
  have hPc := hP.sub (ws' := [(mo, .inr (19, [.int 0, .int 0, .int 0, .int 0, .int 0, .int 0, .int tu, .ref ti, .ref si, .ref lo, .ref lh, .ref lk, .ref sp, .ref st, .ref pa, .ref br, .ref sg, .int mi, .int 0, .int 0, .int 0, .int fo, .int 0, .long pe, .long pn, .long re, .long rn, .int th]))]) [0] rfl
  have hDc := hD.sub (ws' := [(mo, .inr (19, [.int 0, .int 0, .int 0, .int 0, .int 0, .int 0, .int tu, .ref ti, .ref si, .ref lo, .ref lh, .ref lk, .ref sp, .ref st, .ref pa, .ref br, .ref sg, .int mi, .int 0, .int 0, .int 0, .int fo, .int 0, .long pe, .long pn, .long re, .long rn, .int th]))]) [0] (by decide) rfl
  have hKc := hK.sub (tys' := []) [] rfl
  have hFc := va_free (wc := [(mo, .inr (19, [.int 0, .int 0, .int 0, .int 0, .int 0, .int 0, .int tu, .ref ti, .ref si, .ref lo, .ref lh, .ref lk, .ref sp, .ref st, .ref pa, .ref br, .ref sg, .int mi, .int 0, .int 0, .int 0, .int fo, .int 0, .long pe, .long pn, .long re, .long rn, .int th]))]) hD hS hA [0] rfl
  refine va_calli (va_runV (As := []) (rest := []) ⟨hx, hb, hml, hown, hts⟩ (k_points l dC dI z zK zV mi fo pe pn re rn mo ti si lo lh lk sp st pa br sg th tu s.heap.size) (cwV 0 hts gX15_push_X15_points rfl rfl rfl (by decide +kernel) ⟨Nat.le_of_ble_eq_true rfl, Nat.le_of_ble_eq_true rfl⟩) ⟨kP_blind, va_recv hKc hPc (ci := 19) (q0 := 0) rfl rfl, kP_go hPc hKc hDc hFc hM hS⟩ rfl rfl hl.1 rfl (lv_room (Nat.le_of_ble_eq_true rfl)) dX15_push_1 ⟨Nat.le_of_ble_eq_true rfl, Nat.le_of_ble_eq_true rfl⟩) hS (fun q _ h => hFc q h) hFc (fun r1 u t H1 locs ht hvm hw hB hz1 hk1 hS => ?_)
  obtain ⟨hP, hD, hK⟩ := kJ (wr := [(br, .inl (cbr, 3, .inl (fun _ => 0)))]) (w1 := [(mo, .inr (19, [.int 0, .int 0, .int 0, .int 0, .int 0, .int 0, .int tu, .ref ti, .ref si, .ref lo, .ref lh, .ref lk, .ref sp, .ref st, .ref pa, .ref br, .ref sg, .int mi, .int 0, .int 0, .int 0, .int fo, .int 0, .long pe, .long pn, .long re, .long rn, .int th]))]) (t1 := []) hP hD hK [0] [1] rfl rfl (by decide) (by decide) hk1 hFc ht hvm hB
  generalize H1 = H at hP hS ⊢
  have hP : va_P (dC, dI) vwCl [(br, .inl (cbr, 3, .inl (fun _ => 0))), (mo, .inr (19, [.int 0, .int 0, .int 0, .int 0, .int 0, .int 0, .int tu, .ref ti, .ref si, .ref lo, .ref lh, .ref lk, .ref sp, .ref st, .ref pa, .ref br, .ref sg, .int mi, .int 0, .int 0, .int 0, .int fo, .int 0, .long pe, .long pn, .long re, .long rn, .int th]))] H := hP
  have hD : va_D A [(br, .inl (cbr, 3, .inl (fun _ => 0))), (mo, .inr (19, [.int 0, .int 0, .int 0, .int 0, .int 0, .int 0, .int tu, .ref ti, .ref si, .ref lo, .ref lh, .ref lk, .ref sp, .ref st, .ref pa, .ref br, .ref sg, .int mi, .int 0, .int 0, .int 0, .int fo, .int 0, .long pe, .long pn, .long re, .long rn, .int th]))] := hD
  have hK : va_K (dC, dI) vwCl [(cbr, .int)] s := hK
  obtain rfl : 0 = r1 := hw
  refine lv_istore_n (lv' := [(2, .int 0), (0, .ref mo), (1, .int 1)]) hx hb dX15_push_4 rfl hl (by decide) rfl (fun ls hl => ?_)
  refine lv_iload_n hx hb dX15_push_5 rfl (lv_at hl 2 rfl) ?_
  refine lv_bipush (v := 7) hx hb dX15_push_6 (by decide) ?_
  refine lv_icmp_lt (tgt := 29) hx hb dX15_push_8 (by decide) (fun _ => ?_) (fun c_ => absurd (by decide +kernel) c_)
  refine lv_iload_n hx hb dX15_push_29 rfl (lv_at hl 0 rfl) ?_
  refine lv_bipush (v := 6) hx hb dX15_push_30 (by decide) ?_
  refine lv_icmp_ge (tgt := 44) hx hb dX15_push_32 (by decide) (fun c_ => absurd c_ (by decide +kernel)) (fun _ => ?_)
  refine lv_iconst (v := 2) hx hb dX15_push_35 (by decide) ?_
  refine lv_iload_n hx hb dX15_push_36 rfl (lv_at hl 0 rfl) ?_
  refine lv_bipush (v := 6) hx hb dX15_push_37 (by decide) ?_
  refine lv_isub hx hb dX15_push_39 ?_
  refine kc_i (y := (-6)) (by decide +kernel) ?_
  refine lv_imul hx hb dX15_push_40 ?_
  refine kc_i (y := (-12)) (by decide +kernel) ?_
  refine lv_goto (tgt := 51) hx hb dX15_push_41 (by decide) ?_
  refine lv_istore_n (lv' := [(3, .int (-12)), (2, .int 0), (0, .ref mo), (1, .int 1)]) hx hb dX15_push_51 rfl hl (by decide) rfl (fun ls hl => ?_)
  refine lv_bipush (v := (-12)) hx hb dX15_push_52 (by decide) ?_
  refine lv_iload_n hx hb dX15_push_54 rfl (lv_at hl 0 rfl) ?_
  refine lv_iconst (v := 2) hx hb dX15_push_55 (by decide) ?_
  refine lv_aload_n hx hb dX15_push_56 rfl (lv_at hl 2 rfl) ?_
  refine va_get (D := (dC, dI)) (ci := 19) (v := .ref br) (C := RX15) (T := TX15) (N := 28) hx hb hts hiX15 hown hK hP 1 rfl rfl 15 (by decide) (hts (.fieldLink RX15 39 "SquareRigModel" "braced" "[I") (by decide +kernel)) (fun _ h9 => h9) rfl dX15_push_57 ?_
  refine lv_iload_n hx hb dX15_push_60 rfl (lv_at hl 3 rfl) ?_
  have hPc := hP.sub (ws' := []) [] rfl
  have hDc := hD.sub (ws' := []) [] (by decide) rfl
  have hKc := hK.sub (tys' := []) [] rfl
  have hFc := va_free (wc := []) hD hS hA [] rfl
  refine va_calli (va_runS (As := [.int 1]) (rest := [.ref br, .int 2, .int (-12), .int (-12)]) ⟨hx, hb, hml, hown, hts⟩ (k_mast_1 l dC dI z zK zV  H.size) (va_cwS 1 hts gX15_push_X15_mast rfl rfl rfl (by decide +kernel) ⟨Nat.le_of_ble_eq_true rfl, Nat.le_of_ble_eq_true rfl⟩) ⟨kP_blind, kP_go hPc hKc hDc hFc hM hS⟩ rfl rfl hl.1 rfl (lv_room (Nat.le_of_ble_eq_true rfl)) dX15_push_61 ⟨Nat.le_of_ble_eq_true rfl, Nat.le_of_ble_eq_true rfl⟩) hS (fun q _ h => hFc q h) hFc (fun r2 u t H1 locs ht hvm hw hB hz1 hk1 hS => ?_)
  obtain ⟨hP, hD, hK⟩ := kJ (wr := [(br, .inl (cbr, 3, .inl (fun _ => 0))), (mo, .inr (19, [.int 0, .int 0, .int 0, .int 0, .int 0, .int 0, .int tu, .ref ti, .ref si, .ref lo, .ref lh, .ref lk, .ref sp, .ref st, .ref pa, .ref br, .ref sg, .int mi, .int 0, .int 0, .int 0, .int fo, .int 0, .long pe, .long pn, .long re, .long rn, .int th]))]) (w1 := []) (t1 := []) hP hD hK [] [0, 1] rfl rfl (by decide) (by decide) hk1 hFc ht hvm hB
  generalize H1 = H at hP hS ⊢
  have hP : va_P (dC, dI) vwCl [(br, .inl (cbr, 3, .inl (fun _ => 0))), (mo, .inr (19, [.int 0, .int 0, .int 0, .int 0, .int 0, .int 0, .int tu, .ref ti, .ref si, .ref lo, .ref lh, .ref lk, .ref sp, .ref st, .ref pa, .ref br, .ref sg, .int mi, .int 0, .int 0, .int 0, .int fo, .int 0, .long pe, .long pn, .long re, .long rn, .int th]))] H := hP
  have hD : va_D A [(br, .inl (cbr, 3, .inl (fun _ => 0))), (mo, .inr (19, [.int 0, .int 0, .int 0, .int 0, .int 0, .int 0, .int tu, .ref ti, .ref si, .ref lo, .ref lh, .ref lk, .ref sp, .ref st, .ref pa, .ref br, .ref sg, .int mi, .int 0, .int 0, .int 0, .int fo, .int 0, .long pe, .long pn, .long re, .long rn, .int th]))] := hD
  have hK : va_K (dC, dI) vwCl [(cbr, .int)] s := hK
  obtain rfl : 0 = r2 := hw
  refine va_iald hx hb hK hP 0 0 rfl rfl (pk_in 0 3 (by decide) rfl) dX15_push_64 ?_
  refine kc_v (y := .int 0) rfl ?_
  refine lv_aload_n hx hb dX15_push_65 rfl (lv_at hl 2 rfl) ?_
  have hPc := hP.sub (ws' := [(mo, .inr (19, [.int 0, .int 0, .int 0, .int 0, .int 0, .int 0, .int tu, .ref ti, .ref si, .ref lo, .ref lh, .ref lk, .ref sp, .ref st, .ref pa, .ref br, .ref sg, .int mi, .int 0, .int 0, .int 0, .int fo, .int 0, .long pe, .long pn, .long re, .long rn, .int th]))]) [1] rfl
  have hDc := hD.sub (ws' := [(mo, .inr (19, [.int 0, .int 0, .int 0, .int 0, .int 0, .int 0, .int tu, .ref ti, .ref si, .ref lo, .ref lh, .ref lk, .ref sp, .ref st, .ref pa, .ref br, .ref sg, .int mi, .int 0, .int 0, .int 0, .int fo, .int 0, .long pe, .long pn, .long re, .long rn, .int th]))]) [1] (by decide) rfl
  have hKc := hK.sub (tys' := []) [] rfl
  have hFc := va_free (wc := [(mo, .inr (19, [.int 0, .int 0, .int 0, .int 0, .int 0, .int 0, .int tu, .ref ti, .ref si, .ref lo, .ref lh, .ref lk, .ref sp, .ref st, .ref pa, .ref br, .ref sg, .int mi, .int 0, .int 0, .int 0, .int fo, .int 0, .long pe, .long pn, .long re, .long rn, .int th]))]) hD hS hA [1] rfl
  refine va_calli (va_runV (As := []) (rest := [.int 0, .int 2, .int (-12), .int (-12)]) ⟨hx, hb, hml, hown, hts⟩ (k_bestNow l dC dI z zK zV mi fo pe pn re rn mo ti si lo lh lk sp st pa br sg th tu H.size) (cwV 0 hts gX15_push_X15_bestNow rfl rfl rfl (by decide +kernel) ⟨Nat.le_of_ble_eq_true rfl, Nat.le_of_ble_eq_true rfl⟩) ⟨kP_blind, va_recv hKc hPc (ci := 19) (q0 := 0) rfl rfl, kP_go hPc hKc hDc hFc hM hS⟩ rfl rfl hl.1 rfl (lv_room (Nat.le_of_ble_eq_true rfl)) dX15_push_66 ⟨Nat.le_of_ble_eq_true rfl, Nat.le_of_ble_eq_true rfl⟩) hS (fun q _ h => hFc q h) hFc (fun r3 u t H1 locs ht hvm hw hB hz1 hk1 hS => ?_)
  obtain ⟨hP, hD, hK⟩ := kJ (wr := [(br, .inl (cbr, 3, .inl (fun _ => 0)))]) (w1 := [(mo, .inr (19, [.int 0, .int 0, .int 0, .int 0, .int 0, .int 0, .int tu, .ref ti, .ref si, .ref lo, .ref lh, .ref lk, .ref sp, .ref st, .ref pa, .ref br, .ref sg, .int mi, .int 0, .int 0, .int 0, .int fo, .int 0, .long pe, .long pn, .long re, .long rn, .int th]))]) (t1 := []) hP hD hK [1] [0] rfl rfl (by decide) (by decide) hk1 hFc ht hvm hB
  generalize H1 = H at hP hS ⊢
  have hP : va_P (dC, dI) vwCl [(br, .inl (cbr, 3, .inl (fun _ => 0))), (mo, .inr (19, [.int 0, .int 0, .int 0, .int 0, .int 0, .int 0, .int tu, .ref ti, .ref si, .ref lo, .ref lh, .ref lk, .ref sp, .ref st, .ref pa, .ref br, .ref sg, .int mi, .int 0, .int 0, .int 0, .int fo, .int 0, .long pe, .long pn, .long re, .long rn, .int th]))] H := hP
  have hD : va_D A [(br, .inl (cbr, 3, .inl (fun _ => 0))), (mo, .inr (19, [.int 0, .int 0, .int 0, .int 0, .int 0, .int 0, .int tu, .ref ti, .ref si, .ref lo, .ref lh, .ref lk, .ref sp, .ref st, .ref pa, .ref br, .ref sg, .int mi, .int 0, .int 0, .int 0, .int fo, .int 0, .long pe, .long pn, .long re, .long rn, .int th]))] := hD
  have hK : va_K (dC, dI) vwCl [(cbr, .int)] s := hK
  obtain rfl : 4 = r3 := hw
  refine lv_isub hx hb dX15_push_69 ?_
  refine kc_i (y := (-4)) (by decide +kernel) ?_
  refine va_mabs hx hb (hml.trans hl.1.symm) hown (hts (.methodLink RX15 99 Lib.Math.abs.name) (by decide +kernel)) (hts (.static Lib.Math.abs.name) (by decide +kernel)) (hts (.initialized "java/lang/Math") (by decide +kernel)) (hts (.code Lib.Math.abs.name Lib.Math.abs.code 1 (some .int)) (by decide +kernel)) (Nat.le_of_ble_eq_true rfl) (Nat.le_of_ble_eq_true rfl) (Nat.le_of_ble_eq_true rfl) (Nat.le_of_ble_eq_true rfl) dX15_push_70 ?_
  refine kc_i (y := 4) (by decide +kernel) ?_
  refine lv_imul hx hb dX15_push_73 ?_
  refine kc_i (y := 8) (by decide +kernel) ?_
  refine lv_isub hx hb dX15_push_74 ?_
  refine kc_i (y := (-20)) (by decide +kernel) ?_
  refine va_mmax hx hb (hml.trans hl.1.symm) hown (hts (.methodLink RX15 102 Lib.Math.max.name) (by decide +kernel)) (hts (.static Lib.Math.max.name) (by decide +kernel)) (hts (.initialized "java/lang/Math") (by decide +kernel)) (hts (.code Lib.Math.max.name Lib.Math.max.code 2 (some .int)) (by decide +kernel)) (Nat.le_of_ble_eq_true rfl) (Nat.le_of_ble_eq_true rfl) (Nat.le_of_ble_eq_true rfl) (Nat.le_of_ble_eq_true rfl) dX15_push_75 ?_
  refine kc_i (y := (-12)) (by decide +kernel) ?_
  exact W.iret (v := (-12)) hx hb hr (fun t ht hW => ⟨⟨(-12), (), rfl, rfl, kB_end (w9 := [(br, .inl (cbr, 3, .inl (fun _ => 0))), (mo, .inr (19, [.int 0, .int 0, .int 0, .int 0, .int 0, .int 0, .int tu, .ref ti, .ref si, .ref lo, .ref lh, .ref lk, .ref sp, .ref st, .ref pa, .ref br, .ref sg, .int mi, .int 0, .int 0, .int 0, .int fo, .int 0, .long pe, .long pn, .long re, .long rn, .int th]))]) (t9 := []) hP hK hD [0, 1] [] rfl (by decide) rfl rfl t ht hW⟩, hS.F ht⟩) hS.2.2 dX15_push_78
abbrev wd_k_push_2 (z : Nat → Nat) (mi : Int32) (fo : Int32) (pe : Int64) (pn : Int64) (re : Int64) (rn : Int64) (mo : Nat) (ti : Nat) (si : Nat) (lo : Nat) (lh : Nat) (lk : Nat) (sp : Nat) (st : Nat) (pa : Nat) (br : Nat) (sg : Nat) (cbr : ClassId) (th : Int32) (tu : Int32) : va_W := [(mo, .inr (19, [.int 0, .int 0, .int 0, .int 0, .int 0, .int 0, .int tu, .ref ti, .ref si, .ref lo, .ref lh, .ref lk, .ref sp, .ref st, .ref pa, .ref br, .ref sg, .int mi, .int 0, .int 0, .int 0, .int fo, .int 0, .long pe, .long pn, .long re, .long rn, .int th])), (br, .inl (cbr, 3, .inl (fun _ => 0)))]
set_option maxHeartbeats 4000000 in
set_option maxRecDepth 100000 in
theorem k_push_2 (l : Launch) (dC : Nat → ClassId) (dI : Nat → Nat → Nat) (z zK zV : Nat → Nat) (mi : Int32) (fo : Int32) (pe : Int64) (pn : Int64) (re : Int64) (rn : Int64) (mo : Nat) (ti : Nat) (si : Nat) (lo : Nat) (lh : Nat) (lk : Nat) (sp : Nat) (st : Nat) (pa : Nat) (br : Nat) (sg : Nat) (cbr : ClassId) (th : Int32) (tu : Int32) (sz : Nat)  : Met l yX15_push wsX15_push ({ frames := 6, cells := 0, slots := 0, locals := 127 }) (kP dC dI z zK zV [.ref mo, .int 2] sz (wd_k_push_2 z mi fo pe pn re rn mo ti si lo lh lk sp st pa br sg cbr th tu) [(cbr, .int)]) (va_Qi (fun (r : Int32) (_ : Unit) => (-12) = r) (fun _ t => kB (dC, dI) (va_A (wd_k_push_2 z mi fo pe pn re rn mo ti si lo lh lk sp st pa br sg cbr th tu) sz) [(br, .inl (cbr, 3, .inl (fun _ => 0))), (mo, .inr (19, [.int 0, .int 0, .int 0, .int 0, .int 0, .int 0, .int tu, .ref ti, .ref si, .ref lo, .ref lh, .ref lk, .ref sp, .ref st, .ref pa, .ref br, .ref sg, .int mi, .int 0, .int 0, .int 0, .int fo, .int 0, .long pe, .long pn, .long re, .long rn, .int th]))] [] t) (va_A (wd_k_push_2 z mi fo pe pn re rn mo ti si lo lh lk sp st pa br sg cbr th tu) sz)) 0 0 (va_A (wd_k_push_2 z mi fo pe pn re rn mo ti si lo lh lk sp st pa br sg cbr th tu) sz) := by
  refine Met.ofW (cc := cX15_push) (maxL := 4) (ret := (some .int)) (by decide) rfl ?_
  intro p e s m args below meth c s₁ B hml hv
  obtain ⟨rfl, hsz, hP, hK, hD0, hM⟩ := hv
  have hx := B.exec
  have hb := B.bytes
  have hr := B.returns
  have hts := atoms_spec (ws := wsX15_push) B.pre
  have hown : s.vm.findClass RX15 = some m.cls := findClass_of_methodNamed B.named
  have hlocks := B.notSynchronized
  have hiX15 : ∀ w ∈ u_ws RX15 TX15 28, w ∈ wsX15_push := by decide +kernel
  subst hsz
  have hD := hD0.self (sz := s.heap.size)
  generalize hAe : va_A (wd_k_push_2 z mi fo pe pn re rn mo ti si lo lh lk sp st pa br sg cbr th tu) s.heap.size = A at hD hM ⊢
  have hA : ∀ q : Nat, s.heap.size ≤ q → A q := fun q h => by rw [← hAe]; exact Or.inr h
  have hS : va_S A s.heap s.heap [] := va_S.rf
  have hP : va_P (dC, dI) vwCl [(mo, .inr (19, [.int 0, .int 0, .int 0, .int 0, .int 0, .int 0, .int tu, .ref ti, .ref si, .ref lo, .ref lh, .ref lk, .ref sp, .ref st, .ref pa, .ref br, .ref sg, .int mi, .int 0, .int 0, .int 0, .int fo, .int 0, .long pe, .long pn, .long re, .long rn, .int th])), (br, .inl (cbr, 3, .inl (fun _ => 0)))] s.heap := hP
  have hD : va_D A [(mo, .inr (19, [.int 0, .int 0, .int 0, .int 0, .int 0, .int 0, .int tu, .ref ti, .ref si, .ref lo, .ref lh, .ref lk, .ref sp, .ref st, .ref pa, .ref br, .ref sg, .int mi, .int 0, .int 0, .int 0, .int fo, .int 0, .long pe, .long pn, .long re, .long rn, .int th])), (br, .inl (cbr, 3, .inl (fun _ => 0)))] := hD
  have hl := lv_entry ([.ref mo, .int 2]) (n := 4) (Nat.le_of_ble_eq_true rfl)
  rw [lg_entry_eq]
  generalize (lg_sl ([.ref mo, .int 2]) ++ List.replicate (4 - (lg_sl ([.ref mo, .int 2])).length) Slot.unset).toArray = ls at hl ⊢
  have hl : lv_has ls 4 [(0, .ref mo), (1, .int 2)] := hl
  refine lv_aload_n hx hb dX15_push_0 rfl (lv_at hl 0 rfl) ?_
  have hPc := hP.sub (ws' := [(mo, .inr (19, [.int 0, .int 0, .int 0, .int 0, .int 0, .int 0, .int tu, .ref ti, .ref si, .ref lo, .ref lh, .ref lk, .ref sp, .ref st, .ref pa, .ref br, .ref sg, .int mi, .int 0, .int 0, .int 0, .int fo, .int 0, .long pe, .long pn, .long re, .long rn, .int th]))]) [0] rfl
  have hDc := hD.sub (ws' := [(mo, .inr (19, [.int 0, .int 0, .int 0, .int 0, .int 0, .int 0, .int tu, .ref ti, .ref si, .ref lo, .ref lh, .ref lk, .ref sp, .ref st, .ref pa, .ref br, .ref sg, .int mi, .int 0, .int 0, .int 0, .int fo, .int 0, .long pe, .long pn, .long re, .long rn, .int th]))]) [0] (by decide) rfl
  have hKc := hK.sub (tys' := []) [] rfl
  have hFc := va_free (wc := [(mo, .inr (19, [.int 0, .int 0, .int 0, .int 0, .int 0, .int 0, .int tu, .ref ti, .ref si, .ref lo, .ref lh, .ref lk, .ref sp, .ref st, .ref pa, .ref br, .ref sg, .int mi, .int 0, .int 0, .int 0, .int fo, .int 0, .long pe, .long pn, .long re, .long rn, .int th]))]) hD hS hA [0] rfl
  refine va_calli (va_runV (As := []) (rest := []) ⟨hx, hb, hml, hown, hts⟩ (k_points l dC dI z zK zV mi fo pe pn re rn mo ti si lo lh lk sp st pa br sg th tu s.heap.size) (cwV 0 hts gX15_push_X15_points rfl rfl rfl (by decide +kernel) ⟨Nat.le_of_ble_eq_true rfl, Nat.le_of_ble_eq_true rfl⟩) ⟨kP_blind, va_recv hKc hPc (ci := 19) (q0 := 0) rfl rfl, kP_go hPc hKc hDc hFc hM hS⟩ rfl rfl hl.1 rfl (lv_room (Nat.le_of_ble_eq_true rfl)) dX15_push_1 ⟨Nat.le_of_ble_eq_true rfl, Nat.le_of_ble_eq_true rfl⟩) hS (fun q _ h => hFc q h) hFc (fun r1 u t H1 locs ht hvm hw hB hz1 hk1 hS => ?_)
  obtain ⟨hP, hD, hK⟩ := kJ (wr := [(br, .inl (cbr, 3, .inl (fun _ => 0)))]) (w1 := [(mo, .inr (19, [.int 0, .int 0, .int 0, .int 0, .int 0, .int 0, .int tu, .ref ti, .ref si, .ref lo, .ref lh, .ref lk, .ref sp, .ref st, .ref pa, .ref br, .ref sg, .int mi, .int 0, .int 0, .int 0, .int fo, .int 0, .long pe, .long pn, .long re, .long rn, .int th]))]) (t1 := []) hP hD hK [0] [1] rfl rfl (by decide) (by decide) hk1 hFc ht hvm hB
  generalize H1 = H at hP hS ⊢
  have hP : va_P (dC, dI) vwCl [(br, .inl (cbr, 3, .inl (fun _ => 0))), (mo, .inr (19, [.int 0, .int 0, .int 0, .int 0, .int 0, .int 0, .int tu, .ref ti, .ref si, .ref lo, .ref lh, .ref lk, .ref sp, .ref st, .ref pa, .ref br, .ref sg, .int mi, .int 0, .int 0, .int 0, .int fo, .int 0, .long pe, .long pn, .long re, .long rn, .int th]))] H := hP
  have hD : va_D A [(br, .inl (cbr, 3, .inl (fun _ => 0))), (mo, .inr (19, [.int 0, .int 0, .int 0, .int 0, .int 0, .int 0, .int tu, .ref ti, .ref si, .ref lo, .ref lh, .ref lk, .ref sp, .ref st, .ref pa, .ref br, .ref sg, .int mi, .int 0, .int 0, .int 0, .int fo, .int 0, .long pe, .long pn, .long re, .long rn, .int th]))] := hD
  have hK : va_K (dC, dI) vwCl [(cbr, .int)] s := hK
  obtain rfl : 0 = r1 := hw
  refine lv_istore_n (lv' := [(2, .int 0), (0, .ref mo), (1, .int 2)]) hx hb dX15_push_4 rfl hl (by decide) rfl (fun ls hl => ?_)
  refine lv_iload_n hx hb dX15_push_5 rfl (lv_at hl 2 rfl) ?_
  refine lv_bipush (v := 7) hx hb dX15_push_6 (by decide) ?_
  refine lv_icmp_lt (tgt := 29) hx hb dX15_push_8 (by decide) (fun _ => ?_) (fun c_ => absurd (by decide +kernel) c_)
  refine lv_iload_n hx hb dX15_push_29 rfl (lv_at hl 0 rfl) ?_
  refine lv_bipush (v := 6) hx hb dX15_push_30 (by decide) ?_
  refine lv_icmp_ge (tgt := 44) hx hb dX15_push_32 (by decide) (fun c_ => absurd c_ (by decide +kernel)) (fun _ => ?_)
  refine lv_iconst (v := 2) hx hb dX15_push_35 (by decide) ?_
  refine lv_iload_n hx hb dX15_push_36 rfl (lv_at hl 0 rfl) ?_
  refine lv_bipush (v := 6) hx hb dX15_push_37 (by decide) ?_
  refine lv_isub hx hb dX15_push_39 ?_
  refine kc_i (y := (-6)) (by decide +kernel) ?_
  refine lv_imul hx hb dX15_push_40 ?_
  refine kc_i (y := (-12)) (by decide +kernel) ?_
  refine lv_goto (tgt := 51) hx hb dX15_push_41 (by decide) ?_
  refine lv_istore_n (lv' := [(3, .int (-12)), (2, .int 0), (0, .ref mo), (1, .int 2)]) hx hb dX15_push_51 rfl hl (by decide) rfl (fun ls hl => ?_)
  refine lv_bipush (v := (-12)) hx hb dX15_push_52 (by decide) ?_
  refine lv_iload_n hx hb dX15_push_54 rfl (lv_at hl 0 rfl) ?_
  refine lv_iconst (v := 2) hx hb dX15_push_55 (by decide) ?_
  refine lv_aload_n hx hb dX15_push_56 rfl (lv_at hl 2 rfl) ?_
  refine va_get (D := (dC, dI)) (ci := 19) (v := .ref br) (C := RX15) (T := TX15) (N := 28) hx hb hts hiX15 hown hK hP 1 rfl rfl 15 (by decide) (hts (.fieldLink RX15 39 "SquareRigModel" "braced" "[I") (by decide +kernel)) (fun _ h9 => h9) rfl dX15_push_57 ?_
  refine lv_iload_n hx hb dX15_push_60 rfl (lv_at hl 3 rfl) ?_
  have hPc := hP.sub (ws' := []) [] rfl
  have hDc := hD.sub (ws' := []) [] (by decide) rfl
  have hKc := hK.sub (tys' := []) [] rfl
  have hFc := va_free (wc := []) hD hS hA [] rfl
  refine va_calli (va_runS (As := [.int 2]) (rest := [.ref br, .int 2, .int (-12), .int (-12)]) ⟨hx, hb, hml, hown, hts⟩ (k_mast_2 l dC dI z zK zV  H.size) (va_cwS 1 hts gX15_push_X15_mast rfl rfl rfl (by decide +kernel) ⟨Nat.le_of_ble_eq_true rfl, Nat.le_of_ble_eq_true rfl⟩) ⟨kP_blind, kP_go hPc hKc hDc hFc hM hS⟩ rfl rfl hl.1 rfl (lv_room (Nat.le_of_ble_eq_true rfl)) dX15_push_61 ⟨Nat.le_of_ble_eq_true rfl, Nat.le_of_ble_eq_true rfl⟩) hS (fun q _ h => hFc q h) hFc (fun r2 u t H1 locs ht hvm hw hB hz1 hk1 hS => ?_)
  obtain ⟨hP, hD, hK⟩ := kJ (wr := [(br, .inl (cbr, 3, .inl (fun _ => 0))), (mo, .inr (19, [.int 0, .int 0, .int 0, .int 0, .int 0, .int 0, .int tu, .ref ti, .ref si, .ref lo, .ref lh, .ref lk, .ref sp, .ref st, .ref pa, .ref br, .ref sg, .int mi, .int 0, .int 0, .int 0, .int fo, .int 0, .long pe, .long pn, .long re, .long rn, .int th]))]) (w1 := []) (t1 := []) hP hD hK [] [0, 1] rfl rfl (by decide) (by decide) hk1 hFc ht hvm hB
  generalize H1 = H at hP hS ⊢
  have hP : va_P (dC, dI) vwCl [(br, .inl (cbr, 3, .inl (fun _ => 0))), (mo, .inr (19, [.int 0, .int 0, .int 0, .int 0, .int 0, .int 0, .int tu, .ref ti, .ref si, .ref lo, .ref lh, .ref lk, .ref sp, .ref st, .ref pa, .ref br, .ref sg, .int mi, .int 0, .int 0, .int 0, .int fo, .int 0, .long pe, .long pn, .long re, .long rn, .int th]))] H := hP
  have hD : va_D A [(br, .inl (cbr, 3, .inl (fun _ => 0))), (mo, .inr (19, [.int 0, .int 0, .int 0, .int 0, .int 0, .int 0, .int tu, .ref ti, .ref si, .ref lo, .ref lh, .ref lk, .ref sp, .ref st, .ref pa, .ref br, .ref sg, .int mi, .int 0, .int 0, .int 0, .int fo, .int 0, .long pe, .long pn, .long re, .long rn, .int th]))] := hD
  have hK : va_K (dC, dI) vwCl [(cbr, .int)] s := hK
  obtain rfl : 0 = r2 := hw
  refine va_iald hx hb hK hP 0 0 rfl rfl (pk_in 0 3 (by decide) rfl) dX15_push_64 ?_
  refine kc_v (y := .int 0) rfl ?_
  refine lv_aload_n hx hb dX15_push_65 rfl (lv_at hl 2 rfl) ?_
  have hPc := hP.sub (ws' := [(mo, .inr (19, [.int 0, .int 0, .int 0, .int 0, .int 0, .int 0, .int tu, .ref ti, .ref si, .ref lo, .ref lh, .ref lk, .ref sp, .ref st, .ref pa, .ref br, .ref sg, .int mi, .int 0, .int 0, .int 0, .int fo, .int 0, .long pe, .long pn, .long re, .long rn, .int th]))]) [1] rfl
  have hDc := hD.sub (ws' := [(mo, .inr (19, [.int 0, .int 0, .int 0, .int 0, .int 0, .int 0, .int tu, .ref ti, .ref si, .ref lo, .ref lh, .ref lk, .ref sp, .ref st, .ref pa, .ref br, .ref sg, .int mi, .int 0, .int 0, .int 0, .int fo, .int 0, .long pe, .long pn, .long re, .long rn, .int th]))]) [1] (by decide) rfl
  have hKc := hK.sub (tys' := []) [] rfl
  have hFc := va_free (wc := [(mo, .inr (19, [.int 0, .int 0, .int 0, .int 0, .int 0, .int 0, .int tu, .ref ti, .ref si, .ref lo, .ref lh, .ref lk, .ref sp, .ref st, .ref pa, .ref br, .ref sg, .int mi, .int 0, .int 0, .int 0, .int fo, .int 0, .long pe, .long pn, .long re, .long rn, .int th]))]) hD hS hA [1] rfl
  refine va_calli (va_runV (As := []) (rest := [.int 0, .int 2, .int (-12), .int (-12)]) ⟨hx, hb, hml, hown, hts⟩ (k_bestNow l dC dI z zK zV mi fo pe pn re rn mo ti si lo lh lk sp st pa br sg th tu H.size) (cwV 0 hts gX15_push_X15_bestNow rfl rfl rfl (by decide +kernel) ⟨Nat.le_of_ble_eq_true rfl, Nat.le_of_ble_eq_true rfl⟩) ⟨kP_blind, va_recv hKc hPc (ci := 19) (q0 := 0) rfl rfl, kP_go hPc hKc hDc hFc hM hS⟩ rfl rfl hl.1 rfl (lv_room (Nat.le_of_ble_eq_true rfl)) dX15_push_66 ⟨Nat.le_of_ble_eq_true rfl, Nat.le_of_ble_eq_true rfl⟩) hS (fun q _ h => hFc q h) hFc (fun r3 u t H1 locs ht hvm hw hB hz1 hk1 hS => ?_)
  obtain ⟨hP, hD, hK⟩ := kJ (wr := [(br, .inl (cbr, 3, .inl (fun _ => 0)))]) (w1 := [(mo, .inr (19, [.int 0, .int 0, .int 0, .int 0, .int 0, .int 0, .int tu, .ref ti, .ref si, .ref lo, .ref lh, .ref lk, .ref sp, .ref st, .ref pa, .ref br, .ref sg, .int mi, .int 0, .int 0, .int 0, .int fo, .int 0, .long pe, .long pn, .long re, .long rn, .int th]))]) (t1 := []) hP hD hK [1] [0] rfl rfl (by decide) (by decide) hk1 hFc ht hvm hB
  generalize H1 = H at hP hS ⊢
  have hP : va_P (dC, dI) vwCl [(br, .inl (cbr, 3, .inl (fun _ => 0))), (mo, .inr (19, [.int 0, .int 0, .int 0, .int 0, .int 0, .int 0, .int tu, .ref ti, .ref si, .ref lo, .ref lh, .ref lk, .ref sp, .ref st, .ref pa, .ref br, .ref sg, .int mi, .int 0, .int 0, .int 0, .int fo, .int 0, .long pe, .long pn, .long re, .long rn, .int th]))] H := hP
  have hD : va_D A [(br, .inl (cbr, 3, .inl (fun _ => 0))), (mo, .inr (19, [.int 0, .int 0, .int 0, .int 0, .int 0, .int 0, .int tu, .ref ti, .ref si, .ref lo, .ref lh, .ref lk, .ref sp, .ref st, .ref pa, .ref br, .ref sg, .int mi, .int 0, .int 0, .int 0, .int fo, .int 0, .long pe, .long pn, .long re, .long rn, .int th]))] := hD
  have hK : va_K (dC, dI) vwCl [(cbr, .int)] s := hK
  obtain rfl : 4 = r3 := hw
  refine lv_isub hx hb dX15_push_69 ?_
  refine kc_i (y := (-4)) (by decide +kernel) ?_
  refine va_mabs hx hb (hml.trans hl.1.symm) hown (hts (.methodLink RX15 99 Lib.Math.abs.name) (by decide +kernel)) (hts (.static Lib.Math.abs.name) (by decide +kernel)) (hts (.initialized "java/lang/Math") (by decide +kernel)) (hts (.code Lib.Math.abs.name Lib.Math.abs.code 1 (some .int)) (by decide +kernel)) (Nat.le_of_ble_eq_true rfl) (Nat.le_of_ble_eq_true rfl) (Nat.le_of_ble_eq_true rfl) (Nat.le_of_ble_eq_true rfl) dX15_push_70 ?_
  refine kc_i (y := 4) (by decide +kernel) ?_
  refine lv_imul hx hb dX15_push_73 ?_
  refine kc_i (y := 8) (by decide +kernel) ?_
  refine lv_isub hx hb dX15_push_74 ?_
  refine kc_i (y := (-20)) (by decide +kernel) ?_
  refine va_mmax hx hb (hml.trans hl.1.symm) hown (hts (.methodLink RX15 102 Lib.Math.max.name) (by decide +kernel)) (hts (.static Lib.Math.max.name) (by decide +kernel)) (hts (.initialized "java/lang/Math") (by decide +kernel)) (hts (.code Lib.Math.max.name Lib.Math.max.code 2 (some .int)) (by decide +kernel)) (Nat.le_of_ble_eq_true rfl) (Nat.le_of_ble_eq_true rfl) (Nat.le_of_ble_eq_true rfl) (Nat.le_of_ble_eq_true rfl) dX15_push_75 ?_
  refine kc_i (y := (-12)) (by decide +kernel) ?_
  exact W.iret (v := (-12)) hx hb hr (fun t ht hW => ⟨⟨(-12), (), rfl, rfl, kB_end (w9 := [(br, .inl (cbr, 3, .inl (fun _ => 0))), (mo, .inr (19, [.int 0, .int 0, .int 0, .int 0, .int 0, .int 0, .int tu, .ref ti, .ref si, .ref lo, .ref lh, .ref lk, .ref sp, .ref st, .ref pa, .ref br, .ref sg, .int mi, .int 0, .int 0, .int 0, .int fo, .int 0, .long pe, .long pn, .long re, .long rn, .int th]))]) (t9 := []) hP hK hD [0, 1] [] rfl (by decide) rfl rfl t ht hW⟩, hS.F ht⟩) hS.2.2 dX15_push_78
abbrev wd_k_push_3 (z : Nat → Nat) (mi : Int32) (fo : Int32) (pe : Int64) (pn : Int64) (re : Int64) (rn : Int64) (mo : Nat) (ti : Nat) (si : Nat) (lo : Nat) (lh : Nat) (lk : Nat) (sp : Nat) (st : Nat) (pa : Nat) (br : Nat) (sg : Nat) (cbr : ClassId) (th : Int32) (tu : Int32) : va_W := [(mo, .inr (19, [.int 0, .int 0, .int 0, .int 0, .int 0, .int 0, .int tu, .ref ti, .ref si, .ref lo, .ref lh, .ref lk, .ref sp, .ref st, .ref pa, .ref br, .ref sg, .int mi, .int 0, .int 0, .int 0, .int fo, .int 0, .long pe, .long pn, .long re, .long rn, .int th])), (br, .inl (cbr, 3, .inl (fun _ => 0)))]
set_option maxHeartbeats 4000000 in
set_option maxRecDepth 100000 in
theorem k_push_3 (l : Launch) (dC : Nat → ClassId) (dI : Nat → Nat → Nat) (z zK zV : Nat → Nat) (mi : Int32) (fo : Int32) (pe : Int64) (pn : Int64) (re : Int64) (rn : Int64) (mo : Nat) (ti : Nat) (si : Nat) (lo : Nat) (lh : Nat) (lk : Nat) (sp : Nat) (st : Nat) (pa : Nat) (br : Nat) (sg : Nat) (cbr : ClassId) (th : Int32) (tu : Int32) (sz : Nat)  : Met l yX15_push wsX15_push ({ frames := 6, cells := 0, slots := 0, locals := 127 }) (kP dC dI z zK zV [.ref mo, .int 3] sz (wd_k_push_3 z mi fo pe pn re rn mo ti si lo lh lk sp st pa br sg cbr th tu) [(cbr, .int)]) (va_Qi (fun (r : Int32) (_ : Unit) => (-12) = r) (fun _ t => kB (dC, dI) (va_A (wd_k_push_3 z mi fo pe pn re rn mo ti si lo lh lk sp st pa br sg cbr th tu) sz) [(br, .inl (cbr, 3, .inl (fun _ => 0))), (mo, .inr (19, [.int 0, .int 0, .int 0, .int 0, .int 0, .int 0, .int tu, .ref ti, .ref si, .ref lo, .ref lh, .ref lk, .ref sp, .ref st, .ref pa, .ref br, .ref sg, .int mi, .int 0, .int 0, .int 0, .int fo, .int 0, .long pe, .long pn, .long re, .long rn, .int th]))] [] t) (va_A (wd_k_push_3 z mi fo pe pn re rn mo ti si lo lh lk sp st pa br sg cbr th tu) sz)) 0 0 (va_A (wd_k_push_3 z mi fo pe pn re rn mo ti si lo lh lk sp st pa br sg cbr th tu) sz) := by
  refine Met.ofW (cc := cX15_push) (maxL := 4) (ret := (some .int)) (by decide) rfl ?_
  intro p e s m args below meth c s₁ B hml hv
  obtain ⟨rfl, hsz, hP, hK, hD0, hM⟩ := hv
  have hx := B.exec
  have hb := B.bytes
  have hr := B.returns
  have hts := atoms_spec (ws := wsX15_push) B.pre
  have hown : s.vm.findClass RX15 = some m.cls := findClass_of_methodNamed B.named
  have hlocks := B.notSynchronized
  have hiX15 : ∀ w ∈ u_ws RX15 TX15 28, w ∈ wsX15_push := by decide +kernel
  subst hsz
  have hD := hD0.self (sz := s.heap.size)
  generalize hAe : va_A (wd_k_push_3 z mi fo pe pn re rn mo ti si lo lh lk sp st pa br sg cbr th tu) s.heap.size = A at hD hM ⊢
  have hA : ∀ q : Nat, s.heap.size ≤ q → A q := fun q h => by rw [← hAe]; exact Or.inr h
  have hS : va_S A s.heap s.heap [] := va_S.rf
  have hP : va_P (dC, dI) vwCl [(mo, .inr (19, [.int 0, .int 0, .int 0, .int 0, .int 0, .int 0, .int tu, .ref ti, .ref si, .ref lo, .ref lh, .ref lk, .ref sp, .ref st, .ref pa, .ref br, .ref sg, .int mi, .int 0, .int 0, .int 0, .int fo, .int 0, .long pe, .long pn, .long re, .long rn, .int th])), (br, .inl (cbr, 3, .inl (fun _ => 0)))] s.heap := hP
  have hD : va_D A [(mo, .inr (19, [.int 0, .int 0, .int 0, .int 0, .int 0, .int 0, .int tu, .ref ti, .ref si, .ref lo, .ref lh, .ref lk, .ref sp, .ref st, .ref pa, .ref br, .ref sg, .int mi, .int 0, .int 0, .int 0, .int fo, .int 0, .long pe, .long pn, .long re, .long rn, .int th])), (br, .inl (cbr, 3, .inl (fun _ => 0)))] := hD
  have hl := lv_entry ([.ref mo, .int 3]) (n := 4) (Nat.le_of_ble_eq_true rfl)
  rw [lg_entry_eq]
  generalize (lg_sl ([.ref mo, .int 3]) ++ List.replicate (4 - (lg_sl ([.ref mo, .int 3])).length) Slot.unset).toArray = ls at hl ⊢
  have hl : lv_has ls 4 [(0, .ref mo), (1, .int 3)] := hl
  refine lv_aload_n hx hb dX15_push_0 rfl (lv_at hl 0 rfl) ?_
  have hPc := hP.sub (ws' := [(mo, .inr (19, [.int 0, .int 0, .int 0, .int 0, .int 0, .int 0, .int tu, .ref ti, .ref si, .ref lo, .ref lh, .ref lk, .ref sp, .ref st, .ref pa, .ref br, .ref sg, .int mi, .int 0, .int 0, .int 0, .int fo, .int 0, .long pe, .long pn, .long re, .long rn, .int th]))]) [0] rfl
  have hDc := hD.sub (ws' := [(mo, .inr (19, [.int 0, .int 0, .int 0, .int 0, .int 0, .int 0, .int tu, .ref ti, .ref si, .ref lo, .ref lh, .ref lk, .ref sp, .ref st, .ref pa, .ref br, .ref sg, .int mi, .int 0, .int 0, .int 0, .int fo, .int 0, .long pe, .long pn, .long re, .long rn, .int th]))]) [0] (by decide) rfl
  have hKc := hK.sub (tys' := []) [] rfl
  have hFc := va_free (wc := [(mo, .inr (19, [.int 0, .int 0, .int 0, .int 0, .int 0, .int 0, .int tu, .ref ti, .ref si, .ref lo, .ref lh, .ref lk, .ref sp, .ref st, .ref pa, .ref br, .ref sg, .int mi, .int 0, .int 0, .int 0, .int fo, .int 0, .long pe, .long pn, .long re, .long rn, .int th]))]) hD hS hA [0] rfl
  refine va_calli (va_runV (As := []) (rest := []) ⟨hx, hb, hml, hown, hts⟩ (k_points l dC dI z zK zV mi fo pe pn re rn mo ti si lo lh lk sp st pa br sg th tu s.heap.size) (cwV 0 hts gX15_push_X15_points rfl rfl rfl (by decide +kernel) ⟨Nat.le_of_ble_eq_true rfl, Nat.le_of_ble_eq_true rfl⟩) ⟨kP_blind, va_recv hKc hPc (ci := 19) (q0 := 0) rfl rfl, kP_go hPc hKc hDc hFc hM hS⟩ rfl rfl hl.1 rfl (lv_room (Nat.le_of_ble_eq_true rfl)) dX15_push_1 ⟨Nat.le_of_ble_eq_true rfl, Nat.le_of_ble_eq_true rfl⟩) hS (fun q _ h => hFc q h) hFc (fun r1 u t H1 locs ht hvm hw hB hz1 hk1 hS => ?_)
  obtain ⟨hP, hD, hK⟩ := kJ (wr := [(br, .inl (cbr, 3, .inl (fun _ => 0)))]) (w1 := [(mo, .inr (19, [.int 0, .int 0, .int 0, .int 0, .int 0, .int 0, .int tu, .ref ti, .ref si, .ref lo, .ref lh, .ref lk, .ref sp, .ref st, .ref pa, .ref br, .ref sg, .int mi, .int 0, .int 0, .int 0, .int fo, .int 0, .long pe, .long pn, .long re, .long rn, .int th]))]) (t1 := []) hP hD hK [0] [1] rfl rfl (by decide) (by decide) hk1 hFc ht hvm hB
  generalize H1 = H at hP hS ⊢
  have hP : va_P (dC, dI) vwCl [(br, .inl (cbr, 3, .inl (fun _ => 0))), (mo, .inr (19, [.int 0, .int 0, .int 0, .int 0, .int 0, .int 0, .int tu, .ref ti, .ref si, .ref lo, .ref lh, .ref lk, .ref sp, .ref st, .ref pa, .ref br, .ref sg, .int mi, .int 0, .int 0, .int 0, .int fo, .int 0, .long pe, .long pn, .long re, .long rn, .int th]))] H := hP
  have hD : va_D A [(br, .inl (cbr, 3, .inl (fun _ => 0))), (mo, .inr (19, [.int 0, .int 0, .int 0, .int 0, .int 0, .int 0, .int tu, .ref ti, .ref si, .ref lo, .ref lh, .ref lk, .ref sp, .ref st, .ref pa, .ref br, .ref sg, .int mi, .int 0, .int 0, .int 0, .int fo, .int 0, .long pe, .long pn, .long re, .long rn, .int th]))] := hD
  have hK : va_K (dC, dI) vwCl [(cbr, .int)] s := hK
  obtain rfl : 0 = r1 := hw
  refine lv_istore_n (lv' := [(2, .int 0), (0, .ref mo), (1, .int 3)]) hx hb dX15_push_4 rfl hl (by decide) rfl (fun ls hl => ?_)
  refine lv_iload_n hx hb dX15_push_5 rfl (lv_at hl 2 rfl) ?_
  refine lv_bipush (v := 7) hx hb dX15_push_6 (by decide) ?_
  refine lv_icmp_lt (tgt := 29) hx hb dX15_push_8 (by decide) (fun _ => ?_) (fun c_ => absurd (by decide +kernel) c_)
  refine lv_iload_n hx hb dX15_push_29 rfl (lv_at hl 0 rfl) ?_
  refine lv_bipush (v := 6) hx hb dX15_push_30 (by decide) ?_
  refine lv_icmp_ge (tgt := 44) hx hb dX15_push_32 (by decide) (fun c_ => absurd c_ (by decide +kernel)) (fun _ => ?_)
  refine lv_iconst (v := 2) hx hb dX15_push_35 (by decide) ?_
  refine lv_iload_n hx hb dX15_push_36 rfl (lv_at hl 0 rfl) ?_
  refine lv_bipush (v := 6) hx hb dX15_push_37 (by decide) ?_
  refine lv_isub hx hb dX15_push_39 ?_
  refine kc_i (y := (-6)) (by decide +kernel) ?_
  refine lv_imul hx hb dX15_push_40 ?_
  refine kc_i (y := (-12)) (by decide +kernel) ?_
  refine lv_goto (tgt := 51) hx hb dX15_push_41 (by decide) ?_
  refine lv_istore_n (lv' := [(3, .int (-12)), (2, .int 0), (0, .ref mo), (1, .int 3)]) hx hb dX15_push_51 rfl hl (by decide) rfl (fun ls hl => ?_)
  refine lv_bipush (v := (-12)) hx hb dX15_push_52 (by decide) ?_
  refine lv_iload_n hx hb dX15_push_54 rfl (lv_at hl 0 rfl) ?_
  refine lv_iconst (v := 2) hx hb dX15_push_55 (by decide) ?_
  refine lv_aload_n hx hb dX15_push_56 rfl (lv_at hl 2 rfl) ?_
  refine va_get (D := (dC, dI)) (ci := 19) (v := .ref br) (C := RX15) (T := TX15) (N := 28) hx hb hts hiX15 hown hK hP 1 rfl rfl 15 (by decide) (hts (.fieldLink RX15 39 "SquareRigModel" "braced" "[I") (by decide +kernel)) (fun _ h9 => h9) rfl dX15_push_57 ?_
  refine lv_iload_n hx hb dX15_push_60 rfl (lv_at hl 3 rfl) ?_
  have hPc := hP.sub (ws' := []) [] rfl
  have hDc := hD.sub (ws' := []) [] (by decide) rfl
  have hKc := hK.sub (tys' := []) [] rfl
  have hFc := va_free (wc := []) hD hS hA [] rfl
  refine va_calli (va_runS (As := [.int 3]) (rest := [.ref br, .int 2, .int (-12), .int (-12)]) ⟨hx, hb, hml, hown, hts⟩ (k_mast_3 l dC dI z zK zV  H.size) (va_cwS 1 hts gX15_push_X15_mast rfl rfl rfl (by decide +kernel) ⟨Nat.le_of_ble_eq_true rfl, Nat.le_of_ble_eq_true rfl⟩) ⟨kP_blind, kP_go hPc hKc hDc hFc hM hS⟩ rfl rfl hl.1 rfl (lv_room (Nat.le_of_ble_eq_true rfl)) dX15_push_61 ⟨Nat.le_of_ble_eq_true rfl, Nat.le_of_ble_eq_true rfl⟩) hS (fun q _ h => hFc q h) hFc (fun r2 u t H1 locs ht hvm hw hB hz1 hk1 hS => ?_)
  obtain ⟨hP, hD, hK⟩ := kJ (wr := [(br, .inl (cbr, 3, .inl (fun _ => 0))), (mo, .inr (19, [.int 0, .int 0, .int 0, .int 0, .int 0, .int 0, .int tu, .ref ti, .ref si, .ref lo, .ref lh, .ref lk, .ref sp, .ref st, .ref pa, .ref br, .ref sg, .int mi, .int 0, .int 0, .int 0, .int fo, .int 0, .long pe, .long pn, .long re, .long rn, .int th]))]) (w1 := []) (t1 := []) hP hD hK [] [0, 1] rfl rfl (by decide) (by decide) hk1 hFc ht hvm hB
  generalize H1 = H at hP hS ⊢
  have hP : va_P (dC, dI) vwCl [(br, .inl (cbr, 3, .inl (fun _ => 0))), (mo, .inr (19, [.int 0, .int 0, .int 0, .int 0, .int 0, .int 0, .int tu, .ref ti, .ref si, .ref lo, .ref lh, .ref lk, .ref sp, .ref st, .ref pa, .ref br, .ref sg, .int mi, .int 0, .int 0, .int 0, .int fo, .int 0, .long pe, .long pn, .long re, .long rn, .int th]))] H := hP
  have hD : va_D A [(br, .inl (cbr, 3, .inl (fun _ => 0))), (mo, .inr (19, [.int 0, .int 0, .int 0, .int 0, .int 0, .int 0, .int tu, .ref ti, .ref si, .ref lo, .ref lh, .ref lk, .ref sp, .ref st, .ref pa, .ref br, .ref sg, .int mi, .int 0, .int 0, .int 0, .int fo, .int 0, .long pe, .long pn, .long re, .long rn, .int th]))] := hD
  have hK : va_K (dC, dI) vwCl [(cbr, .int)] s := hK
  obtain rfl : 1 = r2 := hw
  refine va_iald hx hb hK hP 0 0 rfl rfl (pk_in 1 3 (by decide) rfl) dX15_push_64 ?_
  refine kc_v (y := .int 0) rfl ?_
  refine lv_aload_n hx hb dX15_push_65 rfl (lv_at hl 2 rfl) ?_
  have hPc := hP.sub (ws' := [(mo, .inr (19, [.int 0, .int 0, .int 0, .int 0, .int 0, .int 0, .int tu, .ref ti, .ref si, .ref lo, .ref lh, .ref lk, .ref sp, .ref st, .ref pa, .ref br, .ref sg, .int mi, .int 0, .int 0, .int 0, .int fo, .int 0, .long pe, .long pn, .long re, .long rn, .int th]))]) [1] rfl
  have hDc := hD.sub (ws' := [(mo, .inr (19, [.int 0, .int 0, .int 0, .int 0, .int 0, .int 0, .int tu, .ref ti, .ref si, .ref lo, .ref lh, .ref lk, .ref sp, .ref st, .ref pa, .ref br, .ref sg, .int mi, .int 0, .int 0, .int 0, .int fo, .int 0, .long pe, .long pn, .long re, .long rn, .int th]))]) [1] (by decide) rfl
  have hKc := hK.sub (tys' := []) [] rfl
  have hFc := va_free (wc := [(mo, .inr (19, [.int 0, .int 0, .int 0, .int 0, .int 0, .int 0, .int tu, .ref ti, .ref si, .ref lo, .ref lh, .ref lk, .ref sp, .ref st, .ref pa, .ref br, .ref sg, .int mi, .int 0, .int 0, .int 0, .int fo, .int 0, .long pe, .long pn, .long re, .long rn, .int th]))]) hD hS hA [1] rfl
  refine va_calli (va_runV (As := []) (rest := [.int 0, .int 2, .int (-12), .int (-12)]) ⟨hx, hb, hml, hown, hts⟩ (k_bestNow l dC dI z zK zV mi fo pe pn re rn mo ti si lo lh lk sp st pa br sg th tu H.size) (cwV 0 hts gX15_push_X15_bestNow rfl rfl rfl (by decide +kernel) ⟨Nat.le_of_ble_eq_true rfl, Nat.le_of_ble_eq_true rfl⟩) ⟨kP_blind, va_recv hKc hPc (ci := 19) (q0 := 0) rfl rfl, kP_go hPc hKc hDc hFc hM hS⟩ rfl rfl hl.1 rfl (lv_room (Nat.le_of_ble_eq_true rfl)) dX15_push_66 ⟨Nat.le_of_ble_eq_true rfl, Nat.le_of_ble_eq_true rfl⟩) hS (fun q _ h => hFc q h) hFc (fun r3 u t H1 locs ht hvm hw hB hz1 hk1 hS => ?_)
  obtain ⟨hP, hD, hK⟩ := kJ (wr := [(br, .inl (cbr, 3, .inl (fun _ => 0)))]) (w1 := [(mo, .inr (19, [.int 0, .int 0, .int 0, .int 0, .int 0, .int 0, .int tu, .ref ti, .ref si, .ref lo, .ref lh, .ref lk, .ref sp, .ref st, .ref pa, .ref br, .ref sg, .int mi, .int 0, .int 0, .int 0, .int fo, .int 0, .long pe, .long pn, .long re, .long rn, .int th]))]) (t1 := []) hP hD hK [1] [0] rfl rfl (by decide) (by decide) hk1 hFc ht hvm hB
  generalize H1 = H at hP hS ⊢
  have hP : va_P (dC, dI) vwCl [(br, .inl (cbr, 3, .inl (fun _ => 0))), (mo, .inr (19, [.int 0, .int 0, .int 0, .int 0, .int 0, .int 0, .int tu, .ref ti, .ref si, .ref lo, .ref lh, .ref lk, .ref sp, .ref st, .ref pa, .ref br, .ref sg, .int mi, .int 0, .int 0, .int 0, .int fo, .int 0, .long pe, .long pn, .long re, .long rn, .int th]))] H := hP
  have hD : va_D A [(br, .inl (cbr, 3, .inl (fun _ => 0))), (mo, .inr (19, [.int 0, .int 0, .int 0, .int 0, .int 0, .int 0, .int tu, .ref ti, .ref si, .ref lo, .ref lh, .ref lk, .ref sp, .ref st, .ref pa, .ref br, .ref sg, .int mi, .int 0, .int 0, .int 0, .int fo, .int 0, .long pe, .long pn, .long re, .long rn, .int th]))] := hD
  have hK : va_K (dC, dI) vwCl [(cbr, .int)] s := hK
  obtain rfl : 4 = r3 := hw
  refine lv_isub hx hb dX15_push_69 ?_
  refine kc_i (y := (-4)) (by decide +kernel) ?_
  refine va_mabs hx hb (hml.trans hl.1.symm) hown (hts (.methodLink RX15 99 Lib.Math.abs.name) (by decide +kernel)) (hts (.static Lib.Math.abs.name) (by decide +kernel)) (hts (.initialized "java/lang/Math") (by decide +kernel)) (hts (.code Lib.Math.abs.name Lib.Math.abs.code 1 (some .int)) (by decide +kernel)) (Nat.le_of_ble_eq_true rfl) (Nat.le_of_ble_eq_true rfl) (Nat.le_of_ble_eq_true rfl) (Nat.le_of_ble_eq_true rfl) dX15_push_70 ?_
  refine kc_i (y := 4) (by decide +kernel) ?_
  refine lv_imul hx hb dX15_push_73 ?_
  refine kc_i (y := 8) (by decide +kernel) ?_
  refine lv_isub hx hb dX15_push_74 ?_
  refine kc_i (y := (-20)) (by decide +kernel) ?_
  refine va_mmax hx hb (hml.trans hl.1.symm) hown (hts (.methodLink RX15 102 Lib.Math.max.name) (by decide +kernel)) (hts (.static Lib.Math.max.name) (by decide +kernel)) (hts (.initialized "java/lang/Math") (by decide +kernel)) (hts (.code Lib.Math.max.name Lib.Math.max.code 2 (some .int)) (by decide +kernel)) (Nat.le_of_ble_eq_true rfl) (Nat.le_of_ble_eq_true rfl) (Nat.le_of_ble_eq_true rfl) (Nat.le_of_ble_eq_true rfl) dX15_push_75 ?_
  refine kc_i (y := (-12)) (by decide +kernel) ?_
  exact W.iret (v := (-12)) hx hb hr (fun t ht hW => ⟨⟨(-12), (), rfl, rfl, kB_end (w9 := [(br, .inl (cbr, 3, .inl (fun _ => 0))), (mo, .inr (19, [.int 0, .int 0, .int 0, .int 0, .int 0, .int 0, .int tu, .ref ti, .ref si, .ref lo, .ref lh, .ref lk, .ref sp, .ref st, .ref pa, .ref br, .ref sg, .int mi, .int 0, .int 0, .int 0, .int fo, .int 0, .long pe, .long pn, .long re, .long rn, .int th]))]) (t9 := []) hP hK hD [0, 1] [] rfl (by decide) rfl rfl t ht hW⟩, hS.F ht⟩) hS.2.2 dX15_push_78
abbrev wd_k_push_4 (z : Nat → Nat) (mi : Int32) (fo : Int32) (pe : Int64) (pn : Int64) (re : Int64) (rn : Int64) (mo : Nat) (ti : Nat) (si : Nat) (lo : Nat) (lh : Nat) (lk : Nat) (sp : Nat) (st : Nat) (pa : Nat) (br : Nat) (sg : Nat) (cbr : ClassId) (th : Int32) (tu : Int32) : va_W := [(mo, .inr (19, [.int 0, .int 0, .int 0, .int 0, .int 0, .int 0, .int tu, .ref ti, .ref si, .ref lo, .ref lh, .ref lk, .ref sp, .ref st, .ref pa, .ref br, .ref sg, .int mi, .int 0, .int 0, .int 0, .int fo, .int 0, .long pe, .long pn, .long re, .long rn, .int th])), (br, .inl (cbr, 3, .inl (fun _ => 0)))]
set_option maxHeartbeats 4000000 in
set_option maxRecDepth 100000 in
theorem k_push_4 (l : Launch) (dC : Nat → ClassId) (dI : Nat → Nat → Nat) (z zK zV : Nat → Nat) (mi : Int32) (fo : Int32) (pe : Int64) (pn : Int64) (re : Int64) (rn : Int64) (mo : Nat) (ti : Nat) (si : Nat) (lo : Nat) (lh : Nat) (lk : Nat) (sp : Nat) (st : Nat) (pa : Nat) (br : Nat) (sg : Nat) (cbr : ClassId) (th : Int32) (tu : Int32) (sz : Nat)  : Met l yX15_push wsX15_push ({ frames := 6, cells := 0, slots := 0, locals := 127 }) (kP dC dI z zK zV [.ref mo, .int 4] sz (wd_k_push_4 z mi fo pe pn re rn mo ti si lo lh lk sp st pa br sg cbr th tu) [(cbr, .int)]) (va_Qi (fun (r : Int32) (_ : Unit) => (-12) = r) (fun _ t => kB (dC, dI) (va_A (wd_k_push_4 z mi fo pe pn re rn mo ti si lo lh lk sp st pa br sg cbr th tu) sz) [(br, .inl (cbr, 3, .inl (fun _ => 0))), (mo, .inr (19, [.int 0, .int 0, .int 0, .int 0, .int 0, .int 0, .int tu, .ref ti, .ref si, .ref lo, .ref lh, .ref lk, .ref sp, .ref st, .ref pa, .ref br, .ref sg, .int mi, .int 0, .int 0, .int 0, .int fo, .int 0, .long pe, .long pn, .long re, .long rn, .int th]))] [] t) (va_A (wd_k_push_4 z mi fo pe pn re rn mo ti si lo lh lk sp st pa br sg cbr th tu) sz)) 0 0 (va_A (wd_k_push_4 z mi fo pe pn re rn mo ti si lo lh lk sp st pa br sg cbr th tu) sz) := by
  refine Met.ofW (cc := cX15_push) (maxL := 4) (ret := (some .int)) (by decide) rfl ?_
  intro p e s m args below meth c s₁ B hml hv
  obtain ⟨rfl, hsz, hP, hK, hD0, hM⟩ := hv
  have hx := B.exec
  have hb := B.bytes
  have hr := B.returns
  have hts := atoms_spec (ws := wsX15_push) B.pre
  have hown : s.vm.findClass RX15 = some m.cls := findClass_of_methodNamed B.named
  have hlocks := B.notSynchronized
  have hiX15 : ∀ w ∈ u_ws RX15 TX15 28, w ∈ wsX15_push := by decide +kernel
  subst hsz
  have hD := hD0.self (sz := s.heap.size)
  generalize hAe : va_A (wd_k_push_4 z mi fo pe pn re rn mo ti si lo lh lk sp st pa br sg cbr th tu) s.heap.size = A at hD hM ⊢
  have hA : ∀ q : Nat, s.heap.size ≤ q → A q := fun q h => by rw [← hAe]; exact Or.inr h
  have hS : va_S A s.heap s.heap [] := va_S.rf
  have hP : va_P (dC, dI) vwCl [(mo, .inr (19, [.int 0, .int 0, .int 0, .int 0, .int 0, .int 0, .int tu, .ref ti, .ref si, .ref lo, .ref lh, .ref lk, .ref sp, .ref st, .ref pa, .ref br, .ref sg, .int mi, .int 0, .int 0, .int 0, .int fo, .int 0, .long pe, .long pn, .long re, .long rn, .int th])), (br, .inl (cbr, 3, .inl (fun _ => 0)))] s.heap := hP
  have hD : va_D A [(mo, .inr (19, [.int 0, .int 0, .int 0, .int 0, .int 0, .int 0, .int tu, .ref ti, .ref si, .ref lo, .ref lh, .ref lk, .ref sp, .ref st, .ref pa, .ref br, .ref sg, .int mi, .int 0, .int 0, .int 0, .int fo, .int 0, .long pe, .long pn, .long re, .long rn, .int th])), (br, .inl (cbr, 3, .inl (fun _ => 0)))] := hD
  have hl := lv_entry ([.ref mo, .int 4]) (n := 4) (Nat.le_of_ble_eq_true rfl)
  rw [lg_entry_eq]
  generalize (lg_sl ([.ref mo, .int 4]) ++ List.replicate (4 - (lg_sl ([.ref mo, .int 4])).length) Slot.unset).toArray = ls at hl ⊢
  have hl : lv_has ls 4 [(0, .ref mo), (1, .int 4)] := hl
  refine lv_aload_n hx hb dX15_push_0 rfl (lv_at hl 0 rfl) ?_
  have hPc := hP.sub (ws' := [(mo, .inr (19, [.int 0, .int 0, .int 0, .int 0, .int 0, .int 0, .int tu, .ref ti, .ref si, .ref lo, .ref lh, .ref lk, .ref sp, .ref st, .ref pa, .ref br, .ref sg, .int mi, .int 0, .int 0, .int 0, .int fo, .int 0, .long pe, .long pn, .long re, .long rn, .int th]))]) [0] rfl
  have hDc := hD.sub (ws' := [(mo, .inr (19, [.int 0, .int 0, .int 0, .int 0, .int 0, .int 0, .int tu, .ref ti, .ref si, .ref lo, .ref lh, .ref lk, .ref sp, .ref st, .ref pa, .ref br, .ref sg, .int mi, .int 0, .int 0, .int 0, .int fo, .int 0, .long pe, .long pn, .long re, .long rn, .int th]))]) [0] (by decide) rfl
  have hKc := hK.sub (tys' := []) [] rfl
  have hFc := va_free (wc := [(mo, .inr (19, [.int 0, .int 0, .int 0, .int 0, .int 0, .int 0, .int tu, .ref ti, .ref si, .ref lo, .ref lh, .ref lk, .ref sp, .ref st, .ref pa, .ref br, .ref sg, .int mi, .int 0, .int 0, .int 0, .int fo, .int 0, .long pe, .long pn, .long re, .long rn, .int th]))]) hD hS hA [0] rfl
  refine va_calli (va_runV (As := []) (rest := []) ⟨hx, hb, hml, hown, hts⟩ (k_points l dC dI z zK zV mi fo pe pn re rn mo ti si lo lh lk sp st pa br sg th tu s.heap.size) (cwV 0 hts gX15_push_X15_points rfl rfl rfl (by decide +kernel) ⟨Nat.le_of_ble_eq_true rfl, Nat.le_of_ble_eq_true rfl⟩) ⟨kP_blind, va_recv hKc hPc (ci := 19) (q0 := 0) rfl rfl, kP_go hPc hKc hDc hFc hM hS⟩ rfl rfl hl.1 rfl (lv_room (Nat.le_of_ble_eq_true rfl)) dX15_push_1 ⟨Nat.le_of_ble_eq_true rfl, Nat.le_of_ble_eq_true rfl⟩) hS (fun q _ h => hFc q h) hFc (fun r1 u t H1 locs ht hvm hw hB hz1 hk1 hS => ?_)
  obtain ⟨hP, hD, hK⟩ := kJ (wr := [(br, .inl (cbr, 3, .inl (fun _ => 0)))]) (w1 := [(mo, .inr (19, [.int 0, .int 0, .int 0, .int 0, .int 0, .int 0, .int tu, .ref ti, .ref si, .ref lo, .ref lh, .ref lk, .ref sp, .ref st, .ref pa, .ref br, .ref sg, .int mi, .int 0, .int 0, .int 0, .int fo, .int 0, .long pe, .long pn, .long re, .long rn, .int th]))]) (t1 := []) hP hD hK [0] [1] rfl rfl (by decide) (by decide) hk1 hFc ht hvm hB
  generalize H1 = H at hP hS ⊢
  have hP : va_P (dC, dI) vwCl [(br, .inl (cbr, 3, .inl (fun _ => 0))), (mo, .inr (19, [.int 0, .int 0, .int 0, .int 0, .int 0, .int 0, .int tu, .ref ti, .ref si, .ref lo, .ref lh, .ref lk, .ref sp, .ref st, .ref pa, .ref br, .ref sg, .int mi, .int 0, .int 0, .int 0, .int fo, .int 0, .long pe, .long pn, .long re, .long rn, .int th]))] H := hP
  have hD : va_D A [(br, .inl (cbr, 3, .inl (fun _ => 0))), (mo, .inr (19, [.int 0, .int 0, .int 0, .int 0, .int 0, .int 0, .int tu, .ref ti, .ref si, .ref lo, .ref lh, .ref lk, .ref sp, .ref st, .ref pa, .ref br, .ref sg, .int mi, .int 0, .int 0, .int 0, .int fo, .int 0, .long pe, .long pn, .long re, .long rn, .int th]))] := hD
  have hK : va_K (dC, dI) vwCl [(cbr, .int)] s := hK
  obtain rfl : 0 = r1 := hw
  refine lv_istore_n (lv' := [(2, .int 0), (0, .ref mo), (1, .int 4)]) hx hb dX15_push_4 rfl hl (by decide) rfl (fun ls hl => ?_)
  refine lv_iload_n hx hb dX15_push_5 rfl (lv_at hl 2 rfl) ?_
  refine lv_bipush (v := 7) hx hb dX15_push_6 (by decide) ?_
  refine lv_icmp_lt (tgt := 29) hx hb dX15_push_8 (by decide) (fun _ => ?_) (fun c_ => absurd (by decide +kernel) c_)
  refine lv_iload_n hx hb dX15_push_29 rfl (lv_at hl 0 rfl) ?_
  refine lv_bipush (v := 6) hx hb dX15_push_30 (by decide) ?_
  refine lv_icmp_ge (tgt := 44) hx hb dX15_push_32 (by decide) (fun c_ => absurd c_ (by decide +kernel)) (fun _ => ?_)
  refine lv_iconst (v := 2) hx hb dX15_push_35 (by decide) ?_
  refine lv_iload_n hx hb dX15_push_36 rfl (lv_at hl 0 rfl) ?_
  refine lv_bipush (v := 6) hx hb dX15_push_37 (by decide) ?_
  refine lv_isub hx hb dX15_push_39 ?_
  refine kc_i (y := (-6)) (by decide +kernel) ?_
  refine lv_imul hx hb dX15_push_40 ?_
  refine kc_i (y := (-12)) (by decide +kernel) ?_
  refine lv_goto (tgt := 51) hx hb dX15_push_41 (by decide) ?_
  refine lv_istore_n (lv' := [(3, .int (-12)), (2, .int 0), (0, .ref mo), (1, .int 4)]) hx hb dX15_push_51 rfl hl (by decide) rfl (fun ls hl => ?_)
  refine lv_bipush (v := (-12)) hx hb dX15_push_52 (by decide) ?_
  refine lv_iload_n hx hb dX15_push_54 rfl (lv_at hl 0 rfl) ?_
  refine lv_iconst (v := 2) hx hb dX15_push_55 (by decide) ?_
  refine lv_aload_n hx hb dX15_push_56 rfl (lv_at hl 2 rfl) ?_
  refine va_get (D := (dC, dI)) (ci := 19) (v := .ref br) (C := RX15) (T := TX15) (N := 28) hx hb hts hiX15 hown hK hP 1 rfl rfl 15 (by decide) (hts (.fieldLink RX15 39 "SquareRigModel" "braced" "[I") (by decide +kernel)) (fun _ h9 => h9) rfl dX15_push_57 ?_
  refine lv_iload_n hx hb dX15_push_60 rfl (lv_at hl 3 rfl) ?_
  have hPc := hP.sub (ws' := []) [] rfl
  have hDc := hD.sub (ws' := []) [] (by decide) rfl
  have hKc := hK.sub (tys' := []) [] rfl
  have hFc := va_free (wc := []) hD hS hA [] rfl
  refine va_calli (va_runS (As := [.int 4]) (rest := [.ref br, .int 2, .int (-12), .int (-12)]) ⟨hx, hb, hml, hown, hts⟩ (k_mast_4 l dC dI z zK zV  H.size) (va_cwS 1 hts gX15_push_X15_mast rfl rfl rfl (by decide +kernel) ⟨Nat.le_of_ble_eq_true rfl, Nat.le_of_ble_eq_true rfl⟩) ⟨kP_blind, kP_go hPc hKc hDc hFc hM hS⟩ rfl rfl hl.1 rfl (lv_room (Nat.le_of_ble_eq_true rfl)) dX15_push_61 ⟨Nat.le_of_ble_eq_true rfl, Nat.le_of_ble_eq_true rfl⟩) hS (fun q _ h => hFc q h) hFc (fun r2 u t H1 locs ht hvm hw hB hz1 hk1 hS => ?_)
  obtain ⟨hP, hD, hK⟩ := kJ (wr := [(br, .inl (cbr, 3, .inl (fun _ => 0))), (mo, .inr (19, [.int 0, .int 0, .int 0, .int 0, .int 0, .int 0, .int tu, .ref ti, .ref si, .ref lo, .ref lh, .ref lk, .ref sp, .ref st, .ref pa, .ref br, .ref sg, .int mi, .int 0, .int 0, .int 0, .int fo, .int 0, .long pe, .long pn, .long re, .long rn, .int th]))]) (w1 := []) (t1 := []) hP hD hK [] [0, 1] rfl rfl (by decide) (by decide) hk1 hFc ht hvm hB
  generalize H1 = H at hP hS ⊢
  have hP : va_P (dC, dI) vwCl [(br, .inl (cbr, 3, .inl (fun _ => 0))), (mo, .inr (19, [.int 0, .int 0, .int 0, .int 0, .int 0, .int 0, .int tu, .ref ti, .ref si, .ref lo, .ref lh, .ref lk, .ref sp, .ref st, .ref pa, .ref br, .ref sg, .int mi, .int 0, .int 0, .int 0, .int fo, .int 0, .long pe, .long pn, .long re, .long rn, .int th]))] H := hP
  have hD : va_D A [(br, .inl (cbr, 3, .inl (fun _ => 0))), (mo, .inr (19, [.int 0, .int 0, .int 0, .int 0, .int 0, .int 0, .int tu, .ref ti, .ref si, .ref lo, .ref lh, .ref lk, .ref sp, .ref st, .ref pa, .ref br, .ref sg, .int mi, .int 0, .int 0, .int 0, .int fo, .int 0, .long pe, .long pn, .long re, .long rn, .int th]))] := hD
  have hK : va_K (dC, dI) vwCl [(cbr, .int)] s := hK
  obtain rfl : 1 = r2 := hw
  refine va_iald hx hb hK hP 0 0 rfl rfl (pk_in 1 3 (by decide) rfl) dX15_push_64 ?_
  refine kc_v (y := .int 0) rfl ?_
  refine lv_aload_n hx hb dX15_push_65 rfl (lv_at hl 2 rfl) ?_
  have hPc := hP.sub (ws' := [(mo, .inr (19, [.int 0, .int 0, .int 0, .int 0, .int 0, .int 0, .int tu, .ref ti, .ref si, .ref lo, .ref lh, .ref lk, .ref sp, .ref st, .ref pa, .ref br, .ref sg, .int mi, .int 0, .int 0, .int 0, .int fo, .int 0, .long pe, .long pn, .long re, .long rn, .int th]))]) [1] rfl
  have hDc := hD.sub (ws' := [(mo, .inr (19, [.int 0, .int 0, .int 0, .int 0, .int 0, .int 0, .int tu, .ref ti, .ref si, .ref lo, .ref lh, .ref lk, .ref sp, .ref st, .ref pa, .ref br, .ref sg, .int mi, .int 0, .int 0, .int 0, .int fo, .int 0, .long pe, .long pn, .long re, .long rn, .int th]))]) [1] (by decide) rfl
  have hKc := hK.sub (tys' := []) [] rfl
  have hFc := va_free (wc := [(mo, .inr (19, [.int 0, .int 0, .int 0, .int 0, .int 0, .int 0, .int tu, .ref ti, .ref si, .ref lo, .ref lh, .ref lk, .ref sp, .ref st, .ref pa, .ref br, .ref sg, .int mi, .int 0, .int 0, .int 0, .int fo, .int 0, .long pe, .long pn, .long re, .long rn, .int th]))]) hD hS hA [1] rfl
  refine va_calli (va_runV (As := []) (rest := [.int 0, .int 2, .int (-12), .int (-12)]) ⟨hx, hb, hml, hown, hts⟩ (k_bestNow l dC dI z zK zV mi fo pe pn re rn mo ti si lo lh lk sp st pa br sg th tu H.size) (cwV 0 hts gX15_push_X15_bestNow rfl rfl rfl (by decide +kernel) ⟨Nat.le_of_ble_eq_true rfl, Nat.le_of_ble_eq_true rfl⟩) ⟨kP_blind, va_recv hKc hPc (ci := 19) (q0 := 0) rfl rfl, kP_go hPc hKc hDc hFc hM hS⟩ rfl rfl hl.1 rfl (lv_room (Nat.le_of_ble_eq_true rfl)) dX15_push_66 ⟨Nat.le_of_ble_eq_true rfl, Nat.le_of_ble_eq_true rfl⟩) hS (fun q _ h => hFc q h) hFc (fun r3 u t H1 locs ht hvm hw hB hz1 hk1 hS => ?_)
  obtain ⟨hP, hD, hK⟩ := kJ (wr := [(br, .inl (cbr, 3, .inl (fun _ => 0)))]) (w1 := [(mo, .inr (19, [.int 0, .int 0, .int 0, .int 0, .int 0, .int 0, .int tu, .ref ti, .ref si, .ref lo, .ref lh, .ref lk, .ref sp, .ref st, .ref pa, .ref br, .ref sg, .int mi, .int 0, .int 0, .int 0, .int fo, .int 0, .long pe, .long pn, .long re, .long rn, .int th]))]) (t1 := []) hP hD hK [1] [0] rfl rfl (by decide) (by decide) hk1 hFc ht hvm hB
  generalize H1 = H at hP hS ⊢
  have hP : va_P (dC, dI) vwCl [(br, .inl (cbr, 3, .inl (fun _ => 0))), (mo, .inr (19, [.int 0, .int 0, .int 0, .int 0, .int 0, .int 0, .int tu, .ref ti, .ref si, .ref lo, .ref lh, .ref lk, .ref sp, .ref st, .ref pa, .ref br, .ref sg, .int mi, .int 0, .int 0, .int 0, .int fo, .int 0, .long pe, .long pn, .long re, .long rn, .int th]))] H := hP
  have hD : va_D A [(br, .inl (cbr, 3, .inl (fun _ => 0))), (mo, .inr (19, [.int 0, .int 0, .int 0, .int 0, .int 0, .int 0, .int tu, .ref ti, .ref si, .ref lo, .ref lh, .ref lk, .ref sp, .ref st, .ref pa, .ref br, .ref sg, .int mi, .int 0, .int 0, .int 0, .int fo, .int 0, .long pe, .long pn, .long re, .long rn, .int th]))] := hD
  have hK : va_K (dC, dI) vwCl [(cbr, .int)] s := hK
  obtain rfl : 4 = r3 := hw
  refine lv_isub hx hb dX15_push_69 ?_
  refine kc_i (y := (-4)) (by decide +kernel) ?_
  refine va_mabs hx hb (hml.trans hl.1.symm) hown (hts (.methodLink RX15 99 Lib.Math.abs.name) (by decide +kernel)) (hts (.static Lib.Math.abs.name) (by decide +kernel)) (hts (.initialized "java/lang/Math") (by decide +kernel)) (hts (.code Lib.Math.abs.name Lib.Math.abs.code 1 (some .int)) (by decide +kernel)) (Nat.le_of_ble_eq_true rfl) (Nat.le_of_ble_eq_true rfl) (Nat.le_of_ble_eq_true rfl) (Nat.le_of_ble_eq_true rfl) dX15_push_70 ?_
  refine kc_i (y := 4) (by decide +kernel) ?_
  refine lv_imul hx hb dX15_push_73 ?_
  refine kc_i (y := 8) (by decide +kernel) ?_
  refine lv_isub hx hb dX15_push_74 ?_
  refine kc_i (y := (-20)) (by decide +kernel) ?_
  refine va_mmax hx hb (hml.trans hl.1.symm) hown (hts (.methodLink RX15 102 Lib.Math.max.name) (by decide +kernel)) (hts (.static Lib.Math.max.name) (by decide +kernel)) (hts (.initialized "java/lang/Math") (by decide +kernel)) (hts (.code Lib.Math.max.name Lib.Math.max.code 2 (some .int)) (by decide +kernel)) (Nat.le_of_ble_eq_true rfl) (Nat.le_of_ble_eq_true rfl) (Nat.le_of_ble_eq_true rfl) (Nat.le_of_ble_eq_true rfl) dX15_push_75 ?_
  refine kc_i (y := (-12)) (by decide +kernel) ?_
  exact W.iret (v := (-12)) hx hb hr (fun t ht hW => ⟨⟨(-12), (), rfl, rfl, kB_end (w9 := [(br, .inl (cbr, 3, .inl (fun _ => 0))), (mo, .inr (19, [.int 0, .int 0, .int 0, .int 0, .int 0, .int 0, .int tu, .ref ti, .ref si, .ref lo, .ref lh, .ref lk, .ref sp, .ref st, .ref pa, .ref br, .ref sg, .int mi, .int 0, .int 0, .int 0, .int fo, .int 0, .long pe, .long pn, .long re, .long rn, .int th]))]) (t9 := []) hP hK hD [0, 1] [] rfl (by decide) rfl rfl t ht hW⟩, hS.F ht⟩) hS.2.2 dX15_push_78
abbrev wd_k_push_5 (z : Nat → Nat) (mi : Int32) (fo : Int32) (pe : Int64) (pn : Int64) (re : Int64) (rn : Int64) (mo : Nat) (ti : Nat) (si : Nat) (lo : Nat) (lh : Nat) (lk : Nat) (sp : Nat) (st : Nat) (pa : Nat) (br : Nat) (sg : Nat) (cbr : ClassId) (th : Int32) (tu : Int32) : va_W := [(mo, .inr (19, [.int 0, .int 0, .int 0, .int 0, .int 0, .int 0, .int tu, .ref ti, .ref si, .ref lo, .ref lh, .ref lk, .ref sp, .ref st, .ref pa, .ref br, .ref sg, .int mi, .int 0, .int 0, .int 0, .int fo, .int 0, .long pe, .long pn, .long re, .long rn, .int th])), (br, .inl (cbr, 3, .inl (fun _ => 0)))]
set_option maxHeartbeats 4000000 in
set_option maxRecDepth 100000 in
theorem k_push_5 (l : Launch) (dC : Nat → ClassId) (dI : Nat → Nat → Nat) (z zK zV : Nat → Nat) (mi : Int32) (fo : Int32) (pe : Int64) (pn : Int64) (re : Int64) (rn : Int64) (mo : Nat) (ti : Nat) (si : Nat) (lo : Nat) (lh : Nat) (lk : Nat) (sp : Nat) (st : Nat) (pa : Nat) (br : Nat) (sg : Nat) (cbr : ClassId) (th : Int32) (tu : Int32) (sz : Nat)  : Met l yX15_push wsX15_push ({ frames := 6, cells := 0, slots := 0, locals := 127 }) (kP dC dI z zK zV [.ref mo, .int 5] sz (wd_k_push_5 z mi fo pe pn re rn mo ti si lo lh lk sp st pa br sg cbr th tu) [(cbr, .int)]) (va_Qi (fun (r : Int32) (_ : Unit) => (-12) = r) (fun _ t => kB (dC, dI) (va_A (wd_k_push_5 z mi fo pe pn re rn mo ti si lo lh lk sp st pa br sg cbr th tu) sz) [(br, .inl (cbr, 3, .inl (fun _ => 0))), (mo, .inr (19, [.int 0, .int 0, .int 0, .int 0, .int 0, .int 0, .int tu, .ref ti, .ref si, .ref lo, .ref lh, .ref lk, .ref sp, .ref st, .ref pa, .ref br, .ref sg, .int mi, .int 0, .int 0, .int 0, .int fo, .int 0, .long pe, .long pn, .long re, .long rn, .int th]))] [] t) (va_A (wd_k_push_5 z mi fo pe pn re rn mo ti si lo lh lk sp st pa br sg cbr th tu) sz)) 0 0 (va_A (wd_k_push_5 z mi fo pe pn re rn mo ti si lo lh lk sp st pa br sg cbr th tu) sz) := by
  refine Met.ofW (cc := cX15_push) (maxL := 4) (ret := (some .int)) (by decide) rfl ?_
  intro p e s m args below meth c s₁ B hml hv
  obtain ⟨rfl, hsz, hP, hK, hD0, hM⟩ := hv
  have hx := B.exec
  have hb := B.bytes
  have hr := B.returns
  have hts := atoms_spec (ws := wsX15_push) B.pre
  have hown : s.vm.findClass RX15 = some m.cls := findClass_of_methodNamed B.named
  have hlocks := B.notSynchronized
  have hiX15 : ∀ w ∈ u_ws RX15 TX15 28, w ∈ wsX15_push := by decide +kernel
  subst hsz
  have hD := hD0.self (sz := s.heap.size)
  generalize hAe : va_A (wd_k_push_5 z mi fo pe pn re rn mo ti si lo lh lk sp st pa br sg cbr th tu) s.heap.size = A at hD hM ⊢
  have hA : ∀ q : Nat, s.heap.size ≤ q → A q := fun q h => by rw [← hAe]; exact Or.inr h
  have hS : va_S A s.heap s.heap [] := va_S.rf
  have hP : va_P (dC, dI) vwCl [(mo, .inr (19, [.int 0, .int 0, .int 0, .int 0, .int 0, .int 0, .int tu, .ref ti, .ref si, .ref lo, .ref lh, .ref lk, .ref sp, .ref st, .ref pa, .ref br, .ref sg, .int mi, .int 0, .int 0, .int 0, .int fo, .int 0, .long pe, .long pn, .long re, .long rn, .int th])), (br, .inl (cbr, 3, .inl (fun _ => 0)))] s.heap := hP
  have hD : va_D A [(mo, .inr (19, [.int 0, .int 0, .int 0, .int 0, .int 0, .int 0, .int tu, .ref ti, .ref si, .ref lo, .ref lh, .ref lk, .ref sp, .ref st, .ref pa, .ref br, .ref sg, .int mi, .int 0, .int 0, .int 0, .int fo, .int 0, .long pe, .long pn, .long re, .long rn, .int th])), (br, .inl (cbr, 3, .inl (fun _ => 0)))] := hD
  have hl := lv_entry ([.ref mo, .int 5]) (n := 4) (Nat.le_of_ble_eq_true rfl)
  rw [lg_entry_eq]
  generalize (lg_sl ([.ref mo, .int 5]) ++ List.replicate (4 - (lg_sl ([.ref mo, .int 5])).length) Slot.unset).toArray = ls at hl ⊢
  have hl : lv_has ls 4 [(0, .ref mo), (1, .int 5)] := hl
  refine lv_aload_n hx hb dX15_push_0 rfl (lv_at hl 0 rfl) ?_
  have hPc := hP.sub (ws' := [(mo, .inr (19, [.int 0, .int 0, .int 0, .int 0, .int 0, .int 0, .int tu, .ref ti, .ref si, .ref lo, .ref lh, .ref lk, .ref sp, .ref st, .ref pa, .ref br, .ref sg, .int mi, .int 0, .int 0, .int 0, .int fo, .int 0, .long pe, .long pn, .long re, .long rn, .int th]))]) [0] rfl
  have hDc := hD.sub (ws' := [(mo, .inr (19, [.int 0, .int 0, .int 0, .int 0, .int 0, .int 0, .int tu, .ref ti, .ref si, .ref lo, .ref lh, .ref lk, .ref sp, .ref st, .ref pa, .ref br, .ref sg, .int mi, .int 0, .int 0, .int 0, .int fo, .int 0, .long pe, .long pn, .long re, .long rn, .int th]))]) [0] (by decide) rfl
  have hKc := hK.sub (tys' := []) [] rfl
  have hFc := va_free (wc := [(mo, .inr (19, [.int 0, .int 0, .int 0, .int 0, .int 0, .int 0, .int tu, .ref ti, .ref si, .ref lo, .ref lh, .ref lk, .ref sp, .ref st, .ref pa, .ref br, .ref sg, .int mi, .int 0, .int 0, .int 0, .int fo, .int 0, .long pe, .long pn, .long re, .long rn, .int th]))]) hD hS hA [0] rfl
  refine va_calli (va_runV (As := []) (rest := []) ⟨hx, hb, hml, hown, hts⟩ (k_points l dC dI z zK zV mi fo pe pn re rn mo ti si lo lh lk sp st pa br sg th tu s.heap.size) (cwV 0 hts gX15_push_X15_points rfl rfl rfl (by decide +kernel) ⟨Nat.le_of_ble_eq_true rfl, Nat.le_of_ble_eq_true rfl⟩) ⟨kP_blind, va_recv hKc hPc (ci := 19) (q0 := 0) rfl rfl, kP_go hPc hKc hDc hFc hM hS⟩ rfl rfl hl.1 rfl (lv_room (Nat.le_of_ble_eq_true rfl)) dX15_push_1 ⟨Nat.le_of_ble_eq_true rfl, Nat.le_of_ble_eq_true rfl⟩) hS (fun q _ h => hFc q h) hFc (fun r1 u t H1 locs ht hvm hw hB hz1 hk1 hS => ?_)
  obtain ⟨hP, hD, hK⟩ := kJ (wr := [(br, .inl (cbr, 3, .inl (fun _ => 0)))]) (w1 := [(mo, .inr (19, [.int 0, .int 0, .int 0, .int 0, .int 0, .int 0, .int tu, .ref ti, .ref si, .ref lo, .ref lh, .ref lk, .ref sp, .ref st, .ref pa, .ref br, .ref sg, .int mi, .int 0, .int 0, .int 0, .int fo, .int 0, .long pe, .long pn, .long re, .long rn, .int th]))]) (t1 := []) hP hD hK [0] [1] rfl rfl (by decide) (by decide) hk1 hFc ht hvm hB
  generalize H1 = H at hP hS ⊢
  have hP : va_P (dC, dI) vwCl [(br, .inl (cbr, 3, .inl (fun _ => 0))), (mo, .inr (19, [.int 0, .int 0, .int 0, .int 0, .int 0, .int 0, .int tu, .ref ti, .ref si, .ref lo, .ref lh, .ref lk, .ref sp, .ref st, .ref pa, .ref br, .ref sg, .int mi, .int 0, .int 0, .int 0, .int fo, .int 0, .long pe, .long pn, .long re, .long rn, .int th]))] H := hP
  have hD : va_D A [(br, .inl (cbr, 3, .inl (fun _ => 0))), (mo, .inr (19, [.int 0, .int 0, .int 0, .int 0, .int 0, .int 0, .int tu, .ref ti, .ref si, .ref lo, .ref lh, .ref lk, .ref sp, .ref st, .ref pa, .ref br, .ref sg, .int mi, .int 0, .int 0, .int 0, .int fo, .int 0, .long pe, .long pn, .long re, .long rn, .int th]))] := hD
  have hK : va_K (dC, dI) vwCl [(cbr, .int)] s := hK
  obtain rfl : 0 = r1 := hw
  refine lv_istore_n (lv' := [(2, .int 0), (0, .ref mo), (1, .int 5)]) hx hb dX15_push_4 rfl hl (by decide) rfl (fun ls hl => ?_)
  refine lv_iload_n hx hb dX15_push_5 rfl (lv_at hl 2 rfl) ?_
  refine lv_bipush (v := 7) hx hb dX15_push_6 (by decide) ?_
  refine lv_icmp_lt (tgt := 29) hx hb dX15_push_8 (by decide) (fun _ => ?_) (fun c_ => absurd (by decide +kernel) c_)
  refine lv_iload_n hx hb dX15_push_29 rfl (lv_at hl 0 rfl) ?_
  refine lv_bipush (v := 6) hx hb dX15_push_30 (by decide) ?_
  refine lv_icmp_ge (tgt := 44) hx hb dX15_push_32 (by decide) (fun c_ => absurd c_ (by decide +kernel)) (fun _ => ?_)
  refine lv_iconst (v := 2) hx hb dX15_push_35 (by decide) ?_
  refine lv_iload_n hx hb dX15_push_36 rfl (lv_at hl 0 rfl) ?_
  refine lv_bipush (v := 6) hx hb dX15_push_37 (by decide) ?_
  refine lv_isub hx hb dX15_push_39 ?_
  refine kc_i (y := (-6)) (by decide +kernel) ?_
  refine lv_imul hx hb dX15_push_40 ?_
  refine kc_i (y := (-12)) (by decide +kernel) ?_
  refine lv_goto (tgt := 51) hx hb dX15_push_41 (by decide) ?_
  refine lv_istore_n (lv' := [(3, .int (-12)), (2, .int 0), (0, .ref mo), (1, .int 5)]) hx hb dX15_push_51 rfl hl (by decide) rfl (fun ls hl => ?_)
  refine lv_bipush (v := (-12)) hx hb dX15_push_52 (by decide) ?_
  refine lv_iload_n hx hb dX15_push_54 rfl (lv_at hl 0 rfl) ?_
  refine lv_iconst (v := 2) hx hb dX15_push_55 (by decide) ?_
  refine lv_aload_n hx hb dX15_push_56 rfl (lv_at hl 2 rfl) ?_
  refine va_get (D := (dC, dI)) (ci := 19) (v := .ref br) (C := RX15) (T := TX15) (N := 28) hx hb hts hiX15 hown hK hP 1 rfl rfl 15 (by decide) (hts (.fieldLink RX15 39 "SquareRigModel" "braced" "[I") (by decide +kernel)) (fun _ h9 => h9) rfl dX15_push_57 ?_
  refine lv_iload_n hx hb dX15_push_60 rfl (lv_at hl 3 rfl) ?_
  have hPc := hP.sub (ws' := []) [] rfl
  have hDc := hD.sub (ws' := []) [] (by decide) rfl
  have hKc := hK.sub (tys' := []) [] rfl
  have hFc := va_free (wc := []) hD hS hA [] rfl
  refine va_calli (va_runS (As := [.int 5]) (rest := [.ref br, .int 2, .int (-12), .int (-12)]) ⟨hx, hb, hml, hown, hts⟩ (k_mast_5 l dC dI z zK zV  H.size) (va_cwS 1 hts gX15_push_X15_mast rfl rfl rfl (by decide +kernel) ⟨Nat.le_of_ble_eq_true rfl, Nat.le_of_ble_eq_true rfl⟩) ⟨kP_blind, kP_go hPc hKc hDc hFc hM hS⟩ rfl rfl hl.1 rfl (lv_room (Nat.le_of_ble_eq_true rfl)) dX15_push_61 ⟨Nat.le_of_ble_eq_true rfl, Nat.le_of_ble_eq_true rfl⟩) hS (fun q _ h => hFc q h) hFc (fun r2 u t H1 locs ht hvm hw hB hz1 hk1 hS => ?_)
  obtain ⟨hP, hD, hK⟩ := kJ (wr := [(br, .inl (cbr, 3, .inl (fun _ => 0))), (mo, .inr (19, [.int 0, .int 0, .int 0, .int 0, .int 0, .int 0, .int tu, .ref ti, .ref si, .ref lo, .ref lh, .ref lk, .ref sp, .ref st, .ref pa, .ref br, .ref sg, .int mi, .int 0, .int 0, .int 0, .int fo, .int 0, .long pe, .long pn, .long re, .long rn, .int th]))]) (w1 := []) (t1 := []) hP hD hK [] [0, 1] rfl rfl (by decide) (by decide) hk1 hFc ht hvm hB
  generalize H1 = H at hP hS ⊢
  have hP : va_P (dC, dI) vwCl [(br, .inl (cbr, 3, .inl (fun _ => 0))), (mo, .inr (19, [.int 0, .int 0, .int 0, .int 0, .int 0, .int 0, .int tu, .ref ti, .ref si, .ref lo, .ref lh, .ref lk, .ref sp, .ref st, .ref pa, .ref br, .ref sg, .int mi, .int 0, .int 0, .int 0, .int fo, .int 0, .long pe, .long pn, .long re, .long rn, .int th]))] H := hP
  have hD : va_D A [(br, .inl (cbr, 3, .inl (fun _ => 0))), (mo, .inr (19, [.int 0, .int 0, .int 0, .int 0, .int 0, .int 0, .int tu, .ref ti, .ref si, .ref lo, .ref lh, .ref lk, .ref sp, .ref st, .ref pa, .ref br, .ref sg, .int mi, .int 0, .int 0, .int 0, .int fo, .int 0, .long pe, .long pn, .long re, .long rn, .int th]))] := hD
  have hK : va_K (dC, dI) vwCl [(cbr, .int)] s := hK
  obtain rfl : 1 = r2 := hw
  refine va_iald hx hb hK hP 0 0 rfl rfl (pk_in 1 3 (by decide) rfl) dX15_push_64 ?_
  refine kc_v (y := .int 0) rfl ?_
  refine lv_aload_n hx hb dX15_push_65 rfl (lv_at hl 2 rfl) ?_
  have hPc := hP.sub (ws' := [(mo, .inr (19, [.int 0, .int 0, .int 0, .int 0, .int 0, .int 0, .int tu, .ref ti, .ref si, .ref lo, .ref lh, .ref lk, .ref sp, .ref st, .ref pa, .ref br, .ref sg, .int mi, .int 0, .int 0, .int 0, .int fo, .int 0, .long pe, .long pn, .long re, .long rn, .int th]))]) [1] rfl
  have hDc := hD.sub (ws' := [(mo, .inr (19, [.int 0, .int 0, .int 0, .int 0, .int 0, .int 0, .int tu, .ref ti, .ref si, .ref lo, .ref lh, .ref lk, .ref sp, .ref st, .ref pa, .ref br, .ref sg, .int mi, .int 0, .int 0, .int 0, .int fo, .int 0, .long pe, .long pn, .long re, .long rn, .int th]))]) [1] (by decide) rfl
  have hKc := hK.sub (tys' := []) [] rfl
  have hFc := va_free (wc := [(mo, .inr (19, [.int 0, .int 0, .int 0, .int 0, .int 0, .int 0, .int tu, .ref ti, .ref si, .ref lo, .ref lh, .ref lk, .ref sp, .ref st, .ref pa, .ref br, .ref sg, .int mi, .int 0, .int 0, .int 0, .int fo, .int 0, .long pe, .long pn, .long re, .long rn, .int th]))]) hD hS hA [1] rfl
  refine va_calli (va_runV (As := []) (rest := [.int 0, .int 2, .int (-12), .int (-12)]) ⟨hx, hb, hml, hown, hts⟩ (k_bestNow l dC dI z zK zV mi fo pe pn re rn mo ti si lo lh lk sp st pa br sg th tu H.size) (cwV 0 hts gX15_push_X15_bestNow rfl rfl rfl (by decide +kernel) ⟨Nat.le_of_ble_eq_true rfl, Nat.le_of_ble_eq_true rfl⟩) ⟨kP_blind, va_recv hKc hPc (ci := 19) (q0 := 0) rfl rfl, kP_go hPc hKc hDc hFc hM hS⟩ rfl rfl hl.1 rfl (lv_room (Nat.le_of_ble_eq_true rfl)) dX15_push_66 ⟨Nat.le_of_ble_eq_true rfl, Nat.le_of_ble_eq_true rfl⟩) hS (fun q _ h => hFc q h) hFc (fun r3 u t H1 locs ht hvm hw hB hz1 hk1 hS => ?_)
  obtain ⟨hP, hD, hK⟩ := kJ (wr := [(br, .inl (cbr, 3, .inl (fun _ => 0)))]) (w1 := [(mo, .inr (19, [.int 0, .int 0, .int 0, .int 0, .int 0, .int 0, .int tu, .ref ti, .ref si, .ref lo, .ref lh, .ref lk, .ref sp, .ref st, .ref pa, .ref br, .ref sg, .int mi, .int 0, .int 0, .int 0, .int fo, .int 0, .long pe, .long pn, .long re, .long rn, .int th]))]) (t1 := []) hP hD hK [1] [0] rfl rfl (by decide) (by decide) hk1 hFc ht hvm hB
  generalize H1 = H at hP hS ⊢
  have hP : va_P (dC, dI) vwCl [(br, .inl (cbr, 3, .inl (fun _ => 0))), (mo, .inr (19, [.int 0, .int 0, .int 0, .int 0, .int 0, .int 0, .int tu, .ref ti, .ref si, .ref lo, .ref lh, .ref lk, .ref sp, .ref st, .ref pa, .ref br, .ref sg, .int mi, .int 0, .int 0, .int 0, .int fo, .int 0, .long pe, .long pn, .long re, .long rn, .int th]))] H := hP
  have hD : va_D A [(br, .inl (cbr, 3, .inl (fun _ => 0))), (mo, .inr (19, [.int 0, .int 0, .int 0, .int 0, .int 0, .int 0, .int tu, .ref ti, .ref si, .ref lo, .ref lh, .ref lk, .ref sp, .ref st, .ref pa, .ref br, .ref sg, .int mi, .int 0, .int 0, .int 0, .int fo, .int 0, .long pe, .long pn, .long re, .long rn, .int th]))] := hD
  have hK : va_K (dC, dI) vwCl [(cbr, .int)] s := hK
  obtain rfl : 4 = r3 := hw
  refine lv_isub hx hb dX15_push_69 ?_
  refine kc_i (y := (-4)) (by decide +kernel) ?_
  refine va_mabs hx hb (hml.trans hl.1.symm) hown (hts (.methodLink RX15 99 Lib.Math.abs.name) (by decide +kernel)) (hts (.static Lib.Math.abs.name) (by decide +kernel)) (hts (.initialized "java/lang/Math") (by decide +kernel)) (hts (.code Lib.Math.abs.name Lib.Math.abs.code 1 (some .int)) (by decide +kernel)) (Nat.le_of_ble_eq_true rfl) (Nat.le_of_ble_eq_true rfl) (Nat.le_of_ble_eq_true rfl) (Nat.le_of_ble_eq_true rfl) dX15_push_70 ?_
  refine kc_i (y := 4) (by decide +kernel) ?_
  refine lv_imul hx hb dX15_push_73 ?_
  refine kc_i (y := 8) (by decide +kernel) ?_
  refine lv_isub hx hb dX15_push_74 ?_
  refine kc_i (y := (-20)) (by decide +kernel) ?_
  refine va_mmax hx hb (hml.trans hl.1.symm) hown (hts (.methodLink RX15 102 Lib.Math.max.name) (by decide +kernel)) (hts (.static Lib.Math.max.name) (by decide +kernel)) (hts (.initialized "java/lang/Math") (by decide +kernel)) (hts (.code Lib.Math.max.name Lib.Math.max.code 2 (some .int)) (by decide +kernel)) (Nat.le_of_ble_eq_true rfl) (Nat.le_of_ble_eq_true rfl) (Nat.le_of_ble_eq_true rfl) (Nat.le_of_ble_eq_true rfl) dX15_push_75 ?_
  refine kc_i (y := (-12)) (by decide +kernel) ?_
  exact W.iret (v := (-12)) hx hb hr (fun t ht hW => ⟨⟨(-12), (), rfl, rfl, kB_end (w9 := [(br, .inl (cbr, 3, .inl (fun _ => 0))), (mo, .inr (19, [.int 0, .int 0, .int 0, .int 0, .int 0, .int 0, .int tu, .ref ti, .ref si, .ref lo, .ref lh, .ref lk, .ref sp, .ref st, .ref pa, .ref br, .ref sg, .int mi, .int 0, .int 0, .int 0, .int fo, .int 0, .long pe, .long pn, .long re, .long rn, .int th]))]) (t9 := []) hP hK hD [0, 1] [] rfl (by decide) rfl rfl t ht hW⟩, hS.F ht⟩) hS.2.2 dX15_push_78
abbrev wd_k_push_6 (z : Nat → Nat) (mi : Int32) (fo : Int32) (pe : Int64) (pn : Int64) (re : Int64) (rn : Int64) (mo : Nat) (ti : Nat) (si : Nat) (lo : Nat) (lh : Nat) (lk : Nat) (sp : Nat) (st : Nat) (pa : Nat) (br : Nat) (sg : Nat) (cbr : ClassId) (th : Int32) (tu : Int32) : va_W := [(mo, .inr (19, [.int 0, .int 0, .int 0, .int 0, .int 0, .int 0, .int tu, .ref ti, .ref si, .ref lo, .ref lh, .ref lk, .ref sp, .ref st, .ref pa, .ref br, .ref sg, .int mi, .int 0, .int 0, .int 0, .int fo, .int 0, .long pe, .long pn, .long re, .long rn, .int th])), (br, .inl (cbr, 3, .inl (fun _ => 0)))]
set_option maxHeartbeats 4000000 in
set_option maxRecDepth 100000 in
theorem k_push_6 (l : Launch) (dC : Nat → ClassId) (dI : Nat → Nat → Nat) (z zK zV : Nat → Nat) (mi : Int32) (fo : Int32) (pe : Int64) (pn : Int64) (re : Int64) (rn : Int64) (mo : Nat) (ti : Nat) (si : Nat) (lo : Nat) (lh : Nat) (lk : Nat) (sp : Nat) (st : Nat) (pa : Nat) (br : Nat) (sg : Nat) (cbr : ClassId) (th : Int32) (tu : Int32) (sz : Nat)  : Met l yX15_push wsX15_push ({ frames := 6, cells := 0, slots := 0, locals := 127 }) (kP dC dI z zK zV [.ref mo, .int 6] sz (wd_k_push_6 z mi fo pe pn re rn mo ti si lo lh lk sp st pa br sg cbr th tu) [(cbr, .int)]) (va_Qi (fun (r : Int32) (_ : Unit) => (-12) = r) (fun _ t => kB (dC, dI) (va_A (wd_k_push_6 z mi fo pe pn re rn mo ti si lo lh lk sp st pa br sg cbr th tu) sz) [(br, .inl (cbr, 3, .inl (fun _ => 0))), (mo, .inr (19, [.int 0, .int 0, .int 0, .int 0, .int 0, .int 0, .int tu, .ref ti, .ref si, .ref lo, .ref lh, .ref lk, .ref sp, .ref st, .ref pa, .ref br, .ref sg, .int mi, .int 0, .int 0, .int 0, .int fo, .int 0, .long pe, .long pn, .long re, .long rn, .int th]))] [] t) (va_A (wd_k_push_6 z mi fo pe pn re rn mo ti si lo lh lk sp st pa br sg cbr th tu) sz)) 0 0 (va_A (wd_k_push_6 z mi fo pe pn re rn mo ti si lo lh lk sp st pa br sg cbr th tu) sz) := by
  refine Met.ofW (cc := cX15_push) (maxL := 4) (ret := (some .int)) (by decide) rfl ?_
  intro p e s m args below meth c s₁ B hml hv
  obtain ⟨rfl, hsz, hP, hK, hD0, hM⟩ := hv
  have hx := B.exec
  have hb := B.bytes
  have hr := B.returns
  have hts := atoms_spec (ws := wsX15_push) B.pre
  have hown : s.vm.findClass RX15 = some m.cls := findClass_of_methodNamed B.named
  have hlocks := B.notSynchronized
  have hiX15 : ∀ w ∈ u_ws RX15 TX15 28, w ∈ wsX15_push := by decide +kernel
  subst hsz
  have hD := hD0.self (sz := s.heap.size)
  generalize hAe : va_A (wd_k_push_6 z mi fo pe pn re rn mo ti si lo lh lk sp st pa br sg cbr th tu) s.heap.size = A at hD hM ⊢
  have hA : ∀ q : Nat, s.heap.size ≤ q → A q := fun q h => by rw [← hAe]; exact Or.inr h
  have hS : va_S A s.heap s.heap [] := va_S.rf
  have hP : va_P (dC, dI) vwCl [(mo, .inr (19, [.int 0, .int 0, .int 0, .int 0, .int 0, .int 0, .int tu, .ref ti, .ref si, .ref lo, .ref lh, .ref lk, .ref sp, .ref st, .ref pa, .ref br, .ref sg, .int mi, .int 0, .int 0, .int 0, .int fo, .int 0, .long pe, .long pn, .long re, .long rn, .int th])), (br, .inl (cbr, 3, .inl (fun _ => 0)))] s.heap := hP
  have hD : va_D A [(mo, .inr (19, [.int 0, .int 0, .int 0, .int 0, .int 0, .int 0, .int tu, .ref ti, .ref si, .ref lo, .ref lh, .ref lk, .ref sp, .ref st, .ref pa, .ref br, .ref sg, .int mi, .int 0, .int 0, .int 0, .int fo, .int 0, .long pe, .long pn, .long re, .long rn, .int th])), (br, .inl (cbr, 3, .inl (fun _ => 0)))] := hD
  have hl := lv_entry ([.ref mo, .int 6]) (n := 4) (Nat.le_of_ble_eq_true rfl)
  rw [lg_entry_eq]
  generalize (lg_sl ([.ref mo, .int 6]) ++ List.replicate (4 - (lg_sl ([.ref mo, .int 6])).length) Slot.unset).toArray = ls at hl ⊢
  have hl : lv_has ls 4 [(0, .ref mo), (1, .int 6)] := hl
  refine lv_aload_n hx hb dX15_push_0 rfl (lv_at hl 0 rfl) ?_
  have hPc := hP.sub (ws' := [(mo, .inr (19, [.int 0, .int 0, .int 0, .int 0, .int 0, .int 0, .int tu, .ref ti, .ref si, .ref lo, .ref lh, .ref lk, .ref sp, .ref st, .ref pa, .ref br, .ref sg, .int mi, .int 0, .int 0, .int 0, .int fo, .int 0, .long pe, .long pn, .long re, .long rn, .int th]))]) [0] rfl
  have hDc := hD.sub (ws' := [(mo, .inr (19, [.int 0, .int 0, .int 0, .int 0, .int 0, .int 0, .int tu, .ref ti, .ref si, .ref lo, .ref lh, .ref lk, .ref sp, .ref st, .ref pa, .ref br, .ref sg, .int mi, .int 0, .int 0, .int 0, .int fo, .int 0, .long pe, .long pn, .long re, .long rn, .int th]))]) [0] (by decide) rfl
  have hKc := hK.sub (tys' := []) [] rfl
  have hFc := va_free (wc := [(mo, .inr (19, [.int 0, .int 0, .int 0, .int 0, .int 0, .int 0, .int tu, .ref ti, .ref si, .ref lo, .ref lh, .ref lk, .ref sp, .ref st, .ref pa, .ref br, .ref sg, .int mi, .int 0, .int 0, .int 0, .int fo, .int 0, .long pe, .long pn, .long re, .long rn, .int th]))]) hD hS hA [0] rfl
  refine va_calli (va_runV (As := []) (rest := []) ⟨hx, hb, hml, hown, hts⟩ (k_points l dC dI z zK zV mi fo pe pn re rn mo ti si lo lh lk sp st pa br sg th tu s.heap.size) (cwV 0 hts gX15_push_X15_points rfl rfl rfl (by decide +kernel) ⟨Nat.le_of_ble_eq_true rfl, Nat.le_of_ble_eq_true rfl⟩) ⟨kP_blind, va_recv hKc hPc (ci := 19) (q0 := 0) rfl rfl, kP_go hPc hKc hDc hFc hM hS⟩ rfl rfl hl.1 rfl (lv_room (Nat.le_of_ble_eq_true rfl)) dX15_push_1 ⟨Nat.le_of_ble_eq_true rfl, Nat.le_of_ble_eq_true rfl⟩) hS (fun q _ h => hFc q h) hFc (fun r1 u t H1 locs ht hvm hw hB hz1 hk1 hS => ?_)
  obtain ⟨hP, hD, hK⟩ := kJ (wr := [(br, .inl (cbr, 3, .inl (fun _ => 0)))]) (w1 := [(mo, .inr (19, [.int 0, .int 0, .int 0, .int 0, .int 0, .int 0, .int tu, .ref ti, .ref si, .ref lo, .ref lh, .ref lk, .ref sp, .ref st, .ref pa, .ref br, .ref sg, .int mi, .int 0, .int 0, .int 0, .int fo, .int 0, .long pe, .long pn, .long re, .long rn, .int th]))]) (t1 := []) hP hD hK [0] [1] rfl rfl (by decide) (by decide) hk1 hFc ht hvm hB
  generalize H1 = H at hP hS ⊢
  have hP : va_P (dC, dI) vwCl [(br, .inl (cbr, 3, .inl (fun _ => 0))), (mo, .inr (19, [.int 0, .int 0, .int 0, .int 0, .int 0, .int 0, .int tu, .ref ti, .ref si, .ref lo, .ref lh, .ref lk, .ref sp, .ref st, .ref pa, .ref br, .ref sg, .int mi, .int 0, .int 0, .int 0, .int fo, .int 0, .long pe, .long pn, .long re, .long rn, .int th]))] H := hP
  have hD : va_D A [(br, .inl (cbr, 3, .inl (fun _ => 0))), (mo, .inr (19, [.int 0, .int 0, .int 0, .int 0, .int 0, .int 0, .int tu, .ref ti, .ref si, .ref lo, .ref lh, .ref lk, .ref sp, .ref st, .ref pa, .ref br, .ref sg, .int mi, .int 0, .int 0, .int 0, .int fo, .int 0, .long pe, .long pn, .long re, .long rn, .int th]))] := hD
  have hK : va_K (dC, dI) vwCl [(cbr, .int)] s := hK
  obtain rfl : 0 = r1 := hw
  refine lv_istore_n (lv' := [(2, .int 0), (0, .ref mo), (1, .int 6)]) hx hb dX15_push_4 rfl hl (by decide) rfl (fun ls hl => ?_)
  refine lv_iload_n hx hb dX15_push_5 rfl (lv_at hl 2 rfl) ?_
  refine lv_bipush (v := 7) hx hb dX15_push_6 (by decide) ?_
  refine lv_icmp_lt (tgt := 29) hx hb dX15_push_8 (by decide) (fun _ => ?_) (fun c_ => absurd (by decide +kernel) c_)
  refine lv_iload_n hx hb dX15_push_29 rfl (lv_at hl 0 rfl) ?_
  refine lv_bipush (v := 6) hx hb dX15_push_30 (by decide) ?_
  refine lv_icmp_ge (tgt := 44) hx hb dX15_push_32 (by decide) (fun c_ => absurd c_ (by decide +kernel)) (fun _ => ?_)
  refine lv_iconst (v := 2) hx hb dX15_push_35 (by decide) ?_
  refine lv_iload_n hx hb dX15_push_36 rfl (lv_at hl 0 rfl) ?_
  refine lv_bipush (v := 6) hx hb dX15_push_37 (by decide) ?_
  refine lv_isub hx hb dX15_push_39 ?_
  refine kc_i (y := (-6)) (by decide +kernel) ?_
  refine lv_imul hx hb dX15_push_40 ?_
  refine kc_i (y := (-12)) (by decide +kernel) ?_
  refine lv_goto (tgt := 51) hx hb dX15_push_41 (by decide) ?_
  refine lv_istore_n (lv' := [(3, .int (-12)), (2, .int 0), (0, .ref mo), (1, .int 6)]) hx hb dX15_push_51 rfl hl (by decide) rfl (fun ls hl => ?_)
  refine lv_bipush (v := (-12)) hx hb dX15_push_52 (by decide) ?_
  refine lv_iload_n hx hb dX15_push_54 rfl (lv_at hl 0 rfl) ?_
  refine lv_iconst (v := 2) hx hb dX15_push_55 (by decide) ?_
  refine lv_aload_n hx hb dX15_push_56 rfl (lv_at hl 2 rfl) ?_
  refine va_get (D := (dC, dI)) (ci := 19) (v := .ref br) (C := RX15) (T := TX15) (N := 28) hx hb hts hiX15 hown hK hP 1 rfl rfl 15 (by decide) (hts (.fieldLink RX15 39 "SquareRigModel" "braced" "[I") (by decide +kernel)) (fun _ h9 => h9) rfl dX15_push_57 ?_
  refine lv_iload_n hx hb dX15_push_60 rfl (lv_at hl 3 rfl) ?_
  have hPc := hP.sub (ws' := []) [] rfl
  have hDc := hD.sub (ws' := []) [] (by decide) rfl
  have hKc := hK.sub (tys' := []) [] rfl
  have hFc := va_free (wc := []) hD hS hA [] rfl
  refine va_calli (va_runS (As := [.int 6]) (rest := [.ref br, .int 2, .int (-12), .int (-12)]) ⟨hx, hb, hml, hown, hts⟩ (k_mast_6 l dC dI z zK zV  H.size) (va_cwS 1 hts gX15_push_X15_mast rfl rfl rfl (by decide +kernel) ⟨Nat.le_of_ble_eq_true rfl, Nat.le_of_ble_eq_true rfl⟩) ⟨kP_blind, kP_go hPc hKc hDc hFc hM hS⟩ rfl rfl hl.1 rfl (lv_room (Nat.le_of_ble_eq_true rfl)) dX15_push_61 ⟨Nat.le_of_ble_eq_true rfl, Nat.le_of_ble_eq_true rfl⟩) hS (fun q _ h => hFc q h) hFc (fun r2 u t H1 locs ht hvm hw hB hz1 hk1 hS => ?_)
  obtain ⟨hP, hD, hK⟩ := kJ (wr := [(br, .inl (cbr, 3, .inl (fun _ => 0))), (mo, .inr (19, [.int 0, .int 0, .int 0, .int 0, .int 0, .int 0, .int tu, .ref ti, .ref si, .ref lo, .ref lh, .ref lk, .ref sp, .ref st, .ref pa, .ref br, .ref sg, .int mi, .int 0, .int 0, .int 0, .int fo, .int 0, .long pe, .long pn, .long re, .long rn, .int th]))]) (w1 := []) (t1 := []) hP hD hK [] [0, 1] rfl rfl (by decide) (by decide) hk1 hFc ht hvm hB
  generalize H1 = H at hP hS ⊢
  have hP : va_P (dC, dI) vwCl [(br, .inl (cbr, 3, .inl (fun _ => 0))), (mo, .inr (19, [.int 0, .int 0, .int 0, .int 0, .int 0, .int 0, .int tu, .ref ti, .ref si, .ref lo, .ref lh, .ref lk, .ref sp, .ref st, .ref pa, .ref br, .ref sg, .int mi, .int 0, .int 0, .int 0, .int fo, .int 0, .long pe, .long pn, .long re, .long rn, .int th]))] H := hP
  have hD : va_D A [(br, .inl (cbr, 3, .inl (fun _ => 0))), (mo, .inr (19, [.int 0, .int 0, .int 0, .int 0, .int 0, .int 0, .int tu, .ref ti, .ref si, .ref lo, .ref lh, .ref lk, .ref sp, .ref st, .ref pa, .ref br, .ref sg, .int mi, .int 0, .int 0, .int 0, .int fo, .int 0, .long pe, .long pn, .long re, .long rn, .int th]))] := hD
  have hK : va_K (dC, dI) vwCl [(cbr, .int)] s := hK
  obtain rfl : 2 = r2 := hw
  refine va_iald hx hb hK hP 0 0 rfl rfl (pk_in 2 3 (by decide) rfl) dX15_push_64 ?_
  refine kc_v (y := .int 0) rfl ?_
  refine lv_aload_n hx hb dX15_push_65 rfl (lv_at hl 2 rfl) ?_
  have hPc := hP.sub (ws' := [(mo, .inr (19, [.int 0, .int 0, .int 0, .int 0, .int 0, .int 0, .int tu, .ref ti, .ref si, .ref lo, .ref lh, .ref lk, .ref sp, .ref st, .ref pa, .ref br, .ref sg, .int mi, .int 0, .int 0, .int 0, .int fo, .int 0, .long pe, .long pn, .long re, .long rn, .int th]))]) [1] rfl
  have hDc := hD.sub (ws' := [(mo, .inr (19, [.int 0, .int 0, .int 0, .int 0, .int 0, .int 0, .int tu, .ref ti, .ref si, .ref lo, .ref lh, .ref lk, .ref sp, .ref st, .ref pa, .ref br, .ref sg, .int mi, .int 0, .int 0, .int 0, .int fo, .int 0, .long pe, .long pn, .long re, .long rn, .int th]))]) [1] (by decide) rfl
  have hKc := hK.sub (tys' := []) [] rfl
  have hFc := va_free (wc := [(mo, .inr (19, [.int 0, .int 0, .int 0, .int 0, .int 0, .int 0, .int tu, .ref ti, .ref si, .ref lo, .ref lh, .ref lk, .ref sp, .ref st, .ref pa, .ref br, .ref sg, .int mi, .int 0, .int 0, .int 0, .int fo, .int 0, .long pe, .long pn, .long re, .long rn, .int th]))]) hD hS hA [1] rfl
  refine va_calli (va_runV (As := []) (rest := [.int 0, .int 2, .int (-12), .int (-12)]) ⟨hx, hb, hml, hown, hts⟩ (k_bestNow l dC dI z zK zV mi fo pe pn re rn mo ti si lo lh lk sp st pa br sg th tu H.size) (cwV 0 hts gX15_push_X15_bestNow rfl rfl rfl (by decide +kernel) ⟨Nat.le_of_ble_eq_true rfl, Nat.le_of_ble_eq_true rfl⟩) ⟨kP_blind, va_recv hKc hPc (ci := 19) (q0 := 0) rfl rfl, kP_go hPc hKc hDc hFc hM hS⟩ rfl rfl hl.1 rfl (lv_room (Nat.le_of_ble_eq_true rfl)) dX15_push_66 ⟨Nat.le_of_ble_eq_true rfl, Nat.le_of_ble_eq_true rfl⟩) hS (fun q _ h => hFc q h) hFc (fun r3 u t H1 locs ht hvm hw hB hz1 hk1 hS => ?_)
  obtain ⟨hP, hD, hK⟩ := kJ (wr := [(br, .inl (cbr, 3, .inl (fun _ => 0)))]) (w1 := [(mo, .inr (19, [.int 0, .int 0, .int 0, .int 0, .int 0, .int 0, .int tu, .ref ti, .ref si, .ref lo, .ref lh, .ref lk, .ref sp, .ref st, .ref pa, .ref br, .ref sg, .int mi, .int 0, .int 0, .int 0, .int fo, .int 0, .long pe, .long pn, .long re, .long rn, .int th]))]) (t1 := []) hP hD hK [1] [0] rfl rfl (by decide) (by decide) hk1 hFc ht hvm hB
  generalize H1 = H at hP hS ⊢
  have hP : va_P (dC, dI) vwCl [(br, .inl (cbr, 3, .inl (fun _ => 0))), (mo, .inr (19, [.int 0, .int 0, .int 0, .int 0, .int 0, .int 0, .int tu, .ref ti, .ref si, .ref lo, .ref lh, .ref lk, .ref sp, .ref st, .ref pa, .ref br, .ref sg, .int mi, .int 0, .int 0, .int 0, .int fo, .int 0, .long pe, .long pn, .long re, .long rn, .int th]))] H := hP
  have hD : va_D A [(br, .inl (cbr, 3, .inl (fun _ => 0))), (mo, .inr (19, [.int 0, .int 0, .int 0, .int 0, .int 0, .int 0, .int tu, .ref ti, .ref si, .ref lo, .ref lh, .ref lk, .ref sp, .ref st, .ref pa, .ref br, .ref sg, .int mi, .int 0, .int 0, .int 0, .int fo, .int 0, .long pe, .long pn, .long re, .long rn, .int th]))] := hD
  have hK : va_K (dC, dI) vwCl [(cbr, .int)] s := hK
  obtain rfl : 4 = r3 := hw
  refine lv_isub hx hb dX15_push_69 ?_
  refine kc_i (y := (-4)) (by decide +kernel) ?_
  refine va_mabs hx hb (hml.trans hl.1.symm) hown (hts (.methodLink RX15 99 Lib.Math.abs.name) (by decide +kernel)) (hts (.static Lib.Math.abs.name) (by decide +kernel)) (hts (.initialized "java/lang/Math") (by decide +kernel)) (hts (.code Lib.Math.abs.name Lib.Math.abs.code 1 (some .int)) (by decide +kernel)) (Nat.le_of_ble_eq_true rfl) (Nat.le_of_ble_eq_true rfl) (Nat.le_of_ble_eq_true rfl) (Nat.le_of_ble_eq_true rfl) dX15_push_70 ?_
  refine kc_i (y := 4) (by decide +kernel) ?_
  refine lv_imul hx hb dX15_push_73 ?_
  refine kc_i (y := 8) (by decide +kernel) ?_
  refine lv_isub hx hb dX15_push_74 ?_
  refine kc_i (y := (-20)) (by decide +kernel) ?_
  refine va_mmax hx hb (hml.trans hl.1.symm) hown (hts (.methodLink RX15 102 Lib.Math.max.name) (by decide +kernel)) (hts (.static Lib.Math.max.name) (by decide +kernel)) (hts (.initialized "java/lang/Math") (by decide +kernel)) (hts (.code Lib.Math.max.name Lib.Math.max.code 2 (some .int)) (by decide +kernel)) (Nat.le_of_ble_eq_true rfl) (Nat.le_of_ble_eq_true rfl) (Nat.le_of_ble_eq_true rfl) (Nat.le_of_ble_eq_true rfl) dX15_push_75 ?_
  refine kc_i (y := (-12)) (by decide +kernel) ?_
  exact W.iret (v := (-12)) hx hb hr (fun t ht hW => ⟨⟨(-12), (), rfl, rfl, kB_end (w9 := [(br, .inl (cbr, 3, .inl (fun _ => 0))), (mo, .inr (19, [.int 0, .int 0, .int 0, .int 0, .int 0, .int 0, .int tu, .ref ti, .ref si, .ref lo, .ref lh, .ref lk, .ref sp, .ref st, .ref pa, .ref br, .ref sg, .int mi, .int 0, .int 0, .int 0, .int fo, .int 0, .long pe, .long pn, .long re, .long rn, .int th]))]) (t9 := []) hP hK hD [0, 1] [] rfl (by decide) rfl rfl t ht hW⟩, hS.F ht⟩) hS.2.2 dX15_push_78
abbrev wd_k_push_7 (z : Nat → Nat) (mi : Int32) (fo : Int32) (pe : Int64) (pn : Int64) (re : Int64) (rn : Int64) (mo : Nat) (ti : Nat) (si : Nat) (lo : Nat) (lh : Nat) (lk : Nat) (sp : Nat) (st : Nat) (pa : Nat) (br : Nat) (sg : Nat) (cbr : ClassId) (th : Int32) (tu : Int32) : va_W := [(mo, .inr (19, [.int 0, .int 0, .int 0, .int 0, .int 0, .int 0, .int tu, .ref ti, .ref si, .ref lo, .ref lh, .ref lk, .ref sp, .ref st, .ref pa, .ref br, .ref sg, .int mi, .int 0, .int 0, .int 0, .int fo, .int 0, .long pe, .long pn, .long re, .long rn, .int th])), (br, .inl (cbr, 3, .inl (fun _ => 0)))]
set_option maxHeartbeats 4000000 in
set_option maxRecDepth 100000 in
theorem k_push_7 (l : Launch) (dC : Nat → ClassId) (dI : Nat → Nat → Nat) (z zK zV : Nat → Nat) (mi : Int32) (fo : Int32) (pe : Int64) (pn : Int64) (re : Int64) (rn : Int64) (mo : Nat) (ti : Nat) (si : Nat) (lo : Nat) (lh : Nat) (lk : Nat) (sp : Nat) (st : Nat) (pa : Nat) (br : Nat) (sg : Nat) (cbr : ClassId) (th : Int32) (tu : Int32) (sz : Nat)  : Met l yX15_push wsX15_push ({ frames := 3, cells := 0, slots := 0, locals := 62 }) (kP dC dI z zK zV [.ref mo, .int 7] sz (wd_k_push_7 z mi fo pe pn re rn mo ti si lo lh lk sp st pa br sg cbr th tu) [(cbr, .int)]) (va_Qi (fun (r : Int32) (_ : Unit) => 0 = r) (fun _ t => kB (dC, dI) (va_A (wd_k_push_7 z mi fo pe pn re rn mo ti si lo lh lk sp st pa br sg cbr th tu) sz) [(br, .inl (cbr, 3, .inl (fun _ => 0))), (mo, .inr (19, [.int 0, .int 0, .int 0, .int 0, .int 0, .int 0, .int tu, .ref ti, .ref si, .ref lo, .ref lh, .ref lk, .ref sp, .ref st, .ref pa, .ref br, .ref sg, .int mi, .int 0, .int 0, .int 0, .int fo, .int 0, .long pe, .long pn, .long re, .long rn, .int th]))] [] t) (va_A (wd_k_push_7 z mi fo pe pn re rn mo ti si lo lh lk sp st pa br sg cbr th tu) sz)) 0 0 (va_A (wd_k_push_7 z mi fo pe pn re rn mo ti si lo lh lk sp st pa br sg cbr th tu) sz) := by
  refine Met.ofW (cc := cX15_push) (maxL := 4) (ret := (some .int)) (by decide) rfl ?_
  intro p e s m args below meth c s₁ B hml hv
  obtain ⟨rfl, hsz, hP, hK, hD0, hM⟩ := hv
  have hx := B.exec
  have hb := B.bytes
  have hr := B.returns
  have hts := atoms_spec (ws := wsX15_push) B.pre
  have hown : s.vm.findClass RX15 = some m.cls := findClass_of_methodNamed B.named
  have hlocks := B.notSynchronized
  subst hsz
  have hD := hD0.self (sz := s.heap.size)
  generalize hAe : va_A (wd_k_push_7 z mi fo pe pn re rn mo ti si lo lh lk sp st pa br sg cbr th tu) s.heap.size = A at hD hM ⊢
  have hA : ∀ q : Nat, s.heap.size ≤ q → A q := fun q h => by rw [← hAe]; exact Or.inr h
  have hS : va_S A s.heap s.heap [] := va_S.rf
  have hP : va_P (dC, dI) vwCl [(mo, .inr (19, [.int 0, .int 0, .int 0, .int 0, .int 0, .int 0, .int tu, .ref ti, .ref si, .ref lo, .ref lh, .ref lk, .ref sp, .ref st, .ref pa, .ref br, .ref sg, .int mi, .int 0, .int 0, .int 0, .int fo, .int 0, .long pe, .long pn, .long re, .long rn, .int th])), (br, .inl (cbr, 3, .inl (fun _ => 0)))] s.heap := hP
  have hD : va_D A [(mo, .inr (19, [.int 0, .int 0, .int 0, .int 0, .int 0, .int 0, .int tu, .ref ti, .ref si, .ref lo, .ref lh, .ref lk, .ref sp, .ref st, .ref pa, .ref br, .ref sg, .int mi, .int 0, .int 0, .int 0, .int fo, .int 0, .long pe, .long pn, .long re, .long rn, .int th])), (br, .inl (cbr, 3, .inl (fun _ => 0)))] := hD
  have hl := lv_entry ([.ref mo, .int 7]) (n := 4) (Nat.le_of_ble_eq_true rfl)
  rw [lg_entry_eq]
  generalize (lg_sl ([.ref mo, .int 7]) ++ List.replicate (4 - (lg_sl ([.ref mo, .int 7])).length) Slot.unset).toArray = ls at hl ⊢
  have hl : lv_has ls 4 [(0, .ref mo), (1, .int 7)] := hl
  refine lv_aload_n hx hb dX15_push_0 rfl (lv_at hl 0 rfl) ?_
  have hPc := hP.sub (ws' := [(mo, .inr (19, [.int 0, .int 0, .int 0, .int 0, .int 0, .int 0, .int tu, .ref ti, .ref si, .ref lo, .ref lh, .ref lk, .ref sp, .ref st, .ref pa, .ref br, .ref sg, .int mi, .int 0, .int 0, .int 0, .int fo, .int 0, .long pe, .long pn, .long re, .long rn, .int th]))]) [0] rfl
  have hDc := hD.sub (ws' := [(mo, .inr (19, [.int 0, .int 0, .int 0, .int 0, .int 0, .int 0, .int tu, .ref ti, .ref si, .ref lo, .ref lh, .ref lk, .ref sp, .ref st, .ref pa, .ref br, .ref sg, .int mi, .int 0, .int 0, .int 0, .int fo, .int 0, .long pe, .long pn, .long re, .long rn, .int th]))]) [0] (by decide) rfl
  have hKc := hK.sub (tys' := []) [] rfl
  have hFc := va_free (wc := [(mo, .inr (19, [.int 0, .int 0, .int 0, .int 0, .int 0, .int 0, .int tu, .ref ti, .ref si, .ref lo, .ref lh, .ref lk, .ref sp, .ref st, .ref pa, .ref br, .ref sg, .int mi, .int 0, .int 0, .int 0, .int fo, .int 0, .long pe, .long pn, .long re, .long rn, .int th]))]) hD hS hA [0] rfl
  refine va_calli (va_runV (As := []) (rest := []) ⟨hx, hb, hml, hown, hts⟩ (k_points l dC dI z zK zV mi fo pe pn re rn mo ti si lo lh lk sp st pa br sg th tu s.heap.size) (cwV 0 hts gX15_push_X15_points rfl rfl rfl (by decide +kernel) ⟨Nat.le_of_ble_eq_true rfl, Nat.le_of_ble_eq_true rfl⟩) ⟨kP_blind, va_recv hKc hPc (ci := 19) (q0 := 0) rfl rfl, kP_go hPc hKc hDc hFc hM hS⟩ rfl rfl hl.1 rfl (lv_room (Nat.le_of_ble_eq_true rfl)) dX15_push_1 ⟨Nat.le_of_ble_eq_true rfl, Nat.le_of_ble_eq_true rfl⟩) hS (fun q _ h => hFc q h) hFc (fun r1 u t H1 locs ht hvm hw hB hz1 hk1 hS => ?_)
  obtain ⟨hP, hD, hK⟩ := kJ (wr := [(br, .inl (cbr, 3, .inl (fun _ => 0)))]) (w1 := [(mo, .inr (19, [.int 0, .int 0, .int 0, .int 0, .int 0, .int 0, .int tu, .ref ti, .ref si, .ref lo, .ref lh, .ref lk, .ref sp, .ref st, .ref pa, .ref br, .ref sg, .int mi, .int 0, .int 0, .int 0, .int fo, .int 0, .long pe, .long pn, .long re, .long rn, .int th]))]) (t1 := []) hP hD hK [0] [1] rfl rfl (by decide) (by decide) hk1 hFc ht hvm hB
  generalize H1 = H at hP hS ⊢
  have hP : va_P (dC, dI) vwCl [(br, .inl (cbr, 3, .inl (fun _ => 0))), (mo, .inr (19, [.int 0, .int 0, .int 0, .int 0, .int 0, .int 0, .int tu, .ref ti, .ref si, .ref lo, .ref lh, .ref lk, .ref sp, .ref st, .ref pa, .ref br, .ref sg, .int mi, .int 0, .int 0, .int 0, .int fo, .int 0, .long pe, .long pn, .long re, .long rn, .int th]))] H := hP
  have hD : va_D A [(br, .inl (cbr, 3, .inl (fun _ => 0))), (mo, .inr (19, [.int 0, .int 0, .int 0, .int 0, .int 0, .int 0, .int tu, .ref ti, .ref si, .ref lo, .ref lh, .ref lk, .ref sp, .ref st, .ref pa, .ref br, .ref sg, .int mi, .int 0, .int 0, .int 0, .int fo, .int 0, .long pe, .long pn, .long re, .long rn, .int th]))] := hD
  have hK : va_K (dC, dI) vwCl [(cbr, .int)] s := hK
  obtain rfl : 0 = r1 := hw
  refine lv_istore_n (lv' := [(2, .int 0), (0, .ref mo), (1, .int 7)]) hx hb dX15_push_4 rfl hl (by decide) rfl (fun ls hl => ?_)
  refine lv_iload_n hx hb dX15_push_5 rfl (lv_at hl 2 rfl) ?_
  refine lv_bipush (v := 7) hx hb dX15_push_6 (by decide) ?_
  refine lv_icmp_lt (tgt := 29) hx hb dX15_push_8 (by decide) (fun c_ => absurd c_ (by decide +kernel)) (fun _ => ?_)
  refine lv_iload_n hx hb dX15_push_11 rfl (lv_at hl 0 rfl) ?_
  refine lv_iconst (v := 4) hx hb dX15_push_12 (by decide) ?_
  refine lv_icmp_ge (tgt := 20) hx hb dX15_push_13 (by decide) (fun c_ => absurd c_ (by decide +kernel)) (fun _ => ?_)
  refine lv_iconst (v := 0) hx hb dX15_push_16 (by decide) ?_
  refine lv_goto (tgt := 28) hx hb dX15_push_17 (by decide) ?_
  exact W.iret (v := 0) hx hb hr (fun t ht hW => ⟨⟨0, (), rfl, rfl, kB_end (w9 := [(br, .inl (cbr, 3, .inl (fun _ => 0))), (mo, .inr (19, [.int 0, .int 0, .int 0, .int 0, .int 0, .int 0, .int tu, .ref ti, .ref si, .ref lo, .ref lh, .ref lk, .ref sp, .ref st, .ref pa, .ref br, .ref sg, .int mi, .int 0, .int 0, .int 0, .int fo, .int 0, .long pe, .long pn, .long re, .long rn, .int th]))]) (t9 := []) hP hK hD [0, 1] [] rfl (by decide) rfl rfl t ht hW⟩, hS.F ht⟩) hS.2.2 dX15_push_28
abbrev wd_k_push_8 (z : Nat → Nat) (mi : Int32) (fo : Int32) (pe : Int64) (pn : Int64) (re : Int64) (rn : Int64) (mo : Nat) (ti : Nat) (si : Nat) (lo : Nat) (lh : Nat) (lk : Nat) (sp : Nat) (st : Nat) (pa : Nat) (br : Nat) (sg : Nat) (cbr : ClassId) (th : Int32) (tu : Int32) : va_W := [(mo, .inr (19, [.int 0, .int 0, .int 0, .int 0, .int 0, .int 0, .int tu, .ref ti, .ref si, .ref lo, .ref lh, .ref lk, .ref sp, .ref st, .ref pa, .ref br, .ref sg, .int mi, .int 0, .int 0, .int 0, .int fo, .int 0, .long pe, .long pn, .long re, .long rn, .int th])), (br, .inl (cbr, 3, .inl (fun _ => 0)))]
set_option maxHeartbeats 4000000 in
set_option maxRecDepth 100000 in
theorem k_push_8 (l : Launch) (dC : Nat → ClassId) (dI : Nat → Nat → Nat) (z zK zV : Nat → Nat) (mi : Int32) (fo : Int32) (pe : Int64) (pn : Int64) (re : Int64) (rn : Int64) (mo : Nat) (ti : Nat) (si : Nat) (lo : Nat) (lh : Nat) (lk : Nat) (sp : Nat) (st : Nat) (pa : Nat) (br : Nat) (sg : Nat) (cbr : ClassId) (th : Int32) (tu : Int32) (sz : Nat)  : Met l yX15_push wsX15_push ({ frames := 3, cells := 0, slots := 0, locals := 62 }) (kP dC dI z zK zV [.ref mo, .int 8] sz (wd_k_push_8 z mi fo pe pn re rn mo ti si lo lh lk sp st pa br sg cbr th tu) [(cbr, .int)]) (va_Qi (fun (r : Int32) (_ : Unit) => 0 = r) (fun _ t => kB (dC, dI) (va_A (wd_k_push_8 z mi fo pe pn re rn mo ti si lo lh lk sp st pa br sg cbr th tu) sz) [(br, .inl (cbr, 3, .inl (fun _ => 0))), (mo, .inr (19, [.int 0, .int 0, .int 0, .int 0, .int 0, .int 0, .int tu, .ref ti, .ref si, .ref lo, .ref lh, .ref lk, .ref sp, .ref st, .ref pa, .ref br, .ref sg, .int mi, .int 0, .int 0, .int 0, .int fo, .int 0, .long pe, .long pn, .long re, .long rn, .int th]))] [] t) (va_A (wd_k_push_8 z mi fo pe pn re rn mo ti si lo lh lk sp st pa br sg cbr th tu) sz)) 0 0 (va_A (wd_k_push_8 z mi fo pe pn re rn mo ti si lo lh lk sp st pa br sg cbr th tu) sz) := by
  refine Met.ofW (cc := cX15_push) (maxL := 4) (ret := (some .int)) (by decide) rfl ?_
  intro p e s m args below meth c s₁ B hml hv
  obtain ⟨rfl, hsz, hP, hK, hD0, hM⟩ := hv
  have hx := B.exec
  have hb := B.bytes
  have hr := B.returns
  have hts := atoms_spec (ws := wsX15_push) B.pre
  have hown : s.vm.findClass RX15 = some m.cls := findClass_of_methodNamed B.named
  have hlocks := B.notSynchronized
  subst hsz
  have hD := hD0.self (sz := s.heap.size)
  generalize hAe : va_A (wd_k_push_8 z mi fo pe pn re rn mo ti si lo lh lk sp st pa br sg cbr th tu) s.heap.size = A at hD hM ⊢
  have hA : ∀ q : Nat, s.heap.size ≤ q → A q := fun q h => by rw [← hAe]; exact Or.inr h
  have hS : va_S A s.heap s.heap [] := va_S.rf
  have hP : va_P (dC, dI) vwCl [(mo, .inr (19, [.int 0, .int 0, .int 0, .int 0, .int 0, .int 0, .int tu, .ref ti, .ref si, .ref lo, .ref lh, .ref lk, .ref sp, .ref st, .ref pa, .ref br, .ref sg, .int mi, .int 0, .int 0, .int 0, .int fo, .int 0, .long pe, .long pn, .long re, .long rn, .int th])), (br, .inl (cbr, 3, .inl (fun _ => 0)))] s.heap := hP
  have hD : va_D A [(mo, .inr (19, [.int 0, .int 0, .int 0, .int 0, .int 0, .int 0, .int tu, .ref ti, .ref si, .ref lo, .ref lh, .ref lk, .ref sp, .ref st, .ref pa, .ref br, .ref sg, .int mi, .int 0, .int 0, .int 0, .int fo, .int 0, .long pe, .long pn, .long re, .long rn, .int th])), (br, .inl (cbr, 3, .inl (fun _ => 0)))] := hD
  have hl := lv_entry ([.ref mo, .int 8]) (n := 4) (Nat.le_of_ble_eq_true rfl)
  rw [lg_entry_eq]
  generalize (lg_sl ([.ref mo, .int 8]) ++ List.replicate (4 - (lg_sl ([.ref mo, .int 8])).length) Slot.unset).toArray = ls at hl ⊢
  have hl : lv_has ls 4 [(0, .ref mo), (1, .int 8)] := hl
  refine lv_aload_n hx hb dX15_push_0 rfl (lv_at hl 0 rfl) ?_
  have hPc := hP.sub (ws' := [(mo, .inr (19, [.int 0, .int 0, .int 0, .int 0, .int 0, .int 0, .int tu, .ref ti, .ref si, .ref lo, .ref lh, .ref lk, .ref sp, .ref st, .ref pa, .ref br, .ref sg, .int mi, .int 0, .int 0, .int 0, .int fo, .int 0, .long pe, .long pn, .long re, .long rn, .int th]))]) [0] rfl
  have hDc := hD.sub (ws' := [(mo, .inr (19, [.int 0, .int 0, .int 0, .int 0, .int 0, .int 0, .int tu, .ref ti, .ref si, .ref lo, .ref lh, .ref lk, .ref sp, .ref st, .ref pa, .ref br, .ref sg, .int mi, .int 0, .int 0, .int 0, .int fo, .int 0, .long pe, .long pn, .long re, .long rn, .int th]))]) [0] (by decide) rfl
  have hKc := hK.sub (tys' := []) [] rfl
  have hFc := va_free (wc := [(mo, .inr (19, [.int 0, .int 0, .int 0, .int 0, .int 0, .int 0, .int tu, .ref ti, .ref si, .ref lo, .ref lh, .ref lk, .ref sp, .ref st, .ref pa, .ref br, .ref sg, .int mi, .int 0, .int 0, .int 0, .int fo, .int 0, .long pe, .long pn, .long re, .long rn, .int th]))]) hD hS hA [0] rfl
  refine va_calli (va_runV (As := []) (rest := []) ⟨hx, hb, hml, hown, hts⟩ (k_points l dC dI z zK zV mi fo pe pn re rn mo ti si lo lh lk sp st pa br sg th tu s.heap.size) (cwV 0 hts gX15_push_X15_points rfl rfl rfl (by decide +kernel) ⟨Nat.le_of_ble_eq_true rfl, Nat.le_of_ble_eq_true rfl⟩) ⟨kP_blind, va_recv hKc hPc (ci := 19) (q0 := 0) rfl rfl, kP_go hPc hKc hDc hFc hM hS⟩ rfl rfl hl.1 rfl (lv_room (Nat.le_of_ble_eq_true rfl)) dX15_push_1 ⟨Nat.le_of_ble_eq_true rfl, Nat.le_of_ble_eq_true rfl⟩) hS (fun q _ h => hFc q h) hFc (fun r1 u t H1 locs ht hvm hw hB hz1 hk1 hS => ?_)
  obtain ⟨hP, hD, hK⟩ := kJ (wr := [(br, .inl (cbr, 3, .inl (fun _ => 0)))]) (w1 := [(mo, .inr (19, [.int 0, .int 0, .int 0, .int 0, .int 0, .int 0, .int tu, .ref ti, .ref si, .ref lo, .ref lh, .ref lk, .ref sp, .ref st, .ref pa, .ref br, .ref sg, .int mi, .int 0, .int 0, .int 0, .int fo, .int 0, .long pe, .long pn, .long re, .long rn, .int th]))]) (t1 := []) hP hD hK [0] [1] rfl rfl (by decide) (by decide) hk1 hFc ht hvm hB
  generalize H1 = H at hP hS ⊢
  have hP : va_P (dC, dI) vwCl [(br, .inl (cbr, 3, .inl (fun _ => 0))), (mo, .inr (19, [.int 0, .int 0, .int 0, .int 0, .int 0, .int 0, .int tu, .ref ti, .ref si, .ref lo, .ref lh, .ref lk, .ref sp, .ref st, .ref pa, .ref br, .ref sg, .int mi, .int 0, .int 0, .int 0, .int fo, .int 0, .long pe, .long pn, .long re, .long rn, .int th]))] H := hP
  have hD : va_D A [(br, .inl (cbr, 3, .inl (fun _ => 0))), (mo, .inr (19, [.int 0, .int 0, .int 0, .int 0, .int 0, .int 0, .int tu, .ref ti, .ref si, .ref lo, .ref lh, .ref lk, .ref sp, .ref st, .ref pa, .ref br, .ref sg, .int mi, .int 0, .int 0, .int 0, .int fo, .int 0, .long pe, .long pn, .long re, .long rn, .int th]))] := hD
  have hK : va_K (dC, dI) vwCl [(cbr, .int)] s := hK
  obtain rfl : 0 = r1 := hw
  refine lv_istore_n (lv' := [(2, .int 0), (0, .ref mo), (1, .int 8)]) hx hb dX15_push_4 rfl hl (by decide) rfl (fun ls hl => ?_)
  refine lv_iload_n hx hb dX15_push_5 rfl (lv_at hl 2 rfl) ?_
  refine lv_bipush (v := 7) hx hb dX15_push_6 (by decide) ?_
  refine lv_icmp_lt (tgt := 29) hx hb dX15_push_8 (by decide) (fun c_ => absurd c_ (by decide +kernel)) (fun _ => ?_)
  refine lv_iload_n hx hb dX15_push_11 rfl (lv_at hl 0 rfl) ?_
  refine lv_iconst (v := 4) hx hb dX15_push_12 (by decide) ?_
  refine lv_icmp_ge (tgt := 20) hx hb dX15_push_13 (by decide) (fun c_ => absurd c_ (by decide +kernel)) (fun _ => ?_)
  refine lv_iconst (v := 0) hx hb dX15_push_16 (by decide) ?_
  refine lv_goto (tgt := 28) hx hb dX15_push_17 (by decide) ?_
  exact W.iret (v := 0) hx hb hr (fun t ht hW => ⟨⟨0, (), rfl, rfl, kB_end (w9 := [(br, .inl (cbr, 3, .inl (fun _ => 0))), (mo, .inr (19, [.int 0, .int 0, .int 0, .int 0, .int 0, .int 0, .int tu, .ref ti, .ref si, .ref lo, .ref lh, .ref lk, .ref sp, .ref st, .ref pa, .ref br, .ref sg, .int mi, .int 0, .int 0, .int 0, .int fo, .int 0, .long pe, .long pn, .long re, .long rn, .int th]))]) (t9 := []) hP hK hD [0, 1] [] rfl (by decide) rfl rfl t ht hW⟩, hS.F ht⟩) hS.2.2 dX15_push_28
abbrev wd_k_forceOf_0 (z : Nat → Nat) (mi : Int32) (fo : Int32) (pe : Int64) (pn : Int64) (re : Int64) (rn : Int64) (mo : Nat) (ti : Nat) (si : Nat) (lo : Nat) (lh : Nat) (lk : Nat) (sp : Nat) (st : Nat) (pa : Nat) (br : Nat) (sg : Nat) (csp : ClassId) (cbr : ClassId) (th : Int32) (tu : Int32) : va_W := [(mo, .inr (19, [.int 0, .int 0, .int 0, .int 0, .int 0, .int 0, .int tu, .ref ti, .ref si, .ref lo, .ref lh, .ref lk, .ref sp, .ref st, .ref pa, .ref br, .ref sg, .int mi, .int 0, .int 0, .int 0, .int fo, .int 0, .long pe, .long pn, .long re, .long rn, .int th])), (sp, .inl (csp, 9, .inl (fun _ => 0))), (br, .inl (cbr, 3, .inl (fun _ => 0)))]
set_option maxHeartbeats 4000000 in
set_option maxRecDepth 100000 in
theorem k_forceOf_0 (l : Launch) (dC : Nat → ClassId) (dI : Nat → Nat → Nat) (z zK zV : Nat → Nat) (mi : Int32) (fo : Int32) (pe : Int64) (pn : Int64) (re : Int64) (rn : Int64) (mo : Nat) (ti : Nat) (si : Nat) (lo : Nat) (lh : Nat) (lk : Nat) (sp : Nat) (st : Nat) (pa : Nat) (br : Nat) (sg : Nat) (csp : ClassId) (cbr : ClassId) (th : Int32) (tu : Int32) (sz : Nat)  : Met l yX15_forceOf wsX15_forceOf ({ frames := 7, cells := 0, slots := 0, locals := 150 }) (kP dC dI z zK zV [.ref mo, .int 0] sz (wd_k_forceOf_0 z mi fo pe pn re rn mo ti si lo lh lk sp st pa br sg csp cbr th tu) [(csp, .int), (cbr, .int)]) (va_Qi (fun (r : Int32) (_ : Unit) => 0 = r) (fun _ t => kB (dC, dI) (va_A (wd_k_forceOf_0 z mi fo pe pn re rn mo ti si lo lh lk sp st pa br sg csp cbr th tu) sz) [(sp, .inl (csp, 9, .inl (fun _ => 0))), (br, .inl (cbr, 3, .inl (fun _ => 0))), (mo, .inr (19, [.int 0, .int 0, .int 0, .int 0, .int 0, .int 0, .int tu, .ref ti, .ref si, .ref lo, .ref lh, .ref lk, .ref sp, .ref st, .ref pa, .ref br, .ref sg, .int mi, .int 0, .int 0, .int 0, .int fo, .int 0, .long pe, .long pn, .long re, .long rn, .int th]))] [] t) (va_A (wd_k_forceOf_0 z mi fo pe pn re rn mo ti si lo lh lk sp st pa br sg csp cbr th tu) sz)) 0 0 (va_A (wd_k_forceOf_0 z mi fo pe pn re rn mo ti si lo lh lk sp st pa br sg csp cbr th tu) sz) := by
  refine Met.ofW (cc := cX15_forceOf) (maxL := 2) (ret := (some .int)) (by decide) rfl ?_
  intro p e s m args below meth c s₁ B hml hv
  obtain ⟨rfl, hsz, hP, hK, hD0, hM⟩ := hv
  have hx := B.exec
  have hb := B.bytes
  have hr := B.returns
  have hts := atoms_spec (ws := wsX15_forceOf) B.pre
  have hown : s.vm.findClass RX15 = some m.cls := findClass_of_methodNamed B.named
  have hlocks := B.notSynchronized
  have hiX15 : ∀ w ∈ u_ws RX15 TX15 28, w ∈ wsX15_forceOf := by decide +kernel
  subst hsz
  have hD := hD0.self (sz := s.heap.size)
  generalize hAe : va_A (wd_k_forceOf_0 z mi fo pe pn re rn mo ti si lo lh lk sp st pa br sg csp cbr th tu) s.heap.size = A at hD hM ⊢
  have hA : ∀ q : Nat, s.heap.size ≤ q → A q := fun q h => by rw [← hAe]; exact Or.inr h
  have hS : va_S A s.heap s.heap [] := va_S.rf
  have hP : va_P (dC, dI) vwCl [(mo, .inr (19, [.int 0, .int 0, .int 0, .int 0, .int 0, .int 0, .int tu, .ref ti, .ref si, .ref lo, .ref lh, .ref lk, .ref sp, .ref st, .ref pa, .ref br, .ref sg, .int mi, .int 0, .int 0, .int 0, .int fo, .int 0, .long pe, .long pn, .long re, .long rn, .int th])), (sp, .inl (csp, 9, .inl (fun _ => 0))), (br, .inl (cbr, 3, .inl (fun _ => 0)))] s.heap := hP
  have hD : va_D A [(mo, .inr (19, [.int 0, .int 0, .int 0, .int 0, .int 0, .int 0, .int tu, .ref ti, .ref si, .ref lo, .ref lh, .ref lk, .ref sp, .ref st, .ref pa, .ref br, .ref sg, .int mi, .int 0, .int 0, .int 0, .int fo, .int 0, .long pe, .long pn, .long re, .long rn, .int th])), (sp, .inl (csp, 9, .inl (fun _ => 0))), (br, .inl (cbr, 3, .inl (fun _ => 0)))] := hD
  have hl := lv_entry ([.ref mo, .int 0]) (n := 2) (Nat.le_of_ble_eq_true rfl)
  rw [lg_entry_eq]
  generalize (lg_sl ([.ref mo, .int 0]) ++ List.replicate (2 - (lg_sl ([.ref mo, .int 0])).length) Slot.unset).toArray = ls at hl ⊢
  have hl : lv_has ls 2 [(0, .ref mo), (1, .int 0)] := hl
  refine va_ldcS hx hb hown (hM.2.2.1 3 _ rfl) dX15_forceOf_0 ?_
  refine lv_iload_n hx hb dX15_forceOf_2 rfl (lv_at hl 1 rfl) ?_
  have hPc := hP.sub (ws' := []) [] rfl
  have hDc := hD.sub (ws' := []) [] (by decide) rfl
  have hKc := hK.sub (tys' := []) [] rfl
  have hFc := va_free (wc := []) hD hS hA [] rfl
  refine va_calli (va_runS (As := [.ref (zK 3), .int 0]) (rest := []) ⟨hx, hb, hml, hown, hts⟩ (k_digit3_0 l dC dI z zK zV  s.heap.size) (va_cwS 2 hts gX15_forceOf_X15_digit rfl rfl rfl (by decide +kernel) ⟨Nat.le_of_ble_eq_true rfl, Nat.le_of_ble_eq_true rfl⟩) ⟨kP_blind, kP_go hPc hKc hDc hFc hM hS⟩ rfl rfl hl.1 rfl (lv_room (Nat.le_of_ble_eq_true rfl)) dX15_forceOf_3 ⟨Nat.le_of_ble_eq_true rfl, Nat.le_of_ble_eq_true rfl⟩) hS (fun q _ h => hFc q h) hFc (fun r1 u t H1 locs ht hvm hw hB hz1 hk1 hS => ?_)
  obtain ⟨hP, hD, hK⟩ := kJ (wr := [(mo, .inr (19, [.int 0, .int 0, .int 0, .int 0, .int 0, .int 0, .int tu, .ref ti, .ref si, .ref lo, .ref lh, .ref lk, .ref sp, .ref st, .ref pa, .ref br, .ref sg, .int mi, .int 0, .int 0, .int 0, .int fo, .int 0, .long pe, .long pn, .long re, .long rn, .int th])), (sp, .inl (csp, 9, .inl (fun _ => 0))), (br, .inl (cbr, 3, .inl (fun _ => 0)))]) (w1 := []) (t1 := []) hP hD hK [] [0, 1, 2] rfl rfl (by decide) (by decide) hk1 hFc ht hvm hB
  generalize H1 = H at hP hS ⊢
  have hP : va_P (dC, dI) vwCl [(mo, .inr (19, [.int 0, .int 0, .int 0, .int 0, .int 0, .int 0, .int tu, .ref ti, .ref si, .ref lo, .ref lh, .ref lk, .ref sp, .ref st, .ref pa, .ref br, .ref sg, .int mi, .int 0, .int 0, .int 0, .int fo, .int 0, .long pe, .long pn, .long re, .long rn, .int th])), (sp, .inl (csp, 9, .inl (fun _ => 0))), (br, .inl (cbr, 3, .inl (fun _ => 0)))] H := hP
  have hD : va_D A [(mo, .inr (19, [.int 0, .int 0, .int 0, .int 0, .int 0, .int 0, .int tu, .ref ti, .ref si, .ref lo, .ref lh, .ref lk, .ref sp, .ref st, .ref pa, .ref br, .ref sg, .int mi, .int 0, .int 0, .int 0, .int fo, .int 0, .long pe, .long pn, .long re, .long rn, .int th])), (sp, .inl (csp, 9, .inl (fun _ => 0))), (br, .inl (cbr, 3, .inl (fun _ => 0)))] := hD
  have hK : va_K (dC, dI) vwCl [(csp, .int), (cbr, .int)] s := hK
  obtain rfl : 8 = r1 := hw
  refine lv_aload_n hx hb dX15_forceOf_6 rfl (lv_at hl 0 rfl) ?_
  refine va_get (D := (dC, dI)) (ci := 19) (v := .ref sp) (C := RX15) (T := TX15) (N := 28) hx hb hts hiX15 hown hK hP 0 rfl rfl 12 (by decide) (hts (.fieldLink RX15 29 "SquareRigModel" "spread" "[I") (by decide +kernel)) (fun _ h9 => h9) rfl dX15_forceOf_7 ?_
  refine lv_iload_n hx hb dX15_forceOf_10 rfl (lv_at hl 1 rfl) ?_
  refine va_iald hx hb hK hP 1 0 rfl rfl (pk_in 0 9 (by decide) rfl) dX15_forceOf_11 ?_
  refine kc_v (y := .int 0) rfl ?_
  refine lv_imul hx hb dX15_forceOf_12 ?_
  refine kc_i (y := 0) (by decide +kernel) ?_
  refine lv_aload_n hx hb dX15_forceOf_13 rfl (lv_at hl 0 rfl) ?_
  refine va_get (D := (dC, dI)) (ci := 19) (v := .int 0) (C := RX15) (T := TX15) (N := 28) hx hb hts hiX15 hown hK hP 0 rfl rfl 1 (by decide) (hts (.fieldLink RX15 109 "SquareRigModel" "wind" "I") (by decide +kernel)) (fun _ h9 => h9) rfl dX15_forceOf_14 ?_
  refine lv_imul hx hb dX15_forceOf_17 ?_
  refine kc_i (y := 0) (by decide +kernel) ?_
  refine lv_aload_n hx hb dX15_forceOf_18 rfl (lv_at hl 0 rfl) ?_
  refine lv_iload_n hx hb dX15_forceOf_19 rfl (lv_at hl 1 rfl) ?_
  have hPc := hP.sub (ws' := [(mo, .inr (19, [.int 0, .int 0, .int 0, .int 0, .int 0, .int 0, .int tu, .ref ti, .ref si, .ref lo, .ref lh, .ref lk, .ref sp, .ref st, .ref pa, .ref br, .ref sg, .int mi, .int 0, .int 0, .int 0, .int fo, .int 0, .long pe, .long pn, .long re, .long rn, .int th])), (br, .inl (cbr, 3, .inl (fun _ => 0)))]) [0, 2] rfl
  have hDc := hD.sub (ws' := [(mo, .inr (19, [.int 0, .int 0, .int 0, .int 0, .int 0, .int 0, .int tu, .ref ti, .ref si, .ref lo, .ref lh, .ref lk, .ref sp, .ref st, .ref pa, .ref br, .ref sg, .int mi, .int 0, .int 0, .int 0, .int fo, .int 0, .long pe, .long pn, .long re, .long rn, .int th])), (br, .inl (cbr, 3, .inl (fun _ => 0)))]) [0, 2] (by decide) rfl
  have hKc := hK.sub (tys' := [(cbr, .int)]) [1] rfl
  have hFc := va_free (wc := [(mo, .inr (19, [.int 0, .int 0, .int 0, .int 0, .int 0, .int 0, .int tu, .ref ti, .ref si, .ref lo, .ref lh, .ref lk, .ref sp, .ref st, .ref pa, .ref br, .ref sg, .int mi, .int 0, .int 0, .int 0, .int fo, .int 0, .long pe, .long pn, .long re, .long rn, .int th])), (br, .inl (cbr, 3, .inl (fun _ => 0)))]) hD hS hA [0, 2] rfl
  refine va_calli (va_runV (As := [.int 0]) (rest := [.int 0]) ⟨hx, hb, hml, hown, hts⟩ (k_push_0 l dC dI z zK zV mi fo pe pn re rn mo ti si lo lh lk sp st pa br sg cbr th tu H.size) (cwV 1 hts gX15_forceOf_X15_push rfl rfl rfl (by decide +kernel) ⟨Nat.le_of_ble_eq_true rfl, Nat.le_of_ble_eq_true rfl⟩) ⟨kP_blind, va_recv hKc hPc (ci := 19) (q0 := 0) rfl rfl, kP_go hPc hKc hDc hFc hM hS⟩ rfl rfl hl.1 rfl (lv_room (Nat.le_of_ble_eq_true rfl)) dX15_forceOf_20 ⟨Nat.le_of_ble_eq_true rfl, Nat.le_of_ble_eq_true rfl⟩) hS (fun q _ h => hFc q h) hFc (fun r2 u t H1 locs ht hvm hw hB hz1 hk1 hS => ?_)
  obtain ⟨hP, hD, hK⟩ := kJ (wr := [(sp, .inl (csp, 9, .inl (fun _ => 0)))]) (w1 := [(br, .inl (cbr, 3, .inl (fun _ => 0))), (mo, .inr (19, [.int 0, .int 0, .int 0, .int 0, .int 0, .int 0, .int tu, .ref ti, .ref si, .ref lo, .ref lh, .ref lk, .ref sp, .ref st, .ref pa, .ref br, .ref sg, .int mi, .int 0, .int 0, .int 0, .int fo, .int 0, .long pe, .long pn, .long re, .long rn, .int th]))]) (t1 := []) hP hD hK [0, 2] [1] rfl rfl (by decide) (by decide) hk1 hFc ht hvm hB
  generalize H1 = H at hP hS ⊢
  have hP : va_P (dC, dI) vwCl [(sp, .inl (csp, 9, .inl (fun _ => 0))), (br, .inl (cbr, 3, .inl (fun _ => 0))), (mo, .inr (19, [.int 0, .int 0, .int 0, .int 0, .int 0, .int 0, .int tu, .ref ti, .ref si, .ref lo, .ref lh, .ref lk, .ref sp, .ref st, .ref pa, .ref br, .ref sg, .int mi, .int 0, .int 0, .int 0, .int fo, .int 0, .long pe, .long pn, .long re, .long rn, .int th]))] H := hP
  have hD : va_D A [(sp, .inl (csp, 9, .inl (fun _ => 0))), (br, .inl (cbr, 3, .inl (fun _ => 0))), (mo, .inr (19, [.int 0, .int 0, .int 0, .int 0, .int 0, .int 0, .int tu, .ref ti, .ref si, .ref lo, .ref lh, .ref lk, .ref sp, .ref st, .ref pa, .ref br, .ref sg, .int mi, .int 0, .int 0, .int 0, .int fo, .int 0, .long pe, .long pn, .long re, .long rn, .int th]))] := hD
  have hK : va_K (dC, dI) vwCl [(csp, .int), (cbr, .int)] s := hK
  obtain rfl : (-12) = r2 := hw
  refine lv_imul hx hb dX15_forceOf_23 ?_
  refine kc_i (y := 0) (by decide +kernel) ?_
  refine lv_iconst (v := 2) hx hb dX15_forceOf_24 (by decide) ?_
  refine lv_idiv hx hb dX15_forceOf_25 (by decide +kernel) ?_
  refine kc_i (y := 0) (by decide +kernel) ?_
  exact W.iret (v := 0) hx hb hr (fun t ht hW => ⟨⟨0, (), rfl, rfl, kB_end (w9 := [(sp, .inl (csp, 9, .inl (fun _ => 0))), (br, .inl (cbr, 3, .inl (fun _ => 0))), (mo, .inr (19, [.int 0, .int 0, .int 0, .int 0, .int 0, .int 0, .int tu, .ref ti, .ref si, .ref lo, .ref lh, .ref lk, .ref sp, .ref st, .ref pa, .ref br, .ref sg, .int mi, .int 0, .int 0, .int 0, .int fo, .int 0, .long pe, .long pn, .long re, .long rn, .int th]))]) (t9 := []) hP hK hD [0, 1, 2] [] rfl (by decide) rfl rfl t ht hW⟩, hS.F ht⟩) hS.2.2 dX15_forceOf_26
abbrev wd_k_forceOf_1 (z : Nat → Nat) (mi : Int32) (fo : Int32) (pe : Int64) (pn : Int64) (re : Int64) (rn : Int64) (mo : Nat) (ti : Nat) (si : Nat) (lo : Nat) (lh : Nat) (lk : Nat) (sp : Nat) (st : Nat) (pa : Nat) (br : Nat) (sg : Nat) (csp : ClassId) (cbr : ClassId) (th : Int32) (tu : Int32) : va_W := [(mo, .inr (19, [.int 0, .int 0, .int 0, .int 0, .int 0, .int 0, .int tu, .ref ti, .ref si, .ref lo, .ref lh, .ref lk, .ref sp, .ref st, .ref pa, .ref br, .ref sg, .int mi, .int 0, .int 0, .int 0, .int fo, .int 0, .long pe, .long pn, .long re, .long rn, .int th])), (sp, .inl (csp, 9, .inl (fun _ => 0))), (br, .inl (cbr, 3, .inl (fun _ => 0)))]
set_option maxHeartbeats 4000000 in
set_option maxRecDepth 100000 in
theorem k_forceOf_1 (l : Launch) (dC : Nat → ClassId) (dI : Nat → Nat → Nat) (z zK zV : Nat → Nat) (mi : Int32) (fo : Int32) (pe : Int64) (pn : Int64) (re : Int64) (rn : Int64) (mo : Nat) (ti : Nat) (si : Nat) (lo : Nat) (lh : Nat) (lk : Nat) (sp : Nat) (st : Nat) (pa : Nat) (br : Nat) (sg : Nat) (csp : ClassId) (cbr : ClassId) (th : Int32) (tu : Int32) (sz : Nat)  : Met l yX15_forceOf wsX15_forceOf ({ frames := 7, cells := 0, slots := 0, locals := 150 }) (kP dC dI z zK zV [.ref mo, .int 1] sz (wd_k_forceOf_1 z mi fo pe pn re rn mo ti si lo lh lk sp st pa br sg csp cbr th tu) [(csp, .int), (cbr, .int)]) (va_Qi (fun (r : Int32) (_ : Unit) => 0 = r) (fun _ t => kB (dC, dI) (va_A (wd_k_forceOf_1 z mi fo pe pn re rn mo ti si lo lh lk sp st pa br sg csp cbr th tu) sz) [(sp, .inl (csp, 9, .inl (fun _ => 0))), (br, .inl (cbr, 3, .inl (fun _ => 0))), (mo, .inr (19, [.int 0, .int 0, .int 0, .int 0, .int 0, .int 0, .int tu, .ref ti, .ref si, .ref lo, .ref lh, .ref lk, .ref sp, .ref st, .ref pa, .ref br, .ref sg, .int mi, .int 0, .int 0, .int 0, .int fo, .int 0, .long pe, .long pn, .long re, .long rn, .int th]))] [] t) (va_A (wd_k_forceOf_1 z mi fo pe pn re rn mo ti si lo lh lk sp st pa br sg csp cbr th tu) sz)) 0 0 (va_A (wd_k_forceOf_1 z mi fo pe pn re rn mo ti si lo lh lk sp st pa br sg csp cbr th tu) sz) := by
  refine Met.ofW (cc := cX15_forceOf) (maxL := 2) (ret := (some .int)) (by decide) rfl ?_
  intro p e s m args below meth c s₁ B hml hv
  obtain ⟨rfl, hsz, hP, hK, hD0, hM⟩ := hv
  have hx := B.exec
  have hb := B.bytes
  have hr := B.returns
  have hts := atoms_spec (ws := wsX15_forceOf) B.pre
  have hown : s.vm.findClass RX15 = some m.cls := findClass_of_methodNamed B.named
  have hlocks := B.notSynchronized
  have hiX15 : ∀ w ∈ u_ws RX15 TX15 28, w ∈ wsX15_forceOf := by decide +kernel
  subst hsz
  have hD := hD0.self (sz := s.heap.size)
  generalize hAe : va_A (wd_k_forceOf_1 z mi fo pe pn re rn mo ti si lo lh lk sp st pa br sg csp cbr th tu) s.heap.size = A at hD hM ⊢
  have hA : ∀ q : Nat, s.heap.size ≤ q → A q := fun q h => by rw [← hAe]; exact Or.inr h
  have hS : va_S A s.heap s.heap [] := va_S.rf
  have hP : va_P (dC, dI) vwCl [(mo, .inr (19, [.int 0, .int 0, .int 0, .int 0, .int 0, .int 0, .int tu, .ref ti, .ref si, .ref lo, .ref lh, .ref lk, .ref sp, .ref st, .ref pa, .ref br, .ref sg, .int mi, .int 0, .int 0, .int 0, .int fo, .int 0, .long pe, .long pn, .long re, .long rn, .int th])), (sp, .inl (csp, 9, .inl (fun _ => 0))), (br, .inl (cbr, 3, .inl (fun _ => 0)))] s.heap := hP
  have hD : va_D A [(mo, .inr (19, [.int 0, .int 0, .int 0, .int 0, .int 0, .int 0, .int tu, .ref ti, .ref si, .ref lo, .ref lh, .ref lk, .ref sp, .ref st, .ref pa, .ref br, .ref sg, .int mi, .int 0, .int 0, .int 0, .int fo, .int 0, .long pe, .long pn, .long re, .long rn, .int th])), (sp, .inl (csp, 9, .inl (fun _ => 0))), (br, .inl (cbr, 3, .inl (fun _ => 0)))] := hD
  have hl := lv_entry ([.ref mo, .int 1]) (n := 2) (Nat.le_of_ble_eq_true rfl)
  rw [lg_entry_eq]
  generalize (lg_sl ([.ref mo, .int 1]) ++ List.replicate (2 - (lg_sl ([.ref mo, .int 1])).length) Slot.unset).toArray = ls at hl ⊢
  have hl : lv_has ls 2 [(0, .ref mo), (1, .int 1)] := hl
  refine va_ldcS hx hb hown (hM.2.2.1 3 _ rfl) dX15_forceOf_0 ?_
  refine lv_iload_n hx hb dX15_forceOf_2 rfl (lv_at hl 1 rfl) ?_
  have hPc := hP.sub (ws' := []) [] rfl
  have hDc := hD.sub (ws' := []) [] (by decide) rfl
  have hKc := hK.sub (tys' := []) [] rfl
  have hFc := va_free (wc := []) hD hS hA [] rfl
  refine va_calli (va_runS (As := [.ref (zK 3), .int 1]) (rest := []) ⟨hx, hb, hml, hown, hts⟩ (k_digit3_1 l dC dI z zK zV  s.heap.size) (va_cwS 2 hts gX15_forceOf_X15_digit rfl rfl rfl (by decide +kernel) ⟨Nat.le_of_ble_eq_true rfl, Nat.le_of_ble_eq_true rfl⟩) ⟨kP_blind, kP_go hPc hKc hDc hFc hM hS⟩ rfl rfl hl.1 rfl (lv_room (Nat.le_of_ble_eq_true rfl)) dX15_forceOf_3 ⟨Nat.le_of_ble_eq_true rfl, Nat.le_of_ble_eq_true rfl⟩) hS (fun q _ h => hFc q h) hFc (fun r1 u t H1 locs ht hvm hw hB hz1 hk1 hS => ?_)
  obtain ⟨hP, hD, hK⟩ := kJ (wr := [(mo, .inr (19, [.int 0, .int 0, .int 0, .int 0, .int 0, .int 0, .int tu, .ref ti, .ref si, .ref lo, .ref lh, .ref lk, .ref sp, .ref st, .ref pa, .ref br, .ref sg, .int mi, .int 0, .int 0, .int 0, .int fo, .int 0, .long pe, .long pn, .long re, .long rn, .int th])), (sp, .inl (csp, 9, .inl (fun _ => 0))), (br, .inl (cbr, 3, .inl (fun _ => 0)))]) (w1 := []) (t1 := []) hP hD hK [] [0, 1, 2] rfl rfl (by decide) (by decide) hk1 hFc ht hvm hB
  generalize H1 = H at hP hS ⊢
  have hP : va_P (dC, dI) vwCl [(mo, .inr (19, [.int 0, .int 0, .int 0, .int 0, .int 0, .int 0, .int tu, .ref ti, .ref si, .ref lo, .ref lh, .ref lk, .ref sp, .ref st, .ref pa, .ref br, .ref sg, .int mi, .int 0, .int 0, .int 0, .int fo, .int 0, .long pe, .long pn, .long re, .long rn, .int th])), (sp, .inl (csp, 9, .inl (fun _ => 0))), (br, .inl (cbr, 3, .inl (fun _ => 0)))] H := hP
  have hD : va_D A [(mo, .inr (19, [.int 0, .int 0, .int 0, .int 0, .int 0, .int 0, .int tu, .ref ti, .ref si, .ref lo, .ref lh, .ref lk, .ref sp, .ref st, .ref pa, .ref br, .ref sg, .int mi, .int 0, .int 0, .int 0, .int fo, .int 0, .long pe, .long pn, .long re, .long rn, .int th])), (sp, .inl (csp, 9, .inl (fun _ => 0))), (br, .inl (cbr, 3, .inl (fun _ => 0)))] := hD
  have hK : va_K (dC, dI) vwCl [(csp, .int), (cbr, .int)] s := hK
  obtain rfl : 7 = r1 := hw
  refine lv_aload_n hx hb dX15_forceOf_6 rfl (lv_at hl 0 rfl) ?_
  refine va_get (D := (dC, dI)) (ci := 19) (v := .ref sp) (C := RX15) (T := TX15) (N := 28) hx hb hts hiX15 hown hK hP 0 rfl rfl 12 (by decide) (hts (.fieldLink RX15 29 "SquareRigModel" "spread" "[I") (by decide +kernel)) (fun _ h9 => h9) rfl dX15_forceOf_7 ?_
  refine lv_iload_n hx hb dX15_forceOf_10 rfl (lv_at hl 1 rfl) ?_
  refine va_iald hx hb hK hP 1 0 rfl rfl (pk_in 1 9 (by decide) rfl) dX15_forceOf_11 ?_
  refine kc_v (y := .int 0) rfl ?_
  refine lv_imul hx hb dX15_forceOf_12 ?_
  refine kc_i (y := 0) (by decide +kernel) ?_
  refine lv_aload_n hx hb dX15_forceOf_13 rfl (lv_at hl 0 rfl) ?_
  refine va_get (D := (dC, dI)) (ci := 19) (v := .int 0) (C := RX15) (T := TX15) (N := 28) hx hb hts hiX15 hown hK hP 0 rfl rfl 1 (by decide) (hts (.fieldLink RX15 109 "SquareRigModel" "wind" "I") (by decide +kernel)) (fun _ h9 => h9) rfl dX15_forceOf_14 ?_
  refine lv_imul hx hb dX15_forceOf_17 ?_
  refine kc_i (y := 0) (by decide +kernel) ?_
  refine lv_aload_n hx hb dX15_forceOf_18 rfl (lv_at hl 0 rfl) ?_
  refine lv_iload_n hx hb dX15_forceOf_19 rfl (lv_at hl 1 rfl) ?_
  have hPc := hP.sub (ws' := [(mo, .inr (19, [.int 0, .int 0, .int 0, .int 0, .int 0, .int 0, .int tu, .ref ti, .ref si, .ref lo, .ref lh, .ref lk, .ref sp, .ref st, .ref pa, .ref br, .ref sg, .int mi, .int 0, .int 0, .int 0, .int fo, .int 0, .long pe, .long pn, .long re, .long rn, .int th])), (br, .inl (cbr, 3, .inl (fun _ => 0)))]) [0, 2] rfl
  have hDc := hD.sub (ws' := [(mo, .inr (19, [.int 0, .int 0, .int 0, .int 0, .int 0, .int 0, .int tu, .ref ti, .ref si, .ref lo, .ref lh, .ref lk, .ref sp, .ref st, .ref pa, .ref br, .ref sg, .int mi, .int 0, .int 0, .int 0, .int fo, .int 0, .long pe, .long pn, .long re, .long rn, .int th])), (br, .inl (cbr, 3, .inl (fun _ => 0)))]) [0, 2] (by decide) rfl
  have hKc := hK.sub (tys' := [(cbr, .int)]) [1] rfl
  have hFc := va_free (wc := [(mo, .inr (19, [.int 0, .int 0, .int 0, .int 0, .int 0, .int 0, .int tu, .ref ti, .ref si, .ref lo, .ref lh, .ref lk, .ref sp, .ref st, .ref pa, .ref br, .ref sg, .int mi, .int 0, .int 0, .int 0, .int fo, .int 0, .long pe, .long pn, .long re, .long rn, .int th])), (br, .inl (cbr, 3, .inl (fun _ => 0)))]) hD hS hA [0, 2] rfl
  refine va_calli (va_runV (As := [.int 1]) (rest := [.int 0]) ⟨hx, hb, hml, hown, hts⟩ (k_push_1 l dC dI z zK zV mi fo pe pn re rn mo ti si lo lh lk sp st pa br sg cbr th tu H.size) (cwV 1 hts gX15_forceOf_X15_push rfl rfl rfl (by decide +kernel) ⟨Nat.le_of_ble_eq_true rfl, Nat.le_of_ble_eq_true rfl⟩) ⟨kP_blind, va_recv hKc hPc (ci := 19) (q0 := 0) rfl rfl, kP_go hPc hKc hDc hFc hM hS⟩ rfl rfl hl.1 rfl (lv_room (Nat.le_of_ble_eq_true rfl)) dX15_forceOf_20 ⟨Nat.le_of_ble_eq_true rfl, Nat.le_of_ble_eq_true rfl⟩) hS (fun q _ h => hFc q h) hFc (fun r2 u t H1 locs ht hvm hw hB hz1 hk1 hS => ?_)
  obtain ⟨hP, hD, hK⟩ := kJ (wr := [(sp, .inl (csp, 9, .inl (fun _ => 0)))]) (w1 := [(br, .inl (cbr, 3, .inl (fun _ => 0))), (mo, .inr (19, [.int 0, .int 0, .int 0, .int 0, .int 0, .int 0, .int tu, .ref ti, .ref si, .ref lo, .ref lh, .ref lk, .ref sp, .ref st, .ref pa, .ref br, .ref sg, .int mi, .int 0, .int 0, .int 0, .int fo, .int 0, .long pe, .long pn, .long re, .long rn, .int th]))]) (t1 := []) hP hD hK [0, 2] [1] rfl rfl (by decide) (by decide) hk1 hFc ht hvm hB
  generalize H1 = H at hP hS ⊢
  have hP : va_P (dC, dI) vwCl [(sp, .inl (csp, 9, .inl (fun _ => 0))), (br, .inl (cbr, 3, .inl (fun _ => 0))), (mo, .inr (19, [.int 0, .int 0, .int 0, .int 0, .int 0, .int 0, .int tu, .ref ti, .ref si, .ref lo, .ref lh, .ref lk, .ref sp, .ref st, .ref pa, .ref br, .ref sg, .int mi, .int 0, .int 0, .int 0, .int fo, .int 0, .long pe, .long pn, .long re, .long rn, .int th]))] H := hP
  have hD : va_D A [(sp, .inl (csp, 9, .inl (fun _ => 0))), (br, .inl (cbr, 3, .inl (fun _ => 0))), (mo, .inr (19, [.int 0, .int 0, .int 0, .int 0, .int 0, .int 0, .int tu, .ref ti, .ref si, .ref lo, .ref lh, .ref lk, .ref sp, .ref st, .ref pa, .ref br, .ref sg, .int mi, .int 0, .int 0, .int 0, .int fo, .int 0, .long pe, .long pn, .long re, .long rn, .int th]))] := hD
  have hK : va_K (dC, dI) vwCl [(csp, .int), (cbr, .int)] s := hK
  obtain rfl : (-12) = r2 := hw
  refine lv_imul hx hb dX15_forceOf_23 ?_
  refine kc_i (y := 0) (by decide +kernel) ?_
  refine lv_iconst (v := 2) hx hb dX15_forceOf_24 (by decide) ?_
  refine lv_idiv hx hb dX15_forceOf_25 (by decide +kernel) ?_
  refine kc_i (y := 0) (by decide +kernel) ?_
  exact W.iret (v := 0) hx hb hr (fun t ht hW => ⟨⟨0, (), rfl, rfl, kB_end (w9 := [(sp, .inl (csp, 9, .inl (fun _ => 0))), (br, .inl (cbr, 3, .inl (fun _ => 0))), (mo, .inr (19, [.int 0, .int 0, .int 0, .int 0, .int 0, .int 0, .int tu, .ref ti, .ref si, .ref lo, .ref lh, .ref lk, .ref sp, .ref st, .ref pa, .ref br, .ref sg, .int mi, .int 0, .int 0, .int 0, .int fo, .int 0, .long pe, .long pn, .long re, .long rn, .int th]))]) (t9 := []) hP hK hD [0, 1, 2] [] rfl (by decide) rfl rfl t ht hW⟩, hS.F ht⟩) hS.2.2 dX15_forceOf_26
abbrev wd_k_forceOf_2 (z : Nat → Nat) (mi : Int32) (fo : Int32) (pe : Int64) (pn : Int64) (re : Int64) (rn : Int64) (mo : Nat) (ti : Nat) (si : Nat) (lo : Nat) (lh : Nat) (lk : Nat) (sp : Nat) (st : Nat) (pa : Nat) (br : Nat) (sg : Nat) (csp : ClassId) (cbr : ClassId) (th : Int32) (tu : Int32) : va_W := [(mo, .inr (19, [.int 0, .int 0, .int 0, .int 0, .int 0, .int 0, .int tu, .ref ti, .ref si, .ref lo, .ref lh, .ref lk, .ref sp, .ref st, .ref pa, .ref br, .ref sg, .int mi, .int 0, .int 0, .int 0, .int fo, .int 0, .long pe, .long pn, .long re, .long rn, .int th])), (sp, .inl (csp, 9, .inl (fun _ => 0))), (br, .inl (cbr, 3, .inl (fun _ => 0)))]
set_option maxHeartbeats 4000000 in
set_option maxRecDepth 100000 in
theorem k_forceOf_2 (l : Launch) (dC : Nat → ClassId) (dI : Nat → Nat → Nat) (z zK zV : Nat → Nat) (mi : Int32) (fo : Int32) (pe : Int64) (pn : Int64) (re : Int64) (rn : Int64) (mo : Nat) (ti : Nat) (si : Nat) (lo : Nat) (lh : Nat) (lk : Nat) (sp : Nat) (st : Nat) (pa : Nat) (br : Nat) (sg : Nat) (csp : ClassId) (cbr : ClassId) (th : Int32) (tu : Int32) (sz : Nat)  : Met l yX15_forceOf wsX15_forceOf ({ frames := 7, cells := 0, slots := 0, locals := 150 }) (kP dC dI z zK zV [.ref mo, .int 2] sz (wd_k_forceOf_2 z mi fo pe pn re rn mo ti si lo lh lk sp st pa br sg csp cbr th tu) [(csp, .int), (cbr, .int)]) (va_Qi (fun (r : Int32) (_ : Unit) => 0 = r) (fun _ t => kB (dC, dI) (va_A (wd_k_forceOf_2 z mi fo pe pn re rn mo ti si lo lh lk sp st pa br sg csp cbr th tu) sz) [(sp, .inl (csp, 9, .inl (fun _ => 0))), (br, .inl (cbr, 3, .inl (fun _ => 0))), (mo, .inr (19, [.int 0, .int 0, .int 0, .int 0, .int 0, .int 0, .int tu, .ref ti, .ref si, .ref lo, .ref lh, .ref lk, .ref sp, .ref st, .ref pa, .ref br, .ref sg, .int mi, .int 0, .int 0, .int 0, .int fo, .int 0, .long pe, .long pn, .long re, .long rn, .int th]))] [] t) (va_A (wd_k_forceOf_2 z mi fo pe pn re rn mo ti si lo lh lk sp st pa br sg csp cbr th tu) sz)) 0 0 (va_A (wd_k_forceOf_2 z mi fo pe pn re rn mo ti si lo lh lk sp st pa br sg csp cbr th tu) sz) := by
  refine Met.ofW (cc := cX15_forceOf) (maxL := 2) (ret := (some .int)) (by decide) rfl ?_
  intro p e s m args below meth c s₁ B hml hv
  obtain ⟨rfl, hsz, hP, hK, hD0, hM⟩ := hv
  have hx := B.exec
  have hb := B.bytes
  have hr := B.returns
  have hts := atoms_spec (ws := wsX15_forceOf) B.pre
  have hown : s.vm.findClass RX15 = some m.cls := findClass_of_methodNamed B.named
  have hlocks := B.notSynchronized
  have hiX15 : ∀ w ∈ u_ws RX15 TX15 28, w ∈ wsX15_forceOf := by decide +kernel
  subst hsz
  have hD := hD0.self (sz := s.heap.size)
  generalize hAe : va_A (wd_k_forceOf_2 z mi fo pe pn re rn mo ti si lo lh lk sp st pa br sg csp cbr th tu) s.heap.size = A at hD hM ⊢
  have hA : ∀ q : Nat, s.heap.size ≤ q → A q := fun q h => by rw [← hAe]; exact Or.inr h
  have hS : va_S A s.heap s.heap [] := va_S.rf
  have hP : va_P (dC, dI) vwCl [(mo, .inr (19, [.int 0, .int 0, .int 0, .int 0, .int 0, .int 0, .int tu, .ref ti, .ref si, .ref lo, .ref lh, .ref lk, .ref sp, .ref st, .ref pa, .ref br, .ref sg, .int mi, .int 0, .int 0, .int 0, .int fo, .int 0, .long pe, .long pn, .long re, .long rn, .int th])), (sp, .inl (csp, 9, .inl (fun _ => 0))), (br, .inl (cbr, 3, .inl (fun _ => 0)))] s.heap := hP
  have hD : va_D A [(mo, .inr (19, [.int 0, .int 0, .int 0, .int 0, .int 0, .int 0, .int tu, .ref ti, .ref si, .ref lo, .ref lh, .ref lk, .ref sp, .ref st, .ref pa, .ref br, .ref sg, .int mi, .int 0, .int 0, .int 0, .int fo, .int 0, .long pe, .long pn, .long re, .long rn, .int th])), (sp, .inl (csp, 9, .inl (fun _ => 0))), (br, .inl (cbr, 3, .inl (fun _ => 0)))] := hD
  have hl := lv_entry ([.ref mo, .int 2]) (n := 2) (Nat.le_of_ble_eq_true rfl)
  rw [lg_entry_eq]
  generalize (lg_sl ([.ref mo, .int 2]) ++ List.replicate (2 - (lg_sl ([.ref mo, .int 2])).length) Slot.unset).toArray = ls at hl ⊢
  have hl : lv_has ls 2 [(0, .ref mo), (1, .int 2)] := hl
  refine va_ldcS hx hb hown (hM.2.2.1 3 _ rfl) dX15_forceOf_0 ?_
  refine lv_iload_n hx hb dX15_forceOf_2 rfl (lv_at hl 1 rfl) ?_
  have hPc := hP.sub (ws' := []) [] rfl
  have hDc := hD.sub (ws' := []) [] (by decide) rfl
  have hKc := hK.sub (tys' := []) [] rfl
  have hFc := va_free (wc := []) hD hS hA [] rfl
  refine va_calli (va_runS (As := [.ref (zK 3), .int 2]) (rest := []) ⟨hx, hb, hml, hown, hts⟩ (k_digit3_2 l dC dI z zK zV  s.heap.size) (va_cwS 2 hts gX15_forceOf_X15_digit rfl rfl rfl (by decide +kernel) ⟨Nat.le_of_ble_eq_true rfl, Nat.le_of_ble_eq_true rfl⟩) ⟨kP_blind, kP_go hPc hKc hDc hFc hM hS⟩ rfl rfl hl.1 rfl (lv_room (Nat.le_of_ble_eq_true rfl)) dX15_forceOf_3 ⟨Nat.le_of_ble_eq_true rfl, Nat.le_of_ble_eq_true rfl⟩) hS (fun q _ h => hFc q h) hFc (fun r1 u t H1 locs ht hvm hw hB hz1 hk1 hS => ?_)
  obtain ⟨hP, hD, hK⟩ := kJ (wr := [(mo, .inr (19, [.int 0, .int 0, .int 0, .int 0, .int 0, .int 0, .int tu, .ref ti, .ref si, .ref lo, .ref lh, .ref lk, .ref sp, .ref st, .ref pa, .ref br, .ref sg, .int mi, .int 0, .int 0, .int 0, .int fo, .int 0, .long pe, .long pn, .long re, .long rn, .int th])), (sp, .inl (csp, 9, .inl (fun _ => 0))), (br, .inl (cbr, 3, .inl (fun _ => 0)))]) (w1 := []) (t1 := []) hP hD hK [] [0, 1, 2] rfl rfl (by decide) (by decide) hk1 hFc ht hvm hB
  generalize H1 = H at hP hS ⊢
  have hP : va_P (dC, dI) vwCl [(mo, .inr (19, [.int 0, .int 0, .int 0, .int 0, .int 0, .int 0, .int tu, .ref ti, .ref si, .ref lo, .ref lh, .ref lk, .ref sp, .ref st, .ref pa, .ref br, .ref sg, .int mi, .int 0, .int 0, .int 0, .int fo, .int 0, .long pe, .long pn, .long re, .long rn, .int th])), (sp, .inl (csp, 9, .inl (fun _ => 0))), (br, .inl (cbr, 3, .inl (fun _ => 0)))] H := hP
  have hD : va_D A [(mo, .inr (19, [.int 0, .int 0, .int 0, .int 0, .int 0, .int 0, .int tu, .ref ti, .ref si, .ref lo, .ref lh, .ref lk, .ref sp, .ref st, .ref pa, .ref br, .ref sg, .int mi, .int 0, .int 0, .int 0, .int fo, .int 0, .long pe, .long pn, .long re, .long rn, .int th])), (sp, .inl (csp, 9, .inl (fun _ => 0))), (br, .inl (cbr, 3, .inl (fun _ => 0)))] := hD
  have hK : va_K (dC, dI) vwCl [(csp, .int), (cbr, .int)] s := hK
  obtain rfl : 3 = r1 := hw
  refine lv_aload_n hx hb dX15_forceOf_6 rfl (lv_at hl 0 rfl) ?_
  refine va_get (D := (dC, dI)) (ci := 19) (v := .ref sp) (C := RX15) (T := TX15) (N := 28) hx hb hts hiX15 hown hK hP 0 rfl rfl 12 (by decide) (hts (.fieldLink RX15 29 "SquareRigModel" "spread" "[I") (by decide +kernel)) (fun _ h9 => h9) rfl dX15_forceOf_7 ?_
  refine lv_iload_n hx hb dX15_forceOf_10 rfl (lv_at hl 1 rfl) ?_
  refine va_iald hx hb hK hP 1 0 rfl rfl (pk_in 2 9 (by decide) rfl) dX15_forceOf_11 ?_
  refine kc_v (y := .int 0) rfl ?_
  refine lv_imul hx hb dX15_forceOf_12 ?_
  refine kc_i (y := 0) (by decide +kernel) ?_
  refine lv_aload_n hx hb dX15_forceOf_13 rfl (lv_at hl 0 rfl) ?_
  refine va_get (D := (dC, dI)) (ci := 19) (v := .int 0) (C := RX15) (T := TX15) (N := 28) hx hb hts hiX15 hown hK hP 0 rfl rfl 1 (by decide) (hts (.fieldLink RX15 109 "SquareRigModel" "wind" "I") (by decide +kernel)) (fun _ h9 => h9) rfl dX15_forceOf_14 ?_
  refine lv_imul hx hb dX15_forceOf_17 ?_
  refine kc_i (y := 0) (by decide +kernel) ?_
  refine lv_aload_n hx hb dX15_forceOf_18 rfl (lv_at hl 0 rfl) ?_
  refine lv_iload_n hx hb dX15_forceOf_19 rfl (lv_at hl 1 rfl) ?_
  have hPc := hP.sub (ws' := [(mo, .inr (19, [.int 0, .int 0, .int 0, .int 0, .int 0, .int 0, .int tu, .ref ti, .ref si, .ref lo, .ref lh, .ref lk, .ref sp, .ref st, .ref pa, .ref br, .ref sg, .int mi, .int 0, .int 0, .int 0, .int fo, .int 0, .long pe, .long pn, .long re, .long rn, .int th])), (br, .inl (cbr, 3, .inl (fun _ => 0)))]) [0, 2] rfl
  have hDc := hD.sub (ws' := [(mo, .inr (19, [.int 0, .int 0, .int 0, .int 0, .int 0, .int 0, .int tu, .ref ti, .ref si, .ref lo, .ref lh, .ref lk, .ref sp, .ref st, .ref pa, .ref br, .ref sg, .int mi, .int 0, .int 0, .int 0, .int fo, .int 0, .long pe, .long pn, .long re, .long rn, .int th])), (br, .inl (cbr, 3, .inl (fun _ => 0)))]) [0, 2] (by decide) rfl
  have hKc := hK.sub (tys' := [(cbr, .int)]) [1] rfl
  have hFc := va_free (wc := [(mo, .inr (19, [.int 0, .int 0, .int 0, .int 0, .int 0, .int 0, .int tu, .ref ti, .ref si, .ref lo, .ref lh, .ref lk, .ref sp, .ref st, .ref pa, .ref br, .ref sg, .int mi, .int 0, .int 0, .int 0, .int fo, .int 0, .long pe, .long pn, .long re, .long rn, .int th])), (br, .inl (cbr, 3, .inl (fun _ => 0)))]) hD hS hA [0, 2] rfl
  refine va_calli (va_runV (As := [.int 2]) (rest := [.int 0]) ⟨hx, hb, hml, hown, hts⟩ (k_push_2 l dC dI z zK zV mi fo pe pn re rn mo ti si lo lh lk sp st pa br sg cbr th tu H.size) (cwV 1 hts gX15_forceOf_X15_push rfl rfl rfl (by decide +kernel) ⟨Nat.le_of_ble_eq_true rfl, Nat.le_of_ble_eq_true rfl⟩) ⟨kP_blind, va_recv hKc hPc (ci := 19) (q0 := 0) rfl rfl, kP_go hPc hKc hDc hFc hM hS⟩ rfl rfl hl.1 rfl (lv_room (Nat.le_of_ble_eq_true rfl)) dX15_forceOf_20 ⟨Nat.le_of_ble_eq_true rfl, Nat.le_of_ble_eq_true rfl⟩) hS (fun q _ h => hFc q h) hFc (fun r2 u t H1 locs ht hvm hw hB hz1 hk1 hS => ?_)
  obtain ⟨hP, hD, hK⟩ := kJ (wr := [(sp, .inl (csp, 9, .inl (fun _ => 0)))]) (w1 := [(br, .inl (cbr, 3, .inl (fun _ => 0))), (mo, .inr (19, [.int 0, .int 0, .int 0, .int 0, .int 0, .int 0, .int tu, .ref ti, .ref si, .ref lo, .ref lh, .ref lk, .ref sp, .ref st, .ref pa, .ref br, .ref sg, .int mi, .int 0, .int 0, .int 0, .int fo, .int 0, .long pe, .long pn, .long re, .long rn, .int th]))]) (t1 := []) hP hD hK [0, 2] [1] rfl rfl (by decide) (by decide) hk1 hFc ht hvm hB
  generalize H1 = H at hP hS ⊢
  have hP : va_P (dC, dI) vwCl [(sp, .inl (csp, 9, .inl (fun _ => 0))), (br, .inl (cbr, 3, .inl (fun _ => 0))), (mo, .inr (19, [.int 0, .int 0, .int 0, .int 0, .int 0, .int 0, .int tu, .ref ti, .ref si, .ref lo, .ref lh, .ref lk, .ref sp, .ref st, .ref pa, .ref br, .ref sg, .int mi, .int 0, .int 0, .int 0, .int fo, .int 0, .long pe, .long pn, .long re, .long rn, .int th]))] H := hP
  have hD : va_D A [(sp, .inl (csp, 9, .inl (fun _ => 0))), (br, .inl (cbr, 3, .inl (fun _ => 0))), (mo, .inr (19, [.int 0, .int 0, .int 0, .int 0, .int 0, .int 0, .int tu, .ref ti, .ref si, .ref lo, .ref lh, .ref lk, .ref sp, .ref st, .ref pa, .ref br, .ref sg, .int mi, .int 0, .int 0, .int 0, .int fo, .int 0, .long pe, .long pn, .long re, .long rn, .int th]))] := hD
  have hK : va_K (dC, dI) vwCl [(csp, .int), (cbr, .int)] s := hK
  obtain rfl : (-12) = r2 := hw
  refine lv_imul hx hb dX15_forceOf_23 ?_
  refine kc_i (y := 0) (by decide +kernel) ?_
  refine lv_iconst (v := 2) hx hb dX15_forceOf_24 (by decide) ?_
  refine lv_idiv hx hb dX15_forceOf_25 (by decide +kernel) ?_
  refine kc_i (y := 0) (by decide +kernel) ?_
  exact W.iret (v := 0) hx hb hr (fun t ht hW => ⟨⟨0, (), rfl, rfl, kB_end (w9 := [(sp, .inl (csp, 9, .inl (fun _ => 0))), (br, .inl (cbr, 3, .inl (fun _ => 0))), (mo, .inr (19, [.int 0, .int 0, .int 0, .int 0, .int 0, .int 0, .int tu, .ref ti, .ref si, .ref lo, .ref lh, .ref lk, .ref sp, .ref st, .ref pa, .ref br, .ref sg, .int mi, .int 0, .int 0, .int 0, .int fo, .int 0, .long pe, .long pn, .long re, .long rn, .int th]))]) (t9 := []) hP hK hD [0, 1, 2] [] rfl (by decide) rfl rfl t ht hW⟩, hS.F ht⟩) hS.2.2 dX15_forceOf_26
abbrev wd_k_forceOf_3 (z : Nat → Nat) (mi : Int32) (fo : Int32) (pe : Int64) (pn : Int64) (re : Int64) (rn : Int64) (mo : Nat) (ti : Nat) (si : Nat) (lo : Nat) (lh : Nat) (lk : Nat) (sp : Nat) (st : Nat) (pa : Nat) (br : Nat) (sg : Nat) (csp : ClassId) (cbr : ClassId) (th : Int32) (tu : Int32) : va_W := [(mo, .inr (19, [.int 0, .int 0, .int 0, .int 0, .int 0, .int 0, .int tu, .ref ti, .ref si, .ref lo, .ref lh, .ref lk, .ref sp, .ref st, .ref pa, .ref br, .ref sg, .int mi, .int 0, .int 0, .int 0, .int fo, .int 0, .long pe, .long pn, .long re, .long rn, .int th])), (sp, .inl (csp, 9, .inl (fun _ => 0))), (br, .inl (cbr, 3, .inl (fun _ => 0)))]
set_option maxHeartbeats 4000000 in
set_option maxRecDepth 100000 in
theorem k_forceOf_3 (l : Launch) (dC : Nat → ClassId) (dI : Nat → Nat → Nat) (z zK zV : Nat → Nat) (mi : Int32) (fo : Int32) (pe : Int64) (pn : Int64) (re : Int64) (rn : Int64) (mo : Nat) (ti : Nat) (si : Nat) (lo : Nat) (lh : Nat) (lk : Nat) (sp : Nat) (st : Nat) (pa : Nat) (br : Nat) (sg : Nat) (csp : ClassId) (cbr : ClassId) (th : Int32) (tu : Int32) (sz : Nat)  : Met l yX15_forceOf wsX15_forceOf ({ frames := 7, cells := 0, slots := 0, locals := 150 }) (kP dC dI z zK zV [.ref mo, .int 3] sz (wd_k_forceOf_3 z mi fo pe pn re rn mo ti si lo lh lk sp st pa br sg csp cbr th tu) [(csp, .int), (cbr, .int)]) (va_Qi (fun (r : Int32) (_ : Unit) => 0 = r) (fun _ t => kB (dC, dI) (va_A (wd_k_forceOf_3 z mi fo pe pn re rn mo ti si lo lh lk sp st pa br sg csp cbr th tu) sz) [(sp, .inl (csp, 9, .inl (fun _ => 0))), (br, .inl (cbr, 3, .inl (fun _ => 0))), (mo, .inr (19, [.int 0, .int 0, .int 0, .int 0, .int 0, .int 0, .int tu, .ref ti, .ref si, .ref lo, .ref lh, .ref lk, .ref sp, .ref st, .ref pa, .ref br, .ref sg, .int mi, .int 0, .int 0, .int 0, .int fo, .int 0, .long pe, .long pn, .long re, .long rn, .int th]))] [] t) (va_A (wd_k_forceOf_3 z mi fo pe pn re rn mo ti si lo lh lk sp st pa br sg csp cbr th tu) sz)) 0 0 (va_A (wd_k_forceOf_3 z mi fo pe pn re rn mo ti si lo lh lk sp st pa br sg csp cbr th tu) sz) := by
  refine Met.ofW (cc := cX15_forceOf) (maxL := 2) (ret := (some .int)) (by decide) rfl ?_
  intro p e s m args below meth c s₁ B hml hv
  obtain ⟨rfl, hsz, hP, hK, hD0, hM⟩ := hv
  have hx := B.exec
  have hb := B.bytes
  have hr := B.returns
  have hts := atoms_spec (ws := wsX15_forceOf) B.pre
  have hown : s.vm.findClass RX15 = some m.cls := findClass_of_methodNamed B.named
  have hlocks := B.notSynchronized
  have hiX15 : ∀ w ∈ u_ws RX15 TX15 28, w ∈ wsX15_forceOf := by decide +kernel
  subst hsz
  have hD := hD0.self (sz := s.heap.size)
  generalize hAe : va_A (wd_k_forceOf_3 z mi fo pe pn re rn mo ti si lo lh lk sp st pa br sg csp cbr th tu) s.heap.size = A at hD hM ⊢
  have hA : ∀ q : Nat, s.heap.size ≤ q → A q := fun q h => by rw [← hAe]; exact Or.inr h
  have hS : va_S A s.heap s.heap [] := va_S.rf
  have hP : va_P (dC, dI) vwCl [(mo, .inr (19, [.int 0, .int 0, .int 0, .int 0, .int 0, .int 0, .int tu, .ref ti, .ref si, .ref lo, .ref lh, .ref lk, .ref sp, .ref st, .ref pa, .ref br, .ref sg, .int mi, .int 0, .int 0, .int 0, .int fo, .int 0, .long pe, .long pn, .long re, .long rn, .int th])), (sp, .inl (csp, 9, .inl (fun _ => 0))), (br, .inl (cbr, 3, .inl (fun _ => 0)))] s.heap := hP
  have hD : va_D A [(mo, .inr (19, [.int 0, .int 0, .int 0, .int 0, .int 0, .int 0, .int tu, .ref ti, .ref si, .ref lo, .ref lh, .ref lk, .ref sp, .ref st, .ref pa, .ref br, .ref sg, .int mi, .int 0, .int 0, .int 0, .int fo, .int 0, .long pe, .long pn, .long re, .long rn, .int th])), (sp, .inl (csp, 9, .inl (fun _ => 0))), (br, .inl (cbr, 3, .inl (fun _ => 0)))] := hD
  have hl := lv_entry ([.ref mo, .int 3]) (n := 2) (Nat.le_of_ble_eq_true rfl)
  rw [lg_entry_eq]
  generalize (lg_sl ([.ref mo, .int 3]) ++ List.replicate (2 - (lg_sl ([.ref mo, .int 3])).length) Slot.unset).toArray = ls at hl ⊢
  have hl : lv_has ls 2 [(0, .ref mo), (1, .int 3)] := hl
  refine va_ldcS hx hb hown (hM.2.2.1 3 _ rfl) dX15_forceOf_0 ?_
  refine lv_iload_n hx hb dX15_forceOf_2 rfl (lv_at hl 1 rfl) ?_
  have hPc := hP.sub (ws' := []) [] rfl
  have hDc := hD.sub (ws' := []) [] (by decide) rfl
  have hKc := hK.sub (tys' := []) [] rfl
  have hFc := va_free (wc := []) hD hS hA [] rfl
  refine va_calli (va_runS (As := [.ref (zK 3), .int 3]) (rest := []) ⟨hx, hb, hml, hown, hts⟩ (k_digit3_3 l dC dI z zK zV  s.heap.size) (va_cwS 2 hts gX15_forceOf_X15_digit rfl rfl rfl (by decide +kernel) ⟨Nat.le_of_ble_eq_true rfl, Nat.le_of_ble_eq_true rfl⟩) ⟨kP_blind, kP_go hPc hKc hDc hFc hM hS⟩ rfl rfl hl.1 rfl (lv_room (Nat.le_of_ble_eq_true rfl)) dX15_forceOf_3 ⟨Nat.le_of_ble_eq_true rfl, Nat.le_of_ble_eq_true rfl⟩) hS (fun q _ h => hFc q h) hFc (fun r1 u t H1 locs ht hvm hw hB hz1 hk1 hS => ?_)
  obtain ⟨hP, hD, hK⟩ := kJ (wr := [(mo, .inr (19, [.int 0, .int 0, .int 0, .int 0, .int 0, .int 0, .int tu, .ref ti, .ref si, .ref lo, .ref lh, .ref lk, .ref sp, .ref st, .ref pa, .ref br, .ref sg, .int mi, .int 0, .int 0, .int 0, .int fo, .int 0, .long pe, .long pn, .long re, .long rn, .int th])), (sp, .inl (csp, 9, .inl (fun _ => 0))), (br, .inl (cbr, 3, .inl (fun _ => 0)))]) (w1 := []) (t1 := []) hP hD hK [] [0, 1, 2] rfl rfl (by decide) (by decide) hk1 hFc ht hvm hB
  generalize H1 = H at hP hS ⊢
  have hP : va_P (dC, dI) vwCl [(mo, .inr (19, [.int 0, .int 0, .int 0, .int 0, .int 0, .int 0, .int tu, .ref ti, .ref si, .ref lo, .ref lh, .ref lk, .ref sp, .ref st, .ref pa, .ref br, .ref sg, .int mi, .int 0, .int 0, .int 0, .int fo, .int 0, .long pe, .long pn, .long re, .long rn, .int th])), (sp, .inl (csp, 9, .inl (fun _ => 0))), (br, .inl (cbr, 3, .inl (fun _ => 0)))] H := hP
  have hD : va_D A [(mo, .inr (19, [.int 0, .int 0, .int 0, .int 0, .int 0, .int 0, .int tu, .ref ti, .ref si, .ref lo, .ref lh, .ref lk, .ref sp, .ref st, .ref pa, .ref br, .ref sg, .int mi, .int 0, .int 0, .int 0, .int fo, .int 0, .long pe, .long pn, .long re, .long rn, .int th])), (sp, .inl (csp, 9, .inl (fun _ => 0))), (br, .inl (cbr, 3, .inl (fun _ => 0)))] := hD
  have hK : va_K (dC, dI) vwCl [(csp, .int), (cbr, .int)] s := hK
  obtain rfl : 10 = r1 := hw
  refine lv_aload_n hx hb dX15_forceOf_6 rfl (lv_at hl 0 rfl) ?_
  refine va_get (D := (dC, dI)) (ci := 19) (v := .ref sp) (C := RX15) (T := TX15) (N := 28) hx hb hts hiX15 hown hK hP 0 rfl rfl 12 (by decide) (hts (.fieldLink RX15 29 "SquareRigModel" "spread" "[I") (by decide +kernel)) (fun _ h9 => h9) rfl dX15_forceOf_7 ?_
  refine lv_iload_n hx hb dX15_forceOf_10 rfl (lv_at hl 1 rfl) ?_
  refine va_iald hx hb hK hP 1 0 rfl rfl (pk_in 3 9 (by decide) rfl) dX15_forceOf_11 ?_
  refine kc_v (y := .int 0) rfl ?_
  refine lv_imul hx hb dX15_forceOf_12 ?_
  refine kc_i (y := 0) (by decide +kernel) ?_
  refine lv_aload_n hx hb dX15_forceOf_13 rfl (lv_at hl 0 rfl) ?_
  refine va_get (D := (dC, dI)) (ci := 19) (v := .int 0) (C := RX15) (T := TX15) (N := 28) hx hb hts hiX15 hown hK hP 0 rfl rfl 1 (by decide) (hts (.fieldLink RX15 109 "SquareRigModel" "wind" "I") (by decide +kernel)) (fun _ h9 => h9) rfl dX15_forceOf_14 ?_
  refine lv_imul hx hb dX15_forceOf_17 ?_
  refine kc_i (y := 0) (by decide +kernel) ?_
  refine lv_aload_n hx hb dX15_forceOf_18 rfl (lv_at hl 0 rfl) ?_
  refine lv_iload_n hx hb dX15_forceOf_19 rfl (lv_at hl 1 rfl) ?_
  have hPc := hP.sub (ws' := [(mo, .inr (19, [.int 0, .int 0, .int 0, .int 0, .int 0, .int 0, .int tu, .ref ti, .ref si, .ref lo, .ref lh, .ref lk, .ref sp, .ref st, .ref pa, .ref br, .ref sg, .int mi, .int 0, .int 0, .int 0, .int fo, .int 0, .long pe, .long pn, .long re, .long rn, .int th])), (br, .inl (cbr, 3, .inl (fun _ => 0)))]) [0, 2] rfl
  have hDc := hD.sub (ws' := [(mo, .inr (19, [.int 0, .int 0, .int 0, .int 0, .int 0, .int 0, .int tu, .ref ti, .ref si, .ref lo, .ref lh, .ref lk, .ref sp, .ref st, .ref pa, .ref br, .ref sg, .int mi, .int 0, .int 0, .int 0, .int fo, .int 0, .long pe, .long pn, .long re, .long rn, .int th])), (br, .inl (cbr, 3, .inl (fun _ => 0)))]) [0, 2] (by decide) rfl
  have hKc := hK.sub (tys' := [(cbr, .int)]) [1] rfl
  have hFc := va_free (wc := [(mo, .inr (19, [.int 0, .int 0, .int 0, .int 0, .int 0, .int 0, .int tu, .ref ti, .ref si, .ref lo, .ref lh, .ref lk, .ref sp, .ref st, .ref pa, .ref br, .ref sg, .int mi, .int 0, .int 0, .int 0, .int fo, .int 0, .long pe, .long pn, .long re, .long rn, .int th])), (br, .inl (cbr, 3, .inl (fun _ => 0)))]) hD hS hA [0, 2] rfl
  refine va_calli (va_runV (As := [.int 3]) (rest := [.int 0]) ⟨hx, hb, hml, hown, hts⟩ (k_push_3 l dC dI z zK zV mi fo pe pn re rn mo ti si lo lh lk sp st pa br sg cbr th tu H.size) (cwV 1 hts gX15_forceOf_X15_push rfl rfl rfl (by decide +kernel) ⟨Nat.le_of_ble_eq_true rfl, Nat.le_of_ble_eq_true rfl⟩) ⟨kP_blind, va_recv hKc hPc (ci := 19) (q0 := 0) rfl rfl, kP_go hPc hKc hDc hFc hM hS⟩ rfl rfl hl.1 rfl (lv_room (Nat.le_of_ble_eq_true rfl)) dX15_forceOf_20 ⟨Nat.le_of_ble_eq_true rfl, Nat.le_of_ble_eq_true rfl⟩) hS (fun q _ h => hFc q h) hFc (fun r2 u t H1 locs ht hvm hw hB hz1 hk1 hS => ?_)
  obtain ⟨hP, hD, hK⟩ := kJ (wr := [(sp, .inl (csp, 9, .inl (fun _ => 0)))]) (w1 := [(br, .inl (cbr, 3, .inl (fun _ => 0))), (mo, .inr (19, [.int 0, .int 0, .int 0, .int 0, .int 0, .int 0, .int tu, .ref ti, .ref si, .ref lo, .ref lh, .ref lk, .ref sp, .ref st, .ref pa, .ref br, .ref sg, .int mi, .int 0, .int 0, .int 0, .int fo, .int 0, .long pe, .long pn, .long re, .long rn, .int th]))]) (t1 := []) hP hD hK [0, 2] [1] rfl rfl (by decide) (by decide) hk1 hFc ht hvm hB
  generalize H1 = H at hP hS ⊢
  have hP : va_P (dC, dI) vwCl [(sp, .inl (csp, 9, .inl (fun _ => 0))), (br, .inl (cbr, 3, .inl (fun _ => 0))), (mo, .inr (19, [.int 0, .int 0, .int 0, .int 0, .int 0, .int 0, .int tu, .ref ti, .ref si, .ref lo, .ref lh, .ref lk, .ref sp, .ref st, .ref pa, .ref br, .ref sg, .int mi, .int 0, .int 0, .int 0, .int fo, .int 0, .long pe, .long pn, .long re, .long rn, .int th]))] H := hP
  have hD : va_D A [(sp, .inl (csp, 9, .inl (fun _ => 0))), (br, .inl (cbr, 3, .inl (fun _ => 0))), (mo, .inr (19, [.int 0, .int 0, .int 0, .int 0, .int 0, .int 0, .int tu, .ref ti, .ref si, .ref lo, .ref lh, .ref lk, .ref sp, .ref st, .ref pa, .ref br, .ref sg, .int mi, .int 0, .int 0, .int 0, .int fo, .int 0, .long pe, .long pn, .long re, .long rn, .int th]))] := hD
  have hK : va_K (dC, dI) vwCl [(csp, .int), (cbr, .int)] s := hK
  obtain rfl : (-12) = r2 := hw
  refine lv_imul hx hb dX15_forceOf_23 ?_
  refine kc_i (y := 0) (by decide +kernel) ?_
  refine lv_iconst (v := 2) hx hb dX15_forceOf_24 (by decide) ?_
  refine lv_idiv hx hb dX15_forceOf_25 (by decide +kernel) ?_
  refine kc_i (y := 0) (by decide +kernel) ?_
  exact W.iret (v := 0) hx hb hr (fun t ht hW => ⟨⟨0, (), rfl, rfl, kB_end (w9 := [(sp, .inl (csp, 9, .inl (fun _ => 0))), (br, .inl (cbr, 3, .inl (fun _ => 0))), (mo, .inr (19, [.int 0, .int 0, .int 0, .int 0, .int 0, .int 0, .int tu, .ref ti, .ref si, .ref lo, .ref lh, .ref lk, .ref sp, .ref st, .ref pa, .ref br, .ref sg, .int mi, .int 0, .int 0, .int 0, .int fo, .int 0, .long pe, .long pn, .long re, .long rn, .int th]))]) (t9 := []) hP hK hD [0, 1, 2] [] rfl (by decide) rfl rfl t ht hW⟩, hS.F ht⟩) hS.2.2 dX15_forceOf_26
abbrev wd_k_forceOf_4 (z : Nat → Nat) (mi : Int32) (fo : Int32) (pe : Int64) (pn : Int64) (re : Int64) (rn : Int64) (mo : Nat) (ti : Nat) (si : Nat) (lo : Nat) (lh : Nat) (lk : Nat) (sp : Nat) (st : Nat) (pa : Nat) (br : Nat) (sg : Nat) (csp : ClassId) (cbr : ClassId) (th : Int32) (tu : Int32) : va_W := [(mo, .inr (19, [.int 0, .int 0, .int 0, .int 0, .int 0, .int 0, .int tu, .ref ti, .ref si, .ref lo, .ref lh, .ref lk, .ref sp, .ref st, .ref pa, .ref br, .ref sg, .int mi, .int 0, .int 0, .int 0, .int fo, .int 0, .long pe, .long pn, .long re, .long rn, .int th])), (sp, .inl (csp, 9, .inl (fun _ => 0))), (br, .inl (cbr, 3, .inl (fun _ => 0)))]
set_option maxHeartbeats 4000000 in
set_option maxRecDepth 100000 in
theorem k_forceOf_4 (l : Launch) (dC : Nat → ClassId) (dI : Nat → Nat → Nat) (z zK zV : Nat → Nat) (mi : Int32) (fo : Int32) (pe : Int64) (pn : Int64) (re : Int64) (rn : Int64) (mo : Nat) (ti : Nat) (si : Nat) (lo : Nat) (lh : Nat) (lk : Nat) (sp : Nat) (st : Nat) (pa : Nat) (br : Nat) (sg : Nat) (csp : ClassId) (cbr : ClassId) (th : Int32) (tu : Int32) (sz : Nat)  : Met l yX15_forceOf wsX15_forceOf ({ frames := 7, cells := 0, slots := 0, locals := 150 }) (kP dC dI z zK zV [.ref mo, .int 4] sz (wd_k_forceOf_4 z mi fo pe pn re rn mo ti si lo lh lk sp st pa br sg csp cbr th tu) [(csp, .int), (cbr, .int)]) (va_Qi (fun (r : Int32) (_ : Unit) => 0 = r) (fun _ t => kB (dC, dI) (va_A (wd_k_forceOf_4 z mi fo pe pn re rn mo ti si lo lh lk sp st pa br sg csp cbr th tu) sz) [(sp, .inl (csp, 9, .inl (fun _ => 0))), (br, .inl (cbr, 3, .inl (fun _ => 0))), (mo, .inr (19, [.int 0, .int 0, .int 0, .int 0, .int 0, .int 0, .int tu, .ref ti, .ref si, .ref lo, .ref lh, .ref lk, .ref sp, .ref st, .ref pa, .ref br, .ref sg, .int mi, .int 0, .int 0, .int 0, .int fo, .int 0, .long pe, .long pn, .long re, .long rn, .int th]))] [] t) (va_A (wd_k_forceOf_4 z mi fo pe pn re rn mo ti si lo lh lk sp st pa br sg csp cbr th tu) sz)) 0 0 (va_A (wd_k_forceOf_4 z mi fo pe pn re rn mo ti si lo lh lk sp st pa br sg csp cbr th tu) sz) := by
  refine Met.ofW (cc := cX15_forceOf) (maxL := 2) (ret := (some .int)) (by decide) rfl ?_
  intro p e s m args below meth c s₁ B hml hv
  obtain ⟨rfl, hsz, hP, hK, hD0, hM⟩ := hv
  have hx := B.exec
  have hb := B.bytes
  have hr := B.returns
  have hts := atoms_spec (ws := wsX15_forceOf) B.pre
  have hown : s.vm.findClass RX15 = some m.cls := findClass_of_methodNamed B.named
  have hlocks := B.notSynchronized
  have hiX15 : ∀ w ∈ u_ws RX15 TX15 28, w ∈ wsX15_forceOf := by decide +kernel
  subst hsz
  have hD := hD0.self (sz := s.heap.size)
  generalize hAe : va_A (wd_k_forceOf_4 z mi fo pe pn re rn mo ti si lo lh lk sp st pa br sg csp cbr th tu) s.heap.size = A at hD hM ⊢
  have hA : ∀ q : Nat, s.heap.size ≤ q → A q := fun q h => by rw [← hAe]; exact Or.inr h
  have hS : va_S A s.heap s.heap [] := va_S.rf
  have hP : va_P (dC, dI) vwCl [(mo, .inr (19, [.int 0, .int 0, .int 0, .int 0, .int 0, .int 0, .int tu, .ref ti, .ref si, .ref lo, .ref lh, .ref lk, .ref sp, .ref st, .ref pa, .ref br, .ref sg, .int mi, .int 0, .int 0, .int 0, .int fo, .int 0, .long pe, .long pn, .long re, .long rn, .int th])), (sp, .inl (csp, 9, .inl (fun _ => 0))), (br, .inl (cbr, 3, .inl (fun _ => 0)))] s.heap := hP
  have hD : va_D A [(mo, .inr (19, [.int 0, .int 0, .int 0, .int 0, .int 0, .int 0, .int tu, .ref ti, .ref si, .ref lo, .ref lh, .ref lk, .ref sp, .ref st, .ref pa, .ref br, .ref sg, .int mi, .int 0, .int 0, .int 0, .int fo, .int 0, .long pe, .long pn, .long re, .long rn, .int th])), (sp, .inl (csp, 9, .inl (fun _ => 0))), (br, .inl (cbr, 3, .inl (fun _ => 0)))] := hD
  have hl := lv_entry ([.ref mo, .int 4]) (n := 2) (Nat.le_of_ble_eq_true rfl)
  rw [lg_entry_eq]
  generalize (lg_sl ([.ref mo, .int 4]) ++ List.replicate (2 - (lg_sl ([.ref mo, .int 4])).length) Slot.unset).toArray = ls at hl ⊢
  have hl : lv_has ls 2 [(0, .ref mo), (1, .int 4)] := hl
  refine va_ldcS hx hb hown (hM.2.2.1 3 _ rfl) dX15_forceOf_0 ?_
  refine lv_iload_n hx hb dX15_forceOf_2 rfl (lv_at hl 1 rfl) ?_
  have hPc := hP.sub (ws' := []) [] rfl
  have hDc := hD.sub (ws' := []) [] (by decide) rfl
  have hKc := hK.sub (tys' := []) [] rfl
  have hFc := va_free (wc := []) hD hS hA [] rfl
  refine va_calli (va_runS (As := [.ref (zK 3), .int 4]) (rest := []) ⟨hx, hb, hml, hown, hts⟩ (k_digit3_4 l dC dI z zK zV  s.heap.size) (va_cwS 2 hts gX15_forceOf_X15_digit rfl rfl rfl (by decide +kernel) ⟨Nat.le_of_ble_eq_true rfl, Nat.le_of_ble_eq_true rfl⟩) ⟨kP_blind, kP_go hPc hKc hDc hFc hM hS⟩ rfl rfl hl.1 rfl (lv_room (Nat.le_of_ble_eq_true rfl)) dX15_forceOf_3 ⟨Nat.le_of_ble_eq_true rfl, Nat.le_of_ble_eq_true rfl⟩) hS (fun q _ h => hFc q h) hFc (fun r1 u t H1 locs ht hvm hw hB hz1 hk1 hS => ?_)
  obtain ⟨hP, hD, hK⟩ := kJ (wr := [(mo, .inr (19, [.int 0, .int 0, .int 0, .int 0, .int 0, .int 0, .int tu, .ref ti, .ref si, .ref lo, .ref lh, .ref lk, .ref sp, .ref st, .ref pa, .ref br, .ref sg, .int mi, .int 0, .int 0, .int 0, .int fo, .int 0, .long pe, .long pn, .long re, .long rn, .int th])), (sp, .inl (csp, 9, .inl (fun _ => 0))), (br, .inl (cbr, 3, .inl (fun _ => 0)))]) (w1 := []) (t1 := []) hP hD hK [] [0, 1, 2] rfl rfl (by decide) (by decide) hk1 hFc ht hvm hB
  generalize H1 = H at hP hS ⊢
  have hP : va_P (dC, dI) vwCl [(mo, .inr (19, [.int 0, .int 0, .int 0, .int 0, .int 0, .int 0, .int tu, .ref ti, .ref si, .ref lo, .ref lh, .ref lk, .ref sp, .ref st, .ref pa, .ref br, .ref sg, .int mi, .int 0, .int 0, .int 0, .int fo, .int 0, .long pe, .long pn, .long re, .long rn, .int th])), (sp, .inl (csp, 9, .inl (fun _ => 0))), (br, .inl (cbr, 3, .inl (fun _ => 0)))] H := hP
  have hD : va_D A [(mo, .inr (19, [.int 0, .int 0, .int 0, .int 0, .int 0, .int 0, .int tu, .ref ti, .ref si, .ref lo, .ref lh, .ref lk, .ref sp, .ref st, .ref pa, .ref br, .ref sg, .int mi, .int 0, .int 0, .int 0, .int fo, .int 0, .long pe, .long pn, .long re, .long rn, .int th])), (sp, .inl (csp, 9, .inl (fun _ => 0))), (br, .inl (cbr, 3, .inl (fun _ => 0)))] := hD
  have hK : va_K (dC, dI) vwCl [(csp, .int), (cbr, .int)] s := hK
  obtain rfl : 9 = r1 := hw
  refine lv_aload_n hx hb dX15_forceOf_6 rfl (lv_at hl 0 rfl) ?_
  refine va_get (D := (dC, dI)) (ci := 19) (v := .ref sp) (C := RX15) (T := TX15) (N := 28) hx hb hts hiX15 hown hK hP 0 rfl rfl 12 (by decide) (hts (.fieldLink RX15 29 "SquareRigModel" "spread" "[I") (by decide +kernel)) (fun _ h9 => h9) rfl dX15_forceOf_7 ?_
  refine lv_iload_n hx hb dX15_forceOf_10 rfl (lv_at hl 1 rfl) ?_
  refine va_iald hx hb hK hP 1 0 rfl rfl (pk_in 4 9 (by decide) rfl) dX15_forceOf_11 ?_
  refine kc_v (y := .int 0) rfl ?_
  refine lv_imul hx hb dX15_forceOf_12 ?_
  refine kc_i (y := 0) (by decide +kernel) ?_
  refine lv_aload_n hx hb dX15_forceOf_13 rfl (lv_at hl 0 rfl) ?_
  refine va_get (D := (dC, dI)) (ci := 19) (v := .int 0) (C := RX15) (T := TX15) (N := 28) hx hb hts hiX15 hown hK hP 0 rfl rfl 1 (by decide) (hts (.fieldLink RX15 109 "SquareRigModel" "wind" "I") (by decide +kernel)) (fun _ h9 => h9) rfl dX15_forceOf_14 ?_
  refine lv_imul hx hb dX15_forceOf_17 ?_
  refine kc_i (y := 0) (by decide +kernel) ?_
  refine lv_aload_n hx hb dX15_forceOf_18 rfl (lv_at hl 0 rfl) ?_
  refine lv_iload_n hx hb dX15_forceOf_19 rfl (lv_at hl 1 rfl) ?_
  have hPc := hP.sub (ws' := [(mo, .inr (19, [.int 0, .int 0, .int 0, .int 0, .int 0, .int 0, .int tu, .ref ti, .ref si, .ref lo, .ref lh, .ref lk, .ref sp, .ref st, .ref pa, .ref br, .ref sg, .int mi, .int 0, .int 0, .int 0, .int fo, .int 0, .long pe, .long pn, .long re, .long rn, .int th])), (br, .inl (cbr, 3, .inl (fun _ => 0)))]) [0, 2] rfl
  have hDc := hD.sub (ws' := [(mo, .inr (19, [.int 0, .int 0, .int 0, .int 0, .int 0, .int 0, .int tu, .ref ti, .ref si, .ref lo, .ref lh, .ref lk, .ref sp, .ref st, .ref pa, .ref br, .ref sg, .int mi, .int 0, .int 0, .int 0, .int fo, .int 0, .long pe, .long pn, .long re, .long rn, .int th])), (br, .inl (cbr, 3, .inl (fun _ => 0)))]) [0, 2] (by decide) rfl
  have hKc := hK.sub (tys' := [(cbr, .int)]) [1] rfl
  have hFc := va_free (wc := [(mo, .inr (19, [.int 0, .int 0, .int 0, .int 0, .int 0, .int 0, .int tu, .ref ti, .ref si, .ref lo, .ref lh, .ref lk, .ref sp, .ref st, .ref pa, .ref br, .ref sg, .int mi, .int 0, .int 0, .int 0, .int fo, .int 0, .long pe, .long pn, .long re, .long rn, .int th])), (br, .inl (cbr, 3, .inl (fun _ => 0)))]) hD hS hA [0, 2] rfl
  refine va_calli (va_runV (As := [.int 4]) (rest := [.int 0]) ⟨hx, hb, hml, hown, hts⟩ (k_push_4 l dC dI z zK zV mi fo pe pn re rn mo ti si lo lh lk sp st pa br sg cbr th tu H.size) (cwV 1 hts gX15_forceOf_X15_push rfl rfl rfl (by decide +kernel) ⟨Nat.le_of_ble_eq_true rfl, Nat.le_of_ble_eq_true rfl⟩) ⟨kP_blind, va_recv hKc hPc (ci := 19) (q0 := 0) rfl rfl, kP_go hPc hKc hDc hFc hM hS⟩ rfl rfl hl.1 rfl (lv_room (Nat.le_of_ble_eq_true rfl)) dX15_forceOf_20 ⟨Nat.le_of_ble_eq_true rfl, Nat.le_of_ble_eq_true rfl⟩) hS (fun q _ h => hFc q h) hFc (fun r2 u t H1 locs ht hvm hw hB hz1 hk1 hS => ?_)
  obtain ⟨hP, hD, hK⟩ := kJ (wr := [(sp, .inl (csp, 9, .inl (fun _ => 0)))]) (w1 := [(br, .inl (cbr, 3, .inl (fun _ => 0))), (mo, .inr (19, [.int 0, .int 0, .int 0, .int 0, .int 0, .int 0, .int tu, .ref ti, .ref si, .ref lo, .ref lh, .ref lk, .ref sp, .ref st, .ref pa, .ref br, .ref sg, .int mi, .int 0, .int 0, .int 0, .int fo, .int 0, .long pe, .long pn, .long re, .long rn, .int th]))]) (t1 := []) hP hD hK [0, 2] [1] rfl rfl (by decide) (by decide) hk1 hFc ht hvm hB
  generalize H1 = H at hP hS ⊢
  have hP : va_P (dC, dI) vwCl [(sp, .inl (csp, 9, .inl (fun _ => 0))), (br, .inl (cbr, 3, .inl (fun _ => 0))), (mo, .inr (19, [.int 0, .int 0, .int 0, .int 0, .int 0, .int 0, .int tu, .ref ti, .ref si, .ref lo, .ref lh, .ref lk, .ref sp, .ref st, .ref pa, .ref br, .ref sg, .int mi, .int 0, .int 0, .int 0, .int fo, .int 0, .long pe, .long pn, .long re, .long rn, .int th]))] H := hP
  have hD : va_D A [(sp, .inl (csp, 9, .inl (fun _ => 0))), (br, .inl (cbr, 3, .inl (fun _ => 0))), (mo, .inr (19, [.int 0, .int 0, .int 0, .int 0, .int 0, .int 0, .int tu, .ref ti, .ref si, .ref lo, .ref lh, .ref lk, .ref sp, .ref st, .ref pa, .ref br, .ref sg, .int mi, .int 0, .int 0, .int 0, .int fo, .int 0, .long pe, .long pn, .long re, .long rn, .int th]))] := hD
  have hK : va_K (dC, dI) vwCl [(csp, .int), (cbr, .int)] s := hK
  obtain rfl : (-12) = r2 := hw
  refine lv_imul hx hb dX15_forceOf_23 ?_
  refine kc_i (y := 0) (by decide +kernel) ?_
  refine lv_iconst (v := 2) hx hb dX15_forceOf_24 (by decide) ?_
  refine lv_idiv hx hb dX15_forceOf_25 (by decide +kernel) ?_
  refine kc_i (y := 0) (by decide +kernel) ?_
  exact W.iret (v := 0) hx hb hr (fun t ht hW => ⟨⟨0, (), rfl, rfl, kB_end (w9 := [(sp, .inl (csp, 9, .inl (fun _ => 0))), (br, .inl (cbr, 3, .inl (fun _ => 0))), (mo, .inr (19, [.int 0, .int 0, .int 0, .int 0, .int 0, .int 0, .int tu, .ref ti, .ref si, .ref lo, .ref lh, .ref lk, .ref sp, .ref st, .ref pa, .ref br, .ref sg, .int mi, .int 0, .int 0, .int 0, .int fo, .int 0, .long pe, .long pn, .long re, .long rn, .int th]))]) (t9 := []) hP hK hD [0, 1, 2] [] rfl (by decide) rfl rfl t ht hW⟩, hS.F ht⟩) hS.2.2 dX15_forceOf_26
abbrev wd_k_forceOf_5 (z : Nat → Nat) (mi : Int32) (fo : Int32) (pe : Int64) (pn : Int64) (re : Int64) (rn : Int64) (mo : Nat) (ti : Nat) (si : Nat) (lo : Nat) (lh : Nat) (lk : Nat) (sp : Nat) (st : Nat) (pa : Nat) (br : Nat) (sg : Nat) (csp : ClassId) (cbr : ClassId) (th : Int32) (tu : Int32) : va_W := [(mo, .inr (19, [.int 0, .int 0, .int 0, .int 0, .int 0, .int 0, .int tu, .ref ti, .ref si, .ref lo, .ref lh, .ref lk, .ref sp, .ref st, .ref pa, .ref br, .ref sg, .int mi, .int 0, .int 0, .int 0, .int fo, .int 0, .long pe, .long pn, .long re, .long rn, .int th])), (sp, .inl (csp, 9, .inl (fun _ => 0))), (br, .inl (cbr, 3, .inl (fun _ => 0)))]
set_option maxHeartbeats 4000000 in
set_option maxRecDepth 100000 in
theorem k_forceOf_5 (l : Launch) (dC : Nat → ClassId) (dI : Nat → Nat → Nat) (z zK zV : Nat → Nat) (mi : Int32) (fo : Int32) (pe : Int64) (pn : Int64) (re : Int64) (rn : Int64) (mo : Nat) (ti : Nat) (si : Nat) (lo : Nat) (lh : Nat) (lk : Nat) (sp : Nat) (st : Nat) (pa : Nat) (br : Nat) (sg : Nat) (csp : ClassId) (cbr : ClassId) (th : Int32) (tu : Int32) (sz : Nat)  : Met l yX15_forceOf wsX15_forceOf ({ frames := 7, cells := 0, slots := 0, locals := 150 }) (kP dC dI z zK zV [.ref mo, .int 5] sz (wd_k_forceOf_5 z mi fo pe pn re rn mo ti si lo lh lk sp st pa br sg csp cbr th tu) [(csp, .int), (cbr, .int)]) (va_Qi (fun (r : Int32) (_ : Unit) => 0 = r) (fun _ t => kB (dC, dI) (va_A (wd_k_forceOf_5 z mi fo pe pn re rn mo ti si lo lh lk sp st pa br sg csp cbr th tu) sz) [(sp, .inl (csp, 9, .inl (fun _ => 0))), (br, .inl (cbr, 3, .inl (fun _ => 0))), (mo, .inr (19, [.int 0, .int 0, .int 0, .int 0, .int 0, .int 0, .int tu, .ref ti, .ref si, .ref lo, .ref lh, .ref lk, .ref sp, .ref st, .ref pa, .ref br, .ref sg, .int mi, .int 0, .int 0, .int 0, .int fo, .int 0, .long pe, .long pn, .long re, .long rn, .int th]))] [] t) (va_A (wd_k_forceOf_5 z mi fo pe pn re rn mo ti si lo lh lk sp st pa br sg csp cbr th tu) sz)) 0 0 (va_A (wd_k_forceOf_5 z mi fo pe pn re rn mo ti si lo lh lk sp st pa br sg csp cbr th tu) sz) := by
  refine Met.ofW (cc := cX15_forceOf) (maxL := 2) (ret := (some .int)) (by decide) rfl ?_
  intro p e s m args below meth c s₁ B hml hv
  obtain ⟨rfl, hsz, hP, hK, hD0, hM⟩ := hv
  have hx := B.exec
  have hb := B.bytes
  have hr := B.returns
  have hts := atoms_spec (ws := wsX15_forceOf) B.pre
  have hown : s.vm.findClass RX15 = some m.cls := findClass_of_methodNamed B.named
  have hlocks := B.notSynchronized
  have hiX15 : ∀ w ∈ u_ws RX15 TX15 28, w ∈ wsX15_forceOf := by decide +kernel
  subst hsz
  have hD := hD0.self (sz := s.heap.size)
  generalize hAe : va_A (wd_k_forceOf_5 z mi fo pe pn re rn mo ti si lo lh lk sp st pa br sg csp cbr th tu) s.heap.size = A at hD hM ⊢
  have hA : ∀ q : Nat, s.heap.size ≤ q → A q := fun q h => by rw [← hAe]; exact Or.inr h
  have hS : va_S A s.heap s.heap [] := va_S.rf
  have hP : va_P (dC, dI) vwCl [(mo, .inr (19, [.int 0, .int 0, .int 0, .int 0, .int 0, .int 0, .int tu, .ref ti, .ref si, .ref lo, .ref lh, .ref lk, .ref sp, .ref st, .ref pa, .ref br, .ref sg, .int mi, .int 0, .int 0, .int 0, .int fo, .int 0, .long pe, .long pn, .long re, .long rn, .int th])), (sp, .inl (csp, 9, .inl (fun _ => 0))), (br, .inl (cbr, 3, .inl (fun _ => 0)))] s.heap := hP
  have hD : va_D A [(mo, .inr (19, [.int 0, .int 0, .int 0, .int 0, .int 0, .int 0, .int tu, .ref ti, .ref si, .ref lo, .ref lh, .ref lk, .ref sp, .ref st, .ref pa, .ref br, .ref sg, .int mi, .int 0, .int 0, .int 0, .int fo, .int 0, .long pe, .long pn, .long re, .long rn, .int th])), (sp, .inl (csp, 9, .inl (fun _ => 0))), (br, .inl (cbr, 3, .inl (fun _ => 0)))] := hD
  have hl := lv_entry ([.ref mo, .int 5]) (n := 2) (Nat.le_of_ble_eq_true rfl)
  rw [lg_entry_eq]
  generalize (lg_sl ([.ref mo, .int 5]) ++ List.replicate (2 - (lg_sl ([.ref mo, .int 5])).length) Slot.unset).toArray = ls at hl ⊢
  have hl : lv_has ls 2 [(0, .ref mo), (1, .int 5)] := hl
  refine va_ldcS hx hb hown (hM.2.2.1 3 _ rfl) dX15_forceOf_0 ?_
  refine lv_iload_n hx hb dX15_forceOf_2 rfl (lv_at hl 1 rfl) ?_
  have hPc := hP.sub (ws' := []) [] rfl
  have hDc := hD.sub (ws' := []) [] (by decide) rfl
  have hKc := hK.sub (tys' := []) [] rfl
  have hFc := va_free (wc := []) hD hS hA [] rfl
  refine va_calli (va_runS (As := [.ref (zK 3), .int 5]) (rest := []) ⟨hx, hb, hml, hown, hts⟩ (k_digit3_5 l dC dI z zK zV  s.heap.size) (va_cwS 2 hts gX15_forceOf_X15_digit rfl rfl rfl (by decide +kernel) ⟨Nat.le_of_ble_eq_true rfl, Nat.le_of_ble_eq_true rfl⟩) ⟨kP_blind, kP_go hPc hKc hDc hFc hM hS⟩ rfl rfl hl.1 rfl (lv_room (Nat.le_of_ble_eq_true rfl)) dX15_forceOf_3 ⟨Nat.le_of_ble_eq_true rfl, Nat.le_of_ble_eq_true rfl⟩) hS (fun q _ h => hFc q h) hFc (fun r1 u t H1 locs ht hvm hw hB hz1 hk1 hS => ?_)
  obtain ⟨hP, hD, hK⟩ := kJ (wr := [(mo, .inr (19, [.int 0, .int 0, .int 0, .int 0, .int 0, .int 0, .int tu, .ref ti, .ref si, .ref lo, .ref lh, .ref lk, .ref sp, .ref st, .ref pa, .ref br, .ref sg, .int mi, .int 0, .int 0, .int 0, .int fo, .int 0, .long pe, .long pn, .long re, .long rn, .int th])), (sp, .inl (csp, 9, .inl (fun _ => 0))), (br, .inl (cbr, 3, .inl (fun _ => 0)))]) (w1 := []) (t1 := []) hP hD hK [] [0, 1, 2] rfl rfl (by decide) (by decide) hk1 hFc ht hvm hB
  generalize H1 = H at hP hS ⊢
  have hP : va_P (dC, dI) vwCl [(mo, .inr (19, [.int 0, .int 0, .int 0, .int 0, .int 0, .int 0, .int tu, .ref ti, .ref si, .ref lo, .ref lh, .ref lk, .ref sp, .ref st, .ref pa, .ref br, .ref sg, .int mi, .int 0, .int 0, .int 0, .int fo, .int 0, .long pe, .long pn, .long re, .long rn, .int th])), (sp, .inl (csp, 9, .inl (fun _ => 0))), (br, .inl (cbr, 3, .inl (fun _ => 0)))] H := hP
  have hD : va_D A [(mo, .inr (19, [.int 0, .int 0, .int 0, .int 0, .int 0, .int 0, .int tu, .ref ti, .ref si, .ref lo, .ref lh, .ref lk, .ref sp, .ref st, .ref pa, .ref br, .ref sg, .int mi, .int 0, .int 0, .int 0, .int fo, .int 0, .long pe, .long pn, .long re, .long rn, .int th])), (sp, .inl (csp, 9, .inl (fun _ => 0))), (br, .inl (cbr, 3, .inl (fun _ => 0)))] := hD
  have hK : va_K (dC, dI) vwCl [(csp, .int), (cbr, .int)] s := hK
  obtain rfl : 4 = r1 := hw
  refine lv_aload_n hx hb dX15_forceOf_6 rfl (lv_at hl 0 rfl) ?_
  refine va_get (D := (dC, dI)) (ci := 19) (v := .ref sp) (C := RX15) (T := TX15) (N := 28) hx hb hts hiX15 hown hK hP 0 rfl rfl 12 (by decide) (hts (.fieldLink RX15 29 "SquareRigModel" "spread" "[I") (by decide +kernel)) (fun _ h9 => h9) rfl dX15_forceOf_7 ?_
  refine lv_iload_n hx hb dX15_forceOf_10 rfl (lv_at hl 1 rfl) ?_
  refine va_iald hx hb hK hP 1 0 rfl rfl (pk_in 5 9 (by decide) rfl) dX15_forceOf_11 ?_
  refine kc_v (y := .int 0) rfl ?_
  refine lv_imul hx hb dX15_forceOf_12 ?_
  refine kc_i (y := 0) (by decide +kernel) ?_
  refine lv_aload_n hx hb dX15_forceOf_13 rfl (lv_at hl 0 rfl) ?_
  refine va_get (D := (dC, dI)) (ci := 19) (v := .int 0) (C := RX15) (T := TX15) (N := 28) hx hb hts hiX15 hown hK hP 0 rfl rfl 1 (by decide) (hts (.fieldLink RX15 109 "SquareRigModel" "wind" "I") (by decide +kernel)) (fun _ h9 => h9) rfl dX15_forceOf_14 ?_
  refine lv_imul hx hb dX15_forceOf_17 ?_
  refine kc_i (y := 0) (by decide +kernel) ?_
  refine lv_aload_n hx hb dX15_forceOf_18 rfl (lv_at hl 0 rfl) ?_
  refine lv_iload_n hx hb dX15_forceOf_19 rfl (lv_at hl 1 rfl) ?_
  have hPc := hP.sub (ws' := [(mo, .inr (19, [.int 0, .int 0, .int 0, .int 0, .int 0, .int 0, .int tu, .ref ti, .ref si, .ref lo, .ref lh, .ref lk, .ref sp, .ref st, .ref pa, .ref br, .ref sg, .int mi, .int 0, .int 0, .int 0, .int fo, .int 0, .long pe, .long pn, .long re, .long rn, .int th])), (br, .inl (cbr, 3, .inl (fun _ => 0)))]) [0, 2] rfl
  have hDc := hD.sub (ws' := [(mo, .inr (19, [.int 0, .int 0, .int 0, .int 0, .int 0, .int 0, .int tu, .ref ti, .ref si, .ref lo, .ref lh, .ref lk, .ref sp, .ref st, .ref pa, .ref br, .ref sg, .int mi, .int 0, .int 0, .int 0, .int fo, .int 0, .long pe, .long pn, .long re, .long rn, .int th])), (br, .inl (cbr, 3, .inl (fun _ => 0)))]) [0, 2] (by decide) rfl
  have hKc := hK.sub (tys' := [(cbr, .int)]) [1] rfl
  have hFc := va_free (wc := [(mo, .inr (19, [.int 0, .int 0, .int 0, .int 0, .int 0, .int 0, .int tu, .ref ti, .ref si, .ref lo, .ref lh, .ref lk, .ref sp, .ref st, .ref pa, .ref br, .ref sg, .int mi, .int 0, .int 0, .int 0, .int fo, .int 0, .long pe, .long pn, .long re, .long rn, .int th])), (br, .inl (cbr, 3, .inl (fun _ => 0)))]) hD hS hA [0, 2] rfl
  refine va_calli (va_runV (As := [.int 5]) (rest := [.int 0]) ⟨hx, hb, hml, hown, hts⟩ (k_push_5 l dC dI z zK zV mi fo pe pn re rn mo ti si lo lh lk sp st pa br sg cbr th tu H.size) (cwV 1 hts gX15_forceOf_X15_push rfl rfl rfl (by decide +kernel) ⟨Nat.le_of_ble_eq_true rfl, Nat.le_of_ble_eq_true rfl⟩) ⟨kP_blind, va_recv hKc hPc (ci := 19) (q0 := 0) rfl rfl, kP_go hPc hKc hDc hFc hM hS⟩ rfl rfl hl.1 rfl (lv_room (Nat.le_of_ble_eq_true rfl)) dX15_forceOf_20 ⟨Nat.le_of_ble_eq_true rfl, Nat.le_of_ble_eq_true rfl⟩) hS (fun q _ h => hFc q h) hFc (fun r2 u t H1 locs ht hvm hw hB hz1 hk1 hS => ?_)
  obtain ⟨hP, hD, hK⟩ := kJ (wr := [(sp, .inl (csp, 9, .inl (fun _ => 0)))]) (w1 := [(br, .inl (cbr, 3, .inl (fun _ => 0))), (mo, .inr (19, [.int 0, .int 0, .int 0, .int 0, .int 0, .int 0, .int tu, .ref ti, .ref si, .ref lo, .ref lh, .ref lk, .ref sp, .ref st, .ref pa, .ref br, .ref sg, .int mi, .int 0, .int 0, .int 0, .int fo, .int 0, .long pe, .long pn, .long re, .long rn, .int th]))]) (t1 := []) hP hD hK [0, 2] [1] rfl rfl (by decide) (by decide) hk1 hFc ht hvm hB
  generalize H1 = H at hP hS ⊢
  have hP : va_P (dC, dI) vwCl [(sp, .inl (csp, 9, .inl (fun _ => 0))), (br, .inl (cbr, 3, .inl (fun _ => 0))), (mo, .inr (19, [.int 0, .int 0, .int 0, .int 0, .int 0, .int 0, .int tu, .ref ti, .ref si, .ref lo, .ref lh, .ref lk, .ref sp, .ref st, .ref pa, .ref br, .ref sg, .int mi, .int 0, .int 0, .int 0, .int fo, .int 0, .long pe, .long pn, .long re, .long rn, .int th]))] H := hP
  have hD : va_D A [(sp, .inl (csp, 9, .inl (fun _ => 0))), (br, .inl (cbr, 3, .inl (fun _ => 0))), (mo, .inr (19, [.int 0, .int 0, .int 0, .int 0, .int 0, .int 0, .int tu, .ref ti, .ref si, .ref lo, .ref lh, .ref lk, .ref sp, .ref st, .ref pa, .ref br, .ref sg, .int mi, .int 0, .int 0, .int 0, .int fo, .int 0, .long pe, .long pn, .long re, .long rn, .int th]))] := hD
  have hK : va_K (dC, dI) vwCl [(csp, .int), (cbr, .int)] s := hK
  obtain rfl : (-12) = r2 := hw
  refine lv_imul hx hb dX15_forceOf_23 ?_
  refine kc_i (y := 0) (by decide +kernel) ?_
  refine lv_iconst (v := 2) hx hb dX15_forceOf_24 (by decide) ?_
  refine lv_idiv hx hb dX15_forceOf_25 (by decide +kernel) ?_
  refine kc_i (y := 0) (by decide +kernel) ?_
  exact W.iret (v := 0) hx hb hr (fun t ht hW => ⟨⟨0, (), rfl, rfl, kB_end (w9 := [(sp, .inl (csp, 9, .inl (fun _ => 0))), (br, .inl (cbr, 3, .inl (fun _ => 0))), (mo, .inr (19, [.int 0, .int 0, .int 0, .int 0, .int 0, .int 0, .int tu, .ref ti, .ref si, .ref lo, .ref lh, .ref lk, .ref sp, .ref st, .ref pa, .ref br, .ref sg, .int mi, .int 0, .int 0, .int 0, .int fo, .int 0, .long pe, .long pn, .long re, .long rn, .int th]))]) (t9 := []) hP hK hD [0, 1, 2] [] rfl (by decide) rfl rfl t ht hW⟩, hS.F ht⟩) hS.2.2 dX15_forceOf_26
abbrev wd_k_forceOf_6 (z : Nat → Nat) (mi : Int32) (fo : Int32) (pe : Int64) (pn : Int64) (re : Int64) (rn : Int64) (mo : Nat) (ti : Nat) (si : Nat) (lo : Nat) (lh : Nat) (lk : Nat) (sp : Nat) (st : Nat) (pa : Nat) (br : Nat) (sg : Nat) (csp : ClassId) (cbr : ClassId) (th : Int32) (tu : Int32) : va_W := [(mo, .inr (19, [.int 0, .int 0, .int 0, .int 0, .int 0, .int 0, .int tu, .ref ti, .ref si, .ref lo, .ref lh, .ref lk, .ref sp, .ref st, .ref pa, .ref br, .ref sg, .int mi, .int 0, .int 0, .int 0, .int fo, .int 0, .long pe, .long pn, .long re, .long rn, .int th])), (sp, .inl (csp, 9, .inl (fun _ => 0))), (br, .inl (cbr, 3, .inl (fun _ => 0)))]
set_option maxHeartbeats 4000000 in
set_option maxRecDepth 100000 in
theorem k_forceOf_6 (l : Launch) (dC : Nat → ClassId) (dI : Nat → Nat → Nat) (z zK zV : Nat → Nat) (mi : Int32) (fo : Int32) (pe : Int64) (pn : Int64) (re : Int64) (rn : Int64) (mo : Nat) (ti : Nat) (si : Nat) (lo : Nat) (lh : Nat) (lk : Nat) (sp : Nat) (st : Nat) (pa : Nat) (br : Nat) (sg : Nat) (csp : ClassId) (cbr : ClassId) (th : Int32) (tu : Int32) (sz : Nat)  : Met l yX15_forceOf wsX15_forceOf ({ frames := 7, cells := 0, slots := 0, locals := 150 }) (kP dC dI z zK zV [.ref mo, .int 6] sz (wd_k_forceOf_6 z mi fo pe pn re rn mo ti si lo lh lk sp st pa br sg csp cbr th tu) [(csp, .int), (cbr, .int)]) (va_Qi (fun (r : Int32) (_ : Unit) => 0 = r) (fun _ t => kB (dC, dI) (va_A (wd_k_forceOf_6 z mi fo pe pn re rn mo ti si lo lh lk sp st pa br sg csp cbr th tu) sz) [(sp, .inl (csp, 9, .inl (fun _ => 0))), (br, .inl (cbr, 3, .inl (fun _ => 0))), (mo, .inr (19, [.int 0, .int 0, .int 0, .int 0, .int 0, .int 0, .int tu, .ref ti, .ref si, .ref lo, .ref lh, .ref lk, .ref sp, .ref st, .ref pa, .ref br, .ref sg, .int mi, .int 0, .int 0, .int 0, .int fo, .int 0, .long pe, .long pn, .long re, .long rn, .int th]))] [] t) (va_A (wd_k_forceOf_6 z mi fo pe pn re rn mo ti si lo lh lk sp st pa br sg csp cbr th tu) sz)) 0 0 (va_A (wd_k_forceOf_6 z mi fo pe pn re rn mo ti si lo lh lk sp st pa br sg csp cbr th tu) sz) := by
  refine Met.ofW (cc := cX15_forceOf) (maxL := 2) (ret := (some .int)) (by decide) rfl ?_
  intro p e s m args below meth c s₁ B hml hv
  obtain ⟨rfl, hsz, hP, hK, hD0, hM⟩ := hv
  have hx := B.exec
  have hb := B.bytes
  have hr := B.returns
  have hts := atoms_spec (ws := wsX15_forceOf) B.pre
  have hown : s.vm.findClass RX15 = some m.cls := findClass_of_methodNamed B.named
  have hlocks := B.notSynchronized
  have hiX15 : ∀ w ∈ u_ws RX15 TX15 28, w ∈ wsX15_forceOf := by decide +kernel
  subst hsz
  have hD := hD0.self (sz := s.heap.size)
  generalize hAe : va_A (wd_k_forceOf_6 z mi fo pe pn re rn mo ti si lo lh lk sp st pa br sg csp cbr th tu) s.heap.size = A at hD hM ⊢
  have hA : ∀ q : Nat, s.heap.size ≤ q → A q := fun q h => by rw [← hAe]; exact Or.inr h
  have hS : va_S A s.heap s.heap [] := va_S.rf
  have hP : va_P (dC, dI) vwCl [(mo, .inr (19, [.int 0, .int 0, .int 0, .int 0, .int 0, .int 0, .int tu, .ref ti, .ref si, .ref lo, .ref lh, .ref lk, .ref sp, .ref st, .ref pa, .ref br, .ref sg, .int mi, .int 0, .int 0, .int 0, .int fo, .int 0, .long pe, .long pn, .long re, .long rn, .int th])), (sp, .inl (csp, 9, .inl (fun _ => 0))), (br, .inl (cbr, 3, .inl (fun _ => 0)))] s.heap := hP
  have hD : va_D A [(mo, .inr (19, [.int 0, .int 0, .int 0, .int 0, .int 0, .int 0, .int tu, .ref ti, .ref si, .ref lo, .ref lh, .ref lk, .ref sp, .ref st, .ref pa, .ref br, .ref sg, .int mi, .int 0, .int 0, .int 0, .int fo, .int 0, .long pe, .long pn, .long re, .long rn, .int th])), (sp, .inl (csp, 9, .inl (fun _ => 0))), (br, .inl (cbr, 3, .inl (fun _ => 0)))] := hD
  have hl := lv_entry ([.ref mo, .int 6]) (n := 2) (Nat.le_of_ble_eq_true rfl)
  rw [lg_entry_eq]
  generalize (lg_sl ([.ref mo, .int 6]) ++ List.replicate (2 - (lg_sl ([.ref mo, .int 6])).length) Slot.unset).toArray = ls at hl ⊢
  have hl : lv_has ls 2 [(0, .ref mo), (1, .int 6)] := hl
  refine va_ldcS hx hb hown (hM.2.2.1 3 _ rfl) dX15_forceOf_0 ?_
  refine lv_iload_n hx hb dX15_forceOf_2 rfl (lv_at hl 1 rfl) ?_
  have hPc := hP.sub (ws' := []) [] rfl
  have hDc := hD.sub (ws' := []) [] (by decide) rfl
  have hKc := hK.sub (tys' := []) [] rfl
  have hFc := va_free (wc := []) hD hS hA [] rfl
  refine va_calli (va_runS (As := [.ref (zK 3), .int 6]) (rest := []) ⟨hx, hb, hml, hown, hts⟩ (k_digit3_6 l dC dI z zK zV  s.heap.size) (va_cwS 2 hts gX15_forceOf_X15_digit rfl rfl rfl (by decide +kernel) ⟨Nat.le_of_ble_eq_true rfl, Nat.le_of_ble_eq_true rfl⟩) ⟨kP_blind, kP_go hPc hKc hDc hFc hM hS⟩ rfl rfl hl.1 rfl (lv_room (Nat.le_of_ble_eq_true rfl)) dX15_forceOf_3 ⟨Nat.le_of_ble_eq_true rfl, Nat.le_of_ble_eq_true rfl⟩) hS (fun q _ h => hFc q h) hFc (fun r1 u t H1 locs ht hvm hw hB hz1 hk1 hS => ?_)
  obtain ⟨hP, hD, hK⟩ := kJ (wr := [(mo, .inr (19, [.int 0, .int 0, .int 0, .int 0, .int 0, .int 0, .int tu, .ref ti, .ref si, .ref lo, .ref lh, .ref lk, .ref sp, .ref st, .ref pa, .ref br, .ref sg, .int mi, .int 0, .int 0, .int 0, .int fo, .int 0, .long pe, .long pn, .long re, .long rn, .int th])), (sp, .inl (csp, 9, .inl (fun _ => 0))), (br, .inl (cbr, 3, .inl (fun _ => 0)))]) (w1 := []) (t1 := []) hP hD hK [] [0, 1, 2] rfl rfl (by decide) (by decide) hk1 hFc ht hvm hB
  generalize H1 = H at hP hS ⊢
  have hP : va_P (dC, dI) vwCl [(mo, .inr (19, [.int 0, .int 0, .int 0, .int 0, .int 0, .int 0, .int tu, .ref ti, .ref si, .ref lo, .ref lh, .ref lk, .ref sp, .ref st, .ref pa, .ref br, .ref sg, .int mi, .int 0, .int 0, .int 0, .int fo, .int 0, .long pe, .long pn, .long re, .long rn, .int th])), (sp, .inl (csp, 9, .inl (fun _ => 0))), (br, .inl (cbr, 3, .inl (fun _ => 0)))] H := hP
  have hD : va_D A [(mo, .inr (19, [.int 0, .int 0, .int 0, .int 0, .int 0, .int 0, .int tu, .ref ti, .ref si, .ref lo, .ref lh, .ref lk, .ref sp, .ref st, .ref pa, .ref br, .ref sg, .int mi, .int 0, .int 0, .int 0, .int fo, .int 0, .long pe, .long pn, .long re, .long rn, .int th])), (sp, .inl (csp, 9, .inl (fun _ => 0))), (br, .inl (cbr, 3, .inl (fun _ => 0)))] := hD
  have hK : va_K (dC, dI) vwCl [(csp, .int), (cbr, .int)] s := hK
  obtain rfl : 5 = r1 := hw
  refine lv_aload_n hx hb dX15_forceOf_6 rfl (lv_at hl 0 rfl) ?_
  refine va_get (D := (dC, dI)) (ci := 19) (v := .ref sp) (C := RX15) (T := TX15) (N := 28) hx hb hts hiX15 hown hK hP 0 rfl rfl 12 (by decide) (hts (.fieldLink RX15 29 "SquareRigModel" "spread" "[I") (by decide +kernel)) (fun _ h9 => h9) rfl dX15_forceOf_7 ?_
  refine lv_iload_n hx hb dX15_forceOf_10 rfl (lv_at hl 1 rfl) ?_
  refine va_iald hx hb hK hP 1 0 rfl rfl (pk_in 6 9 (by decide) rfl) dX15_forceOf_11 ?_
  refine kc_v (y := .int 0) rfl ?_
  refine lv_imul hx hb dX15_forceOf_12 ?_
  refine kc_i (y := 0) (by decide +kernel) ?_
  refine lv_aload_n hx hb dX15_forceOf_13 rfl (lv_at hl 0 rfl) ?_
  refine va_get (D := (dC, dI)) (ci := 19) (v := .int 0) (C := RX15) (T := TX15) (N := 28) hx hb hts hiX15 hown hK hP 0 rfl rfl 1 (by decide) (hts (.fieldLink RX15 109 "SquareRigModel" "wind" "I") (by decide +kernel)) (fun _ h9 => h9) rfl dX15_forceOf_14 ?_
  refine lv_imul hx hb dX15_forceOf_17 ?_
  refine kc_i (y := 0) (by decide +kernel) ?_
  refine lv_aload_n hx hb dX15_forceOf_18 rfl (lv_at hl 0 rfl) ?_
  refine lv_iload_n hx hb dX15_forceOf_19 rfl (lv_at hl 1 rfl) ?_
  have hPc := hP.sub (ws' := [(mo, .inr (19, [.int 0, .int 0, .int 0, .int 0, .int 0, .int 0, .int tu, .ref ti, .ref si, .ref lo, .ref lh, .ref lk, .ref sp, .ref st, .ref pa, .ref br, .ref sg, .int mi, .int 0, .int 0, .int 0, .int fo, .int 0, .long pe, .long pn, .long re, .long rn, .int th])), (br, .inl (cbr, 3, .inl (fun _ => 0)))]) [0, 2] rfl
  have hDc := hD.sub (ws' := [(mo, .inr (19, [.int 0, .int 0, .int 0, .int 0, .int 0, .int 0, .int tu, .ref ti, .ref si, .ref lo, .ref lh, .ref lk, .ref sp, .ref st, .ref pa, .ref br, .ref sg, .int mi, .int 0, .int 0, .int 0, .int fo, .int 0, .long pe, .long pn, .long re, .long rn, .int th])), (br, .inl (cbr, 3, .inl (fun _ => 0)))]) [0, 2] (by decide) rfl
  have hKc := hK.sub (tys' := [(cbr, .int)]) [1] rfl
  have hFc := va_free (wc := [(mo, .inr (19, [.int 0, .int 0, .int 0, .int 0, .int 0, .int 0, .int tu, .ref ti, .ref si, .ref lo, .ref lh, .ref lk, .ref sp, .ref st, .ref pa, .ref br, .ref sg, .int mi, .int 0, .int 0, .int 0, .int fo, .int 0, .long pe, .long pn, .long re, .long rn, .int th])), (br, .inl (cbr, 3, .inl (fun _ => 0)))]) hD hS hA [0, 2] rfl
  refine va_calli (va_runV (As := [.int 6]) (rest := [.int 0]) ⟨hx, hb, hml, hown, hts⟩ (k_push_6 l dC dI z zK zV mi fo pe pn re rn mo ti si lo lh lk sp st pa br sg cbr th tu H.size) (cwV 1 hts gX15_forceOf_X15_push rfl rfl rfl (by decide +kernel) ⟨Nat.le_of_ble_eq_true rfl, Nat.le_of_ble_eq_true rfl⟩) ⟨kP_blind, va_recv hKc hPc (ci := 19) (q0 := 0) rfl rfl, kP_go hPc hKc hDc hFc hM hS⟩ rfl rfl hl.1 rfl (lv_room (Nat.le_of_ble_eq_true rfl)) dX15_forceOf_20 ⟨Nat.le_of_ble_eq_true rfl, Nat.le_of_ble_eq_true rfl⟩) hS (fun q _ h => hFc q h) hFc (fun r2 u t H1 locs ht hvm hw hB hz1 hk1 hS => ?_)
  obtain ⟨hP, hD, hK⟩ := kJ (wr := [(sp, .inl (csp, 9, .inl (fun _ => 0)))]) (w1 := [(br, .inl (cbr, 3, .inl (fun _ => 0))), (mo, .inr (19, [.int 0, .int 0, .int 0, .int 0, .int 0, .int 0, .int tu, .ref ti, .ref si, .ref lo, .ref lh, .ref lk, .ref sp, .ref st, .ref pa, .ref br, .ref sg, .int mi, .int 0, .int 0, .int 0, .int fo, .int 0, .long pe, .long pn, .long re, .long rn, .int th]))]) (t1 := []) hP hD hK [0, 2] [1] rfl rfl (by decide) (by decide) hk1 hFc ht hvm hB
  generalize H1 = H at hP hS ⊢
  have hP : va_P (dC, dI) vwCl [(sp, .inl (csp, 9, .inl (fun _ => 0))), (br, .inl (cbr, 3, .inl (fun _ => 0))), (mo, .inr (19, [.int 0, .int 0, .int 0, .int 0, .int 0, .int 0, .int tu, .ref ti, .ref si, .ref lo, .ref lh, .ref lk, .ref sp, .ref st, .ref pa, .ref br, .ref sg, .int mi, .int 0, .int 0, .int 0, .int fo, .int 0, .long pe, .long pn, .long re, .long rn, .int th]))] H := hP
  have hD : va_D A [(sp, .inl (csp, 9, .inl (fun _ => 0))), (br, .inl (cbr, 3, .inl (fun _ => 0))), (mo, .inr (19, [.int 0, .int 0, .int 0, .int 0, .int 0, .int 0, .int tu, .ref ti, .ref si, .ref lo, .ref lh, .ref lk, .ref sp, .ref st, .ref pa, .ref br, .ref sg, .int mi, .int 0, .int 0, .int 0, .int fo, .int 0, .long pe, .long pn, .long re, .long rn, .int th]))] := hD
  have hK : va_K (dC, dI) vwCl [(csp, .int), (cbr, .int)] s := hK
  obtain rfl : (-12) = r2 := hw
  refine lv_imul hx hb dX15_forceOf_23 ?_
  refine kc_i (y := 0) (by decide +kernel) ?_
  refine lv_iconst (v := 2) hx hb dX15_forceOf_24 (by decide) ?_
  refine lv_idiv hx hb dX15_forceOf_25 (by decide +kernel) ?_
  refine kc_i (y := 0) (by decide +kernel) ?_
  exact W.iret (v := 0) hx hb hr (fun t ht hW => ⟨⟨0, (), rfl, rfl, kB_end (w9 := [(sp, .inl (csp, 9, .inl (fun _ => 0))), (br, .inl (cbr, 3, .inl (fun _ => 0))), (mo, .inr (19, [.int 0, .int 0, .int 0, .int 0, .int 0, .int 0, .int tu, .ref ti, .ref si, .ref lo, .ref lh, .ref lk, .ref sp, .ref st, .ref pa, .ref br, .ref sg, .int mi, .int 0, .int 0, .int 0, .int fo, .int 0, .long pe, .long pn, .long re, .long rn, .int th]))]) (t9 := []) hP hK hD [0, 1, 2] [] rfl (by decide) rfl rfl t ht hW⟩, hS.F ht⟩) hS.2.2 dX15_forceOf_26
abbrev wd_k_forceOf_7 (z : Nat → Nat) (mi : Int32) (fo : Int32) (pe : Int64) (pn : Int64) (re : Int64) (rn : Int64) (mo : Nat) (ti : Nat) (si : Nat) (lo : Nat) (lh : Nat) (lk : Nat) (sp : Nat) (st : Nat) (pa : Nat) (br : Nat) (sg : Nat) (csp : ClassId) (cbr : ClassId) (th : Int32) (tu : Int32) : va_W := [(mo, .inr (19, [.int 0, .int 0, .int 0, .int 0, .int 0, .int 0, .int tu, .ref ti, .ref si, .ref lo, .ref lh, .ref lk, .ref sp, .ref st, .ref pa, .ref br, .ref sg, .int mi, .int 0, .int 0, .int 0, .int fo, .int 0, .long pe, .long pn, .long re, .long rn, .int th])), (sp, .inl (csp, 9, .inl (fun _ => 0))), (br, .inl (cbr, 3, .inl (fun _ => 0)))]
set_option maxHeartbeats 4000000 in
set_option maxRecDepth 100000 in
theorem k_forceOf_7 (l : Launch) (dC : Nat → ClassId) (dI : Nat → Nat → Nat) (z zK zV : Nat → Nat) (mi : Int32) (fo : Int32) (pe : Int64) (pn : Int64) (re : Int64) (rn : Int64) (mo : Nat) (ti : Nat) (si : Nat) (lo : Nat) (lh : Nat) (lk : Nat) (sp : Nat) (st : Nat) (pa : Nat) (br : Nat) (sg : Nat) (csp : ClassId) (cbr : ClassId) (th : Int32) (tu : Int32) (sz : Nat)  : Met l yX15_forceOf wsX15_forceOf ({ frames := 5, cells := 0, slots := 0, locals := 107 }) (kP dC dI z zK zV [.ref mo, .int 7] sz (wd_k_forceOf_7 z mi fo pe pn re rn mo ti si lo lh lk sp st pa br sg csp cbr th tu) [(csp, .int), (cbr, .int)]) (va_Qi (fun (r : Int32) (_ : Unit) => 0 = r) (fun _ t => kB (dC, dI) (va_A (wd_k_forceOf_7 z mi fo pe pn re rn mo ti si lo lh lk sp st pa br sg csp cbr th tu) sz) [(sp, .inl (csp, 9, .inl (fun _ => 0))), (br, .inl (cbr, 3, .inl (fun _ => 0))), (mo, .inr (19, [.int 0, .int 0, .int 0, .int 0, .int 0, .int 0, .int tu, .ref ti, .ref si, .ref lo, .ref lh, .ref lk, .ref sp, .ref st, .ref pa, .ref br, .ref sg, .int mi, .int 0, .int 0, .int 0, .int fo, .int 0, .long pe, .long pn, .long re, .long rn, .int th]))] [] t) (va_A (wd_k_forceOf_7 z mi fo pe pn re rn mo ti si lo lh lk sp st pa br sg csp cbr th tu) sz)) 0 0 (va_A (wd_k_forceOf_7 z mi fo pe pn re rn mo ti si lo lh lk sp st pa br sg csp cbr th tu) sz) := by
  refine Met.ofW (cc := cX15_forceOf) (maxL := 2) (ret := (some .int)) (by decide) rfl ?_
  intro p e s m args below meth c s₁ B hml hv
  obtain ⟨rfl, hsz, hP, hK, hD0, hM⟩ := hv
  have hx := B.exec
  have hb := B.bytes
  have hr := B.returns
  have hts := atoms_spec (ws := wsX15_forceOf) B.pre
  have hown : s.vm.findClass RX15 = some m.cls := findClass_of_methodNamed B.named
  have hlocks := B.notSynchronized
  have hiX15 : ∀ w ∈ u_ws RX15 TX15 28, w ∈ wsX15_forceOf := by decide +kernel
  subst hsz
  have hD := hD0.self (sz := s.heap.size)
  generalize hAe : va_A (wd_k_forceOf_7 z mi fo pe pn re rn mo ti si lo lh lk sp st pa br sg csp cbr th tu) s.heap.size = A at hD hM ⊢
  have hA : ∀ q : Nat, s.heap.size ≤ q → A q := fun q h => by rw [← hAe]; exact Or.inr h
  have hS : va_S A s.heap s.heap [] := va_S.rf
  have hP : va_P (dC, dI) vwCl [(mo, .inr (19, [.int 0, .int 0, .int 0, .int 0, .int 0, .int 0, .int tu, .ref ti, .ref si, .ref lo, .ref lh, .ref lk, .ref sp, .ref st, .ref pa, .ref br, .ref sg, .int mi, .int 0, .int 0, .int 0, .int fo, .int 0, .long pe, .long pn, .long re, .long rn, .int th])), (sp, .inl (csp, 9, .inl (fun _ => 0))), (br, .inl (cbr, 3, .inl (fun _ => 0)))] s.heap := hP
  have hD : va_D A [(mo, .inr (19, [.int 0, .int 0, .int 0, .int 0, .int 0, .int 0, .int tu, .ref ti, .ref si, .ref lo, .ref lh, .ref lk, .ref sp, .ref st, .ref pa, .ref br, .ref sg, .int mi, .int 0, .int 0, .int 0, .int fo, .int 0, .long pe, .long pn, .long re, .long rn, .int th])), (sp, .inl (csp, 9, .inl (fun _ => 0))), (br, .inl (cbr, 3, .inl (fun _ => 0)))] := hD
  have hl := lv_entry ([.ref mo, .int 7]) (n := 2) (Nat.le_of_ble_eq_true rfl)
  rw [lg_entry_eq]
  generalize (lg_sl ([.ref mo, .int 7]) ++ List.replicate (2 - (lg_sl ([.ref mo, .int 7])).length) Slot.unset).toArray = ls at hl ⊢
  have hl : lv_has ls 2 [(0, .ref mo), (1, .int 7)] := hl
  refine va_ldcS hx hb hown (hM.2.2.1 3 _ rfl) dX15_forceOf_0 ?_
  refine lv_iload_n hx hb dX15_forceOf_2 rfl (lv_at hl 1 rfl) ?_
  have hPc := hP.sub (ws' := []) [] rfl
  have hDc := hD.sub (ws' := []) [] (by decide) rfl
  have hKc := hK.sub (tys' := []) [] rfl
  have hFc := va_free (wc := []) hD hS hA [] rfl
  refine va_calli (va_runS (As := [.ref (zK 3), .int 7]) (rest := []) ⟨hx, hb, hml, hown, hts⟩ (k_digit3_7 l dC dI z zK zV  s.heap.size) (va_cwS 2 hts gX15_forceOf_X15_digit rfl rfl rfl (by decide +kernel) ⟨Nat.le_of_ble_eq_true rfl, Nat.le_of_ble_eq_true rfl⟩) ⟨kP_blind, kP_go hPc hKc hDc hFc hM hS⟩ rfl rfl hl.1 rfl (lv_room (Nat.le_of_ble_eq_true rfl)) dX15_forceOf_3 ⟨Nat.le_of_ble_eq_true rfl, Nat.le_of_ble_eq_true rfl⟩) hS (fun q _ h => hFc q h) hFc (fun r1 u t H1 locs ht hvm hw hB hz1 hk1 hS => ?_)
  obtain ⟨hP, hD, hK⟩ := kJ (wr := [(mo, .inr (19, [.int 0, .int 0, .int 0, .int 0, .int 0, .int 0, .int tu, .ref ti, .ref si, .ref lo, .ref lh, .ref lk, .ref sp, .ref st, .ref pa, .ref br, .ref sg, .int mi, .int 0, .int 0, .int 0, .int fo, .int 0, .long pe, .long pn, .long re, .long rn, .int th])), (sp, .inl (csp, 9, .inl (fun _ => 0))), (br, .inl (cbr, 3, .inl (fun _ => 0)))]) (w1 := []) (t1 := []) hP hD hK [] [0, 1, 2] rfl rfl (by decide) (by decide) hk1 hFc ht hvm hB
  generalize H1 = H at hP hS ⊢
  have hP : va_P (dC, dI) vwCl [(mo, .inr (19, [.int 0, .int 0, .int 0, .int 0, .int 0, .int 0, .int tu, .ref ti, .ref si, .ref lo, .ref lh, .ref lk, .ref sp, .ref st, .ref pa, .ref br, .ref sg, .int mi, .int 0, .int 0, .int 0, .int fo, .int 0, .long pe, .long pn, .long re, .long rn, .int th])), (sp, .inl (csp, 9, .inl (fun _ => 0))), (br, .inl (cbr, 3, .inl (fun _ => 0)))] H := hP
  have hD : va_D A [(mo, .inr (19, [.int 0, .int 0, .int 0, .int 0, .int 0, .int 0, .int tu, .ref ti, .ref si, .ref lo, .ref lh, .ref lk, .ref sp, .ref st, .ref pa, .ref br, .ref sg, .int mi, .int 0, .int 0, .int 0, .int fo, .int 0, .long pe, .long pn, .long re, .long rn, .int th])), (sp, .inl (csp, 9, .inl (fun _ => 0))), (br, .inl (cbr, 3, .inl (fun _ => 0)))] := hD
  have hK : va_K (dC, dI) vwCl [(csp, .int), (cbr, .int)] s := hK
  obtain rfl : 4 = r1 := hw
  refine lv_aload_n hx hb dX15_forceOf_6 rfl (lv_at hl 0 rfl) ?_
  refine va_get (D := (dC, dI)) (ci := 19) (v := .ref sp) (C := RX15) (T := TX15) (N := 28) hx hb hts hiX15 hown hK hP 0 rfl rfl 12 (by decide) (hts (.fieldLink RX15 29 "SquareRigModel" "spread" "[I") (by decide +kernel)) (fun _ h9 => h9) rfl dX15_forceOf_7 ?_
  refine lv_iload_n hx hb dX15_forceOf_10 rfl (lv_at hl 1 rfl) ?_
  refine va_iald hx hb hK hP 1 0 rfl rfl (pk_in 7 9 (by decide) rfl) dX15_forceOf_11 ?_
  refine kc_v (y := .int 0) rfl ?_
  refine lv_imul hx hb dX15_forceOf_12 ?_
  refine kc_i (y := 0) (by decide +kernel) ?_
  refine lv_aload_n hx hb dX15_forceOf_13 rfl (lv_at hl 0 rfl) ?_
  refine va_get (D := (dC, dI)) (ci := 19) (v := .int 0) (C := RX15) (T := TX15) (N := 28) hx hb hts hiX15 hown hK hP 0 rfl rfl 1 (by decide) (hts (.fieldLink RX15 109 "SquareRigModel" "wind" "I") (by decide +kernel)) (fun _ h9 => h9) rfl dX15_forceOf_14 ?_
  refine lv_imul hx hb dX15_forceOf_17 ?_
  refine kc_i (y := 0) (by decide +kernel) ?_
  refine lv_aload_n hx hb dX15_forceOf_18 rfl (lv_at hl 0 rfl) ?_
  refine lv_iload_n hx hb dX15_forceOf_19 rfl (lv_at hl 1 rfl) ?_
  have hPc := hP.sub (ws' := [(mo, .inr (19, [.int 0, .int 0, .int 0, .int 0, .int 0, .int 0, .int tu, .ref ti, .ref si, .ref lo, .ref lh, .ref lk, .ref sp, .ref st, .ref pa, .ref br, .ref sg, .int mi, .int 0, .int 0, .int 0, .int fo, .int 0, .long pe, .long pn, .long re, .long rn, .int th])), (br, .inl (cbr, 3, .inl (fun _ => 0)))]) [0, 2] rfl
  have hDc := hD.sub (ws' := [(mo, .inr (19, [.int 0, .int 0, .int 0, .int 0, .int 0, .int 0, .int tu, .ref ti, .ref si, .ref lo, .ref lh, .ref lk, .ref sp, .ref st, .ref pa, .ref br, .ref sg, .int mi, .int 0, .int 0, .int 0, .int fo, .int 0, .long pe, .long pn, .long re, .long rn, .int th])), (br, .inl (cbr, 3, .inl (fun _ => 0)))]) [0, 2] (by decide) rfl
  have hKc := hK.sub (tys' := [(cbr, .int)]) [1] rfl
  have hFc := va_free (wc := [(mo, .inr (19, [.int 0, .int 0, .int 0, .int 0, .int 0, .int 0, .int tu, .ref ti, .ref si, .ref lo, .ref lh, .ref lk, .ref sp, .ref st, .ref pa, .ref br, .ref sg, .int mi, .int 0, .int 0, .int 0, .int fo, .int 0, .long pe, .long pn, .long re, .long rn, .int th])), (br, .inl (cbr, 3, .inl (fun _ => 0)))]) hD hS hA [0, 2] rfl
  refine va_calli (va_runV (As := [.int 7]) (rest := [.int 0]) ⟨hx, hb, hml, hown, hts⟩ (k_push_7 l dC dI z zK zV mi fo pe pn re rn mo ti si lo lh lk sp st pa br sg cbr th tu H.size) (cwV 1 hts gX15_forceOf_X15_push rfl rfl rfl (by decide +kernel) ⟨Nat.le_of_ble_eq_true rfl, Nat.le_of_ble_eq_true rfl⟩) ⟨kP_blind, va_recv hKc hPc (ci := 19) (q0 := 0) rfl rfl, kP_go hPc hKc hDc hFc hM hS⟩ rfl rfl hl.1 rfl (lv_room (Nat.le_of_ble_eq_true rfl)) dX15_forceOf_20 ⟨Nat.le_of_ble_eq_true rfl, Nat.le_of_ble_eq_true rfl⟩) hS (fun q _ h => hFc q h) hFc (fun r2 u t H1 locs ht hvm hw hB hz1 hk1 hS => ?_)
  obtain ⟨hP, hD, hK⟩ := kJ (wr := [(sp, .inl (csp, 9, .inl (fun _ => 0)))]) (w1 := [(br, .inl (cbr, 3, .inl (fun _ => 0))), (mo, .inr (19, [.int 0, .int 0, .int 0, .int 0, .int 0, .int 0, .int tu, .ref ti, .ref si, .ref lo, .ref lh, .ref lk, .ref sp, .ref st, .ref pa, .ref br, .ref sg, .int mi, .int 0, .int 0, .int 0, .int fo, .int 0, .long pe, .long pn, .long re, .long rn, .int th]))]) (t1 := []) hP hD hK [0, 2] [1] rfl rfl (by decide) (by decide) hk1 hFc ht hvm hB
  generalize H1 = H at hP hS ⊢
  have hP : va_P (dC, dI) vwCl [(sp, .inl (csp, 9, .inl (fun _ => 0))), (br, .inl (cbr, 3, .inl (fun _ => 0))), (mo, .inr (19, [.int 0, .int 0, .int 0, .int 0, .int 0, .int 0, .int tu, .ref ti, .ref si, .ref lo, .ref lh, .ref lk, .ref sp, .ref st, .ref pa, .ref br, .ref sg, .int mi, .int 0, .int 0, .int 0, .int fo, .int 0, .long pe, .long pn, .long re, .long rn, .int th]))] H := hP
  have hD : va_D A [(sp, .inl (csp, 9, .inl (fun _ => 0))), (br, .inl (cbr, 3, .inl (fun _ => 0))), (mo, .inr (19, [.int 0, .int 0, .int 0, .int 0, .int 0, .int 0, .int tu, .ref ti, .ref si, .ref lo, .ref lh, .ref lk, .ref sp, .ref st, .ref pa, .ref br, .ref sg, .int mi, .int 0, .int 0, .int 0, .int fo, .int 0, .long pe, .long pn, .long re, .long rn, .int th]))] := hD
  have hK : va_K (dC, dI) vwCl [(csp, .int), (cbr, .int)] s := hK
  obtain rfl : 0 = r2 := hw
  refine lv_imul hx hb dX15_forceOf_23 ?_
  refine kc_i (y := 0) (by decide +kernel) ?_
  refine lv_iconst (v := 2) hx hb dX15_forceOf_24 (by decide) ?_
  refine lv_idiv hx hb dX15_forceOf_25 (by decide +kernel) ?_
  refine kc_i (y := 0) (by decide +kernel) ?_
  exact W.iret (v := 0) hx hb hr (fun t ht hW => ⟨⟨0, (), rfl, rfl, kB_end (w9 := [(sp, .inl (csp, 9, .inl (fun _ => 0))), (br, .inl (cbr, 3, .inl (fun _ => 0))), (mo, .inr (19, [.int 0, .int 0, .int 0, .int 0, .int 0, .int 0, .int tu, .ref ti, .ref si, .ref lo, .ref lh, .ref lk, .ref sp, .ref st, .ref pa, .ref br, .ref sg, .int mi, .int 0, .int 0, .int 0, .int fo, .int 0, .long pe, .long pn, .long re, .long rn, .int th]))]) (t9 := []) hP hK hD [0, 1, 2] [] rfl (by decide) rfl rfl t ht hW⟩, hS.F ht⟩) hS.2.2 dX15_forceOf_26
abbrev wd_k_forceOf_8 (z : Nat → Nat) (mi : Int32) (fo : Int32) (pe : Int64) (pn : Int64) (re : Int64) (rn : Int64) (mo : Nat) (ti : Nat) (si : Nat) (lo : Nat) (lh : Nat) (lk : Nat) (sp : Nat) (st : Nat) (pa : Nat) (br : Nat) (sg : Nat) (csp : ClassId) (cbr : ClassId) (th : Int32) (tu : Int32) : va_W := [(mo, .inr (19, [.int 0, .int 0, .int 0, .int 0, .int 0, .int 0, .int tu, .ref ti, .ref si, .ref lo, .ref lh, .ref lk, .ref sp, .ref st, .ref pa, .ref br, .ref sg, .int mi, .int 0, .int 0, .int 0, .int fo, .int 0, .long pe, .long pn, .long re, .long rn, .int th])), (sp, .inl (csp, 9, .inl (fun _ => 0))), (br, .inl (cbr, 3, .inl (fun _ => 0)))]
set_option maxHeartbeats 4000000 in
set_option maxRecDepth 100000 in
theorem k_forceOf_8 (l : Launch) (dC : Nat → ClassId) (dI : Nat → Nat → Nat) (z zK zV : Nat → Nat) (mi : Int32) (fo : Int32) (pe : Int64) (pn : Int64) (re : Int64) (rn : Int64) (mo : Nat) (ti : Nat) (si : Nat) (lo : Nat) (lh : Nat) (lk : Nat) (sp : Nat) (st : Nat) (pa : Nat) (br : Nat) (sg : Nat) (csp : ClassId) (cbr : ClassId) (th : Int32) (tu : Int32) (sz : Nat)  : Met l yX15_forceOf wsX15_forceOf ({ frames := 5, cells := 0, slots := 0, locals := 107 }) (kP dC dI z zK zV [.ref mo, .int 8] sz (wd_k_forceOf_8 z mi fo pe pn re rn mo ti si lo lh lk sp st pa br sg csp cbr th tu) [(csp, .int), (cbr, .int)]) (va_Qi (fun (r : Int32) (_ : Unit) => 0 = r) (fun _ t => kB (dC, dI) (va_A (wd_k_forceOf_8 z mi fo pe pn re rn mo ti si lo lh lk sp st pa br sg csp cbr th tu) sz) [(sp, .inl (csp, 9, .inl (fun _ => 0))), (br, .inl (cbr, 3, .inl (fun _ => 0))), (mo, .inr (19, [.int 0, .int 0, .int 0, .int 0, .int 0, .int 0, .int tu, .ref ti, .ref si, .ref lo, .ref lh, .ref lk, .ref sp, .ref st, .ref pa, .ref br, .ref sg, .int mi, .int 0, .int 0, .int 0, .int fo, .int 0, .long pe, .long pn, .long re, .long rn, .int th]))] [] t) (va_A (wd_k_forceOf_8 z mi fo pe pn re rn mo ti si lo lh lk sp st pa br sg csp cbr th tu) sz)) 0 0 (va_A (wd_k_forceOf_8 z mi fo pe pn re rn mo ti si lo lh lk sp st pa br sg csp cbr th tu) sz) := by
  refine Met.ofW (cc := cX15_forceOf) (maxL := 2) (ret := (some .int)) (by decide) rfl ?_
  intro p e s m args below meth c s₁ B hml hv
  obtain ⟨rfl, hsz, hP, hK, hD0, hM⟩ := hv
  have hx := B.exec
  have hb := B.bytes
  have hr := B.returns
  have hts := atoms_spec (ws := wsX15_forceOf) B.pre
  have hown : s.vm.findClass RX15 = some m.cls := findClass_of_methodNamed B.named
  have hlocks := B.notSynchronized
  have hiX15 : ∀ w ∈ u_ws RX15 TX15 28, w ∈ wsX15_forceOf := by decide +kernel
  subst hsz
  have hD := hD0.self (sz := s.heap.size)
  generalize hAe : va_A (wd_k_forceOf_8 z mi fo pe pn re rn mo ti si lo lh lk sp st pa br sg csp cbr th tu) s.heap.size = A at hD hM ⊢
  have hA : ∀ q : Nat, s.heap.size ≤ q → A q := fun q h => by rw [← hAe]; exact Or.inr h
  have hS : va_S A s.heap s.heap [] := va_S.rf
  have hP : va_P (dC, dI) vwCl [(mo, .inr (19, [.int 0, .int 0, .int 0, .int 0, .int 0, .int 0, .int tu, .ref ti, .ref si, .ref lo, .ref lh, .ref lk, .ref sp, .ref st, .ref pa, .ref br, .ref sg, .int mi, .int 0, .int 0, .int 0, .int fo, .int 0, .long pe, .long pn, .long re, .long rn, .int th])), (sp, .inl (csp, 9, .inl (fun _ => 0))), (br, .inl (cbr, 3, .inl (fun _ => 0)))] s.heap := hP
  have hD : va_D A [(mo, .inr (19, [.int 0, .int 0, .int 0, .int 0, .int 0, .int 0, .int tu, .ref ti, .ref si, .ref lo, .ref lh, .ref lk, .ref sp, .ref st, .ref pa, .ref br, .ref sg, .int mi, .int 0, .int 0, .int 0, .int fo, .int 0, .long pe, .long pn, .long re, .long rn, .int th])), (sp, .inl (csp, 9, .inl (fun _ => 0))), (br, .inl (cbr, 3, .inl (fun _ => 0)))] := hD
  have hl := lv_entry ([.ref mo, .int 8]) (n := 2) (Nat.le_of_ble_eq_true rfl)
  rw [lg_entry_eq]
  generalize (lg_sl ([.ref mo, .int 8]) ++ List.replicate (2 - (lg_sl ([.ref mo, .int 8])).length) Slot.unset).toArray = ls at hl ⊢
  have hl : lv_has ls 2 [(0, .ref mo), (1, .int 8)] := hl
  refine va_ldcS hx hb hown (hM.2.2.1 3 _ rfl) dX15_forceOf_0 ?_
  refine lv_iload_n hx hb dX15_forceOf_2 rfl (lv_at hl 1 rfl) ?_
  have hPc := hP.sub (ws' := []) [] rfl
  have hDc := hD.sub (ws' := []) [] (by decide) rfl
  have hKc := hK.sub (tys' := []) [] rfl
  have hFc := va_free (wc := []) hD hS hA [] rfl
  refine va_calli (va_runS (As := [.ref (zK 3), .int 8]) (rest := []) ⟨hx, hb, hml, hown, hts⟩ (k_digit3_8 l dC dI z zK zV  s.heap.size) (va_cwS 2 hts gX15_forceOf_X15_digit rfl rfl rfl (by decide +kernel) ⟨Nat.le_of_ble_eq_true rfl, Nat.le_of_ble_eq_true rfl⟩) ⟨kP_blind, kP_go hPc hKc hDc hFc hM hS⟩ rfl rfl hl.1 rfl (lv_room (Nat.le_of_ble_eq_true rfl)) dX15_forceOf_3 ⟨Nat.le_of_ble_eq_true rfl, Nat.le_of_ble_eq_true rfl⟩) hS (fun q _ h => hFc q h) hFc (fun r1 u t H1 locs ht hvm hw hB hz1 hk1 hS => ?_)
  obtain ⟨hP, hD, hK⟩ := kJ (wr := [(mo, .inr (19, [.int 0, .int 0, .int 0, .int 0, .int 0, .int 0, .int tu, .ref ti, .ref si, .ref lo, .ref lh, .ref lk, .ref sp, .ref st, .ref pa, .ref br, .ref sg, .int mi, .int 0, .int 0, .int 0, .int fo, .int 0, .long pe, .long pn, .long re, .long rn, .int th])), (sp, .inl (csp, 9, .inl (fun _ => 0))), (br, .inl (cbr, 3, .inl (fun _ => 0)))]) (w1 := []) (t1 := []) hP hD hK [] [0, 1, 2] rfl rfl (by decide) (by decide) hk1 hFc ht hvm hB
  generalize H1 = H at hP hS ⊢
  have hP : va_P (dC, dI) vwCl [(mo, .inr (19, [.int 0, .int 0, .int 0, .int 0, .int 0, .int 0, .int tu, .ref ti, .ref si, .ref lo, .ref lh, .ref lk, .ref sp, .ref st, .ref pa, .ref br, .ref sg, .int mi, .int 0, .int 0, .int 0, .int fo, .int 0, .long pe, .long pn, .long re, .long rn, .int th])), (sp, .inl (csp, 9, .inl (fun _ => 0))), (br, .inl (cbr, 3, .inl (fun _ => 0)))] H := hP
  have hD : va_D A [(mo, .inr (19, [.int 0, .int 0, .int 0, .int 0, .int 0, .int 0, .int tu, .ref ti, .ref si, .ref lo, .ref lh, .ref lk, .ref sp, .ref st, .ref pa, .ref br, .ref sg, .int mi, .int 0, .int 0, .int 0, .int fo, .int 0, .long pe, .long pn, .long re, .long rn, .int th])), (sp, .inl (csp, 9, .inl (fun _ => 0))), (br, .inl (cbr, 3, .inl (fun _ => 0)))] := hD
  have hK : va_K (dC, dI) vwCl [(csp, .int), (cbr, .int)] s := hK
  obtain rfl : 6 = r1 := hw
  refine lv_aload_n hx hb dX15_forceOf_6 rfl (lv_at hl 0 rfl) ?_
  refine va_get (D := (dC, dI)) (ci := 19) (v := .ref sp) (C := RX15) (T := TX15) (N := 28) hx hb hts hiX15 hown hK hP 0 rfl rfl 12 (by decide) (hts (.fieldLink RX15 29 "SquareRigModel" "spread" "[I") (by decide +kernel)) (fun _ h9 => h9) rfl dX15_forceOf_7 ?_
  refine lv_iload_n hx hb dX15_forceOf_10 rfl (lv_at hl 1 rfl) ?_
  refine va_iald hx hb hK hP 1 0 rfl rfl (pk_in 8 9 (by decide) rfl) dX15_forceOf_11 ?_
  refine kc_v (y := .int 0) rfl ?_
  refine lv_imul hx hb dX15_forceOf_12 ?_
  refine kc_i (y := 0) (by decide +kernel) ?_
  refine lv_aload_n hx hb dX15_forceOf_13 rfl (lv_at hl 0 rfl) ?_
  refine va_get (D := (dC, dI)) (ci := 19) (v := .int 0) (C := RX15) (T := TX15) (N := 28) hx hb hts hiX15 hown hK hP 0 rfl rfl 1 (by decide) (hts (.fieldLink RX15 109 "SquareRigModel" "wind" "I") (by decide +kernel)) (fun _ h9 => h9) rfl dX15_forceOf_14 ?_
  refine lv_imul hx hb dX15_forceOf_17 ?_
  refine kc_i (y := 0) (by decide +kernel) ?_
  refine lv_aload_n hx hb dX15_forceOf_18 rfl (lv_at hl 0 rfl) ?_
  refine lv_iload_n hx hb dX15_forceOf_19 rfl (lv_at hl 1 rfl) ?_
  have hPc := hP.sub (ws' := [(mo, .inr (19, [.int 0, .int 0, .int 0, .int 0, .int 0, .int 0, .int tu, .ref ti, .ref si, .ref lo, .ref lh, .ref lk, .ref sp, .ref st, .ref pa, .ref br, .ref sg, .int mi, .int 0, .int 0, .int 0, .int fo, .int 0, .long pe, .long pn, .long re, .long rn, .int th])), (br, .inl (cbr, 3, .inl (fun _ => 0)))]) [0, 2] rfl
  have hDc := hD.sub (ws' := [(mo, .inr (19, [.int 0, .int 0, .int 0, .int 0, .int 0, .int 0, .int tu, .ref ti, .ref si, .ref lo, .ref lh, .ref lk, .ref sp, .ref st, .ref pa, .ref br, .ref sg, .int mi, .int 0, .int 0, .int 0, .int fo, .int 0, .long pe, .long pn, .long re, .long rn, .int th])), (br, .inl (cbr, 3, .inl (fun _ => 0)))]) [0, 2] (by decide) rfl
  have hKc := hK.sub (tys' := [(cbr, .int)]) [1] rfl
  have hFc := va_free (wc := [(mo, .inr (19, [.int 0, .int 0, .int 0, .int 0, .int 0, .int 0, .int tu, .ref ti, .ref si, .ref lo, .ref lh, .ref lk, .ref sp, .ref st, .ref pa, .ref br, .ref sg, .int mi, .int 0, .int 0, .int 0, .int fo, .int 0, .long pe, .long pn, .long re, .long rn, .int th])), (br, .inl (cbr, 3, .inl (fun _ => 0)))]) hD hS hA [0, 2] rfl
  refine va_calli (va_runV (As := [.int 8]) (rest := [.int 0]) ⟨hx, hb, hml, hown, hts⟩ (k_push_8 l dC dI z zK zV mi fo pe pn re rn mo ti si lo lh lk sp st pa br sg cbr th tu H.size) (cwV 1 hts gX15_forceOf_X15_push rfl rfl rfl (by decide +kernel) ⟨Nat.le_of_ble_eq_true rfl, Nat.le_of_ble_eq_true rfl⟩) ⟨kP_blind, va_recv hKc hPc (ci := 19) (q0 := 0) rfl rfl, kP_go hPc hKc hDc hFc hM hS⟩ rfl rfl hl.1 rfl (lv_room (Nat.le_of_ble_eq_true rfl)) dX15_forceOf_20 ⟨Nat.le_of_ble_eq_true rfl, Nat.le_of_ble_eq_true rfl⟩) hS (fun q _ h => hFc q h) hFc (fun r2 u t H1 locs ht hvm hw hB hz1 hk1 hS => ?_)
  obtain ⟨hP, hD, hK⟩ := kJ (wr := [(sp, .inl (csp, 9, .inl (fun _ => 0)))]) (w1 := [(br, .inl (cbr, 3, .inl (fun _ => 0))), (mo, .inr (19, [.int 0, .int 0, .int 0, .int 0, .int 0, .int 0, .int tu, .ref ti, .ref si, .ref lo, .ref lh, .ref lk, .ref sp, .ref st, .ref pa, .ref br, .ref sg, .int mi, .int 0, .int 0, .int 0, .int fo, .int 0, .long pe, .long pn, .long re, .long rn, .int th]))]) (t1 := []) hP hD hK [0, 2] [1] rfl rfl (by decide) (by decide) hk1 hFc ht hvm hB
  generalize H1 = H at hP hS ⊢
  have hP : va_P (dC, dI) vwCl [(sp, .inl (csp, 9, .inl (fun _ => 0))), (br, .inl (cbr, 3, .inl (fun _ => 0))), (mo, .inr (19, [.int 0, .int 0, .int 0, .int 0, .int 0, .int 0, .int tu, .ref ti, .ref si, .ref lo, .ref lh, .ref lk, .ref sp, .ref st, .ref pa, .ref br, .ref sg, .int mi, .int 0, .int 0, .int 0, .int fo, .int 0, .long pe, .long pn, .long re, .long rn, .int th]))] H := hP
  have hD : va_D A [(sp, .inl (csp, 9, .inl (fun _ => 0))), (br, .inl (cbr, 3, .inl (fun _ => 0))), (mo, .inr (19, [.int 0, .int 0, .int 0, .int 0, .int 0, .int 0, .int tu, .ref ti, .ref si, .ref lo, .ref lh, .ref lk, .ref sp, .ref st, .ref pa, .ref br, .ref sg, .int mi, .int 0, .int 0, .int 0, .int fo, .int 0, .long pe, .long pn, .long re, .long rn, .int th]))] := hD
  have hK : va_K (dC, dI) vwCl [(csp, .int), (cbr, .int)] s := hK
  obtain rfl : 0 = r2 := hw
  refine lv_imul hx hb dX15_forceOf_23 ?_
  refine kc_i (y := 0) (by decide +kernel) ?_
  refine lv_iconst (v := 2) hx hb dX15_forceOf_24 (by decide) ?_
  refine lv_idiv hx hb dX15_forceOf_25 (by decide +kernel) ?_
  refine kc_i (y := 0) (by decide +kernel) ?_
  exact W.iret (v := 0) hx hb hr (fun t ht hW => ⟨⟨0, (), rfl, rfl, kB_end (w9 := [(sp, .inl (csp, 9, .inl (fun _ => 0))), (br, .inl (cbr, 3, .inl (fun _ => 0))), (mo, .inr (19, [.int 0, .int 0, .int 0, .int 0, .int 0, .int 0, .int tu, .ref ti, .ref si, .ref lo, .ref lh, .ref lk, .ref sp, .ref st, .ref pa, .ref br, .ref sg, .int mi, .int 0, .int 0, .int 0, .int fo, .int 0, .long pe, .long pn, .long re, .long rn, .int th]))]) (t9 := []) hP hK hD [0, 1, 2] [] rfl (by decide) rfl rfl t ht hW⟩, hS.F ht⟩) hS.2.2 dX15_forceOf_26
abbrev wd_k_strains_m1 (z : Nat → Nat) (mi : Int32) (fo : Int32) (pe : Int64) (pn : Int64) (re : Int64) (rn : Int64) (mo : Nat) (ti : Nat) (si : Nat) (lo : Nat) (lh : Nat) (lk : Nat) (sp : Nat) (st : Nat) (pa : Nat) (br : Nat) (sg : Nat) (csp : ClassId) (cbr : ClassId) (th : Int32) (tu : Int32) : va_W := [(mo, .inr (19, [.int 0, .int 0, .int 0, .int 0, .int 0, .int 0, .int tu, .ref ti, .ref si, .ref lo, .ref lh, .ref lk, .ref sp, .ref st, .ref pa, .ref br, .ref sg, .int mi, .int 0, .int 0, .int 0, .int fo, .int 0, .long pe, .long pn, .long re, .long rn, .int th])), (sp, .inl (csp, 9, .inl (fun _ => 0))), (br, .inl (cbr, 3, .inl (fun _ => 0)))]
set_option maxHeartbeats 4000000 in
set_option maxRecDepth 100000 in
theorem k_strains_m1 (l : Launch) (dC : Nat → ClassId) (dI : Nat → Nat → Nat) (z zK zV : Nat → Nat) (mi : Int32) (fo : Int32) (pe : Int64) (pn : Int64) (re : Int64) (rn : Int64) (mo : Nat) (ti : Nat) (si : Nat) (lo : Nat) (lh : Nat) (lk : Nat) (sp : Nat) (st : Nat) (pa : Nat) (br : Nat) (sg : Nat) (csp : ClassId) (cbr : ClassId) (th : Int32) (tu : Int32) (sz : Nat)  : Met l yX15_strains wsX15_strains ({ frames := 8, cells := 0, slots := 0, locals := 171 }) (kP dC dI z zK zV [.ref mo, .int (-1)] sz (wd_k_strains_m1 z mi fo pe pn re rn mo ti si lo lh lk sp st pa br sg csp cbr th tu) [(csp, .int), (cbr, .int)]) (va_Qi (fun (r : Int32) (_ : Unit) => 0 = r) (fun _ t => kB (dC, dI) (va_A (wd_k_strains_m1 z mi fo pe pn re rn mo ti si lo lh lk sp st pa br sg csp cbr th tu) sz) [(sp, .inl (csp, 9, .inl (fun _ => 0))), (br, .inl (cbr, 3, .inl (fun _ => 0))), (mo, .inr (19, [.int 0, .int 0, .int 0, .int 0, .int 0, .int 0, .int tu, .ref ti, .ref si, .ref lo, .ref lh, .ref lk, .ref sp, .ref st, .ref pa, .ref br, .ref sg, .int mi, .int 0, .int 0, .int 0, .int fo, .int 0, .long pe, .long pn, .long re, .long rn, .int th]))] [] t) (va_A (wd_k_strains_m1 z mi fo pe pn re rn mo ti si lo lh lk sp st pa br sg csp cbr th tu) sz)) 0 0 (va_A (wd_k_strains_m1 z mi fo pe pn re rn mo ti si lo lh lk sp st pa br sg csp cbr th tu) sz) := by
  refine Met.ofW (cc := cX15_strains) (maxL := 4) (ret := (some .int)) (by decide) rfl ?_
  intro p e s m args below meth c s₁ B hml hv
  obtain ⟨rfl, hsz, hP, hK, hD0, hM⟩ := hv
  have hx := B.exec
  have hb := B.bytes
  have hr := B.returns
  have hts := atoms_spec (ws := wsX15_strains) B.pre
  have hown : s.vm.findClass RX15 = some m.cls := findClass_of_methodNamed B.named
  have hlocks := B.notSynchronized
  subst hsz
  have hD := hD0.self (sz := s.heap.size)
  generalize hAe : va_A (wd_k_strains_m1 z mi fo pe pn re rn mo ti si lo lh lk sp st pa br sg csp cbr th tu) s.heap.size = A at hD hM ⊢
  have hA : ∀ q : Nat, s.heap.size ≤ q → A q := fun q h => by rw [← hAe]; exact Or.inr h
  have hS : va_S A s.heap s.heap [] := va_S.rf
  have hP : va_P (dC, dI) vwCl [(mo, .inr (19, [.int 0, .int 0, .int 0, .int 0, .int 0, .int 0, .int tu, .ref ti, .ref si, .ref lo, .ref lh, .ref lk, .ref sp, .ref st, .ref pa, .ref br, .ref sg, .int mi, .int 0, .int 0, .int 0, .int fo, .int 0, .long pe, .long pn, .long re, .long rn, .int th])), (sp, .inl (csp, 9, .inl (fun _ => 0))), (br, .inl (cbr, 3, .inl (fun _ => 0)))] s.heap := hP
  have hD : va_D A [(mo, .inr (19, [.int 0, .int 0, .int 0, .int 0, .int 0, .int 0, .int tu, .ref ti, .ref si, .ref lo, .ref lh, .ref lk, .ref sp, .ref st, .ref pa, .ref br, .ref sg, .int mi, .int 0, .int 0, .int 0, .int fo, .int 0, .long pe, .long pn, .long re, .long rn, .int th])), (sp, .inl (csp, 9, .inl (fun _ => 0))), (br, .inl (cbr, 3, .inl (fun _ => 0)))] := hD
  have hl := lv_entry ([.ref mo, .int (-1)]) (n := 4) (Nat.le_of_ble_eq_true rfl)
  rw [lg_entry_eq]
  generalize (lg_sl ([.ref mo, .int (-1)]) ++ List.replicate (4 - (lg_sl ([.ref mo, .int (-1)])).length) Slot.unset).toArray = ls at hl ⊢
  have hl : lv_has ls 4 [(0, .ref mo), (1, .int (-1))] := hl
  refine lv_iconst (v := 0) hx hb dX15_strains_0 (by decide) ?_
  refine lv_istore_n (lv' := [(2, .int 0), (0, .ref mo), (1, .int (-1))]) hx hb dX15_strains_1 rfl hl (by decide) rfl (fun ls hl => ?_)
  refine lv_iconst (v := 0) hx hb dX15_strains_2 (by decide) ?_
  refine lv_istore_n (lv' := [(3, .int 0), (2, .int 0), (0, .ref mo), (1, .int (-1))]) hx hb dX15_strains_3 rfl hl (by decide) rfl (fun ls hl => ?_)
  refine lv_iload_n hx hb dX15_strains_4 rfl (lv_at hl 0 rfl) ?_
  refine lv_bipush (v := 9) hx hb dX15_strains_5 (by decide) ?_
  refine lv_icmp_ge (tgt := 44) hx hb dX15_strains_7 (by decide) (fun c_ => absurd c_ (by decide +kernel)) (fun _ => ?_)
  refine lv_iload_n hx hb dX15_strains_10 rfl (lv_at hl 1 rfl) ?_
  refine lv_iload_n hx hb dX15_strains_11 rfl (lv_at hl 3 rfl) ?_
  refine lv_iconst (v := (-1)) hx hb dX15_strains_12 (by decide) ?_
  refine lv_icmp_eq (tgt := 24) hx hb dX15_strains_13 (by decide) (fun _ => ?_) (fun c_ => absurd (by decide +kernel) c_)
  refine lv_aload_n hx hb dX15_strains_24 rfl (lv_at hl 2 rfl) ?_
  refine lv_iload_n hx hb dX15_strains_25 rfl (lv_at hl 0 rfl) ?_
  have hPc := hP.sub (ws' := [(mo, .inr (19, [.int 0, .int 0, .int 0, .int 0, .int 0, .int 0, .int tu, .ref ti, .ref si, .ref lo, .ref lh, .ref lk, .ref sp, .ref st, .ref pa, .ref br, .ref sg, .int mi, .int 0, .int 0, .int 0, .int fo, .int 0, .long pe, .long pn, .long re, .long rn, .int th])), (sp, .inl (csp, 9, .inl (fun _ => 0))), (br, .inl (cbr, 3, .inl (fun _ => 0)))]) [0, 1, 2] rfl
  have hDc := hD.sub (ws' := [(mo, .inr (19, [.int 0, .int 0, .int 0, .int 0, .int 0, .int 0, .int tu, .ref ti, .ref si, .ref lo, .ref lh, .ref lk, .ref sp, .ref st, .ref pa, .ref br, .ref sg, .int mi, .int 0, .int 0, .int 0, .int fo, .int 0, .long pe, .long pn, .long re, .long rn, .int th])), (sp, .inl (csp, 9, .inl (fun _ => 0))), (br, .inl (cbr, 3, .inl (fun _ => 0)))]) [0, 1, 2] (by decide) rfl
  have hKc := hK.sub (tys' := [(csp, .int), (cbr, .int)]) [0, 1] rfl
  have hFc := va_free (wc := [(mo, .inr (19, [.int 0, .int 0, .int 0, .int 0, .int 0, .int 0, .int tu, .ref ti, .ref si, .ref lo, .ref lh, .ref lk, .ref sp, .ref st, .ref pa, .ref br, .ref sg, .int mi, .int 0, .int 0, .int 0, .int fo, .int 0, .long pe, .long pn, .long re, .long rn, .int th])), (sp, .inl (csp, 9, .inl (fun _ => 0))), (br, .inl (cbr, 3, .inl (fun _ => 0)))]) hD hS hA [0, 1, 2] rfl
  refine va_calli (va_runV (As := [.int 0]) (rest := [.int 0]) ⟨hx, hb, hml, hown, hts⟩ (k_forceOf_0 l dC dI z zK zV mi fo pe pn re rn mo ti si lo lh lk sp st pa br sg csp cbr th tu s.heap.size) (cwV 1 hts gX15_strains_X15_forceOf rfl rfl rfl (by decide +kernel) ⟨Nat.le_of_ble_eq_true rfl, Nat.le_of_ble_eq_true rfl⟩) ⟨kP_blind, va_recv hKc hPc (ci := 19) (q0 := 0) rfl rfl, kP_go hPc hKc hDc hFc hM hS⟩ rfl rfl hl.1 rfl (lv_room (Nat.le_of_ble_eq_true rfl)) dX15_strains_26 ⟨Nat.le_of_ble_eq_true rfl, Nat.le_of_ble_eq_true rfl⟩) hS (fun q _ h => hFc q h) hFc (fun r1 u t H1 locs ht hvm hw hB hz1 hk1 hS => ?_)
  obtain ⟨hP, hD, hK⟩ := kJ (wr := []) (w1 := [(sp, .inl (csp, 9, .inl (fun _ => 0))), (br, .inl (cbr, 3, .inl (fun _ => 0))), (mo, .inr (19, [.int 0, .int 0, .int 0, .int 0, .int 0, .int 0, .int tu, .ref ti, .ref si, .ref lo, .ref lh, .ref lk, .ref sp, .ref st, .ref pa, .ref br, .ref sg, .int mi, .int 0, .int 0, .int 0, .int fo, .int 0, .long pe, .long pn, .long re, .long rn, .int th]))]) (t1 := []) hP hD hK [0, 1, 2] [] rfl rfl (by decide) (by decide) hk1 hFc ht hvm hB
  generalize H1 = H at hP hS ⊢
  have hP : va_P (dC, dI) vwCl [(sp, .inl (csp, 9, .inl (fun _ => 0))), (br, .inl (cbr, 3, .inl (fun _ => 0))), (mo, .inr (19, [.int 0, .int 0, .int 0, .int 0, .int 0, .int 0, .int tu, .ref ti, .ref si, .ref lo, .ref lh, .ref lk, .ref sp, .ref st, .ref pa, .ref br, .ref sg, .int mi, .int 0, .int 0, .int 0, .int fo, .int 0, .long pe, .long pn, .long re, .long rn, .int th]))] H := hP
  have hD : va_D A [(sp, .inl (csp, 9, .inl (fun _ => 0))), (br, .inl (cbr, 3, .inl (fun _ => 0))), (mo, .inr (19, [.int 0, .int 0, .int 0, .int 0, .int 0, .int 0, .int tu, .ref ti, .ref si, .ref lo, .ref lh, .ref lk, .ref sp, .ref st, .ref pa, .ref br, .ref sg, .int mi, .int 0, .int 0, .int 0, .int fo, .int 0, .long pe, .long pn, .long re, .long rn, .int th]))] := hD
  have hK : va_K (dC, dI) vwCl [(csp, .int), (cbr, .int)] s := hK
  obtain rfl : 0 = r1 := hw
  refine va_mabs hx hb (hml.trans hl.1.symm) hown (hts (.methodLink RX15 99 Lib.Math.abs.name) (by decide +kernel)) (hts (.static Lib.Math.abs.name) (by decide +kernel)) (hts (.initialized "java/lang/Math") (by decide +kernel)) (hts (.code Lib.Math.abs.name Lib.Math.abs.code 1 (some .int)) (by decide +kernel)) (Nat.le_of_ble_eq_true rfl) (Nat.le_of_ble_eq_true rfl) (Nat.le_of_ble_eq_true rfl) (Nat.le_of_ble_eq_true rfl) dX15_strains_29 ?_
  refine kc_i (y := 0) (by decide +kernel) ?_
  refine lv_goto (tgt := 36) hx hb dX15_strains_32 (by decide) ?_
  refine lv_iadd hx hb dX15_strains_36 ?_
  refine kc_i (y := 0) (by decide +kernel) ?_
  refine lv_istore_n (lv' := [(2, .int 0), (3, .int 0), (0, .ref mo), (1, .int (-1))]) hx hb dX15_strains_37 rfl hl (by decide) rfl (fun ls hl => ?_)
  refine lv_iinc (v := 1) (lv' := [(3, .int 1), (2, .int 0), (0, .ref mo), (1, .int (-1))]) hx hb dX15_strains_38 hl (k := 1) rfl (by decide +kernel) (by decide) rfl (fun ls hl => ?_)
  refine lv_goto (tgt := 4) hx hb dX15_strains_41 (by decide) ?_
  refine lv_iload_n hx hb dX15_strains_4 rfl (lv_at hl 0 rfl) ?_
  refine lv_bipush (v := 9) hx hb dX15_strains_5 (by decide) ?_
  refine lv_icmp_ge (tgt := 44) hx hb dX15_strains_7 (by decide) (fun c_ => absurd c_ (by decide +kernel)) (fun _ => ?_)
  refine lv_iload_n hx hb dX15_strains_10 rfl (lv_at hl 1 rfl) ?_
  refine lv_iload_n hx hb dX15_strains_11 rfl (lv_at hl 3 rfl) ?_
  refine lv_iconst (v := (-1)) hx hb dX15_strains_12 (by decide) ?_
  refine lv_icmp_eq (tgt := 24) hx hb dX15_strains_13 (by decide) (fun _ => ?_) (fun c_ => absurd (by decide +kernel) c_)
  refine lv_aload_n hx hb dX15_strains_24 rfl (lv_at hl 2 rfl) ?_
  refine lv_iload_n hx hb dX15_strains_25 rfl (lv_at hl 0 rfl) ?_
  have hPc := hP.sub (ws' := [(mo, .inr (19, [.int 0, .int 0, .int 0, .int 0, .int 0, .int 0, .int tu, .ref ti, .ref si, .ref lo, .ref lh, .ref lk, .ref sp, .ref st, .ref pa, .ref br, .ref sg, .int mi, .int 0, .int 0, .int 0, .int fo, .int 0, .long pe, .long pn, .long re, .long rn, .int th])), (sp, .inl (csp, 9, .inl (fun _ => 0))), (br, .inl (cbr, 3, .inl (fun _ => 0)))]) [2, 0, 1] rfl
  have hDc := hD.sub (ws' := [(mo, .inr (19, [.int 0, .int 0, .int 0, .int 0, .int 0, .int 0, .int tu, .ref ti, .ref si, .ref lo, .ref lh, .ref lk, .ref sp, .ref st, .ref pa, .ref br, .ref sg, .int mi, .int 0, .int 0, .int 0, .int fo, .int 0, .long pe, .long pn, .long re, .long rn, .int th])), (sp, .inl (csp, 9, .inl (fun _ => 0))), (br, .inl (cbr, 3, .inl (fun _ => 0)))]) [2, 0, 1] (by decide) rfl
  have hKc := hK.sub (tys' := [(csp, .int), (cbr, .int)]) [0, 1] rfl
  have hFc := va_free (wc := [(mo, .inr (19, [.int 0, .int 0, .int 0, .int 0, .int 0, .int 0, .int tu, .ref ti, .ref si, .ref lo, .ref lh, .ref lk, .ref sp, .ref st, .ref pa, .ref br, .ref sg, .int mi, .int 0, .int 0, .int 0, .int fo, .int 0, .long pe, .long pn, .long re, .long rn, .int th])), (sp, .inl (csp, 9, .inl (fun _ => 0))), (br, .inl (cbr, 3, .inl (fun _ => 0)))]) hD hS hA [2, 0, 1] rfl
  refine va_calli (va_runV (As := [.int 1]) (rest := [.int 0]) ⟨hx, hb, hml, hown, hts⟩ (k_forceOf_1 l dC dI z zK zV mi fo pe pn re rn mo ti si lo lh lk sp st pa br sg csp cbr th tu H.size) (cwV 1 hts gX15_strains_X15_forceOf rfl rfl rfl (by decide +kernel) ⟨Nat.le_of_ble_eq_true rfl, Nat.le_of_ble_eq_true rfl⟩) ⟨kP_blind, va_recv hKc hPc (ci := 19) (q0 := 0) rfl rfl, kP_go hPc hKc hDc hFc hM hS⟩ rfl rfl hl.1 rfl (lv_room (Nat.le_of_ble_eq_true rfl)) dX15_strains_26 ⟨Nat.le_of_ble_eq_true rfl, Nat.le_of_ble_eq_true rfl⟩) hS (fun q _ h => hFc q h) hFc (fun r2 u t H1 locs ht hvm hw hB hz1 hk1 hS => ?_)
  obtain ⟨hP, hD, hK⟩ := kJ (wr := []) (w1 := [(sp, .inl (csp, 9, .inl (fun _ => 0))), (br, .inl (cbr, 3, .inl (fun _ => 0))), (mo, .inr (19, [.int 0, .int 0, .int 0, .int 0, .int 0, .int 0, .int tu, .ref ti, .ref si, .ref lo, .ref lh, .ref lk, .ref sp, .ref st, .ref pa, .ref br, .ref sg, .int mi, .int 0, .int 0, .int 0, .int fo, .int 0, .long pe, .long pn, .long re, .long rn, .int th]))]) (t1 := []) hP hD hK [2, 0, 1] [] rfl rfl (by decide) (by decide) hk1 hFc ht hvm hB
  generalize H1 = H at hP hS ⊢
  have hP : va_P (dC, dI) vwCl [(sp, .inl (csp, 9, .inl (fun _ => 0))), (br, .inl (cbr, 3, .inl (fun _ => 0))), (mo, .inr (19, [.int 0, .int 0, .int 0, .int 0, .int 0, .int 0, .int tu, .ref ti, .ref si, .ref lo, .ref lh, .ref lk, .ref sp, .ref st, .ref pa, .ref br, .ref sg, .int mi, .int 0, .int 0, .int 0, .int fo, .int 0, .long pe, .long pn, .long re, .long rn, .int th]))] H := hP
  have hD : va_D A [(sp, .inl (csp, 9, .inl (fun _ => 0))), (br, .inl (cbr, 3, .inl (fun _ => 0))), (mo, .inr (19, [.int 0, .int 0, .int 0, .int 0, .int 0, .int 0, .int tu, .ref ti, .ref si, .ref lo, .ref lh, .ref lk, .ref sp, .ref st, .ref pa, .ref br, .ref sg, .int mi, .int 0, .int 0, .int 0, .int fo, .int 0, .long pe, .long pn, .long re, .long rn, .int th]))] := hD
  have hK : va_K (dC, dI) vwCl [(csp, .int), (cbr, .int)] s := hK
  obtain rfl : 0 = r2 := hw
  refine va_mabs hx hb (hml.trans hl.1.symm) hown (hts (.methodLink RX15 99 Lib.Math.abs.name) (by decide +kernel)) (hts (.static Lib.Math.abs.name) (by decide +kernel)) (hts (.initialized "java/lang/Math") (by decide +kernel)) (hts (.code Lib.Math.abs.name Lib.Math.abs.code 1 (some .int)) (by decide +kernel)) (Nat.le_of_ble_eq_true rfl) (Nat.le_of_ble_eq_true rfl) (Nat.le_of_ble_eq_true rfl) (Nat.le_of_ble_eq_true rfl) dX15_strains_29 ?_
  refine kc_i (y := 0) (by decide +kernel) ?_
  refine lv_goto (tgt := 36) hx hb dX15_strains_32 (by decide) ?_
  refine lv_iadd hx hb dX15_strains_36 ?_
  refine kc_i (y := 0) (by decide +kernel) ?_
  refine lv_istore_n (lv' := [(2, .int 0), (3, .int 1), (0, .ref mo), (1, .int (-1))]) hx hb dX15_strains_37 rfl hl (by decide) rfl (fun ls hl => ?_)
  refine lv_iinc (v := 2) (lv' := [(3, .int 2), (2, .int 0), (0, .ref mo), (1, .int (-1))]) hx hb dX15_strains_38 hl (k := 1) rfl (by decide +kernel) (by decide) rfl (fun ls hl => ?_)
  refine lv_goto (tgt := 4) hx hb dX15_strains_41 (by decide) ?_
  refine lv_iload_n hx hb dX15_strains_4 rfl (lv_at hl 0 rfl) ?_
  refine lv_bipush (v := 9) hx hb dX15_strains_5 (by decide) ?_
  refine lv_icmp_ge (tgt := 44) hx hb dX15_strains_7 (by decide) (fun c_ => absurd c_ (by decide +kernel)) (fun _ => ?_)
  refine lv_iload_n hx hb dX15_strains_10 rfl (lv_at hl 1 rfl) ?_
  refine lv_iload_n hx hb dX15_strains_11 rfl (lv_at hl 3 rfl) ?_
  refine lv_iconst (v := (-1)) hx hb dX15_strains_12 (by decide) ?_
  refine lv_icmp_eq (tgt := 24) hx hb dX15_strains_13 (by decide) (fun _ => ?_) (fun c_ => absurd (by decide +kernel) c_)
  refine lv_aload_n hx hb dX15_strains_24 rfl (lv_at hl 2 rfl) ?_
  refine lv_iload_n hx hb dX15_strains_25 rfl (lv_at hl 0 rfl) ?_
  have hPc := hP.sub (ws' := [(mo, .inr (19, [.int 0, .int 0, .int 0, .int 0, .int 0, .int 0, .int tu, .ref ti, .ref si, .ref lo, .ref lh, .ref lk, .ref sp, .ref st, .ref pa, .ref br, .ref sg, .int mi, .int 0, .int 0, .int 0, .int fo, .int 0, .long pe, .long pn, .long re, .long rn, .int th])), (sp, .inl (csp, 9, .inl (fun _ => 0))), (br, .inl (cbr, 3, .inl (fun _ => 0)))]) [2, 0, 1] rfl
  have hDc := hD.sub (ws' := [(mo, .inr (19, [.int 0, .int 0, .int 0, .int 0, .int 0, .int 0, .int tu, .ref ti, .ref si, .ref lo, .ref lh, .ref lk, .ref sp, .ref st, .ref pa, .ref br, .ref sg, .int mi, .int 0, .int 0, .int 0, .int fo, .int 0, .long pe, .long pn, .long re, .long rn, .int th])), (sp, .inl (csp, 9, .inl (fun _ => 0))), (br, .inl (cbr, 3, .inl (fun _ => 0)))]) [2, 0, 1] (by decide) rfl
  have hKc := hK.sub (tys' := [(csp, .int), (cbr, .int)]) [0, 1] rfl
  have hFc := va_free (wc := [(mo, .inr (19, [.int 0, .int 0, .int 0, .int 0, .int 0, .int 0, .int tu, .ref ti, .ref si, .ref lo, .ref lh, .ref lk, .ref sp, .ref st, .ref pa, .ref br, .ref sg, .int mi, .int 0, .int 0, .int 0, .int fo, .int 0, .long pe, .long pn, .long re, .long rn, .int th])), (sp, .inl (csp, 9, .inl (fun _ => 0))), (br, .inl (cbr, 3, .inl (fun _ => 0)))]) hD hS hA [2, 0, 1] rfl
  refine va_calli (va_runV (As := [.int 2]) (rest := [.int 0]) ⟨hx, hb, hml, hown, hts⟩ (k_forceOf_2 l dC dI z zK zV mi fo pe pn re rn mo ti si lo lh lk sp st pa br sg csp cbr th tu H.size) (cwV 1 hts gX15_strains_X15_forceOf rfl rfl rfl (by decide +kernel) ⟨Nat.le_of_ble_eq_true rfl, Nat.le_of_ble_eq_true rfl⟩) ⟨kP_blind, va_recv hKc hPc (ci := 19) (q0 := 0) rfl rfl, kP_go hPc hKc hDc hFc hM hS⟩ rfl rfl hl.1 rfl (lv_room (Nat.le_of_ble_eq_true rfl)) dX15_strains_26 ⟨Nat.le_of_ble_eq_true rfl, Nat.le_of_ble_eq_true rfl⟩) hS (fun q _ h => hFc q h) hFc (fun r3 u t H1 locs ht hvm hw hB hz1 hk1 hS => ?_)
  obtain ⟨hP, hD, hK⟩ := kJ (wr := []) (w1 := [(sp, .inl (csp, 9, .inl (fun _ => 0))), (br, .inl (cbr, 3, .inl (fun _ => 0))), (mo, .inr (19, [.int 0, .int 0, .int 0, .int 0, .int 0, .int 0, .int tu, .ref ti, .ref si, .ref lo, .ref lh, .ref lk, .ref sp, .ref st, .ref pa, .ref br, .ref sg, .int mi, .int 0, .int 0, .int 0, .int fo, .int 0, .long pe, .long pn, .long re, .long rn, .int th]))]) (t1 := []) hP hD hK [2, 0, 1] [] rfl rfl (by decide) (by decide) hk1 hFc ht hvm hB
  generalize H1 = H at hP hS ⊢
  have hP : va_P (dC, dI) vwCl [(sp, .inl (csp, 9, .inl (fun _ => 0))), (br, .inl (cbr, 3, .inl (fun _ => 0))), (mo, .inr (19, [.int 0, .int 0, .int 0, .int 0, .int 0, .int 0, .int tu, .ref ti, .ref si, .ref lo, .ref lh, .ref lk, .ref sp, .ref st, .ref pa, .ref br, .ref sg, .int mi, .int 0, .int 0, .int 0, .int fo, .int 0, .long pe, .long pn, .long re, .long rn, .int th]))] H := hP
  have hD : va_D A [(sp, .inl (csp, 9, .inl (fun _ => 0))), (br, .inl (cbr, 3, .inl (fun _ => 0))), (mo, .inr (19, [.int 0, .int 0, .int 0, .int 0, .int 0, .int 0, .int tu, .ref ti, .ref si, .ref lo, .ref lh, .ref lk, .ref sp, .ref st, .ref pa, .ref br, .ref sg, .int mi, .int 0, .int 0, .int 0, .int fo, .int 0, .long pe, .long pn, .long re, .long rn, .int th]))] := hD
  have hK : va_K (dC, dI) vwCl [(csp, .int), (cbr, .int)] s := hK
  obtain rfl : 0 = r3 := hw
  refine va_mabs hx hb (hml.trans hl.1.symm) hown (hts (.methodLink RX15 99 Lib.Math.abs.name) (by decide +kernel)) (hts (.static Lib.Math.abs.name) (by decide +kernel)) (hts (.initialized "java/lang/Math") (by decide +kernel)) (hts (.code Lib.Math.abs.name Lib.Math.abs.code 1 (some .int)) (by decide +kernel)) (Nat.le_of_ble_eq_true rfl) (Nat.le_of_ble_eq_true rfl) (Nat.le_of_ble_eq_true rfl) (Nat.le_of_ble_eq_true rfl) dX15_strains_29 ?_
  refine kc_i (y := 0) (by decide +kernel) ?_
  refine lv_goto (tgt := 36) hx hb dX15_strains_32 (by decide) ?_
  refine lv_iadd hx hb dX15_strains_36 ?_
  refine kc_i (y := 0) (by decide +kernel) ?_
  refine lv_istore_n (lv' := [(2, .int 0), (3, .int 2), (0, .ref mo), (1, .int (-1))]) hx hb dX15_strains_37 rfl hl (by decide) rfl (fun ls hl => ?_)
  refine lv_iinc (v := 3) (lv' := [(3, .int 3), (2, .int 0), (0, .ref mo), (1, .int (-1))]) hx hb dX15_strains_38 hl (k := 1) rfl (by decide +kernel) (by decide) rfl (fun ls hl => ?_)
  refine lv_goto (tgt := 4) hx hb dX15_strains_41 (by decide) ?_
  refine lv_iload_n hx hb dX15_strains_4 rfl (lv_at hl 0 rfl) ?_
  refine lv_bipush (v := 9) hx hb dX15_strains_5 (by decide) ?_
  refine lv_icmp_ge (tgt := 44) hx hb dX15_strains_7 (by decide) (fun c_ => absurd c_ (by decide +kernel)) (fun _ => ?_)
  refine lv_iload_n hx hb dX15_strains_10 rfl (lv_at hl 1 rfl) ?_
  refine lv_iload_n hx hb dX15_strains_11 rfl (lv_at hl 3 rfl) ?_
  refine lv_iconst (v := (-1)) hx hb dX15_strains_12 (by decide) ?_
  refine lv_icmp_eq (tgt := 24) hx hb dX15_strains_13 (by decide) (fun _ => ?_) (fun c_ => absurd (by decide +kernel) c_)
  refine lv_aload_n hx hb dX15_strains_24 rfl (lv_at hl 2 rfl) ?_
  refine lv_iload_n hx hb dX15_strains_25 rfl (lv_at hl 0 rfl) ?_
  have hPc := hP.sub (ws' := [(mo, .inr (19, [.int 0, .int 0, .int 0, .int 0, .int 0, .int 0, .int tu, .ref ti, .ref si, .ref lo, .ref lh, .ref lk, .ref sp, .ref st, .ref pa, .ref br, .ref sg, .int mi, .int 0, .int 0, .int 0, .int fo, .int 0, .long pe, .long pn, .long re, .long rn, .int th])), (sp, .inl (csp, 9, .inl (fun _ => 0))), (br, .inl (cbr, 3, .inl (fun _ => 0)))]) [2, 0, 1] rfl
  have hDc := hD.sub (ws' := [(mo, .inr (19, [.int 0, .int 0, .int 0, .int 0, .int 0, .int 0, .int tu, .ref ti, .ref si, .ref lo, .ref lh, .ref lk, .ref sp, .ref st, .ref pa, .ref br, .ref sg, .int mi, .int 0, .int 0, .int 0, .int fo, .int 0, .long pe, .long pn, .long re, .long rn, .int th])), (sp, .inl (csp, 9, .inl (fun _ => 0))), (br, .inl (cbr, 3, .inl (fun _ => 0)))]) [2, 0, 1] (by decide) rfl
  have hKc := hK.sub (tys' := [(csp, .int), (cbr, .int)]) [0, 1] rfl
  have hFc := va_free (wc := [(mo, .inr (19, [.int 0, .int 0, .int 0, .int 0, .int 0, .int 0, .int tu, .ref ti, .ref si, .ref lo, .ref lh, .ref lk, .ref sp, .ref st, .ref pa, .ref br, .ref sg, .int mi, .int 0, .int 0, .int 0, .int fo, .int 0, .long pe, .long pn, .long re, .long rn, .int th])), (sp, .inl (csp, 9, .inl (fun _ => 0))), (br, .inl (cbr, 3, .inl (fun _ => 0)))]) hD hS hA [2, 0, 1] rfl
  refine va_calli (va_runV (As := [.int 3]) (rest := [.int 0]) ⟨hx, hb, hml, hown, hts⟩ (k_forceOf_3 l dC dI z zK zV mi fo pe pn re rn mo ti si lo lh lk sp st pa br sg csp cbr th tu H.size) (cwV 1 hts gX15_strains_X15_forceOf rfl rfl rfl (by decide +kernel) ⟨Nat.le_of_ble_eq_true rfl, Nat.le_of_ble_eq_true rfl⟩) ⟨kP_blind, va_recv hKc hPc (ci := 19) (q0 := 0) rfl rfl, kP_go hPc hKc hDc hFc hM hS⟩ rfl rfl hl.1 rfl (lv_room (Nat.le_of_ble_eq_true rfl)) dX15_strains_26 ⟨Nat.le_of_ble_eq_true rfl, Nat.le_of_ble_eq_true rfl⟩) hS (fun q _ h => hFc q h) hFc (fun r4 u t H1 locs ht hvm hw hB hz1 hk1 hS => ?_)
  obtain ⟨hP, hD, hK⟩ := kJ (wr := []) (w1 := [(sp, .inl (csp, 9, .inl (fun _ => 0))), (br, .inl (cbr, 3, .inl (fun _ => 0))), (mo, .inr (19, [.int 0, .int 0, .int 0, .int 0, .int 0, .int 0, .int tu, .ref ti, .ref si, .ref lo, .ref lh, .ref lk, .ref sp, .ref st, .ref pa, .ref br, .ref sg, .int mi, .int 0, .int 0, .int 0, .int fo, .int 0, .long pe, .long pn, .long re, .long rn, .int th]))]) (t1 := []) hP hD hK [2, 0, 1] [] rfl rfl (by decide) (by decide) hk1 hFc ht hvm hB
  generalize H1 = H at hP hS ⊢
  have hP : va_P (dC, dI) vwCl [(sp, .inl (csp, 9, .inl (fun _ => 0))), (br, .inl (cbr, 3, .inl (fun _ => 0))), (mo, .inr (19, [.int 0, .int 0, .int 0, .int 0, .int 0, .int 0, .int tu, .ref ti, .ref si, .ref lo, .ref lh, .ref lk, .ref sp, .ref st, .ref pa, .ref br, .ref sg, .int mi, .int 0, .int 0, .int 0, .int fo, .int 0, .long pe, .long pn, .long re, .long rn, .int th]))] H := hP
  have hD : va_D A [(sp, .inl (csp, 9, .inl (fun _ => 0))), (br, .inl (cbr, 3, .inl (fun _ => 0))), (mo, .inr (19, [.int 0, .int 0, .int 0, .int 0, .int 0, .int 0, .int tu, .ref ti, .ref si, .ref lo, .ref lh, .ref lk, .ref sp, .ref st, .ref pa, .ref br, .ref sg, .int mi, .int 0, .int 0, .int 0, .int fo, .int 0, .long pe, .long pn, .long re, .long rn, .int th]))] := hD
  have hK : va_K (dC, dI) vwCl [(csp, .int), (cbr, .int)] s := hK
  obtain rfl : 0 = r4 := hw
  refine va_mabs hx hb (hml.trans hl.1.symm) hown (hts (.methodLink RX15 99 Lib.Math.abs.name) (by decide +kernel)) (hts (.static Lib.Math.abs.name) (by decide +kernel)) (hts (.initialized "java/lang/Math") (by decide +kernel)) (hts (.code Lib.Math.abs.name Lib.Math.abs.code 1 (some .int)) (by decide +kernel)) (Nat.le_of_ble_eq_true rfl) (Nat.le_of_ble_eq_true rfl) (Nat.le_of_ble_eq_true rfl) (Nat.le_of_ble_eq_true rfl) dX15_strains_29 ?_
  refine kc_i (y := 0) (by decide +kernel) ?_
  refine lv_goto (tgt := 36) hx hb dX15_strains_32 (by decide) ?_
  refine lv_iadd hx hb dX15_strains_36 ?_
  refine kc_i (y := 0) (by decide +kernel) ?_
  refine lv_istore_n (lv' := [(2, .int 0), (3, .int 3), (0, .ref mo), (1, .int (-1))]) hx hb dX15_strains_37 rfl hl (by decide) rfl (fun ls hl => ?_)
  refine lv_iinc (v := 4) (lv' := [(3, .int 4), (2, .int 0), (0, .ref mo), (1, .int (-1))]) hx hb dX15_strains_38 hl (k := 1) rfl (by decide +kernel) (by decide) rfl (fun ls hl => ?_)
  refine lv_goto (tgt := 4) hx hb dX15_strains_41 (by decide) ?_
  refine lv_iload_n hx hb dX15_strains_4 rfl (lv_at hl 0 rfl) ?_
  refine lv_bipush (v := 9) hx hb dX15_strains_5 (by decide) ?_
  refine lv_icmp_ge (tgt := 44) hx hb dX15_strains_7 (by decide) (fun c_ => absurd c_ (by decide +kernel)) (fun _ => ?_)
  refine lv_iload_n hx hb dX15_strains_10 rfl (lv_at hl 1 rfl) ?_
  refine lv_iload_n hx hb dX15_strains_11 rfl (lv_at hl 3 rfl) ?_
  refine lv_iconst (v := (-1)) hx hb dX15_strains_12 (by decide) ?_
  refine lv_icmp_eq (tgt := 24) hx hb dX15_strains_13 (by decide) (fun _ => ?_) (fun c_ => absurd (by decide +kernel) c_)
  refine lv_aload_n hx hb dX15_strains_24 rfl (lv_at hl 2 rfl) ?_
  refine lv_iload_n hx hb dX15_strains_25 rfl (lv_at hl 0 rfl) ?_
  have hPc := hP.sub (ws' := [(mo, .inr (19, [.int 0, .int 0, .int 0, .int 0, .int 0, .int 0, .int tu, .ref ti, .ref si, .ref lo, .ref lh, .ref lk, .ref sp, .ref st, .ref pa, .ref br, .ref sg, .int mi, .int 0, .int 0, .int 0, .int fo, .int 0, .long pe, .long pn, .long re, .long rn, .int th])), (sp, .inl (csp, 9, .inl (fun _ => 0))), (br, .inl (cbr, 3, .inl (fun _ => 0)))]) [2, 0, 1] rfl
  have hDc := hD.sub (ws' := [(mo, .inr (19, [.int 0, .int 0, .int 0, .int 0, .int 0, .int 0, .int tu, .ref ti, .ref si, .ref lo, .ref lh, .ref lk, .ref sp, .ref st, .ref pa, .ref br, .ref sg, .int mi, .int 0, .int 0, .int 0, .int fo, .int 0, .long pe, .long pn, .long re, .long rn, .int th])), (sp, .inl (csp, 9, .inl (fun _ => 0))), (br, .inl (cbr, 3, .inl (fun _ => 0)))]) [2, 0, 1] (by decide) rfl
  have hKc := hK.sub (tys' := [(csp, .int), (cbr, .int)]) [0, 1] rfl
  have hFc := va_free (wc := [(mo, .inr (19, [.int 0, .int 0, .int 0, .int 0, .int 0, .int 0, .int tu, .ref ti, .ref si, .ref lo, .ref lh, .ref lk, .ref sp, .ref st, .ref pa, .ref br, .ref sg, .int mi, .int 0, .int 0, .int 0, .int fo, .int 0, .long pe, .long pn, .long re, .long rn, .int th])), (sp, .inl (csp, 9, .inl (fun _ => 0))), (br, .inl (cbr, 3, .inl (fun _ => 0)))]) hD hS hA [2, 0, 1] rfl
  refine va_calli (va_runV (As := [.int 4]) (rest := [.int 0]) ⟨hx, hb, hml, hown, hts⟩ (k_forceOf_4 l dC dI z zK zV mi fo pe pn re rn mo ti si lo lh lk sp st pa br sg csp cbr th tu H.size) (cwV 1 hts gX15_strains_X15_forceOf rfl rfl rfl (by decide +kernel) ⟨Nat.le_of_ble_eq_true rfl, Nat.le_of_ble_eq_true rfl⟩) ⟨kP_blind, va_recv hKc hPc (ci := 19) (q0 := 0) rfl rfl, kP_go hPc hKc hDc hFc hM hS⟩ rfl rfl hl.1 rfl (lv_room (Nat.le_of_ble_eq_true rfl)) dX15_strains_26 ⟨Nat.le_of_ble_eq_true rfl, Nat.le_of_ble_eq_true rfl⟩) hS (fun q _ h => hFc q h) hFc (fun r5 u t H1 locs ht hvm hw hB hz1 hk1 hS => ?_)
  obtain ⟨hP, hD, hK⟩ := kJ (wr := []) (w1 := [(sp, .inl (csp, 9, .inl (fun _ => 0))), (br, .inl (cbr, 3, .inl (fun _ => 0))), (mo, .inr (19, [.int 0, .int 0, .int 0, .int 0, .int 0, .int 0, .int tu, .ref ti, .ref si, .ref lo, .ref lh, .ref lk, .ref sp, .ref st, .ref pa, .ref br, .ref sg, .int mi, .int 0, .int 0, .int 0, .int fo, .int 0, .long pe, .long pn, .long re, .long rn, .int th]))]) (t1 := []) hP hD hK [2, 0, 1] [] rfl rfl (by decide) (by decide) hk1 hFc ht hvm hB
  generalize H1 = H at hP hS ⊢
  have hP : va_P (dC, dI) vwCl [(sp, .inl (csp, 9, .inl (fun _ => 0))), (br, .inl (cbr, 3, .inl (fun _ => 0))), (mo, .inr (19, [.int 0, .int 0, .int 0, .int 0, .int 0, .int 0, .int tu, .ref ti, .ref si, .ref lo, .ref lh, .ref lk, .ref sp, .ref st, .ref pa, .ref br, .ref sg, .int mi, .int 0, .int 0, .int 0, .int fo, .int 0, .long pe, .long pn, .long re, .long rn, .int th]))] H := hP
  have hD : va_D A [(sp, .inl (csp, 9, .inl (fun _ => 0))), (br, .inl (cbr, 3, .inl (fun _ => 0))), (mo, .inr (19, [.int 0, .int 0, .int 0, .int 0, .int 0, .int 0, .int tu, .ref ti, .ref si, .ref lo, .ref lh, .ref lk, .ref sp, .ref st, .ref pa, .ref br, .ref sg, .int mi, .int 0, .int 0, .int 0, .int fo, .int 0, .long pe, .long pn, .long re, .long rn, .int th]))] := hD
  have hK : va_K (dC, dI) vwCl [(csp, .int), (cbr, .int)] s := hK
  obtain rfl : 0 = r5 := hw
  refine va_mabs hx hb (hml.trans hl.1.symm) hown (hts (.methodLink RX15 99 Lib.Math.abs.name) (by decide +kernel)) (hts (.static Lib.Math.abs.name) (by decide +kernel)) (hts (.initialized "java/lang/Math") (by decide +kernel)) (hts (.code Lib.Math.abs.name Lib.Math.abs.code 1 (some .int)) (by decide +kernel)) (Nat.le_of_ble_eq_true rfl) (Nat.le_of_ble_eq_true rfl) (Nat.le_of_ble_eq_true rfl) (Nat.le_of_ble_eq_true rfl) dX15_strains_29 ?_
  refine kc_i (y := 0) (by decide +kernel) ?_
  refine lv_goto (tgt := 36) hx hb dX15_strains_32 (by decide) ?_
  refine lv_iadd hx hb dX15_strains_36 ?_
  refine kc_i (y := 0) (by decide +kernel) ?_
  refine lv_istore_n (lv' := [(2, .int 0), (3, .int 4), (0, .ref mo), (1, .int (-1))]) hx hb dX15_strains_37 rfl hl (by decide) rfl (fun ls hl => ?_)
  refine lv_iinc (v := 5) (lv' := [(3, .int 5), (2, .int 0), (0, .ref mo), (1, .int (-1))]) hx hb dX15_strains_38 hl (k := 1) rfl (by decide +kernel) (by decide) rfl (fun ls hl => ?_)
  refine lv_goto (tgt := 4) hx hb dX15_strains_41 (by decide) ?_
  refine lv_iload_n hx hb dX15_strains_4 rfl (lv_at hl 0 rfl) ?_
  refine lv_bipush (v := 9) hx hb dX15_strains_5 (by decide) ?_
  refine lv_icmp_ge (tgt := 44) hx hb dX15_strains_7 (by decide) (fun c_ => absurd c_ (by decide +kernel)) (fun _ => ?_)
  refine lv_iload_n hx hb dX15_strains_10 rfl (lv_at hl 1 rfl) ?_
  refine lv_iload_n hx hb dX15_strains_11 rfl (lv_at hl 3 rfl) ?_
  refine lv_iconst (v := (-1)) hx hb dX15_strains_12 (by decide) ?_
  refine lv_icmp_eq (tgt := 24) hx hb dX15_strains_13 (by decide) (fun _ => ?_) (fun c_ => absurd (by decide +kernel) c_)
  refine lv_aload_n hx hb dX15_strains_24 rfl (lv_at hl 2 rfl) ?_
  refine lv_iload_n hx hb dX15_strains_25 rfl (lv_at hl 0 rfl) ?_
  have hPc := hP.sub (ws' := [(mo, .inr (19, [.int 0, .int 0, .int 0, .int 0, .int 0, .int 0, .int tu, .ref ti, .ref si, .ref lo, .ref lh, .ref lk, .ref sp, .ref st, .ref pa, .ref br, .ref sg, .int mi, .int 0, .int 0, .int 0, .int fo, .int 0, .long pe, .long pn, .long re, .long rn, .int th])), (sp, .inl (csp, 9, .inl (fun _ => 0))), (br, .inl (cbr, 3, .inl (fun _ => 0)))]) [2, 0, 1] rfl
  have hDc := hD.sub (ws' := [(mo, .inr (19, [.int 0, .int 0, .int 0, .int 0, .int 0, .int 0, .int tu, .ref ti, .ref si, .ref lo, .ref lh, .ref lk, .ref sp, .ref st, .ref pa, .ref br, .ref sg, .int mi, .int 0, .int 0, .int 0, .int fo, .int 0, .long pe, .long pn, .long re, .long rn, .int th])), (sp, .inl (csp, 9, .inl (fun _ => 0))), (br, .inl (cbr, 3, .inl (fun _ => 0)))]) [2, 0, 1] (by decide) rfl
  have hKc := hK.sub (tys' := [(csp, .int), (cbr, .int)]) [0, 1] rfl
  have hFc := va_free (wc := [(mo, .inr (19, [.int 0, .int 0, .int 0, .int 0, .int 0, .int 0, .int tu, .ref ti, .ref si, .ref lo, .ref lh, .ref lk, .ref sp, .ref st, .ref pa, .ref br, .ref sg, .int mi, .int 0, .int 0, .int 0, .int fo, .int 0, .long pe, .long pn, .long re, .long rn, .int th])), (sp, .inl (csp, 9, .inl (fun _ => 0))), (br, .inl (cbr, 3, .inl (fun _ => 0)))]) hD hS hA [2, 0, 1] rfl
  refine va_calli (va_runV (As := [.int 5]) (rest := [.int 0]) ⟨hx, hb, hml, hown, hts⟩ (k_forceOf_5 l dC dI z zK zV mi fo pe pn re rn mo ti si lo lh lk sp st pa br sg csp cbr th tu H.size) (cwV 1 hts gX15_strains_X15_forceOf rfl rfl rfl (by decide +kernel) ⟨Nat.le_of_ble_eq_true rfl, Nat.le_of_ble_eq_true rfl⟩) ⟨kP_blind, va_recv hKc hPc (ci := 19) (q0 := 0) rfl rfl, kP_go hPc hKc hDc hFc hM hS⟩ rfl rfl hl.1 rfl (lv_room (Nat.le_of_ble_eq_true rfl)) dX15_strains_26 ⟨Nat.le_of_ble_eq_true rfl, Nat.le_of_ble_eq_true rfl⟩) hS (fun q _ h => hFc q h) hFc (fun r6 u t H1 locs ht hvm hw hB hz1 hk1 hS => ?_)
  obtain ⟨hP, hD, hK⟩ := kJ (wr := []) (w1 := [(sp, .inl (csp, 9, .inl (fun _ => 0))), (br, .inl (cbr, 3, .inl (fun _ => 0))), (mo, .inr (19, [.int 0, .int 0, .int 0, .int 0, .int 0, .int 0, .int tu, .ref ti, .ref si, .ref lo, .ref lh, .ref lk, .ref sp, .ref st, .ref pa, .ref br, .ref sg, .int mi, .int 0, .int 0, .int 0, .int fo, .int 0, .long pe, .long pn, .long re, .long rn, .int th]))]) (t1 := []) hP hD hK [2, 0, 1] [] rfl rfl (by decide) (by decide) hk1 hFc ht hvm hB
  generalize H1 = H at hP hS ⊢
  have hP : va_P (dC, dI) vwCl [(sp, .inl (csp, 9, .inl (fun _ => 0))), (br, .inl (cbr, 3, .inl (fun _ => 0))), (mo, .inr (19, [.int 0, .int 0, .int 0, .int 0, .int 0, .int 0, .int tu, .ref ti, .ref si, .ref lo, .ref lh, .ref lk, .ref sp, .ref st, .ref pa, .ref br, .ref sg, .int mi, .int 0, .int 0, .int 0, .int fo, .int 0, .long pe, .long pn, .long re, .long rn, .int th]))] H := hP
  have hD : va_D A [(sp, .inl (csp, 9, .inl (fun _ => 0))), (br, .inl (cbr, 3, .inl (fun _ => 0))), (mo, .inr (19, [.int 0, .int 0, .int 0, .int 0, .int 0, .int 0, .int tu, .ref ti, .ref si, .ref lo, .ref lh, .ref lk, .ref sp, .ref st, .ref pa, .ref br, .ref sg, .int mi, .int 0, .int 0, .int 0, .int fo, .int 0, .long pe, .long pn, .long re, .long rn, .int th]))] := hD
  have hK : va_K (dC, dI) vwCl [(csp, .int), (cbr, .int)] s := hK
  obtain rfl : 0 = r6 := hw
  refine va_mabs hx hb (hml.trans hl.1.symm) hown (hts (.methodLink RX15 99 Lib.Math.abs.name) (by decide +kernel)) (hts (.static Lib.Math.abs.name) (by decide +kernel)) (hts (.initialized "java/lang/Math") (by decide +kernel)) (hts (.code Lib.Math.abs.name Lib.Math.abs.code 1 (some .int)) (by decide +kernel)) (Nat.le_of_ble_eq_true rfl) (Nat.le_of_ble_eq_true rfl) (Nat.le_of_ble_eq_true rfl) (Nat.le_of_ble_eq_true rfl) dX15_strains_29 ?_
  refine kc_i (y := 0) (by decide +kernel) ?_
  refine lv_goto (tgt := 36) hx hb dX15_strains_32 (by decide) ?_
  refine lv_iadd hx hb dX15_strains_36 ?_
  refine kc_i (y := 0) (by decide +kernel) ?_
  refine lv_istore_n (lv' := [(2, .int 0), (3, .int 5), (0, .ref mo), (1, .int (-1))]) hx hb dX15_strains_37 rfl hl (by decide) rfl (fun ls hl => ?_)
  refine lv_iinc (v := 6) (lv' := [(3, .int 6), (2, .int 0), (0, .ref mo), (1, .int (-1))]) hx hb dX15_strains_38 hl (k := 1) rfl (by decide +kernel) (by decide) rfl (fun ls hl => ?_)
  refine lv_goto (tgt := 4) hx hb dX15_strains_41 (by decide) ?_
  refine lv_iload_n hx hb dX15_strains_4 rfl (lv_at hl 0 rfl) ?_
  refine lv_bipush (v := 9) hx hb dX15_strains_5 (by decide) ?_
  refine lv_icmp_ge (tgt := 44) hx hb dX15_strains_7 (by decide) (fun c_ => absurd c_ (by decide +kernel)) (fun _ => ?_)
  refine lv_iload_n hx hb dX15_strains_10 rfl (lv_at hl 1 rfl) ?_
  refine lv_iload_n hx hb dX15_strains_11 rfl (lv_at hl 3 rfl) ?_
  refine lv_iconst (v := (-1)) hx hb dX15_strains_12 (by decide) ?_
  refine lv_icmp_eq (tgt := 24) hx hb dX15_strains_13 (by decide) (fun _ => ?_) (fun c_ => absurd (by decide +kernel) c_)
  refine lv_aload_n hx hb dX15_strains_24 rfl (lv_at hl 2 rfl) ?_
  refine lv_iload_n hx hb dX15_strains_25 rfl (lv_at hl 0 rfl) ?_
  have hPc := hP.sub (ws' := [(mo, .inr (19, [.int 0, .int 0, .int 0, .int 0, .int 0, .int 0, .int tu, .ref ti, .ref si, .ref lo, .ref lh, .ref lk, .ref sp, .ref st, .ref pa, .ref br, .ref sg, .int mi, .int 0, .int 0, .int 0, .int fo, .int 0, .long pe, .long pn, .long re, .long rn, .int th])), (sp, .inl (csp, 9, .inl (fun _ => 0))), (br, .inl (cbr, 3, .inl (fun _ => 0)))]) [2, 0, 1] rfl
  have hDc := hD.sub (ws' := [(mo, .inr (19, [.int 0, .int 0, .int 0, .int 0, .int 0, .int 0, .int tu, .ref ti, .ref si, .ref lo, .ref lh, .ref lk, .ref sp, .ref st, .ref pa, .ref br, .ref sg, .int mi, .int 0, .int 0, .int 0, .int fo, .int 0, .long pe, .long pn, .long re, .long rn, .int th])), (sp, .inl (csp, 9, .inl (fun _ => 0))), (br, .inl (cbr, 3, .inl (fun _ => 0)))]) [2, 0, 1] (by decide) rfl
  have hKc := hK.sub (tys' := [(csp, .int), (cbr, .int)]) [0, 1] rfl
  have hFc := va_free (wc := [(mo, .inr (19, [.int 0, .int 0, .int 0, .int 0, .int 0, .int 0, .int tu, .ref ti, .ref si, .ref lo, .ref lh, .ref lk, .ref sp, .ref st, .ref pa, .ref br, .ref sg, .int mi, .int 0, .int 0, .int 0, .int fo, .int 0, .long pe, .long pn, .long re, .long rn, .int th])), (sp, .inl (csp, 9, .inl (fun _ => 0))), (br, .inl (cbr, 3, .inl (fun _ => 0)))]) hD hS hA [2, 0, 1] rfl
  refine va_calli (va_runV (As := [.int 6]) (rest := [.int 0]) ⟨hx, hb, hml, hown, hts⟩ (k_forceOf_6 l dC dI z zK zV mi fo pe pn re rn mo ti si lo lh lk sp st pa br sg csp cbr th tu H.size) (cwV 1 hts gX15_strains_X15_forceOf rfl rfl rfl (by decide +kernel) ⟨Nat.le_of_ble_eq_true rfl, Nat.le_of_ble_eq_true rfl⟩) ⟨kP_blind, va_recv hKc hPc (ci := 19) (q0 := 0) rfl rfl, kP_go hPc hKc hDc hFc hM hS⟩ rfl rfl hl.1 rfl (lv_room (Nat.le_of_ble_eq_true rfl)) dX15_strains_26 ⟨Nat.le_of_ble_eq_true rfl, Nat.le_of_ble_eq_true rfl⟩) hS (fun q _ h => hFc q h) hFc (fun r7 u t H1 locs ht hvm hw hB hz1 hk1 hS => ?_)
  obtain ⟨hP, hD, hK⟩ := kJ (wr := []) (w1 := [(sp, .inl (csp, 9, .inl (fun _ => 0))), (br, .inl (cbr, 3, .inl (fun _ => 0))), (mo, .inr (19, [.int 0, .int 0, .int 0, .int 0, .int 0, .int 0, .int tu, .ref ti, .ref si, .ref lo, .ref lh, .ref lk, .ref sp, .ref st, .ref pa, .ref br, .ref sg, .int mi, .int 0, .int 0, .int 0, .int fo, .int 0, .long pe, .long pn, .long re, .long rn, .int th]))]) (t1 := []) hP hD hK [2, 0, 1] [] rfl rfl (by decide) (by decide) hk1 hFc ht hvm hB
  generalize H1 = H at hP hS ⊢
  have hP : va_P (dC, dI) vwCl [(sp, .inl (csp, 9, .inl (fun _ => 0))), (br, .inl (cbr, 3, .inl (fun _ => 0))), (mo, .inr (19, [.int 0, .int 0, .int 0, .int 0, .int 0, .int 0, .int tu, .ref ti, .ref si, .ref lo, .ref lh, .ref lk, .ref sp, .ref st, .ref pa, .ref br, .ref sg, .int mi, .int 0, .int 0, .int 0, .int fo, .int 0, .long pe, .long pn, .long re, .long rn, .int th]))] H := hP
  have hD : va_D A [(sp, .inl (csp, 9, .inl (fun _ => 0))), (br, .inl (cbr, 3, .inl (fun _ => 0))), (mo, .inr (19, [.int 0, .int 0, .int 0, .int 0, .int 0, .int 0, .int tu, .ref ti, .ref si, .ref lo, .ref lh, .ref lk, .ref sp, .ref st, .ref pa, .ref br, .ref sg, .int mi, .int 0, .int 0, .int 0, .int fo, .int 0, .long pe, .long pn, .long re, .long rn, .int th]))] := hD
  have hK : va_K (dC, dI) vwCl [(csp, .int), (cbr, .int)] s := hK
  obtain rfl : 0 = r7 := hw
  refine va_mabs hx hb (hml.trans hl.1.symm) hown (hts (.methodLink RX15 99 Lib.Math.abs.name) (by decide +kernel)) (hts (.static Lib.Math.abs.name) (by decide +kernel)) (hts (.initialized "java/lang/Math") (by decide +kernel)) (hts (.code Lib.Math.abs.name Lib.Math.abs.code 1 (some .int)) (by decide +kernel)) (Nat.le_of_ble_eq_true rfl) (Nat.le_of_ble_eq_true rfl) (Nat.le_of_ble_eq_true rfl) (Nat.le_of_ble_eq_true rfl) dX15_strains_29 ?_
  refine kc_i (y := 0) (by decide +kernel) ?_
  refine lv_goto (tgt := 36) hx hb dX15_strains_32 (by decide) ?_
  refine lv_iadd hx hb dX15_strains_36 ?_
  refine kc_i (y := 0) (by decide +kernel) ?_
  refine lv_istore_n (lv' := [(2, .int 0), (3, .int 6), (0, .ref mo), (1, .int (-1))]) hx hb dX15_strains_37 rfl hl (by decide) rfl (fun ls hl => ?_)
  refine lv_iinc (v := 7) (lv' := [(3, .int 7), (2, .int 0), (0, .ref mo), (1, .int (-1))]) hx hb dX15_strains_38 hl (k := 1) rfl (by decide +kernel) (by decide) rfl (fun ls hl => ?_)
  refine lv_goto (tgt := 4) hx hb dX15_strains_41 (by decide) ?_
  refine lv_iload_n hx hb dX15_strains_4 rfl (lv_at hl 0 rfl) ?_
  refine lv_bipush (v := 9) hx hb dX15_strains_5 (by decide) ?_
  refine lv_icmp_ge (tgt := 44) hx hb dX15_strains_7 (by decide) (fun c_ => absurd c_ (by decide +kernel)) (fun _ => ?_)
  refine lv_iload_n hx hb dX15_strains_10 rfl (lv_at hl 1 rfl) ?_
  refine lv_iload_n hx hb dX15_strains_11 rfl (lv_at hl 3 rfl) ?_
  refine lv_iconst (v := (-1)) hx hb dX15_strains_12 (by decide) ?_
  refine lv_icmp_eq (tgt := 24) hx hb dX15_strains_13 (by decide) (fun _ => ?_) (fun c_ => absurd (by decide +kernel) c_)
  refine lv_aload_n hx hb dX15_strains_24 rfl (lv_at hl 2 rfl) ?_
  refine lv_iload_n hx hb dX15_strains_25 rfl (lv_at hl 0 rfl) ?_
  have hPc := hP.sub (ws' := [(mo, .inr (19, [.int 0, .int 0, .int 0, .int 0, .int 0, .int 0, .int tu, .ref ti, .ref si, .ref lo, .ref lh, .ref lk, .ref sp, .ref st, .ref pa, .ref br, .ref sg, .int mi, .int 0, .int 0, .int 0, .int fo, .int 0, .long pe, .long pn, .long re, .long rn, .int th])), (sp, .inl (csp, 9, .inl (fun _ => 0))), (br, .inl (cbr, 3, .inl (fun _ => 0)))]) [2, 0, 1] rfl
  have hDc := hD.sub (ws' := [(mo, .inr (19, [.int 0, .int 0, .int 0, .int 0, .int 0, .int 0, .int tu, .ref ti, .ref si, .ref lo, .ref lh, .ref lk, .ref sp, .ref st, .ref pa, .ref br, .ref sg, .int mi, .int 0, .int 0, .int 0, .int fo, .int 0, .long pe, .long pn, .long re, .long rn, .int th])), (sp, .inl (csp, 9, .inl (fun _ => 0))), (br, .inl (cbr, 3, .inl (fun _ => 0)))]) [2, 0, 1] (by decide) rfl
  have hKc := hK.sub (tys' := [(csp, .int), (cbr, .int)]) [0, 1] rfl
  have hFc := va_free (wc := [(mo, .inr (19, [.int 0, .int 0, .int 0, .int 0, .int 0, .int 0, .int tu, .ref ti, .ref si, .ref lo, .ref lh, .ref lk, .ref sp, .ref st, .ref pa, .ref br, .ref sg, .int mi, .int 0, .int 0, .int 0, .int fo, .int 0, .long pe, .long pn, .long re, .long rn, .int th])), (sp, .inl (csp, 9, .inl (fun _ => 0))), (br, .inl (cbr, 3, .inl (fun _ => 0)))]) hD hS hA [2, 0, 1] rfl
  refine va_calli (va_runV (As := [.int 7]) (rest := [.int 0]) ⟨hx, hb, hml, hown, hts⟩ (k_forceOf_7 l dC dI z zK zV mi fo pe pn re rn mo ti si lo lh lk sp st pa br sg csp cbr th tu H.size) (cwV 1 hts gX15_strains_X15_forceOf rfl rfl rfl (by decide +kernel) ⟨Nat.le_of_ble_eq_true rfl, Nat.le_of_ble_eq_true rfl⟩) ⟨kP_blind, va_recv hKc hPc (ci := 19) (q0 := 0) rfl rfl, kP_go hPc hKc hDc hFc hM hS⟩ rfl rfl hl.1 rfl (lv_room (Nat.le_of_ble_eq_true rfl)) dX15_strains_26 ⟨Nat.le_of_ble_eq_true rfl, Nat.le_of_ble_eq_true rfl⟩) hS (fun q _ h => hFc q h) hFc (fun r8 u t H1 locs ht hvm hw hB hz1 hk1 hS => ?_)
  obtain ⟨hP, hD, hK⟩ := kJ (wr := []) (w1 := [(sp, .inl (csp, 9, .inl (fun _ => 0))), (br, .inl (cbr, 3, .inl (fun _ => 0))), (mo, .inr (19, [.int 0, .int 0, .int 0, .int 0, .int 0, .int 0, .int tu, .ref ti, .ref si, .ref lo, .ref lh, .ref lk, .ref sp, .ref st, .ref pa, .ref br, .ref sg, .int mi, .int 0, .int 0, .int 0, .int fo, .int 0, .long pe, .long pn, .long re, .long rn, .int th]))]) (t1 := []) hP hD hK [2, 0, 1] [] rfl rfl (by decide) (by decide) hk1 hFc ht hvm hB
  generalize H1 = H at hP hS ⊢
  have hP : va_P (dC, dI) vwCl [(sp, .inl (csp, 9, .inl (fun _ => 0))), (br, .inl (cbr, 3, .inl (fun _ => 0))), (mo, .inr (19, [.int 0, .int 0, .int 0, .int 0, .int 0, .int 0, .int tu, .ref ti, .ref si, .ref lo, .ref lh, .ref lk, .ref sp, .ref st, .ref pa, .ref br, .ref sg, .int mi, .int 0, .int 0, .int 0, .int fo, .int 0, .long pe, .long pn, .long re, .long rn, .int th]))] H := hP
  have hD : va_D A [(sp, .inl (csp, 9, .inl (fun _ => 0))), (br, .inl (cbr, 3, .inl (fun _ => 0))), (mo, .inr (19, [.int 0, .int 0, .int 0, .int 0, .int 0, .int 0, .int tu, .ref ti, .ref si, .ref lo, .ref lh, .ref lk, .ref sp, .ref st, .ref pa, .ref br, .ref sg, .int mi, .int 0, .int 0, .int 0, .int fo, .int 0, .long pe, .long pn, .long re, .long rn, .int th]))] := hD
  have hK : va_K (dC, dI) vwCl [(csp, .int), (cbr, .int)] s := hK
  obtain rfl : 0 = r8 := hw
  refine va_mabs hx hb (hml.trans hl.1.symm) hown (hts (.methodLink RX15 99 Lib.Math.abs.name) (by decide +kernel)) (hts (.static Lib.Math.abs.name) (by decide +kernel)) (hts (.initialized "java/lang/Math") (by decide +kernel)) (hts (.code Lib.Math.abs.name Lib.Math.abs.code 1 (some .int)) (by decide +kernel)) (Nat.le_of_ble_eq_true rfl) (Nat.le_of_ble_eq_true rfl) (Nat.le_of_ble_eq_true rfl) (Nat.le_of_ble_eq_true rfl) dX15_strains_29 ?_
  refine kc_i (y := 0) (by decide +kernel) ?_
  refine lv_goto (tgt := 36) hx hb dX15_strains_32 (by decide) ?_
  refine lv_iadd hx hb dX15_strains_36 ?_
  refine kc_i (y := 0) (by decide +kernel) ?_
  refine lv_istore_n (lv' := [(2, .int 0), (3, .int 7), (0, .ref mo), (1, .int (-1))]) hx hb dX15_strains_37 rfl hl (by decide) rfl (fun ls hl => ?_)
  refine lv_iinc (v := 8) (lv' := [(3, .int 8), (2, .int 0), (0, .ref mo), (1, .int (-1))]) hx hb dX15_strains_38 hl (k := 1) rfl (by decide +kernel) (by decide) rfl (fun ls hl => ?_)
  refine lv_goto (tgt := 4) hx hb dX15_strains_41 (by decide) ?_
  refine lv_iload_n hx hb dX15_strains_4 rfl (lv_at hl 0 rfl) ?_
  refine lv_bipush (v := 9) hx hb dX15_strains_5 (by decide) ?_
  refine lv_icmp_ge (tgt := 44) hx hb dX15_strains_7 (by decide) (fun c_ => absurd c_ (by decide +kernel)) (fun _ => ?_)
  refine lv_iload_n hx hb dX15_strains_10 rfl (lv_at hl 1 rfl) ?_
  refine lv_iload_n hx hb dX15_strains_11 rfl (lv_at hl 3 rfl) ?_
  refine lv_iconst (v := (-1)) hx hb dX15_strains_12 (by decide) ?_
  refine lv_icmp_eq (tgt := 24) hx hb dX15_strains_13 (by decide) (fun _ => ?_) (fun c_ => absurd (by decide +kernel) c_)
  refine lv_aload_n hx hb dX15_strains_24 rfl (lv_at hl 2 rfl) ?_
  refine lv_iload_n hx hb dX15_strains_25 rfl (lv_at hl 0 rfl) ?_
  have hPc := hP.sub (ws' := [(mo, .inr (19, [.int 0, .int 0, .int 0, .int 0, .int 0, .int 0, .int tu, .ref ti, .ref si, .ref lo, .ref lh, .ref lk, .ref sp, .ref st, .ref pa, .ref br, .ref sg, .int mi, .int 0, .int 0, .int 0, .int fo, .int 0, .long pe, .long pn, .long re, .long rn, .int th])), (sp, .inl (csp, 9, .inl (fun _ => 0))), (br, .inl (cbr, 3, .inl (fun _ => 0)))]) [2, 0, 1] rfl
  have hDc := hD.sub (ws' := [(mo, .inr (19, [.int 0, .int 0, .int 0, .int 0, .int 0, .int 0, .int tu, .ref ti, .ref si, .ref lo, .ref lh, .ref lk, .ref sp, .ref st, .ref pa, .ref br, .ref sg, .int mi, .int 0, .int 0, .int 0, .int fo, .int 0, .long pe, .long pn, .long re, .long rn, .int th])), (sp, .inl (csp, 9, .inl (fun _ => 0))), (br, .inl (cbr, 3, .inl (fun _ => 0)))]) [2, 0, 1] (by decide) rfl
  have hKc := hK.sub (tys' := [(csp, .int), (cbr, .int)]) [0, 1] rfl
  have hFc := va_free (wc := [(mo, .inr (19, [.int 0, .int 0, .int 0, .int 0, .int 0, .int 0, .int tu, .ref ti, .ref si, .ref lo, .ref lh, .ref lk, .ref sp, .ref st, .ref pa, .ref br, .ref sg, .int mi, .int 0, .int 0, .int 0, .int fo, .int 0, .long pe, .long pn, .long re, .long rn, .int th])), (sp, .inl (csp, 9, .inl (fun _ => 0))), (br, .inl (cbr, 3, .inl (fun _ => 0)))]) hD hS hA [2, 0, 1] rfl
  refine va_calli (va_runV (As := [.int 8]) (rest := [.int 0]) ⟨hx, hb, hml, hown, hts⟩ (k_forceOf_8 l dC dI z zK zV mi fo pe pn re rn mo ti si lo lh lk sp st pa br sg csp cbr th tu H.size) (cwV 1 hts gX15_strains_X15_forceOf rfl rfl rfl (by decide +kernel) ⟨Nat.le_of_ble_eq_true rfl, Nat.le_of_ble_eq_true rfl⟩) ⟨kP_blind, va_recv hKc hPc (ci := 19) (q0 := 0) rfl rfl, kP_go hPc hKc hDc hFc hM hS⟩ rfl rfl hl.1 rfl (lv_room (Nat.le_of_ble_eq_true rfl)) dX15_strains_26 ⟨Nat.le_of_ble_eq_true rfl, Nat.le_of_ble_eq_true rfl⟩) hS (fun q _ h => hFc q h) hFc (fun r9 u t H1 locs ht hvm hw hB hz1 hk1 hS => ?_)
  obtain ⟨hP, hD, hK⟩ := kJ (wr := []) (w1 := [(sp, .inl (csp, 9, .inl (fun _ => 0))), (br, .inl (cbr, 3, .inl (fun _ => 0))), (mo, .inr (19, [.int 0, .int 0, .int 0, .int 0, .int 0, .int 0, .int tu, .ref ti, .ref si, .ref lo, .ref lh, .ref lk, .ref sp, .ref st, .ref pa, .ref br, .ref sg, .int mi, .int 0, .int 0, .int 0, .int fo, .int 0, .long pe, .long pn, .long re, .long rn, .int th]))]) (t1 := []) hP hD hK [2, 0, 1] [] rfl rfl (by decide) (by decide) hk1 hFc ht hvm hB
  generalize H1 = H at hP hS ⊢
  have hP : va_P (dC, dI) vwCl [(sp, .inl (csp, 9, .inl (fun _ => 0))), (br, .inl (cbr, 3, .inl (fun _ => 0))), (mo, .inr (19, [.int 0, .int 0, .int 0, .int 0, .int 0, .int 0, .int tu, .ref ti, .ref si, .ref lo, .ref lh, .ref lk, .ref sp, .ref st, .ref pa, .ref br, .ref sg, .int mi, .int 0, .int 0, .int 0, .int fo, .int 0, .long pe, .long pn, .long re, .long rn, .int th]))] H := hP
  have hD : va_D A [(sp, .inl (csp, 9, .inl (fun _ => 0))), (br, .inl (cbr, 3, .inl (fun _ => 0))), (mo, .inr (19, [.int 0, .int 0, .int 0, .int 0, .int 0, .int 0, .int tu, .ref ti, .ref si, .ref lo, .ref lh, .ref lk, .ref sp, .ref st, .ref pa, .ref br, .ref sg, .int mi, .int 0, .int 0, .int 0, .int fo, .int 0, .long pe, .long pn, .long re, .long rn, .int th]))] := hD
  have hK : va_K (dC, dI) vwCl [(csp, .int), (cbr, .int)] s := hK
  obtain rfl : 0 = r9 := hw
  refine va_mabs hx hb (hml.trans hl.1.symm) hown (hts (.methodLink RX15 99 Lib.Math.abs.name) (by decide +kernel)) (hts (.static Lib.Math.abs.name) (by decide +kernel)) (hts (.initialized "java/lang/Math") (by decide +kernel)) (hts (.code Lib.Math.abs.name Lib.Math.abs.code 1 (some .int)) (by decide +kernel)) (Nat.le_of_ble_eq_true rfl) (Nat.le_of_ble_eq_true rfl) (Nat.le_of_ble_eq_true rfl) (Nat.le_of_ble_eq_true rfl) dX15_strains_29 ?_
  refine kc_i (y := 0) (by decide +kernel) ?_
  refine lv_goto (tgt := 36) hx hb dX15_strains_32 (by decide) ?_
  refine lv_iadd hx hb dX15_strains_36 ?_
  refine kc_i (y := 0) (by decide +kernel) ?_
  refine lv_istore_n (lv' := [(2, .int 0), (3, .int 8), (0, .ref mo), (1, .int (-1))]) hx hb dX15_strains_37 rfl hl (by decide) rfl (fun ls hl => ?_)
  refine lv_iinc (v := 9) (lv' := [(3, .int 9), (2, .int 0), (0, .ref mo), (1, .int (-1))]) hx hb dX15_strains_38 hl (k := 1) rfl (by decide +kernel) (by decide) rfl (fun ls hl => ?_)
  refine lv_goto (tgt := 4) hx hb dX15_strains_41 (by decide) ?_
  refine lv_iload_n hx hb dX15_strains_4 rfl (lv_at hl 0 rfl) ?_
  refine lv_bipush (v := 9) hx hb dX15_strains_5 (by decide) ?_
  refine lv_icmp_ge (tgt := 44) hx hb dX15_strains_7 (by decide) (fun _ => ?_) (fun c_ => absurd (by decide +kernel) c_)
  refine lv_iload_n hx hb dX15_strains_44 rfl (lv_at hl 1 rfl) ?_
  exact W.iret (v := 0) hx hb hr (fun t ht hW => ⟨⟨0, (), rfl, rfl, kB_end (w9 := [(sp, .inl (csp, 9, .inl (fun _ => 0))), (br, .inl (cbr, 3, .inl (fun _ => 0))), (mo, .inr (19, [.int 0, .int 0, .int 0, .int 0, .int 0, .int 0, .int tu, .ref ti, .ref si, .ref lo, .ref lh, .ref lk, .ref sp, .ref st, .ref pa, .ref br, .ref sg, .int mi, .int 0, .int 0, .int 0, .int fo, .int 0, .long pe, .long pn, .long re, .long rn, .int th]))]) (t9 := []) hP hK hD [0, 1, 2] [] rfl (by decide) rfl rfl t ht hW⟩, hS.F ht⟩) hS.2.2 dX15_strains_45
abbrev wd_k_strains_0 (z : Nat → Nat) (mi : Int32) (fo : Int32) (pe : Int64) (pn : Int64) (re : Int64) (rn : Int64) (mo : Nat) (ti : Nat) (si : Nat) (lo : Nat) (lh : Nat) (lk : Nat) (sp : Nat) (st : Nat) (pa : Nat) (br : Nat) (sg : Nat) (csp : ClassId) (cbr : ClassId) (th : Int32) (tu : Int32) : va_W := [(mo, .inr (19, [.int 0, .int 0, .int 0, .int 0, .int 0, .int 0, .int tu, .ref ti, .ref si, .ref lo, .ref lh, .ref lk, .ref sp, .ref st, .ref pa, .ref br, .ref sg, .int mi, .int 0, .int 0, .int 0, .int fo, .int 0, .long pe, .long pn, .long re, .long rn, .int th])), (sp, .inl (csp, 9, .inl (fun _ => 0))), (br, .inl (cbr, 3, .inl (fun _ => 0)))]
set_option maxHeartbeats 4000000 in
set_option maxRecDepth 100000 in
theorem k_strains_0 (l : Launch) (dC : Nat → ClassId) (dI : Nat → Nat → Nat) (z zK zV : Nat → Nat) (mi : Int32) (fo : Int32) (pe : Int64) (pn : Int64) (re : Int64) (rn : Int64) (mo : Nat) (ti : Nat) (si : Nat) (lo : Nat) (lh : Nat) (lk : Nat) (sp : Nat) (st : Nat) (pa : Nat) (br : Nat) (sg : Nat) (csp : ClassId) (cbr : ClassId) (th : Int32) (tu : Int32) (sz : Nat)  : Met l yX15_strains wsX15_strains ({ frames := 8, cells := 0, slots := 0, locals := 171 }) (kP dC dI z zK zV [.ref mo, .int 0] sz (wd_k_strains_0 z mi fo pe pn re rn mo ti si lo lh lk sp st pa br sg csp cbr th tu) [(csp, .int), (cbr, .int)]) (va_Qi (fun (r : Int32) (_ : Unit) => 0 = r) (fun _ t => kB (dC, dI) (va_A (wd_k_strains_0 z mi fo pe pn re rn mo ti si lo lh lk sp st pa br sg csp cbr th tu) sz) [(sp, .inl (csp, 9, .inl (fun _ => 0))), (br, .inl (cbr, 3, .inl (fun _ => 0))), (mo, .inr (19, [.int 0, .int 0, .int 0, .int 0, .int 0, .int 0, .int tu, .ref ti, .ref si, .ref lo, .ref lh, .ref lk, .ref sp, .ref st, .ref pa, .ref br, .ref sg, .int mi, .int 0, .int 0, .int 0, .int fo, .int 0, .long pe, .long pn, .long re, .long rn, .int th]))] [] t) (va_A (wd_k_strains_0 z mi fo pe pn re rn mo ti si lo lh lk sp st pa br sg csp cbr th tu) sz)) 0 0 (va_A (wd_k_strains_0 z mi fo pe pn re rn mo ti si lo lh lk sp st pa br sg csp cbr th tu) sz) := by
  refine Met.ofW (cc := cX15_strains) (maxL := 4) (ret := (some .int)) (by decide) rfl ?_
  intro p e s m args below meth c s₁ B hml hv
  obtain ⟨rfl, hsz, hP, hK, hD0, hM⟩ := hv
  have hx := B.exec
  have hb := B.bytes
  have hr := B.returns
  have hts := atoms_spec (ws := wsX15_strains) B.pre
  have hown : s.vm.findClass RX15 = some m.cls := findClass_of_methodNamed B.named
  have hlocks := B.notSynchronized
  subst hsz
  have hD := hD0.self (sz := s.heap.size)
  generalize hAe : va_A (wd_k_strains_0 z mi fo pe pn re rn mo ti si lo lh lk sp st pa br sg csp cbr th tu) s.heap.size = A at hD hM ⊢
  have hA : ∀ q : Nat, s.heap.size ≤ q → A q := fun q h => by rw [← hAe]; exact Or.inr h
  have hS : va_S A s.heap s.heap [] := va_S.rf
  have hP : va_P (dC, dI) vwCl [(mo, .inr (19, [.int 0, .int 0, .int 0, .int 0, .int 0, .int 0, .int tu, .ref ti, .ref si, .ref lo, .ref lh, .ref lk, .ref sp, .ref st, .ref pa, .ref br, .ref sg, .int mi, .int 0, .int 0, .int 0, .int fo, .int 0, .long pe, .long pn, .long re, .long rn, .int th])), (sp, .inl (csp, 9, .inl (fun _ => 0))), (br, .inl (cbr, 3, .inl (fun _ => 0)))] s.heap := hP
  have hD : va_D A [(mo, .inr (19, [.int 0, .int 0, .int 0, .int 0, .int 0, .int 0, .int tu, .ref ti, .ref si, .ref lo, .ref lh, .ref lk, .ref sp, .ref st, .ref pa, .ref br, .ref sg, .int mi, .int 0, .int 0, .int 0, .int fo, .int 0, .long pe, .long pn, .long re, .long rn, .int th])), (sp, .inl (csp, 9, .inl (fun _ => 0))), (br, .inl (cbr, 3, .inl (fun _ => 0)))] := hD
  have hl := lv_entry ([.ref mo, .int 0]) (n := 4) (Nat.le_of_ble_eq_true rfl)
  rw [lg_entry_eq]
  generalize (lg_sl ([.ref mo, .int 0]) ++ List.replicate (4 - (lg_sl ([.ref mo, .int 0])).length) Slot.unset).toArray = ls at hl ⊢
  have hl : lv_has ls 4 [(0, .ref mo), (1, .int 0)] := hl
  refine lv_iconst (v := 0) hx hb dX15_strains_0 (by decide) ?_
  refine lv_istore_n (lv' := [(2, .int 0), (0, .ref mo), (1, .int 0)]) hx hb dX15_strains_1 rfl hl (by decide) rfl (fun ls hl => ?_)
  refine lv_iconst (v := 0) hx hb dX15_strains_2 (by decide) ?_
  refine lv_istore_n (lv' := [(3, .int 0), (2, .int 0), (0, .ref mo), (1, .int 0)]) hx hb dX15_strains_3 rfl hl (by decide) rfl (fun ls hl => ?_)
  refine lv_iload_n hx hb dX15_strains_4 rfl (lv_at hl 0 rfl) ?_
  refine lv_bipush (v := 9) hx hb dX15_strains_5 (by decide) ?_
  refine lv_icmp_ge (tgt := 44) hx hb dX15_strains_7 (by decide) (fun c_ => absurd c_ (by decide +kernel)) (fun _ => ?_)
  refine lv_iload_n hx hb dX15_strains_10 rfl (lv_at hl 1 rfl) ?_
  refine lv_iload_n hx hb dX15_strains_11 rfl (lv_at hl 3 rfl) ?_
  refine lv_iconst (v := (-1)) hx hb dX15_strains_12 (by decide) ?_
  refine lv_icmp_eq (tgt := 24) hx hb dX15_strains_13 (by decide) (fun c_ => absurd c_ (by decide +kernel)) (fun _ => ?_)
  refine lv_iload_n hx hb dX15_strains_16 rfl (lv_at hl 0 rfl) ?_
  have hPc := hP.sub (ws' := []) [] rfl
  have hDc := hD.sub (ws' := []) [] (by decide) rfl
  have hKc := hK.sub (tys' := []) [] rfl
  have hFc := va_free (wc := []) hD hS hA [] rfl
  refine va_calli (va_runS (As := [.int 0]) (rest := [.int 0]) ⟨hx, hb, hml, hown, hts⟩ (k_mast_0 l dC dI z zK zV  s.heap.size) (va_cwS 1 hts gX15_strains_X15_mast rfl rfl rfl (by decide +kernel) ⟨Nat.le_of_ble_eq_true rfl, Nat.le_of_ble_eq_true rfl⟩) ⟨kP_blind, kP_go hPc hKc hDc hFc hM hS⟩ rfl rfl hl.1 rfl (lv_room (Nat.le_of_ble_eq_true rfl)) dX15_strains_17 ⟨Nat.le_of_ble_eq_true rfl, Nat.le_of_ble_eq_true rfl⟩) hS (fun q _ h => hFc q h) hFc (fun r1 u t H1 locs ht hvm hw hB hz1 hk1 hS => ?_)
  obtain ⟨hP, hD, hK⟩ := kJ (wr := [(mo, .inr (19, [.int 0, .int 0, .int 0, .int 0, .int 0, .int 0, .int tu, .ref ti, .ref si, .ref lo, .ref lh, .ref lk, .ref sp, .ref st, .ref pa, .ref br, .ref sg, .int mi, .int 0, .int 0, .int 0, .int fo, .int 0, .long pe, .long pn, .long re, .long rn, .int th])), (sp, .inl (csp, 9, .inl (fun _ => 0))), (br, .inl (cbr, 3, .inl (fun _ => 0)))]) (w1 := []) (t1 := []) hP hD hK [] [0, 1, 2] rfl rfl (by decide) (by decide) hk1 hFc ht hvm hB
  generalize H1 = H at hP hS ⊢
  have hP : va_P (dC, dI) vwCl [(mo, .inr (19, [.int 0, .int 0, .int 0, .int 0, .int 0, .int 0, .int tu, .ref ti, .ref si, .ref lo, .ref lh, .ref lk, .ref sp, .ref st, .ref pa, .ref br, .ref sg, .int mi, .int 0, .int 0, .int 0, .int fo, .int 0, .long pe, .long pn, .long re, .long rn, .int th])), (sp, .inl (csp, 9, .inl (fun _ => 0))), (br, .inl (cbr, 3, .inl (fun _ => 0)))] H := hP
  have hD : va_D A [(mo, .inr (19, [.int 0, .int 0, .int 0, .int 0, .int 0, .int 0, .int tu, .ref ti, .ref si, .ref lo, .ref lh, .ref lk, .ref sp, .ref st, .ref pa, .ref br, .ref sg, .int mi, .int 0, .int 0, .int 0, .int fo, .int 0, .long pe, .long pn, .long re, .long rn, .int th])), (sp, .inl (csp, 9, .inl (fun _ => 0))), (br, .inl (cbr, 3, .inl (fun _ => 0)))] := hD
  have hK : va_K (dC, dI) vwCl [(csp, .int), (cbr, .int)] s := hK
  obtain rfl : 0 = r1 := hw
  refine lv_iload_n hx hb dX15_strains_20 rfl (lv_at hl 3 rfl) ?_
  refine lv_icmp_ne (tgt := 35) hx hb dX15_strains_21 (by decide) (fun c_ => absurd (by decide +kernel) c_) (fun _ => ?_)
  refine lv_aload_n hx hb dX15_strains_24 rfl (lv_at hl 2 rfl) ?_
  refine lv_iload_n hx hb dX15_strains_25 rfl (lv_at hl 0 rfl) ?_
  have hPc := hP.sub (ws' := [(mo, .inr (19, [.int 0, .int 0, .int 0, .int 0, .int 0, .int 0, .int tu, .ref ti, .ref si, .ref lo, .ref lh, .ref lk, .ref sp, .ref st, .ref pa, .ref br, .ref sg, .int mi, .int 0, .int 0, .int 0, .int fo, .int 0, .long pe, .long pn, .long re, .long rn, .int th])), (sp, .inl (csp, 9, .inl (fun _ => 0))), (br, .inl (cbr, 3, .inl (fun _ => 0)))]) [0, 1, 2] rfl
  have hDc := hD.sub (ws' := [(mo, .inr (19, [.int 0, .int 0, .int 0, .int 0, .int 0, .int 0, .int tu, .ref ti, .ref si, .ref lo, .ref lh, .ref lk, .ref sp, .ref st, .ref pa, .ref br, .ref sg, .int mi, .int 0, .int 0, .int 0, .int fo, .int 0, .long pe, .long pn, .long re, .long rn, .int th])), (sp, .inl (csp, 9, .inl (fun _ => 0))), (br, .inl (cbr, 3, .inl (fun _ => 0)))]) [0, 1, 2] (by decide) rfl
  have hKc := hK.sub (tys' := [(csp, .int), (cbr, .int)]) [0, 1] rfl
  have hFc := va_free (wc := [(mo, .inr (19, [.int 0, .int 0, .int 0, .int 0, .int 0, .int 0, .int tu, .ref ti, .ref si, .ref lo, .ref lh, .ref lk, .ref sp, .ref st, .ref pa, .ref br, .ref sg, .int mi, .int 0, .int 0, .int 0, .int fo, .int 0, .long pe, .long pn, .long re, .long rn, .int th])), (sp, .inl (csp, 9, .inl (fun _ => 0))), (br, .inl (cbr, 3, .inl (fun _ => 0)))]) hD hS hA [0, 1, 2] rfl
  refine va_calli (va_runV (As := [.int 0]) (rest := [.int 0]) ⟨hx, hb, hml, hown, hts⟩ (k_forceOf_0 l dC dI z zK zV mi fo pe pn re rn mo ti si lo lh lk sp st pa br sg csp cbr th tu H.size) (cwV 1 hts gX15_strains_X15_forceOf rfl rfl rfl (by decide +kernel) ⟨Nat.le_of_ble_eq_true rfl, Nat.le_of_ble_eq_true rfl⟩) ⟨kP_blind, va_recv hKc hPc (ci := 19) (q0 := 0) rfl rfl, kP_go hPc hKc hDc hFc hM hS⟩ rfl rfl hl.1 rfl (lv_room (Nat.le_of_ble_eq_true rfl)) dX15_strains_26 ⟨Nat.le_of_ble_eq_true rfl, Nat.le_of_ble_eq_true rfl⟩) hS (fun q _ h => hFc q h) hFc (fun r2 u t H1 locs ht hvm hw hB hz1 hk1 hS => ?_)
  obtain ⟨hP, hD, hK⟩ := kJ (wr := []) (w1 := [(sp, .inl (csp, 9, .inl (fun _ => 0))), (br, .inl (cbr, 3, .inl (fun _ => 0))), (mo, .inr (19, [.int 0, .int 0, .int 0, .int 0, .int 0, .int 0, .int tu, .ref ti, .ref si, .ref lo, .ref lh, .ref lk, .ref sp, .ref st, .ref pa, .ref br, .ref sg, .int mi, .int 0, .int 0, .int 0, .int fo, .int 0, .long pe, .long pn, .long re, .long rn, .int th]))]) (t1 := []) hP hD hK [0, 1, 2] [] rfl rfl (by decide) (by decide) hk1 hFc ht hvm hB
  generalize H1 = H at hP hS ⊢
  have hP : va_P (dC, dI) vwCl [(sp, .inl (csp, 9, .inl (fun _ => 0))), (br, .inl (cbr, 3, .inl (fun _ => 0))), (mo, .inr (19, [.int 0, .int 0, .int 0, .int 0, .int 0, .int 0, .int tu, .ref ti, .ref si, .ref lo, .ref lh, .ref lk, .ref sp, .ref st, .ref pa, .ref br, .ref sg, .int mi, .int 0, .int 0, .int 0, .int fo, .int 0, .long pe, .long pn, .long re, .long rn, .int th]))] H := hP
  have hD : va_D A [(sp, .inl (csp, 9, .inl (fun _ => 0))), (br, .inl (cbr, 3, .inl (fun _ => 0))), (mo, .inr (19, [.int 0, .int 0, .int 0, .int 0, .int 0, .int 0, .int tu, .ref ti, .ref si, .ref lo, .ref lh, .ref lk, .ref sp, .ref st, .ref pa, .ref br, .ref sg, .int mi, .int 0, .int 0, .int 0, .int fo, .int 0, .long pe, .long pn, .long re, .long rn, .int th]))] := hD
  have hK : va_K (dC, dI) vwCl [(csp, .int), (cbr, .int)] s := hK
  obtain rfl : 0 = r2 := hw
  refine va_mabs hx hb (hml.trans hl.1.symm) hown (hts (.methodLink RX15 99 Lib.Math.abs.name) (by decide +kernel)) (hts (.static Lib.Math.abs.name) (by decide +kernel)) (hts (.initialized "java/lang/Math") (by decide +kernel)) (hts (.code Lib.Math.abs.name Lib.Math.abs.code 1 (some .int)) (by decide +kernel)) (Nat.le_of_ble_eq_true rfl) (Nat.le_of_ble_eq_true rfl) (Nat.le_of_ble_eq_true rfl) (Nat.le_of_ble_eq_true rfl) dX15_strains_29 ?_
  refine kc_i (y := 0) (by decide +kernel) ?_
  refine lv_goto (tgt := 36) hx hb dX15_strains_32 (by decide) ?_
  refine lv_iadd hx hb dX15_strains_36 ?_
  refine kc_i (y := 0) (by decide +kernel) ?_
  refine lv_istore_n (lv' := [(2, .int 0), (3, .int 0), (0, .ref mo), (1, .int 0)]) hx hb dX15_strains_37 rfl hl (by decide) rfl (fun ls hl => ?_)
  refine lv_iinc (v := 1) (lv' := [(3, .int 1), (2, .int 0), (0, .ref mo), (1, .int 0)]) hx hb dX15_strains_38 hl (k := 1) rfl (by decide +kernel) (by decide) rfl (fun ls hl => ?_)
  refine lv_goto (tgt := 4) hx hb dX15_strains_41 (by decide) ?_
  refine lv_iload_n hx hb dX15_strains_4 rfl (lv_at hl 0 rfl) ?_
  refine lv_bipush (v := 9) hx hb dX15_strains_5 (by decide) ?_
  refine lv_icmp_ge (tgt := 44) hx hb dX15_strains_7 (by decide) (fun c_ => absurd c_ (by decide +kernel)) (fun _ => ?_)
  refine lv_iload_n hx hb dX15_strains_10 rfl (lv_at hl 1 rfl) ?_
  refine lv_iload_n hx hb dX15_strains_11 rfl (lv_at hl 3 rfl) ?_
  refine lv_iconst (v := (-1)) hx hb dX15_strains_12 (by decide) ?_
  refine lv_icmp_eq (tgt := 24) hx hb dX15_strains_13 (by decide) (fun c_ => absurd c_ (by decide +kernel)) (fun _ => ?_)
  refine lv_iload_n hx hb dX15_strains_16 rfl (lv_at hl 0 rfl) ?_
  have hPc := hP.sub (ws' := []) [] rfl
  have hDc := hD.sub (ws' := []) [] (by decide) rfl
  have hKc := hK.sub (tys' := []) [] rfl
  have hFc := va_free (wc := []) hD hS hA [] rfl
  refine va_calli (va_runS (As := [.int 1]) (rest := [.int 0]) ⟨hx, hb, hml, hown, hts⟩ (k_mast_1 l dC dI z zK zV  H.size) (va_cwS 1 hts gX15_strains_X15_mast rfl rfl rfl (by decide +kernel) ⟨Nat.le_of_ble_eq_true rfl, Nat.le_of_ble_eq_true rfl⟩) ⟨kP_blind, kP_go hPc hKc hDc hFc hM hS⟩ rfl rfl hl.1 rfl (lv_room (Nat.le_of_ble_eq_true rfl)) dX15_strains_17 ⟨Nat.le_of_ble_eq_true rfl, Nat.le_of_ble_eq_true rfl⟩) hS (fun q _ h => hFc q h) hFc (fun r3 u t H1 locs ht hvm hw hB hz1 hk1 hS => ?_)
  obtain ⟨hP, hD, hK⟩ := kJ (wr := [(sp, .inl (csp, 9, .inl (fun _ => 0))), (br, .inl (cbr, 3, .inl (fun _ => 0))), (mo, .inr (19, [.int 0, .int 0, .int 0, .int 0, .int 0, .int 0, .int tu, .ref ti, .ref si, .ref lo, .ref lh, .ref lk, .ref sp, .ref st, .ref pa, .ref br, .ref sg, .int mi, .int 0, .int 0, .int 0, .int fo, .int 0, .long pe, .long pn, .long re, .long rn, .int th]))]) (w1 := []) (t1 := []) hP hD hK [] [0, 1, 2] rfl rfl (by decide) (by decide) hk1 hFc ht hvm hB
  generalize H1 = H at hP hS ⊢
  have hP : va_P (dC, dI) vwCl [(sp, .inl (csp, 9, .inl (fun _ => 0))), (br, .inl (cbr, 3, .inl (fun _ => 0))), (mo, .inr (19, [.int 0, .int 0, .int 0, .int 0, .int 0, .int 0, .int tu, .ref ti, .ref si, .ref lo, .ref lh, .ref lk, .ref sp, .ref st, .ref pa, .ref br, .ref sg, .int mi, .int 0, .int 0, .int 0, .int fo, .int 0, .long pe, .long pn, .long re, .long rn, .int th]))] H := hP
  have hD : va_D A [(sp, .inl (csp, 9, .inl (fun _ => 0))), (br, .inl (cbr, 3, .inl (fun _ => 0))), (mo, .inr (19, [.int 0, .int 0, .int 0, .int 0, .int 0, .int 0, .int tu, .ref ti, .ref si, .ref lo, .ref lh, .ref lk, .ref sp, .ref st, .ref pa, .ref br, .ref sg, .int mi, .int 0, .int 0, .int 0, .int fo, .int 0, .long pe, .long pn, .long re, .long rn, .int th]))] := hD
  have hK : va_K (dC, dI) vwCl [(csp, .int), (cbr, .int)] s := hK
  obtain rfl : 0 = r3 := hw
  refine lv_iload_n hx hb dX15_strains_20 rfl (lv_at hl 3 rfl) ?_
  refine lv_icmp_ne (tgt := 35) hx hb dX15_strains_21 (by decide) (fun c_ => absurd (by decide +kernel) c_) (fun _ => ?_)
  refine lv_aload_n hx hb dX15_strains_24 rfl (lv_at hl 2 rfl) ?_
  refine lv_iload_n hx hb dX15_strains_25 rfl (lv_at hl 0 rfl) ?_
  have hPc := hP.sub (ws' := [(mo, .inr (19, [.int 0, .int 0, .int 0, .int 0, .int 0, .int 0, .int tu, .ref ti, .ref si, .ref lo, .ref lh, .ref lk, .ref sp, .ref st, .ref pa, .ref br, .ref sg, .int mi, .int 0, .int 0, .int 0, .int fo, .int 0, .long pe, .long pn, .long re, .long rn, .int th])), (sp, .inl (csp, 9, .inl (fun _ => 0))), (br, .inl (cbr, 3, .inl (fun _ => 0)))]) [2, 0, 1] rfl
  have hDc := hD.sub (ws' := [(mo, .inr (19, [.int 0, .int 0, .int 0, .int 0, .int 0, .int 0, .int tu, .ref ti, .ref si, .ref lo, .ref lh, .ref lk, .ref sp, .ref st, .ref pa, .ref br, .ref sg, .int mi, .int 0, .int 0, .int 0, .int fo, .int 0, .long pe, .long pn, .long re, .long rn, .int th])), (sp, .inl (csp, 9, .inl (fun _ => 0))), (br, .inl (cbr, 3, .inl (fun _ => 0)))]) [2, 0, 1] (by decide) rfl
  have hKc := hK.sub (tys' := [(csp, .int), (cbr, .int)]) [0, 1] rfl
  have hFc := va_free (wc := [(mo, .inr (19, [.int 0, .int 0, .int 0, .int 0, .int 0, .int 0, .int tu, .ref ti, .ref si, .ref lo, .ref lh, .ref lk, .ref sp, .ref st, .ref pa, .ref br, .ref sg, .int mi, .int 0, .int 0, .int 0, .int fo, .int 0, .long pe, .long pn, .long re, .long rn, .int th])), (sp, .inl (csp, 9, .inl (fun _ => 0))), (br, .inl (cbr, 3, .inl (fun _ => 0)))]) hD hS hA [2, 0, 1] rfl
  refine va_calli (va_runV (As := [.int 1]) (rest := [.int 0]) ⟨hx, hb, hml, hown, hts⟩ (k_forceOf_1 l dC dI z zK zV mi fo pe pn re rn mo ti si lo lh lk sp st pa br sg csp cbr th tu H.size) (cwV 1 hts gX15_strains_X15_forceOf rfl rfl rfl (by decide +kernel) ⟨Nat.le_of_ble_eq_true rfl, Nat.le_of_ble_eq_true rfl⟩) ⟨kP_blind, va_recv hKc hPc (ci := 19) (q0 := 0) rfl rfl, kP_go hPc hKc hDc hFc hM hS⟩ rfl rfl hl.1 rfl (lv_room (Nat.le_of_ble_eq_true rfl)) dX15_strains_26 ⟨Nat.le_of_ble_eq_true rfl, Nat.le_of_ble_eq_true rfl⟩) hS (fun q _ h => hFc q h) hFc (fun r4 u t H1 locs ht hvm hw hB hz1 hk1 hS => ?_)
  obtain ⟨hP, hD, hK⟩ := kJ (wr := []) (w1 := [(sp, .inl (csp, 9, .inl (fun _ => 0))), (br, .inl (cbr, 3, .inl (fun _ => 0))), (mo, .inr (19, [.int 0, .int 0, .int 0, .int 0, .int 0, .int 0, .int tu, .ref ti, .ref si, .ref lo, .ref lh, .ref lk, .ref sp, .ref st, .ref pa, .ref br, .ref sg, .int mi, .int 0, .int 0, .int 0, .int fo, .int 0, .long pe, .long pn, .long re, .long rn, .int th]))]) (t1 := []) hP hD hK [2, 0, 1] [] rfl rfl (by decide) (by decide) hk1 hFc ht hvm hB
  generalize H1 = H at hP hS ⊢
  have hP : va_P (dC, dI) vwCl [(sp, .inl (csp, 9, .inl (fun _ => 0))), (br, .inl (cbr, 3, .inl (fun _ => 0))), (mo, .inr (19, [.int 0, .int 0, .int 0, .int 0, .int 0, .int 0, .int tu, .ref ti, .ref si, .ref lo, .ref lh, .ref lk, .ref sp, .ref st, .ref pa, .ref br, .ref sg, .int mi, .int 0, .int 0, .int 0, .int fo, .int 0, .long pe, .long pn, .long re, .long rn, .int th]))] H := hP
  have hD : va_D A [(sp, .inl (csp, 9, .inl (fun _ => 0))), (br, .inl (cbr, 3, .inl (fun _ => 0))), (mo, .inr (19, [.int 0, .int 0, .int 0, .int 0, .int 0, .int 0, .int tu, .ref ti, .ref si, .ref lo, .ref lh, .ref lk, .ref sp, .ref st, .ref pa, .ref br, .ref sg, .int mi, .int 0, .int 0, .int 0, .int fo, .int 0, .long pe, .long pn, .long re, .long rn, .int th]))] := hD
  have hK : va_K (dC, dI) vwCl [(csp, .int), (cbr, .int)] s := hK
  obtain rfl : 0 = r4 := hw
  refine va_mabs hx hb (hml.trans hl.1.symm) hown (hts (.methodLink RX15 99 Lib.Math.abs.name) (by decide +kernel)) (hts (.static Lib.Math.abs.name) (by decide +kernel)) (hts (.initialized "java/lang/Math") (by decide +kernel)) (hts (.code Lib.Math.abs.name Lib.Math.abs.code 1 (some .int)) (by decide +kernel)) (Nat.le_of_ble_eq_true rfl) (Nat.le_of_ble_eq_true rfl) (Nat.le_of_ble_eq_true rfl) (Nat.le_of_ble_eq_true rfl) dX15_strains_29 ?_
  refine kc_i (y := 0) (by decide +kernel) ?_
  refine lv_goto (tgt := 36) hx hb dX15_strains_32 (by decide) ?_
  refine lv_iadd hx hb dX15_strains_36 ?_
  refine kc_i (y := 0) (by decide +kernel) ?_
  refine lv_istore_n (lv' := [(2, .int 0), (3, .int 1), (0, .ref mo), (1, .int 0)]) hx hb dX15_strains_37 rfl hl (by decide) rfl (fun ls hl => ?_)
  refine lv_iinc (v := 2) (lv' := [(3, .int 2), (2, .int 0), (0, .ref mo), (1, .int 0)]) hx hb dX15_strains_38 hl (k := 1) rfl (by decide +kernel) (by decide) rfl (fun ls hl => ?_)
  refine lv_goto (tgt := 4) hx hb dX15_strains_41 (by decide) ?_
  refine lv_iload_n hx hb dX15_strains_4 rfl (lv_at hl 0 rfl) ?_
  refine lv_bipush (v := 9) hx hb dX15_strains_5 (by decide) ?_
  refine lv_icmp_ge (tgt := 44) hx hb dX15_strains_7 (by decide) (fun c_ => absurd c_ (by decide +kernel)) (fun _ => ?_)
  refine lv_iload_n hx hb dX15_strains_10 rfl (lv_at hl 1 rfl) ?_
  refine lv_iload_n hx hb dX15_strains_11 rfl (lv_at hl 3 rfl) ?_
  refine lv_iconst (v := (-1)) hx hb dX15_strains_12 (by decide) ?_
  refine lv_icmp_eq (tgt := 24) hx hb dX15_strains_13 (by decide) (fun c_ => absurd c_ (by decide +kernel)) (fun _ => ?_)
  refine lv_iload_n hx hb dX15_strains_16 rfl (lv_at hl 0 rfl) ?_
  have hPc := hP.sub (ws' := []) [] rfl
  have hDc := hD.sub (ws' := []) [] (by decide) rfl
  have hKc := hK.sub (tys' := []) [] rfl
  have hFc := va_free (wc := []) hD hS hA [] rfl
  refine va_calli (va_runS (As := [.int 2]) (rest := [.int 0]) ⟨hx, hb, hml, hown, hts⟩ (k_mast_2 l dC dI z zK zV  H.size) (va_cwS 1 hts gX15_strains_X15_mast rfl rfl rfl (by decide +kernel) ⟨Nat.le_of_ble_eq_true rfl, Nat.le_of_ble_eq_true rfl⟩) ⟨kP_blind, kP_go hPc hKc hDc hFc hM hS⟩ rfl rfl hl.1 rfl (lv_room (Nat.le_of_ble_eq_true rfl)) dX15_strains_17 ⟨Nat.le_of_ble_eq_true rfl, Nat.le_of_ble_eq_true rfl⟩) hS (fun q _ h => hFc q h) hFc (fun r5 u t H1 locs ht hvm hw hB hz1 hk1 hS => ?_)
  obtain ⟨hP, hD, hK⟩ := kJ (wr := [(sp, .inl (csp, 9, .inl (fun _ => 0))), (br, .inl (cbr, 3, .inl (fun _ => 0))), (mo, .inr (19, [.int 0, .int 0, .int 0, .int 0, .int 0, .int 0, .int tu, .ref ti, .ref si, .ref lo, .ref lh, .ref lk, .ref sp, .ref st, .ref pa, .ref br, .ref sg, .int mi, .int 0, .int 0, .int 0, .int fo, .int 0, .long pe, .long pn, .long re, .long rn, .int th]))]) (w1 := []) (t1 := []) hP hD hK [] [0, 1, 2] rfl rfl (by decide) (by decide) hk1 hFc ht hvm hB
  generalize H1 = H at hP hS ⊢
  have hP : va_P (dC, dI) vwCl [(sp, .inl (csp, 9, .inl (fun _ => 0))), (br, .inl (cbr, 3, .inl (fun _ => 0))), (mo, .inr (19, [.int 0, .int 0, .int 0, .int 0, .int 0, .int 0, .int tu, .ref ti, .ref si, .ref lo, .ref lh, .ref lk, .ref sp, .ref st, .ref pa, .ref br, .ref sg, .int mi, .int 0, .int 0, .int 0, .int fo, .int 0, .long pe, .long pn, .long re, .long rn, .int th]))] H := hP
  have hD : va_D A [(sp, .inl (csp, 9, .inl (fun _ => 0))), (br, .inl (cbr, 3, .inl (fun _ => 0))), (mo, .inr (19, [.int 0, .int 0, .int 0, .int 0, .int 0, .int 0, .int tu, .ref ti, .ref si, .ref lo, .ref lh, .ref lk, .ref sp, .ref st, .ref pa, .ref br, .ref sg, .int mi, .int 0, .int 0, .int 0, .int fo, .int 0, .long pe, .long pn, .long re, .long rn, .int th]))] := hD
  have hK : va_K (dC, dI) vwCl [(csp, .int), (cbr, .int)] s := hK
  obtain rfl : 0 = r5 := hw
  refine lv_iload_n hx hb dX15_strains_20 rfl (lv_at hl 3 rfl) ?_
  refine lv_icmp_ne (tgt := 35) hx hb dX15_strains_21 (by decide) (fun c_ => absurd (by decide +kernel) c_) (fun _ => ?_)
  refine lv_aload_n hx hb dX15_strains_24 rfl (lv_at hl 2 rfl) ?_
  refine lv_iload_n hx hb dX15_strains_25 rfl (lv_at hl 0 rfl) ?_
  have hPc := hP.sub (ws' := [(mo, .inr (19, [.int 0, .int 0, .int 0, .int 0, .int 0, .int 0, .int tu, .ref ti, .ref si, .ref lo, .ref lh, .ref lk, .ref sp, .ref st, .ref pa, .ref br, .ref sg, .int mi, .int 0, .int 0, .int 0, .int fo, .int 0, .long pe, .long pn, .long re, .long rn, .int th])), (sp, .inl (csp, 9, .inl (fun _ => 0))), (br, .inl (cbr, 3, .inl (fun _ => 0)))]) [2, 0, 1] rfl
  have hDc := hD.sub (ws' := [(mo, .inr (19, [.int 0, .int 0, .int 0, .int 0, .int 0, .int 0, .int tu, .ref ti, .ref si, .ref lo, .ref lh, .ref lk, .ref sp, .ref st, .ref pa, .ref br, .ref sg, .int mi, .int 0, .int 0, .int 0, .int fo, .int 0, .long pe, .long pn, .long re, .long rn, .int th])), (sp, .inl (csp, 9, .inl (fun _ => 0))), (br, .inl (cbr, 3, .inl (fun _ => 0)))]) [2, 0, 1] (by decide) rfl
  have hKc := hK.sub (tys' := [(csp, .int), (cbr, .int)]) [0, 1] rfl
  have hFc := va_free (wc := [(mo, .inr (19, [.int 0, .int 0, .int 0, .int 0, .int 0, .int 0, .int tu, .ref ti, .ref si, .ref lo, .ref lh, .ref lk, .ref sp, .ref st, .ref pa, .ref br, .ref sg, .int mi, .int 0, .int 0, .int 0, .int fo, .int 0, .long pe, .long pn, .long re, .long rn, .int th])), (sp, .inl (csp, 9, .inl (fun _ => 0))), (br, .inl (cbr, 3, .inl (fun _ => 0)))]) hD hS hA [2, 0, 1] rfl
  refine va_calli (va_runV (As := [.int 2]) (rest := [.int 0]) ⟨hx, hb, hml, hown, hts⟩ (k_forceOf_2 l dC dI z zK zV mi fo pe pn re rn mo ti si lo lh lk sp st pa br sg csp cbr th tu H.size) (cwV 1 hts gX15_strains_X15_forceOf rfl rfl rfl (by decide +kernel) ⟨Nat.le_of_ble_eq_true rfl, Nat.le_of_ble_eq_true rfl⟩) ⟨kP_blind, va_recv hKc hPc (ci := 19) (q0 := 0) rfl rfl, kP_go hPc hKc hDc hFc hM hS⟩ rfl rfl hl.1 rfl (lv_room (Nat.le_of_ble_eq_true rfl)) dX15_strains_26 ⟨Nat.le_of_ble_eq_true rfl, Nat.le_of_ble_eq_true rfl⟩) hS (fun q _ h => hFc q h) hFc (fun r6 u t H1 locs ht hvm hw hB hz1 hk1 hS => ?_)
  obtain ⟨hP, hD, hK⟩ := kJ (wr := []) (w1 := [(sp, .inl (csp, 9, .inl (fun _ => 0))), (br, .inl (cbr, 3, .inl (fun _ => 0))), (mo, .inr (19, [.int 0, .int 0, .int 0, .int 0, .int 0, .int 0, .int tu, .ref ti, .ref si, .ref lo, .ref lh, .ref lk, .ref sp, .ref st, .ref pa, .ref br, .ref sg, .int mi, .int 0, .int 0, .int 0, .int fo, .int 0, .long pe, .long pn, .long re, .long rn, .int th]))]) (t1 := []) hP hD hK [2, 0, 1] [] rfl rfl (by decide) (by decide) hk1 hFc ht hvm hB
  generalize H1 = H at hP hS ⊢
  have hP : va_P (dC, dI) vwCl [(sp, .inl (csp, 9, .inl (fun _ => 0))), (br, .inl (cbr, 3, .inl (fun _ => 0))), (mo, .inr (19, [.int 0, .int 0, .int 0, .int 0, .int 0, .int 0, .int tu, .ref ti, .ref si, .ref lo, .ref lh, .ref lk, .ref sp, .ref st, .ref pa, .ref br, .ref sg, .int mi, .int 0, .int 0, .int 0, .int fo, .int 0, .long pe, .long pn, .long re, .long rn, .int th]))] H := hP
  have hD : va_D A [(sp, .inl (csp, 9, .inl (fun _ => 0))), (br, .inl (cbr, 3, .inl (fun _ => 0))), (mo, .inr (19, [.int 0, .int 0, .int 0, .int 0, .int 0, .int 0, .int tu, .ref ti, .ref si, .ref lo, .ref lh, .ref lk, .ref sp, .ref st, .ref pa, .ref br, .ref sg, .int mi, .int 0, .int 0, .int 0, .int fo, .int 0, .long pe, .long pn, .long re, .long rn, .int th]))] := hD
  have hK : va_K (dC, dI) vwCl [(csp, .int), (cbr, .int)] s := hK
  obtain rfl : 0 = r6 := hw
  refine va_mabs hx hb (hml.trans hl.1.symm) hown (hts (.methodLink RX15 99 Lib.Math.abs.name) (by decide +kernel)) (hts (.static Lib.Math.abs.name) (by decide +kernel)) (hts (.initialized "java/lang/Math") (by decide +kernel)) (hts (.code Lib.Math.abs.name Lib.Math.abs.code 1 (some .int)) (by decide +kernel)) (Nat.le_of_ble_eq_true rfl) (Nat.le_of_ble_eq_true rfl) (Nat.le_of_ble_eq_true rfl) (Nat.le_of_ble_eq_true rfl) dX15_strains_29 ?_
  refine kc_i (y := 0) (by decide +kernel) ?_
  refine lv_goto (tgt := 36) hx hb dX15_strains_32 (by decide) ?_
  refine lv_iadd hx hb dX15_strains_36 ?_
  refine kc_i (y := 0) (by decide +kernel) ?_
  refine lv_istore_n (lv' := [(2, .int 0), (3, .int 2), (0, .ref mo), (1, .int 0)]) hx hb dX15_strains_37 rfl hl (by decide) rfl (fun ls hl => ?_)
  refine lv_iinc (v := 3) (lv' := [(3, .int 3), (2, .int 0), (0, .ref mo), (1, .int 0)]) hx hb dX15_strains_38 hl (k := 1) rfl (by decide +kernel) (by decide) rfl (fun ls hl => ?_)
  refine lv_goto (tgt := 4) hx hb dX15_strains_41 (by decide) ?_
  refine lv_iload_n hx hb dX15_strains_4 rfl (lv_at hl 0 rfl) ?_
  refine lv_bipush (v := 9) hx hb dX15_strains_5 (by decide) ?_
  refine lv_icmp_ge (tgt := 44) hx hb dX15_strains_7 (by decide) (fun c_ => absurd c_ (by decide +kernel)) (fun _ => ?_)
  refine lv_iload_n hx hb dX15_strains_10 rfl (lv_at hl 1 rfl) ?_
  refine lv_iload_n hx hb dX15_strains_11 rfl (lv_at hl 3 rfl) ?_
  refine lv_iconst (v := (-1)) hx hb dX15_strains_12 (by decide) ?_
  refine lv_icmp_eq (tgt := 24) hx hb dX15_strains_13 (by decide) (fun c_ => absurd c_ (by decide +kernel)) (fun _ => ?_)
  refine lv_iload_n hx hb dX15_strains_16 rfl (lv_at hl 0 rfl) ?_
  have hPc := hP.sub (ws' := []) [] rfl
  have hDc := hD.sub (ws' := []) [] (by decide) rfl
  have hKc := hK.sub (tys' := []) [] rfl
  have hFc := va_free (wc := []) hD hS hA [] rfl
  refine va_calli (va_runS (As := [.int 3]) (rest := [.int 0]) ⟨hx, hb, hml, hown, hts⟩ (k_mast_3 l dC dI z zK zV  H.size) (va_cwS 1 hts gX15_strains_X15_mast rfl rfl rfl (by decide +kernel) ⟨Nat.le_of_ble_eq_true rfl, Nat.le_of_ble_eq_true rfl⟩) ⟨kP_blind, kP_go hPc hKc hDc hFc hM hS⟩ rfl rfl hl.1 rfl (lv_room (Nat.le_of_ble_eq_true rfl)) dX15_strains_17 ⟨Nat.le_of_ble_eq_true rfl, Nat.le_of_ble_eq_true rfl⟩) hS (fun q _ h => hFc q h) hFc (fun r7 u t H1 locs ht hvm hw hB hz1 hk1 hS => ?_)
  obtain ⟨hP, hD, hK⟩ := kJ (wr := [(sp, .inl (csp, 9, .inl (fun _ => 0))), (br, .inl (cbr, 3, .inl (fun _ => 0))), (mo, .inr (19, [.int 0, .int 0, .int 0, .int 0, .int 0, .int 0, .int tu, .ref ti, .ref si, .ref lo, .ref lh, .ref lk, .ref sp, .ref st, .ref pa, .ref br, .ref sg, .int mi, .int 0, .int 0, .int 0, .int fo, .int 0, .long pe, .long pn, .long re, .long rn, .int th]))]) (w1 := []) (t1 := []) hP hD hK [] [0, 1, 2] rfl rfl (by decide) (by decide) hk1 hFc ht hvm hB
  generalize H1 = H at hP hS ⊢
  have hP : va_P (dC, dI) vwCl [(sp, .inl (csp, 9, .inl (fun _ => 0))), (br, .inl (cbr, 3, .inl (fun _ => 0))), (mo, .inr (19, [.int 0, .int 0, .int 0, .int 0, .int 0, .int 0, .int tu, .ref ti, .ref si, .ref lo, .ref lh, .ref lk, .ref sp, .ref st, .ref pa, .ref br, .ref sg, .int mi, .int 0, .int 0, .int 0, .int fo, .int 0, .long pe, .long pn, .long re, .long rn, .int th]))] H := hP
  have hD : va_D A [(sp, .inl (csp, 9, .inl (fun _ => 0))), (br, .inl (cbr, 3, .inl (fun _ => 0))), (mo, .inr (19, [.int 0, .int 0, .int 0, .int 0, .int 0, .int 0, .int tu, .ref ti, .ref si, .ref lo, .ref lh, .ref lk, .ref sp, .ref st, .ref pa, .ref br, .ref sg, .int mi, .int 0, .int 0, .int 0, .int fo, .int 0, .long pe, .long pn, .long re, .long rn, .int th]))] := hD
  have hK : va_K (dC, dI) vwCl [(csp, .int), (cbr, .int)] s := hK
  obtain rfl : 1 = r7 := hw
  refine lv_iload_n hx hb dX15_strains_20 rfl (lv_at hl 3 rfl) ?_
  refine lv_icmp_ne (tgt := 35) hx hb dX15_strains_21 (by decide) (fun _ => ?_) (fun c_ => absurd c_ (by decide +kernel))
  refine lv_iconst (v := 0) hx hb dX15_strains_35 (by decide) ?_
  refine lv_iadd hx hb dX15_strains_36 ?_
  refine kc_i (y := 0) (by decide +kernel) ?_
  refine lv_istore_n (lv' := [(2, .int 0), (3, .int 3), (0, .ref mo), (1, .int 0)]) hx hb dX15_strains_37 rfl hl (by decide) rfl (fun ls hl => ?_)
  refine lv_iinc (v := 4) (lv' := [(3, .int 4), (2, .int 0), (0, .ref mo), (1, .int 0)]) hx hb dX15_strains_38 hl (k := 1) rfl (by decide +kernel) (by decide) rfl (fun ls hl => ?_)
  refine lv_goto (tgt := 4) hx hb dX15_strains_41 (by decide) ?_
  refine lv_iload_n hx hb dX15_strains_4 rfl (lv_at hl 0 rfl) ?_
  refine lv_bipush (v := 9) hx hb dX15_strains_5 (by decide) ?_
  refine lv_icmp_ge (tgt := 44) hx hb dX15_strains_7 (by decide) (fun c_ => absurd c_ (by decide +kernel)) (fun _ => ?_)
  refine lv_iload_n hx hb dX15_strains_10 rfl (lv_at hl 1 rfl) ?_
  refine lv_iload_n hx hb dX15_strains_11 rfl (lv_at hl 3 rfl) ?_
  refine lv_iconst (v := (-1)) hx hb dX15_strains_12 (by decide) ?_
  refine lv_icmp_eq (tgt := 24) hx hb dX15_strains_13 (by decide) (fun c_ => absurd c_ (by decide +kernel)) (fun _ => ?_)
  refine lv_iload_n hx hb dX15_strains_16 rfl (lv_at hl 0 rfl) ?_
  have hPc := hP.sub (ws' := []) [] rfl
  have hDc := hD.sub (ws' := []) [] (by decide) rfl
  have hKc := hK.sub (tys' := []) [] rfl
  have hFc := va_free (wc := []) hD hS hA [] rfl
  refine va_calli (va_runS (As := [.int 4]) (rest := [.int 0]) ⟨hx, hb, hml, hown, hts⟩ (k_mast_4 l dC dI z zK zV  H.size) (va_cwS 1 hts gX15_strains_X15_mast rfl rfl rfl (by decide +kernel) ⟨Nat.le_of_ble_eq_true rfl, Nat.le_of_ble_eq_true rfl⟩) ⟨kP_blind, kP_go hPc hKc hDc hFc hM hS⟩ rfl rfl hl.1 rfl (lv_room (Nat.le_of_ble_eq_true rfl)) dX15_strains_17 ⟨Nat.le_of_ble_eq_true rfl, Nat.le_of_ble_eq_true rfl⟩) hS (fun q _ h => hFc q h) hFc (fun r8 u t H1 locs ht hvm hw hB hz1 hk1 hS => ?_)
  obtain ⟨hP, hD, hK⟩ := kJ (wr := [(sp, .inl (csp, 9, .inl (fun _ => 0))), (br, .inl (cbr, 3, .inl (fun _ => 0))), (mo, .inr (19, [.int 0, .int 0, .int 0, .int 0, .int 0, .int 0, .int tu, .ref ti, .ref si, .ref lo, .ref lh, .ref lk, .ref sp, .ref st, .ref pa, .ref br, .ref sg, .int mi, .int 0, .int 0, .int 0, .int fo, .int 0, .long pe, .long pn, .long re, .long rn, .int th]))]) (w1 := []) (t1 := []) hP hD hK [] [0, 1, 2] rfl rfl (by decide) (by decide) hk1 hFc ht hvm hB
  generalize H1 = H at hP hS ⊢
  have hP : va_P (dC, dI) vwCl [(sp, .inl (csp, 9, .inl (fun _ => 0))), (br, .inl (cbr, 3, .inl (fun _ => 0))), (mo, .inr (19, [.int 0, .int 0, .int 0, .int 0, .int 0, .int 0, .int tu, .ref ti, .ref si, .ref lo, .ref lh, .ref lk, .ref sp, .ref st, .ref pa, .ref br, .ref sg, .int mi, .int 0, .int 0, .int 0, .int fo, .int 0, .long pe, .long pn, .long re, .long rn, .int th]))] H := hP
  have hD : va_D A [(sp, .inl (csp, 9, .inl (fun _ => 0))), (br, .inl (cbr, 3, .inl (fun _ => 0))), (mo, .inr (19, [.int 0, .int 0, .int 0, .int 0, .int 0, .int 0, .int tu, .ref ti, .ref si, .ref lo, .ref lh, .ref lk, .ref sp, .ref st, .ref pa, .ref br, .ref sg, .int mi, .int 0, .int 0, .int 0, .int fo, .int 0, .long pe, .long pn, .long re, .long rn, .int th]))] := hD
  have hK : va_K (dC, dI) vwCl [(csp, .int), (cbr, .int)] s := hK
  obtain rfl : 1 = r8 := hw
  refine lv_iload_n hx hb dX15_strains_20 rfl (lv_at hl 3 rfl) ?_
  refine lv_icmp_ne (tgt := 35) hx hb dX15_strains_21 (by decide) (fun _ => ?_) (fun c_ => absurd c_ (by decide +kernel))
  refine lv_iconst (v := 0) hx hb dX15_strains_35 (by decide) ?_
  refine lv_iadd hx hb dX15_strains_36 ?_
  refine kc_i (y := 0) (by decide +kernel) ?_
  refine lv_istore_n (lv' := [(2, .int 0), (3, .int 4), (0, .ref mo), (1, .int 0)]) hx hb dX15_strains_37 rfl hl (by decide) rfl (fun ls hl => ?_)
  refine lv_iinc (v := 5) (lv' := [(3, .int 5), (2, .int 0), (0, .ref mo), (1, .int 0)]) hx hb dX15_strains_38 hl (k := 1) rfl (by decide +kernel) (by decide) rfl (fun ls hl => ?_)
  refine lv_goto (tgt := 4) hx hb dX15_strains_41 (by decide) ?_
  refine lv_iload_n hx hb dX15_strains_4 rfl (lv_at hl 0 rfl) ?_
  refine lv_bipush (v := 9) hx hb dX15_strains_5 (by decide) ?_
  refine lv_icmp_ge (tgt := 44) hx hb dX15_strains_7 (by decide) (fun c_ => absurd c_ (by decide +kernel)) (fun _ => ?_)
  refine lv_iload_n hx hb dX15_strains_10 rfl (lv_at hl 1 rfl) ?_
  refine lv_iload_n hx hb dX15_strains_11 rfl (lv_at hl 3 rfl) ?_
  refine lv_iconst (v := (-1)) hx hb dX15_strains_12 (by decide) ?_
  refine lv_icmp_eq (tgt := 24) hx hb dX15_strains_13 (by decide) (fun c_ => absurd c_ (by decide +kernel)) (fun _ => ?_)
  refine lv_iload_n hx hb dX15_strains_16 rfl (lv_at hl 0 rfl) ?_
  have hPc := hP.sub (ws' := []) [] rfl
  have hDc := hD.sub (ws' := []) [] (by decide) rfl
  have hKc := hK.sub (tys' := []) [] rfl
  have hFc := va_free (wc := []) hD hS hA [] rfl
  refine va_calli (va_runS (As := [.int 5]) (rest := [.int 0]) ⟨hx, hb, hml, hown, hts⟩ (k_mast_5 l dC dI z zK zV  H.size) (va_cwS 1 hts gX15_strains_X15_mast rfl rfl rfl (by decide +kernel) ⟨Nat.le_of_ble_eq_true rfl, Nat.le_of_ble_eq_true rfl⟩) ⟨kP_blind, kP_go hPc hKc hDc hFc hM hS⟩ rfl rfl hl.1 rfl (lv_room (Nat.le_of_ble_eq_true rfl)) dX15_strains_17 ⟨Nat.le_of_ble_eq_true rfl, Nat.le_of_ble_eq_true rfl⟩) hS (fun q _ h => hFc q h) hFc (fun r9 u t H1 locs ht hvm hw hB hz1 hk1 hS => ?_)
  obtain ⟨hP, hD, hK⟩ := kJ (wr := [(sp, .inl (csp, 9, .inl (fun _ => 0))), (br, .inl (cbr, 3, .inl (fun _ => 0))), (mo, .inr (19, [.int 0, .int 0, .int 0, .int 0, .int 0, .int 0, .int tu, .ref ti, .ref si, .ref lo, .ref lh, .ref lk, .ref sp, .ref st, .ref pa, .ref br, .ref sg, .int mi, .int 0, .int 0, .int 0, .int fo, .int 0, .long pe, .long pn, .long re, .long rn, .int th]))]) (w1 := []) (t1 := []) hP hD hK [] [0, 1, 2] rfl rfl (by decide) (by decide) hk1 hFc ht hvm hB
  generalize H1 = H at hP hS ⊢
  have hP : va_P (dC, dI) vwCl [(sp, .inl (csp, 9, .inl (fun _ => 0))), (br, .inl (cbr, 3, .inl (fun _ => 0))), (mo, .inr (19, [.int 0, .int 0, .int 0, .int 0, .int 0, .int 0, .int tu, .ref ti, .ref si, .ref lo, .ref lh, .ref lk, .ref sp, .ref st, .ref pa, .ref br, .ref sg, .int mi, .int 0, .int 0, .int 0, .int fo, .int 0, .long pe, .long pn, .long re, .long rn, .int th]))] H := hP
  have hD : va_D A [(sp, .inl (csp, 9, .inl (fun _ => 0))), (br, .inl (cbr, 3, .inl (fun _ => 0))), (mo, .inr (19, [.int 0, .int 0, .int 0, .int 0, .int 0, .int 0, .int tu, .ref ti, .ref si, .ref lo, .ref lh, .ref lk, .ref sp, .ref st, .ref pa, .ref br, .ref sg, .int mi, .int 0, .int 0, .int 0, .int fo, .int 0, .long pe, .long pn, .long re, .long rn, .int th]))] := hD
  have hK : va_K (dC, dI) vwCl [(csp, .int), (cbr, .int)] s := hK
  obtain rfl : 1 = r9 := hw
  refine lv_iload_n hx hb dX15_strains_20 rfl (lv_at hl 3 rfl) ?_
  refine lv_icmp_ne (tgt := 35) hx hb dX15_strains_21 (by decide) (fun _ => ?_) (fun c_ => absurd c_ (by decide +kernel))
  refine lv_iconst (v := 0) hx hb dX15_strains_35 (by decide) ?_
  refine lv_iadd hx hb dX15_strains_36 ?_
  refine kc_i (y := 0) (by decide +kernel) ?_
  refine lv_istore_n (lv' := [(2, .int 0), (3, .int 5), (0, .ref mo), (1, .int 0)]) hx hb dX15_strains_37 rfl hl (by decide) rfl (fun ls hl => ?_)
  refine lv_iinc (v := 6) (lv' := [(3, .int 6), (2, .int 0), (0, .ref mo), (1, .int 0)]) hx hb dX15_strains_38 hl (k := 1) rfl (by decide +kernel) (by decide) rfl (fun ls hl => ?_)
  refine lv_goto (tgt := 4) hx hb dX15_strains_41 (by decide) ?_
  refine lv_iload_n hx hb dX15_strains_4 rfl (lv_at hl 0 rfl) ?_
  refine lv_bipush (v := 9) hx hb dX15_strains_5 (by decide) ?_
  refine lv_icmp_ge (tgt := 44) hx hb dX15_strains_7 (by decide) (fun c_ => absurd c_ (by decide +kernel)) (fun _ => ?_)
  refine lv_iload_n hx hb dX15_strains_10 rfl (lv_at hl 1 rfl) ?_
  refine lv_iload_n hx hb dX15_strains_11 rfl (lv_at hl 3 rfl) ?_
  refine lv_iconst (v := (-1)) hx hb dX15_strains_12 (by decide) ?_
  refine lv_icmp_eq (tgt := 24) hx hb dX15_strains_13 (by decide) (fun c_ => absurd c_ (by decide +kernel)) (fun _ => ?_)
  refine lv_iload_n hx hb dX15_strains_16 rfl (lv_at hl 0 rfl) ?_
  have hPc := hP.sub (ws' := []) [] rfl
  have hDc := hD.sub (ws' := []) [] (by decide) rfl
  have hKc := hK.sub (tys' := []) [] rfl
  have hFc := va_free (wc := []) hD hS hA [] rfl
  refine va_calli (va_runS (As := [.int 6]) (rest := [.int 0]) ⟨hx, hb, hml, hown, hts⟩ (k_mast_6 l dC dI z zK zV  H.size) (va_cwS 1 hts gX15_strains_X15_mast rfl rfl rfl (by decide +kernel) ⟨Nat.le_of_ble_eq_true rfl, Nat.le_of_ble_eq_true rfl⟩) ⟨kP_blind, kP_go hPc hKc hDc hFc hM hS⟩ rfl rfl hl.1 rfl (lv_room (Nat.le_of_ble_eq_true rfl)) dX15_strains_17 ⟨Nat.le_of_ble_eq_true rfl, Nat.le_of_ble_eq_true rfl⟩) hS (fun q _ h => hFc q h) hFc (fun r10 u t H1 locs ht hvm hw hB hz1 hk1 hS => ?_)
  obtain ⟨hP, hD, hK⟩ := kJ (wr := [(sp, .inl (csp, 9, .inl (fun _ => 0))), (br, .inl (cbr, 3, .inl (fun _ => 0))), (mo, .inr (19, [.int 0, .int 0, .int 0, .int 0, .int 0, .int 0, .int tu, .ref ti, .ref si, .ref lo, .ref lh, .ref lk, .ref sp, .ref st, .ref pa, .ref br, .ref sg, .int mi, .int 0, .int 0, .int 0, .int fo, .int 0, .long pe, .long pn, .long re, .long rn, .int th]))]) (w1 := []) (t1 := []) hP hD hK [] [0, 1, 2] rfl rfl (by decide) (by decide) hk1 hFc ht hvm hB
  generalize H1 = H at hP hS ⊢
  have hP : va_P (dC, dI) vwCl [(sp, .inl (csp, 9, .inl (fun _ => 0))), (br, .inl (cbr, 3, .inl (fun _ => 0))), (mo, .inr (19, [.int 0, .int 0, .int 0, .int 0, .int 0, .int 0, .int tu, .ref ti, .ref si, .ref lo, .ref lh, .ref lk, .ref sp, .ref st, .ref pa, .ref br, .ref sg, .int mi, .int 0, .int 0, .int 0, .int fo, .int 0, .long pe, .long pn, .long re, .long rn, .int th]))] H := hP
  have hD : va_D A [(sp, .inl (csp, 9, .inl (fun _ => 0))), (br, .inl (cbr, 3, .inl (fun _ => 0))), (mo, .inr (19, [.int 0, .int 0, .int 0, .int 0, .int 0, .int 0, .int tu, .ref ti, .ref si, .ref lo, .ref lh, .ref lk, .ref sp, .ref st, .ref pa, .ref br, .ref sg, .int mi, .int 0, .int 0, .int 0, .int fo, .int 0, .long pe, .long pn, .long re, .long rn, .int th]))] := hD
  have hK : va_K (dC, dI) vwCl [(csp, .int), (cbr, .int)] s := hK
  obtain rfl : 2 = r10 := hw
  refine lv_iload_n hx hb dX15_strains_20 rfl (lv_at hl 3 rfl) ?_
  refine lv_icmp_ne (tgt := 35) hx hb dX15_strains_21 (by decide) (fun _ => ?_) (fun c_ => absurd c_ (by decide +kernel))
  refine lv_iconst (v := 0) hx hb dX15_strains_35 (by decide) ?_
  refine lv_iadd hx hb dX15_strains_36 ?_
  refine kc_i (y := 0) (by decide +kernel) ?_
  refine lv_istore_n (lv' := [(2, .int 0), (3, .int 6), (0, .ref mo), (1, .int 0)]) hx hb dX15_strains_37 rfl hl (by decide) rfl (fun ls hl => ?_)
  refine lv_iinc (v := 7) (lv' := [(3, .int 7), (2, .int 0), (0, .ref mo), (1, .int 0)]) hx hb dX15_strains_38 hl (k := 1) rfl (by decide +kernel) (by decide) rfl (fun ls hl => ?_)
  refine lv_goto (tgt := 4) hx hb dX15_strains_41 (by decide) ?_
  refine lv_iload_n hx hb dX15_strains_4 rfl (lv_at hl 0 rfl) ?_
  refine lv_bipush (v := 9) hx hb dX15_strains_5 (by decide) ?_
  refine lv_icmp_ge (tgt := 44) hx hb dX15_strains_7 (by decide) (fun c_ => absurd c_ (by decide +kernel)) (fun _ => ?_)
  refine lv_iload_n hx hb dX15_strains_10 rfl (lv_at hl 1 rfl) ?_
  refine lv_iload_n hx hb dX15_strains_11 rfl (lv_at hl 3 rfl) ?_
  refine lv_iconst (v := (-1)) hx hb dX15_strains_12 (by decide) ?_
  refine lv_icmp_eq (tgt := 24) hx hb dX15_strains_13 (by decide) (fun c_ => absurd c_ (by decide +kernel)) (fun _ => ?_)
  refine lv_iload_n hx hb dX15_strains_16 rfl (lv_at hl 0 rfl) ?_
  have hPc := hP.sub (ws' := []) [] rfl
  have hDc := hD.sub (ws' := []) [] (by decide) rfl
  have hKc := hK.sub (tys' := []) [] rfl
  have hFc := va_free (wc := []) hD hS hA [] rfl
  refine va_calli (va_runS (As := [.int 7]) (rest := [.int 0]) ⟨hx, hb, hml, hown, hts⟩ (k_mast_7 l dC dI z zK zV  H.size) (va_cwS 1 hts gX15_strains_X15_mast rfl rfl rfl (by decide +kernel) ⟨Nat.le_of_ble_eq_true rfl, Nat.le_of_ble_eq_true rfl⟩) ⟨kP_blind, kP_go hPc hKc hDc hFc hM hS⟩ rfl rfl hl.1 rfl (lv_room (Nat.le_of_ble_eq_true rfl)) dX15_strains_17 ⟨Nat.le_of_ble_eq_true rfl, Nat.le_of_ble_eq_true rfl⟩) hS (fun q _ h => hFc q h) hFc (fun r11 u t H1 locs ht hvm hw hB hz1 hk1 hS => ?_)
  obtain ⟨hP, hD, hK⟩ := kJ (wr := [(sp, .inl (csp, 9, .inl (fun _ => 0))), (br, .inl (cbr, 3, .inl (fun _ => 0))), (mo, .inr (19, [.int 0, .int 0, .int 0, .int 0, .int 0, .int 0, .int tu, .ref ti, .ref si, .ref lo, .ref lh, .ref lk, .ref sp, .ref st, .ref pa, .ref br, .ref sg, .int mi, .int 0, .int 0, .int 0, .int fo, .int 0, .long pe, .long pn, .long re, .long rn, .int th]))]) (w1 := []) (t1 := []) hP hD hK [] [0, 1, 2] rfl rfl (by decide) (by decide) hk1 hFc ht hvm hB
  generalize H1 = H at hP hS ⊢
  have hP : va_P (dC, dI) vwCl [(sp, .inl (csp, 9, .inl (fun _ => 0))), (br, .inl (cbr, 3, .inl (fun _ => 0))), (mo, .inr (19, [.int 0, .int 0, .int 0, .int 0, .int 0, .int 0, .int tu, .ref ti, .ref si, .ref lo, .ref lh, .ref lk, .ref sp, .ref st, .ref pa, .ref br, .ref sg, .int mi, .int 0, .int 0, .int 0, .int fo, .int 0, .long pe, .long pn, .long re, .long rn, .int th]))] H := hP
  have hD : va_D A [(sp, .inl (csp, 9, .inl (fun _ => 0))), (br, .inl (cbr, 3, .inl (fun _ => 0))), (mo, .inr (19, [.int 0, .int 0, .int 0, .int 0, .int 0, .int 0, .int tu, .ref ti, .ref si, .ref lo, .ref lh, .ref lk, .ref sp, .ref st, .ref pa, .ref br, .ref sg, .int mi, .int 0, .int 0, .int 0, .int fo, .int 0, .long pe, .long pn, .long re, .long rn, .int th]))] := hD
  have hK : va_K (dC, dI) vwCl [(csp, .int), (cbr, .int)] s := hK
  obtain rfl : 0 = r11 := hw
  refine lv_iload_n hx hb dX15_strains_20 rfl (lv_at hl 3 rfl) ?_
  refine lv_icmp_ne (tgt := 35) hx hb dX15_strains_21 (by decide) (fun c_ => absurd (by decide +kernel) c_) (fun _ => ?_)
  refine lv_aload_n hx hb dX15_strains_24 rfl (lv_at hl 2 rfl) ?_
  refine lv_iload_n hx hb dX15_strains_25 rfl (lv_at hl 0 rfl) ?_
  have hPc := hP.sub (ws' := [(mo, .inr (19, [.int 0, .int 0, .int 0, .int 0, .int 0, .int 0, .int tu, .ref ti, .ref si, .ref lo, .ref lh, .ref lk, .ref sp, .ref st, .ref pa, .ref br, .ref sg, .int mi, .int 0, .int 0, .int 0, .int fo, .int 0, .long pe, .long pn, .long re, .long rn, .int th])), (sp, .inl (csp, 9, .inl (fun _ => 0))), (br, .inl (cbr, 3, .inl (fun _ => 0)))]) [2, 0, 1] rfl
  have hDc := hD.sub (ws' := [(mo, .inr (19, [.int 0, .int 0, .int 0, .int 0, .int 0, .int 0, .int tu, .ref ti, .ref si, .ref lo, .ref lh, .ref lk, .ref sp, .ref st, .ref pa, .ref br, .ref sg, .int mi, .int 0, .int 0, .int 0, .int fo, .int 0, .long pe, .long pn, .long re, .long rn, .int th])), (sp, .inl (csp, 9, .inl (fun _ => 0))), (br, .inl (cbr, 3, .inl (fun _ => 0)))]) [2, 0, 1] (by decide) rfl
  have hKc := hK.sub (tys' := [(csp, .int), (cbr, .int)]) [0, 1] rfl
  have hFc := va_free (wc := [(mo, .inr (19, [.int 0, .int 0, .int 0, .int 0, .int 0, .int 0, .int tu, .ref ti, .ref si, .ref lo, .ref lh, .ref lk, .ref sp, .ref st, .ref pa, .ref br, .ref sg, .int mi, .int 0, .int 0, .int 0, .int fo, .int 0, .long pe, .long pn, .long re, .long rn, .int th])), (sp, .inl (csp, 9, .inl (fun _ => 0))), (br, .inl (cbr, 3, .inl (fun _ => 0)))]) hD hS hA [2, 0, 1] rfl
  refine va_calli (va_runV (As := [.int 7]) (rest := [.int 0]) ⟨hx, hb, hml, hown, hts⟩ (k_forceOf_7 l dC dI z zK zV mi fo pe pn re rn mo ti si lo lh lk sp st pa br sg csp cbr th tu H.size) (cwV 1 hts gX15_strains_X15_forceOf rfl rfl rfl (by decide +kernel) ⟨Nat.le_of_ble_eq_true rfl, Nat.le_of_ble_eq_true rfl⟩) ⟨kP_blind, va_recv hKc hPc (ci := 19) (q0 := 0) rfl rfl, kP_go hPc hKc hDc hFc hM hS⟩ rfl rfl hl.1 rfl (lv_room (Nat.le_of_ble_eq_true rfl)) dX15_strains_26 ⟨Nat.le_of_ble_eq_true rfl, Nat.le_of_ble_eq_true rfl⟩) hS (fun q _ h => hFc q h) hFc (fun r12 u t H1 locs ht hvm hw hB hz1 hk1 hS => ?_)
  obtain ⟨hP, hD, hK⟩ := kJ (wr := []) (w1 := [(sp, .inl (csp, 9, .inl (fun _ => 0))), (br, .inl (cbr, 3, .inl (fun _ => 0))), (mo, .inr (19, [.int 0, .int 0, .int 0, .int 0, .int 0, .int 0, .int tu, .ref ti, .ref si, .ref lo, .ref lh, .ref lk, .ref sp, .ref st, .ref pa, .ref br, .ref sg, .int mi, .int 0, .int 0, .int 0, .int fo, .int 0, .long pe, .long pn, .long re, .long rn, .int th]))]) (t1 := []) hP hD hK [2, 0, 1] [] rfl rfl (by decide) (by decide) hk1 hFc ht hvm hB
  generalize H1 = H at hP hS ⊢
  have hP : va_P (dC, dI) vwCl [(sp, .inl (csp, 9, .inl (fun _ => 0))), (br, .inl (cbr, 3, .inl (fun _ => 0))), (mo, .inr (19, [.int 0, .int 0, .int 0, .int 0, .int 0, .int 0, .int tu, .ref ti, .ref si, .ref lo, .ref lh, .ref lk, .ref sp, .ref st, .ref pa, .ref br, .ref sg, .int mi, .int 0, .int 0, .int 0, .int fo, .int 0, .long pe, .long pn, .long re, .long rn, .int th]))] H := hP
  have hD : va_D A [(sp, .inl (csp, 9, .inl (fun _ => 0))), (br, .inl (cbr, 3, .inl (fun _ => 0))), (mo, .inr (19, [.int 0, .int 0, .int 0, .int 0, .int 0, .int 0, .int tu, .ref ti, .ref si, .ref lo, .ref lh, .ref lk, .ref sp, .ref st, .ref pa, .ref br, .ref sg, .int mi, .int 0, .int 0, .int 0, .int fo, .int 0, .long pe, .long pn, .long re, .long rn, .int th]))] := hD
  have hK : va_K (dC, dI) vwCl [(csp, .int), (cbr, .int)] s := hK
  obtain rfl : 0 = r12 := hw
  refine va_mabs hx hb (hml.trans hl.1.symm) hown (hts (.methodLink RX15 99 Lib.Math.abs.name) (by decide +kernel)) (hts (.static Lib.Math.abs.name) (by decide +kernel)) (hts (.initialized "java/lang/Math") (by decide +kernel)) (hts (.code Lib.Math.abs.name Lib.Math.abs.code 1 (some .int)) (by decide +kernel)) (Nat.le_of_ble_eq_true rfl) (Nat.le_of_ble_eq_true rfl) (Nat.le_of_ble_eq_true rfl) (Nat.le_of_ble_eq_true rfl) dX15_strains_29 ?_
  refine kc_i (y := 0) (by decide +kernel) ?_
  refine lv_goto (tgt := 36) hx hb dX15_strains_32 (by decide) ?_
  refine lv_iadd hx hb dX15_strains_36 ?_
  refine kc_i (y := 0) (by decide +kernel) ?_
  refine lv_istore_n (lv' := [(2, .int 0), (3, .int 7), (0, .ref mo), (1, .int 0)]) hx hb dX15_strains_37 rfl hl (by decide) rfl (fun ls hl => ?_)
  refine lv_iinc (v := 8) (lv' := [(3, .int 8), (2, .int 0), (0, .ref mo), (1, .int 0)]) hx hb dX15_strains_38 hl (k := 1) rfl (by decide +kernel) (by decide) rfl (fun ls hl => ?_)
  refine lv_goto (tgt := 4) hx hb dX15_strains_41 (by decide) ?_
  refine lv_iload_n hx hb dX15_strains_4 rfl (lv_at hl 0 rfl) ?_
  refine lv_bipush (v := 9) hx hb dX15_strains_5 (by decide) ?_
  refine lv_icmp_ge (tgt := 44) hx hb dX15_strains_7 (by decide) (fun c_ => absurd c_ (by decide +kernel)) (fun _ => ?_)
  refine lv_iload_n hx hb dX15_strains_10 rfl (lv_at hl 1 rfl) ?_
  refine lv_iload_n hx hb dX15_strains_11 rfl (lv_at hl 3 rfl) ?_
  refine lv_iconst (v := (-1)) hx hb dX15_strains_12 (by decide) ?_
  refine lv_icmp_eq (tgt := 24) hx hb dX15_strains_13 (by decide) (fun c_ => absurd c_ (by decide +kernel)) (fun _ => ?_)
  refine lv_iload_n hx hb dX15_strains_16 rfl (lv_at hl 0 rfl) ?_
  have hPc := hP.sub (ws' := []) [] rfl
  have hDc := hD.sub (ws' := []) [] (by decide) rfl
  have hKc := hK.sub (tys' := []) [] rfl
  have hFc := va_free (wc := []) hD hS hA [] rfl
  refine va_calli (va_runS (As := [.int 8]) (rest := [.int 0]) ⟨hx, hb, hml, hown, hts⟩ (k_mast_8 l dC dI z zK zV  H.size) (va_cwS 1 hts gX15_strains_X15_mast rfl rfl rfl (by decide +kernel) ⟨Nat.le_of_ble_eq_true rfl, Nat.le_of_ble_eq_true rfl⟩) ⟨kP_blind, kP_go hPc hKc hDc hFc hM hS⟩ rfl rfl hl.1 rfl (lv_room (Nat.le_of_ble_eq_true rfl)) dX15_strains_17 ⟨Nat.le_of_ble_eq_true rfl, Nat.le_of_ble_eq_true rfl⟩) hS (fun q _ h => hFc q h) hFc (fun r13 u t H1 locs ht hvm hw hB hz1 hk1 hS => ?_)
  obtain ⟨hP, hD, hK⟩ := kJ (wr := [(sp, .inl (csp, 9, .inl (fun _ => 0))), (br, .inl (cbr, 3, .inl (fun _ => 0))), (mo, .inr (19, [.int 0, .int 0, .int 0, .int 0, .int 0, .int 0, .int tu, .ref ti, .ref si, .ref lo, .ref lh, .ref lk, .ref sp, .ref st, .ref pa, .ref br, .ref sg, .int mi, .int 0, .int 0, .int 0, .int fo, .int 0, .long pe, .long pn, .long re, .long rn, .int th]))]) (w1 := []) (t1 := []) hP hD hK [] [0, 1, 2] rfl rfl (by decide) (by decide) hk1 hFc ht hvm hB
  generalize H1 = H at hP hS ⊢
  have hP : va_P (dC, dI) vwCl [(sp, .inl (csp, 9, .inl (fun _ => 0))), (br, .inl (cbr, 3, .inl (fun _ => 0))), (mo, .inr (19, [.int 0, .int 0, .int 0, .int 0, .int 0, .int 0, .int tu, .ref ti, .ref si, .ref lo, .ref lh, .ref lk, .ref sp, .ref st, .ref pa, .ref br, .ref sg, .int mi, .int 0, .int 0, .int 0, .int fo, .int 0, .long pe, .long pn, .long re, .long rn, .int th]))] H := hP
  have hD : va_D A [(sp, .inl (csp, 9, .inl (fun _ => 0))), (br, .inl (cbr, 3, .inl (fun _ => 0))), (mo, .inr (19, [.int 0, .int 0, .int 0, .int 0, .int 0, .int 0, .int tu, .ref ti, .ref si, .ref lo, .ref lh, .ref lk, .ref sp, .ref st, .ref pa, .ref br, .ref sg, .int mi, .int 0, .int 0, .int 0, .int fo, .int 0, .long pe, .long pn, .long re, .long rn, .int th]))] := hD
  have hK : va_K (dC, dI) vwCl [(csp, .int), (cbr, .int)] s := hK
  obtain rfl : 2 = r13 := hw
  refine lv_iload_n hx hb dX15_strains_20 rfl (lv_at hl 3 rfl) ?_
  refine lv_icmp_ne (tgt := 35) hx hb dX15_strains_21 (by decide) (fun _ => ?_) (fun c_ => absurd c_ (by decide +kernel))
  refine lv_iconst (v := 0) hx hb dX15_strains_35 (by decide) ?_
  refine lv_iadd hx hb dX15_strains_36 ?_
  refine kc_i (y := 0) (by decide +kernel) ?_
  refine lv_istore_n (lv' := [(2, .int 0), (3, .int 8), (0, .ref mo), (1, .int 0)]) hx hb dX15_strains_37 rfl hl (by decide) rfl (fun ls hl => ?_)
  refine lv_iinc (v := 9) (lv' := [(3, .int 9), (2, .int 0), (0, .ref mo), (1, .int 0)]) hx hb dX15_strains_38 hl (k := 1) rfl (by decide +kernel) (by decide) rfl (fun ls hl => ?_)
  refine lv_goto (tgt := 4) hx hb dX15_strains_41 (by decide) ?_
  refine lv_iload_n hx hb dX15_strains_4 rfl (lv_at hl 0 rfl) ?_
  refine lv_bipush (v := 9) hx hb dX15_strains_5 (by decide) ?_
  refine lv_icmp_ge (tgt := 44) hx hb dX15_strains_7 (by decide) (fun _ => ?_) (fun c_ => absurd (by decide +kernel) c_)
  refine lv_iload_n hx hb dX15_strains_44 rfl (lv_at hl 1 rfl) ?_
  exact W.iret (v := 0) hx hb hr (fun t ht hW => ⟨⟨0, (), rfl, rfl, kB_end (w9 := [(sp, .inl (csp, 9, .inl (fun _ => 0))), (br, .inl (cbr, 3, .inl (fun _ => 0))), (mo, .inr (19, [.int 0, .int 0, .int 0, .int 0, .int 0, .int 0, .int tu, .ref ti, .ref si, .ref lo, .ref lh, .ref lk, .ref sp, .ref st, .ref pa, .ref br, .ref sg, .int mi, .int 0, .int 0, .int 0, .int fo, .int 0, .long pe, .long pn, .long re, .long rn, .int th]))]) (t9 := []) hP hK hD [0, 1, 2] [] rfl (by decide) rfl rfl t ht hW⟩, hS.F ht⟩) hS.2.2 dX15_strains_45
abbrev wd_k_strains_2 (z : Nat → Nat) (mi : Int32) (fo : Int32) (pe : Int64) (pn : Int64) (re : Int64) (rn : Int64) (mo : Nat) (ti : Nat) (si : Nat) (lo : Nat) (lh : Nat) (lk : Nat) (sp : Nat) (st : Nat) (pa : Nat) (br : Nat) (sg : Nat) (csp : ClassId) (cbr : ClassId) (th : Int32) (tu : Int32) : va_W := [(mo, .inr (19, [.int 0, .int 0, .int 0, .int 0, .int 0, .int 0, .int tu, .ref ti, .ref si, .ref lo, .ref lh, .ref lk, .ref sp, .ref st, .ref pa, .ref br, .ref sg, .int mi, .int 0, .int 0, .int 0, .int fo, .int 0, .long pe, .long pn, .long re, .long rn, .int th])), (sp, .inl (csp, 9, .inl (fun _ => 0))), (br, .inl (cbr, 3, .inl (fun _ => 0)))]
set_option maxHeartbeats 4000000 in
set_option maxRecDepth 100000 in
theorem k_strains_2 (l : Launch) (dC : Nat → ClassId) (dI : Nat → Nat → Nat) (z zK zV : Nat → Nat) (mi : Int32) (fo : Int32) (pe : Int64) (pn : Int64) (re : Int64) (rn : Int64) (mo : Nat) (ti : Nat) (si : Nat) (lo : Nat) (lh : Nat) (lk : Nat) (sp : Nat) (st : Nat) (pa : Nat) (br : Nat) (sg : Nat) (csp : ClassId) (cbr : ClassId) (th : Int32) (tu : Int32) (sz : Nat)  : Met l yX15_strains wsX15_strains ({ frames := 8, cells := 0, slots := 0, locals := 171 }) (kP dC dI z zK zV [.ref mo, .int 2] sz (wd_k_strains_2 z mi fo pe pn re rn mo ti si lo lh lk sp st pa br sg csp cbr th tu) [(csp, .int), (cbr, .int)]) (va_Qi (fun (r : Int32) (_ : Unit) => 0 = r) (fun _ t => kB (dC, dI) (va_A (wd_k_strains_2 z mi fo pe pn re rn mo ti si lo lh lk sp st pa br sg csp cbr th tu) sz) [(sp, .inl (csp, 9, .inl (fun _ => 0))), (br, .inl (cbr, 3, .inl (fun _ => 0))), (mo, .inr (19, [.int 0, .int 0, .int 0, .int 0, .int 0, .int 0, .int tu, .ref ti, .ref si, .ref lo, .ref lh, .ref lk, .ref sp, .ref st, .ref pa, .ref br, .ref sg, .int mi, .int 0, .int 0, .int 0, .int fo, .int 0, .long pe, .long pn, .long re, .long rn, .int th]))] [] t) (va_A (wd_k_strains_2 z mi fo pe pn re rn mo ti si lo lh lk sp st pa br sg csp cbr th tu) sz)) 0 0 (va_A (wd_k_strains_2 z mi fo pe pn re rn mo ti si lo lh lk sp st pa br sg csp cbr th tu) sz) := by
  refine Met.ofW (cc := cX15_strains) (maxL := 4) (ret := (some .int)) (by decide) rfl ?_
  intro p e s m args below meth c s₁ B hml hv
  obtain ⟨rfl, hsz, hP, hK, hD0, hM⟩ := hv
  have hx := B.exec
  have hb := B.bytes
  have hr := B.returns
  have hts := atoms_spec (ws := wsX15_strains) B.pre
  have hown : s.vm.findClass RX15 = some m.cls := findClass_of_methodNamed B.named
  have hlocks := B.notSynchronized
  subst hsz
  have hD := hD0.self (sz := s.heap.size)
  generalize hAe : va_A (wd_k_strains_2 z mi fo pe pn re rn mo ti si lo lh lk sp st pa br sg csp cbr th tu) s.heap.size = A at hD hM ⊢
  have hA : ∀ q : Nat, s.heap.size ≤ q → A q := fun q h => by rw [← hAe]; exact Or.inr h
  have hS : va_S A s.heap s.heap [] := va_S.rf
  have hP : va_P (dC, dI) vwCl [(mo, .inr (19, [.int 0, .int 0, .int 0, .int 0, .int 0, .int 0, .int tu, .ref ti, .ref si, .ref lo, .ref lh, .ref lk, .ref sp, .ref st, .ref pa, .ref br, .ref sg, .int mi, .int 0, .int 0, .int 0, .int fo, .int 0, .long pe, .long pn, .long re, .long rn, .int th])), (sp, .inl (csp, 9, .inl (fun _ => 0))), (br, .inl (cbr, 3, .inl (fun _ => 0)))] s.heap := hP
  have hD : va_D A [(mo, .inr (19, [.int 0, .int 0, .int 0, .int 0, .int 0, .int 0, .int tu, .ref ti, .ref si, .ref lo, .ref lh, .ref lk, .ref sp, .ref st, .ref pa, .ref br, .ref sg, .int mi, .int 0, .int 0, .int 0, .int fo, .int 0, .long pe, .long pn, .long re, .long rn, .int th])), (sp, .inl (csp, 9, .inl (fun _ => 0))), (br, .inl (cbr, 3, .inl (fun _ => 0)))] := hD
  have hl := lv_entry ([.ref mo, .int 2]) (n := 4) (Nat.le_of_ble_eq_true rfl)
  rw [lg_entry_eq]
  generalize (lg_sl ([.ref mo, .int 2]) ++ List.replicate (4 - (lg_sl ([.ref mo, .int 2])).length) Slot.unset).toArray = ls at hl ⊢
  have hl : lv_has ls 4 [(0, .ref mo), (1, .int 2)] := hl
  refine lv_iconst (v := 0) hx hb dX15_strains_0 (by decide) ?_
  refine lv_istore_n (lv' := [(2, .int 0), (0, .ref mo), (1, .int 2)]) hx hb dX15_strains_1 rfl hl (by decide) rfl (fun ls hl => ?_)
  refine lv_iconst (v := 0) hx hb dX15_strains_2 (by decide) ?_
  refine lv_istore_n (lv' := [(3, .int 0), (2, .int 0), (0, .ref mo), (1, .int 2)]) hx hb dX15_strains_3 rfl hl (by decide) rfl (fun ls hl => ?_)
  refine lv_iload_n hx hb dX15_strains_4 rfl (lv_at hl 0 rfl) ?_
  refine lv_bipush (v := 9) hx hb dX15_strains_5 (by decide) ?_
  refine lv_icmp_ge (tgt := 44) hx hb dX15_strains_7 (by decide) (fun c_ => absurd c_ (by decide +kernel)) (fun _ => ?_)
  refine lv_iload_n hx hb dX15_strains_10 rfl (lv_at hl 1 rfl) ?_
  refine lv_iload_n hx hb dX15_strains_11 rfl (lv_at hl 3 rfl) ?_
  refine lv_iconst (v := (-1)) hx hb dX15_strains_12 (by decide) ?_
  refine lv_icmp_eq (tgt := 24) hx hb dX15_strains_13 (by decide) (fun c_ => absurd c_ (by decide +kernel)) (fun _ => ?_)
  refine lv_iload_n hx hb dX15_strains_16 rfl (lv_at hl 0 rfl) ?_
  have hPc := hP.sub (ws' := []) [] rfl
  have hDc := hD.sub (ws' := []) [] (by decide) rfl
  have hKc := hK.sub (tys' := []) [] rfl
  have hFc := va_free (wc := []) hD hS hA [] rfl
  refine va_calli (va_runS (As := [.int 0]) (rest := [.int 0]) ⟨hx, hb, hml, hown, hts⟩ (k_mast_0 l dC dI z zK zV  s.heap.size) (va_cwS 1 hts gX15_strains_X15_mast rfl rfl rfl (by decide +kernel) ⟨Nat.le_of_ble_eq_true rfl, Nat.le_of_ble_eq_true rfl⟩) ⟨kP_blind, kP_go hPc hKc hDc hFc hM hS⟩ rfl rfl hl.1 rfl (lv_room (Nat.le_of_ble_eq_true rfl)) dX15_strains_17 ⟨Nat.le_of_ble_eq_true rfl, Nat.le_of_ble_eq_true rfl⟩) hS (fun q _ h => hFc q h) hFc (fun r1 u t H1 locs ht hvm hw hB hz1 hk1 hS => ?_)
  obtain ⟨hP, hD, hK⟩ := kJ (wr := [(mo, .inr (19, [.int 0, .int 0, .int 0, .int 0, .int 0, .int 0, .int tu, .ref ti, .ref si, .ref lo, .ref lh, .ref lk, .ref sp, .ref st, .ref pa, .ref br, .ref sg, .int mi, .int 0, .int 0, .int 0, .int fo, .int 0, .long pe, .long pn, .long re, .long rn, .int th])), (sp, .inl (csp, 9, .inl (fun _ => 0))), (br, .inl (cbr, 3, .inl (fun _ => 0)))]) (w1 := []) (t1 := []) hP hD hK [] [0, 1, 2] rfl rfl (by decide) (by decide) hk1 hFc ht hvm hB
  generalize H1 = H at hP hS ⊢
  have hP : va_P (dC, dI) vwCl [(mo, .inr (19, [.int 0, .int 0, .int 0, .int 0, .int 0, .int 0, .int tu, .ref ti, .ref si, .ref lo, .ref lh, .ref lk, .ref sp, .ref st, .ref pa, .ref br, .ref sg, .int mi, .int 0, .int 0, .int 0, .int fo, .int 0, .long pe, .long pn, .long re, .long rn, .int th])), (sp, .inl (csp, 9, .inl (fun _ => 0))), (br, .inl (cbr, 3, .inl (fun _ => 0)))] H := hP
  have hD : va_D A [(mo, .inr (19, [.int 0, .int 0, .int 0, .int 0, .int 0, .int 0, .int tu, .ref ti, .ref si, .ref lo, .ref lh, .ref lk, .ref sp, .ref st, .ref pa, .ref br, .ref sg, .int mi, .int 0, .int 0, .int 0, .int fo, .int 0, .long pe, .long pn, .long re, .long rn, .int th])), (sp, .inl (csp, 9, .inl (fun _ => 0))), (br, .inl (cbr, 3, .inl (fun _ => 0)))] := hD
  have hK : va_K (dC, dI) vwCl [(csp, .int), (cbr, .int)] s := hK
  obtain rfl : 0 = r1 := hw
  refine lv_iload_n hx hb dX15_strains_20 rfl (lv_at hl 3 rfl) ?_
  refine lv_icmp_ne (tgt := 35) hx hb dX15_strains_21 (by decide) (fun _ => ?_) (fun c_ => absurd c_ (by decide +kernel))
  refine lv_iconst (v := 0) hx hb dX15_strains_35 (by decide) ?_
  refine lv_iadd hx hb dX15_strains_36 ?_
  refine kc_i (y := 0) (by decide +kernel) ?_
  refine lv_istore_n (lv' := [(2, .int 0), (3, .int 0), (0, .ref mo), (1, .int 2)]) hx hb dX15_strains_37 rfl hl (by decide) rfl (fun ls hl => ?_)
  refine lv_iinc (v := 1) (lv' := [(3, .int 1), (2, .int 0), (0, .ref mo), (1, .int 2)]) hx hb dX15_strains_38 hl (k := 1) rfl (by decide +kernel) (by decide) rfl (fun ls hl => ?_)
  refine lv_goto (tgt := 4) hx hb dX15_strains_41 (by decide) ?_
  refine lv_iload_n hx hb dX15_strains_4 rfl (lv_at hl 0 rfl) ?_
  refine lv_bipush (v := 9) hx hb dX15_strains_5 (by decide) ?_
  refine lv_icmp_ge (tgt := 44) hx hb dX15_strains_7 (by decide) (fun c_ => absurd c_ (by decide +kernel)) (fun _ => ?_)
  refine lv_iload_n hx hb dX15_strains_10 rfl (lv_at hl 1 rfl) ?_
  refine lv_iload_n hx hb dX15_strains_11 rfl (lv_at hl 3 rfl) ?_
  refine lv_iconst (v := (-1)) hx hb dX15_strains_12 (by decide) ?_
  refine lv_icmp_eq (tgt := 24) hx hb dX15_strains_13 (by decide) (fun c_ => absurd c_ (by decide +kernel)) (fun _ => ?_)
  refine lv_iload_n hx hb dX15_strains_16 rfl (lv_at hl 0 rfl) ?_
  have hPc := hP.sub (ws' := []) [] rfl
  have hDc := hD.sub (ws' := []) [] (by decide) rfl
  have hKc := hK.sub (tys' := []) [] rfl
  have hFc := va_free (wc := []) hD hS hA [] rfl
  refine va_calli (va_runS (As := [.int 1]) (rest := [.int 0]) ⟨hx, hb, hml, hown, hts⟩ (k_mast_1 l dC dI z zK zV  H.size) (va_cwS 1 hts gX15_strains_X15_mast rfl rfl rfl (by decide +kernel) ⟨Nat.le_of_ble_eq_true rfl, Nat.le_of_ble_eq_true rfl⟩) ⟨kP_blind, kP_go hPc hKc hDc hFc hM hS⟩ rfl rfl hl.1 rfl (lv_room (Nat.le_of_ble_eq_true rfl)) dX15_strains_17 ⟨Nat.le_of_ble_eq_true rfl, Nat.le_of_ble_eq_true rfl⟩) hS (fun q _ h => hFc q h) hFc (fun r2 u t H1 locs ht hvm hw hB hz1 hk1 hS => ?_)
  obtain ⟨hP, hD, hK⟩ := kJ (wr := [(mo, .inr (19, [.int 0, .int 0, .int 0, .int 0, .int 0, .int 0, .int tu, .ref ti, .ref si, .ref lo, .ref lh, .ref lk, .ref sp, .ref st, .ref pa, .ref br, .ref sg, .int mi, .int 0, .int 0, .int 0, .int fo, .int 0, .long pe, .long pn, .long re, .long rn, .int th])), (sp, .inl (csp, 9, .inl (fun _ => 0))), (br, .inl (cbr, 3, .inl (fun _ => 0)))]) (w1 := []) (t1 := []) hP hD hK [] [0, 1, 2] rfl rfl (by decide) (by decide) hk1 hFc ht hvm hB
  generalize H1 = H at hP hS ⊢
  have hP : va_P (dC, dI) vwCl [(mo, .inr (19, [.int 0, .int 0, .int 0, .int 0, .int 0, .int 0, .int tu, .ref ti, .ref si, .ref lo, .ref lh, .ref lk, .ref sp, .ref st, .ref pa, .ref br, .ref sg, .int mi, .int 0, .int 0, .int 0, .int fo, .int 0, .long pe, .long pn, .long re, .long rn, .int th])), (sp, .inl (csp, 9, .inl (fun _ => 0))), (br, .inl (cbr, 3, .inl (fun _ => 0)))] H := hP
  have hD : va_D A [(mo, .inr (19, [.int 0, .int 0, .int 0, .int 0, .int 0, .int 0, .int tu, .ref ti, .ref si, .ref lo, .ref lh, .ref lk, .ref sp, .ref st, .ref pa, .ref br, .ref sg, .int mi, .int 0, .int 0, .int 0, .int fo, .int 0, .long pe, .long pn, .long re, .long rn, .int th])), (sp, .inl (csp, 9, .inl (fun _ => 0))), (br, .inl (cbr, 3, .inl (fun _ => 0)))] := hD
  have hK : va_K (dC, dI) vwCl [(csp, .int), (cbr, .int)] s := hK
  obtain rfl : 0 = r2 := hw
  refine lv_iload_n hx hb dX15_strains_20 rfl (lv_at hl 3 rfl) ?_
  refine lv_icmp_ne (tgt := 35) hx hb dX15_strains_21 (by decide) (fun _ => ?_) (fun c_ => absurd c_ (by decide +kernel))
  refine lv_iconst (v := 0) hx hb dX15_strains_35 (by decide) ?_
  refine lv_iadd hx hb dX15_strains_36 ?_
  refine kc_i (y := 0) (by decide +kernel) ?_
  refine lv_istore_n (lv' := [(2, .int 0), (3, .int 1), (0, .ref mo), (1, .int 2)]) hx hb dX15_strains_37 rfl hl (by decide) rfl (fun ls hl => ?_)
  refine lv_iinc (v := 2) (lv' := [(3, .int 2), (2, .int 0), (0, .ref mo), (1, .int 2)]) hx hb dX15_strains_38 hl (k := 1) rfl (by decide +kernel) (by decide) rfl (fun ls hl => ?_)
  refine lv_goto (tgt := 4) hx hb dX15_strains_41 (by decide) ?_
  refine lv_iload_n hx hb dX15_strains_4 rfl (lv_at hl 0 rfl) ?_
  refine lv_bipush (v := 9) hx hb dX15_strains_5 (by decide) ?_
  refine lv_icmp_ge (tgt := 44) hx hb dX15_strains_7 (by decide) (fun c_ => absurd c_ (by decide +kernel)) (fun _ => ?_)
  refine lv_iload_n hx hb dX15_strains_10 rfl (lv_at hl 1 rfl) ?_
  refine lv_iload_n hx hb dX15_strains_11 rfl (lv_at hl 3 rfl) ?_
  refine lv_iconst (v := (-1)) hx hb dX15_strains_12 (by decide) ?_
  refine lv_icmp_eq (tgt := 24) hx hb dX15_strains_13 (by decide) (fun c_ => absurd c_ (by decide +kernel)) (fun _ => ?_)
  refine lv_iload_n hx hb dX15_strains_16 rfl (lv_at hl 0 rfl) ?_
  have hPc := hP.sub (ws' := []) [] rfl
  have hDc := hD.sub (ws' := []) [] (by decide) rfl
  have hKc := hK.sub (tys' := []) [] rfl
  have hFc := va_free (wc := []) hD hS hA [] rfl
  refine va_calli (va_runS (As := [.int 2]) (rest := [.int 0]) ⟨hx, hb, hml, hown, hts⟩ (k_mast_2 l dC dI z zK zV  H.size) (va_cwS 1 hts gX15_strains_X15_mast rfl rfl rfl (by decide +kernel) ⟨Nat.le_of_ble_eq_true rfl, Nat.le_of_ble_eq_true rfl⟩) ⟨kP_blind, kP_go hPc hKc hDc hFc hM hS⟩ rfl rfl hl.1 rfl (lv_room (Nat.le_of_ble_eq_true rfl)) dX15_strains_17 ⟨Nat.le_of_ble_eq_true rfl, Nat.le_of_ble_eq_true rfl⟩) hS (fun q _ h => hFc q h) hFc (fun r3 u t H1 locs ht hvm hw hB hz1 hk1 hS => ?_)
  obtain ⟨hP, hD, hK⟩ := kJ (wr := [(mo, .inr (19, [.int 0, .int 0, .int 0, .int 0, .int 0, .int 0, .int tu, .ref ti, .ref si, .ref lo, .ref lh, .ref lk, .ref sp, .ref st, .ref pa, .ref br, .ref sg, .int mi, .int 0, .int 0, .int 0, .int fo, .int 0, .long pe, .long pn, .long re, .long rn, .int th])), (sp, .inl (csp, 9, .inl (fun _ => 0))), (br, .inl (cbr, 3, .inl (fun _ => 0)))]) (w1 := []) (t1 := []) hP hD hK [] [0, 1, 2] rfl rfl (by decide) (by decide) hk1 hFc ht hvm hB
  generalize H1 = H at hP hS ⊢
  have hP : va_P (dC, dI) vwCl [(mo, .inr (19, [.int 0, .int 0, .int 0, .int 0, .int 0, .int 0, .int tu, .ref ti, .ref si, .ref lo, .ref lh, .ref lk, .ref sp, .ref st, .ref pa, .ref br, .ref sg, .int mi, .int 0, .int 0, .int 0, .int fo, .int 0, .long pe, .long pn, .long re, .long rn, .int th])), (sp, .inl (csp, 9, .inl (fun _ => 0))), (br, .inl (cbr, 3, .inl (fun _ => 0)))] H := hP
  have hD : va_D A [(mo, .inr (19, [.int 0, .int 0, .int 0, .int 0, .int 0, .int 0, .int tu, .ref ti, .ref si, .ref lo, .ref lh, .ref lk, .ref sp, .ref st, .ref pa, .ref br, .ref sg, .int mi, .int 0, .int 0, .int 0, .int fo, .int 0, .long pe, .long pn, .long re, .long rn, .int th])), (sp, .inl (csp, 9, .inl (fun _ => 0))), (br, .inl (cbr, 3, .inl (fun _ => 0)))] := hD
  have hK : va_K (dC, dI) vwCl [(csp, .int), (cbr, .int)] s := hK
  obtain rfl : 0 = r3 := hw
  refine lv_iload_n hx hb dX15_strains_20 rfl (lv_at hl 3 rfl) ?_
  refine lv_icmp_ne (tgt := 35) hx hb dX15_strains_21 (by decide) (fun _ => ?_) (fun c_ => absurd c_ (by decide +kernel))
  refine lv_iconst (v := 0) hx hb dX15_strains_35 (by decide) ?_
  refine lv_iadd hx hb dX15_strains_36 ?_
  refine kc_i (y := 0) (by decide +kernel) ?_
  refine lv_istore_n (lv' := [(2, .int 0), (3, .int 2), (0, .ref mo), (1, .int 2)]) hx hb dX15_strains_37 rfl hl (by decide) rfl (fun ls hl => ?_)
  refine lv_iinc (v := 3) (lv' := [(3, .int 3), (2, .int 0), (0, .ref mo), (1, .int 2)]) hx hb dX15_strains_38 hl (k := 1) rfl (by decide +kernel) (by decide) rfl (fun ls hl => ?_)
  refine lv_goto (tgt := 4) hx hb dX15_strains_41 (by decide) ?_
  refine lv_iload_n hx hb dX15_strains_4 rfl (lv_at hl 0 rfl) ?_
  refine lv_bipush (v := 9) hx hb dX15_strains_5 (by decide) ?_
  refine lv_icmp_ge (tgt := 44) hx hb dX15_strains_7 (by decide) (fun c_ => absurd c_ (by decide +kernel)) (fun _ => ?_)
  refine lv_iload_n hx hb dX15_strains_10 rfl (lv_at hl 1 rfl) ?_
  refine lv_iload_n hx hb dX15_strains_11 rfl (lv_at hl 3 rfl) ?_
  refine lv_iconst (v := (-1)) hx hb dX15_strains_12 (by decide) ?_
  refine lv_icmp_eq (tgt := 24) hx hb dX15_strains_13 (by decide) (fun c_ => absurd c_ (by decide +kernel)) (fun _ => ?_)
  refine lv_iload_n hx hb dX15_strains_16 rfl (lv_at hl 0 rfl) ?_
  have hPc := hP.sub (ws' := []) [] rfl
  have hDc := hD.sub (ws' := []) [] (by decide) rfl
  have hKc := hK.sub (tys' := []) [] rfl
  have hFc := va_free (wc := []) hD hS hA [] rfl
  refine va_calli (va_runS (As := [.int 3]) (rest := [.int 0]) ⟨hx, hb, hml, hown, hts⟩ (k_mast_3 l dC dI z zK zV  H.size) (va_cwS 1 hts gX15_strains_X15_mast rfl rfl rfl (by decide +kernel) ⟨Nat.le_of_ble_eq_true rfl, Nat.le_of_ble_eq_true rfl⟩) ⟨kP_blind, kP_go hPc hKc hDc hFc hM hS⟩ rfl rfl hl.1 rfl (lv_room (Nat.le_of_ble_eq_true rfl)) dX15_strains_17 ⟨Nat.le_of_ble_eq_true rfl, Nat.le_of_ble_eq_true rfl⟩) hS (fun q _ h => hFc q h) hFc (fun r4 u t H1 locs ht hvm hw hB hz1 hk1 hS => ?_)
  obtain ⟨hP, hD, hK⟩ := kJ (wr := [(mo, .inr (19, [.int 0, .int 0, .int 0, .int 0, .int 0, .int 0, .int tu, .ref ti, .ref si, .ref lo, .ref lh, .ref lk, .ref sp, .ref st, .ref pa, .ref br, .ref sg, .int mi, .int 0, .int 0, .int 0, .int fo, .int 0, .long pe, .long pn, .long re, .long rn, .int th])), (sp, .inl (csp, 9, .inl (fun _ => 0))), (br, .inl (cbr, 3, .inl (fun _ => 0)))]) (w1 := []) (t1 := []) hP hD hK [] [0, 1, 2] rfl rfl (by decide) (by decide) hk1 hFc ht hvm hB
  generalize H1 = H at hP hS ⊢
  have hP : va_P (dC, dI) vwCl [(mo, .inr (19, [.int 0, .int 0, .int 0, .int 0, .int 0, .int 0, .int tu, .ref ti, .ref si, .ref lo, .ref lh, .ref lk, .ref sp, .ref st, .ref pa, .ref br, .ref sg, .int mi, .int 0, .int 0, .int 0, .int fo, .int 0, .long pe, .long pn, .long re, .long rn, .int th])), (sp, .inl (csp, 9, .inl (fun _ => 0))), (br, .inl (cbr, 3, .inl (fun _ => 0)))] H := hP
  have hD : va_D A [(mo, .inr (19, [.int 0, .int 0, .int 0, .int 0, .int 0, .int 0, .int tu, .ref ti, .ref si, .ref lo, .ref lh, .ref lk, .ref sp, .ref st, .ref pa, .ref br, .ref sg, .int mi, .int 0, .int 0, .int 0, .int fo, .int 0, .long pe, .long pn, .long re, .long rn, .int th])), (sp, .inl (csp, 9, .inl (fun _ => 0))), (br, .inl (cbr, 3, .inl (fun _ => 0)))] := hD
  have hK : va_K (dC, dI) vwCl [(csp, .int), (cbr, .int)] s := hK
  obtain rfl : 1 = r4 := hw
  refine lv_iload_n hx hb dX15_strains_20 rfl (lv_at hl 3 rfl) ?_
  refine lv_icmp_ne (tgt := 35) hx hb dX15_strains_21 (by decide) (fun _ => ?_) (fun c_ => absurd c_ (by decide +kernel))
  refine lv_iconst (v := 0) hx hb dX15_strains_35 (by decide) ?_
  refine lv_iadd hx hb dX15_strains_36 ?_
  refine kc_i (y := 0) (by decide +kernel) ?_
  refine lv_istore_n (lv' := [(2, .int 0), (3, .int 3), (0, .ref mo), (1, .int 2)]) hx hb dX15_strains_37 rfl hl (by decide) rfl (fun ls hl => ?_)
  refine lv_iinc (v := 4) (lv' := [(3, .int 4), (2, .int 0), (0, .ref mo), (1, .int 2)]) hx hb dX15_strains_38 hl (k := 1) rfl (by decide +kernel) (by decide) rfl (fun ls hl => ?_)
  refine lv_goto (tgt := 4) hx hb dX15_strains_41 (by decide) ?_
  refine lv_iload_n hx hb dX15_strains_4 rfl (lv_at hl 0 rfl) ?_
  refine lv_bipush (v := 9) hx hb dX15_strains_5 (by decide) ?_
  refine lv_icmp_ge (tgt := 44) hx hb dX15_strains_7 (by decide) (fun c_ => absurd c_ (by decide +kernel)) (fun _ => ?_)
  refine lv_iload_n hx hb dX15_strains_10 rfl (lv_at hl 1 rfl) ?_
  refine lv_iload_n hx hb dX15_strains_11 rfl (lv_at hl 3 rfl) ?_
  refine lv_iconst (v := (-1)) hx hb dX15_strains_12 (by decide) ?_
  refine lv_icmp_eq (tgt := 24) hx hb dX15_strains_13 (by decide) (fun c_ => absurd c_ (by decide +kernel)) (fun _ => ?_)
  refine lv_iload_n hx hb dX15_strains_16 rfl (lv_at hl 0 rfl) ?_
  have hPc := hP.sub (ws' := []) [] rfl
  have hDc := hD.sub (ws' := []) [] (by decide) rfl
  have hKc := hK.sub (tys' := []) [] rfl
  have hFc := va_free (wc := []) hD hS hA [] rfl
  refine va_calli (va_runS (As := [.int 4]) (rest := [.int 0]) ⟨hx, hb, hml, hown, hts⟩ (k_mast_4 l dC dI z zK zV  H.size) (va_cwS 1 hts gX15_strains_X15_mast rfl rfl rfl (by decide +kernel) ⟨Nat.le_of_ble_eq_true rfl, Nat.le_of_ble_eq_true rfl⟩) ⟨kP_blind, kP_go hPc hKc hDc hFc hM hS⟩ rfl rfl hl.1 rfl (lv_room (Nat.le_of_ble_eq_true rfl)) dX15_strains_17 ⟨Nat.le_of_ble_eq_true rfl, Nat.le_of_ble_eq_true rfl⟩) hS (fun q _ h => hFc q h) hFc (fun r5 u t H1 locs ht hvm hw hB hz1 hk1 hS => ?_)
  obtain ⟨hP, hD, hK⟩ := kJ (wr := [(mo, .inr (19, [.int 0, .int 0, .int 0, .int 0, .int 0, .int 0, .int tu, .ref ti, .ref si, .ref lo, .ref lh, .ref lk, .ref sp, .ref st, .ref pa, .ref br, .ref sg, .int mi, .int 0, .int 0, .int 0, .int fo, .int 0, .long pe, .long pn, .long re, .long rn, .int th])), (sp, .inl (csp, 9, .inl (fun _ => 0))), (br, .inl (cbr, 3, .inl (fun _ => 0)))]) (w1 := []) (t1 := []) hP hD hK [] [0, 1, 2] rfl rfl (by decide) (by decide) hk1 hFc ht hvm hB
  generalize H1 = H at hP hS ⊢
  have hP : va_P (dC, dI) vwCl [(mo, .inr (19, [.int 0, .int 0, .int 0, .int 0, .int 0, .int 0, .int tu, .ref ti, .ref si, .ref lo, .ref lh, .ref lk, .ref sp, .ref st, .ref pa, .ref br, .ref sg, .int mi, .int 0, .int 0, .int 0, .int fo, .int 0, .long pe, .long pn, .long re, .long rn, .int th])), (sp, .inl (csp, 9, .inl (fun _ => 0))), (br, .inl (cbr, 3, .inl (fun _ => 0)))] H := hP
  have hD : va_D A [(mo, .inr (19, [.int 0, .int 0, .int 0, .int 0, .int 0, .int 0, .int tu, .ref ti, .ref si, .ref lo, .ref lh, .ref lk, .ref sp, .ref st, .ref pa, .ref br, .ref sg, .int mi, .int 0, .int 0, .int 0, .int fo, .int 0, .long pe, .long pn, .long re, .long rn, .int th])), (sp, .inl (csp, 9, .inl (fun _ => 0))), (br, .inl (cbr, 3, .inl (fun _ => 0)))] := hD
  have hK : va_K (dC, dI) vwCl [(csp, .int), (cbr, .int)] s := hK
  obtain rfl : 1 = r5 := hw
  refine lv_iload_n hx hb dX15_strains_20 rfl (lv_at hl 3 rfl) ?_
  refine lv_icmp_ne (tgt := 35) hx hb dX15_strains_21 (by decide) (fun _ => ?_) (fun c_ => absurd c_ (by decide +kernel))
  refine lv_iconst (v := 0) hx hb dX15_strains_35 (by decide) ?_
  refine lv_iadd hx hb dX15_strains_36 ?_
  refine kc_i (y := 0) (by decide +kernel) ?_
  refine lv_istore_n (lv' := [(2, .int 0), (3, .int 4), (0, .ref mo), (1, .int 2)]) hx hb dX15_strains_37 rfl hl (by decide) rfl (fun ls hl => ?_)
  refine lv_iinc (v := 5) (lv' := [(3, .int 5), (2, .int 0), (0, .ref mo), (1, .int 2)]) hx hb dX15_strains_38 hl (k := 1) rfl (by decide +kernel) (by decide) rfl (fun ls hl => ?_)
  refine lv_goto (tgt := 4) hx hb dX15_strains_41 (by decide) ?_
  refine lv_iload_n hx hb dX15_strains_4 rfl (lv_at hl 0 rfl) ?_
  refine lv_bipush (v := 9) hx hb dX15_strains_5 (by decide) ?_
  refine lv_icmp_ge (tgt := 44) hx hb dX15_strains_7 (by decide) (fun c_ => absurd c_ (by decide +kernel)) (fun _ => ?_)
  refine lv_iload_n hx hb dX15_strains_10 rfl (lv_at hl 1 rfl) ?_
  refine lv_iload_n hx hb dX15_strains_11 rfl (lv_at hl 3 rfl) ?_
  refine lv_iconst (v := (-1)) hx hb dX15_strains_12 (by decide) ?_
  refine lv_icmp_eq (tgt := 24) hx hb dX15_strains_13 (by decide) (fun c_ => absurd c_ (by decide +kernel)) (fun _ => ?_)
  refine lv_iload_n hx hb dX15_strains_16 rfl (lv_at hl 0 rfl) ?_
  have hPc := hP.sub (ws' := []) [] rfl
  have hDc := hD.sub (ws' := []) [] (by decide) rfl
  have hKc := hK.sub (tys' := []) [] rfl
  have hFc := va_free (wc := []) hD hS hA [] rfl
  refine va_calli (va_runS (As := [.int 5]) (rest := [.int 0]) ⟨hx, hb, hml, hown, hts⟩ (k_mast_5 l dC dI z zK zV  H.size) (va_cwS 1 hts gX15_strains_X15_mast rfl rfl rfl (by decide +kernel) ⟨Nat.le_of_ble_eq_true rfl, Nat.le_of_ble_eq_true rfl⟩) ⟨kP_blind, kP_go hPc hKc hDc hFc hM hS⟩ rfl rfl hl.1 rfl (lv_room (Nat.le_of_ble_eq_true rfl)) dX15_strains_17 ⟨Nat.le_of_ble_eq_true rfl, Nat.le_of_ble_eq_true rfl⟩) hS (fun q _ h => hFc q h) hFc (fun r6 u t H1 locs ht hvm hw hB hz1 hk1 hS => ?_)
  obtain ⟨hP, hD, hK⟩ := kJ (wr := [(mo, .inr (19, [.int 0, .int 0, .int 0, .int 0, .int 0, .int 0, .int tu, .ref ti, .ref si, .ref lo, .ref lh, .ref lk, .ref sp, .ref st, .ref pa, .ref br, .ref sg, .int mi, .int 0, .int 0, .int 0, .int fo, .int 0, .long pe, .long pn, .long re, .long rn, .int th])), (sp, .inl (csp, 9, .inl (fun _ => 0))), (br, .inl (cbr, 3, .inl (fun _ => 0)))]) (w1 := []) (t1 := []) hP hD hK [] [0, 1, 2] rfl rfl (by decide) (by decide) hk1 hFc ht hvm hB
  generalize H1 = H at hP hS ⊢
  have hP : va_P (dC, dI) vwCl [(mo, .inr (19, [.int 0, .int 0, .int 0, .int 0, .int 0, .int 0, .int tu, .ref ti, .ref si, .ref lo, .ref lh, .ref lk, .ref sp, .ref st, .ref pa, .ref br, .ref sg, .int mi, .int 0, .int 0, .int 0, .int fo, .int 0, .long pe, .long pn, .long re, .long rn, .int th])), (sp, .inl (csp, 9, .inl (fun _ => 0))), (br, .inl (cbr, 3, .inl (fun _ => 0)))] H := hP
  have hD : va_D A [(mo, .inr (19, [.int 0, .int 0, .int 0, .int 0, .int 0, .int 0, .int tu, .ref ti, .ref si, .ref lo, .ref lh, .ref lk, .ref sp, .ref st, .ref pa, .ref br, .ref sg, .int mi, .int 0, .int 0, .int 0, .int fo, .int 0, .long pe, .long pn, .long re, .long rn, .int th])), (sp, .inl (csp, 9, .inl (fun _ => 0))), (br, .inl (cbr, 3, .inl (fun _ => 0)))] := hD
  have hK : va_K (dC, dI) vwCl [(csp, .int), (cbr, .int)] s := hK
  obtain rfl : 1 = r6 := hw
  refine lv_iload_n hx hb dX15_strains_20 rfl (lv_at hl 3 rfl) ?_
  refine lv_icmp_ne (tgt := 35) hx hb dX15_strains_21 (by decide) (fun _ => ?_) (fun c_ => absurd c_ (by decide +kernel))
  refine lv_iconst (v := 0) hx hb dX15_strains_35 (by decide) ?_
  refine lv_iadd hx hb dX15_strains_36 ?_
  refine kc_i (y := 0) (by decide +kernel) ?_
  refine lv_istore_n (lv' := [(2, .int 0), (3, .int 5), (0, .ref mo), (1, .int 2)]) hx hb dX15_strains_37 rfl hl (by decide) rfl (fun ls hl => ?_)
  refine lv_iinc (v := 6) (lv' := [(3, .int 6), (2, .int 0), (0, .ref mo), (1, .int 2)]) hx hb dX15_strains_38 hl (k := 1) rfl (by decide +kernel) (by decide) rfl (fun ls hl => ?_)
  refine lv_goto (tgt := 4) hx hb dX15_strains_41 (by decide) ?_
  refine lv_iload_n hx hb dX15_strains_4 rfl (lv_at hl 0 rfl) ?_
  refine lv_bipush (v := 9) hx hb dX15_strains_5 (by decide) ?_
  refine lv_icmp_ge (tgt := 44) hx hb dX15_strains_7 (by decide) (fun c_ => absurd c_ (by decide +kernel)) (fun _ => ?_)
  refine lv_iload_n hx hb dX15_strains_10 rfl (lv_at hl 1 rfl) ?_
  refine lv_iload_n hx hb dX15_strains_11 rfl (lv_at hl 3 rfl) ?_
  refine lv_iconst (v := (-1)) hx hb dX15_strains_12 (by decide) ?_
  refine lv_icmp_eq (tgt := 24) hx hb dX15_strains_13 (by decide) (fun c_ => absurd c_ (by decide +kernel)) (fun _ => ?_)
  refine lv_iload_n hx hb dX15_strains_16 rfl (lv_at hl 0 rfl) ?_
  have hPc := hP.sub (ws' := []) [] rfl
  have hDc := hD.sub (ws' := []) [] (by decide) rfl
  have hKc := hK.sub (tys' := []) [] rfl
  have hFc := va_free (wc := []) hD hS hA [] rfl
  refine va_calli (va_runS (As := [.int 6]) (rest := [.int 0]) ⟨hx, hb, hml, hown, hts⟩ (k_mast_6 l dC dI z zK zV  H.size) (va_cwS 1 hts gX15_strains_X15_mast rfl rfl rfl (by decide +kernel) ⟨Nat.le_of_ble_eq_true rfl, Nat.le_of_ble_eq_true rfl⟩) ⟨kP_blind, kP_go hPc hKc hDc hFc hM hS⟩ rfl rfl hl.1 rfl (lv_room (Nat.le_of_ble_eq_true rfl)) dX15_strains_17 ⟨Nat.le_of_ble_eq_true rfl, Nat.le_of_ble_eq_true rfl⟩) hS (fun q _ h => hFc q h) hFc (fun r7 u t H1 locs ht hvm hw hB hz1 hk1 hS => ?_)
  obtain ⟨hP, hD, hK⟩ := kJ (wr := [(mo, .inr (19, [.int 0, .int 0, .int 0, .int 0, .int 0, .int 0, .int tu, .ref ti, .ref si, .ref lo, .ref lh, .ref lk, .ref sp, .ref st, .ref pa, .ref br, .ref sg, .int mi, .int 0, .int 0, .int 0, .int fo, .int 0, .long pe, .long pn, .long re, .long rn, .int th])), (sp, .inl (csp, 9, .inl (fun _ => 0))), (br, .inl (cbr, 3, .inl (fun _ => 0)))]) (w1 := []) (t1 := []) hP hD hK [] [0, 1, 2] rfl rfl (by decide) (by decide) hk1 hFc ht hvm hB
  generalize H1 = H at hP hS ⊢
  have hP : va_P (dC, dI) vwCl [(mo, .inr (19, [.int 0, .int 0, .int 0, .int 0, .int 0, .int 0, .int tu, .ref ti, .ref si, .ref lo, .ref lh, .ref lk, .ref sp, .ref st, .ref pa, .ref br, .ref sg, .int mi, .int 0, .int 0, .int 0, .int fo, .int 0, .long pe, .long pn, .long re, .long rn, .int th])), (sp, .inl (csp, 9, .inl (fun _ => 0))), (br, .inl (cbr, 3, .inl (fun _ => 0)))] H := hP
  have hD : va_D A [(mo, .inr (19, [.int 0, .int 0, .int 0, .int 0, .int 0, .int 0, .int tu, .ref ti, .ref si, .ref lo, .ref lh, .ref lk, .ref sp, .ref st, .ref pa, .ref br, .ref sg, .int mi, .int 0, .int 0, .int 0, .int fo, .int 0, .long pe, .long pn, .long re, .long rn, .int th])), (sp, .inl (csp, 9, .inl (fun _ => 0))), (br, .inl (cbr, 3, .inl (fun _ => 0)))] := hD
  have hK : va_K (dC, dI) vwCl [(csp, .int), (cbr, .int)] s := hK
  obtain rfl : 2 = r7 := hw
  refine lv_iload_n hx hb dX15_strains_20 rfl (lv_at hl 3 rfl) ?_
  refine lv_icmp_ne (tgt := 35) hx hb dX15_strains_21 (by decide) (fun c_ => absurd (by decide +kernel) c_) (fun _ => ?_)
  refine lv_aload_n hx hb dX15_strains_24 rfl (lv_at hl 2 rfl) ?_
  refine lv_iload_n hx hb dX15_strains_25 rfl (lv_at hl 0 rfl) ?_
  have hPc := hP.sub (ws' := [(mo, .inr (19, [.int 0, .int 0, .int 0, .int 0, .int 0, .int 0, .int tu, .ref ti, .ref si, .ref lo, .ref lh, .ref lk, .ref sp, .ref st, .ref pa, .ref br, .ref sg, .int mi, .int 0, .int 0, .int 0, .int fo, .int 0, .long pe, .long pn, .long re, .long rn, .int th])), (sp, .inl (csp, 9, .inl (fun _ => 0))), (br, .inl (cbr, 3, .inl (fun _ => 0)))]) [0, 1, 2] rfl
  have hDc := hD.sub (ws' := [(mo, .inr (19, [.int 0, .int 0, .int 0, .int 0, .int 0, .int 0, .int tu, .ref ti, .ref si, .ref lo, .ref lh, .ref lk, .ref sp, .ref st, .ref pa, .ref br, .ref sg, .int mi, .int 0, .int 0, .int 0, .int fo, .int 0, .long pe, .long pn, .long re, .long rn, .int th])), (sp, .inl (csp, 9, .inl (fun _ => 0))), (br, .inl (cbr, 3, .inl (fun _ => 0)))]) [0, 1, 2] (by decide) rfl
  have hKc := hK.sub (tys' := [(csp, .int), (cbr, .int)]) [0, 1] rfl
  have hFc := va_free (wc := [(mo, .inr (19, [.int 0, .int 0, .int 0, .int 0, .int 0, .int 0, .int tu, .ref ti, .ref si, .ref lo, .ref lh, .ref lk, .ref sp, .ref st, .ref pa, .ref br, .ref sg, .int mi, .int 0, .int 0, .int 0, .int fo, .int 0, .long pe, .long pn, .long re, .long rn, .int th])), (sp, .inl (csp, 9, .inl (fun _ => 0))), (br, .inl (cbr, 3, .inl (fun _ => 0)))]) hD hS hA [0, 1, 2] rfl
  refine va_calli (va_runV (As := [.int 6]) (rest := [.int 0]) ⟨hx, hb, hml, hown, hts⟩ (k_forceOf_6 l dC dI z zK zV mi fo pe pn re rn mo ti si lo lh lk sp st pa br sg csp cbr th tu H.size) (cwV 1 hts gX15_strains_X15_forceOf rfl rfl rfl (by decide +kernel) ⟨Nat.le_of_ble_eq_true rfl, Nat.le_of_ble_eq_true rfl⟩) ⟨kP_blind, va_recv hKc hPc (ci := 19) (q0 := 0) rfl rfl, kP_go hPc hKc hDc hFc hM hS⟩ rfl rfl hl.1 rfl (lv_room (Nat.le_of_ble_eq_true rfl)) dX15_strains_26 ⟨Nat.le_of_ble_eq_true rfl, Nat.le_of_ble_eq_true rfl⟩) hS (fun q _ h => hFc q h) hFc (fun r8 u t H1 locs ht hvm hw hB hz1 hk1 hS => ?_)
  obtain ⟨hP, hD, hK⟩ := kJ (wr := []) (w1 := [(sp, .inl (csp, 9, .inl (fun _ => 0))), (br, .inl (cbr, 3, .inl (fun _ => 0))), (mo, .inr (19, [.int 0, .int 0, .int 0, .int 0, .int 0, .int 0, .int tu, .ref ti, .ref si, .ref lo, .ref lh, .ref lk, .ref sp, .ref st, .ref pa, .ref br, .ref sg, .int mi, .int 0, .int 0, .int 0, .int fo, .int 0, .long pe, .long pn, .long re, .long rn, .int th]))]) (t1 := []) hP hD hK [0, 1, 2] [] rfl rfl (by decide) (by decide) hk1 hFc ht hvm hB
  generalize H1 = H at hP hS ⊢
  have hP : va_P (dC, dI) vwCl [(sp, .inl (csp, 9, .inl (fun _ => 0))), (br, .inl (cbr, 3, .inl (fun _ => 0))), (mo, .inr (19, [.int 0, .int 0, .int 0, .int 0, .int 0, .int 0, .int tu, .ref ti, .ref si, .ref lo, .ref lh, .ref lk, .ref sp, .ref st, .ref pa, .ref br, .ref sg, .int mi, .int 0, .int 0, .int 0, .int fo, .int 0, .long pe, .long pn, .long re, .long rn, .int th]))] H := hP
  have hD : va_D A [(sp, .inl (csp, 9, .inl (fun _ => 0))), (br, .inl (cbr, 3, .inl (fun _ => 0))), (mo, .inr (19, [.int 0, .int 0, .int 0, .int 0, .int 0, .int 0, .int tu, .ref ti, .ref si, .ref lo, .ref lh, .ref lk, .ref sp, .ref st, .ref pa, .ref br, .ref sg, .int mi, .int 0, .int 0, .int 0, .int fo, .int 0, .long pe, .long pn, .long re, .long rn, .int th]))] := hD
  have hK : va_K (dC, dI) vwCl [(csp, .int), (cbr, .int)] s := hK
  obtain rfl : 0 = r8 := hw
  refine va_mabs hx hb (hml.trans hl.1.symm) hown (hts (.methodLink RX15 99 Lib.Math.abs.name) (by decide +kernel)) (hts (.static Lib.Math.abs.name) (by decide +kernel)) (hts (.initialized "java/lang/Math") (by decide +kernel)) (hts (.code Lib.Math.abs.name Lib.Math.abs.code 1 (some .int)) (by decide +kernel)) (Nat.le_of_ble_eq_true rfl) (Nat.le_of_ble_eq_true rfl) (Nat.le_of_ble_eq_true rfl) (Nat.le_of_ble_eq_true rfl) dX15_strains_29 ?_
  refine kc_i (y := 0) (by decide +kernel) ?_
  refine lv_goto (tgt := 36) hx hb dX15_strains_32 (by decide) ?_
  refine lv_iadd hx hb dX15_strains_36 ?_
  refine kc_i (y := 0) (by decide +kernel) ?_
  refine lv_istore_n (lv' := [(2, .int 0), (3, .int 6), (0, .ref mo), (1, .int 2)]) hx hb dX15_strains_37 rfl hl (by decide) rfl (fun ls hl => ?_)
  refine lv_iinc (v := 7) (lv' := [(3, .int 7), (2, .int 0), (0, .ref mo), (1, .int 2)]) hx hb dX15_strains_38 hl (k := 1) rfl (by decide +kernel) (by decide) rfl (fun ls hl => ?_)
  refine lv_goto (tgt := 4) hx hb dX15_strains_41 (by decide) ?_
  refine lv_iload_n hx hb dX15_strains_4 rfl (lv_at hl 0 rfl) ?_
  refine lv_bipush (v := 9) hx hb dX15_strains_5 (by decide) ?_
  refine lv_icmp_ge (tgt := 44) hx hb dX15_strains_7 (by decide) (fun c_ => absurd c_ (by decide +kernel)) (fun _ => ?_)
  refine lv_iload_n hx hb dX15_strains_10 rfl (lv_at hl 1 rfl) ?_
  refine lv_iload_n hx hb dX15_strains_11 rfl (lv_at hl 3 rfl) ?_
  refine lv_iconst (v := (-1)) hx hb dX15_strains_12 (by decide) ?_
  refine lv_icmp_eq (tgt := 24) hx hb dX15_strains_13 (by decide) (fun c_ => absurd c_ (by decide +kernel)) (fun _ => ?_)
  refine lv_iload_n hx hb dX15_strains_16 rfl (lv_at hl 0 rfl) ?_
  have hPc := hP.sub (ws' := []) [] rfl
  have hDc := hD.sub (ws' := []) [] (by decide) rfl
  have hKc := hK.sub (tys' := []) [] rfl
  have hFc := va_free (wc := []) hD hS hA [] rfl
  refine va_calli (va_runS (As := [.int 7]) (rest := [.int 0]) ⟨hx, hb, hml, hown, hts⟩ (k_mast_7 l dC dI z zK zV  H.size) (va_cwS 1 hts gX15_strains_X15_mast rfl rfl rfl (by decide +kernel) ⟨Nat.le_of_ble_eq_true rfl, Nat.le_of_ble_eq_true rfl⟩) ⟨kP_blind, kP_go hPc hKc hDc hFc hM hS⟩ rfl rfl hl.1 rfl (lv_room (Nat.le_of_ble_eq_true rfl)) dX15_strains_17 ⟨Nat.le_of_ble_eq_true rfl, Nat.le_of_ble_eq_true rfl⟩) hS (fun q _ h => hFc q h) hFc (fun r9 u t H1 locs ht hvm hw hB hz1 hk1 hS => ?_)
  obtain ⟨hP, hD, hK⟩ := kJ (wr := [(sp, .inl (csp, 9, .inl (fun _ => 0))), (br, .inl (cbr, 3, .inl (fun _ => 0))), (mo, .inr (19, [.int 0, .int 0, .int 0, .int 0, .int 0, .int 0, .int tu, .ref ti, .ref si, .ref lo, .ref lh, .ref lk, .ref sp, .ref st, .ref pa, .ref br, .ref sg, .int mi, .int 0, .int 0, .int 0, .int fo, .int 0, .long pe, .long pn, .long re, .long rn, .int th]))]) (w1 := []) (t1 := []) hP hD hK [] [0, 1, 2] rfl rfl (by decide) (by decide) hk1 hFc ht hvm hB
  generalize H1 = H at hP hS ⊢
  have hP : va_P (dC, dI) vwCl [(sp, .inl (csp, 9, .inl (fun _ => 0))), (br, .inl (cbr, 3, .inl (fun _ => 0))), (mo, .inr (19, [.int 0, .int 0, .int 0, .int 0, .int 0, .int 0, .int tu, .ref ti, .ref si, .ref lo, .ref lh, .ref lk, .ref sp, .ref st, .ref pa, .ref br, .ref sg, .int mi, .int 0, .int 0, .int 0, .int fo, .int 0, .long pe, .long pn, .long re, .long rn, .int th]))] H := hP
  have hD : va_D A [(sp, .inl (csp, 9, .inl (fun _ => 0))), (br, .inl (cbr, 3, .inl (fun _ => 0))), (mo, .inr (19, [.int 0, .int 0, .int 0, .int 0, .int 0, .int 0, .int tu, .ref ti, .ref si, .ref lo, .ref lh, .ref lk, .ref sp, .ref st, .ref pa, .ref br, .ref sg, .int mi, .int 0, .int 0, .int 0, .int fo, .int 0, .long pe, .long pn, .long re, .long rn, .int th]))] := hD
  have hK : va_K (dC, dI) vwCl [(csp, .int), (cbr, .int)] s := hK
  obtain rfl : 0 = r9 := hw
  refine lv_iload_n hx hb dX15_strains_20 rfl (lv_at hl 3 rfl) ?_
  refine lv_icmp_ne (tgt := 35) hx hb dX15_strains_21 (by decide) (fun _ => ?_) (fun c_ => absurd c_ (by decide +kernel))
  refine lv_iconst (v := 0) hx hb dX15_strains_35 (by decide) ?_
  refine lv_iadd hx hb dX15_strains_36 ?_
  refine kc_i (y := 0) (by decide +kernel) ?_
  refine lv_istore_n (lv' := [(2, .int 0), (3, .int 7), (0, .ref mo), (1, .int 2)]) hx hb dX15_strains_37 rfl hl (by decide) rfl (fun ls hl => ?_)
  refine lv_iinc (v := 8) (lv' := [(3, .int 8), (2, .int 0), (0, .ref mo), (1, .int 2)]) hx hb dX15_strains_38 hl (k := 1) rfl (by decide +kernel) (by decide) rfl (fun ls hl => ?_)
  refine lv_goto (tgt := 4) hx hb dX15_strains_41 (by decide) ?_
  refine lv_iload_n hx hb dX15_strains_4 rfl (lv_at hl 0 rfl) ?_
  refine lv_bipush (v := 9) hx hb dX15_strains_5 (by decide) ?_
  refine lv_icmp_ge (tgt := 44) hx hb dX15_strains_7 (by decide) (fun c_ => absurd c_ (by decide +kernel)) (fun _ => ?_)
  refine lv_iload_n hx hb dX15_strains_10 rfl (lv_at hl 1 rfl) ?_
  refine lv_iload_n hx hb dX15_strains_11 rfl (lv_at hl 3 rfl) ?_
  refine lv_iconst (v := (-1)) hx hb dX15_strains_12 (by decide) ?_
  refine lv_icmp_eq (tgt := 24) hx hb dX15_strains_13 (by decide) (fun c_ => absurd c_ (by decide +kernel)) (fun _ => ?_)
  refine lv_iload_n hx hb dX15_strains_16 rfl (lv_at hl 0 rfl) ?_
  have hPc := hP.sub (ws' := []) [] rfl
  have hDc := hD.sub (ws' := []) [] (by decide) rfl
  have hKc := hK.sub (tys' := []) [] rfl
  have hFc := va_free (wc := []) hD hS hA [] rfl
  refine va_calli (va_runS (As := [.int 8]) (rest := [.int 0]) ⟨hx, hb, hml, hown, hts⟩ (k_mast_8 l dC dI z zK zV  H.size) (va_cwS 1 hts gX15_strains_X15_mast rfl rfl rfl (by decide +kernel) ⟨Nat.le_of_ble_eq_true rfl, Nat.le_of_ble_eq_true rfl⟩) ⟨kP_blind, kP_go hPc hKc hDc hFc hM hS⟩ rfl rfl hl.1 rfl (lv_room (Nat.le_of_ble_eq_true rfl)) dX15_strains_17 ⟨Nat.le_of_ble_eq_true rfl, Nat.le_of_ble_eq_true rfl⟩) hS (fun q _ h => hFc q h) hFc (fun r10 u t H1 locs ht hvm hw hB hz1 hk1 hS => ?_)
  obtain ⟨hP, hD, hK⟩ := kJ (wr := [(sp, .inl (csp, 9, .inl (fun _ => 0))), (br, .inl (cbr, 3, .inl (fun _ => 0))), (mo, .inr (19, [.int 0, .int 0, .int 0, .int 0, .int 0, .int 0, .int tu, .ref ti, .ref si, .ref lo, .ref lh, .ref lk, .ref sp, .ref st, .ref pa, .ref br, .ref sg, .int mi, .int 0, .int 0, .int 0, .int fo, .int 0, .long pe, .long pn, .long re, .long rn, .int th]))]) (w1 := []) (t1 := []) hP hD hK [] [0, 1, 2] rfl rfl (by decide) (by decide) hk1 hFc ht hvm hB
  generalize H1 = H at hP hS ⊢
  have hP : va_P (dC, dI) vwCl [(sp, .inl (csp, 9, .inl (fun _ => 0))), (br, .inl (cbr, 3, .inl (fun _ => 0))), (mo, .inr (19, [.int 0, .int 0, .int 0, .int 0, .int 0, .int 0, .int tu, .ref ti, .ref si, .ref lo, .ref lh, .ref lk, .ref sp, .ref st, .ref pa, .ref br, .ref sg, .int mi, .int 0, .int 0, .int 0, .int fo, .int 0, .long pe, .long pn, .long re, .long rn, .int th]))] H := hP
  have hD : va_D A [(sp, .inl (csp, 9, .inl (fun _ => 0))), (br, .inl (cbr, 3, .inl (fun _ => 0))), (mo, .inr (19, [.int 0, .int 0, .int 0, .int 0, .int 0, .int 0, .int tu, .ref ti, .ref si, .ref lo, .ref lh, .ref lk, .ref sp, .ref st, .ref pa, .ref br, .ref sg, .int mi, .int 0, .int 0, .int 0, .int fo, .int 0, .long pe, .long pn, .long re, .long rn, .int th]))] := hD
  have hK : va_K (dC, dI) vwCl [(csp, .int), (cbr, .int)] s := hK
  obtain rfl : 2 = r10 := hw
  refine lv_iload_n hx hb dX15_strains_20 rfl (lv_at hl 3 rfl) ?_
  refine lv_icmp_ne (tgt := 35) hx hb dX15_strains_21 (by decide) (fun c_ => absurd (by decide +kernel) c_) (fun _ => ?_)
  refine lv_aload_n hx hb dX15_strains_24 rfl (lv_at hl 2 rfl) ?_
  refine lv_iload_n hx hb dX15_strains_25 rfl (lv_at hl 0 rfl) ?_
  have hPc := hP.sub (ws' := [(mo, .inr (19, [.int 0, .int 0, .int 0, .int 0, .int 0, .int 0, .int tu, .ref ti, .ref si, .ref lo, .ref lh, .ref lk, .ref sp, .ref st, .ref pa, .ref br, .ref sg, .int mi, .int 0, .int 0, .int 0, .int fo, .int 0, .long pe, .long pn, .long re, .long rn, .int th])), (sp, .inl (csp, 9, .inl (fun _ => 0))), (br, .inl (cbr, 3, .inl (fun _ => 0)))]) [2, 0, 1] rfl
  have hDc := hD.sub (ws' := [(mo, .inr (19, [.int 0, .int 0, .int 0, .int 0, .int 0, .int 0, .int tu, .ref ti, .ref si, .ref lo, .ref lh, .ref lk, .ref sp, .ref st, .ref pa, .ref br, .ref sg, .int mi, .int 0, .int 0, .int 0, .int fo, .int 0, .long pe, .long pn, .long re, .long rn, .int th])), (sp, .inl (csp, 9, .inl (fun _ => 0))), (br, .inl (cbr, 3, .inl (fun _ => 0)))]) [2, 0, 1] (by decide) rfl
  have hKc := hK.sub (tys' := [(csp, .int), (cbr, .int)]) [0, 1] rfl
  have hFc := va_free (wc := [(mo, .inr (19, [.int 0, .int 0, .int 0, .int 0, .int 0, .int 0, .int tu, .ref ti, .ref si, .ref lo, .ref lh, .ref lk, .ref sp, .ref st, .ref pa, .ref br, .ref sg, .int mi, .int 0, .int 0, .int 0, .int fo, .int 0, .long pe, .long pn, .long re, .long rn, .int th])), (sp, .inl (csp, 9, .inl (fun _ => 0))), (br, .inl (cbr, 3, .inl (fun _ => 0)))]) hD hS hA [2, 0, 1] rfl
  refine va_calli (va_runV (As := [.int 8]) (rest := [.int 0]) ⟨hx, hb, hml, hown, hts⟩ (k_forceOf_8 l dC dI z zK zV mi fo pe pn re rn mo ti si lo lh lk sp st pa br sg csp cbr th tu H.size) (cwV 1 hts gX15_strains_X15_forceOf rfl rfl rfl (by decide +kernel) ⟨Nat.le_of_ble_eq_true rfl, Nat.le_of_ble_eq_true rfl⟩) ⟨kP_blind, va_recv hKc hPc (ci := 19) (q0 := 0) rfl rfl, kP_go hPc hKc hDc hFc hM hS⟩ rfl rfl hl.1 rfl (lv_room (Nat.le_of_ble_eq_true rfl)) dX15_strains_26 ⟨Nat.le_of_ble_eq_true rfl, Nat.le_of_ble_eq_true rfl⟩) hS (fun q _ h => hFc q h) hFc (fun r11 u t H1 locs ht hvm hw hB hz1 hk1 hS => ?_)
  obtain ⟨hP, hD, hK⟩ := kJ (wr := []) (w1 := [(sp, .inl (csp, 9, .inl (fun _ => 0))), (br, .inl (cbr, 3, .inl (fun _ => 0))), (mo, .inr (19, [.int 0, .int 0, .int 0, .int 0, .int 0, .int 0, .int tu, .ref ti, .ref si, .ref lo, .ref lh, .ref lk, .ref sp, .ref st, .ref pa, .ref br, .ref sg, .int mi, .int 0, .int 0, .int 0, .int fo, .int 0, .long pe, .long pn, .long re, .long rn, .int th]))]) (t1 := []) hP hD hK [2, 0, 1] [] rfl rfl (by decide) (by decide) hk1 hFc ht hvm hB
  generalize H1 = H at hP hS ⊢
  have hP : va_P (dC, dI) vwCl [(sp, .inl (csp, 9, .inl (fun _ => 0))), (br, .inl (cbr, 3, .inl (fun _ => 0))), (mo, .inr (19, [.int 0, .int 0, .int 0, .int 0, .int 0, .int 0, .int tu, .ref ti, .ref si, .ref lo, .ref lh, .ref lk, .ref sp, .ref st, .ref pa, .ref br, .ref sg, .int mi, .int 0, .int 0, .int 0, .int fo, .int 0, .long pe, .long pn, .long re, .long rn, .int th]))] H := hP
  have hD : va_D A [(sp, .inl (csp, 9, .inl (fun _ => 0))), (br, .inl (cbr, 3, .inl (fun _ => 0))), (mo, .inr (19, [.int 0, .int 0, .int 0, .int 0, .int 0, .int 0, .int tu, .ref ti, .ref si, .ref lo, .ref lh, .ref lk, .ref sp, .ref st, .ref pa, .ref br, .ref sg, .int mi, .int 0, .int 0, .int 0, .int fo, .int 0, .long pe, .long pn, .long re, .long rn, .int th]))] := hD
  have hK : va_K (dC, dI) vwCl [(csp, .int), (cbr, .int)] s := hK
  obtain rfl : 0 = r11 := hw
  refine va_mabs hx hb (hml.trans hl.1.symm) hown (hts (.methodLink RX15 99 Lib.Math.abs.name) (by decide +kernel)) (hts (.static Lib.Math.abs.name) (by decide +kernel)) (hts (.initialized "java/lang/Math") (by decide +kernel)) (hts (.code Lib.Math.abs.name Lib.Math.abs.code 1 (some .int)) (by decide +kernel)) (Nat.le_of_ble_eq_true rfl) (Nat.le_of_ble_eq_true rfl) (Nat.le_of_ble_eq_true rfl) (Nat.le_of_ble_eq_true rfl) dX15_strains_29 ?_
  refine kc_i (y := 0) (by decide +kernel) ?_
  refine lv_goto (tgt := 36) hx hb dX15_strains_32 (by decide) ?_
  refine lv_iadd hx hb dX15_strains_36 ?_
  refine kc_i (y := 0) (by decide +kernel) ?_
  refine lv_istore_n (lv' := [(2, .int 0), (3, .int 8), (0, .ref mo), (1, .int 2)]) hx hb dX15_strains_37 rfl hl (by decide) rfl (fun ls hl => ?_)
  refine lv_iinc (v := 9) (lv' := [(3, .int 9), (2, .int 0), (0, .ref mo), (1, .int 2)]) hx hb dX15_strains_38 hl (k := 1) rfl (by decide +kernel) (by decide) rfl (fun ls hl => ?_)
  refine lv_goto (tgt := 4) hx hb dX15_strains_41 (by decide) ?_
  refine lv_iload_n hx hb dX15_strains_4 rfl (lv_at hl 0 rfl) ?_
  refine lv_bipush (v := 9) hx hb dX15_strains_5 (by decide) ?_
  refine lv_icmp_ge (tgt := 44) hx hb dX15_strains_7 (by decide) (fun _ => ?_) (fun c_ => absurd (by decide +kernel) c_)
  refine lv_iload_n hx hb dX15_strains_44 rfl (lv_at hl 1 rfl) ?_
  exact W.iret (v := 0) hx hb hr (fun t ht hW => ⟨⟨0, (), rfl, rfl, kB_end (w9 := [(sp, .inl (csp, 9, .inl (fun _ => 0))), (br, .inl (cbr, 3, .inl (fun _ => 0))), (mo, .inr (19, [.int 0, .int 0, .int 0, .int 0, .int 0, .int 0, .int tu, .ref ti, .ref si, .ref lo, .ref lh, .ref lk, .ref sp, .ref st, .ref pa, .ref br, .ref sg, .int mi, .int 0, .int 0, .int 0, .int fo, .int 0, .long pe, .long pn, .long re, .long rn, .int th]))]) (t9 := []) hP hK hD [0, 1, 2] [] rfl (by decide) rfl rfl t ht hW⟩, hS.F ht⟩) hS.2.2 dX15_strains_45
