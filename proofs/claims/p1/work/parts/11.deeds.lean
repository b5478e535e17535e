theorem k_nlt {a b : Int32} (h : ¬ a < b) : b ≤ a := by
  rw [Int32.lt_iff_toInt_lt] at h
  rw [Int32.le_iff_toInt_le]
  omega
theorem k_ltn {a b : Int32} (h : a < b) : ¬ b ≤ a := by
  rw [Int32.lt_iff_toInt_lt] at h
  rw [Int32.le_iff_toInt_le]
  omega
theorem k_ift {P : Prop} [Decidable P] (h : ¬ (if P then (1 : Int32) else 0) = 0) : P := by
  by_cases q : P
  · exact q
  · rw [if_neg q] at h; exact absurd rfl h
theorem k_iff {P : Prop} [Decidable P] (h : (if P then (1 : Int32) else 0) = 0) : ¬ P := by
  intro q
  rw [if_pos q] at h
  exact absurd h (by decide)
theorem k_updsame {f : Nat → Int32} {i : Nat} {x : Int32} (h : f i = x) : upd f i x = f := by
  funext j
  by_cases q : j = i
  · subst q; simp [upd, h]
  · simp [upd, q]
theorem am_Bt : am_Bw.all (fun w => w.onTables) = true := by decide +kernel
theorem kB_nil {D : va_G} {A : Nat → Prop} (t : State) (hK : va_K D vwCl [] t) : kB D A [] [] t := ⟨fun k q h => by simp at h, hK, fun i j p q h => by simp at h, fun k q h => by simp at h⟩
theorem dX1_init_0 : decode cX1_init 0 = .ok (.aload_n 0, 1) := by decide +kernel
theorem dX1_init_1 : decode cX1_init 1 = .ok (.invokespecial 1, 3) := by decide +kernel
theorem dX1_init_4 : decode cX1_init 4 = .ok (.aload_n 0, 1) := by decide +kernel
theorem dX1_init_5 : decode cX1_init 5 = .ok (.iload_n 1, 1) := by decide +kernel
theorem dX1_init_6 : decode cX1_init 6 = .ok (.putfield 7, 3) := by decide +kernel
theorem dX1_init_9 : decode cX1_init 9 = .ok (.aload_n 0, 1) := by decide +kernel
theorem dX1_init_10 : decode cX1_init 10 = .ok (.iload_n 2, 1) := by decide +kernel
theorem dX1_init_11 : decode cX1_init 11 = .ok (.putfield 13, 3) := by decide +kernel
theorem dX1_init_14 : decode cX1_init 14 = .ok (.aload_n 0, 1) := by decide +kernel
theorem dX1_init_15 : decode cX1_init 15 = .ok (.iload_n 3, 1) := by decide +kernel
theorem dX1_init_16 : decode cX1_init 16 = .ok (.putfield 16, 3) := by decide +kernel
theorem dX1_init_19 : decode cX1_init 19 = .ok (.aload_n 0, 1) := by decide +kernel
theorem dX1_init_20 : decode cX1_init 20 = .ok (.iload 4, 2) := by decide +kernel
theorem dX1_init_22 : decode cX1_init 22 = .ok (.putfield 19, 3) := by decide +kernel
theorem dX1_init_25 : decode cX1_init 25 = .ok (.return_, 1) := by decide +kernel
theorem dX9_obey_0 : decode cX9_obey 0 = .ok (.aload_n 1, 1) := by decide +kernel
theorem dX9_obey_1 : decode cX9_obey 1 = .ok (.getfield 83, 3) := by decide +kernel
theorem dX9_obey_4 : decode cX9_obey 4 = .ok (.tableswitch 239 0 9 #[56, 75, 94, 105, 125, 139, 162, 189, 199, 222], 56) := by decide +kernel
theorem dX9_obey_60 : decode cX9_obey 60 = .ok (.aload_n 0, 1) := by decide +kernel
theorem dX9_obey_61 : decode cX9_obey 61 = .ok (.aload_n 1, 1) := by decide +kernel
theorem dX9_obey_62 : decode cX9_obey 62 = .ok (.getfield 88, 3) := by decide +kernel
theorem dX9_obey_65 : decode cX9_obey 65 = .ok (.putfield 49, 3) := by decide +kernel
theorem dX9_obey_68 : decode cX9_obey 68 = .ok (.aload_n 0, 1) := by decide +kernel
theorem dX9_obey_69 : decode cX9_obey 69 = .ok (.aload_n 1, 1) := by decide +kernel
theorem dX9_obey_70 : decode cX9_obey 70 = .ok (.getfield 91, 3) := by decide +kernel
theorem dX9_obey_73 : decode cX9_obey 73 = .ok (.putfield 53, 3) := by decide +kernel
theorem dX9_obey_76 : decode cX9_obey 76 = .ok (.goto 167, 3) := by decide +kernel
theorem dX9_obey_79 : decode cX9_obey 79 = .ok (.aload_n 0, 1) := by decide +kernel
theorem dX9_obey_80 : decode cX9_obey 80 = .ok (.aload_n 1, 1) := by decide +kernel
theorem dX9_obey_81 : decode cX9_obey 81 = .ok (.getfield 88, 3) := by decide +kernel
theorem dX9_obey_84 : decode cX9_obey 84 = .ok (.putfield 56, 3) := by decide +kernel
theorem dX9_obey_87 : decode cX9_obey 87 = .ok (.aload_n 0, 1) := by decide +kernel
theorem dX9_obey_88 : decode cX9_obey 88 = .ok (.aload_n 1, 1) := by decide +kernel
theorem dX9_obey_89 : decode cX9_obey 89 = .ok (.getfield 91, 3) := by decide +kernel
theorem dX9_obey_92 : decode cX9_obey 92 = .ok (.putfield 59, 3) := by decide +kernel
theorem dX9_obey_95 : decode cX9_obey 95 = .ok (.goto 148, 3) := by decide +kernel
theorem dX9_obey_98 : decode cX9_obey 98 = .ok (.aload_n 0, 1) := by decide +kernel
theorem dX9_obey_99 : decode cX9_obey 99 = .ok (.aload_n 1, 1) := by decide +kernel
theorem dX9_obey_100 : decode cX9_obey 100 = .ok (.getfield 88, 3) := by decide +kernel
theorem dX9_obey_103 : decode cX9_obey 103 = .ok (.putfield 62, 3) := by decide +kernel
theorem dX9_obey_106 : decode cX9_obey 106 = .ok (.goto 137, 3) := by decide +kernel
theorem dX9_obey_143 : decode cX9_obey 143 = .ok (.aload_n 0, 1) := by decide +kernel
theorem dX9_obey_144 : decode cX9_obey 144 = .ok (.getfield 21, 3) := by decide +kernel
theorem dX9_obey_147 : decode cX9_obey 147 = .ok (.aload_n 1, 1) := by decide +kernel
theorem dX9_obey_148 : decode cX9_obey 148 = .ok (.getfield 88, 3) := by decide +kernel
theorem dX9_obey_151 : decode cX9_obey 151 = .ok (.iconst 1, 1) := by decide +kernel
theorem dX9_obey_152 : decode cX9_obey 152 = .ok (.if_icmp .ne 7, 3) := by decide +kernel
theorem dX9_obey_155 : decode cX9_obey 155 = .ok (.iconst 1, 1) := by decide +kernel
theorem dX9_obey_156 : decode cX9_obey 156 = .ok (.goto 4, 3) := by decide +kernel
theorem dX9_obey_159 : decode cX9_obey 159 = .ok (.iconst 0, 1) := by decide +kernel
theorem dX9_obey_160 : decode cX9_obey 160 = .ok (.putfield 105, 3) := by decide +kernel
theorem dX9_obey_163 : decode cX9_obey 163 = .ok (.goto 80, 3) := by decide +kernel
theorem dX9_obey_226 : decode cX9_obey 226 = .ok (.aload_n 0, 1) := by decide +kernel
theorem dX9_obey_227 : decode cX9_obey 227 = .ok (.getfield 46, 3) := by decide +kernel
theorem dX9_obey_230 : decode cX9_obey 230 = .ok (.aload_n 0, 1) := by decide +kernel
theorem dX9_obey_231 : decode cX9_obey 231 = .ok (.getfield 42, 3) := by decide +kernel
theorem dX9_obey_234 : decode cX9_obey 234 = .ok (.getfield 119, 3) := by decide +kernel
theorem dX9_obey_237 : decode cX9_obey 237 = .ok (.putfield 119, 3) := by decide +kernel
theorem dX9_obey_240 : decode cX9_obey 240 = .ok (.goto 3, 3) := by decide +kernel
theorem dX9_obey_243 : decode cX9_obey 243 = .ok (.return_, 1) := by decide +kernel
set_option maxRecDepth 20000 in
theorem ggX11_keep_X1_init : GoodIn wsX11_keep wsX1_init := goodIn_r _ [7, 8, 9, 10, 11, 12, 13, 14, 75, 76, 77, 78] (by decide +kernel) (by decide +kernel)
set_option maxRecDepth 20000 in
theorem gX11_keep_X1_init : GoodIn wsX11_keep (wsX1_init) := ggX11_keep_X1_init
set_option maxRecDepth 20000 in
theorem ggX11_keep_Jx4a65c_size_8abf5 : GoodIn wsX11_keep wsJx4a65c_size_8abf5 := goodIn_r _ [19, 20, 83, 84, 85] (by decide +kernel) (by decide +kernel)
set_option maxRecDepth 20000 in
theorem gX11_keep_Jx4a65c_size_8abf5 : GoodIn wsX11_keep (wsV RX11 80 RJx4a65c yJx4a65c_size_8abf5 wsJx4a65c_size_8abf5) := goodIn_app (goodIn_of _ (by decide +kernel)) ggX11_keep_Jx4a65c_size_8abf5
set_option maxRecDepth 20000 in
theorem ggX11_keep_Jx4a65c_add_9ea2d : GoodIn wsX11_keep wsJx4a65c_add_9ea2d := goodIn_r _ [24, 25, 26, 27, 20, 28, 29, 30, 18, 31, 32, 33, 34, 35, 36, 37, 38, 39, 40, 41, 42, 43, 44, 45, 46, 47, 48, 49, 50, 51, 52, 53, 54, 55, 56, 57, 58, 59, 60, 61, 62, 63, 64, 65, 66, 67, 68, 69, 70, 71, 72, 73, 74, 83, 84, 85] (by decide +kernel) (by decide +kernel)
set_option maxRecDepth 20000 in
theorem gX11_keep_Jx4a65c_add_9ea2d : GoodIn wsX11_keep (wsV RX11 282 RJx4a65c yJx4a65c_add_9ea2d wsJx4a65c_add_9ea2d) := goodIn_app (goodIn_of _ (by decide +kernel)) ggX11_keep_Jx4a65c_add_9ea2d
theorem dX11_keep_0 : decode cX11_keep 0 = .ok (.new 273, 3) := by decide +kernel
theorem dX11_keep_3 : decode cX11_keep 3 = .ok (.dup, 1) := by decide +kernel
theorem dX11_keep_4 : decode cX11_keep 4 = .ok (.iload_n 1, 1) := by decide +kernel
theorem dX11_keep_5 : decode cX11_keep 5 = .ok (.iload_n 2, 1) := by decide +kernel
theorem dX11_keep_6 : decode cX11_keep 6 = .ok (.iload_n 3, 1) := by decide +kernel
theorem dX11_keep_7 : decode cX11_keep 7 = .ok (.iload 4, 2) := by decide +kernel
theorem dX11_keep_9 : decode cX11_keep 9 = .ok (.invokespecial 279, 3) := by decide +kernel
theorem dX11_keep_12 : decode cX11_keep 12 = .ok (.astore 5, 2) := by decide +kernel
theorem dX11_keep_14 : decode cX11_keep 14 = .ok (.aload_n 0, 1) := by decide +kernel
theorem dX11_keep_15 : decode cX11_keep 15 = .ok (.getfield 19, 3) := by decide +kernel
theorem dX11_keep_18 : decode cX11_keep 18 = .ok (.invokevirtual 80, 3) := by decide +kernel
theorem dX11_keep_21 : decode cX11_keep 21 = .ok (.sipush 512, 3) := by decide +kernel
theorem dX11_keep_24 : decode cX11_keep 24 = .ok (.if_icmp .ge 13, 3) := by decide +kernel
theorem dX11_keep_27 : decode cX11_keep 27 = .ok (.aload_n 0, 1) := by decide +kernel
theorem dX11_keep_28 : decode cX11_keep 28 = .ok (.getfield 19, 3) := by decide +kernel
theorem dX11_keep_31 : decode cX11_keep 31 = .ok (.aload 5, 2) := by decide +kernel
theorem dX11_keep_33 : decode cX11_keep 33 = .ok (.invokevirtual 282, 3) := by decide +kernel
theorem dX11_keep_36 : decode cX11_keep 36 = .ok (.pop, 1) := by decide +kernel
theorem dX11_keep_37 : decode cX11_keep 37 = .ok (.aload 5, 2) := by decide +kernel
theorem dX11_keep_39 : decode cX11_keep 39 = .ok (.areturn, 1) := by decide +kernel
theorem dX11_isIn_0 : decode cX11_isIn 0 = .ok (.iload_n 0, 1) := by decide +kernel
theorem dX11_isIn_1 : decode cX11_isIn 1 = .ok (.iload_n 1, 1) := by decide +kernel
theorem dX11_isIn_2 : decode cX11_isIn 2 = .ok (.if_icmp .lt 12, 3) := by decide +kernel
theorem dX11_isIn_5 : decode cX11_isIn 5 = .ok (.iload_n 0, 1) := by decide +kernel
theorem dX11_isIn_6 : decode cX11_isIn 6 = .ok (.iload_n 2, 1) := by decide +kernel
theorem dX11_isIn_7 : decode cX11_isIn 7 = .ok (.if_icmp .gt 7, 3) := by decide +kernel
theorem dX11_isIn_10 : decode cX11_isIn 10 = .ok (.iconst 1, 1) := by decide +kernel
theorem dX11_isIn_11 : decode cX11_isIn 11 = .ok (.goto 4, 3) := by decide +kernel
theorem dX11_isIn_14 : decode cX11_isIn 14 = .ok (.iconst 0, 1) := by decide +kernel
theorem dX11_isIn_15 : decode cX11_isIn 15 = .ok (.ireturn, 1) := by decide +kernel
theorem dJx4a65c_grow_92f84_0 : decode cJx4a65c_grow_92f84 0 = .ok (.aload_n 0, 1) := by decide +kernel
theorem dJx4a65c_grow_92f84_1 : decode cJx4a65c_grow_92f84 1 = .ok (.getfield 9, 3) := by decide +kernel
theorem dJx4a65c_grow_92f84_4 : decode cJx4a65c_grow_92f84 4 = .ok (.arraylength, 1) := by decide +kernel
theorem dJx4a65c_grow_92f84_5 : decode cJx4a65c_grow_92f84 5 = .ok (.istore_n 2, 1) := by decide +kernel
theorem dJx4a65c_grow_92f84_6 : decode cJx4a65c_grow_92f84 6 = .ok (.iload_n 2, 1) := by decide +kernel
theorem dJx4a65c_grow_92f84_7 : decode cJx4a65c_grow_92f84 7 = .ok (.ifCond .gt 13, 3) := by decide +kernel
theorem dJx4a65c_grow_92f84_10 : decode cJx4a65c_grow_92f84 10 = .ok (.aload_n 0, 1) := by decide +kernel
theorem dJx4a65c_grow_92f84_11 : decode cJx4a65c_grow_92f84 11 = .ok (.getfield 9, 3) := by decide +kernel
theorem dJx4a65c_grow_92f84_14 : decode cJx4a65c_grow_92f84 14 = .ok (.getstatic 39, 3) := by decide +kernel
theorem dJx4a65c_grow_92f84_17 : decode cJx4a65c_grow_92f84 17 = .ok (.if_acmp .eq 28, 3) := by decide +kernel
theorem dJx4a65c_grow_92f84_45 : decode cJx4a65c_grow_92f84 45 = .ok (.aload_n 0, 1) := by decide +kernel
theorem dJx4a65c_grow_92f84_46 : decode cJx4a65c_grow_92f84 46 = .ok (.bipush 10, 2) := by decide +kernel
theorem dJx4a65c_grow_92f84_48 : decode cJx4a65c_grow_92f84 48 = .ok (.iload_n 1, 1) := by decide +kernel
theorem dJx4a65c_grow_92f84_49 : decode cJx4a65c_grow_92f84 49 = .ok (.invokestatic 79, 3) := by decide +kernel
theorem dJx4a65c_grow_92f84_52 : decode cJx4a65c_grow_92f84 52 = .ok (.anewarray 7, 3) := by decide +kernel
theorem dJx4a65c_grow_92f84_55 : decode cJx4a65c_grow_92f84 55 = .ok (.dup_x1, 1) := by decide +kernel
theorem dJx4a65c_grow_92f84_56 : decode cJx4a65c_grow_92f84 56 = .ok (.putfield 9, 3) := by decide +kernel
theorem dJx4a65c_grow_92f84_59 : decode cJx4a65c_grow_92f84 59 = .ok (.areturn, 1) := by decide +kernel
set_option maxRecDepth 20000 in
theorem ggJx4a65c_grow_d5877_Jx4a65c_grow_92f84 : GoodIn wsJx4a65c_grow_d5877 wsJx4a65c_grow_92f84 := goodIn_r _ [6, 7, 8, 9, 10, 11, 12, 13, 14, 15, 16, 17, 18, 19, 20, 21, 22, 23, 24, 25, 26, 27, 28, 29, 30, 31, 32, 33, 34, 35, 36, 37, 38, 39, 40, 41, 42, 43, 44, 45] (by decide +kernel) (by decide +kernel)
set_option maxRecDepth 20000 in
theorem gJx4a65c_grow_d5877_Jx4a65c_grow_92f84 : GoodIn wsJx4a65c_grow_d5877 (wsV RJx4a65c 69 RJx4a65c yJx4a65c_grow_92f84 wsJx4a65c_grow_92f84) := goodIn_app (goodIn_of _ (by decide +kernel)) ggJx4a65c_grow_d5877_Jx4a65c_grow_92f84
theorem dJx4a65c_grow_d5877_0 : decode cJx4a65c_grow_d5877 0 = .ok (.aload_n 0, 1) := by decide +kernel
theorem dJx4a65c_grow_d5877_1 : decode cJx4a65c_grow_d5877 1 = .ok (.aload_n 0, 1) := by decide +kernel
theorem dJx4a65c_grow_d5877_2 : decode cJx4a65c_grow_d5877 2 = .ok (.getfield 48, 3) := by decide +kernel
theorem dJx4a65c_grow_d5877_5 : decode cJx4a65c_grow_d5877 5 = .ok (.iconst 1, 1) := by decide +kernel
theorem dJx4a65c_grow_d5877_6 : decode cJx4a65c_grow_d5877 6 = .ok (.iadd, 1) := by decide +kernel
theorem dJx4a65c_grow_d5877_7 : decode cJx4a65c_grow_d5877 7 = .ok (.invokevirtual 69, 3) := by decide +kernel
theorem dJx4a65c_grow_d5877_10 : decode cJx4a65c_grow_d5877 10 = .ok (.areturn, 1) := by decide +kernel
set_option maxRecDepth 20000 in
theorem ggJx4a65c_add_72be8_Jx4a65c_grow_d5877 : GoodIn wsJx4a65c_add_72be8 wsJx4a65c_grow_d5877 := goodIn_r _ [6, 1, 7, 8, 9, 5, 10, 11, 12, 13, 14, 15, 16, 17, 18, 19, 20, 21, 22, 23, 24, 25, 26, 27, 28, 29, 30, 31, 32, 33, 34, 35, 36, 37, 38, 39, 40, 41, 42, 43, 44, 45, 46, 47, 48, 49] (by decide +kernel) (by decide +kernel)
set_option maxRecDepth 20000 in
theorem gJx4a65c_add_72be8_Jx4a65c_grow_d5877 : GoodIn wsJx4a65c_add_72be8 (wsV RJx4a65c 129 RJx4a65c yJx4a65c_grow_d5877 wsJx4a65c_grow_d5877) := goodIn_app (goodIn_of _ (by decide +kernel)) ggJx4a65c_add_72be8_Jx4a65c_grow_d5877
theorem dJx4a65c_add_72be8_0 : decode cJx4a65c_add_72be8 0 = .ok (.iload_n 3, 1) := by decide +kernel
theorem dJx4a65c_add_72be8_1 : decode cJx4a65c_add_72be8 1 = .ok (.aload_n 2, 1) := by decide +kernel
theorem dJx4a65c_add_72be8_2 : decode cJx4a65c_add_72be8 2 = .ok (.arraylength, 1) := by decide +kernel
theorem dJx4a65c_add_72be8_3 : decode cJx4a65c_add_72be8 3 = .ok (.if_icmp .ne 8, 3) := by decide +kernel
theorem dJx4a65c_add_72be8_6 : decode cJx4a65c_add_72be8 6 = .ok (.aload_n 0, 1) := by decide +kernel
theorem dJx4a65c_add_72be8_7 : decode cJx4a65c_add_72be8 7 = .ok (.invokevirtual 129, 3) := by decide +kernel
theorem dJx4a65c_add_72be8_10 : decode cJx4a65c_add_72be8 10 = .ok (.astore_n 2, 1) := by decide +kernel
theorem dJx4a65c_add_72be8_11 : decode cJx4a65c_add_72be8 11 = .ok (.aload_n 2, 1) := by decide +kernel
theorem dJx4a65c_add_72be8_12 : decode cJx4a65c_add_72be8 12 = .ok (.iload_n 3, 1) := by decide +kernel
theorem dJx4a65c_add_72be8_13 : decode cJx4a65c_add_72be8 13 = .ok (.aload_n 1, 1) := by decide +kernel
theorem dJx4a65c_add_72be8_14 : decode cJx4a65c_add_72be8 14 = .ok (.aastore, 1) := by decide +kernel
theorem dJx4a65c_add_72be8_15 : decode cJx4a65c_add_72be8 15 = .ok (.aload_n 0, 1) := by decide +kernel
theorem dJx4a65c_add_72be8_16 : decode cJx4a65c_add_72be8 16 = .ok (.iload_n 3, 1) := by decide +kernel
theorem dJx4a65c_add_72be8_17 : decode cJx4a65c_add_72be8 17 = .ok (.iconst 1, 1) := by decide +kernel
theorem dJx4a65c_add_72be8_18 : decode cJx4a65c_add_72be8 18 = .ok (.iadd, 1) := by decide +kernel
theorem dJx4a65c_add_72be8_19 : decode cJx4a65c_add_72be8 19 = .ok (.putfield 48, 3) := by decide +kernel
theorem dJx4a65c_add_72be8_22 : decode cJx4a65c_add_72be8 22 = .ok (.return_, 1) := by decide +kernel
set_option maxRecDepth 20000 in
theorem ggJx4a65c_add_9ea2d_Jx4a65c_add_72be8 : GoodIn wsJx4a65c_add_9ea2d wsJx4a65c_add_72be8 := goodIn_r _ [9, 4, 10, 11, 12, 8, 13, 14, 15, 16, 17, 3, 18, 19, 20, 21, 22, 23, 24, 25, 26, 27, 28, 29, 30, 31, 32, 33, 34, 35, 36, 37, 38, 39, 40, 41, 42, 43, 44, 45, 46, 47, 48, 49, 50, 51, 52, 53, 54, 55] (by decide +kernel) (by decide +kernel)
set_option maxRecDepth 20000 in
theorem gJx4a65c_add_9ea2d_Jx4a65c_add_72be8 : GoodIn wsJx4a65c_add_9ea2d (wsV RJx4a65c 131 RJx4a65c yJx4a65c_add_72be8 wsJx4a65c_add_72be8) := goodIn_app (goodIn_of _ (by decide +kernel)) ggJx4a65c_add_9ea2d_Jx4a65c_add_72be8
theorem dJx4a65c_add_9ea2d_0 : decode cJx4a65c_add_9ea2d 0 = .ok (.aload_n 0, 1) := by decide +kernel
theorem dJx4a65c_add_9ea2d_1 : decode cJx4a65c_add_9ea2d 1 = .ok (.dup, 1) := by decide +kernel
theorem dJx4a65c_add_9ea2d_2 : decode cJx4a65c_add_9ea2d 2 = .ok (.getfield 63, 3) := by decide +kernel
theorem dJx4a65c_add_9ea2d_5 : decode cJx4a65c_add_9ea2d 5 = .ok (.iconst 1, 1) := by decide +kernel
theorem dJx4a65c_add_9ea2d_6 : decode cJx4a65c_add_9ea2d 6 = .ok (.iadd, 1) := by decide +kernel
theorem dJx4a65c_add_9ea2d_7 : decode cJx4a65c_add_9ea2d 7 = .ok (.putfield 63, 3) := by decide +kernel
theorem dJx4a65c_add_9ea2d_10 : decode cJx4a65c_add_9ea2d 10 = .ok (.aload_n 0, 1) := by decide +kernel
theorem dJx4a65c_add_9ea2d_11 : decode cJx4a65c_add_9ea2d 11 = .ok (.aload_n 1, 1) := by decide +kernel
theorem dJx4a65c_add_9ea2d_12 : decode cJx4a65c_add_9ea2d 12 = .ok (.aload_n 0, 1) := by decide +kernel
theorem dJx4a65c_add_9ea2d_13 : decode cJx4a65c_add_9ea2d 13 = .ok (.getfield 9, 3) := by decide +kernel
theorem dJx4a65c_add_9ea2d_16 : decode cJx4a65c_add_9ea2d 16 = .ok (.aload_n 0, 1) := by decide +kernel
theorem dJx4a65c_add_9ea2d_17 : decode cJx4a65c_add_9ea2d 17 = .ok (.getfield 48, 3) := by decide +kernel
theorem dJx4a65c_add_9ea2d_20 : decode cJx4a65c_add_9ea2d 20 = .ok (.invokevirtual 131, 3) := by decide +kernel
theorem dJx4a65c_add_9ea2d_23 : decode cJx4a65c_add_9ea2d 23 = .ok (.iconst 1, 1) := by decide +kernel
theorem dJx4a65c_add_9ea2d_24 : decode cJx4a65c_add_9ea2d 24 = .ok (.ireturn, 1) := by decide +kernel
abbrev wd_k_Deed_init (z : Nat → Nat) (de : Nat) (kd : Int32) (a1 : Int32) (a2 : Int32) (a3 : Int32) : va_W := [(de, .inr (5, [.int 0, .int 0, .int 0, .int 0]))]
set_option maxHeartbeats 4000000 in
set_option maxRecDepth 100000 in
theorem k_Deed_init (l : Launch) (dC : Nat → ClassId) (dI : Nat → Nat → Nat) (z zK zV : Nat → Nat) (de : Nat) (kd : Int32) (a1 : Int32) (a2 : Int32) (a3 : Int32) (sz : Nat)  : Met l yX1_init wsX1_init ({ frames := 1, cells := 0, slots := 0, locals := 12 }) (kP dC dI z zK zV [.ref de, .int kd, .int a1, .int a2, .int a3] sz (wd_k_Deed_init z de kd a1 a2 a3) []) (va_Qv (fun _ : Unit => True) (fun _ t => kB (dC, dI) (va_A (wd_k_Deed_init z de kd a1 a2 a3) sz) [(de, .inr (5, [.int kd, .int a1, .int a2, .int a3]))] [] t) (va_A (wd_k_Deed_init z de kd a1 a2 a3) sz)) 0 0 (va_A (wd_k_Deed_init z de kd a1 a2 a3) sz) := by
  refine Met.ofW (cc := cX1_init) (maxL := 5) (ret := none) (by decide) rfl ?_
  intro p e s m args below meth c s₁ B hml hv
  obtain ⟨rfl, hsz, hP, hK, hD0, hM⟩ := hv
  have hx := B.exec
  have hb := B.bytes
  have hr := B.returns
  have hts := atoms_spec (ws := wsX1_init) B.pre
  have hown : s.vm.findClass RX1 = some m.cls := findClass_of_methodNamed B.named
  have hlocks := B.notSynchronized
  have hin : meth.name = "<init>" := (name_of_methodNamed B.named B.method).1
  have hiX1 : ∀ w ∈ u_ws RX1 TX1 4, w ∈ wsX1_init := by decide +kernel
  have hobj : Cond.code objectInit ⟨#[0xb1]⟩ 1 none ∈ wsX1_init := by decide +kernel
  subst hsz
  have hD := hD0.self (sz := s.heap.size)
  generalize hAe : va_A (wd_k_Deed_init z de kd a1 a2 a3) s.heap.size = A at hD hM ⊢
  have hA : ∀ q : Nat, s.heap.size ≤ q → A q := fun q h => by rw [← hAe]; exact Or.inr h
  have hS : va_S A s.heap s.heap [] := va_S.rf
  have hP : va_P (dC, dI) vwCl [(de, .inr (5, [.int 0, .int 0, .int 0, .int 0]))] s.heap := hP
  have hD : va_D A [(de, .inr (5, [.int 0, .int 0, .int 0, .int 0]))] := hD
  have hl := lv_entry ([.ref de, .int kd, .int a1, .int a2, .int a3]) (n := 5) (Nat.le_of_ble_eq_true rfl)
  rw [lg_entry_eq]
  generalize (lg_sl ([.ref de, .int kd, .int a1, .int a2, .int a3]) ++ List.replicate (5 - (lg_sl ([.ref de, .int kd, .int a1, .int a2, .int a3])).length) Slot.unset).toArray = ls at hl ⊢
  have hl : lv_has ls 5 [(0, .ref de), (1, .int kd), (2, .int a1), (3, .int a2), (4, .int a3)] := hl
  refine lv_aload_n hx hb dX1_init_0 rfl (lv_at hl 0 rfl) ?_
  refine W.objInit hx hb hown (hts (.methodLink RX1 1 objectInit) (by decide +kernel)) (hts (.instanceMethod objectInit) (by decide +kernel)) (hts _ hobj) rfl (by rw [hml]; exact hl.1) rfl dX1_init_1 (Nat.le_of_ble_eq_true rfl) (Nat.le_of_ble_eq_true rfl) ?_
  refine W.eq (g2 := F0 m 4 ls []) rfl ?_
  refine lv_aload_n hx hb dX1_init_4 rfl (lv_at hl 0 rfl) ?_
  refine lv_iload_n hx hb dX1_init_5 rfl (lv_at hl 1 rfl) ?_
  refine va_putF (D := (dC, dI)) (ci := 5) (v := .int kd) (ty := .int) (C := RX1) (T := TX1) (N := 4) hx hb hts hiX1 tyX1 tyX1_ok nmX1 hown hK hP hD hS 0 rfl rfl 0 (by decide) (hts (.fieldLink RX1 7 "SquareRig$Deed" "kind" "I") (by decide +kernel)) (fun _ h9 => h9) rfl hin rfl (by decide +kernel) rfl rfl (Nat.le_of_ble_eq_true rfl) dX1_init_6 (fun H locs hP hD hS => ?_)
  have hP : va_P (dC, dI) vwCl [(de, .inr (5, [.int kd, .int 0, .int 0, .int 0]))] H := hP
  have hD : va_D A [(de, .inr (5, [.int kd, .int 0, .int 0, .int 0]))] := hD
  refine lv_aload_n hx hb dX1_init_9 rfl (lv_at hl 0 rfl) ?_
  refine lv_iload_n hx hb dX1_init_10 rfl (lv_at hl 2 rfl) ?_
  refine va_putF (D := (dC, dI)) (ci := 5) (v := .int a1) (ty := .int) (C := RX1) (T := TX1) (N := 4) hx hb hts hiX1 tyX1 tyX1_ok nmX1 hown hK hP hD hS 0 rfl rfl 1 (by decide) (hts (.fieldLink RX1 13 "SquareRig$Deed" "first" "I") (by decide +kernel)) (fun _ h9 => h9) rfl hin rfl (by decide +kernel) rfl rfl (Nat.le_of_ble_eq_true rfl) dX1_init_11 (fun H locs hP hD hS => ?_)
  have hP : va_P (dC, dI) vwCl [(de, .inr (5, [.int kd, .int a1, .int 0, .int 0]))] H := hP
  have hD : va_D A [(de, .inr (5, [.int kd, .int a1, .int 0, .int 0]))] := hD
  refine lv_aload_n hx hb dX1_init_14 rfl (lv_at hl 0 rfl) ?_
  refine lv_iload_n hx hb dX1_init_15 rfl (lv_at hl 3 rfl) ?_
  refine va_putF (D := (dC, dI)) (ci := 5) (v := .int a2) (ty := .int) (C := RX1) (T := TX1) (N := 4) hx hb hts hiX1 tyX1 tyX1_ok nmX1 hown hK hP hD hS 0 rfl rfl 2 (by decide) (hts (.fieldLink RX1 16 "SquareRig$Deed" "second" "I") (by decide +kernel)) (fun _ h9 => h9) rfl hin rfl (by decide +kernel) rfl rfl (Nat.le_of_ble_eq_true rfl) dX1_init_16 (fun H locs hP hD hS => ?_)
  have hP : va_P (dC, dI) vwCl [(de, .inr (5, [.int kd, .int a1, .int a2, .int 0]))] H := hP
  have hD : va_D A [(de, .inr (5, [.int kd, .int a1, .int a2, .int 0]))] := hD
  refine lv_aload_n hx hb dX1_init_19 rfl (lv_at hl 0 rfl) ?_
  refine lv_iload hx hb dX1_init_20 (lv_at hl 4 rfl) ?_
  refine va_putF (D := (dC, dI)) (ci := 5) (v := .int a3) (ty := .int) (C := RX1) (T := TX1) (N := 4) hx hb hts hiX1 tyX1 tyX1_ok nmX1 hown hK hP hD hS 0 rfl rfl 3 (by decide) (hts (.fieldLink RX1 19 "SquareRig$Deed" "third" "I") (by decide +kernel)) (fun _ h9 => h9) rfl hin rfl (by decide +kernel) rfl rfl (Nat.le_of_ble_eq_true rfl) dX1_init_22 (fun H locs hP hD hS => ?_)
  have hP : va_P (dC, dI) vwCl [(de, .inr (5, [.int kd, .int a1, .int a2, .int a3]))] H := hP
  have hD : va_D A [(de, .inr (5, [.int kd, .int a1, .int a2, .int a3]))] := hD
  exact W.vret hx hb hr (fun t ht hW => ⟨⟨(), rfl, trivial, kB_end (w9 := [(de, .inr (5, [.int kd, .int a1, .int a2, .int a3]))]) (t9 := []) hP hK hD [0] [] rfl (by decide) rfl rfl t ht hW⟩, hS.F ht⟩) hS.2.2 dX1_init_25
abbrev wd_k_grow1 (z : Nat → Nat) (tl : Nat) (mc : Int32) : va_W := [(tl, .inr (3, [.int mc, .ref (z 0), .int 0]))]
set_option maxHeartbeats 4000000 in
set_option maxRecDepth 100000 in
theorem k_grow1 (l : Launch) (dC : Nat → ClassId) (dI : Nat → Nat → Nat) (z zK zV : Nat → Nat) (tl : Nat) (mc : Int32) (sz : Nat)  : Met l yJx4a65c_grow_92f84 wsJx4a65c_grow_92f84 ({ frames := 1, cells := 1, slots := 10, locals := 14 }) (kP dC dI z zK zV [.ref tl, .int 1] sz (wd_k_grow1 z tl mc) []) (va_Qr (fun _ : Unit => True) (fun _ a t => ∃ (q1 : Nat) (cA2 : ClassId), q1 = a ∧ kB (dC, dI) (va_A (wd_k_grow1 z tl mc) sz) [(tl, .inr (3, [.int mc, .ref q1, .int 0])), (q1, .inl (cA2, 10, .inr (.inr (.inr (.inr (fun _ => none))))))] [(cA2, .object "java/lang/Object")] t) (va_A (wd_k_grow1 z tl mc) sz)) 1 10 (va_A (wd_k_grow1 z tl mc) sz) := by
  refine Met.ofW (cc := cJx4a65c_grow_92f84) (maxL := 4) (ret := (some (.array (.object "java/lang/Object")))) (by decide) rfl ?_
  intro p e s m args below meth c s₁ B hml hv
  obtain ⟨rfl, hsz, hP, hK, hD0, hM⟩ := hv
  have hx := B.exec
  have hb := B.bytes
  have hr := B.returns
  have hts := atoms_spec (ws := wsJx4a65c_grow_92f84) B.pre
  have hown : s.vm.findClass RJx4a65c = some m.cls := findClass_of_methodNamed B.named
  have hlocks := B.notSynchronized
  have hiJx4a65c : ∀ w ∈ u_ws RJx4a65c TJx4a65c 3, w ∈ wsJx4a65c_grow_92f84 := by decide +kernel
  subst hsz
  have hD := hD0.self (sz := s.heap.size)
  generalize hAe : va_A (wd_k_grow1 z tl mc) s.heap.size = A at hD hM ⊢
  have hA : ∀ q : Nat, s.heap.size ≤ q → A q := fun q h => by rw [← hAe]; exact Or.inr h
  have hS : va_S A s.heap s.heap [] := va_S.rf
  have hP : va_P (dC, dI) vwCl [(tl, .inr (3, [.int mc, .ref (z 0), .int 0]))] s.heap := hP
  have hD : va_D A [(tl, .inr (3, [.int mc, .ref (z 0), .int 0]))] := hD
  have hl := lv_entry ([.ref tl, .int 1]) (n := 4) (Nat.le_of_ble_eq_true rfl)
  rw [lg_entry_eq]
  generalize (lg_sl ([.ref tl, .int 1]) ++ List.replicate (4 - (lg_sl ([.ref tl, .int 1])).length) Slot.unset).toArray = ls at hl ⊢
  have hl : lv_has ls 4 [(0, .ref tl), (1, .int 1)] := hl
  refine lv_aload_n hx hb dJx4a65c_grow_92f84_0 rfl (lv_at hl 0 rfl) ?_
  refine va_get (D := (dC, dI)) (ci := 3) (v := .ref (z 0)) (C := RJx4a65c) (T := TJx4a65c) (N := 3) hx hb hts hiJx4a65c hown hK hP 0 rfl rfl 1 (by decide) (hts (.fieldLink RJx4a65c 9 "java/util/ArrayList" "elementData" "[Ljava/lang/Object;") (by decide +kernel)) (fun _ h9 => h9) rfl dJx4a65c_grow_92f84_1 ?_
  refine va_tlen (v := 0) hx hb (hM.2.2.2.2.2.1.2) hS rfl dJx4a65c_grow_92f84_4 ?_
  refine lv_istore_n (lv' := [(2, .int 0), (0, .ref tl), (1, .int 1)]) hx hb dJx4a65c_grow_92f84_5 rfl hl (by decide) rfl (fun ls hl => ?_)
  refine lv_iload_n hx hb dJx4a65c_grow_92f84_6 rfl (lv_at hl 0 rfl) ?_
  refine lv_if_gt (tgt := 20) hx hb dJx4a65c_grow_92f84_7 (by decide) (fun c_ => absurd c_ (by decide +kernel)) (fun _ => ?_)
  refine lv_aload_n hx hb dJx4a65c_grow_92f84_10 rfl (lv_at hl 1 rfl) ?_
  refine va_get (D := (dC, dI)) (ci := 3) (v := .ref (z 0)) (C := RJx4a65c) (T := TJx4a65c) (N := 3) hx hb hts hiJx4a65c hown hK hP 0 rfl rfl 1 (by decide) (hts (.fieldLink RJx4a65c 9 "java/util/ArrayList" "elementData" "[Ljava/lang/Object;") (by decide +kernel)) (fun _ h9 => h9) rfl dJx4a65c_grow_92f84_11 ?_
  refine va_gets hx hb (hM.2.2.2.2.2.1.1) hS hown (hts (.fieldLink RJx4a65c 39 "java/util/ArrayList" "DEFAULTCAPACITY_EMPTY_ELEMENTDATA" "[Ljava/lang/Object;") (by decide +kernel)) (fun _ h9 => h9) dJx4a65c_grow_92f84_14 ?_
  refine lv_acmp_eq (rx := (some (z 0))) (ry := (some (z 0))) (tgt := 45) hx hb dJx4a65c_grow_92f84_17 (by decide) (fun _ => ?_) (fun c_ => absurd rfl c_)
  refine lv_aload_n hx hb dJx4a65c_grow_92f84_45 rfl (lv_at hl 1 rfl) ?_
  refine lv_bipush (v := 10) hx hb dJx4a65c_grow_92f84_46 (by decide) ?_
  refine lv_iload_n hx hb dJx4a65c_grow_92f84_48 rfl (lv_at hl 2 rfl) ?_
  refine va_mmax hx hb (hml.trans hl.1.symm) hown (hts (.methodLink RJx4a65c 79 Lib.Math.max.name) (by decide +kernel)) (hts (.static Lib.Math.max.name) (by decide +kernel)) (hts (.initialized "java/lang/Math") (by decide +kernel)) (hts (.code Lib.Math.max.name Lib.Math.max.code 2 (some .int)) (by decide +kernel)) (Nat.le_of_ble_eq_true rfl) (Nat.le_of_ble_eq_true rfl) (Nat.le_of_ble_eq_true rfl) (Nat.le_of_ble_eq_true rfl) dJx4a65c_grow_92f84_49 ?_
  refine kc_i (y := 10) (by decide +kernel) ?_
  refine va_newq (N' := 10) hx hb hown (hts (.classLink RJx4a65c 7 "java/lang/Object") (by decide +kernel)) hM.2.2.2.2.2.2.2.2.1.2.2 hK hP hD hS hA (by decide +kernel) (by decide +kernel) (Nat.le_of_ble_eq_true rfl) (Nat.le_of_ble_eq_true rfl) (Nat.le_of_ble_eq_true rfl) dJx4a65c_grow_92f84_52 (fun q1 cA2 H hK hP hD hS => ?_)
  have hP : va_P (dC, dI) vwCl [(tl, .inr (3, [.int mc, .ref (z 0), .int 0])), (q1, .inl (cA2, 10, .inr (.inr (.inr (.inr (fun _ => none))))))] H := hP
  have hD : va_D A [(tl, .inr (3, [.int mc, .ref (z 0), .int 0])), (q1, .inl (cA2, 10, .inr (.inr (.inr (.inr (fun _ => none))))))] := hD
  have hK : va_K (dC, dI) vwCl [(cA2, .object "java/lang/Object")] s := hK
  refine lv_dup_x1 hx hb dJx4a65c_grow_92f84_55 rfl rfl ?_
  refine va_put (D := (dC, dI)) (ci := 3) (v := .ref q1) (ty := .array (.object "java/lang/Object")) (C := RJx4a65c) (T := TJx4a65c) (N := 3) hx hb hts hiJx4a65c tyJx4a65c tyJx4a65c_ok nmJx4a65c hown hK hP hD hS 0 rfl rfl 1 (by decide) (hts (.fieldLink RJx4a65c 9 "java/util/ArrayList" "elementData" "[Ljava/lang/Object;") (by decide +kernel)) (fun _ h9 => h9) rfl (by decide +kernel) rfl rfl (Nat.le_of_ble_eq_true rfl) dJx4a65c_grow_92f84_56 (fun H locs hP hD hS => ?_)
  have hP : va_P (dC, dI) vwCl [(tl, .inr (3, [.int mc, .ref q1, .int 0])), (q1, .inl (cA2, 10, .inr (.inr (.inr (.inr (fun _ => none))))))] H := hP
  have hD : va_D A [(tl, .inr (3, [.int mc, .ref q1, .int 0])), (q1, .inl (cA2, 10, .inr (.inr (.inr (.inr (fun _ => none))))))] := hD
  refine W.widen (k := 1) (n := 10) (Nat.le_of_ble_eq_true rfl) (Nat.le_of_ble_eq_true rfl) ?_
  exact W.aret hx hb hr (Or.inr ⟨_, rfl⟩) (Or.inr ⟨_, rfl⟩) (fun t ht hW => ⟨⟨(), q1, rfl, trivial, ⟨q1, cA2, rfl, kB_end (w9 := [(tl, .inr (3, [.int mc, .ref q1, .int 0])), (q1, .inl (cA2, 10, .inr (.inr (.inr (.inr (fun _ => none))))))]) (t9 := [(cA2, .object "java/lang/Object")]) hP hK hD [0, 1] [0] rfl (by decide) rfl rfl t ht hW⟩⟩, hS.F ht⟩) hS.2.2 dJx4a65c_grow_92f84_59
abbrev wd_k_grow0 (z : Nat → Nat) (tl : Nat) (mc : Int32) : va_W := [(tl, .inr (3, [.int mc, .ref (z 0), .int 0]))]
set_option maxHeartbeats 4000000 in
set_option maxRecDepth 100000 in
theorem k_grow0 (l : Launch) (dC : Nat → ClassId) (dI : Nat → Nat → Nat) (z zK zV : Nat → Nat) (tl : Nat) (mc : Int32) (sz : Nat)  : Met l yJx4a65c_grow_d5877 wsJx4a65c_grow_d5877 ({ frames := 2, cells := 1, slots := 10, locals := 37 }) (kP dC dI z zK zV [.ref tl] sz (wd_k_grow0 z tl mc) []) (va_Qr (fun _ : Unit => True) (fun _ a t => ∃ (q2 : Nat) (cA3 : ClassId), q2 = a ∧ kB (dC, dI) (va_A (wd_k_grow0 z tl mc) sz) [(tl, .inr (3, [.int mc, .ref q2, .int 0])), (q2, .inl (cA3, 10, .inr (.inr (.inr (.inr (fun _ => none))))))] [(cA3, .object "java/lang/Object")] t) (va_A (wd_k_grow0 z tl mc) sz)) 1 10 (va_A (wd_k_grow0 z tl mc) sz) := by
  refine Met.ofW (cc := cJx4a65c_grow_d5877) (maxL := 1) (ret := (some (.array (.object "java/lang/Object")))) (by decide) rfl ?_
  intro p e s m args below meth c s₁ B hml hv
  obtain ⟨rfl, hsz, hP, hK, hD0, hM⟩ := hv
  have hx := B.exec
  have hb := B.bytes
  have hr := B.returns
  have hts := atoms_spec (ws := wsJx4a65c_grow_d5877) B.pre
  have hown : s.vm.findClass RJx4a65c = some m.cls := findClass_of_methodNamed B.named
  have hlocks := B.notSynchronized
  have hiJx4a65c : ∀ w ∈ u_ws RJx4a65c TJx4a65c 3, w ∈ wsJx4a65c_grow_d5877 := by decide +kernel
  subst hsz
  have hD := hD0.self (sz := s.heap.size)
  generalize hAe : va_A (wd_k_grow0 z tl mc) s.heap.size = A at hD hM ⊢
  have hA : ∀ q : Nat, s.heap.size ≤ q → A q := fun q h => by rw [← hAe]; exact Or.inr h
  have hS : va_S A s.heap s.heap [] := va_S.rf
  have hP : va_P (dC, dI) vwCl [(tl, .inr (3, [.int mc, .ref (z 0), .int 0]))] s.heap := hP
  have hD : va_D A [(tl, .inr (3, [.int mc, .ref (z 0), .int 0]))] := hD
  have hl := lv_entry ([.ref tl]) (n := 1) (Nat.le_of_ble_eq_true rfl)
  rw [lg_entry_eq]
  generalize (lg_sl ([.ref tl]) ++ List.replicate (1 - (lg_sl ([.ref tl])).length) Slot.unset).toArray = ls at hl ⊢
  have hl : lv_has ls 1 [(0, .ref tl)] := hl
  refine lv_aload_n hx hb dJx4a65c_grow_d5877_0 rfl (lv_at hl 0 rfl) ?_
  refine lv_aload_n hx hb dJx4a65c_grow_d5877_1 rfl (lv_at hl 0 rfl) ?_
  refine va_get (D := (dC, dI)) (ci := 3) (v := .int 0) (C := RJx4a65c) (T := TJx4a65c) (N := 3) hx hb hts hiJx4a65c hown hK hP 0 rfl rfl 2 (by decide) (hts (.fieldLink RJx4a65c 48 "java/util/ArrayList" "size" "I") (by decide +kernel)) (fun _ h9 => h9) rfl dJx4a65c_grow_d5877_2 ?_
  refine lv_iconst (v := 1) hx hb dJx4a65c_grow_d5877_5 (by decide) ?_
  refine lv_iadd hx hb dJx4a65c_grow_d5877_6 ?_
  refine kc_i (y := 1) (by decide +kernel) ?_
  have hPc := hP.sub (ws' := [(tl, .inr (3, [.int mc, .ref (z 0), .int 0]))]) [0] rfl
  have hDc := hD.sub (ws' := [(tl, .inr (3, [.int mc, .ref (z 0), .int 0]))]) [0] (by decide) rfl
  have hKc := hK.sub (tys' := []) [] rfl
  have hFc := va_free (wc := [(tl, .inr (3, [.int mc, .ref (z 0), .int 0]))]) hD hS hA [0] rfl
  refine va_callr (va_runV (As := [.int 1]) (rest := []) ⟨hx, hb, hml, hown, hts⟩ (k_grow1 l dC dI z zK zV tl mc s.heap.size) (cwV 1 hts gJx4a65c_grow_d5877_Jx4a65c_grow_92f84 rfl rfl rfl (by decide +kernel) ⟨Nat.le_of_ble_eq_true rfl, Nat.le_of_ble_eq_true rfl⟩) ⟨kP_blind, va_recv hKc hPc (ci := 3) (q0 := 0) rfl rfl, kP_go hPc hKc hDc hFc hM hS⟩ rfl rfl hl.1 rfl (lv_room (Nat.le_of_ble_eq_true rfl)) dJx4a65c_grow_d5877_7 ⟨Nat.le_of_ble_eq_true rfl, Nat.le_of_ble_eq_true rfl⟩) hS (fun q _ h => hFc q h) hFc (fun u ra1 t H1 locs ht hvm hw hB hz1 hk1 hS => ?_)
  obtain ⟨q2, cA3, rfl, hB⟩ := hB
  obtain ⟨hP, hD, hK⟩ := kJ (wr := []) (w1 := [(tl, .inr (3, [.int mc, .ref q2, .int 0])), (q2, .inl (cA3, 10, .inr (.inr (.inr (.inr (fun _ => none))))))]) (t1 := [(cA3, .object "java/lang/Object")]) hP hD hK [0] [] rfl rfl (by decide) (by decide) hk1 hFc ht hvm hB
  generalize H1 = H at hP hS ⊢
  have hP : va_P (dC, dI) vwCl [(tl, .inr (3, [.int mc, .ref q2, .int 0])), (q2, .inl (cA3, 10, .inr (.inr (.inr (.inr (fun _ => none))))))] H := hP
  have hD : va_D A [(tl, .inr (3, [.int mc, .ref q2, .int 0])), (q2, .inl (cA3, 10, .inr (.inr (.inr (.inr (fun _ => none))))))] := hD
  have hK : va_K (dC, dI) vwCl [(cA3, .object "java/lang/Object")] s := hK
  refine W.widen (k := 1) (n := 10) (Nat.le_of_ble_eq_true rfl) (Nat.le_of_ble_eq_true rfl) ?_
  exact W.aret hx hb hr (Or.inr ⟨_, rfl⟩) (Or.inr ⟨_, rfl⟩) (fun t ht hW => ⟨⟨(), q2, rfl, trivial, ⟨q2, cA3, rfl, kB_end (w9 := [(tl, .inr (3, [.int mc, .ref q2, .int 0])), (q2, .inl (cA3, 10, .inr (.inr (.inr (.inr (fun _ => none))))))]) (t9 := [(cA3, .object "java/lang/Object")]) hP hK hD [0, 1] [0] rfl (by decide) rfl rfl t ht hW⟩⟩, hS.F ht⟩) hS.2.2 dJx4a65c_grow_d5877_10
abbrev wd_k_add3_de (z : Nat → Nat) (tl : Nat) (mc : Int32) (de : Nat) (kd : Int32) (a1 : Int32) (a2 : Int32) (a3 : Int32) : va_W := [(tl, .inr (3, [.int mc, .ref (z 0), .int 0])), (de, .inr (5, [.int kd, .int a1, .int a2, .int a3]))]
set_option maxHeartbeats 4000000 in
set_option maxRecDepth 100000 in
theorem k_add3_de (l : Launch) (dC : Nat → ClassId) (dI : Nat → Nat → Nat) (z zK zV : Nat → Nat) (tl : Nat) (mc : Int32) (de : Nat) (kd : Int32) (a1 : Int32) (a2 : Int32) (a3 : Int32) (sz : Nat)  : Met l yJx4a65c_add_72be8 wsJx4a65c_add_72be8 ({ frames := 3, cells := 1, slots := 10, locals := 57 }) (kP dC dI z zK zV [.ref tl, .ref de, .ref (z 0), .int 0] sz (wd_k_add3_de z tl mc de kd a1 a2 a3) []) (va_Qv (fun _ : Unit => True) (fun _ t => ∃ (q2 : Nat) (cA3 : ClassId), kB (dC, dI) (va_A (wd_k_add3_de z tl mc de kd a1 a2 a3) sz) [(de, .inr (5, [.int kd, .int a1, .int a2, .int a3])), (tl, .inr (3, [.int mc, .ref q2, .int 1])), (q2, .inl (cA3, 10, .inr (.inr (.inr (.inr (va_up (fun _ => none) 0 (some de)))))))] [(cA3, .object "java/lang/Object")] t) (va_A (wd_k_add3_de z tl mc de kd a1 a2 a3) sz)) 1 10 (va_A (wd_k_add3_de z tl mc de kd a1 a2 a3) sz) := by
  refine Met.ofW (cc := cJx4a65c_add_72be8) (maxL := 4) (ret := none) (by decide) rfl ?_
  intro p e s m args below meth c s₁ B hml hv
  obtain ⟨rfl, hsz, hP, hK, hD0, hM⟩ := hv
  have hx := B.exec
  have hb := B.bytes
  have hr := B.returns
  have hts := atoms_spec (ws := wsJx4a65c_add_72be8) B.pre
  have hown : s.vm.findClass RJx4a65c = some m.cls := findClass_of_methodNamed B.named
  have hlocks := B.notSynchronized
  have hiJx4a65c : ∀ w ∈ u_ws RJx4a65c TJx4a65c 3, w ∈ wsJx4a65c_add_72be8 := by decide +kernel
  subst hsz
  have hD := hD0.self (sz := s.heap.size)
  generalize hAe : va_A (wd_k_add3_de z tl mc de kd a1 a2 a3) s.heap.size = A at hD hM ⊢
  have hA : ∀ q : Nat, s.heap.size ≤ q → A q := fun q h => by rw [← hAe]; exact Or.inr h
  have hS : va_S A s.heap s.heap [] := va_S.rf
  have hP : va_P (dC, dI) vwCl [(tl, .inr (3, [.int mc, .ref (z 0), .int 0])), (de, .inr (5, [.int kd, .int a1, .int a2, .int a3]))] s.heap := hP
  have hD : va_D A [(tl, .inr (3, [.int mc, .ref (z 0), .int 0])), (de, .inr (5, [.int kd, .int a1, .int a2, .int a3]))] := hD
  have hl := lv_entry ([.ref tl, .ref de, .ref (z 0), .int 0]) (n := 4) (Nat.le_of_ble_eq_true rfl)
  rw [lg_entry_eq]
  generalize (lg_sl ([.ref tl, .ref de, .ref (z 0), .int 0]) ++ List.replicate (4 - (lg_sl ([.ref tl, .ref de, .ref (z 0), .int 0])).length) Slot.unset).toArray = ls at hl ⊢
  have hl : lv_has ls 4 [(0, .ref tl), (1, .ref de), (2, .ref (z 0)), (3, .int 0)] := hl
  refine lv_iload_n hx hb dJx4a65c_add_72be8_0 rfl (lv_at hl 3 rfl) ?_
  refine lv_aload_n hx hb dJx4a65c_add_72be8_1 rfl (lv_at hl 2 rfl) ?_
  refine va_tlen (v := 0) hx hb (hM.2.2.2.2.2.1.2) hS rfl dJx4a65c_add_72be8_2 ?_
  refine lv_icmp_ne (tgt := 11) hx hb dJx4a65c_add_72be8_3 (by decide) (fun c_ => absurd (by decide +kernel) c_) (fun _ => ?_)
  refine lv_aload_n hx hb dJx4a65c_add_72be8_6 rfl (lv_at hl 0 rfl) ?_
  have hPc := hP.sub (ws' := [(tl, .inr (3, [.int mc, .ref (z 0), .int 0]))]) [0] rfl
  have hDc := hD.sub (ws' := [(tl, .inr (3, [.int mc, .ref (z 0), .int 0]))]) [0] (by decide) rfl
  have hKc := hK.sub (tys' := []) [] rfl
  have hFc := va_free (wc := [(tl, .inr (3, [.int mc, .ref (z 0), .int 0]))]) hD hS hA [0] rfl
  refine va_callr (va_runV (As := []) (rest := []) ⟨hx, hb, hml, hown, hts⟩ (k_grow0 l dC dI z zK zV tl mc s.heap.size) (cwV 0 hts gJx4a65c_add_72be8_Jx4a65c_grow_d5877 rfl rfl rfl (by decide +kernel) ⟨Nat.le_of_ble_eq_true rfl, Nat.le_of_ble_eq_true rfl⟩) ⟨kP_blind, va_recv hKc hPc (ci := 3) (q0 := 0) rfl rfl, kP_go hPc hKc hDc hFc hM hS⟩ rfl rfl hl.1 rfl (lv_room (Nat.le_of_ble_eq_true rfl)) dJx4a65c_add_72be8_7 ⟨Nat.le_of_ble_eq_true rfl, Nat.le_of_ble_eq_true rfl⟩) hS (fun q _ h => hFc q h) hFc (fun u ra1 t H1 locs ht hvm hw hB hz1 hk1 hS => ?_)
  obtain ⟨q2, cA3, rfl, hB⟩ := hB
  obtain ⟨hP, hD, hK⟩ := kJ (wr := [(de, .inr (5, [.int kd, .int a1, .int a2, .int a3]))]) (w1 := [(tl, .inr (3, [.int mc, .ref q2, .int 0])), (q2, .inl (cA3, 10, .inr (.inr (.inr (.inr (fun _ => none))))))]) (t1 := [(cA3, .object "java/lang/Object")]) hP hD hK [0] [1] rfl rfl (by decide) (by decide) hk1 hFc ht hvm hB
  generalize H1 = H at hP hS ⊢
  have hP : va_P (dC, dI) vwCl [(de, .inr (5, [.int kd, .int a1, .int a2, .int a3])), (tl, .inr (3, [.int mc, .ref q2, .int 0])), (q2, .inl (cA3, 10, .inr (.inr (.inr (.inr (fun _ => none))))))] H := hP
  have hD : va_D A [(de, .inr (5, [.int kd, .int a1, .int a2, .int a3])), (tl, .inr (3, [.int mc, .ref q2, .int 0])), (q2, .inl (cA3, 10, .inr (.inr (.inr (.inr (fun _ => none))))))] := hD
  have hK : va_K (dC, dI) vwCl [(cA3, .object "java/lang/Object")] s := hK
  refine lv_astore_n (lv' := [(2, .ref q2), (0, .ref tl), (1, .ref de), (3, .int 0)]) hx hb dJx4a65c_add_72be8_10 rfl hl (by decide) rfl (fun ls hl => ?_)
  refine lv_aload_n hx hb dJx4a65c_add_72be8_11 rfl (lv_at hl 0 rfl) ?_
  refine lv_iload_n hx hb dJx4a65c_add_72be8_12 rfl (lv_at hl 3 rfl) ?_
  refine lv_aload_n hx hb dJx4a65c_add_72be8_13 rfl (lv_at hl 2 rfl) ?_
  refine va_astqO hx hb hK hP hD hS 2 0 0 5 rfl rfl (hM.2.2.2.2.2.2.2.2.2.1 _ (List.mem_of_getElem? (i := 6) rfl)) rfl rfl (pk_in 0 10 (by decide) rfl) dJx4a65c_add_72be8_14 (fun H locs hP hD hS => ?_)
  have hP : va_P (dC, dI) vwCl [(de, .inr (5, [.int kd, .int a1, .int a2, .int a3])), (tl, .inr (3, [.int mc, .ref q2, .int 0])), (q2, .inl (cA3, 10, .inr (.inr (.inr (.inr (va_up (fun _ => none) 0 (some de)))))))] H := hP
  have hD : va_D A [(de, .inr (5, [.int kd, .int a1, .int a2, .int a3])), (tl, .inr (3, [.int mc, .ref q2, .int 0])), (q2, .inl (cA3, 10, .inr (.inr (.inr (.inr (va_up (fun _ => none) 0 (some de)))))))] := hD
  refine lv_aload_n hx hb dJx4a65c_add_72be8_15 rfl (lv_at hl 1 rfl) ?_
  refine lv_iload_n hx hb dJx4a65c_add_72be8_16 rfl (lv_at hl 3 rfl) ?_
  refine lv_iconst (v := 1) hx hb dJx4a65c_add_72be8_17 (by decide) ?_
  refine lv_iadd hx hb dJx4a65c_add_72be8_18 ?_
  refine kc_i (y := 1) (by decide +kernel) ?_
  refine va_put (D := (dC, dI)) (ci := 3) (v := .int 1) (ty := .int) (C := RJx4a65c) (T := TJx4a65c) (N := 3) hx hb hts hiJx4a65c tyJx4a65c tyJx4a65c_ok nmJx4a65c hown hK hP hD hS 1 rfl rfl 2 (by decide) (hts (.fieldLink RJx4a65c 48 "java/util/ArrayList" "size" "I") (by decide +kernel)) (fun _ h9 => h9) rfl (by decide +kernel) rfl rfl (Nat.le_of_ble_eq_true rfl) dJx4a65c_add_72be8_19 (fun H locs hP hD hS => ?_)
  have hP : va_P (dC, dI) vwCl [(de, .inr (5, [.int kd, .int a1, .int a2, .int a3])), (tl, .inr (3, [.int mc, .ref q2, .int 1])), (q2, .inl (cA3, 10, .inr (.inr (.inr (.inr (va_up (fun _ => none) 0 (some de)))))))] H := hP
  have hD : va_D A [(de, .inr (5, [.int kd, .int a1, .int a2, .int a3])), (tl, .inr (3, [.int mc, .ref q2, .int 1])), (q2, .inl (cA3, 10, .inr (.inr (.inr (.inr (va_up (fun _ => none) 0 (some de)))))))] := hD
  refine W.widen (k := 1) (n := 10) (Nat.le_of_ble_eq_true rfl) (Nat.le_of_ble_eq_true rfl) ?_
  exact W.vret hx hb hr (fun t ht hW => ⟨⟨(), rfl, trivial, ⟨q2, cA3, kB_end (w9 := [(de, .inr (5, [.int kd, .int a1, .int a2, .int a3])), (tl, .inr (3, [.int mc, .ref q2, .int 1])), (q2, .inl (cA3, 10, .inr (.inr (.inr (.inr (va_up (fun _ => none) 0 (some de)))))))]) (t9 := [(cA3, .object "java/lang/Object")]) hP hK hD [0, 1, 2] [0] rfl (by decide) rfl rfl t ht hW⟩⟩, hS.F ht⟩) hS.2.2 dJx4a65c_add_72be8_22
abbrev wd_k_add1_de (z : Nat → Nat) (tl : Nat) (mc : Int32) (de : Nat) (kd : Int32) (a1 : Int32) (a2 : Int32) (a3 : Int32) : va_W := [(tl, .inr (3, [.int mc, .ref (z 0), .int 0])), (de, .inr (5, [.int kd, .int a1, .int a2, .int a3]))]
set_option maxHeartbeats 4000000 in
set_option maxRecDepth 100000 in
theorem k_add1_de (l : Launch) (dC : Nat → ClassId) (dI : Nat → Nat → Nat) (z zK zV : Nat → Nat) (tl : Nat) (mc : Int32) (de : Nat) (kd : Int32) (a1 : Int32) (a2 : Int32) (a3 : Int32) (sz : Nat)  : Met l yJx4a65c_add_9ea2d wsJx4a65c_add_9ea2d ({ frames := 4, cells := 1, slots := 10, locals := 80 }) (kP dC dI z zK zV [.ref tl, .ref de] sz (wd_k_add1_de z tl mc de kd a1 a2 a3) []) (va_Qi (fun (r : Int32) (_ : Unit) => 1 = r) (fun _ t => ∃ (q1 : Nat) (cA2 : ClassId), kB (dC, dI) (va_A (wd_k_add1_de z tl mc de kd a1 a2 a3) sz) [(de, .inr (5, [.int kd, .int a1, .int a2, .int a3])), (tl, .inr (3, [.int (mc + 1), .ref q1, .int 1])), (q1, .inl (cA2, 10, .inr (.inr (.inr (.inr (va_up (fun _ => none) 0 (some de)))))))] [(cA2, .object "java/lang/Object")] t) (va_A (wd_k_add1_de z tl mc de kd a1 a2 a3) sz)) 1 10 (va_A (wd_k_add1_de z tl mc de kd a1 a2 a3) sz) := by
  refine Met.ofW (cc := cJx4a65c_add_9ea2d) (maxL := 2) (ret := (some .boolean)) (by decide) rfl ?_
  intro p e s m args below meth c s₁ B hml hv
  obtain ⟨rfl, hsz, hP, hK, hD0, hM⟩ := hv
  have hx := B.exec
  have hb := B.bytes
  have hr := B.returns
  have hts := atoms_spec (ws := wsJx4a65c_add_9ea2d) B.pre
  have hown : s.vm.findClass RJx4a65c = some m.cls := findClass_of_methodNamed B.named
  have hlocks := B.notSynchronized
  have hiJx4a65c : ∀ w ∈ u_ws RJx4a65c TJx4a65c 3, w ∈ wsJx4a65c_add_9ea2d := by decide +kernel
  subst hsz
  have hD := hD0.self (sz := s.heap.size)
  generalize hAe : va_A (wd_k_add1_de z tl mc de kd a1 a2 a3) s.heap.size = A at hD hM ⊢
  have hA : ∀ q : Nat, s.heap.size ≤ q → A q := fun q h => by rw [← hAe]; exact Or.inr h
  have hS : va_S A s.heap s.heap [] := va_S.rf
  have hP : va_P (dC, dI) vwCl [(tl, .inr (3, [.int mc, .ref (z 0), .int 0])), (de, .inr (5, [.int kd, .int a1, .int a2, .int a3]))] s.heap := hP
  have hD : va_D A [(tl, .inr (3, [.int mc, .ref (z 0), .int 0])), (de, .inr (5, [.int kd, .int a1, .int a2, .int a3]))] := hD
  have hl := lv_entry ([.ref tl, .ref de]) (n := 2) (Nat.le_of_ble_eq_true rfl)
  rw [lg_entry_eq]
  generalize (lg_sl ([.ref tl, .ref de]) ++ List.replicate (2 - (lg_sl ([.ref tl, .ref de])).length) Slot.unset).toArray = ls at hl ⊢
  have hl : lv_has ls 2 [(0, .ref tl), (1, .ref de)] := hl
  refine lv_aload_n hx hb dJx4a65c_add_9ea2d_0 rfl (lv_at hl 0 rfl) ?_
  refine lv_dup hx hb dJx4a65c_add_9ea2d_1 rfl ?_
  refine va_get (D := (dC, dI)) (ci := 3) (v := .int mc) (C := RJx4a65c) (T := TJx4a65c) (N := 3) hx hb hts hiJx4a65c hown hK hP 0 rfl rfl 0 (by decide) (hts (.fieldLink RJx4a65c 63 "java/util/ArrayList" "modCount" "I") (by decide +kernel)) (u_same (hts (.sameField "java/util/ArrayList" "java/util/AbstractList" "modCount" "I") (by decide +kernel))) rfl dJx4a65c_add_9ea2d_2 ?_
  refine lv_iconst (v := 1) hx hb dJx4a65c_add_9ea2d_5 (by decide) ?_
  refine lv_iadd hx hb dJx4a65c_add_9ea2d_6 ?_
  refine va_put (D := (dC, dI)) (ci := 3) (v := .int (mc + 1)) (ty := .int) (C := RJx4a65c) (T := TJx4a65c) (N := 3) hx hb hts hiJx4a65c tyJx4a65c tyJx4a65c_ok nmJx4a65c hown hK hP hD hS 0 rfl rfl 0 (by decide) (hts (.fieldLink RJx4a65c 63 "java/util/ArrayList" "modCount" "I") (by decide +kernel)) (u_same (hts (.sameField "java/util/ArrayList" "java/util/AbstractList" "modCount" "I") (by decide +kernel))) rfl (by decide +kernel) rfl rfl (Nat.le_of_ble_eq_true rfl) dJx4a65c_add_9ea2d_7 (fun H locs hP hD hS => ?_)
  have hP : va_P (dC, dI) vwCl [(tl, .inr (3, [.int (mc + 1), .ref (z 0), .int 0])), (de, .inr (5, [.int kd, .int a1, .int a2, .int a3]))] H := hP
  have hD : va_D A [(tl, .inr (3, [.int (mc + 1), .ref (z 0), .int 0])), (de, .inr (5, [.int kd, .int a1, .int a2, .int a3]))] := hD
  refine lv_aload_n hx hb dJx4a65c_add_9ea2d_10 rfl (lv_at hl 0 rfl) ?_
  refine lv_aload_n hx hb dJx4a65c_add_9ea2d_11 rfl (lv_at hl 1 rfl) ?_
  refine lv_aload_n hx hb dJx4a65c_add_9ea2d_12 rfl (lv_at hl 0 rfl) ?_
  refine va_get (D := (dC, dI)) (ci := 3) (v := .ref (z 0)) (C := RJx4a65c) (T := TJx4a65c) (N := 3) hx hb hts hiJx4a65c hown hK hP 0 rfl rfl 1 (by decide) (hts (.fieldLink RJx4a65c 9 "java/util/ArrayList" "elementData" "[Ljava/lang/Object;") (by decide +kernel)) (fun _ h9 => h9) rfl dJx4a65c_add_9ea2d_13 ?_
  refine lv_aload_n hx hb dJx4a65c_add_9ea2d_16 rfl (lv_at hl 0 rfl) ?_
  refine va_get (D := (dC, dI)) (ci := 3) (v := .int 0) (C := RJx4a65c) (T := TJx4a65c) (N := 3) hx hb hts hiJx4a65c hown hK hP 0 rfl rfl 2 (by decide) (hts (.fieldLink RJx4a65c 48 "java/util/ArrayList" "size" "I") (by decide +kernel)) (fun _ h9 => h9) rfl dJx4a65c_add_9ea2d_17 ?_
  have hPc := hP.sub (ws' := [(tl, .inr (3, [.int (mc + 1), .ref (z 0), .int 0])), (de, .inr (5, [.int kd, .int a1, .int a2, .int a3]))]) [0, 1] rfl
  have hDc := hD.sub (ws' := [(tl, .inr (3, [.int (mc + 1), .ref (z 0), .int 0])), (de, .inr (5, [.int kd, .int a1, .int a2, .int a3]))]) [0, 1] (by decide) rfl
  have hKc := hK.sub (tys' := []) [] rfl
  have hFc := va_free (wc := [(tl, .inr (3, [.int (mc + 1), .ref (z 0), .int 0])), (de, .inr (5, [.int kd, .int a1, .int a2, .int a3]))]) hD hS hA [0, 1] rfl
  refine va_callv (va_runV (As := [.ref de, .ref (z 0), .int 0]) (rest := []) ⟨hx, hb, hml, hown, hts⟩ (k_add3_de l dC dI z zK zV tl (mc + 1) de kd a1 a2 a3 H.size) (cwV 3 hts gJx4a65c_add_9ea2d_Jx4a65c_add_72be8 rfl rfl rfl (by decide +kernel) ⟨Nat.le_of_ble_eq_true rfl, Nat.le_of_ble_eq_true rfl⟩) ⟨kP_blind, va_recv hKc hPc (ci := 3) (q0 := 0) rfl rfl, kP_go hPc hKc hDc hFc hM hS⟩ rfl rfl hl.1 rfl (lv_room (Nat.le_of_ble_eq_true rfl)) dJx4a65c_add_9ea2d_20 ⟨Nat.le_of_ble_eq_true rfl, Nat.le_of_ble_eq_true rfl⟩) hS (fun q _ h => hFc q h) hFc (fun u t H1 locs ht hvm hw hB hz1 hk1 hS => ?_)
  obtain ⟨q1, cA2, hB⟩ := hB
  obtain ⟨hP, hD, hK⟩ := kJ (wr := []) (w1 := [(de, .inr (5, [.int kd, .int a1, .int a2, .int a3])), (tl, .inr (3, [.int (mc + 1), .ref q1, .int 1])), (q1, .inl (cA2, 10, .inr (.inr (.inr (.inr (va_up (fun _ => none) 0 (some de)))))))]) (t1 := [(cA2, .object "java/lang/Object")]) hP hD hK [0, 1] [] rfl rfl (by decide) (by decide) hk1 hFc ht hvm hB
  generalize H1 = H at hP hS ⊢
  have hP : va_P (dC, dI) vwCl [(de, .inr (5, [.int kd, .int a1, .int a2, .int a3])), (tl, .inr (3, [.int (mc + 1), .ref q1, .int 1])), (q1, .inl (cA2, 10, .inr (.inr (.inr (.inr (va_up (fun _ => none) 0 (some de)))))))] H := hP
  have hD : va_D A [(de, .inr (5, [.int kd, .int a1, .int a2, .int a3])), (tl, .inr (3, [.int (mc + 1), .ref q1, .int 1])), (q1, .inl (cA2, 10, .inr (.inr (.inr (.inr (va_up (fun _ => none) 0 (some de)))))))] := hD
  have hK : va_K (dC, dI) vwCl [(cA2, .object "java/lang/Object")] s := hK
  clear hw
  refine lv_iconst (v := 1) hx hb dJx4a65c_add_9ea2d_23 (by decide) ?_
  refine W.widen (k := 1) (n := 10) (Nat.le_of_ble_eq_true rfl) (Nat.le_of_ble_eq_true rfl) ?_
  exact W.zret (v := 1) hx hb hr (by decide +kernel) (fun t ht hW => ⟨⟨1, (), rfl, rfl, ⟨q1, cA2, kB_end (w9 := [(de, .inr (5, [.int kd, .int a1, .int a2, .int a3])), (tl, .inr (3, [.int (mc + 1), .ref q1, .int 1])), (q1, .inl (cA2, 10, .inr (.inr (.inr (.inr (va_up (fun _ => none) 0 (some de)))))))]) (t9 := [(cA2, .object "java/lang/Object")]) hP hK hD [0, 1, 2] [0] rfl (by decide) rfl rfl t ht hW⟩⟩, hS.F ht⟩) hS.2.2 dJx4a65c_add_9ea2d_24
abbrev wd_k_add3_od (z : Nat → Nat) (tl : Nat) (mc : Int32) (od : Nat) (o0 : Int32) (o1 : Int32) (o2 : Int32) (o3 : Int32) (o4 : Int32) (o5 : Int32) (o6 : Int32) : va_W := [(tl, .inr (3, [.int mc, .ref (z 0), .int 0])), (od, .inr (9, [.int o0, .int o1, .int o2, .int o3, .int o4, .int o5, .int o6]))]
set_option maxHeartbeats 4000000 in
set_option maxRecDepth 100000 in
theorem k_add3_od (l : Launch) (dC : Nat → ClassId) (dI : Nat → Nat → Nat) (z zK zV : Nat → Nat) (tl : Nat) (mc : Int32) (od : Nat) (o0 : Int32) (o1 : Int32) (o2 : Int32) (o3 : Int32) (o4 : Int32) (o5 : Int32) (o6 : Int32) (sz : Nat)  : Met l yJx4a65c_add_72be8 wsJx4a65c_add_72be8 ({ frames := 3, cells := 1, slots := 10, locals := 57 }) (kP dC dI z zK zV [.ref tl, .ref od, .ref (z 0), .int 0] sz (wd_k_add3_od z tl mc od o0 o1 o2 o3 o4 o5 o6) []) (va_Qv (fun _ : Unit => True) (fun _ t => ∃ (q2 : Nat) (cA3 : ClassId), kB (dC, dI) (va_A (wd_k_add3_od z tl mc od o0 o1 o2 o3 o4 o5 o6) sz) [(od, .inr (9, [.int o0, .int o1, .int o2, .int o3, .int o4, .int o5, .int o6])), (tl, .inr (3, [.int mc, .ref q2, .int 1])), (q2, .inl (cA3, 10, .inr (.inr (.inr (.inr (va_up (fun _ => none) 0 (some od)))))))] [(cA3, .object "java/lang/Object")] t) (va_A (wd_k_add3_od z tl mc od o0 o1 o2 o3 o4 o5 o6) sz)) 1 10 (va_A (wd_k_add3_od z tl mc od o0 o1 o2 o3 o4 o5 o6) sz) := by
  refine Met.ofW (cc := cJx4a65c_add_72be8) (maxL := 4) (ret := none) (by decide) rfl ?_
  intro p e s m args below meth c s₁ B hml hv
  obtain ⟨rfl, hsz, hP, hK, hD0, hM⟩ := hv
  have hx := B.exec
  have hb := B.bytes
  have hr := B.returns
  have hts := atoms_spec (ws := wsJx4a65c_add_72be8) B.pre
  have hown : s.vm.findClass RJx4a65c = some m.cls := findClass_of_methodNamed B.named
  have hlocks := B.notSynchronized
  have hiJx4a65c : ∀ w ∈ u_ws RJx4a65c TJx4a65c 3, w ∈ wsJx4a65c_add_72be8 := by decide +kernel
  subst hsz
  have hD := hD0.self (sz := s.heap.size)
  generalize hAe : va_A (wd_k_add3_od z tl mc od o0 o1 o2 o3 o4 o5 o6) s.heap.size = A at hD hM ⊢
  have hA : ∀ q : Nat, s.heap.size ≤ q → A q := fun q h => by rw [← hAe]; exact Or.inr h
  have hS : va_S A s.heap s.heap [] := va_S.rf
  have hP : va_P (dC, dI) vwCl [(tl, .inr (3, [.int mc, .ref (z 0), .int 0])), (od, .inr (9, [.int o0, .int o1, .int o2, .int o3, .int o4, .int o5, .int o6]))] s.heap := hP
  have hD : va_D A [(tl, .inr (3, [.int mc, .ref (z 0), .int 0])), (od, .inr (9, [.int o0, .int o1, .int o2, .int o3, .int o4, .int o5, .int o6]))] := hD
  have hl := lv_entry ([.ref tl, .ref od, .ref (z 0), .int 0]) (n := 4) (Nat.le_of_ble_eq_true rfl)
  rw [lg_entry_eq]
  generalize (lg_sl ([.ref tl, .ref od, .ref (z 0), .int 0]) ++ List.replicate (4 - (lg_sl ([.ref tl, .ref od, .ref (z 0), .int 0])).length) Slot.unset).toArray = ls at hl ⊢
  have hl : lv_has ls 4 [(0, .ref tl), (1, .ref od), (2, .ref (z 0)), (3, .int 0)] := hl
  refine lv_iload_n hx hb dJx4a65c_add_72be8_0 rfl (lv_at hl 3 rfl) ?_
  refine lv_aload_n hx hb dJx4a65c_add_72be8_1 rfl (lv_at hl 2 rfl) ?_
  refine va_tlen (v := 0) hx hb (hM.2.2.2.2.2.1.2) hS rfl dJx4a65c_add_72be8_2 ?_
  refine lv_icmp_ne (tgt := 11) hx hb dJx4a65c_add_72be8_3 (by decide) (fun c_ => absurd (by decide +kernel) c_) (fun _ => ?_)
  refine lv_aload_n hx hb dJx4a65c_add_72be8_6 rfl (lv_at hl 0 rfl) ?_
  have hPc := hP.sub (ws' := [(tl, .inr (3, [.int mc, .ref (z 0), .int 0]))]) [0] rfl
  have hDc := hD.sub (ws' := [(tl, .inr (3, [.int mc, .ref (z 0), .int 0]))]) [0] (by decide) rfl
  have hKc := hK.sub (tys' := []) [] rfl
  have hFc := va_free (wc := [(tl, .inr (3, [.int mc, .ref (z 0), .int 0]))]) hD hS hA [0] rfl
  refine va_callr (va_runV (As := []) (rest := []) ⟨hx, hb, hml, hown, hts⟩ (k_grow0 l dC dI z zK zV tl mc s.heap.size) (cwV 0 hts gJx4a65c_add_72be8_Jx4a65c_grow_d5877 rfl rfl rfl (by decide +kernel) ⟨Nat.le_of_ble_eq_true rfl, Nat.le_of_ble_eq_true rfl⟩) ⟨kP_blind, va_recv hKc hPc (ci := 3) (q0 := 0) rfl rfl, kP_go hPc hKc hDc hFc hM hS⟩ rfl rfl hl.1 rfl (lv_room (Nat.le_of_ble_eq_true rfl)) dJx4a65c_add_72be8_7 ⟨Nat.le_of_ble_eq_true rfl, Nat.le_of_ble_eq_true rfl⟩) hS (fun q _ h => hFc q h) hFc (fun u ra1 t H1 locs ht hvm hw hB hz1 hk1 hS => ?_)
  obtain ⟨q2, cA3, rfl, hB⟩ := hB
  obtain ⟨hP, hD, hK⟩ := kJ (wr := [(od, .inr (9, [.int o0, .int o1, .int o2, .int o3, .int o4, .int o5, .int o6]))]) (w1 := [(tl, .inr (3, [.int mc, .ref q2, .int 0])), (q2, .inl (cA3, 10, .inr (.inr (.inr (.inr (fun _ => none))))))]) (t1 := [(cA3, .object "java/lang/Object")]) hP hD hK [0] [1] rfl rfl (by decide) (by decide) hk1 hFc ht hvm hB
  generalize H1 = H at hP hS ⊢
  have hP : va_P (dC, dI) vwCl [(od, .inr (9, [.int o0, .int o1, .int o2, .int o3, .int o4, .int o5, .int o6])), (tl, .inr (3, [.int mc, .ref q2, .int 0])), (q2, .inl (cA3, 10, .inr (.inr (.inr (.inr (fun _ => none))))))] H := hP
  have hD : va_D A [(od, .inr (9, [.int o0, .int o1, .int o2, .int o3, .int o4, .int o5, .int o6])), (tl, .inr (3, [.int mc, .ref q2, .int 0])), (q2, .inl (cA3, 10, .inr (.inr (.inr (.inr (fun _ => none))))))] := hD
  have hK : va_K (dC, dI) vwCl [(cA3, .object "java/lang/Object")] s := hK
  refine lv_astore_n (lv' := [(2, .ref q2), (0, .ref tl), (1, .ref od), (3, .int 0)]) hx hb dJx4a65c_add_72be8_10 rfl hl (by decide) rfl (fun ls hl => ?_)
  refine lv_aload_n hx hb dJx4a65c_add_72be8_11 rfl (lv_at hl 0 rfl) ?_
  refine lv_iload_n hx hb dJx4a65c_add_72be8_12 rfl (lv_at hl 3 rfl) ?_
  refine lv_aload_n hx hb dJx4a65c_add_72be8_13 rfl (lv_at hl 2 rfl) ?_
  refine va_astqO hx hb hK hP hD hS 2 0 0 9 rfl rfl (hM.2.2.2.2.2.2.2.2.2.1 _ (List.mem_of_getElem? (i := 7) rfl)) rfl rfl (pk_in 0 10 (by decide) rfl) dJx4a65c_add_72be8_14 (fun H locs hP hD hS => ?_)
  have hP : va_P (dC, dI) vwCl [(od, .inr (9, [.int o0, .int o1, .int o2, .int o3, .int o4, .int o5, .int o6])), (tl, .inr (3, [.int mc, .ref q2, .int 0])), (q2, .inl (cA3, 10, .inr (.inr (.inr (.inr (va_up (fun _ => none) 0 (some od)))))))] H := hP
  have hD : va_D A [(od, .inr (9, [.int o0, .int o1, .int o2, .int o3, .int o4, .int o5, .int o6])), (tl, .inr (3, [.int mc, .ref q2, .int 0])), (q2, .inl (cA3, 10, .inr (.inr (.inr (.inr (va_up (fun _ => none) 0 (some od)))))))] := hD
  refine lv_aload_n hx hb dJx4a65c_add_72be8_15 rfl (lv_at hl 1 rfl) ?_
  refine lv_iload_n hx hb dJx4a65c_add_72be8_16 rfl (lv_at hl 3 rfl) ?_
  refine lv_iconst (v := 1) hx hb dJx4a65c_add_72be8_17 (by decide) ?_
  refine lv_iadd hx hb dJx4a65c_add_72be8_18 ?_
  refine kc_i (y := 1) (by decide +kernel) ?_
  refine va_put (D := (dC, dI)) (ci := 3) (v := .int 1) (ty := .int) (C := RJx4a65c) (T := TJx4a65c) (N := 3) hx hb hts hiJx4a65c tyJx4a65c tyJx4a65c_ok nmJx4a65c hown hK hP hD hS 1 rfl rfl 2 (by decide) (hts (.fieldLink RJx4a65c 48 "java/util/ArrayList" "size" "I") (by decide +kernel)) (fun _ h9 => h9) rfl (by decide +kernel) rfl rfl (Nat.le_of_ble_eq_true rfl) dJx4a65c_add_72be8_19 (fun H locs hP hD hS => ?_)
  have hP : va_P (dC, dI) vwCl [(od, .inr (9, [.int o0, .int o1, .int o2, .int o3, .int o4, .int o5, .int o6])), (tl, .inr (3, [.int mc, .ref q2, .int 1])), (q2, .inl (cA3, 10, .inr (.inr (.inr (.inr (va_up (fun _ => none) 0 (some od)))))))] H := hP
  have hD : va_D A [(od, .inr (9, [.int o0, .int o1, .int o2, .int o3, .int o4, .int o5, .int o6])), (tl, .inr (3, [.int mc, .ref q2, .int 1])), (q2, .inl (cA3, 10, .inr (.inr (.inr (.inr (va_up (fun _ => none) 0 (some od)))))))] := hD
  refine W.widen (k := 1) (n := 10) (Nat.le_of_ble_eq_true rfl) (Nat.le_of_ble_eq_true rfl) ?_
  exact W.vret hx hb hr (fun t ht hW => ⟨⟨(), rfl, trivial, ⟨q2, cA3, kB_end (w9 := [(od, .inr (9, [.int o0, .int o1, .int o2, .int o3, .int o4, .int o5, .int o6])), (tl, .inr (3, [.int mc, .ref q2, .int 1])), (q2, .inl (cA3, 10, .inr (.inr (.inr (.inr (va_up (fun _ => none) 0 (some od)))))))]) (t9 := [(cA3, .object "java/lang/Object")]) hP hK hD [0, 1, 2] [0] rfl (by decide) rfl rfl t ht hW⟩⟩, hS.F ht⟩) hS.2.2 dJx4a65c_add_72be8_22
abbrev wd_k_add1_od (z : Nat → Nat) (tl : Nat) (mc : Int32) (od : Nat) (o0 : Int32) (o1 : Int32) (o2 : Int32) (o3 : Int32) (o4 : Int32) (o5 : Int32) (o6 : Int32) : va_W := [(tl, .inr (3, [.int mc, .ref (z 0), .int 0])), (od, .inr (9, [.int o0, .int o1, .int o2, .int o3, .int o4, .int o5, .int o6]))]
set_option maxHeartbeats 4000000 in
set_option maxRecDepth 100000 in
theorem k_add1_od (l : Launch) (dC : Nat → ClassId) (dI : Nat → Nat → Nat) (z zK zV : Nat → Nat) (tl : Nat) (mc : Int32) (od : Nat) (o0 : Int32) (o1 : Int32) (o2 : Int32) (o3 : Int32) (o4 : Int32) (o5 : Int32) (o6 : Int32) (sz : Nat)  : Met l yJx4a65c_add_9ea2d wsJx4a65c_add_9ea2d ({ frames := 4, cells := 1, slots := 10, locals := 80 }) (kP dC dI z zK zV [.ref tl, .ref od] sz (wd_k_add1_od z tl mc od o0 o1 o2 o3 o4 o5 o6) []) (va_Qi (fun (r : Int32) (_ : Unit) => 1 = r) (fun _ t => ∃ (q1 : Nat) (cA2 : ClassId), kB (dC, dI) (va_A (wd_k_add1_od z tl mc od o0 o1 o2 o3 o4 o5 o6) sz) [(od, .inr (9, [.int o0, .int o1, .int o2, .int o3, .int o4, .int o5, .int o6])), (tl, .inr (3, [.int (mc + 1), .ref q1, .int 1])), (q1, .inl (cA2, 10, .inr (.inr (.inr (.inr (va_up (fun _ => none) 0 (some od)))))))] [(cA2, .object "java/lang/Object")] t) (va_A (wd_k_add1_od z tl mc od o0 o1 o2 o3 o4 o5 o6) sz)) 1 10 (va_A (wd_k_add1_od z tl mc od o0 o1 o2 o3 o4 o5 o6) sz) := by
  refine Met.ofW (cc := cJx4a65c_add_9ea2d) (maxL := 2) (ret := (some .boolean)) (by decide) rfl ?_
  intro p e s m args below meth c s₁ B hml hv
  obtain ⟨rfl, hsz, hP, hK, hD0, hM⟩ := hv
  have hx := B.exec
  have hb := B.bytes
  have hr := B.returns
  have hts := atoms_spec (ws := wsJx4a65c_add_9ea2d) B.pre
  have hown : s.vm.findClass RJx4a65c = some m.cls := findClass_of_methodNamed B.named
  have hlocks := B.notSynchronized
  have hiJx4a65c : ∀ w ∈ u_ws RJx4a65c TJx4a65c 3, w ∈ wsJx4a65c_add_9ea2d := by decide +kernel
  subst hsz
  have hD := hD0.self (sz := s.heap.size)
  generalize hAe : va_A (wd_k_add1_od z tl mc od o0 o1 o2 o3 o4 o5 o6) s.heap.size = A at hD hM ⊢
  have hA : ∀ q : Nat, s.heap.size ≤ q → A q := fun q h => by rw [← hAe]; exact Or.inr h
  have hS : va_S A s.heap s.heap [] := va_S.rf
  have hP : va_P (dC, dI) vwCl [(tl, .inr (3, [.int mc, .ref (z 0), .int 0])), (od, .inr (9, [.int o0, .int o1, .int o2, .int o3, .int o4, .int o5, .int o6]))] s.heap := hP
  have hD : va_D A [(tl, .inr (3, [.int mc, .ref (z 0), .int 0])), (od, .inr (9, [.int o0, .int o1, .int o2, .int o3, .int o4, .int o5, .int o6]))] := hD
  have hl := lv_entry ([.ref tl, .ref od]) (n := 2) (Nat.le_of_ble_eq_true rfl)
  rw [lg_entry_eq]
  generalize (lg_sl ([.ref tl, .ref od]) ++ List.replicate (2 - (lg_sl ([.ref tl, .ref od])).length) Slot.unset).toArray = ls at hl ⊢
  have hl : lv_has ls 2 [(0, .ref tl), (1, .ref od)] := hl
  refine lv_aload_n hx hb dJx4a65c_add_9ea2d_0 rfl (lv_at hl 0 rfl) ?_
  refine lv_dup hx hb dJx4a65c_add_9ea2d_1 rfl ?_
  refine va_get (D := (dC, dI)) (ci := 3) (v := .int mc) (C := RJx4a65c) (T := TJx4a65c) (N := 3) hx hb hts hiJx4a65c hown hK hP 0 rfl rfl 0 (by decide) (hts (.fieldLink RJx4a65c 63 "java/util/ArrayList" "modCount" "I") (by decide +kernel)) (u_same (hts (.sameField "java/util/ArrayList" "java/util/AbstractList" "modCount" "I") (by decide +kernel))) rfl dJx4a65c_add_9ea2d_2 ?_
  refine lv_iconst (v := 1) hx hb dJx4a65c_add_9ea2d_5 (by decide) ?_
  refine lv_iadd hx hb dJx4a65c_add_9ea2d_6 ?_
  refine va_put (D := (dC, dI)) (ci := 3) (v := .int (mc + 1)) (ty := .int) (C := RJx4a65c) (T := TJx4a65c) (N := 3) hx hb hts hiJx4a65c tyJx4a65c tyJx4a65c_ok nmJx4a65c hown hK hP hD hS 0 rfl rfl 0 (by decide) (hts (.fieldLink RJx4a65c 63 "java/util/ArrayList" "modCount" "I") (by decide +kernel)) (u_same (hts (.sameField "java/util/ArrayList" "java/util/AbstractList" "modCount" "I") (by decide +kernel))) rfl (by decide +kernel) rfl rfl (Nat.le_of_ble_eq_true rfl) dJx4a65c_add_9ea2d_7 (fun H locs hP hD hS => ?_)
  have hP : va_P (dC, dI) vwCl [(tl, .inr (3, [.int (mc + 1), .ref (z 0), .int 0])), (od, .inr (9, [.int o0, .int o1, .int o2, .int o3, .int o4, .int o5, .int o6]))] H := hP
  have hD : va_D A [(tl, .inr (3, [.int (mc + 1), .ref (z 0), .int 0])), (od, .inr (9, [.int o0, .int o1, .int o2, .int o3, .int o4, .int o5, .int o6]))] := hD
  refine lv_aload_n hx hb dJx4a65c_add_9ea2d_10 rfl (lv_at hl 0 rfl) ?_
  refine lv_aload_n hx hb dJx4a65c_add_9ea2d_11 rfl (lv_at hl 1 rfl) ?_
  refine lv_aload_n hx hb dJx4a65c_add_9ea2d_12 rfl (lv_at hl 0 rfl) ?_
  refine va_get (D := (dC, dI)) (ci := 3) (v := .ref (z 0)) (C := RJx4a65c) (T := TJx4a65c) (N := 3) hx hb hts hiJx4a65c hown hK hP 0 rfl rfl 1 (by decide) (hts (.fieldLink RJx4a65c 9 "java/util/ArrayList" "elementData" "[Ljava/lang/Object;") (by decide +kernel)) (fun _ h9 => h9) rfl dJx4a65c_add_9ea2d_13 ?_
  refine lv_aload_n hx hb dJx4a65c_add_9ea2d_16 rfl (lv_at hl 0 rfl) ?_
  refine va_get (D := (dC, dI)) (ci := 3) (v := .int 0) (C := RJx4a65c) (T := TJx4a65c) (N := 3) hx hb hts hiJx4a65c hown hK hP 0 rfl rfl 2 (by decide) (hts (.fieldLink RJx4a65c 48 "java/util/ArrayList" "size" "I") (by decide +kernel)) (fun _ h9 => h9) rfl dJx4a65c_add_9ea2d_17 ?_
  have hPc := hP.sub (ws' := [(tl, .inr (3, [.int (mc + 1), .ref (z 0), .int 0])), (od, .inr (9, [.int o0, .int o1, .int o2, .int o3, .int o4, .int o5, .int o6]))]) [0, 1] rfl
  have hDc := hD.sub (ws' := [(tl, .inr (3, [.int (mc + 1), .ref (z 0), .int 0])), (od, .inr (9, [.int o0, .int o1, .int o2, .int o3, .int o4, .int o5, .int o6]))]) [0, 1] (by decide) rfl
  have hKc := hK.sub (tys' := []) [] rfl
  have hFc := va_free (wc := [(tl, .inr (3, [.int (mc + 1), .ref (z 0), .int 0])), (od, .inr (9, [.int o0, .int o1, .int o2, .int o3, .int o4, .int o5, .int o6]))]) hD hS hA [0, 1] rfl
  refine va_callv (va_runV (As := [.ref od, .ref (z 0), .int 0]) (rest := []) ⟨hx, hb, hml, hown, hts⟩ (k_add3_od l dC dI z zK zV tl (mc + 1) od o0 o1 o2 o3 o4 o5 o6 H.size) (cwV 3 hts gJx4a65c_add_9ea2d_Jx4a65c_add_72be8 rfl rfl rfl (by decide +kernel) ⟨Nat.le_of_ble_eq_true rfl, Nat.le_of_ble_eq_true rfl⟩) ⟨kP_blind, va_recv hKc hPc (ci := 3) (q0 := 0) rfl rfl, kP_go hPc hKc hDc hFc hM hS⟩ rfl rfl hl.1 rfl (lv_room (Nat.le_of_ble_eq_true rfl)) dJx4a65c_add_9ea2d_20 ⟨Nat.le_of_ble_eq_true rfl, Nat.le_of_ble_eq_true rfl⟩) hS (fun q _ h => hFc q h) hFc (fun u t H1 locs ht hvm hw hB hz1 hk1 hS => ?_)
  obtain ⟨q1, cA2, hB⟩ := hB
  obtain ⟨hP, hD, hK⟩ := kJ (wr := []) (w1 := [(od, .inr (9, [.int o0, .int o1, .int o2, .int o3, .int o4, .int o5, .int o6])), (tl, .inr (3, [.int (mc + 1), .ref q1, .int 1])), (q1, .inl (cA2, 10, .inr (.inr (.inr (.inr (va_up (fun _ => none) 0 (some od)))))))]) (t1 := [(cA2, .object "java/lang/Object")]) hP hD hK [0, 1] [] rfl rfl (by decide) (by decide) hk1 hFc ht hvm hB
  generalize H1 = H at hP hS ⊢
  have hP : va_P (dC, dI) vwCl [(od, .inr (9, [.int o0, .int o1, .int o2, .int o3, .int o4, .int o5, .int o6])), (tl, .inr (3, [.int (mc + 1), .ref q1, .int 1])), (q1, .inl (cA2, 10, .inr (.inr (.inr (.inr (va_up (fun _ => none) 0 (some od)))))))] H := hP
  have hD : va_D A [(od, .inr (9, [.int o0, .int o1, .int o2, .int o3, .int o4, .int o5, .int o6])), (tl, .inr (3, [.int (mc + 1), .ref q1, .int 1])), (q1, .inl (cA2, 10, .inr (.inr (.inr (.inr (va_up (fun _ => none) 0 (some od)))))))] := hD
  have hK : va_K (dC, dI) vwCl [(cA2, .object "java/lang/Object")] s := hK
  clear hw
  refine lv_iconst (v := 1) hx hb dJx4a65c_add_9ea2d_23 (by decide) ?_
  refine W.widen (k := 1) (n := 10) (Nat.le_of_ble_eq_true rfl) (Nat.le_of_ble_eq_true rfl) ?_
  exact W.zret (v := 1) hx hb hr (by decide +kernel) (fun t ht hW => ⟨⟨1, (), rfl, rfl, ⟨q1, cA2, kB_end (w9 := [(od, .inr (9, [.int o0, .int o1, .int o2, .int o3, .int o4, .int o5, .int o6])), (tl, .inr (3, [.int (mc + 1), .ref q1, .int 1])), (q1, .inl (cA2, 10, .inr (.inr (.inr (.inr (va_up (fun _ => none) 0 (some od)))))))]) (t9 := [(cA2, .object "java/lang/Object")]) hP hK hD [0, 1, 2] [0] rfl (by decide) rfl rfl t ht hW⟩⟩, hS.F ht⟩) hS.2.2 dJx4a65c_add_9ea2d_24
abbrev wd_k_size (z : Nat → Nat) (tl : Nat) (mc : Int32) : va_W := [(tl, .inr (3, [.int mc, .ref (z 0), .int 0]))]
set_option maxHeartbeats 4000000 in
set_option maxRecDepth 100000 in
theorem k_size (l : Launch) (dC : Nat → ClassId) (dI : Nat → Nat → Nat) (z zK zV : Nat → Nat) (tl : Nat) (mc : Int32) (sz : Nat)  : Met l yJx4a65c_size_8abf5 wsJx4a65c_size_8abf5 ({ frames := 0, cells := 0, slots := 0, locals := 0 }) (kP dC dI z zK zV [.ref tl] sz (wd_k_size z tl mc) []) (va_Qi (fun (r : Int32) (_ : Unit) => 0 = r) (fun _ t => kB (dC, dI) (va_A (wd_k_size z tl mc) sz) [(tl, .inr (3, [.int mc, .ref (z 0), .int 0]))] [] t) (va_A (wd_k_size z tl mc) sz)) 0 0 (va_A (wd_k_size z tl mc) sz) := by
  refine Met.ofW (cc := cJx4a65c_size_8abf5) (maxL := 1) (ret := (some .int)) (by decide) rfl ?_
  intro p e s m args below meth c s₁ B hml hv
  obtain ⟨rfl, hsz, hP, hK, hD0, hM⟩ := hv
  have hx := B.exec
  have hb := B.bytes
  have hr := B.returns
  have hts := atoms_spec (ws := wsJx4a65c_size_8abf5) B.pre
  have hown : s.vm.findClass RJx4a65c = some m.cls := findClass_of_methodNamed B.named
  have hlocks := B.notSynchronized
  have hiJx4a65c : ∀ w ∈ u_ws RJx4a65c TJx4a65c 3, w ∈ wsJx4a65c_size_8abf5 := by decide +kernel
  subst hsz
  have hD := hD0.self (sz := s.heap.size)
  generalize hAe : va_A (wd_k_size z tl mc) s.heap.size = A at hD hM ⊢
  have hA : ∀ q : Nat, s.heap.size ≤ q → A q := fun q h => by rw [← hAe]; exact Or.inr h
  have hS : va_S A s.heap s.heap [] := va_S.rf
  have hP : va_P (dC, dI) vwCl [(tl, .inr (3, [.int mc, .ref (z 0), .int 0]))] s.heap := hP
  have hD : va_D A [(tl, .inr (3, [.int mc, .ref (z 0), .int 0]))] := hD
  have hl := lv_entry ([.ref tl]) (n := 1) (Nat.le_of_ble_eq_true rfl)
  rw [lg_entry_eq]
  generalize (lg_sl ([.ref tl]) ++ List.replicate (1 - (lg_sl ([.ref tl])).length) Slot.unset).toArray = ls at hl ⊢
  have hl : lv_has ls 1 [(0, .ref tl)] := hl
  refine lv_aload_n hx hb dJx4a65c_size_8abf5_0 rfl (lv_at hl 0 rfl) ?_
  refine va_get (D := (dC, dI)) (ci := 3) (v := .int 0) (C := RJx4a65c) (T := TJx4a65c) (N := 3) hx hb hts hiJx4a65c hown hK hP 0 rfl rfl 2 (by decide) (hts (.fieldLink RJx4a65c 48 "java/util/ArrayList" "size" "I") (by decide +kernel)) (fun _ h9 => h9) rfl dJx4a65c_size_8abf5_1 ?_
  exact W.iret (v := 0) hx hb hr (fun t ht hW => ⟨⟨0, (), rfl, rfl, kB_end (w9 := [(tl, .inr (3, [.int mc, .ref (z 0), .int 0]))]) (t9 := []) hP hK hD [0] [] rfl (by decide) rfl rfl t ht hW⟩, hS.F ht⟩) hS.2.2 dJx4a65c_size_8abf5_4
abbrev wd_k_keep (z : Nat → Nat) (sh : Nat) (x : Nat) (tl : Nat) (tw : Nat) (kd : Int32) (a1 : Int32) (a2 : Int32) (a3 : Int32) : va_W := [(x, .inr (15, [.ref sh, .ref tl, .ref tw, .int 0])), (tl, .inr (3, [.int 0, .ref (z 0), .int 0]))]
set_option maxHeartbeats 4000000 in
set_option maxRecDepth 100000 in
theorem k_keep (l : Launch) (dC : Nat → ClassId) (dI : Nat → Nat → Nat) (z zK zV : Nat → Nat) (sh : Nat) (x : Nat) (tl : Nat) (tw : Nat) (kd : Int32) (a1 : Int32) (a2 : Int32) (a3 : Int32) (sz : Nat)  : Met l yX11_keep wsX11_keep ({ frames := 5, cells := 2, slots := 14, locals := 101 }) (kP dC dI z zK zV [.ref x, .int kd, .int a1, .int a2, .int a3] sz (wd_k_keep z sh x tl tw kd a1 a2 a3) []) (va_Qr (fun _ : Unit => True) (fun _ a t => ∃ (q1 : Nat) (q4 : Nat) (cA5 : ClassId), q1 = a ∧ kB (dC, dI) (va_A (wd_k_keep z sh x tl tw kd a1 a2 a3) sz) [(x, .inr (15, [.ref sh, .ref tl, .ref tw, .int 0])), (q1, .inr (5, [.int kd, .int a1, .int a2, .int a3])), (tl, .inr (3, [.int (0 + 1), .ref q4, .int 1])), (q4, .inl (cA5, 10, .inr (.inr (.inr (.inr (va_up (fun _ => none) 0 (some q1)))))))] [(cA5, .object "java/lang/Object")] t) (va_A (wd_k_keep z sh x tl tw kd a1 a2 a3) sz)) 2 14 (va_A (wd_k_keep z sh x tl tw kd a1 a2 a3) sz) := by
  refine Met.ofW (cc := cX11_keep) (maxL := 6) (ret := (some (.object "SquareRig$Deed"))) (by decide) rfl ?_
  intro p e s m args below meth c s₁ B hml hv
  obtain ⟨rfl, hsz, hP, hK, hD0, hM⟩ := hv
  have hx := B.exec
  have hb := B.bytes
  have hr := B.returns
  have hts := atoms_spec (ws := wsX11_keep) B.pre
  have hown : s.vm.findClass RX11 = some m.cls := findClass_of_methodNamed B.named
  have hlocks := B.notSynchronized
  have hiX1 : ∀ w ∈ u_ws RX1 TX1 4, w ∈ wsX11_keep := by decide +kernel
  have hiX11 : ∀ w ∈ u_ws RX11 TX11 4, w ∈ wsX11_keep := by decide +kernel
  subst hsz
  have hD := hD0.self (sz := s.heap.size)
  generalize hAe : va_A (wd_k_keep z sh x tl tw kd a1 a2 a3) s.heap.size = A at hD hM ⊢
  have hA : ∀ q : Nat, s.heap.size ≤ q → A q := fun q h => by rw [← hAe]; exact Or.inr h
  have hS : va_S A s.heap s.heap [] := va_S.rf
  have hP : va_P (dC, dI) vwCl [(x, .inr (15, [.ref sh, .ref tl, .ref tw, .int 0])), (tl, .inr (3, [.int 0, .ref (z 0), .int 0]))] s.heap := hP
  have hD : va_D A [(x, .inr (15, [.ref sh, .ref tl, .ref tw, .int 0])), (tl, .inr (3, [.int 0, .ref (z 0), .int 0]))] := hD
  have hl := lv_entry ([.ref x, .int kd, .int a1, .int a2, .int a3]) (n := 6) (Nat.le_of_ble_eq_true rfl)
  rw [lg_entry_eq]
  generalize (lg_sl ([.ref x, .int kd, .int a1, .int a2, .int a3]) ++ List.replicate (6 - (lg_sl ([.ref x, .int kd, .int a1, .int a2, .int a3])).length) Slot.unset).toArray = ls at hl ⊢
  have hl : lv_has ls 6 [(0, .ref x), (1, .int kd), (2, .int a1), (3, .int a2), (4, .int a3)] := hl
  refine va_new (ci := 5) (fs := [.int 0, .int 0, .int 0, .int 0]) (C := RX1) (T := TX1) (N := 4) hx hb hts hiX1 tyX1 tyX1_ok hown (hts (.classLink RX11 273 RX1) (by decide +kernel)) (hts (.instantiable RX1 4) (by decide +kernel)) (hts (.initialized RX1) (by decide +kernel)) hK hP hD hS hA rfl (fun j hj => by rcases (show j = 0 ∨ j = 1 ∨ j = 2 ∨ j = 3 by omega) with rfl | rfl | rfl | rfl <;> rfl) (Nat.le_of_ble_eq_true rfl) (Nat.le_of_ble_eq_true rfl) dX11_keep_0 (fun q1 H hP hD hS => ?_)
  have hP : va_P (dC, dI) vwCl [(x, .inr (15, [.ref sh, .ref tl, .ref tw, .int 0])), (tl, .inr (3, [.int 0, .ref (z 0), .int 0])), (q1, .inr (5, [.int 0, .int 0, .int 0, .int 0]))] H := hP
  have hD : va_D A [(x, .inr (15, [.ref sh, .ref tl, .ref tw, .int 0])), (tl, .inr (3, [.int 0, .ref (z 0), .int 0])), (q1, .inr (5, [.int 0, .int 0, .int 0, .int 0]))] := hD
  refine lv_dup hx hb dX11_keep_3 rfl ?_
  refine lv_iload_n hx hb dX11_keep_4 rfl (lv_at hl 1 rfl) ?_
  refine lv_iload_n hx hb dX11_keep_5 rfl (lv_at hl 2 rfl) ?_
  refine lv_iload_n hx hb dX11_keep_6 rfl (lv_at hl 3 rfl) ?_
  refine lv_iload hx hb dX11_keep_7 (lv_at hl 4 rfl) ?_
  have hPc := hP.sub (ws' := [(q1, .inr (5, [.int 0, .int 0, .int 0, .int 0]))]) [2] rfl
  have hDc := hD.sub (ws' := [(q1, .inr (5, [.int 0, .int 0, .int 0, .int 0]))]) [2] (by decide) rfl
  have hKc := hK.sub (tys' := []) [] rfl
  have hFc := va_free (wc := [(q1, .inr (5, [.int 0, .int 0, .int 0, .int 0]))]) hD hS hA [2] rfl
  refine va_callv (va_runI (As := [.int kd, .int a1, .int a2, .int a3]) (rest := [.ref q1]) ⟨hx, hb, hml, hown, hts⟩ (k_Deed_init l dC dI z zK zV q1 kd a1 a2 a3 H.size) (cwI 4 hts gX11_keep_X1_init rfl rfl rfl (hts (.initialized RX1) (by decide +kernel)) (hts (.methodLink RX11 279 yX1_init) (by decide +kernel)) (hts (.instanceMethod yX1_init) (by decide +kernel)) rfl (by decide +kernel) ⟨Nat.le_of_ble_eq_true rfl, Nat.le_of_ble_eq_true rfl⟩) ⟨kP_blind, kP_go hPc hKc hDc hFc hM hS⟩ rfl rfl hl.1 rfl (lv_room (Nat.le_of_ble_eq_true rfl)) dX11_keep_9 ⟨Nat.le_of_ble_eq_true rfl, Nat.le_of_ble_eq_true rfl⟩) hS (fun q _ h => hFc q h) hFc (fun u t H1 locs ht hvm hw hB hz1 hk1 hS => ?_)
  obtain ⟨hP, hD, hK⟩ := kJ (wr := [(x, .inr (15, [.ref sh, .ref tl, .ref tw, .int 0])), (tl, .inr (3, [.int 0, .ref (z 0), .int 0]))]) (w1 := [(q1, .inr (5, [.int kd, .int a1, .int a2, .int a3]))]) (t1 := []) hP hD hK [2] [0, 1] rfl rfl (by decide) (by decide) hk1 hFc ht hvm hB
  generalize H1 = H at hP hS ⊢
  have hP : va_P (dC, dI) vwCl [(x, .inr (15, [.ref sh, .ref tl, .ref tw, .int 0])), (tl, .inr (3, [.int 0, .ref (z 0), .int 0])), (q1, .inr (5, [.int kd, .int a1, .int a2, .int a3]))] H := hP
  have hD : va_D A [(x, .inr (15, [.ref sh, .ref tl, .ref tw, .int 0])), (tl, .inr (3, [.int 0, .ref (z 0), .int 0])), (q1, .inr (5, [.int kd, .int a1, .int a2, .int a3]))] := hD
  have hK : va_K (dC, dI) vwCl [] s := hK
  clear hw
  refine lv_astore (lv' := [(5, .ref q1), (0, .ref x), (1, .int kd), (2, .int a1), (3, .int a2), (4, .int a3)]) hx hb dX11_keep_12 hl (by decide) rfl (fun ls hl => ?_)
  refine lv_aload_n hx hb dX11_keep_14 rfl (lv_at hl 1 rfl) ?_
  refine va_get (D := (dC, dI)) (ci := 15) (v := .ref tl) (C := RX11) (T := TX11) (N := 4) hx hb hts hiX11 hown hK hP 0 rfl rfl 1 (by decide) (hts (.fieldLink RX11 19 "SquareRig" "told" "Ljava/util/ArrayList;") (by decide +kernel)) (fun _ h9 => h9) rfl dX11_keep_15 ?_
  have hPc := hP.sub (ws' := [(tl, .inr (3, [.int 0, .ref (z 0), .int 0]))]) [1] rfl
  have hDc := hD.sub (ws' := [(tl, .inr (3, [.int 0, .ref (z 0), .int 0]))]) [1] (by decide) rfl
  have hKc := hK.sub (tys' := []) [] rfl
  have hFc := va_free (wc := [(tl, .inr (3, [.int 0, .ref (z 0), .int 0]))]) hD hS hA [1] rfl
  refine va_calli (va_runV (As := []) (rest := []) ⟨hx, hb, hml, hown, hts⟩ (k_size0 l dC dI z zK zV tl H.size) (cwV 0 hts gX11_keep_Jx4a65c_size_8abf5 rfl rfl rfl (by decide +kernel) ⟨Nat.le_of_ble_eq_true rfl, Nat.le_of_ble_eq_true rfl⟩) ⟨kP_blind, va_recv hKc hPc (ci := 3) (q0 := 0) rfl rfl, kP_go hPc hKc hDc hFc hM hS⟩ rfl rfl hl.1 rfl (lv_room (Nat.le_of_ble_eq_true rfl)) dX11_keep_18 ⟨Nat.le_of_ble_eq_true rfl, Nat.le_of_ble_eq_true rfl⟩) hS (fun q _ h => hFc q h) hFc (fun r2 u t H1 locs ht hvm hw hB hz1 hk1 hS => ?_)
  obtain ⟨hP, hD, hK⟩ := kJ (wr := [(x, .inr (15, [.ref sh, .ref tl, .ref tw, .int 0])), (q1, .inr (5, [.int kd, .int a1, .int a2, .int a3]))]) (w1 := [(tl, .inr (3, [.int 0, .ref (z 0), .int 0]))]) (t1 := []) hP hD hK [1] [0, 2] rfl rfl (by decide) (by decide) hk1 hFc ht hvm hB
  generalize H1 = H at hP hS ⊢
  have hP : va_P (dC, dI) vwCl [(x, .inr (15, [.ref sh, .ref tl, .ref tw, .int 0])), (q1, .inr (5, [.int kd, .int a1, .int a2, .int a3])), (tl, .inr (3, [.int 0, .ref (z 0), .int 0]))] H := hP
  have hD : va_D A [(x, .inr (15, [.ref sh, .ref tl, .ref tw, .int 0])), (q1, .inr (5, [.int kd, .int a1, .int a2, .int a3])), (tl, .inr (3, [.int 0, .ref (z 0), .int 0]))] := hD
  have hK : va_K (dC, dI) vwCl [] s := hK
  obtain rfl : 0 = r2 := hw
  refine lv_sipush (v := 512) hx hb dX11_keep_21 (by decide) ?_
  refine lv_icmp_ge (tgt := 37) hx hb dX11_keep_24 (by decide) (fun c_ => absurd c_ (by decide +kernel)) (fun _ => ?_)
  refine lv_aload_n hx hb dX11_keep_27 rfl (lv_at hl 1 rfl) ?_
  refine va_get (D := (dC, dI)) (ci := 15) (v := .ref tl) (C := RX11) (T := TX11) (N := 4) hx hb hts hiX11 hown hK hP 0 rfl rfl 1 (by decide) (hts (.fieldLink RX11 19 "SquareRig" "told" "Ljava/util/ArrayList;") (by decide +kernel)) (fun _ h9 => h9) rfl dX11_keep_28 ?_
  refine lv_aload hx hb dX11_keep_31 (lv_at hl 0 rfl) ?_
  have hPc := hP.sub (ws' := [(tl, .inr (3, [.int 0, .ref (z 0), .int 0])), (q1, .inr (5, [.int kd, .int a1, .int a2, .int a3]))]) [2, 1] rfl
  have hDc := hD.sub (ws' := [(tl, .inr (3, [.int 0, .ref (z 0), .int 0])), (q1, .inr (5, [.int kd, .int a1, .int a2, .int a3]))]) [2, 1] (by decide) rfl
  have hKc := hK.sub (tys' := []) [] rfl
  have hFc := va_free (wc := [(tl, .inr (3, [.int 0, .ref (z 0), .int 0])), (q1, .inr (5, [.int kd, .int a1, .int a2, .int a3]))]) hD hS hA [2, 1] rfl
  refine va_calli (va_runV (As := [.ref q1]) (rest := []) ⟨hx, hb, hml, hown, hts⟩ (k_add1_de l dC dI z zK zV tl 0 q1 kd a1 a2 a3 H.size) (cwV 1 hts gX11_keep_Jx4a65c_add_9ea2d rfl rfl rfl (by decide +kernel) ⟨Nat.le_of_ble_eq_true rfl, Nat.le_of_ble_eq_true rfl⟩) ⟨kP_blind, va_recv hKc hPc (ci := 3) (q0 := 0) rfl rfl, kP_go hPc hKc hDc hFc hM hS⟩ rfl rfl hl.1 rfl (lv_room (Nat.le_of_ble_eq_true rfl)) dX11_keep_33 ⟨Nat.le_of_ble_eq_true rfl, Nat.le_of_ble_eq_true rfl⟩) hS (fun q _ h => hFc q h) hFc (fun r3 u t H1 locs ht hvm hw hB hz1 hk1 hS => ?_)
  obtain ⟨q4, cA5, hB⟩ := hB
  obtain ⟨hP, hD, hK⟩ := kJ (wr := [(x, .inr (15, [.ref sh, .ref tl, .ref tw, .int 0]))]) (w1 := [(q1, .inr (5, [.int kd, .int a1, .int a2, .int a3])), (tl, .inr (3, [.int (0 + 1), .ref q4, .int 1])), (q4, .inl (cA5, 10, .inr (.inr (.inr (.inr (va_up (fun _ => none) 0 (some q1)))))))]) (t1 := [(cA5, .object "java/lang/Object")]) hP hD hK [2, 1] [0] rfl rfl (by decide) (by decide) hk1 hFc ht hvm hB
  generalize H1 = H at hP hS ⊢
  have hP : va_P (dC, dI) vwCl [(x, .inr (15, [.ref sh, .ref tl, .ref tw, .int 0])), (q1, .inr (5, [.int kd, .int a1, .int a2, .int a3])), (tl, .inr (3, [.int (0 + 1), .ref q4, .int 1])), (q4, .inl (cA5, 10, .inr (.inr (.inr (.inr (va_up (fun _ => none) 0 (some q1)))))))] H := hP
  have hD : va_D A [(x, .inr (15, [.ref sh, .ref tl, .ref tw, .int 0])), (q1, .inr (5, [.int kd, .int a1, .int a2, .int a3])), (tl, .inr (3, [.int (0 + 1), .ref q4, .int 1])), (q4, .inl (cA5, 10, .inr (.inr (.inr (.inr (va_up (fun _ => none) 0 (some q1)))))))] := hD
  have hK : va_K (dC, dI) vwCl [(cA5, .object "java/lang/Object")] s := hK
  obtain rfl : 1 = r3 := hw
  refine lv_pop hx hb dX11_keep_36 rfl ?_
  refine lv_aload hx hb dX11_keep_37 (lv_at hl 0 rfl) ?_
  refine W.widen (k := 2) (n := 14) (Nat.le_of_ble_eq_true rfl) (Nat.le_of_ble_eq_true rfl) ?_
  exact W.aret hx hb hr (Or.inl ⟨_, rfl⟩) (Or.inr ⟨_, rfl⟩) (fun t ht hW => ⟨⟨(), q1, rfl, trivial, ⟨q1, q4, cA5, rfl, kB_end (w9 := [(x, .inr (15, [.ref sh, .ref tl, .ref tw, .int 0])), (q1, .inr (5, [.int kd, .int a1, .int a2, .int a3])), (tl, .inr (3, [.int (0 + 1), .ref q4, .int 1])), (q4, .inl (cA5, 10, .inr (.inr (.inr (.inr (va_up (fun _ => none) 0 (some q1)))))))]) (t9 := [(cA5, .object "java/lang/Object")]) hP hK hD [0, 1, 2, 3] [0] rfl (by decide) rfl rfl t ht hW⟩⟩, hS.F ht⟩) hS.2.2 dX11_keep_39
abbrev wd_k_isIn (z : Nat → Nat) (n : Int32) (lo : Int32) (hi : Int32) : va_W := []
set_option maxHeartbeats 4000000 in
set_option maxRecDepth 100000 in
theorem k_isIn (l : Launch) (dC : Nat → ClassId) (dI : Nat → Nat → Nat) (z zK zV : Nat → Nat) (n : Int32) (lo : Int32) (hi : Int32) (sz : Nat)  : Met l yX11_isIn wsX11_isIn ({ frames := 0, cells := 0, slots := 0, locals := 0 }) (kP dC dI z zK zV [.int n, .int lo, .int hi] sz (wd_k_isIn z n lo hi) []) (va_Qi (fun (r : Int32) (_ : Unit) => (if lo ≤ n ∧ n ≤ hi then (1 : Int32) else 0) = r) (fun _ t => kB (dC, dI) (va_A (wd_k_isIn z n lo hi) sz) [] [] t) (va_A (wd_k_isIn z n lo hi) sz)) 0 0 (va_A (wd_k_isIn z n lo hi) sz) := by
  refine Met.ofW (cc := cX11_isIn) (maxL := 3) (ret := (some .boolean)) (by decide) rfl ?_
  intro p e s m args below meth c s₁ B hml hv
  obtain ⟨rfl, hsz, hP, hK, hD0, hM⟩ := hv
  have hx := B.exec
  have hb := B.bytes
  have hr := B.returns
  have hts := atoms_spec (ws := wsX11_isIn) B.pre
  have hown : s.vm.findClass RX11 = some m.cls := findClass_of_methodNamed B.named
  have hlocks := B.notSynchronized
  subst hsz
  have hD := hD0.self (sz := s.heap.size)
  generalize hAe : va_A (wd_k_isIn z n lo hi) s.heap.size = A at hD hM ⊢
  have hA : ∀ q : Nat, s.heap.size ≤ q → A q := fun q h => by rw [← hAe]; exact Or.inr h
  have hS : va_S A s.heap s.heap [] := va_S.rf
  have hP : va_P (dC, dI) vwCl [] s.heap := hP
  have hD : va_D A [] := hD
  have hl := lv_entry ([.int n, .int lo, .int hi]) (n := 3) (Nat.le_of_ble_eq_true rfl)
  rw [lg_entry_eq]
  generalize (lg_sl ([.int n, .int lo, .int hi]) ++ List.replicate (3 - (lg_sl ([.int n, .int lo, .int hi])).length) Slot.unset).toArray = ls at hl ⊢
  have hl : lv_has ls 3 [(0, .int n), (1, .int lo), (2, .int hi)] := hl
  refine lv_iload_n hx hb dX11_isIn_0 rfl (lv_at hl 0 rfl) ?_
  refine lv_iload_n hx hb dX11_isIn_1 rfl (lv_at hl 1 rfl) ?_
  refine lv_icmp_lt (tgt := 14) hx hb dX11_isIn_2 (by decide) (fun c1 => ?_) (fun c1 => ?_)
  · skip
    refine lv_iconst (v := 0) hx hb dX11_isIn_14 (by decide) ?_
    exact W.zret (v := 0) hx hb hr (by decide +kernel) (fun t ht hW => ⟨⟨0, (), rfl, (if_neg (fun h => absurd h.1 (k_ltn c1))), kB_end (w9 := []) (t9 := []) hP hK hD [] [] rfl (by decide) rfl rfl t ht hW⟩, hS.F ht⟩) hS.2.2 dX11_isIn_15
  · skip
    refine lv_iload_n hx hb dX11_isIn_5 rfl (lv_at hl 0 rfl) ?_
    refine lv_iload_n hx hb dX11_isIn_6 rfl (lv_at hl 2 rfl) ?_
    refine lv_icmp_gt (tgt := 14) hx hb dX11_isIn_7 (by decide) (fun c2 => ?_) (fun c2 => ?_)
    · skip
      refine lv_iconst (v := 0) hx hb dX11_isIn_14 (by decide) ?_
      exact W.zret (v := 0) hx hb hr (by decide +kernel) (fun t ht hW => ⟨⟨0, (), rfl, (if_neg (fun h => absurd h.2 (k_ltn c2))), kB_end (w9 := []) (t9 := []) hP hK hD [] [] rfl (by decide) rfl rfl t ht hW⟩, hS.F ht⟩) hS.2.2 dX11_isIn_15
    · skip
      refine lv_iconst (v := 1) hx hb dX11_isIn_10 (by decide) ?_
      refine lv_goto (tgt := 15) hx hb dX11_isIn_11 (by decide) ?_
      exact W.zret (v := 1) hx hb hr (by decide +kernel) (fun t ht hW => ⟨⟨1, (), rfl, (if_pos ⟨k_nlt c1, k_nlt c2⟩), kB_end (w9 := []) (t9 := []) hP hK hD [] [] rfl (by decide) rfl rfl t ht hW⟩, hS.F ht⟩) hS.2.2 dX11_isIn_15
abbrev wd_k_obey_wind (z : Nat → Nat) (sh : Nat) (rg : Nat) (dk : Nat) (hd : Nat) (lg : Nat) (pl : Nat) (pr : Nat) (de : Nat) (a1 : Int32) (a2 : Int32) (a3 : Int32) : va_W := [(sh, .inr (13, [.ref rg, .ref dk, .ref hd, .ref lg, .ref pl, .ref pr, .int 0, .int 0, .int 0, .int 0, .int 0, .int 0, .int 0, .int 0, .int 0, .int 0, .int 0])), (de, .inr (5, [.int 0, .int a1, .int a2, .int a3]))]
set_option maxHeartbeats 4000000 in
set_option maxRecDepth 100000 in
theorem k_obey_wind (l : Launch) (dC : Nat → ClassId) (dI : Nat → Nat → Nat) (z zK zV : Nat → Nat) (sh : Nat) (rg : Nat) (dk : Nat) (hd : Nat) (lg : Nat) (pl : Nat) (pr : Nat) (de : Nat) (a1 : Int32) (a2 : Int32) (a3 : Int32) (sz : Nat)  : Met l yX9_obey wsX9_obey ({ frames := 0, cells := 0, slots := 0, locals := 0 }) (kP dC dI z zK zV [.ref sh, .ref de] sz (wd_k_obey_wind z sh rg dk hd lg pl pr de a1 a2 a3) []) (va_Qv (fun _ : Unit => True) (fun _ t => kB (dC, dI) (va_A (wd_k_obey_wind z sh rg dk hd lg pl pr de a1 a2 a3) sz) [] [] t) (va_A (wd_k_obey_wind z sh rg dk hd lg pl pr de a1 a2 a3) sz)) 0 0 (va_A (wd_k_obey_wind z sh rg dk hd lg pl pr de a1 a2 a3) sz) := by
  refine Met.ofW (cc := cX9_obey) (maxL := 3) (ret := none) (by decide) rfl ?_
  intro p e s m args below meth c s₁ B hml hv
  obtain ⟨rfl, hsz, hP, hK, hD0, hM⟩ := hv
  have hx := B.exec
  have hb := B.bytes
  have hr := B.returns
  have hts := atoms_spec (ws := wsX9_obey) B.pre
  have hown : s.vm.findClass RX9 = some m.cls := findClass_of_methodNamed B.named
  have hlocks := B.notSynchronized
  have hiX1 : ∀ w ∈ u_ws RX1 TX1 4, w ∈ wsX9_obey := by decide +kernel
  have hiX9 : ∀ w ∈ u_ws RX9 TX9 17, w ∈ wsX9_obey := by decide +kernel
  subst hsz
  have hD := hD0.self (sz := s.heap.size)
  generalize hAe : va_A (wd_k_obey_wind z sh rg dk hd lg pl pr de a1 a2 a3) s.heap.size = A at hD hM ⊢
  have hA : ∀ q : Nat, s.heap.size ≤ q → A q := fun q h => by rw [← hAe]; exact Or.inr h
  have hS : va_S A s.heap s.heap [] := va_S.rf
  have hP : va_P (dC, dI) vwCl [(sh, .inr (13, [.ref rg, .ref dk, .ref hd, .ref lg, .ref pl, .ref pr, .int 0, .int 0, .int 0, .int 0, .int 0, .int 0, .int 0, .int 0, .int 0, .int 0, .int 0])), (de, .inr (5, [.int 0, .int a1, .int a2, .int a3]))] s.heap := hP
  have hD : va_D A [(sh, .inr (13, [.ref rg, .ref dk, .ref hd, .ref lg, .ref pl, .ref pr, .int 0, .int 0, .int 0, .int 0, .int 0, .int 0, .int 0, .int 0, .int 0, .int 0, .int 0])), (de, .inr (5, [.int 0, .int a1, .int a2, .int a3]))] := hD
  have hl := lv_entry ([.ref sh, .ref de]) (n := 3) (Nat.le_of_ble_eq_true rfl)
  rw [lg_entry_eq]
  generalize (lg_sl ([.ref sh, .ref de]) ++ List.replicate (3 - (lg_sl ([.ref sh, .ref de])).length) Slot.unset).toArray = ls at hl ⊢
  have hl : lv_has ls 3 [(0, .ref sh), (1, .ref de)] := hl
  refine lv_aload_n hx hb dX9_obey_0 rfl (lv_at hl 1 rfl) ?_
  refine va_getN (D := (dC, dI)) (ci := 5) (v := .int 0) (C := RX1) (T := TX1) (N := 4) hx hb hts hiX1 hown hK hP 1 rfl rfl 0 (by decide) (va_Nw.use rfl (hM.1 _ (List.mem_of_getElem? (i := 49) rfl))) (fun _ h9 => h9) rfl dX9_obey_1 ?_
  refine lv_tableIn (off := 56) (tgt := 60) hx hb dX9_obey_4 (by decide +kernel) (by decide +kernel) rfl (by decide) ?_
  refine lv_aload_n hx hb dX9_obey_60 rfl (lv_at hl 0 rfl) ?_
  refine lv_aload_n hx hb dX9_obey_61 rfl (lv_at hl 1 rfl) ?_
  refine va_getN (D := (dC, dI)) (ci := 5) (v := .int a1) (C := RX1) (T := TX1) (N := 4) hx hb hts hiX1 hown hK hP 1 rfl rfl 1 (by decide) (va_Nw.use rfl (hM.1 _ (List.mem_of_getElem? (i := 50) rfl))) (fun _ h9 => h9) rfl dX9_obey_62 ?_
  refine va_put (D := (dC, dI)) (ci := 13) (v := .int a1) (ty := .int) (C := RX9) (T := TX9) (N := 17) hx hb hts hiX9 tyX9 tyX9_ok nmX9 hown hK hP hD hS 0 rfl rfl 6 (by decide) (hts (.fieldLink RX9 49 "SquareRig$Ship" "windFrom" "I") (by decide +kernel)) (fun _ h9 => h9) rfl (by decide +kernel) rfl rfl (Nat.le_of_ble_eq_true rfl) dX9_obey_65 (fun H locs hP hD hS => ?_)
  have hP : va_P (dC, dI) vwCl [(sh, .inr (13, [.ref rg, .ref dk, .ref hd, .ref lg, .ref pl, .ref pr, .int a1, .int 0, .int 0, .int 0, .int 0, .int 0, .int 0, .int 0, .int 0, .int 0, .int 0])), (de, .inr (5, [.int 0, .int a1, .int a2, .int a3]))] H := hP
  have hD : va_D A [(sh, .inr (13, [.ref rg, .ref dk, .ref hd, .ref lg, .ref pl, .ref pr, .int a1, .int 0, .int 0, .int 0, .int 0, .int 0, .int 0, .int 0, .int 0, .int 0, .int 0])), (de, .inr (5, [.int 0, .int a1, .int a2, .int a3]))] := hD
  refine lv_aload_n hx hb dX9_obey_68 rfl (lv_at hl 0 rfl) ?_
  refine lv_aload_n hx hb dX9_obey_69 rfl (lv_at hl 1 rfl) ?_
  refine va_getN (D := (dC, dI)) (ci := 5) (v := .int a2) (C := RX1) (T := TX1) (N := 4) hx hb hts hiX1 hown hK hP 1 rfl rfl 2 (by decide) (va_Nw.use rfl (hM.1 _ (List.mem_of_getElem? (i := 51) rfl))) (fun _ h9 => h9) rfl dX9_obey_70 ?_
  refine va_put (D := (dC, dI)) (ci := 13) (v := .int a2) (ty := .int) (C := RX9) (T := TX9) (N := 17) hx hb hts hiX9 tyX9 tyX9_ok nmX9 hown hK hP hD hS 0 rfl rfl 7 (by decide) (hts (.fieldLink RX9 53 "SquareRig$Ship" "windStrength" "I") (by decide +kernel)) (fun _ h9 => h9) rfl (by decide +kernel) rfl rfl (Nat.le_of_ble_eq_true rfl) dX9_obey_73 (fun H locs hP hD hS => ?_)
  have hP : va_P (dC, dI) vwCl [(sh, .inr (13, [.ref rg, .ref dk, .ref hd, .ref lg, .ref pl, .ref pr, .int a1, .int a2, .int 0, .int 0, .int 0, .int 0, .int 0, .int 0, .int 0, .int 0, .int 0])), (de, .inr (5, [.int 0, .int a1, .int a2, .int a3]))] H := hP
  have hD : va_D A [(sh, .inr (13, [.ref rg, .ref dk, .ref hd, .ref lg, .ref pl, .ref pr, .int a1, .int a2, .int 0, .int 0, .int 0, .int 0, .int 0, .int 0, .int 0, .int 0, .int 0])), (de, .inr (5, [.int 0, .int a1, .int a2, .int a3]))] := hD
  refine lv_goto (tgt := 243) hx hb dX9_obey_76 (by decide) ?_
  exact W.vret hx hb hr (fun t ht hW => ⟨⟨(), rfl, trivial, kB_end (w9 := []) (t9 := []) hP hK hD [] [] rfl (by decide) rfl rfl t ht hW⟩, hS.F ht⟩) hS.2.2 dX9_obey_243
abbrev wd_k_obey_current (z : Nat → Nat) (sh : Nat) (rg : Nat) (dk : Nat) (hd : Nat) (lg : Nat) (pl : Nat) (pr : Nat) (de : Nat) (a1 : Int32) (a2 : Int32) (a3 : Int32) : va_W := [(sh, .inr (13, [.ref rg, .ref dk, .ref hd, .ref lg, .ref pl, .ref pr, .int 0, .int 0, .int 0, .int 0, .int 0, .int 0, .int 0, .int 0, .int 0, .int 0, .int 0])), (de, .inr (5, [.int 1, .int a1, .int a2, .int a3]))]
set_option maxHeartbeats 4000000 in
set_option maxRecDepth 100000 in
theorem k_obey_current (l : Launch) (dC : Nat → ClassId) (dI : Nat → Nat → Nat) (z zK zV : Nat → Nat) (sh : Nat) (rg : Nat) (dk : Nat) (hd : Nat) (lg : Nat) (pl : Nat) (pr : Nat) (de : Nat) (a1 : Int32) (a2 : Int32) (a3 : Int32) (sz : Nat)  : Met l yX9_obey wsX9_obey ({ frames := 0, cells := 0, slots := 0, locals := 0 }) (kP dC dI z zK zV [.ref sh, .ref de] sz (wd_k_obey_current z sh rg dk hd lg pl pr de a1 a2 a3) []) (va_Qv (fun _ : Unit => True) (fun _ t => kB (dC, dI) (va_A (wd_k_obey_current z sh rg dk hd lg pl pr de a1 a2 a3) sz) [] [] t) (va_A (wd_k_obey_current z sh rg dk hd lg pl pr de a1 a2 a3) sz)) 0 0 (va_A (wd_k_obey_current z sh rg dk hd lg pl pr de a1 a2 a3) sz) := by
  refine Met.ofW (cc := cX9_obey) (maxL := 3) (ret := none) (by decide) rfl ?_
  intro p e s m args below meth c s₁ B hml hv
  obtain ⟨rfl, hsz, hP, hK, hD0, hM⟩ := hv
  have hx := B.exec
  have hb := B.bytes
  have hr := B.returns
  have hts := atoms_spec (ws := wsX9_obey) B.pre
  have hown : s.vm.findClass RX9 = some m.cls := findClass_of_methodNamed B.named
  have hlocks := B.notSynchronized
  have hiX1 : ∀ w ∈ u_ws RX1 TX1 4, w ∈ wsX9_obey := by decide +kernel
  have hiX9 : ∀ w ∈ u_ws RX9 TX9 17, w ∈ wsX9_obey := by decide +kernel
  subst hsz
  have hD := hD0.self (sz := s.heap.size)
  generalize hAe : va_A (wd_k_obey_current z sh rg dk hd lg pl pr de a1 a2 a3) s.heap.size = A at hD hM ⊢
  have hA : ∀ q : Nat, s.heap.size ≤ q → A q := fun q h => by rw [← hAe]; exact Or.inr h
  have hS : va_S A s.heap s.heap [] := va_S.rf
  have hP : va_P (dC, dI) vwCl [(sh, .inr (13, [.ref rg, .ref dk, .ref hd, .ref lg, .ref pl, .ref pr, .int 0, .int 0, .int 0, .int 0, .int 0, .int 0, .int 0, .int 0, .int 0, .int 0, .int 0])), (de, .inr (5, [.int 1, .int a1, .int a2, .int a3]))] s.heap := hP
  have hD : va_D A [(sh, .inr (13, [.ref rg, .ref dk, .ref hd, .ref lg, .ref pl, .ref pr, .int 0, .int 0, .int 0, .int 0, .int 0, .int 0, .int 0, .int 0, .int 0, .int 0, .int 0])), (de, .inr (5, [.int 1, .int a1, .int a2, .int a3]))] := hD
  have hl := lv_entry ([.ref sh, .ref de]) (n := 3) (Nat.le_of_ble_eq_true rfl)
  rw [lg_entry_eq]
  generalize (lg_sl ([.ref sh, .ref de]) ++ List.replicate (3 - (lg_sl ([.ref sh, .ref de])).length) Slot.unset).toArray = ls at hl ⊢
  have hl : lv_has ls 3 [(0, .ref sh), (1, .ref de)] := hl
  refine lv_aload_n hx hb dX9_obey_0 rfl (lv_at hl 1 rfl) ?_
  refine va_getN (D := (dC, dI)) (ci := 5) (v := .int 1) (C := RX1) (T := TX1) (N := 4) hx hb hts hiX1 hown hK hP 1 rfl rfl 0 (by decide) (va_Nw.use rfl (hM.1 _ (List.mem_of_getElem? (i := 49) rfl))) (fun _ h9 => h9) rfl dX9_obey_1 ?_
  refine lv_tableIn (off := 75) (tgt := 79) hx hb dX9_obey_4 (by decide +kernel) (by decide +kernel) rfl (by decide) ?_
  refine lv_aload_n hx hb dX9_obey_79 rfl (lv_at hl 0 rfl) ?_
  refine lv_aload_n hx hb dX9_obey_80 rfl (lv_at hl 1 rfl) ?_
  refine va_getN (D := (dC, dI)) (ci := 5) (v := .int a1) (C := RX1) (T := TX1) (N := 4) hx hb hts hiX1 hown hK hP 1 rfl rfl 1 (by decide) (va_Nw.use rfl (hM.1 _ (List.mem_of_getElem? (i := 50) rfl))) (fun _ h9 => h9) rfl dX9_obey_81 ?_
  refine va_put (D := (dC, dI)) (ci := 13) (v := .int a1) (ty := .int) (C := RX9) (T := TX9) (N := 17) hx hb hts hiX9 tyX9 tyX9_ok nmX9 hown hK hP hD hS 0 rfl rfl 8 (by decide) (hts (.fieldLink RX9 56 "SquareRig$Ship" "currentEast" "I") (by decide +kernel)) (fun _ h9 => h9) rfl (by decide +kernel) rfl rfl (Nat.le_of_ble_eq_true rfl) dX9_obey_84 (fun H locs hP hD hS => ?_)
  have hP : va_P (dC, dI) vwCl [(sh, .inr (13, [.ref rg, .ref dk, .ref hd, .ref lg, .ref pl, .ref pr, .int 0, .int 0, .int a1, .int 0, .int 0, .int 0, .int 0, .int 0, .int 0, .int 0, .int 0])), (de, .inr (5, [.int 1, .int a1, .int a2, .int a3]))] H := hP
  have hD : va_D A [(sh, .inr (13, [.ref rg, .ref dk, .ref hd, .ref lg, .ref pl, .ref pr, .int 0, .int 0, .int a1, .int 0, .int 0, .int 0, .int 0, .int 0, .int 0, .int 0, .int 0])), (de, .inr (5, [.int 1, .int a1, .int a2, .int a3]))] := hD
  refine lv_aload_n hx hb dX9_obey_87 rfl (lv_at hl 0 rfl) ?_
  refine lv_aload_n hx hb dX9_obey_88 rfl (lv_at hl 1 rfl) ?_
  refine va_getN (D := (dC, dI)) (ci := 5) (v := .int a2) (C := RX1) (T := TX1) (N := 4) hx hb hts hiX1 hown hK hP 1 rfl rfl 2 (by decide) (va_Nw.use rfl (hM.1 _ (List.mem_of_getElem? (i := 51) rfl))) (fun _ h9 => h9) rfl dX9_obey_89 ?_
  refine va_put (D := (dC, dI)) (ci := 13) (v := .int a2) (ty := .int) (C := RX9) (T := TX9) (N := 17) hx hb hts hiX9 tyX9 tyX9_ok nmX9 hown hK hP hD hS 0 rfl rfl 9 (by decide) (hts (.fieldLink RX9 59 "SquareRig$Ship" "currentNorth" "I") (by decide +kernel)) (fun _ h9 => h9) rfl (by decide +kernel) rfl rfl (Nat.le_of_ble_eq_true rfl) dX9_obey_92 (fun H locs hP hD hS => ?_)
  have hP : va_P (dC, dI) vwCl [(sh, .inr (13, [.ref rg, .ref dk, .ref hd, .ref lg, .ref pl, .ref pr, .int 0, .int 0, .int a1, .int a2, .int 0, .int 0, .int 0, .int 0, .int 0, .int 0, .int 0])), (de, .inr (5, [.int 1, .int a1, .int a2, .int a3]))] H := hP
  have hD : va_D A [(sh, .inr (13, [.ref rg, .ref dk, .ref hd, .ref lg, .ref pl, .ref pr, .int 0, .int 0, .int a1, .int a2, .int 0, .int 0, .int 0, .int 0, .int 0, .int 0, .int 0])), (de, .inr (5, [.int 1, .int a1, .int a2, .int a3]))] := hD
  refine lv_goto (tgt := 243) hx hb dX9_obey_95 (by decide) ?_
  exact W.vret hx hb hr (fun t ht hW => ⟨⟨(), rfl, trivial, kB_end (w9 := []) (t9 := []) hP hK hD [] [] rfl (by decide) rfl rfl t ht hW⟩, hS.F ht⟩) hS.2.2 dX9_obey_243
abbrev wd_k_obey_helm (z : Nat → Nat) (sh : Nat) (rg : Nat) (dk : Nat) (hd : Nat) (lg : Nat) (pl : Nat) (pr : Nat) (de : Nat) (a1 : Int32) (a2 : Int32) (a3 : Int32) : va_W := [(sh, .inr (13, [.ref rg, .ref dk, .ref hd, .ref lg, .ref pl, .ref pr, .int 0, .int 0, .int 0, .int 0, .int 0, .int 0, .int 0, .int 0, .int 0, .int 0, .int 0])), (de, .inr (5, [.int 2, .int a1, .int a2, .int a3]))]
set_option maxHeartbeats 4000000 in
set_option maxRecDepth 100000 in
theorem k_obey_helm (l : Launch) (dC : Nat → ClassId) (dI : Nat → Nat → Nat) (z zK zV : Nat → Nat) (sh : Nat) (rg : Nat) (dk : Nat) (hd : Nat) (lg : Nat) (pl : Nat) (pr : Nat) (de : Nat) (a1 : Int32) (a2 : Int32) (a3 : Int32) (sz : Nat)  : Met l yX9_obey wsX9_obey ({ frames := 0, cells := 0, slots := 0, locals := 0 }) (kP dC dI z zK zV [.ref sh, .ref de] sz (wd_k_obey_helm z sh rg dk hd lg pl pr de a1 a2 a3) []) (va_Qv (fun _ : Unit => True) (fun _ t => kB (dC, dI) (va_A (wd_k_obey_helm z sh rg dk hd lg pl pr de a1 a2 a3) sz) [] [] t) (va_A (wd_k_obey_helm z sh rg dk hd lg pl pr de a1 a2 a3) sz)) 0 0 (va_A (wd_k_obey_helm z sh rg dk hd lg pl pr de a1 a2 a3) sz) := by
  refine Met.ofW (cc := cX9_obey) (maxL := 3) (ret := none) (by decide) rfl ?_
  intro p e s m args below meth c s₁ B hml hv
  obtain ⟨rfl, hsz, hP, hK, hD0, hM⟩ := hv
  have hx := B.exec
  have hb := B.bytes
  have hr := B.returns
  have hts := atoms_spec (ws := wsX9_obey) B.pre
  have hown : s.vm.findClass RX9 = some m.cls := findClass_of_methodNamed B.named
  have hlocks := B.notSynchronized
  have hiX1 : ∀ w ∈ u_ws RX1 TX1 4, w ∈ wsX9_obey := by decide +kernel
  have hiX9 : ∀ w ∈ u_ws RX9 TX9 17, w ∈ wsX9_obey := by decide +kernel
  subst hsz
  have hD := hD0.self (sz := s.heap.size)
  generalize hAe : va_A (wd_k_obey_helm z sh rg dk hd lg pl pr de a1 a2 a3) s.heap.size = A at hD hM ⊢
  have hA : ∀ q : Nat, s.heap.size ≤ q → A q := fun q h => by rw [← hAe]; exact Or.inr h
  have hS : va_S A s.heap s.heap [] := va_S.rf
  have hP : va_P (dC, dI) vwCl [(sh, .inr (13, [.ref rg, .ref dk, .ref hd, .ref lg, .ref pl, .ref pr, .int 0, .int 0, .int 0, .int 0, .int 0, .int 0, .int 0, .int 0, .int 0, .int 0, .int 0])), (de, .inr (5, [.int 2, .int a1, .int a2, .int a3]))] s.heap := hP
  have hD : va_D A [(sh, .inr (13, [.ref rg, .ref dk, .ref hd, .ref lg, .ref pl, .ref pr, .int 0, .int 0, .int 0, .int 0, .int 0, .int 0, .int 0, .int 0, .int 0, .int 0, .int 0])), (de, .inr (5, [.int 2, .int a1, .int a2, .int a3]))] := hD
  have hl := lv_entry ([.ref sh, .ref de]) (n := 3) (Nat.le_of_ble_eq_true rfl)
  rw [lg_entry_eq]
  generalize (lg_sl ([.ref sh, .ref de]) ++ List.replicate (3 - (lg_sl ([.ref sh, .ref de])).length) Slot.unset).toArray = ls at hl ⊢
  have hl : lv_has ls 3 [(0, .ref sh), (1, .ref de)] := hl
  refine lv_aload_n hx hb dX9_obey_0 rfl (lv_at hl 1 rfl) ?_
  refine va_getN (D := (dC, dI)) (ci := 5) (v := .int 2) (C := RX1) (T := TX1) (N := 4) hx hb hts hiX1 hown hK hP 1 rfl rfl 0 (by decide) (va_Nw.use rfl (hM.1 _ (List.mem_of_getElem? (i := 49) rfl))) (fun _ h9 => h9) rfl dX9_obey_1 ?_
  refine lv_tableIn (off := 94) (tgt := 98) hx hb dX9_obey_4 (by decide +kernel) (by decide +kernel) rfl (by decide) ?_
  refine lv_aload_n hx hb dX9_obey_98 rfl (lv_at hl 0 rfl) ?_
  refine lv_aload_n hx hb dX9_obey_99 rfl (lv_at hl 1 rfl) ?_
  refine va_getN (D := (dC, dI)) (ci := 5) (v := .int a1) (C := RX1) (T := TX1) (N := 4) hx hb hts hiX1 hown hK hP 1 rfl rfl 1 (by decide) (va_Nw.use rfl (hM.1 _ (List.mem_of_getElem? (i := 50) rfl))) (fun _ h9 => h9) rfl dX9_obey_100 ?_
  refine va_put (D := (dC, dI)) (ci := 13) (v := .int a1) (ty := .int) (C := RX9) (T := TX9) (N := 17) hx hb hts hiX9 tyX9 tyX9_ok nmX9 hown hK hP hD hS 0 rfl rfl 10 (by decide) (hts (.fieldLink RX9 62 "SquareRig$Ship" "helm" "I") (by decide +kernel)) (fun _ h9 => h9) rfl (by decide +kernel) rfl rfl (Nat.le_of_ble_eq_true rfl) dX9_obey_103 (fun H locs hP hD hS => ?_)
  have hP : va_P (dC, dI) vwCl [(sh, .inr (13, [.ref rg, .ref dk, .ref hd, .ref lg, .ref pl, .ref pr, .int 0, .int 0, .int 0, .int 0, .int a1, .int 0, .int 0, .int 0, .int 0, .int 0, .int 0])), (de, .inr (5, [.int 2, .int a1, .int a2, .int a3]))] H := hP
  have hD : va_D A [(sh, .inr (13, [.ref rg, .ref dk, .ref hd, .ref lg, .ref pl, .ref pr, .int 0, .int 0, .int 0, .int 0, .int a1, .int 0, .int 0, .int 0, .int 0, .int 0, .int 0])), (de, .inr (5, [.int 2, .int a1, .int a2, .int a3]))] := hD
  refine lv_goto (tgt := 243) hx hb dX9_obey_106 (by decide) ?_
  exact W.vret hx hb hr (fun t ht hW => ⟨⟨(), rfl, trivial, kB_end (w9 := []) (t9 := []) hP hK hD [] [] rfl (by decide) rfl rfl t ht hW⟩, hS.F ht⟩) hS.2.2 dX9_obey_243
abbrev wd_k_obey_callAll (z : Nat → Nat) (sh : Nat) (rg : Nat) (dk : Nat) (w0 : Nat) (w1 : Nat) (ol : Nat) (hd : Nat) (lg : Nat) (pl : Nat) (pr : Nat) (de : Nat) (a1 : Int32) (a2 : Int32) (a3 : Int32) : va_W := [(sh, .inr (13, [.ref rg, .ref dk, .ref hd, .ref lg, .ref pl, .ref pr, .int 0, .int 0, .int 0, .int 0, .int 0, .int 0, .int 0, .int 0, .int 0, .int 0, .int 0])), (dk, .inr (4, [.ref w0, .ref w1, .ref ol, .int 0, .int 0, .int 0, .int 0])), (de, .inr (5, [.int 5, .int a1, .int a2, .int a3]))]
set_option maxHeartbeats 4000000 in
set_option maxRecDepth 100000 in
theorem k_obey_callAll (l : Launch) (dC : Nat → ClassId) (dI : Nat → Nat → Nat) (z zK zV : Nat → Nat) (sh : Nat) (rg : Nat) (dk : Nat) (w0 : Nat) (w1 : Nat) (ol : Nat) (hd : Nat) (lg : Nat) (pl : Nat) (pr : Nat) (de : Nat) (a1 : Int32) (a2 : Int32) (a3 : Int32) (sz : Nat)  : Met l yX9_obey wsX9_obey ({ frames := 0, cells := 0, slots := 0, locals := 0 }) (kP dC dI z zK zV [.ref sh, .ref de] sz (wd_k_obey_callAll z sh rg dk w0 w1 ol hd lg pl pr de a1 a2 a3) []) (va_Qv (fun _ : Unit => True) (fun _ t => kB (dC, dI) (va_A (wd_k_obey_callAll z sh rg dk w0 w1 ol hd lg pl pr de a1 a2 a3) sz) [] [] t) (va_A (wd_k_obey_callAll z sh rg dk w0 w1 ol hd lg pl pr de a1 a2 a3) sz)) 0 0 (va_A (wd_k_obey_callAll z sh rg dk w0 w1 ol hd lg pl pr de a1 a2 a3) sz) := by
  refine Met.ofW (cc := cX9_obey) (maxL := 3) (ret := none) (by decide) rfl ?_
  intro p e s m args below meth c s₁ B hml hv
  obtain ⟨rfl, hsz, hP, hK, hD0, hM⟩ := hv
  have hx := B.exec
  have hb := B.bytes
  have hr := B.returns
  have hts := atoms_spec (ws := wsX9_obey) B.pre
  have hown : s.vm.findClass RX9 = some m.cls := findClass_of_methodNamed B.named
  have hlocks := B.notSynchronized
  have hiX1 : ∀ w ∈ u_ws RX1 TX1 4, w ∈ wsX9_obey := by decide +kernel
  have hiX9 : ∀ w ∈ u_ws RX9 TX9 17, w ∈ wsX9_obey := by decide +kernel
  have hiX0 : ∀ w ∈ u_ws RX0 TX0 7, w ∈ wsX9_obey := by decide +kernel
  subst hsz
  have hD := hD0.self (sz := s.heap.size)
  generalize hAe : va_A (wd_k_obey_callAll z sh rg dk w0 w1 ol hd lg pl pr de a1 a2 a3) s.heap.size = A at hD hM ⊢
  have hA : ∀ q : Nat, s.heap.size ≤ q → A q := fun q h => by rw [← hAe]; exact Or.inr h
  have hS : va_S A s.heap s.heap [] := va_S.rf
  have hP : va_P (dC, dI) vwCl [(sh, .inr (13, [.ref rg, .ref dk, .ref hd, .ref lg, .ref pl, .ref pr, .int 0, .int 0, .int 0, .int 0, .int 0, .int 0, .int 0, .int 0, .int 0, .int 0, .int 0])), (dk, .inr (4, [.ref w0, .ref w1, .ref ol, .int 0, .int 0, .int 0, .int 0])), (de, .inr (5, [.int 5, .int a1, .int a2, .int a3]))] s.heap := hP
  have hD : va_D A [(sh, .inr (13, [.ref rg, .ref dk, .ref hd, .ref lg, .ref pl, .ref pr, .int 0, .int 0, .int 0, .int 0, .int 0, .int 0, .int 0, .int 0, .int 0, .int 0, .int 0])), (dk, .inr (4, [.ref w0, .ref w1, .ref ol, .int 0, .int 0, .int 0, .int 0])), (de, .inr (5, [.int 5, .int a1, .int a2, .int a3]))] := hD
  have hl := lv_entry ([.ref sh, .ref de]) (n := 3) (Nat.le_of_ble_eq_true rfl)
  rw [lg_entry_eq]
  generalize (lg_sl ([.ref sh, .ref de]) ++ List.replicate (3 - (lg_sl ([.ref sh, .ref de])).length) Slot.unset).toArray = ls at hl ⊢
  have hl : lv_has ls 3 [(0, .ref sh), (1, .ref de)] := hl
  refine lv_aload_n hx hb dX9_obey_0 rfl (lv_at hl 1 rfl) ?_
  refine va_getN (D := (dC, dI)) (ci := 5) (v := .int 5) (C := RX1) (T := TX1) (N := 4) hx hb hts hiX1 hown hK hP 2 rfl rfl 0 (by decide) (va_Nw.use rfl (hM.1 _ (List.mem_of_getElem? (i := 49) rfl))) (fun _ h9 => h9) rfl dX9_obey_1 ?_
  refine lv_tableIn (off := 139) (tgt := 143) hx hb dX9_obey_4 (by decide +kernel) (by decide +kernel) rfl (by decide) ?_
  refine lv_aload_n hx hb dX9_obey_143 rfl (lv_at hl 0 rfl) ?_
  refine va_get (D := (dC, dI)) (ci := 13) (v := .ref dk) (C := RX9) (T := TX9) (N := 17) hx hb hts hiX9 hown hK hP 0 rfl rfl 1 (by decide) (hts (.fieldLink RX9 21 "SquareRig$Ship" "deck" "LSquareRig$Deck;") (by decide +kernel)) (fun _ h9 => h9) rfl dX9_obey_144 ?_
  refine lv_aload_n hx hb dX9_obey_147 rfl (lv_at hl 1 rfl) ?_
  refine va_getN (D := (dC, dI)) (ci := 5) (v := .int a1) (C := RX1) (T := TX1) (N := 4) hx hb hts hiX1 hown hK hP 2 rfl rfl 1 (by decide) (va_Nw.use rfl (hM.1 _ (List.mem_of_getElem? (i := 50) rfl))) (fun _ h9 => h9) rfl dX9_obey_148 ?_
  refine lv_iconst (v := 1) hx hb dX9_obey_151 (by decide) ?_
  refine lv_icmp_ne (tgt := 159) hx hb dX9_obey_152 (by decide) (fun c1 => ?_) (fun c1 => ?_)
  · skip
    refine lv_iconst (v := 0) hx hb dX9_obey_159 (by decide) ?_
    refine va_putN (D := (dC, dI)) (ci := 4) (v := .int 0) (ty := .boolean) (C := RX0) (T := TX0) (N := 7) hx hb hts hiX0 tyX0 tyX0_ok nmX0 hown hK hP hD hS 1 rfl rfl 4 (by decide) (va_Nw.use rfl (hM.1 _ (List.mem_of_getElem? (i := 27) rfl))) (fun _ h9 => h9) rfl (by decide +kernel) (by decide +kernel) (by decide +kernel) (Nat.le_of_ble_eq_true rfl) dX9_obey_160 (fun H locs hP hD hS => ?_)
    have hP : va_P (dC, dI) vwCl [(sh, .inr (13, [.ref rg, .ref dk, .ref hd, .ref lg, .ref pl, .ref pr, .int 0, .int 0, .int 0, .int 0, .int 0, .int 0, .int 0, .int 0, .int 0, .int 0, .int 0])), (dk, .inr (4, [.ref w0, .ref w1, .ref ol, .int 0, .int 0, .int 0, .int 0])), (de, .inr (5, [.int 5, .int a1, .int a2, .int a3]))] H := hP
    have hD : va_D A [(sh, .inr (13, [.ref rg, .ref dk, .ref hd, .ref lg, .ref pl, .ref pr, .int 0, .int 0, .int 0, .int 0, .int 0, .int 0, .int 0, .int 0, .int 0, .int 0, .int 0])), (dk, .inr (4, [.ref w0, .ref w1, .ref ol, .int 0, .int 0, .int 0, .int 0])), (de, .inr (5, [.int 5, .int a1, .int a2, .int a3]))] := hD
    refine lv_goto (tgt := 243) hx hb dX9_obey_163 (by decide) ?_
    exact W.vret hx hb hr (fun t ht hW => ⟨⟨(), rfl, trivial, kB_end (w9 := []) (t9 := []) hP hK hD [] [] rfl (by decide) rfl rfl t ht hW⟩, hS.F ht⟩) hS.2.2 dX9_obey_243
  · skip
    refine lv_iconst (v := 1) hx hb dX9_obey_155 (by decide) ?_
    refine lv_goto (tgt := 160) hx hb dX9_obey_156 (by decide) ?_
    refine va_putN (D := (dC, dI)) (ci := 4) (v := .int 1) (ty := .boolean) (C := RX0) (T := TX0) (N := 7) hx hb hts hiX0 tyX0 tyX0_ok nmX0 hown hK hP hD hS 1 rfl rfl 4 (by decide) (va_Nw.use rfl (hM.1 _ (List.mem_of_getElem? (i := 27) rfl))) (fun _ h9 => h9) rfl (by decide +kernel) (by decide +kernel) (by decide +kernel) (Nat.le_of_ble_eq_true rfl) dX9_obey_160 (fun H locs hP hD hS => ?_)
    have hP : va_P (dC, dI) vwCl [(sh, .inr (13, [.ref rg, .ref dk, .ref hd, .ref lg, .ref pl, .ref pr, .int 0, .int 0, .int 0, .int 0, .int 0, .int 0, .int 0, .int 0, .int 0, .int 0, .int 0])), (dk, .inr (4, [.ref w0, .ref w1, .ref ol, .int 0, .int 1, .int 0, .int 0])), (de, .inr (5, [.int 5, .int a1, .int a2, .int a3]))] H := hP
    have hD : va_D A [(sh, .inr (13, [.ref rg, .ref dk, .ref hd, .ref lg, .ref pl, .ref pr, .int 0, .int 0, .int 0, .int 0, .int 0, .int 0, .int 0, .int 0, .int 0, .int 0, .int 0])), (dk, .inr (4, [.ref w0, .ref w1, .ref ol, .int 0, .int 1, .int 0, .int 0])), (de, .inr (5, [.int 5, .int a1, .int a2, .int a3]))] := hD
    refine lv_goto (tgt := 243) hx hb dX9_obey_163 (by decide) ?_
    exact W.vret hx hb hr (fun t ht hW => ⟨⟨(), rfl, trivial, kB_end (w9 := []) (t9 := []) hP hK hD [] [] rfl (by decide) rfl rfl t ht hW⟩, hS.F ht⟩) hS.2.2 dX9_obey_243
abbrev wd_k_obey_noon (z : Nat → Nat) (sh : Nat) (rg : Nat) (dk : Nat) (hd : Nat) (lg : Nat) (pl : Nat) (pr : Nat) (de : Nat) (a1 : Int32) (a2 : Int32) (a3 : Int32) : va_W := [(sh, .inr (13, [.ref rg, .ref dk, .ref hd, .ref lg, .ref pl, .ref pr, .int 0, .int 0, .int 0, .int 0, .int 0, .int 0, .int 0, .int 0, .int 0, .int 0, .int 0])), (pl, .inr (10, [.long 0, .long 0])), (pr, .inr (10, [.long 0, .long 0])), (de, .inr (5, [.int 9, .int a1, .int a2, .int a3]))]
set_option maxHeartbeats 4000000 in
set_option maxRecDepth 100000 in
theorem k_obey_noon (l : Launch) (dC : Nat → ClassId) (dI : Nat → Nat → Nat) (z zK zV : Nat → Nat) (sh : Nat) (rg : Nat) (dk : Nat) (hd : Nat) (lg : Nat) (pl : Nat) (pr : Nat) (de : Nat) (a1 : Int32) (a2 : Int32) (a3 : Int32) (sz : Nat)  : Met l yX9_obey wsX9_obey ({ frames := 0, cells := 0, slots := 0, locals := 0 }) (kP dC dI z zK zV [.ref sh, .ref de] sz (wd_k_obey_noon z sh rg dk hd lg pl pr de a1 a2 a3) []) (va_Qv (fun _ : Unit => True) (fun _ t => kB (dC, dI) (va_A (wd_k_obey_noon z sh rg dk hd lg pl pr de a1 a2 a3) sz) [] [] t) (va_A (wd_k_obey_noon z sh rg dk hd lg pl pr de a1 a2 a3) sz)) 0 0 (va_A (wd_k_obey_noon z sh rg dk hd lg pl pr de a1 a2 a3) sz) := by
  refine Met.ofW (cc := cX9_obey) (maxL := 3) (ret := none) (by decide) rfl ?_
  intro p e s m args below meth c s₁ B hml hv
  obtain ⟨rfl, hsz, hP, hK, hD0, hM⟩ := hv
  have hx := B.exec
  have hb := B.bytes
  have hr := B.returns
  have hts := atoms_spec (ws := wsX9_obey) B.pre
  have hown : s.vm.findClass RX9 = some m.cls := findClass_of_methodNamed B.named
  have hlocks := B.notSynchronized
  have hiX1 : ∀ w ∈ u_ws RX1 TX1 4, w ∈ wsX9_obey := by decide +kernel
  have hiX9 : ∀ w ∈ u_ws RX9 TX9 17, w ∈ wsX9_obey := by decide +kernel
  have hiX6 : ∀ w ∈ u_ws RX6 TX6 2, w ∈ wsX9_obey := by decide +kernel
  subst hsz
  have hD := hD0.self (sz := s.heap.size)
  generalize hAe : va_A (wd_k_obey_noon z sh rg dk hd lg pl pr de a1 a2 a3) s.heap.size = A at hD hM ⊢
  have hA : ∀ q : Nat, s.heap.size ≤ q → A q := fun q h => by rw [← hAe]; exact Or.inr h
  have hS : va_S A s.heap s.heap [] := va_S.rf
  have hP : va_P (dC, dI) vwCl [(sh, .inr (13, [.ref rg, .ref dk, .ref hd, .ref lg, .ref pl, .ref pr, .int 0, .int 0, .int 0, .int 0, .int 0, .int 0, .int 0, .int 0, .int 0, .int 0, .int 0])), (pl, .inr (10, [.long 0, .long 0])), (pr, .inr (10, [.long 0, .long 0])), (de, .inr (5, [.int 9, .int a1, .int a2, .int a3]))] s.heap := hP
  have hD : va_D A [(sh, .inr (13, [.ref rg, .ref dk, .ref hd, .ref lg, .ref pl, .ref pr, .int 0, .int 0, .int 0, .int 0, .int 0, .int 0, .int 0, .int 0, .int 0, .int 0, .int 0])), (pl, .inr (10, [.long 0, .long 0])), (pr, .inr (10, [.long 0, .long 0])), (de, .inr (5, [.int 9, .int a1, .int a2, .int a3]))] := hD
  have hl := lv_entry ([.ref sh, .ref de]) (n := 3) (Nat.le_of_ble_eq_true rfl)
  rw [lg_entry_eq]
  generalize (lg_sl ([.ref sh, .ref de]) ++ List.replicate (3 - (lg_sl ([.ref sh, .ref de])).length) Slot.unset).toArray = ls at hl ⊢
  have hl : lv_has ls 3 [(0, .ref sh), (1, .ref de)] := hl
  refine lv_aload_n hx hb dX9_obey_0 rfl (lv_at hl 1 rfl) ?_
  refine va_getN (D := (dC, dI)) (ci := 5) (v := .int 9) (C := RX1) (T := TX1) (N := 4) hx hb hts hiX1 hown hK hP 3 rfl rfl 0 (by decide) (va_Nw.use rfl (hM.1 _ (List.mem_of_getElem? (i := 49) rfl))) (fun _ h9 => h9) rfl dX9_obey_1 ?_
  refine lv_tableIn (off := 222) (tgt := 226) hx hb dX9_obey_4 (by decide +kernel) (by decide +kernel) rfl (by decide) ?_
  refine lv_aload_n hx hb dX9_obey_226 rfl (lv_at hl 0 rfl) ?_
  refine va_get (D := (dC, dI)) (ci := 13) (v := .ref pr) (C := RX9) (T := TX9) (N := 17) hx hb hts hiX9 hown hK hP 0 rfl rfl 5 (by decide) (hts (.fieldLink RX9 46 "SquareRig$Ship" "reckoned" "LSquareRig$Place;") (by decide +kernel)) (fun _ h9 => h9) rfl dX9_obey_227 ?_
  refine lv_aload_n hx hb dX9_obey_230 rfl (lv_at hl 0 rfl) ?_
  refine va_get (D := (dC, dI)) (ci := 13) (v := .ref pl) (C := RX9) (T := TX9) (N := 17) hx hb hts hiX9 hown hK hP 0 rfl rfl 4 (by decide) (hts (.fieldLink RX9 42 "SquareRig$Ship" "place" "LSquareRig$Place;") (by decide +kernel)) (fun _ h9 => h9) rfl dX9_obey_231 ?_
  refine va_getN (D := (dC, dI)) (ci := 10) (v := .long 0) (C := RX6) (T := TX6) (N := 2) hx hb hts hiX6 hown hK hP 1 rfl rfl 1 (by decide) (va_Nw.use rfl (hM.1 _ (List.mem_of_getElem? (i := 34) rfl))) (fun _ h9 => h9) rfl dX9_obey_234 ?_
  refine va_putN (D := (dC, dI)) (ci := 10) (v := .long 0) (ty := .long) (C := RX6) (T := TX6) (N := 2) hx hb hts hiX6 tyX6 tyX6_ok nmX6 hown hK hP hD hS 2 rfl rfl 1 (by decide) (va_Nw.use rfl (hM.1 _ (List.mem_of_getElem? (i := 34) rfl))) (fun _ h9 => h9) rfl (by decide +kernel) rfl rfl (Nat.le_of_ble_eq_true rfl) dX9_obey_237 (fun H locs hP hD hS => ?_)
  have hP : va_P (dC, dI) vwCl [(sh, .inr (13, [.ref rg, .ref dk, .ref hd, .ref lg, .ref pl, .ref pr, .int 0, .int 0, .int 0, .int 0, .int 0, .int 0, .int 0, .int 0, .int 0, .int 0, .int 0])), (pl, .inr (10, [.long 0, .long 0])), (pr, .inr (10, [.long 0, .long 0])), (de, .inr (5, [.int 9, .int a1, .int a2, .int a3]))] H := hP
  have hD : va_D A [(sh, .inr (13, [.ref rg, .ref dk, .ref hd, .ref lg, .ref pl, .ref pr, .int 0, .int 0, .int 0, .int 0, .int 0, .int 0, .int 0, .int 0, .int 0, .int 0, .int 0])), (pl, .inr (10, [.long 0, .long 0])), (pr, .inr (10, [.long 0, .long 0])), (de, .inr (5, [.int 9, .int a1, .int a2, .int a3]))] := hD
  refine lv_goto (tgt := 243) hx hb dX9_obey_240 (by decide) ?_
  exact W.vret hx hb hr (fun t ht hW => ⟨⟨(), rfl, trivial, kB_end (w9 := []) (t9 := []) hP hK hD [] [] rfl (by decide) rfl rfl t ht hW⟩, hS.F ht⟩) hS.2.2 dX9_obey_243
