theorem k_b8t : ∀ k, k < 128 → ∀ j, j < 256 → (nI k = (nI j).toInt8.toInt32 → nI j = nI k) := by decide +kernel
theorem k_b8 {q : Int32} (k : Nat) (hk : k < 128) (hr : (0 : Int32) ≤ q ∧ q ≤ 255) (h : ¬ q = nI k) : ¬ nI k = q.toInt8.toInt32 := by
  intro e
  obtain ⟨j, hj, rfl⟩ := nI_of2 (M := 255) (n := 255) (by decide) (fun h9 => absurd hr.1 (k_ltn h9)) hr.2
  exact h (k_b8t k hk j (by omega) e)
theorem k_b8x {q : Int32} (k : Nat) (hk : k < 128) (hr : (0 : Int32) ≤ q ∧ q ≤ 255) (h : ¬ q = nI k) : ¬ q.toInt8.toInt32 = nI k := fun e => k_b8 k hk hr h e.symm
theorem dX14_init_0 : decode cX14_init 0 = .ok (.aload_n 0, 1) := by decide +kernel
theorem dX14_init_1 : decode cX14_init 1 = .ok (.invokespecial 1, 3) := by decide +kernel
theorem dX14_init_4 : decode cX14_init 4 = .ok (.aload_n 0, 1) := by decide +kernel
theorem dX14_init_5 : decode cX14_init 5 = .ok (.bipush 119, 2) := by decide +kernel
theorem dX14_init_7 : decode cX14_init 7 = .ok (.putfield 7, 3) := by decide +kernel
theorem dX14_init_10 : decode cX14_init 10 = .ok (.aload_n 0, 1) := by decide +kernel
theorem dX14_init_11 : decode cX14_init 11 = .ok (.iload_n 1, 1) := by decide +kernel
theorem dX14_init_12 : decode cX14_init 12 = .ok (.putfield 13, 3) := by decide +kernel
theorem dX14_init_15 : decode cX14_init 15 = .ok (.aload_n 0, 1) := by decide +kernel
theorem dX14_init_16 : decode cX14_init 16 = .ok (.iload_n 2, 1) := by decide +kernel
theorem dX14_init_17 : decode cX14_init 17 = .ok (.putfield 16, 3) := by decide +kernel
theorem dX14_init_20 : decode cX14_init 20 = .ok (.aload_n 0, 1) := by decide +kernel
theorem dX14_init_21 : decode cX14_init 21 = .ok (.iload_n 3, 1) := by decide +kernel
theorem dX14_init_22 : decode cX14_init 22 = .ok (.putfield 20, 3) := by decide +kernel
theorem dX14_init_25 : decode cX14_init 25 = .ok (.aload_n 0, 1) := by decide +kernel
theorem dX14_init_26 : decode cX14_init 26 = .ok (.iload 4, 2) := by decide +kernel
theorem dX14_init_28 : decode cX14_init 28 = .ok (.putfield 23, 3) := by decide +kernel
theorem dX14_init_31 : decode cX14_init 31 = .ok (.return_, 1) := by decide +kernel
set_option maxRecDepth 20000 in
theorem ggX15_order_J0_indexOf_0f7a4 : GoodIn wsX15_order wsJ0_indexOf_0f7a4 := goodIn_r _ [15, 16, 17, 18, 14, 19, 20, 21, 22, 23, 24, 25, 26, 27, 28, 29, 30, 31, 32, 33, 34, 35, 36, 37, 38, 39, 40, 41, 42, 43, 44, 45, 46, 47, 48, 49, 50, 51, 52, 53, 54, 55, 56, 57, 58, 59, 60, 61, 62, 63, 64, 65, 66, 67, 68, 69, 70, 71, 72, 73, 74, 75, 76, 77, 78, 79, 80, 81, 82, 83, 84, 85, 86, 87, 88, 89, 90, 91, 92, 93, 94, 95, 96, 97, 98, 99, 204, 205] (by decide +kernel) (by decide +kernel)
set_option maxRecDepth 20000 in
theorem gX15_order_J0_indexOf_0f7a4 : GoodIn wsX15_order (wsV RX15 145 RJ0 yJ0_indexOf_0f7a4 wsJ0_indexOf_0f7a4) := goodIn_app (goodIn_of _ (by decide +kernel)) ggX15_order_J0_indexOf_0f7a4
set_option maxRecDepth 20000 in
theorem ggX15_order_X15_in : GoodIn wsX15_order wsX15_in := goodIn_r _ [103] (by decide +kernel) (by decide +kernel)
set_option maxRecDepth 20000 in
theorem gX15_order_X15_in : GoodIn wsX15_order (va_wsS RX15 120 yX15_in wsX15_in) := goodIn_app (goodIn_of _ (by decide +kernel)) ggX15_order_X15_in
set_option maxRecDepth 20000 in
theorem ggX15_order_Jx4a65c_size_8abf5 : GoodIn wsX15_order wsJx4a65c_size_8abf5 := goodIn_r _ [108, 109, 206, 207, 208] (by decide +kernel) (by decide +kernel)
set_option maxRecDepth 20000 in
theorem gX15_order_Jx4a65c_size_8abf5_f156Jx4a65c : GoodIn wsX15_order (va_wsF RX15 156 RJx4a65c ⟨"java/util/List", "size", "()I"⟩ yJx4a65c_size_8abf5 wsJx4a65c_size_8abf5) := goodIn_app (goodIn_of _ (by decide +kernel)) ggX15_order_Jx4a65c_size_8abf5
set_option maxRecDepth 20000 in
theorem ggX15_order_X14_init : GoodIn wsX15_order wsX14_init := goodIn_r _ [112, 113, 114, 115, 116, 117, 118, 119, 120, 198, 199, 200, 201, 202, 203] (by decide +kernel) (by decide +kernel)
set_option maxRecDepth 20000 in
theorem gX15_order_X14_init : GoodIn wsX15_order (wsX14_init) := ggX15_order_X14_init
set_option maxRecDepth 20000 in
theorem ggX15_order_Jx4a65c_add_9ea2d : GoodIn wsX15_order wsJx4a65c_add_9ea2d := goodIn_r _ [124, 125, 126, 127, 109, 128, 129, 130, 107, 131, 132, 133, 134, 135, 136, 137, 138, 139, 140, 141, 40, 41, 42, 142, 143, 144, 145, 146, 147, 148, 149, 150, 151, 152, 153, 154, 155, 156, 157, 158, 159, 160, 161, 162, 163, 164, 165, 44, 45, 166, 167, 168, 169, 206, 207, 208] (by decide +kernel) (by decide +kernel)
set_option maxRecDepth 20000 in
theorem gX15_order_Jx4a65c_add_9ea2d_f169Jx4a65c : GoodIn wsX15_order (va_wsF RX15 169 RJx4a65c ⟨"java/util/List", "add", "(Ljava/lang/Object;)Z"⟩ yJx4a65c_add_9ea2d wsJx4a65c_add_9ea2d) := goodIn_app (goodIn_of _ (by decide +kernel)) ggX15_order_Jx4a65c_add_9ea2d
theorem dX15_order_0 : decode cX15_order 0 = .ok (.iload_n 1, 1) := by decide +kernel
theorem dX15_order_1 : decode cX15_order 1 = .ok (.bipush 115, 2) := by decide +kernel
theorem dX15_order_3 : decode cX15_order 3 = .ok (.if_icmp .eq 9, 3) := by decide +kernel
theorem dX15_order_6 : decode cX15_order 6 = .ok (.iload_n 1, 1) := by decide +kernel
theorem dX15_order_7 : decode cX15_order 7 = .ok (.bipush 109, 2) := by decide +kernel
theorem dX15_order_9 : decode cX15_order 9 = .ok (.if_icmp .ne 7, 3) := by decide +kernel
theorem dX15_order_12 : decode cX15_order 12 = .ok (.iconst 1, 1) := by decide +kernel
theorem dX15_order_13 : decode cX15_order 13 = .ok (.goto 4, 3) := by decide +kernel
theorem dX15_order_16 : decode cX15_order 16 = .ok (.iconst 0, 1) := by decide +kernel
theorem dX15_order_17 : decode cX15_order 17 = .ok (.istore 4, 2) := by decide +kernel
theorem dX15_order_19 : decode cX15_order 19 = .ok (.ldc 143, 2) := by decide +kernel
theorem dX15_order_21 : decode cX15_order 21 = .ok (.iload_n 1, 1) := by decide +kernel
theorem dX15_order_22 : decode cX15_order 22 = .ok (.invokevirtual 145, 3) := by decide +kernel
theorem dX15_order_25 : decode cX15_order 25 = .ok (.ifCond .lt 30, 3) := by decide +kernel
theorem dX15_order_28 : decode cX15_order 28 = .ok (.iload_n 2, 1) := by decide +kernel
theorem dX15_order_29 : decode cX15_order 29 = .ok (.i2l, 1) := by decide +kernel
theorem dX15_order_30 : decode cX15_order 30 = .ok (.lconst 0, 1) := by decide +kernel
theorem dX15_order_31 : decode cX15_order 31 = .ok (.iload 4, 2) := by decide +kernel
theorem dX15_order_33 : decode cX15_order 33 = .ok (.ifCond .eq 9, 3) := by decide +kernel
theorem dX15_order_36 : decode cX15_order 36 = .ok (.ldc2_w 148, 3) := by decide +kernel
theorem dX15_order_39 : decode cX15_order 39 = .ok (.goto 6, 3) := by decide +kernel
theorem dX15_order_42 : decode cX15_order 42 = .ok (.ldc2_w 150, 3) := by decide +kernel
theorem dX15_order_45 : decode cX15_order 45 = .ok (.invokestatic 120, 3) := by decide +kernel
theorem dX15_order_48 : decode cX15_order 48 = .ok (.ifCond .eq 7, 3) := by decide +kernel
theorem dX15_order_51 : decode cX15_order 51 = .ok (.iconst 1, 1) := by decide +kernel
theorem dX15_order_52 : decode cX15_order 52 = .ok (.goto 4, 3) := by decide +kernel
theorem dX15_order_55 : decode cX15_order 55 = .ok (.iconst 0, 1) := by decide +kernel
theorem dX15_order_56 : decode cX15_order 56 = .ok (.istore 5, 2) := by decide +kernel
theorem dX15_order_58 : decode cX15_order 58 = .ok (.iload 5, 2) := by decide +kernel
theorem dX15_order_60 : decode cX15_order 60 = .ok (.ifCond .eq 55, 3) := by decide +kernel
theorem dX15_order_63 : decode cX15_order 63 = .ok (.iload_n 1, 1) := by decide +kernel
theorem dX15_order_64 : decode cX15_order 64 = .ok (.bipush 115, 2) := by decide +kernel
theorem dX15_order_66 : decode cX15_order 66 = .ok (.if_icmp .ne 18, 3) := by decide +kernel
theorem dX15_order_69 : decode cX15_order 69 = .ok (.iload_n 3, 1) := by decide +kernel
theorem dX15_order_70 : decode cX15_order 70 = .ok (.i2l, 1) := by decide +kernel
theorem dX15_order_71 : decode cX15_order 71 = .ok (.lconst 0, 1) := by decide +kernel
theorem dX15_order_72 : decode cX15_order 72 = .ok (.ldc2_w 150, 3) := by decide +kernel
theorem dX15_order_75 : decode cX15_order 75 = .ok (.invokestatic 120, 3) := by decide +kernel
theorem dX15_order_78 : decode cX15_order 78 = .ok (.ifCond .eq 37, 3) := by decide +kernel
theorem dX15_order_81 : decode cX15_order 81 = .ok (.goto 30, 3) := by decide +kernel
theorem dX15_order_84 : decode cX15_order 84 = .ok (.iload_n 1, 1) := by decide +kernel
theorem dX15_order_85 : decode cX15_order 85 = .ok (.bipush 98, 2) := by decide +kernel
theorem dX15_order_87 : decode cX15_order 87 = .ok (.if_icmp .ne 20, 3) := by decide +kernel
theorem dX15_order_90 : decode cX15_order 90 = .ok (.iload_n 3, 1) := by decide +kernel
theorem dX15_order_91 : decode cX15_order 91 = .ok (.i2l, 1) := by decide +kernel
theorem dX15_order_92 : decode cX15_order 92 = .ok (.ldc2_w 152, 3) := by decide +kernel
theorem dX15_order_95 : decode cX15_order 95 = .ok (.ldc2_w 154, 3) := by decide +kernel
theorem dX15_order_98 : decode cX15_order 98 = .ok (.invokestatic 120, 3) := by decide +kernel
theorem dX15_order_101 : decode cX15_order 101 = .ok (.ifCond .eq 14, 3) := by decide +kernel
theorem dX15_order_104 : decode cX15_order 104 = .ok (.goto 7, 3) := by decide +kernel
theorem dX15_order_107 : decode cX15_order 107 = .ok (.iload_n 3, 1) := by decide +kernel
theorem dX15_order_108 : decode cX15_order 108 = .ok (.ifCond .ne 7, 3) := by decide +kernel
theorem dX15_order_111 : decode cX15_order 111 = .ok (.iconst 1, 1) := by decide +kernel
theorem dX15_order_112 : decode cX15_order 112 = .ok (.goto 4, 3) := by decide +kernel
theorem dX15_order_115 : decode cX15_order 115 = .ok (.iconst 0, 1) := by decide +kernel
theorem dX15_order_116 : decode cX15_order 116 = .ok (.istore 5, 2) := by decide +kernel
theorem dX15_order_118 : decode cX15_order 118 = .ok (.aload_n 0, 1) := by decide +kernel
theorem dX15_order_119 : decode cX15_order 119 = .ok (.iload 5, 2) := by decide +kernel
theorem dX15_order_121 : decode cX15_order 121 = .ok (.ifCond .ne 7, 3) := by decide +kernel
theorem dX15_order_124 : decode cX15_order 124 = .ok (.iconst 1, 1) := by decide +kernel
theorem dX15_order_125 : decode cX15_order 125 = .ok (.goto 22, 3) := by decide +kernel
theorem dX15_order_128 : decode cX15_order 128 = .ok (.aload_n 0, 1) := by decide +kernel
theorem dX15_order_129 : decode cX15_order 129 = .ok (.getfield 19, 3) := by decide +kernel
theorem dX15_order_132 : decode cX15_order 132 = .ok (.invokeinterface 156 1, 5) := by decide +kernel
theorem dX15_order_137 : decode cX15_order 137 = .ok (.bipush 100, 2) := by decide +kernel
theorem dX15_order_139 : decode cX15_order 139 = .ok (.if_icmp .ne 7, 3) := by decide +kernel
theorem dX15_order_146 : decode cX15_order 146 = .ok (.iconst 0, 1) := by decide +kernel
theorem dX15_order_147 : decode cX15_order 147 = .ok (.putfield 45, 3) := by decide +kernel
theorem dX15_order_150 : decode cX15_order 150 = .ok (.aload_n 0, 1) := by decide +kernel
theorem dX15_order_151 : decode cX15_order 151 = .ok (.getfield 45, 3) := by decide +kernel
theorem dX15_order_154 : decode cX15_order 154 = .ok (.ifCond .le 5, 3) := by decide +kernel
theorem dX15_order_157 : decode cX15_order 157 = .ok (.iconst (-1), 1) := by decide +kernel
theorem dX15_order_158 : decode cX15_order 158 = .ok (.ireturn, 1) := by decide +kernel
theorem dX15_order_159 : decode cX15_order 159 = .ok (.aload_n 0, 1) := by decide +kernel
theorem dX15_order_160 : decode cX15_order 160 = .ok (.getfield 19, 3) := by decide +kernel
theorem dX15_order_163 : decode cX15_order 163 = .ok (.new 161, 3) := by decide +kernel
theorem dX15_order_166 : decode cX15_order 166 = .ok (.dup, 1) := by decide +kernel
theorem dX15_order_167 : decode cX15_order 167 = .ok (.iload_n 1, 1) := by decide +kernel
theorem dX15_order_168 : decode cX15_order 168 = .ok (.iload_n 2, 1) := by decide +kernel
theorem dX15_order_169 : decode cX15_order 169 = .ok (.iload_n 3, 1) := by decide +kernel
theorem dX15_order_170 : decode cX15_order 170 = .ok (.aload_n 0, 1) := by decide +kernel
theorem dX15_order_171 : decode cX15_order 171 = .ok (.getfield 163, 3) := by decide +kernel
theorem dX15_order_174 : decode cX15_order 174 = .ok (.invokespecial 166, 3) := by decide +kernel
theorem dX15_order_177 : decode cX15_order 177 = .ok (.invokeinterface 169 2, 5) := by decide +kernel
theorem dX15_order_182 : decode cX15_order 182 = .ok (.pop, 1) := by decide +kernel
theorem dX15_order_183 : decode cX15_order 183 = .ok (.aload_n 0, 1) := by decide +kernel
theorem dX15_order_184 : decode cX15_order 184 = .ok (.getfield 19, 3) := by decide +kernel
theorem dX15_order_187 : decode cX15_order 187 = .ok (.invokeinterface 156 1, 5) := by decide +kernel
theorem dX15_order_192 : decode cX15_order 192 = .ok (.iconst 1, 1) := by decide +kernel
theorem dX15_order_193 : decode cX15_order 193 = .ok (.isub, 1) := by decide +kernel
theorem dX15_order_194 : decode cX15_order 194 = .ok (.ireturn, 1) := by decide +kernel
set_option maxRecDepth 20000 in
theorem ggJ0_length_8abf5_J0_coder_7d493 : GoodIn wsJ0_length_8abf5 wsJ0_coder_7d493 := goodIn_r _ [6, 7, 8, 9, 10] (by decide +kernel) (by decide +kernel)
set_option maxRecDepth 20000 in
theorem gJ0_length_8abf5_J0_coder_7d493 : GoodIn wsJ0_length_8abf5 (wsV RJ0 335 RJ0 yJ0_coder_7d493 wsJ0_coder_7d493) := goodIn_app (goodIn_of _ (by decide +kernel)) ggJ0_length_8abf5_J0_coder_7d493
theorem dJ0_length_8abf5_0 : decode cJ0_length_8abf5 0 = .ok (.aload_n 0, 1) := by decide +kernel
theorem dJ0_length_8abf5_1 : decode cJ0_length_8abf5 1 = .ok (.getfield 9, 3) := by decide +kernel
theorem dJ0_length_8abf5_4 : decode cJ0_length_8abf5 4 = .ok (.arraylength, 1) := by decide +kernel
theorem dJ0_length_8abf5_5 : decode cJ0_length_8abf5 5 = .ok (.aload_n 0, 1) := by decide +kernel
theorem dJ0_length_8abf5_6 : decode cJ0_length_8abf5 6 = .ok (.invokevirtual 335, 3) := by decide +kernel
theorem dJ0_length_8abf5_9 : decode cJ0_length_8abf5 9 = .ok (.ishr, 1) := by decide +kernel
theorem dJ0_length_8abf5_10 : decode cJ0_length_8abf5 10 = .ok (.ireturn, 1) := by decide +kernel
set_option maxRecDepth 20000 in
theorem ggJ0_indexOf_0f7a4_J0_indexOf_7cf53 : GoodIn wsJ0_indexOf_0f7a4 wsJ0_indexOf_7cf53 := goodIn_r _ [5, 6, 7, 8, 9, 4, 10, 11, 12, 13, 14, 15, 16, 17, 18, 19, 20, 21, 22, 23, 24, 25, 26, 27, 28, 29, 30, 31, 32, 33, 34, 35, 36, 37, 38, 39, 40, 41, 42, 43, 44, 45, 46, 47, 48, 49, 50, 51, 52, 53, 54, 55, 56, 57, 58, 59, 60, 61, 62, 63, 64, 65, 66, 67, 68, 69, 70, 71, 72, 73, 74, 75, 76, 77, 78, 79, 80, 81, 82, 83, 84, 85, 86, 87] (by decide +kernel) (by decide +kernel)
set_option maxRecDepth 20000 in
theorem gJ0_indexOf_0f7a4_J0_indexOf_7cf53 : GoodIn wsJ0_indexOf_0f7a4 (wsV RJ0 633 RJ0 yJ0_indexOf_7cf53 wsJ0_indexOf_7cf53) := goodIn_app (goodIn_of _ (by decide +kernel)) ggJ0_indexOf_0f7a4_J0_indexOf_7cf53
theorem dJ0_indexOf_0f7a4_0 : decode cJ0_indexOf_0f7a4 0 = .ok (.aload_n 0, 1) := by decide +kernel
theorem dJ0_indexOf_0f7a4_1 : decode cJ0_indexOf_0f7a4 1 = .ok (.iload_n 1, 1) := by decide +kernel
theorem dJ0_indexOf_0f7a4_2 : decode cJ0_indexOf_0f7a4 2 = .ok (.iconst 0, 1) := by decide +kernel
theorem dJ0_indexOf_0f7a4_3 : decode cJ0_indexOf_0f7a4 3 = .ok (.invokevirtual 633, 3) := by decide +kernel
theorem dJ0_indexOf_0f7a4_6 : decode cJ0_indexOf_0f7a4 6 = .ok (.ireturn, 1) := by decide +kernel
set_option maxRecDepth 20000 in
theorem ggJ0_indexOf_7cf53_J0_isLatin1_aae02 : GoodIn wsJ0_indexOf_7cf53 wsJ0_isLatin1_aae02 := goodIn_r _ [6, 7, 8, 82, 83] (by decide +kernel) (by decide +kernel)
set_option maxRecDepth 20000 in
theorem gJ0_indexOf_7cf53_J0_isLatin1_aae02 : GoodIn wsJ0_indexOf_7cf53 (wsV RJ0 492 RJ0 yJ0_isLatin1_aae02 wsJ0_isLatin1_aae02) := goodIn_app (goodIn_of _ (by decide +kernel)) ggJ0_indexOf_7cf53_J0_isLatin1_aae02
set_option maxRecDepth 20000 in
theorem ggJ0_indexOf_7cf53_J0_length_8abf5 : GoodIn wsJ0_indexOf_7cf53 wsJ0_length_8abf5 := goodIn_r _ [12, 1, 13, 14, 15, 5, 16, 7, 8, 82, 83] (by decide +kernel) (by decide +kernel)
set_option maxRecDepth 20000 in
theorem gJ0_indexOf_7cf53_J0_length_8abf5 : GoodIn wsJ0_indexOf_7cf53 (wsV RJ0 505 RJ0 yJ0_length_8abf5 wsJ0_length_8abf5) := goodIn_app (goodIn_of _ (by decide +kernel)) ggJ0_indexOf_7cf53_J0_length_8abf5
set_option maxRecDepth 20000 in
theorem ggJ0_indexOf_7cf53_J1_indexOf_4cfef : GoodIn wsJ0_indexOf_7cf53 wsJ1_indexOf_4cfef := goodIn_r _ [20, 21, 22, 23, 24, 25, 26, 27, 28, 29, 19, 30, 31, 32, 33] (by decide +kernel) (by decide +kernel)
set_option maxRecDepth 20000 in
theorem gJ0_indexOf_7cf53_J1_indexOf_4cfef : GoodIn wsJ0_indexOf_7cf53 (va_wsS RJ0 637 yJ1_indexOf_4cfef wsJ1_indexOf_4cfef) := goodIn_app (goodIn_of _ (by decide +kernel)) ggJ0_indexOf_7cf53_J1_indexOf_4cfef
theorem dJ0_indexOf_7cf53_0 : decode cJ0_indexOf_7cf53 0 = .ok (.aload_n 0, 1) := by decide +kernel
theorem dJ0_indexOf_7cf53_1 : decode cJ0_indexOf_7cf53 1 = .ok (.invokevirtual 492, 3) := by decide +kernel
theorem dJ0_indexOf_7cf53_4 : decode cJ0_indexOf_7cf53 4 = .ok (.ifCond .eq 19, 3) := by decide +kernel
theorem dJ0_indexOf_7cf53_7 : decode cJ0_indexOf_7cf53 7 = .ok (.aload_n 0, 1) := by decide +kernel
theorem dJ0_indexOf_7cf53_8 : decode cJ0_indexOf_7cf53 8 = .ok (.getfield 9, 3) := by decide +kernel
theorem dJ0_indexOf_7cf53_11 : decode cJ0_indexOf_7cf53 11 = .ok (.iload_n 1, 1) := by decide +kernel
theorem dJ0_indexOf_7cf53_12 : decode cJ0_indexOf_7cf53 12 = .ok (.iload_n 2, 1) := by decide +kernel
theorem dJ0_indexOf_7cf53_13 : decode cJ0_indexOf_7cf53 13 = .ok (.aload_n 0, 1) := by decide +kernel
theorem dJ0_indexOf_7cf53_14 : decode cJ0_indexOf_7cf53 14 = .ok (.invokevirtual 505, 3) := by decide +kernel
theorem dJ0_indexOf_7cf53_17 : decode cJ0_indexOf_7cf53 17 = .ok (.invokestatic 637, 3) := by decide +kernel
theorem dJ0_indexOf_7cf53_20 : decode cJ0_indexOf_7cf53 20 = .ok (.goto 16, 3) := by decide +kernel
theorem dJ0_indexOf_7cf53_36 : decode cJ0_indexOf_7cf53 36 = .ok (.ireturn, 1) := by decide +kernel
theorem dJ0_coder_7d493_0 : decode cJ0_coder_7d493 0 = .ok (.getstatic 38, 3) := by decide +kernel
theorem dJ0_coder_7d493_3 : decode cJ0_coder_7d493 3 = .ok (.ifCond .eq 10, 3) := by decide +kernel
theorem dJ0_coder_7d493_6 : decode cJ0_coder_7d493 6 = .ok (.aload_n 0, 1) := by decide +kernel
theorem dJ0_coder_7d493_7 : decode cJ0_coder_7d493 7 = .ok (.getfield 15, 3) := by decide +kernel
theorem dJ0_coder_7d493_10 : decode cJ0_coder_7d493 10 = .ok (.goto 4, 3) := by decide +kernel
theorem dJ0_coder_7d493_14 : decode cJ0_coder_7d493 14 = .ok (.ireturn, 1) := by decide +kernel
theorem dJ1_canEncode_9a6ad_0 : decode cJ1_canEncode_9a6ad 0 = .ok (.iload_n 0, 1) := by decide +kernel
theorem dJ1_canEncode_9a6ad_1 : decode cJ1_canEncode_9a6ad 1 = .ok (.ifCond .lt 14, 3) := by decide +kernel
theorem dJ1_canEncode_9a6ad_4 : decode cJ1_canEncode_9a6ad 4 = .ok (.iload_n 0, 1) := by decide +kernel
theorem dJ1_canEncode_9a6ad_5 : decode cJ1_canEncode_9a6ad 5 = .ok (.sipush 255, 3) := by decide +kernel
theorem dJ1_canEncode_9a6ad_8 : decode cJ1_canEncode_9a6ad 8 = .ok (.if_icmp .gt 7, 3) := by decide +kernel
theorem dJ1_canEncode_9a6ad_11 : decode cJ1_canEncode_9a6ad 11 = .ok (.iconst 1, 1) := by decide +kernel
theorem dJ1_canEncode_9a6ad_12 : decode cJ1_canEncode_9a6ad 12 = .ok (.goto 4, 3) := by decide +kernel
theorem dJ1_canEncode_9a6ad_15 : decode cJ1_canEncode_9a6ad 15 = .ok (.iconst 0, 1) := by decide +kernel
theorem dJ1_canEncode_9a6ad_16 : decode cJ1_canEncode_9a6ad 16 = .ok (.ireturn, 1) := by decide +kernel
set_option maxRecDepth 20000 in
theorem ggJ1_indexOf_4cfef_J1_canEncode_9a6ad : GoodIn wsJ1_indexOf_4cfef wsJ1_canEncode_9a6ad := goodIn_r _ [11] (by decide +kernel) (by decide +kernel)
set_option maxRecDepth 20000 in
theorem gJ1_indexOf_4cfef_J1_canEncode_9a6ad : GoodIn wsJ1_indexOf_4cfef (va_wsS RJ1 88 yJ1_canEncode_9a6ad wsJ1_canEncode_9a6ad) := goodIn_app (goodIn_of _ (by decide +kernel)) ggJ1_indexOf_4cfef_J1_canEncode_9a6ad
set_option maxRecDepth 20000 in
theorem ggJ1_indexOf_4cfef_J1_indexOfChar_4cfef : GoodIn wsJ1_indexOf_4cfef wsJ1_indexOfChar_4cfef := goodIn_r _ [14] (by decide +kernel) (by decide +kernel)
set_option maxRecDepth 20000 in
theorem gJ1_indexOf_4cfef_J1_indexOfChar_4cfef : GoodIn wsJ1_indexOf_4cfef (va_wsS RJ1 95 yJ1_indexOfChar_4cfef wsJ1_indexOfChar_4cfef) := goodIn_app (goodIn_of _ (by decide +kernel)) ggJ1_indexOf_4cfef_J1_indexOfChar_4cfef
theorem dJ1_indexOf_4cfef_0 : decode cJ1_indexOf_4cfef 0 = .ok (.iload_n 1, 1) := by decide +kernel
theorem dJ1_indexOf_4cfef_1 : decode cJ1_indexOf_4cfef 1 = .ok (.invokestatic 88, 3) := by decide +kernel
theorem dJ1_indexOf_4cfef_4 : decode cJ1_indexOf_4cfef 4 = .ok (.ifCond .ne 5, 3) := by decide +kernel
theorem dJ1_indexOf_4cfef_7 : decode cJ1_indexOf_4cfef 7 = .ok (.iconst (-1), 1) := by decide +kernel
theorem dJ1_indexOf_4cfef_8 : decode cJ1_indexOf_4cfef 8 = .ok (.ireturn, 1) := by decide +kernel
theorem dJ1_indexOf_4cfef_9 : decode cJ1_indexOf_4cfef 9 = .ok (.iload_n 2, 1) := by decide +kernel
theorem dJ1_indexOf_4cfef_10 : decode cJ1_indexOf_4cfef 10 = .ok (.iconst 0, 1) := by decide +kernel
theorem dJ1_indexOf_4cfef_11 : decode cJ1_indexOf_4cfef 11 = .ok (.invokestatic 92, 3) := by decide +kernel
theorem dJ1_indexOf_4cfef_14 : decode cJ1_indexOf_4cfef 14 = .ok (.istore_n 2, 1) := by decide +kernel
theorem dJ1_indexOf_4cfef_15 : decode cJ1_indexOf_4cfef 15 = .ok (.iload_n 3, 1) := by decide +kernel
theorem dJ1_indexOf_4cfef_16 : decode cJ1_indexOf_4cfef 16 = .ok (.aload_n 0, 1) := by decide +kernel
theorem dJ1_indexOf_4cfef_17 : decode cJ1_indexOf_4cfef 17 = .ok (.arraylength, 1) := by decide +kernel
theorem dJ1_indexOf_4cfef_18 : decode cJ1_indexOf_4cfef 18 = .ok (.invokestatic 38, 3) := by decide +kernel
theorem dJ1_indexOf_4cfef_21 : decode cJ1_indexOf_4cfef 21 = .ok (.istore_n 3, 1) := by decide +kernel
theorem dJ1_indexOf_4cfef_22 : decode cJ1_indexOf_4cfef 22 = .ok (.iload_n 2, 1) := by decide +kernel
theorem dJ1_indexOf_4cfef_23 : decode cJ1_indexOf_4cfef 23 = .ok (.iload_n 3, 1) := by decide +kernel
theorem dJ1_indexOf_4cfef_24 : decode cJ1_indexOf_4cfef 24 = .ok (.if_icmp .lt 5, 3) := by decide +kernel
theorem dJ1_indexOf_4cfef_29 : decode cJ1_indexOf_4cfef 29 = .ok (.aload_n 0, 1) := by decide +kernel
theorem dJ1_indexOf_4cfef_30 : decode cJ1_indexOf_4cfef 30 = .ok (.iload_n 1, 1) := by decide +kernel
theorem dJ1_indexOf_4cfef_31 : decode cJ1_indexOf_4cfef 31 = .ok (.iload_n 2, 1) := by decide +kernel
theorem dJ1_indexOf_4cfef_32 : decode cJ1_indexOf_4cfef 32 = .ok (.iload_n 3, 1) := by decide +kernel
theorem dJ1_indexOf_4cfef_33 : decode cJ1_indexOf_4cfef 33 = .ok (.invokestatic 95, 3) := by decide +kernel
theorem dJ1_indexOf_4cfef_36 : decode cJ1_indexOf_4cfef 36 = .ok (.ireturn, 1) := by decide +kernel
theorem dJ1_indexOfChar_4cfef_0 : decode cJ1_indexOfChar_4cfef 0 = .ok (.iload_n 1, 1) := by decide +kernel
theorem dJ1_indexOfChar_4cfef_1 : decode cJ1_indexOfChar_4cfef 1 = .ok (.i2b, 1) := by decide +kernel
theorem dJ1_indexOfChar_4cfef_2 : decode cJ1_indexOfChar_4cfef 2 = .ok (.istore 4, 2) := by decide +kernel
theorem dJ1_indexOfChar_4cfef_4 : decode cJ1_indexOfChar_4cfef 4 = .ok (.iload_n 2, 1) := by decide +kernel
theorem dJ1_indexOfChar_4cfef_5 : decode cJ1_indexOfChar_4cfef 5 = .ok (.istore 5, 2) := by decide +kernel
theorem dJ1_indexOfChar_4cfef_7 : decode cJ1_indexOfChar_4cfef 7 = .ok (.iload 5, 2) := by decide +kernel
theorem dJ1_indexOfChar_4cfef_9 : decode cJ1_indexOfChar_4cfef 9 = .ok (.iload_n 3, 1) := by decide +kernel
theorem dJ1_indexOfChar_4cfef_10 : decode cJ1_indexOfChar_4cfef 10 = .ok (.if_icmp .ge 21, 3) := by decide +kernel
theorem dJ1_indexOfChar_4cfef_13 : decode cJ1_indexOfChar_4cfef 13 = .ok (.aload_n 0, 1) := by decide +kernel
theorem dJ1_indexOfChar_4cfef_14 : decode cJ1_indexOfChar_4cfef 14 = .ok (.iload 5, 2) := by decide +kernel
theorem dJ1_indexOfChar_4cfef_16 : decode cJ1_indexOfChar_4cfef 16 = .ok (.baload, 1) := by decide +kernel
theorem dJ1_indexOfChar_4cfef_17 : decode cJ1_indexOfChar_4cfef 17 = .ok (.iload 4, 2) := by decide +kernel
theorem dJ1_indexOfChar_4cfef_19 : decode cJ1_indexOfChar_4cfef 19 = .ok (.if_icmp .ne 6, 3) := by decide +kernel
theorem dJ1_indexOfChar_4cfef_22 : decode cJ1_indexOfChar_4cfef 22 = .ok (.iload 5, 2) := by decide +kernel
theorem dJ1_indexOfChar_4cfef_24 : decode cJ1_indexOfChar_4cfef 24 = .ok (.ireturn, 1) := by decide +kernel
theorem dJ1_indexOfChar_4cfef_25 : decode cJ1_indexOfChar_4cfef 25 = .ok (.iinc 5 1, 3) := by decide +kernel
theorem dJ1_indexOfChar_4cfef_28 : decode cJ1_indexOfChar_4cfef 28 = .ok (.goto (-21), 3) := by decide +kernel
theorem dJ1_indexOfChar_4cfef_31 : decode cJ1_indexOfChar_4cfef 31 = .ok (.iconst (-1), 1) := by decide +kernel
theorem dJ1_indexOfChar_4cfef_32 : decode cJ1_indexOfChar_4cfef 32 = .ok (.ireturn, 1) := by decide +kernel
abbrev wd_k_isLatin0 (_z : Nat → Nat) : va_W := []
set_option maxHeartbeats 4000000 in
set_option maxRecDepth 100000 in
theorem k_isLatin0 (l : Launch) (dC : Nat → ClassId) (dI : Nat → Nat → Nat) (z zK zV : Nat → Nat)  (sz : Nat)  : Met l yJ0_isLatin1_aae02 wsJ0_isLatin1_aae02 ({ frames := 0, cells := 0, slots := 0, locals := 0 }) (kP dC dI z zK zV [.ref (zK 0)] sz (wd_k_isLatin0 z) []) (va_Qi (fun (r : Int32) (_ : Unit) => 1 = r) (fun _ t => kB (dC, dI) (va_A (wd_k_isLatin0 z) sz) [] [] t) (va_A (wd_k_isLatin0 z) sz)) 0 0 (va_A (wd_k_isLatin0 z) sz) := by
  refine Met.ofW (cc := cJ0_isLatin1_aae02) (maxL := 1) (ret := (some .boolean)) (by decide) rfl ?_
  intro p e s m args below meth c s₁ B hml hv
  obtain ⟨rfl, hsz, hP, hK, hD0, hM⟩ := hv
  have hx := B.exec
  have hb := B.bytes
  have hr := B.returns
  have hts := atoms_spec (ws := wsJ0_isLatin1_aae02) B.pre
  have hown : s.vm.findClass RJ0 = some m.cls := findClass_of_methodNamed B.named
  have hlocks := B.notSynchronized
  subst hsz
  have hD := hD0.self (sz := s.heap.size)
  generalize hAe : va_A (wd_k_isLatin0 z) s.heap.size = A at hD hM ⊢
  have hA : ∀ q : Nat, s.heap.size ≤ q → A q := fun q h => by rw [← hAe]; exact Or.inr h
  have hS : va_S A s.heap s.heap [] := va_S.rf
  have hP : va_P (dC, dI) vwCl [] s.heap := hP
  have hD : va_D A [] := hD
  have hl := lv_entry ([.ref (zK 0)]) (n := 1) (Nat.le_of_ble_eq_true rfl)
  rw [lg_entry_eq]
  generalize (lg_sl ([.ref (zK 0)]) ++ List.replicate (1 - (lg_sl ([.ref (zK 0)])).length) Slot.unset).toArray = ls at hl ⊢
  have hl : lv_has ls 1 [(0, .ref (zK 0))] := hl
  refine va_gets (v := .int 1) hx hb hM.2.2.2.2.2.2.1 hS hown (hts (.fieldLink RJ0 38 "java/lang/String" "COMPACT_STRINGS" "Z") (by decide +kernel)) (fun _ h9 => h9) dJ0_isLatin1_aae02_0 ?_
  refine lv_if_eq (tgt := 17) hx hb dJ0_isLatin1_aae02_3 (by decide) (fun c_ => absurd c_ (by decide +kernel)) (fun _ => ?_)
  refine lv_aload_n hx hb dJ0_isLatin1_aae02_6 rfl (lv_at hl 0 rfl) ?_
  refine vk_getf (v := .int 0) hx hb (hM.2.2.2.1.1 0 (by decide)).2.1 hS hown (hts (.fieldLink RJ0 15 "java/lang/String" "coder" "B") (by decide +kernel)) (fun _ h9 => h9) dJ0_isLatin1_aae02_7 ?_
  refine lv_if_ne (tgt := 17) hx hb dJ0_isLatin1_aae02_10 (by decide) (fun c_ => absurd (by decide +kernel) c_) (fun _ => ?_)
  refine lv_iconst (v := 1) hx hb dJ0_isLatin1_aae02_13 (by decide) ?_
  refine lv_goto (tgt := 18) hx hb dJ0_isLatin1_aae02_14 (by decide) ?_
  exact W.zret (v := 1) hx hb hr (by decide +kernel) (fun t ht hW => ⟨⟨1, (), rfl, rfl, kB_end (w9 := []) (t9 := []) hP hK hD [] [] rfl (by decide) rfl rfl t ht hW⟩, hS.F ht⟩) hS.2.2 dJ0_isLatin1_aae02_18
abbrev wd_k_coder0 (_z : Nat → Nat) : va_W := []
set_option maxHeartbeats 4000000 in
set_option maxRecDepth 100000 in
theorem k_coder0 (l : Launch) (dC : Nat → ClassId) (dI : Nat → Nat → Nat) (z zK zV : Nat → Nat)  (sz : Nat)  : Met l yJ0_coder_7d493 wsJ0_coder_7d493 ({ frames := 0, cells := 0, slots := 0, locals := 0 }) (kP dC dI z zK zV [.ref (zK 0)] sz (wd_k_coder0 z) []) (va_Qi (fun (r : Int32) (_ : Unit) => 0 = r) (fun _ t => kB (dC, dI) (va_A (wd_k_coder0 z) sz) [] [] t) (va_A (wd_k_coder0 z) sz)) 0 0 (va_A (wd_k_coder0 z) sz) := by
  refine Met.ofW (cc := cJ0_coder_7d493) (maxL := 1) (ret := (some .byte)) (by decide) rfl ?_
  intro p e s m args below meth c s₁ B hml hv
  obtain ⟨rfl, hsz, hP, hK, hD0, hM⟩ := hv
  have hx := B.exec
  have hb := B.bytes
  have hr := B.returns
  have hts := atoms_spec (ws := wsJ0_coder_7d493) B.pre
  have hown : s.vm.findClass RJ0 = some m.cls := findClass_of_methodNamed B.named
  have hlocks := B.notSynchronized
  subst hsz
  have hD := hD0.self (sz := s.heap.size)
  generalize hAe : va_A (wd_k_coder0 z) s.heap.size = A at hD hM ⊢
  have hA : ∀ q : Nat, s.heap.size ≤ q → A q := fun q h => by rw [← hAe]; exact Or.inr h
  have hS : va_S A s.heap s.heap [] := va_S.rf
  have hP : va_P (dC, dI) vwCl [] s.heap := hP
  have hD : va_D A [] := hD
  have hl := lv_entry ([.ref (zK 0)]) (n := 1) (Nat.le_of_ble_eq_true rfl)
  rw [lg_entry_eq]
  generalize (lg_sl ([.ref (zK 0)]) ++ List.replicate (1 - (lg_sl ([.ref (zK 0)])).length) Slot.unset).toArray = ls at hl ⊢
  have hl : lv_has ls 1 [(0, .ref (zK 0))] := hl
  refine va_gets (v := .int 1) hx hb hM.2.2.2.2.2.2.1 hS hown (hts (.fieldLink RJ0 38 "java/lang/String" "COMPACT_STRINGS" "Z") (by decide +kernel)) (fun _ h9 => h9) dJ0_coder_7d493_0 ?_
  refine lv_if_eq (tgt := 13) hx hb dJ0_coder_7d493_3 (by decide) (fun c_ => absurd c_ (by decide +kernel)) (fun _ => ?_)
  refine lv_aload_n hx hb dJ0_coder_7d493_6 rfl (lv_at hl 0 rfl) ?_
  refine vk_getf (v := .int 0) hx hb (hM.2.2.2.1.1 0 (by decide)).2.1 hS hown (hts (.fieldLink RJ0 15 "java/lang/String" "coder" "B") (by decide +kernel)) (fun _ h9 => h9) dJ0_coder_7d493_7 ?_
  refine lv_goto (tgt := 14) hx hb dJ0_coder_7d493_10 (by decide) ?_
  exact W.zret (v := 0) hx hb hr (by decide +kernel) (fun t ht hW => ⟨⟨0, (), rfl, rfl, kB_end (w9 := []) (t9 := []) hP hK hD [] [] rfl (by decide) rfl rfl t ht hW⟩, hS.F ht⟩) hS.2.2 dJ0_coder_7d493_14
abbrev wd_k_length0 (_z : Nat → Nat) : va_W := []
set_option maxHeartbeats 4000000 in
set_option maxRecDepth 100000 in
theorem k_length0 (l : Launch) (dC : Nat → ClassId) (dI : Nat → Nat → Nat) (z zK zV : Nat → Nat)  (sz : Nat)  : Met l yJ0_length_8abf5 wsJ0_length_8abf5 ({ frames := 1, cells := 0, slots := 0, locals := 20 }) (kP dC dI z zK zV [.ref (zK 0)] sz (wd_k_length0 z) []) (va_Qi (fun (r : Int32) (_ : Unit) => 4 = r) (fun _ t => kB (dC, dI) (va_A (wd_k_length0 z) sz) [] [] t) (va_A (wd_k_length0 z) sz)) 0 0 (va_A (wd_k_length0 z) sz) := by
  refine Met.ofW (cc := cJ0_length_8abf5) (maxL := 1) (ret := (some .int)) (by decide) rfl ?_
  intro p e s m args below meth c s₁ B hml hv
  obtain ⟨rfl, hsz, hP, hK, hD0, hM⟩ := hv
  have hx := B.exec
  have hb := B.bytes
  have hr := B.returns
  have hts := atoms_spec (ws := wsJ0_length_8abf5) B.pre
  have hown : s.vm.findClass RJ0 = some m.cls := findClass_of_methodNamed B.named
  have hlocks := B.notSynchronized
  subst hsz
  have hD := hD0.self (sz := s.heap.size)
  generalize hAe : va_A (wd_k_length0 z) s.heap.size = A at hD hM ⊢
  have hA : ∀ q : Nat, s.heap.size ≤ q → A q := fun q h => by rw [← hAe]; exact Or.inr h
  have hS : va_S A s.heap s.heap [] := va_S.rf
  have hP : va_P (dC, dI) vwCl [] s.heap := hP
  have hD : va_D A [] := hD
  have hl := lv_entry ([.ref (zK 0)]) (n := 1) (Nat.le_of_ble_eq_true rfl)
  rw [lg_entry_eq]
  generalize (lg_sl ([.ref (zK 0)]) ++ List.replicate (1 - (lg_sl ([.ref (zK 0)])).length) Slot.unset).toArray = ls at hl ⊢
  have hl : lv_has ls 1 [(0, .ref (zK 0))] := hl
  refine lv_aload_n hx hb dJ0_length_8abf5_0 rfl (lv_at hl 0 rfl) ?_
  refine vk_getf (v := .ref (zV 0)) hx hb (hM.2.2.2.1.1 0 (by decide)).2.2.1 hS hown (hts (.fieldLink RJ0 9 "java/lang/String" "value" "[B") (by decide +kernel)) (fun _ h9 => h9) dJ0_length_8abf5_1 ?_
  refine va_tlen (v := 4) hx hb ((hM.2.2.2.1.1 0 (by decide)).2.2.2) hS rfl dJ0_length_8abf5_4 ?_
  refine lv_aload_n hx hb dJ0_length_8abf5_5 rfl (lv_at hl 0 rfl) ?_
  have hPc := hP.sub (ws' := []) [] rfl
  have hDc := hD.sub (ws' := []) [] (by decide) rfl
  have hKc := hK.sub (tys' := []) [] rfl
  have hFc := va_free (wc := []) hD hS hA [] rfl
  refine va_calli (va_runV (As := []) (rest := [.int 4]) ⟨hx, hb, hml, hown, hts⟩ (k_coder0 l dC dI z zK zV  s.heap.size) (cwV 0 hts gJ0_length_8abf5_J0_coder_7d493 rfl rfl rfl (by decide +kernel) ⟨Nat.le_of_ble_eq_true rfl, Nat.le_of_ble_eq_true rfl⟩) ⟨kP_blind, vk_recv (i := 0) hM.2.2.2.1 (by decide) hS, kP_go hPc hKc hDc hFc hM hS⟩ rfl rfl hl.1 rfl (lv_room (Nat.le_of_ble_eq_true rfl)) dJ0_length_8abf5_6 ⟨Nat.le_of_ble_eq_true rfl, Nat.le_of_ble_eq_true rfl⟩) hS (fun q _ h => hFc q h) hFc (fun r1 u t H1 locs ht hvm hw hB hz1 hk1 hS => ?_)
  obtain ⟨hP, hD, hK⟩ := kJ (wr := []) (w1 := []) (t1 := []) hP hD hK [] [] rfl rfl (by decide) (by decide) hk1 hFc ht hvm hB
  generalize H1 = H at hP hS ⊢
  have hP : va_P (dC, dI) vwCl [] H := hP
  have hD : va_D A [] := hD
  have hK : va_K (dC, dI) vwCl [] s := hK
  obtain rfl : 0 = r1 := hw
  refine lv_ishr hx hb dJ0_length_8abf5_9 ?_
  refine kc_i (y := 4) (by decide +kernel) ?_
  exact W.iret (v := 4) hx hb hr (fun t ht hW => ⟨⟨4, (), rfl, rfl, kB_end (w9 := []) (t9 := []) hP hK hD [] [] rfl (by decide) rfl rfl t ht hW⟩, hS.F ht⟩) hS.2.2 dJ0_length_8abf5_10
abbrev wd_k_canEnc115 (_z : Nat → Nat) : va_W := []
set_option maxHeartbeats 4000000 in
set_option maxRecDepth 100000 in
theorem k_canEnc115 (l : Launch) (dC : Nat → ClassId) (dI : Nat → Nat → Nat) (z zK zV : Nat → Nat)  (sz : Nat)  : Met l yJ1_canEncode_9a6ad wsJ1_canEncode_9a6ad ({ frames := 0, cells := 0, slots := 0, locals := 0 }) (kP dC dI z zK zV [.int 115] sz (wd_k_canEnc115 z) []) (va_Qi (fun (r : Int32) (_ : Unit) => 1 = r) (fun _ t => kB (dC, dI) (va_A (wd_k_canEnc115 z) sz) [] [] t) (va_A (wd_k_canEnc115 z) sz)) 0 0 (va_A (wd_k_canEnc115 z) sz) := by
  refine Met.ofW (cc := cJ1_canEncode_9a6ad) (maxL := 1) (ret := (some .boolean)) (by decide) rfl ?_
  intro p e s m args below meth c s₁ B hml hv
  obtain ⟨rfl, hsz, hP, hK, hD0, hM⟩ := hv
  have hx := B.exec
  have hb := B.bytes
  have hr := B.returns
  have hts := atoms_spec (ws := wsJ1_canEncode_9a6ad) B.pre
  have hown : s.vm.findClass RJ1 = some m.cls := findClass_of_methodNamed B.named
  have hlocks := B.notSynchronized
  subst hsz
  have hD := hD0.self (sz := s.heap.size)
  generalize hAe : va_A (wd_k_canEnc115 z) s.heap.size = A at hD hM ⊢
  have hA : ∀ q : Nat, s.heap.size ≤ q → A q := fun q h => by rw [← hAe]; exact Or.inr h
  have hS : va_S A s.heap s.heap [] := va_S.rf
  have hP : va_P (dC, dI) vwCl [] s.heap := hP
  have hD : va_D A [] := hD
  have hl := lv_entry ([.int 115]) (n := 1) (Nat.le_of_ble_eq_true rfl)
  rw [lg_entry_eq]
  generalize (lg_sl ([.int 115]) ++ List.replicate (1 - (lg_sl ([.int 115])).length) Slot.unset).toArray = ls at hl ⊢
  have hl : lv_has ls 1 [(0, .int 115)] := hl
  refine lv_iload_n hx hb dJ1_canEncode_9a6ad_0 rfl (lv_at hl 0 rfl) ?_
  refine lv_if_lt (tgt := 15) hx hb dJ1_canEncode_9a6ad_1 (by decide) (fun c_ => absurd c_ (by decide +kernel)) (fun _ => ?_)
  refine lv_iload_n hx hb dJ1_canEncode_9a6ad_4 rfl (lv_at hl 0 rfl) ?_
  refine lv_sipush (v := 255) hx hb dJ1_canEncode_9a6ad_5 (by decide) ?_
  refine lv_icmp_gt (tgt := 15) hx hb dJ1_canEncode_9a6ad_8 (by decide) (fun c_ => absurd c_ (by decide +kernel)) (fun _ => ?_)
  refine lv_iconst (v := 1) hx hb dJ1_canEncode_9a6ad_11 (by decide) ?_
  refine lv_goto (tgt := 16) hx hb dJ1_canEncode_9a6ad_12 (by decide) ?_
  exact W.zret (v := 1) hx hb hr (by decide +kernel) (fun t ht hW => ⟨⟨1, (), rfl, rfl, kB_end (w9 := []) (t9 := []) hP hK hD [] [] rfl (by decide) rfl rfl t ht hW⟩, hS.F ht⟩) hS.2.2 dJ1_canEncode_9a6ad_16
abbrev wd_k_ixc115 (_z : Nat → Nat) : va_W := []
set_option maxHeartbeats 4000000 in
set_option maxRecDepth 100000 in
theorem k_ixc115 (l : Launch) (dC : Nat → ClassId) (dI : Nat → Nat → Nat) (z zK zV : Nat → Nat)  (sz : Nat)  : Met l yJ1_indexOfChar_4cfef wsJ1_indexOfChar_4cfef ({ frames := 0, cells := 0, slots := 0, locals := 0 }) (kP dC dI z zK zV [.ref (zV 0), .int 115, .int 0, .int 4] sz (wd_k_ixc115 z) []) (va_Qi (fun (r : Int32) (_ : Unit) => 0 = r) (fun _ t => kB (dC, dI) (va_A (wd_k_ixc115 z) sz) [] [] t) (va_A (wd_k_ixc115 z) sz)) 0 0 (va_A (wd_k_ixc115 z) sz) := by
  refine Met.ofW (cc := cJ1_indexOfChar_4cfef) (maxL := 6) (ret := (some .int)) (by decide) rfl ?_
  intro p e s m args below meth c s₁ B hml hv
  obtain ⟨rfl, hsz, hP, hK, hD0, hM⟩ := hv
  have hx := B.exec
  have hb := B.bytes
  have hr := B.returns
  have hts := atoms_spec (ws := wsJ1_indexOfChar_4cfef) B.pre
  have hown : s.vm.findClass RJ1 = some m.cls := findClass_of_methodNamed B.named
  have hlocks := B.notSynchronized
  subst hsz
  have hD := hD0.self (sz := s.heap.size)
  generalize hAe : va_A (wd_k_ixc115 z) s.heap.size = A at hD hM ⊢
  have hA : ∀ q : Nat, s.heap.size ≤ q → A q := fun q h => by rw [← hAe]; exact Or.inr h
  have hS : va_S A s.heap s.heap [] := va_S.rf
  have hP : va_P (dC, dI) vwCl [] s.heap := hP
  have hD : va_D A [] := hD
  have hl := lv_entry ([.ref (zV 0), .int 115, .int 0, .int 4]) (n := 6) (Nat.le_of_ble_eq_true rfl)
  rw [lg_entry_eq]
  generalize (lg_sl ([.ref (zV 0), .int 115, .int 0, .int 4]) ++ List.replicate (6 - (lg_sl ([.ref (zV 0), .int 115, .int 0, .int 4])).length) Slot.unset).toArray = ls at hl ⊢
  have hl : lv_has ls 6 [(0, .ref (zV 0)), (1, .int 115), (2, .int 0), (3, .int 4)] := hl
  refine lv_iload_n hx hb dJ1_indexOfChar_4cfef_0 rfl (lv_at hl 1 rfl) ?_
  refine lv_i2b (v := 115) hx hb dJ1_indexOfChar_4cfef_1 (by decide +kernel) ?_
  refine lv_istore (lv' := [(4, .int 115), (0, .ref (zV 0)), (1, .int 115), (2, .int 0), (3, .int 4)]) hx hb dJ1_indexOfChar_4cfef_2 hl (by decide) rfl (fun ls hl => ?_)
  refine lv_iload_n hx hb dJ1_indexOfChar_4cfef_4 rfl (lv_at hl 3 rfl) ?_
  refine lv_istore (lv' := [(5, .int 0), (4, .int 115), (0, .ref (zV 0)), (1, .int 115), (2, .int 0), (3, .int 4)]) hx hb dJ1_indexOfChar_4cfef_5 hl (by decide) rfl (fun ls hl => ?_)
  refine lv_iload hx hb dJ1_indexOfChar_4cfef_7 (lv_at hl 0 rfl) ?_
  refine lv_iload_n hx hb dJ1_indexOfChar_4cfef_9 rfl (lv_at hl 5 rfl) ?_
  refine lv_icmp_ge (tgt := 31) hx hb dJ1_indexOfChar_4cfef_10 (by decide) (fun c_ => absurd c_ (by decide +kernel)) (fun _ => ?_)
  refine lv_aload_n hx hb dJ1_indexOfChar_4cfef_13 rfl (lv_at hl 2 rfl) ?_
  refine lv_iload hx hb dJ1_indexOfChar_4cfef_14 (lv_at hl 0 rfl) ?_
  refine va_tb (v := .int 115) hx hb ((hM.2.2.2.1.1 0 (by decide)).2.2.2) hS (pk_in 0 4 (by decide) rfl) rfl dJ1_indexOfChar_4cfef_16 ?_
  refine lv_iload hx hb dJ1_indexOfChar_4cfef_17 (lv_at hl 1 rfl) ?_
  refine lv_icmp_ne (tgt := 25) hx hb dJ1_indexOfChar_4cfef_19 (by decide) (fun c_ => absurd (by decide +kernel) c_) (fun _ => ?_)
  refine lv_iload hx hb dJ1_indexOfChar_4cfef_22 (lv_at hl 0 rfl) ?_
  exact W.iret (v := 0) hx hb hr (fun t ht hW => ⟨⟨0, (), rfl, rfl, kB_end (w9 := []) (t9 := []) hP hK hD [] [] rfl (by decide) rfl rfl t ht hW⟩, hS.F ht⟩) hS.2.2 dJ1_indexOfChar_4cfef_24
abbrev wd_k_ix1_115 (_z : Nat → Nat) : va_W := []
set_option maxHeartbeats 4000000 in
set_option maxRecDepth 100000 in
theorem k_ix1_115 (l : Launch) (dC : Nat → ClassId) (dI : Nat → Nat → Nat) (z zK zV : Nat → Nat)  (sz : Nat)  : Met l yJ1_indexOf_4cfef wsJ1_indexOf_4cfef ({ frames := 1, cells := 0, slots := 0, locals := 25 }) (kP dC dI z zK zV [.ref (zV 0), .int 115, .int 0, .int 4] sz (wd_k_ix1_115 z) []) (va_Qi (fun (r : Int32) (_ : Unit) => 0 = r) (fun _ t => kB (dC, dI) (va_A (wd_k_ix1_115 z) sz) [] [] t) (va_A (wd_k_ix1_115 z) sz)) 0 0 (va_A (wd_k_ix1_115 z) sz) := by
  refine Met.ofW (cc := cJ1_indexOf_4cfef) (maxL := 4) (ret := (some .int)) (by decide) rfl ?_
  intro p e s m args below meth c s₁ B hml hv
  obtain ⟨rfl, hsz, hP, hK, hD0, hM⟩ := hv
  have hx := B.exec
  have hb := B.bytes
  have hr := B.returns
  have hts := atoms_spec (ws := wsJ1_indexOf_4cfef) B.pre
  have hown : s.vm.findClass RJ1 = some m.cls := findClass_of_methodNamed B.named
  have hlocks := B.notSynchronized
  subst hsz
  have hD := hD0.self (sz := s.heap.size)
  generalize hAe : va_A (wd_k_ix1_115 z) s.heap.size = A at hD hM ⊢
  have hA : ∀ q : Nat, s.heap.size ≤ q → A q := fun q h => by rw [← hAe]; exact Or.inr h
  have hS : va_S A s.heap s.heap [] := va_S.rf
  have hP : va_P (dC, dI) vwCl [] s.heap := hP
  have hD : va_D A [] := hD
  have hl := lv_entry ([.ref (zV 0), .int 115, .int 0, .int 4]) (n := 4) (Nat.le_of_ble_eq_true rfl)
  rw [lg_entry_eq]
  generalize (lg_sl ([.ref (zV 0), .int 115, .int 0, .int 4]) ++ List.replicate (4 - (lg_sl ([.ref (zV 0), .int 115, .int 0, .int 4])).length) Slot.unset).toArray = ls at hl ⊢
  have hl : lv_has ls 4 [(0, .ref (zV 0)), (1, .int 115), (2, .int 0), (3, .int 4)] := hl
  refine lv_iload_n hx hb dJ1_indexOf_4cfef_0 rfl (lv_at hl 1 rfl) ?_
  have hPc := hP.sub (ws' := []) [] rfl
  have hDc := hD.sub (ws' := []) [] (by decide) rfl
  have hKc := hK.sub (tys' := []) [] rfl
  have hFc := va_free (wc := []) hD hS hA [] rfl
  refine va_calli (va_runS (As := [.int 115]) (rest := []) ⟨hx, hb, hml, hown, hts⟩ (k_canEnc115 l dC dI z zK zV  s.heap.size) (va_cwS 1 hts gJ1_indexOf_4cfef_J1_canEncode_9a6ad rfl rfl rfl (by decide +kernel) ⟨Nat.le_of_ble_eq_true rfl, Nat.le_of_ble_eq_true rfl⟩) ⟨kP_blind, kP_go hPc hKc hDc hFc hM hS⟩ rfl rfl hl.1 rfl (lv_room (Nat.le_of_ble_eq_true rfl)) dJ1_indexOf_4cfef_1 ⟨Nat.le_of_ble_eq_true rfl, Nat.le_of_ble_eq_true rfl⟩) hS (fun q _ h => hFc q h) hFc (fun r1 u t H1 locs ht hvm hw hB hz1 hk1 hS => ?_)
  obtain ⟨hP, hD, hK⟩ := kJ (wr := []) (w1 := []) (t1 := []) hP hD hK [] [] rfl rfl (by decide) (by decide) hk1 hFc ht hvm hB
  generalize H1 = H at hP hS ⊢
  have hP : va_P (dC, dI) vwCl [] H := hP
  have hD : va_D A [] := hD
  have hK : va_K (dC, dI) vwCl [] s := hK
  obtain rfl : 1 = r1 := hw
  refine lv_if_ne (tgt := 9) hx hb dJ1_indexOf_4cfef_4 (by decide) (fun _ => ?_) (fun c_ => absurd c_ (by decide +kernel))
  refine lv_iload_n hx hb dJ1_indexOf_4cfef_9 rfl (lv_at hl 2 rfl) ?_
  refine lv_iconst (v := 0) hx hb dJ1_indexOf_4cfef_10 (by decide) ?_
  refine va_mmax hx hb (hml.trans hl.1.symm) hown (hts (.methodLink RJ1 92 Lib.Math.max.name) (by decide +kernel)) (hts (.static Lib.Math.max.name) (by decide +kernel)) (hts (.initialized "java/lang/Math") (by decide +kernel)) (hts (.code Lib.Math.max.name Lib.Math.max.code 2 (some .int)) (by decide +kernel)) (Nat.le_of_ble_eq_true rfl) (Nat.le_of_ble_eq_true rfl) (Nat.le_of_ble_eq_true rfl) (Nat.le_of_ble_eq_true rfl) dJ1_indexOf_4cfef_11 ?_
  refine kc_i (y := 0) (by decide +kernel) ?_
  refine lv_istore_n (lv' := [(2, .int 0), (0, .ref (zV 0)), (1, .int 115), (3, .int 4)]) hx hb dJ1_indexOf_4cfef_14 rfl hl (by decide) rfl (fun ls hl => ?_)
  refine lv_iload_n hx hb dJ1_indexOf_4cfef_15 rfl (lv_at hl 3 rfl) ?_
  refine lv_aload_n hx hb dJ1_indexOf_4cfef_16 rfl (lv_at hl 1 rfl) ?_
  refine va_tlen (v := 4) hx hb ((hM.2.2.2.1.1 0 (by decide)).2.2.2) hS rfl dJ1_indexOf_4cfef_17 ?_
  refine va_mmin hx hb (hml.trans hl.1.symm) hown (hts (.methodLink RJ1 38 Lib.Math.min.name) (by decide +kernel)) (hts (.static Lib.Math.min.name) (by decide +kernel)) (hts (.initialized "java/lang/Math") (by decide +kernel)) (hts (.code Lib.Math.min.name Lib.Math.min.code 2 (some .int)) (by decide +kernel)) (Nat.le_of_ble_eq_true rfl) (Nat.le_of_ble_eq_true rfl) (Nat.le_of_ble_eq_true rfl) (Nat.le_of_ble_eq_true rfl) dJ1_indexOf_4cfef_18 ?_
  refine kc_i (y := 4) (by decide +kernel) ?_
  refine lv_istore_n (lv' := [(3, .int 4), (2, .int 0), (0, .ref (zV 0)), (1, .int 115)]) hx hb dJ1_indexOf_4cfef_21 rfl hl (by decide) rfl (fun ls hl => ?_)
  refine lv_iload_n hx hb dJ1_indexOf_4cfef_22 rfl (lv_at hl 1 rfl) ?_
  refine lv_iload_n hx hb dJ1_indexOf_4cfef_23 rfl (lv_at hl 0 rfl) ?_
  refine lv_icmp_lt (tgt := 29) hx hb dJ1_indexOf_4cfef_24 (by decide) (fun _ => ?_) (fun c_ => absurd (by decide +kernel) c_)
  refine lv_aload_n hx hb dJ1_indexOf_4cfef_29 rfl (lv_at hl 2 rfl) ?_
  refine lv_iload_n hx hb dJ1_indexOf_4cfef_30 rfl (lv_at hl 3 rfl) ?_
  refine lv_iload_n hx hb dJ1_indexOf_4cfef_31 rfl (lv_at hl 1 rfl) ?_
  refine lv_iload_n hx hb dJ1_indexOf_4cfef_32 rfl (lv_at hl 0 rfl) ?_
  have hPc := hP.sub (ws' := []) [] rfl
  have hDc := hD.sub (ws' := []) [] (by decide) rfl
  have hKc := hK.sub (tys' := []) [] rfl
  have hFc := va_free (wc := []) hD hS hA [] rfl
  refine va_calli (va_runS (As := [.ref (zV 0), .int 115, .int 0, .int 4]) (rest := []) ⟨hx, hb, hml, hown, hts⟩ (k_ixc115 l dC dI z zK zV  H.size) (va_cwS 4 hts gJ1_indexOf_4cfef_J1_indexOfChar_4cfef rfl rfl rfl (by decide +kernel) ⟨Nat.le_of_ble_eq_true rfl, Nat.le_of_ble_eq_true rfl⟩) ⟨kP_blind, kP_go hPc hKc hDc hFc hM hS⟩ rfl rfl hl.1 rfl (lv_room (Nat.le_of_ble_eq_true rfl)) dJ1_indexOf_4cfef_33 ⟨Nat.le_of_ble_eq_true rfl, Nat.le_of_ble_eq_true rfl⟩) hS (fun q _ h => hFc q h) hFc (fun r2 u t H1 locs ht hvm hw hB hz1 hk1 hS => ?_)
  obtain ⟨hP, hD, hK⟩ := kJ (wr := []) (w1 := []) (t1 := []) hP hD hK [] [] rfl rfl (by decide) (by decide) hk1 hFc ht hvm hB
  generalize H1 = H at hP hS ⊢
  have hP : va_P (dC, dI) vwCl [] H := hP
  have hD : va_D A [] := hD
  have hK : va_K (dC, dI) vwCl [] s := hK
  obtain rfl : 0 = r2 := hw
  exact W.iret (v := 0) hx hb hr (fun t ht hW => ⟨⟨0, (), rfl, rfl, kB_end (w9 := []) (t9 := []) hP hK hD [] [] rfl (by decide) rfl rfl t ht hW⟩, hS.F ht⟩) hS.2.2 dJ1_indexOf_4cfef_36
abbrev wd_k_ix2_115 (_z : Nat → Nat) : va_W := []
set_option maxHeartbeats 4000000 in
set_option maxRecDepth 100000 in
theorem k_ix2_115 (l : Launch) (dC : Nat → ClassId) (dI : Nat → Nat → Nat) (z zK zV : Nat → Nat)  (sz : Nat)  : Met l yJ0_indexOf_7cf53 wsJ0_indexOf_7cf53 ({ frames := 2, cells := 0, slots := 0, locals := 48 }) (kP dC dI z zK zV [.ref (zK 0), .int 115, .int 0] sz (wd_k_ix2_115 z) []) (va_Qi (fun (r : Int32) (_ : Unit) => 0 = r) (fun _ t => kB (dC, dI) (va_A (wd_k_ix2_115 z) sz) [] [] t) (va_A (wd_k_ix2_115 z) sz)) 0 0 (va_A (wd_k_ix2_115 z) sz) := by
  refine Met.ofW (cc := cJ0_indexOf_7cf53) (maxL := 3) (ret := (some .int)) (by decide) rfl ?_
  intro p e s m args below meth c s₁ B hml hv
  obtain ⟨rfl, hsz, hP, hK, hD0, hM⟩ := hv
  have hx := B.exec
  have hb := B.bytes
  have hr := B.returns
  have hts := atoms_spec (ws := wsJ0_indexOf_7cf53) B.pre
  have hown : s.vm.findClass RJ0 = some m.cls := findClass_of_methodNamed B.named
  have hlocks := B.notSynchronized
  subst hsz
  have hD := hD0.self (sz := s.heap.size)
  generalize hAe : va_A (wd_k_ix2_115 z) s.heap.size = A at hD hM ⊢
  have hA : ∀ q : Nat, s.heap.size ≤ q → A q := fun q h => by rw [← hAe]; exact Or.inr h
  have hS : va_S A s.heap s.heap [] := va_S.rf
  have hP : va_P (dC, dI) vwCl [] s.heap := hP
  have hD : va_D A [] := hD
  have hl := lv_entry ([.ref (zK 0), .int 115, .int 0]) (n := 3) (Nat.le_of_ble_eq_true rfl)
  rw [lg_entry_eq]
  generalize (lg_sl ([.ref (zK 0), .int 115, .int 0]) ++ List.replicate (3 - (lg_sl ([.ref (zK 0), .int 115, .int 0])).length) Slot.unset).toArray = ls at hl ⊢
  have hl : lv_has ls 3 [(0, .ref (zK 0)), (1, .int 115), (2, .int 0)] := hl
  refine lv_aload_n hx hb dJ0_indexOf_7cf53_0 rfl (lv_at hl 0 rfl) ?_
  have hPc := hP.sub (ws' := []) [] rfl
  have hDc := hD.sub (ws' := []) [] (by decide) rfl
  have hKc := hK.sub (tys' := []) [] rfl
  have hFc := va_free (wc := []) hD hS hA [] rfl
  refine va_calli (va_runV (As := []) (rest := []) ⟨hx, hb, hml, hown, hts⟩ (k_isLatin0 l dC dI z zK zV  s.heap.size) (cwV 0 hts gJ0_indexOf_7cf53_J0_isLatin1_aae02 rfl rfl rfl (by decide +kernel) ⟨Nat.le_of_ble_eq_true rfl, Nat.le_of_ble_eq_true rfl⟩) ⟨kP_blind, vk_recv (i := 0) hM.2.2.2.1 (by decide) hS, kP_go hPc hKc hDc hFc hM hS⟩ rfl rfl hl.1 rfl (lv_room (Nat.le_of_ble_eq_true rfl)) dJ0_indexOf_7cf53_1 ⟨Nat.le_of_ble_eq_true rfl, Nat.le_of_ble_eq_true rfl⟩) hS (fun q _ h => hFc q h) hFc (fun r1 u t H1 locs ht hvm hw hB hz1 hk1 hS => ?_)
  obtain ⟨hP, hD, hK⟩ := kJ (wr := []) (w1 := []) (t1 := []) hP hD hK [] [] rfl rfl (by decide) (by decide) hk1 hFc ht hvm hB
  generalize H1 = H at hP hS ⊢
  have hP : va_P (dC, dI) vwCl [] H := hP
  have hD : va_D A [] := hD
  have hK : va_K (dC, dI) vwCl [] s := hK
  obtain rfl : 1 = r1 := hw
  refine lv_if_eq (tgt := 23) hx hb dJ0_indexOf_7cf53_4 (by decide) (fun c_ => absurd c_ (by decide +kernel)) (fun _ => ?_)
  refine lv_aload_n hx hb dJ0_indexOf_7cf53_7 rfl (lv_at hl 0 rfl) ?_
  refine vk_getf (v := .ref (zV 0)) hx hb (hM.2.2.2.1.1 0 (by decide)).2.2.1 hS hown (hts (.fieldLink RJ0 9 "java/lang/String" "value" "[B") (by decide +kernel)) (fun _ h9 => h9) dJ0_indexOf_7cf53_8 ?_
  refine lv_iload_n hx hb dJ0_indexOf_7cf53_11 rfl (lv_at hl 1 rfl) ?_
  refine lv_iload_n hx hb dJ0_indexOf_7cf53_12 rfl (lv_at hl 2 rfl) ?_
  refine lv_aload_n hx hb dJ0_indexOf_7cf53_13 rfl (lv_at hl 0 rfl) ?_
  have hPc := hP.sub (ws' := []) [] rfl
  have hDc := hD.sub (ws' := []) [] (by decide) rfl
  have hKc := hK.sub (tys' := []) [] rfl
  have hFc := va_free (wc := []) hD hS hA [] rfl
  refine va_calli (va_runV (As := []) (rest := [.int 0, .int 115, .ref (zV 0)]) ⟨hx, hb, hml, hown, hts⟩ (k_length0 l dC dI z zK zV  H.size) (cwV 0 hts gJ0_indexOf_7cf53_J0_length_8abf5 rfl rfl rfl (by decide +kernel) ⟨Nat.le_of_ble_eq_true rfl, Nat.le_of_ble_eq_true rfl⟩) ⟨kP_blind, vk_recv (i := 0) hM.2.2.2.1 (by decide) hS, kP_go hPc hKc hDc hFc hM hS⟩ rfl rfl hl.1 rfl (lv_room (Nat.le_of_ble_eq_true rfl)) dJ0_indexOf_7cf53_14 ⟨Nat.le_of_ble_eq_true rfl, Nat.le_of_ble_eq_true rfl⟩) hS (fun q _ h => hFc q h) hFc (fun r2 u t H1 locs ht hvm hw hB hz1 hk1 hS => ?_)
  obtain ⟨hP, hD, hK⟩ := kJ (wr := []) (w1 := []) (t1 := []) hP hD hK [] [] rfl rfl (by decide) (by decide) hk1 hFc ht hvm hB
  generalize H1 = H at hP hS ⊢
  have hP : va_P (dC, dI) vwCl [] H := hP
  have hD : va_D A [] := hD
  have hK : va_K (dC, dI) vwCl [] s := hK
  obtain rfl : 4 = r2 := hw
  have hPc := hP.sub (ws' := []) [] rfl
  have hDc := hD.sub (ws' := []) [] (by decide) rfl
  have hKc := hK.sub (tys' := []) [] rfl
  have hFc := va_free (wc := []) hD hS hA [] rfl
  refine va_calli (va_runS (As := [.ref (zV 0), .int 115, .int 0, .int 4]) (rest := []) ⟨hx, hb, hml, hown, hts⟩ (k_ix1_115 l dC dI z zK zV  H.size) (va_cwS 4 hts gJ0_indexOf_7cf53_J1_indexOf_4cfef rfl rfl rfl (by decide +kernel) ⟨Nat.le_of_ble_eq_true rfl, Nat.le_of_ble_eq_true rfl⟩) ⟨kP_blind, kP_go hPc hKc hDc hFc hM hS⟩ rfl rfl hl.1 rfl (lv_room (Nat.le_of_ble_eq_true rfl)) dJ0_indexOf_7cf53_17 ⟨Nat.le_of_ble_eq_true rfl, Nat.le_of_ble_eq_true rfl⟩) hS (fun q _ h => hFc q h) hFc (fun r3 u t H1 locs ht hvm hw hB hz1 hk1 hS => ?_)
  obtain ⟨hP, hD, hK⟩ := kJ (wr := []) (w1 := []) (t1 := []) hP hD hK [] [] rfl rfl (by decide) (by decide) hk1 hFc ht hvm hB
  generalize H1 = H at hP hS ⊢
  have hP : va_P (dC, dI) vwCl [] H := hP
  have hD : va_D A [] := hD
  have hK : va_K (dC, dI) vwCl [] s := hK
  obtain rfl : 0 = r3 := hw
  refine lv_goto (tgt := 36) hx hb dJ0_indexOf_7cf53_20 (by decide) ?_
  exact W.iret (v := 0) hx hb hr (fun t ht hW => ⟨⟨0, (), rfl, rfl, kB_end (w9 := []) (t9 := []) hP hK hD [] [] rfl (by decide) rfl rfl t ht hW⟩, hS.F ht⟩) hS.2.2 dJ0_indexOf_7cf53_36
abbrev wd_k_ix3_115 (_z : Nat → Nat) : va_W := []
set_option maxHeartbeats 4000000 in
set_option maxRecDepth 100000 in
theorem k_ix3_115 (l : Launch) (dC : Nat → ClassId) (dI : Nat → Nat → Nat) (z zK zV : Nat → Nat)  (sz : Nat)  : Met l yJ0_indexOf_0f7a4 wsJ0_indexOf_0f7a4 ({ frames := 3, cells := 0, slots := 0, locals := 70 }) (kP dC dI z zK zV [.ref (zK 0), .int 115] sz (wd_k_ix3_115 z) []) (va_Qi (fun (r : Int32) (_ : Unit) => 0 = r) (fun _ t => kB (dC, dI) (va_A (wd_k_ix3_115 z) sz) [] [] t) (va_A (wd_k_ix3_115 z) sz)) 0 0 (va_A (wd_k_ix3_115 z) sz) := by
  refine Met.ofW (cc := cJ0_indexOf_0f7a4) (maxL := 2) (ret := (some .int)) (by decide) rfl ?_
  intro p e s m args below meth c s₁ B hml hv
  obtain ⟨rfl, hsz, hP, hK, hD0, hM⟩ := hv
  have hx := B.exec
  have hb := B.bytes
  have hr := B.returns
  have hts := atoms_spec (ws := wsJ0_indexOf_0f7a4) B.pre
  have hown : s.vm.findClass RJ0 = some m.cls := findClass_of_methodNamed B.named
  have hlocks := B.notSynchronized
  subst hsz
  have hD := hD0.self (sz := s.heap.size)
  generalize hAe : va_A (wd_k_ix3_115 z) s.heap.size = A at hD hM ⊢
  have hA : ∀ q : Nat, s.heap.size ≤ q → A q := fun q h => by rw [← hAe]; exact Or.inr h
  have hS : va_S A s.heap s.heap [] := va_S.rf
  have hP : va_P (dC, dI) vwCl [] s.heap := hP
  have hD : va_D A [] := hD
  have hl := lv_entry ([.ref (zK 0), .int 115]) (n := 2) (Nat.le_of_ble_eq_true rfl)
  rw [lg_entry_eq]
  generalize (lg_sl ([.ref (zK 0), .int 115]) ++ List.replicate (2 - (lg_sl ([.ref (zK 0), .int 115])).length) Slot.unset).toArray = ls at hl ⊢
  have hl : lv_has ls 2 [(0, .ref (zK 0)), (1, .int 115)] := hl
  refine lv_aload_n hx hb dJ0_indexOf_0f7a4_0 rfl (lv_at hl 0 rfl) ?_
  refine lv_iload_n hx hb dJ0_indexOf_0f7a4_1 rfl (lv_at hl 1 rfl) ?_
  refine lv_iconst (v := 0) hx hb dJ0_indexOf_0f7a4_2 (by decide) ?_
  have hPc := hP.sub (ws' := []) [] rfl
  have hDc := hD.sub (ws' := []) [] (by decide) rfl
  have hKc := hK.sub (tys' := []) [] rfl
  have hFc := va_free (wc := []) hD hS hA [] rfl
  refine va_calli (va_runV (As := [.int 115, .int 0]) (rest := []) ⟨hx, hb, hml, hown, hts⟩ (k_ix2_115 l dC dI z zK zV  s.heap.size) (cwV 2 hts gJ0_indexOf_0f7a4_J0_indexOf_7cf53 rfl rfl rfl (by decide +kernel) ⟨Nat.le_of_ble_eq_true rfl, Nat.le_of_ble_eq_true rfl⟩) ⟨kP_blind, vk_recv (i := 0) hM.2.2.2.1 (by decide) hS, kP_go hPc hKc hDc hFc hM hS⟩ rfl rfl hl.1 rfl (lv_room (Nat.le_of_ble_eq_true rfl)) dJ0_indexOf_0f7a4_3 ⟨Nat.le_of_ble_eq_true rfl, Nat.le_of_ble_eq_true rfl⟩) hS (fun q _ h => hFc q h) hFc (fun r1 u t H1 locs ht hvm hw hB hz1 hk1 hS => ?_)
  obtain ⟨hP, hD, hK⟩ := kJ (wr := []) (w1 := []) (t1 := []) hP hD hK [] [] rfl rfl (by decide) (by decide) hk1 hFc ht hvm hB
  generalize H1 = H at hP hS ⊢
  have hP : va_P (dC, dI) vwCl [] H := hP
  have hD : va_D A [] := hD
  have hK : va_K (dC, dI) vwCl [] s := hK
  obtain rfl : 0 = r1 := hw
  exact W.iret (v := 0) hx hb hr (fun t ht hW => ⟨⟨0, (), rfl, rfl, kB_end (w9 := []) (t9 := []) hP hK hD [] [] rfl (by decide) rfl rfl t ht hW⟩, hS.F ht⟩) hS.2.2 dJ0_indexOf_0f7a4_6
abbrev wd_k_canEnc98 (_z : Nat → Nat) : va_W := []
set_option maxHeartbeats 4000000 in
set_option maxRecDepth 100000 in
theorem k_canEnc98 (l : Launch) (dC : Nat → ClassId) (dI : Nat → Nat → Nat) (z zK zV : Nat → Nat)  (sz : Nat)  : Met l yJ1_canEncode_9a6ad wsJ1_canEncode_9a6ad ({ frames := 0, cells := 0, slots := 0, locals := 0 }) (kP dC dI z zK zV [.int 98] sz (wd_k_canEnc98 z) []) (va_Qi (fun (r : Int32) (_ : Unit) => 1 = r) (fun _ t => kB (dC, dI) (va_A (wd_k_canEnc98 z) sz) [] [] t) (va_A (wd_k_canEnc98 z) sz)) 0 0 (va_A (wd_k_canEnc98 z) sz) := by
  refine Met.ofW (cc := cJ1_canEncode_9a6ad) (maxL := 1) (ret := (some .boolean)) (by decide) rfl ?_
  intro p e s m args below meth c s₁ B hml hv
  obtain ⟨rfl, hsz, hP, hK, hD0, hM⟩ := hv
  have hx := B.exec
  have hb := B.bytes
  have hr := B.returns
  have hts := atoms_spec (ws := wsJ1_canEncode_9a6ad) B.pre
  have hown : s.vm.findClass RJ1 = some m.cls := findClass_of_methodNamed B.named
  have hlocks := B.notSynchronized
  subst hsz
  have hD := hD0.self (sz := s.heap.size)
  generalize hAe : va_A (wd_k_canEnc98 z) s.heap.size = A at hD hM ⊢
  have hA : ∀ q : Nat, s.heap.size ≤ q → A q := fun q h => by rw [← hAe]; exact Or.inr h
  have hS : va_S A s.heap s.heap [] := va_S.rf
  have hP : va_P (dC, dI) vwCl [] s.heap := hP
  have hD : va_D A [] := hD
  have hl := lv_entry ([.int 98]) (n := 1) (Nat.le_of_ble_eq_true rfl)
  rw [lg_entry_eq]
  generalize (lg_sl ([.int 98]) ++ List.replicate (1 - (lg_sl ([.int 98])).length) Slot.unset).toArray = ls at hl ⊢
  have hl : lv_has ls 1 [(0, .int 98)] := hl
  refine lv_iload_n hx hb dJ1_canEncode_9a6ad_0 rfl (lv_at hl 0 rfl) ?_
  refine lv_if_lt (tgt := 15) hx hb dJ1_canEncode_9a6ad_1 (by decide) (fun c_ => absurd c_ (by decide +kernel)) (fun _ => ?_)
  refine lv_iload_n hx hb dJ1_canEncode_9a6ad_4 rfl (lv_at hl 0 rfl) ?_
  refine lv_sipush (v := 255) hx hb dJ1_canEncode_9a6ad_5 (by decide) ?_
  refine lv_icmp_gt (tgt := 15) hx hb dJ1_canEncode_9a6ad_8 (by decide) (fun c_ => absurd c_ (by decide +kernel)) (fun _ => ?_)
  refine lv_iconst (v := 1) hx hb dJ1_canEncode_9a6ad_11 (by decide) ?_
  refine lv_goto (tgt := 16) hx hb dJ1_canEncode_9a6ad_12 (by decide) ?_
  exact W.zret (v := 1) hx hb hr (by decide +kernel) (fun t ht hW => ⟨⟨1, (), rfl, rfl, kB_end (w9 := []) (t9 := []) hP hK hD [] [] rfl (by decide) rfl rfl t ht hW⟩, hS.F ht⟩) hS.2.2 dJ1_canEncode_9a6ad_16
abbrev wd_k_ixc98 (_z : Nat → Nat) : va_W := []
set_option maxHeartbeats 4000000 in
set_option maxRecDepth 100000 in
theorem k_ixc98 (l : Launch) (dC : Nat → ClassId) (dI : Nat → Nat → Nat) (z zK zV : Nat → Nat)  (sz : Nat)  : Met l yJ1_indexOfChar_4cfef wsJ1_indexOfChar_4cfef ({ frames := 0, cells := 0, slots := 0, locals := 0 }) (kP dC dI z zK zV [.ref (zV 0), .int 98, .int 0, .int 4] sz (wd_k_ixc98 z) []) (va_Qi (fun (r : Int32) (_ : Unit) => 1 = r) (fun _ t => kB (dC, dI) (va_A (wd_k_ixc98 z) sz) [] [] t) (va_A (wd_k_ixc98 z) sz)) 0 0 (va_A (wd_k_ixc98 z) sz) := by
  refine Met.ofW (cc := cJ1_indexOfChar_4cfef) (maxL := 6) (ret := (some .int)) (by decide) rfl ?_
  intro p e s m args below meth c s₁ B hml hv
  obtain ⟨rfl, hsz, hP, hK, hD0, hM⟩ := hv
  have hx := B.exec
  have hb := B.bytes
  have hr := B.returns
  have hts := atoms_spec (ws := wsJ1_indexOfChar_4cfef) B.pre
  have hown : s.vm.findClass RJ1 = some m.cls := findClass_of_methodNamed B.named
  have hlocks := B.notSynchronized
  subst hsz
  have hD := hD0.self (sz := s.heap.size)
  generalize hAe : va_A (wd_k_ixc98 z) s.heap.size = A at hD hM ⊢
  have hA : ∀ q : Nat, s.heap.size ≤ q → A q := fun q h => by rw [← hAe]; exact Or.inr h
  have hS : va_S A s.heap s.heap [] := va_S.rf
  have hP : va_P (dC, dI) vwCl [] s.heap := hP
  have hD : va_D A [] := hD
  have hl := lv_entry ([.ref (zV 0), .int 98, .int 0, .int 4]) (n := 6) (Nat.le_of_ble_eq_true rfl)
  rw [lg_entry_eq]
  generalize (lg_sl ([.ref (zV 0), .int 98, .int 0, .int 4]) ++ List.replicate (6 - (lg_sl ([.ref (zV 0), .int 98, .int 0, .int 4])).length) Slot.unset).toArray = ls at hl ⊢
  have hl : lv_has ls 6 [(0, .ref (zV 0)), (1, .int 98), (2, .int 0), (3, .int 4)] := hl
  refine lv_iload_n hx hb dJ1_indexOfChar_4cfef_0 rfl (lv_at hl 1 rfl) ?_
  refine lv_i2b (v := 98) hx hb dJ1_indexOfChar_4cfef_1 (by decide +kernel) ?_
  refine lv_istore (lv' := [(4, .int 98), (0, .ref (zV 0)), (1, .int 98), (2, .int 0), (3, .int 4)]) hx hb dJ1_indexOfChar_4cfef_2 hl (by decide) rfl (fun ls hl => ?_)
  refine lv_iload_n hx hb dJ1_indexOfChar_4cfef_4 rfl (lv_at hl 3 rfl) ?_
  refine lv_istore (lv' := [(5, .int 0), (4, .int 98), (0, .ref (zV 0)), (1, .int 98), (2, .int 0), (3, .int 4)]) hx hb dJ1_indexOfChar_4cfef_5 hl (by decide) rfl (fun ls hl => ?_)
  refine lv_iload hx hb dJ1_indexOfChar_4cfef_7 (lv_at hl 0 rfl) ?_
  refine lv_iload_n hx hb dJ1_indexOfChar_4cfef_9 rfl (lv_at hl 5 rfl) ?_
  refine lv_icmp_ge (tgt := 31) hx hb dJ1_indexOfChar_4cfef_10 (by decide) (fun c_ => absurd c_ (by decide +kernel)) (fun _ => ?_)
  refine lv_aload_n hx hb dJ1_indexOfChar_4cfef_13 rfl (lv_at hl 2 rfl) ?_
  refine lv_iload hx hb dJ1_indexOfChar_4cfef_14 (lv_at hl 0 rfl) ?_
  refine va_tb (v := .int 115) hx hb ((hM.2.2.2.1.1 0 (by decide)).2.2.2) hS (pk_in 0 4 (by decide) rfl) rfl dJ1_indexOfChar_4cfef_16 ?_
  refine lv_iload hx hb dJ1_indexOfChar_4cfef_17 (lv_at hl 1 rfl) ?_
  refine lv_icmp_ne (tgt := 25) hx hb dJ1_indexOfChar_4cfef_19 (by decide) (fun _ => ?_) (fun c_ => absurd c_ (by decide +kernel))
  refine lv_iinc (v := 1) (lv' := [(5, .int 1), (4, .int 98), (0, .ref (zV 0)), (1, .int 98), (2, .int 0), (3, .int 4)]) hx hb dJ1_indexOfChar_4cfef_25 hl (k := 0) rfl (by decide +kernel) (by decide) rfl (fun ls hl => ?_)
  refine lv_goto (tgt := 7) hx hb dJ1_indexOfChar_4cfef_28 (by decide) ?_
  refine lv_iload hx hb dJ1_indexOfChar_4cfef_7 (lv_at hl 0 rfl) ?_
  refine lv_iload_n hx hb dJ1_indexOfChar_4cfef_9 rfl (lv_at hl 5 rfl) ?_
  refine lv_icmp_ge (tgt := 31) hx hb dJ1_indexOfChar_4cfef_10 (by decide) (fun c_ => absurd c_ (by decide +kernel)) (fun _ => ?_)
  refine lv_aload_n hx hb dJ1_indexOfChar_4cfef_13 rfl (lv_at hl 2 rfl) ?_
  refine lv_iload hx hb dJ1_indexOfChar_4cfef_14 (lv_at hl 0 rfl) ?_
  refine va_tb (v := .int 98) hx hb ((hM.2.2.2.1.1 0 (by decide)).2.2.2) hS (pk_in 1 4 (by decide) rfl) rfl dJ1_indexOfChar_4cfef_16 ?_
  refine lv_iload hx hb dJ1_indexOfChar_4cfef_17 (lv_at hl 1 rfl) ?_
  refine lv_icmp_ne (tgt := 25) hx hb dJ1_indexOfChar_4cfef_19 (by decide) (fun c_ => absurd (by decide +kernel) c_) (fun _ => ?_)
  refine lv_iload hx hb dJ1_indexOfChar_4cfef_22 (lv_at hl 0 rfl) ?_
  exact W.iret (v := 1) hx hb hr (fun t ht hW => ⟨⟨1, (), rfl, rfl, kB_end (w9 := []) (t9 := []) hP hK hD [] [] rfl (by decide) rfl rfl t ht hW⟩, hS.F ht⟩) hS.2.2 dJ1_indexOfChar_4cfef_24
abbrev wd_k_ix1_98 (_z : Nat → Nat) : va_W := []
set_option maxHeartbeats 4000000 in
set_option maxRecDepth 100000 in
theorem k_ix1_98 (l : Launch) (dC : Nat → ClassId) (dI : Nat → Nat → Nat) (z zK zV : Nat → Nat)  (sz : Nat)  : Met l yJ1_indexOf_4cfef wsJ1_indexOf_4cfef ({ frames := 1, cells := 0, slots := 0, locals := 25 }) (kP dC dI z zK zV [.ref (zV 0), .int 98, .int 0, .int 4] sz (wd_k_ix1_98 z) []) (va_Qi (fun (r : Int32) (_ : Unit) => 1 = r) (fun _ t => kB (dC, dI) (va_A (wd_k_ix1_98 z) sz) [] [] t) (va_A (wd_k_ix1_98 z) sz)) 0 0 (va_A (wd_k_ix1_98 z) sz) := by
  refine Met.ofW (cc := cJ1_indexOf_4cfef) (maxL := 4) (ret := (some .int)) (by decide) rfl ?_
  intro p e s m args below meth c s₁ B hml hv
  obtain ⟨rfl, hsz, hP, hK, hD0, hM⟩ := hv
  have hx := B.exec
  have hb := B.bytes
  have hr := B.returns
  have hts := atoms_spec (ws := wsJ1_indexOf_4cfef) B.pre
  have hown : s.vm.findClass RJ1 = some m.cls := findClass_of_methodNamed B.named
  have hlocks := B.notSynchronized
  subst hsz
  have hD := hD0.self (sz := s.heap.size)
  generalize hAe : va_A (wd_k_ix1_98 z) s.heap.size = A at hD hM ⊢
  have hA : ∀ q : Nat, s.heap.size ≤ q → A q := fun q h => by rw [← hAe]; exact Or.inr h
  have hS : va_S A s.heap s.heap [] := va_S.rf
  have hP : va_P (dC, dI) vwCl [] s.heap := hP
  have hD : va_D A [] := hD
  have hl := lv_entry ([.ref (zV 0), .int 98, .int 0, .int 4]) (n := 4) (Nat.le_of_ble_eq_true rfl)
  rw [lg_entry_eq]
  generalize (lg_sl ([.ref (zV 0), .int 98, .int 0, .int 4]) ++ List.replicate (4 - (lg_sl ([.ref (zV 0), .int 98, .int 0, .int 4])).length) Slot.unset).toArray = ls at hl ⊢
  have hl : lv_has ls 4 [(0, .ref (zV 0)), (1, .int 98), (2, .int 0), (3, .int 4)] := hl
  refine lv_iload_n hx hb dJ1_indexOf_4cfef_0 rfl (lv_at hl 1 rfl) ?_
  have hPc := hP.sub (ws' := []) [] rfl
  have hDc := hD.sub (ws' := []) [] (by decide) rfl
  have hKc := hK.sub (tys' := []) [] rfl
  have hFc := va_free (wc := []) hD hS hA [] rfl
  refine va_calli (va_runS (As := [.int 98]) (rest := []) ⟨hx, hb, hml, hown, hts⟩ (k_canEnc98 l dC dI z zK zV  s.heap.size) (va_cwS 1 hts gJ1_indexOf_4cfef_J1_canEncode_9a6ad rfl rfl rfl (by decide +kernel) ⟨Nat.le_of_ble_eq_true rfl, Nat.le_of_ble_eq_true rfl⟩) ⟨kP_blind, kP_go hPc hKc hDc hFc hM hS⟩ rfl rfl hl.1 rfl (lv_room (Nat.le_of_ble_eq_true rfl)) dJ1_indexOf_4cfef_1 ⟨Nat.le_of_ble_eq_true rfl, Nat.le_of_ble_eq_true rfl⟩) hS (fun q _ h => hFc q h) hFc (fun r1 u t H1 locs ht hvm hw hB hz1 hk1 hS => ?_)
  obtain ⟨hP, hD, hK⟩ := kJ (wr := []) (w1 := []) (t1 := []) hP hD hK [] [] rfl rfl (by decide) (by decide) hk1 hFc ht hvm hB
  generalize H1 = H at hP hS ⊢
  have hP : va_P (dC, dI) vwCl [] H := hP
  have hD : va_D A [] := hD
  have hK : va_K (dC, dI) vwCl [] s := hK
  obtain rfl : 1 = r1 := hw
  refine lv_if_ne (tgt := 9) hx hb dJ1_indexOf_4cfef_4 (by decide) (fun _ => ?_) (fun c_ => absurd c_ (by decide +kernel))
  refine lv_iload_n hx hb dJ1_indexOf_4cfef_9 rfl (lv_at hl 2 rfl) ?_
  refine lv_iconst (v := 0) hx hb dJ1_indexOf_4cfef_10 (by decide) ?_
  refine va_mmax hx hb (hml.trans hl.1.symm) hown (hts (.methodLink RJ1 92 Lib.Math.max.name) (by decide +kernel)) (hts (.static Lib.Math.max.name) (by decide +kernel)) (hts (.initialized "java/lang/Math") (by decide +kernel)) (hts (.code Lib.Math.max.name Lib.Math.max.code 2 (some .int)) (by decide +kernel)) (Nat.le_of_ble_eq_true rfl) (Nat.le_of_ble_eq_true rfl) (Nat.le_of_ble_eq_true rfl) (Nat.le_of_ble_eq_true rfl) dJ1_indexOf_4cfef_11 ?_
  refine kc_i (y := 0) (by decide +kernel) ?_
  refine lv_istore_n (lv' := [(2, .int 0), (0, .ref (zV 0)), (1, .int 98), (3, .int 4)]) hx hb dJ1_indexOf_4cfef_14 rfl hl (by decide) rfl (fun ls hl => ?_)
  refine lv_iload_n hx hb dJ1_indexOf_4cfef_15 rfl (lv_at hl 3 rfl) ?_
  refine lv_aload_n hx hb dJ1_indexOf_4cfef_16 rfl (lv_at hl 1 rfl) ?_
  refine va_tlen (v := 4) hx hb ((hM.2.2.2.1.1 0 (by decide)).2.2.2) hS rfl dJ1_indexOf_4cfef_17 ?_
  refine va_mmin hx hb (hml.trans hl.1.symm) hown (hts (.methodLink RJ1 38 Lib.Math.min.name) (by decide +kernel)) (hts (.static Lib.Math.min.name) (by decide +kernel)) (hts (.initialized "java/lang/Math") (by decide +kernel)) (hts (.code Lib.Math.min.name Lib.Math.min.code 2 (some .int)) (by decide +kernel)) (Nat.le_of_ble_eq_true rfl) (Nat.le_of_ble_eq_true rfl) (Nat.le_of_ble_eq_true rfl) (Nat.le_of_ble_eq_true rfl) dJ1_indexOf_4cfef_18 ?_
  refine kc_i (y := 4) (by decide +kernel) ?_
  refine lv_istore_n (lv' := [(3, .int 4), (2, .int 0), (0, .ref (zV 0)), (1, .int 98)]) hx hb dJ1_indexOf_4cfef_21 rfl hl (by decide) rfl (fun ls hl => ?_)
  refine lv_iload_n hx hb dJ1_indexOf_4cfef_22 rfl (lv_at hl 1 rfl) ?_
  refine lv_iload_n hx hb dJ1_indexOf_4cfef_23 rfl (lv_at hl 0 rfl) ?_
  refine lv_icmp_lt (tgt := 29) hx hb dJ1_indexOf_4cfef_24 (by decide) (fun _ => ?_) (fun c_ => absurd (by decide +kernel) c_)
  refine lv_aload_n hx hb dJ1_indexOf_4cfef_29 rfl (lv_at hl 2 rfl) ?_
  refine lv_iload_n hx hb dJ1_indexOf_4cfef_30 rfl (lv_at hl 3 rfl) ?_
  refine lv_iload_n hx hb dJ1_indexOf_4cfef_31 rfl (lv_at hl 1 rfl) ?_
  refine lv_iload_n hx hb dJ1_indexOf_4cfef_32 rfl (lv_at hl 0 rfl) ?_
  have hPc := hP.sub (ws' := []) [] rfl
  have hDc := hD.sub (ws' := []) [] (by decide) rfl
  have hKc := hK.sub (tys' := []) [] rfl
  have hFc := va_free (wc := []) hD hS hA [] rfl
  refine va_calli (va_runS (As := [.ref (zV 0), .int 98, .int 0, .int 4]) (rest := []) ⟨hx, hb, hml, hown, hts⟩ (k_ixc98 l dC dI z zK zV  H.size) (va_cwS 4 hts gJ1_indexOf_4cfef_J1_indexOfChar_4cfef rfl rfl rfl (by decide +kernel) ⟨Nat.le_of_ble_eq_true rfl, Nat.le_of_ble_eq_true rfl⟩) ⟨kP_blind, kP_go hPc hKc hDc hFc hM hS⟩ rfl rfl hl.1 rfl (lv_room (Nat.le_of_ble_eq_true rfl)) dJ1_indexOf_4cfef_33 ⟨Nat.le_of_ble_eq_true rfl, Nat.le_of_ble_eq_true rfl⟩) hS (fun q _ h => hFc q h) hFc (fun r2 u t H1 locs ht hvm hw hB hz1 hk1 hS => ?_)
  obtain ⟨hP, hD, hK⟩ := kJ (wr := []) (w1 := []) (t1 := []) hP hD hK [] [] rfl rfl (by decide) (by decide) hk1 hFc ht hvm hB
  generalize H1 = H at hP hS ⊢
  have hP : va_P (dC, dI) vwCl [] H := hP
  have hD : va_D A [] := hD
  have hK : va_K (dC, dI) vwCl [] s := hK
  obtain rfl : 1 = r2 := hw
  exact W.iret (v := 1) hx hb hr (fun t ht hW => ⟨⟨1, (), rfl, rfl, kB_end (w9 := []) (t9 := []) hP hK hD [] [] rfl (by decide) rfl rfl t ht hW⟩, hS.F ht⟩) hS.2.2 dJ1_indexOf_4cfef_36
abbrev wd_k_ix2_98 (_z : Nat → Nat) : va_W := []
set_option maxHeartbeats 4000000 in
set_option maxRecDepth 100000 in
theorem k_ix2_98 (l : Launch) (dC : Nat → ClassId) (dI : Nat → Nat → Nat) (z zK zV : Nat → Nat)  (sz : Nat)  : Met l yJ0_indexOf_7cf53 wsJ0_indexOf_7cf53 ({ frames := 2, cells := 0, slots := 0, locals := 48 }) (kP dC dI z zK zV [.ref (zK 0), .int 98, .int 0] sz (wd_k_ix2_98 z) []) (va_Qi (fun (r : Int32) (_ : Unit) => 1 = r) (fun _ t => kB (dC, dI) (va_A (wd_k_ix2_98 z) sz) [] [] t) (va_A (wd_k_ix2_98 z) sz)) 0 0 (va_A (wd_k_ix2_98 z) sz) := by
  refine Met.ofW (cc := cJ0_indexOf_7cf53) (maxL := 3) (ret := (some .int)) (by decide) rfl ?_
  intro p e s m args below meth c s₁ B hml hv
  obtain ⟨rfl, hsz, hP, hK, hD0, hM⟩ := hv
  have hx := B.exec
  have hb := B.bytes
  have hr := B.returns
  have hts := atoms_spec (ws := wsJ0_indexOf_7cf53) B.pre
  have hown : s.vm.findClass RJ0 = some m.cls := findClass_of_methodNamed B.named
  have hlocks := B.notSynchronized
  subst hsz
  have hD := hD0.self (sz := s.heap.size)
  generalize hAe : va_A (wd_k_ix2_98 z) s.heap.size = A at hD hM ⊢
  have hA : ∀ q : Nat, s.heap.size ≤ q → A q := fun q h => by rw [← hAe]; exact Or.inr h
  have hS : va_S A s.heap s.heap [] := va_S.rf
  have hP : va_P (dC, dI) vwCl [] s.heap := hP
  have hD : va_D A [] := hD
  have hl := lv_entry ([.ref (zK 0), .int 98, .int 0]) (n := 3) (Nat.le_of_ble_eq_true rfl)
  rw [lg_entry_eq]
  generalize (lg_sl ([.ref (zK 0), .int 98, .int 0]) ++ List.replicate (3 - (lg_sl ([.ref (zK 0), .int 98, .int 0])).length) Slot.unset).toArray = ls at hl ⊢
  have hl : lv_has ls 3 [(0, .ref (zK 0)), (1, .int 98), (2, .int 0)] := hl
  refine lv_aload_n hx hb dJ0_indexOf_7cf53_0 rfl (lv_at hl 0 rfl) ?_
  have hPc := hP.sub (ws' := []) [] rfl
  have hDc := hD.sub (ws' := []) [] (by decide) rfl
  have hKc := hK.sub (tys' := []) [] rfl
  have hFc := va_free (wc := []) hD hS hA [] rfl
  refine va_calli (va_runV (As := []) (rest := []) ⟨hx, hb, hml, hown, hts⟩ (k_isLatin0 l dC dI z zK zV  s.heap.size) (cwV 0 hts gJ0_indexOf_7cf53_J0_isLatin1_aae02 rfl rfl rfl (by decide +kernel) ⟨Nat.le_of_ble_eq_true rfl, Nat.le_of_ble_eq_true rfl⟩) ⟨kP_blind, vk_recv (i := 0) hM.2.2.2.1 (by decide) hS, kP_go hPc hKc hDc hFc hM hS⟩ rfl rfl hl.1 rfl (lv_room (Nat.le_of_ble_eq_true rfl)) dJ0_indexOf_7cf53_1 ⟨Nat.le_of_ble_eq_true rfl, Nat.le_of_ble_eq_true rfl⟩) hS (fun q _ h => hFc q h) hFc (fun r1 u t H1 locs ht hvm hw hB hz1 hk1 hS => ?_)
  obtain ⟨hP, hD, hK⟩ := kJ (wr := []) (w1 := []) (t1 := []) hP hD hK [] [] rfl rfl (by decide) (by decide) hk1 hFc ht hvm hB
  generalize H1 = H at hP hS ⊢
  have hP : va_P (dC, dI) vwCl [] H := hP
  have hD : va_D A [] := hD
  have hK : va_K (dC, dI) vwCl [] s := hK
  obtain rfl : 1 = r1 := hw
  refine lv_if_eq (tgt := 23) hx hb dJ0_indexOf_7cf53_4 (by decide) (fun c_ => absurd c_ (by decide +kernel)) (fun _ => ?_)
  refine lv_aload_n hx hb dJ0_indexOf_7cf53_7 rfl (lv_at hl 0 rfl) ?_
  refine vk_getf (v := .ref (zV 0)) hx hb (hM.2.2.2.1.1 0 (by decide)).2.2.1 hS hown (hts (.fieldLink RJ0 9 "java/lang/String" "value" "[B") (by decide +kernel)) (fun _ h9 => h9) dJ0_indexOf_7cf53_8 ?_
  refine lv_iload_n hx hb dJ0_indexOf_7cf53_11 rfl (lv_at hl 1 rfl) ?_
  refine lv_iload_n hx hb dJ0_indexOf_7cf53_12 rfl (lv_at hl 2 rfl) ?_
  refine lv_aload_n hx hb dJ0_indexOf_7cf53_13 rfl (lv_at hl 0 rfl) ?_
  have hPc := hP.sub (ws' := []) [] rfl
  have hDc := hD.sub (ws' := []) [] (by decide) rfl
  have hKc := hK.sub (tys' := []) [] rfl
  have hFc := va_free (wc := []) hD hS hA [] rfl
  refine va_calli (va_runV (As := []) (rest := [.int 0, .int 98, .ref (zV 0)]) ⟨hx, hb, hml, hown, hts⟩ (k_length0 l dC dI z zK zV  H.size) (cwV 0 hts gJ0_indexOf_7cf53_J0_length_8abf5 rfl rfl rfl (by decide +kernel) ⟨Nat.le_of_ble_eq_true rfl, Nat.le_of_ble_eq_true rfl⟩) ⟨kP_blind, vk_recv (i := 0) hM.2.2.2.1 (by decide) hS, kP_go hPc hKc hDc hFc hM hS⟩ rfl rfl hl.1 rfl (lv_room (Nat.le_of_ble_eq_true rfl)) dJ0_indexOf_7cf53_14 ⟨Nat.le_of_ble_eq_true rfl, Nat.le_of_ble_eq_true rfl⟩) hS (fun q _ h => hFc q h) hFc (fun r2 u t H1 locs ht hvm hw hB hz1 hk1 hS => ?_)
  obtain ⟨hP, hD, hK⟩ := kJ (wr := []) (w1 := []) (t1 := []) hP hD hK [] [] rfl rfl (by decide) (by decide) hk1 hFc ht hvm hB
  generalize H1 = H at hP hS ⊢
  have hP : va_P (dC, dI) vwCl [] H := hP
  have hD : va_D A [] := hD
  have hK : va_K (dC, dI) vwCl [] s := hK
  obtain rfl : 4 = r2 := hw
  have hPc := hP.sub (ws' := []) [] rfl
  have hDc := hD.sub (ws' := []) [] (by decide) rfl
  have hKc := hK.sub (tys' := []) [] rfl
  have hFc := va_free (wc := []) hD hS hA [] rfl
  refine va_calli (va_runS (As := [.ref (zV 0), .int 98, .int 0, .int 4]) (rest := []) ⟨hx, hb, hml, hown, hts⟩ (k_ix1_98 l dC dI z zK zV  H.size) (va_cwS 4 hts gJ0_indexOf_7cf53_J1_indexOf_4cfef rfl rfl rfl (by decide +kernel) ⟨Nat.le_of_ble_eq_true rfl, Nat.le_of_ble_eq_true rfl⟩) ⟨kP_blind, kP_go hPc hKc hDc hFc hM hS⟩ rfl rfl hl.1 rfl (lv_room (Nat.le_of_ble_eq_true rfl)) dJ0_indexOf_7cf53_17 ⟨Nat.le_of_ble_eq_true rfl, Nat.le_of_ble_eq_true rfl⟩) hS (fun q _ h => hFc q h) hFc (fun r3 u t H1 locs ht hvm hw hB hz1 hk1 hS => ?_)
  obtain ⟨hP, hD, hK⟩ := kJ (wr := []) (w1 := []) (t1 := []) hP hD hK [] [] rfl rfl (by decide) (by decide) hk1 hFc ht hvm hB
  generalize H1 = H at hP hS ⊢
  have hP : va_P (dC, dI) vwCl [] H := hP
  have hD : va_D A [] := hD
  have hK : va_K (dC, dI) vwCl [] s := hK
  obtain rfl : 1 = r3 := hw
  refine lv_goto (tgt := 36) hx hb dJ0_indexOf_7cf53_20 (by decide) ?_
  exact W.iret (v := 1) hx hb hr (fun t ht hW => ⟨⟨1, (), rfl, rfl, kB_end (w9 := []) (t9 := []) hP hK hD [] [] rfl (by decide) rfl rfl t ht hW⟩, hS.F ht⟩) hS.2.2 dJ0_indexOf_7cf53_36
abbrev wd_k_ix3_98 (_z : Nat → Nat) : va_W := []
set_option maxHeartbeats 4000000 in
set_option maxRecDepth 100000 in
theorem k_ix3_98 (l : Launch) (dC : Nat → ClassId) (dI : Nat → Nat → Nat) (z zK zV : Nat → Nat)  (sz : Nat)  : Met l yJ0_indexOf_0f7a4 wsJ0_indexOf_0f7a4 ({ frames := 3, cells := 0, slots := 0, locals := 70 }) (kP dC dI z zK zV [.ref (zK 0), .int 98] sz (wd_k_ix3_98 z) []) (va_Qi (fun (r : Int32) (_ : Unit) => 1 = r) (fun _ t => kB (dC, dI) (va_A (wd_k_ix3_98 z) sz) [] [] t) (va_A (wd_k_ix3_98 z) sz)) 0 0 (va_A (wd_k_ix3_98 z) sz) := by
  refine Met.ofW (cc := cJ0_indexOf_0f7a4) (maxL := 2) (ret := (some .int)) (by decide) rfl ?_
  intro p e s m args below meth c s₁ B hml hv
  obtain ⟨rfl, hsz, hP, hK, hD0, hM⟩ := hv
  have hx := B.exec
  have hb := B.bytes
  have hr := B.returns
  have hts := atoms_spec (ws := wsJ0_indexOf_0f7a4) B.pre
  have hown : s.vm.findClass RJ0 = some m.cls := findClass_of_methodNamed B.named
  have hlocks := B.notSynchronized
  subst hsz
  have hD := hD0.self (sz := s.heap.size)
  generalize hAe : va_A (wd_k_ix3_98 z) s.heap.size = A at hD hM ⊢
  have hA : ∀ q : Nat, s.heap.size ≤ q → A q := fun q h => by rw [← hAe]; exact Or.inr h
  have hS : va_S A s.heap s.heap [] := va_S.rf
  have hP : va_P (dC, dI) vwCl [] s.heap := hP
  have hD : va_D A [] := hD
  have hl := lv_entry ([.ref (zK 0), .int 98]) (n := 2) (Nat.le_of_ble_eq_true rfl)
  rw [lg_entry_eq]
  generalize (lg_sl ([.ref (zK 0), .int 98]) ++ List.replicate (2 - (lg_sl ([.ref (zK 0), .int 98])).length) Slot.unset).toArray = ls at hl ⊢
  have hl : lv_has ls 2 [(0, .ref (zK 0)), (1, .int 98)] := hl
  refine lv_aload_n hx hb dJ0_indexOf_0f7a4_0 rfl (lv_at hl 0 rfl) ?_
  refine lv_iload_n hx hb dJ0_indexOf_0f7a4_1 rfl (lv_at hl 1 rfl) ?_
  refine lv_iconst (v := 0) hx hb dJ0_indexOf_0f7a4_2 (by decide) ?_
  have hPc := hP.sub (ws' := []) [] rfl
  have hDc := hD.sub (ws' := []) [] (by decide) rfl
  have hKc := hK.sub (tys' := []) [] rfl
  have hFc := va_free (wc := []) hD hS hA [] rfl
  refine va_calli (va_runV (As := [.int 98, .int 0]) (rest := []) ⟨hx, hb, hml, hown, hts⟩ (k_ix2_98 l dC dI z zK zV  s.heap.size) (cwV 2 hts gJ0_indexOf_0f7a4_J0_indexOf_7cf53 rfl rfl rfl (by decide +kernel) ⟨Nat.le_of_ble_eq_true rfl, Nat.le_of_ble_eq_true rfl⟩) ⟨kP_blind, vk_recv (i := 0) hM.2.2.2.1 (by decide) hS, kP_go hPc hKc hDc hFc hM hS⟩ rfl rfl hl.1 rfl (lv_room (Nat.le_of_ble_eq_true rfl)) dJ0_indexOf_0f7a4_3 ⟨Nat.le_of_ble_eq_true rfl, Nat.le_of_ble_eq_true rfl⟩) hS (fun q _ h => hFc q h) hFc (fun r1 u t H1 locs ht hvm hw hB hz1 hk1 hS => ?_)
  obtain ⟨hP, hD, hK⟩ := kJ (wr := []) (w1 := []) (t1 := []) hP hD hK [] [] rfl rfl (by decide) (by decide) hk1 hFc ht hvm hB
  generalize H1 = H at hP hS ⊢
  have hP : va_P (dC, dI) vwCl [] H := hP
  have hD : va_D A [] := hD
  have hK : va_K (dC, dI) vwCl [] s := hK
  obtain rfl : 1 = r1 := hw
  exact W.iret (v := 1) hx hb hr (fun t ht hW => ⟨⟨1, (), rfl, rfl, kB_end (w9 := []) (t9 := []) hP hK hD [] [] rfl (by decide) rfl rfl t ht hW⟩, hS.F ht⟩) hS.2.2 dJ0_indexOf_0f7a4_6
abbrev wd_k_canEnc109 (_z : Nat → Nat) : va_W := []
set_option maxHeartbeats 4000000 in
set_option maxRecDepth 100000 in
theorem k_canEnc109 (l : Launch) (dC : Nat → ClassId) (dI : Nat → Nat → Nat) (z zK zV : Nat → Nat)  (sz : Nat)  : Met l yJ1_canEncode_9a6ad wsJ1_canEncode_9a6ad ({ frames := 0, cells := 0, slots := 0, locals := 0 }) (kP dC dI z zK zV [.int 109] sz (wd_k_canEnc109 z) []) (va_Qi (fun (r : Int32) (_ : Unit) => 1 = r) (fun _ t => kB (dC, dI) (va_A (wd_k_canEnc109 z) sz) [] [] t) (va_A (wd_k_canEnc109 z) sz)) 0 0 (va_A (wd_k_canEnc109 z) sz) := by
  refine Met.ofW (cc := cJ1_canEncode_9a6ad) (maxL := 1) (ret := (some .boolean)) (by decide) rfl ?_
  intro p e s m args below meth c s₁ B hml hv
  obtain ⟨rfl, hsz, hP, hK, hD0, hM⟩ := hv
  have hx := B.exec
  have hb := B.bytes
  have hr := B.returns
  have hts := atoms_spec (ws := wsJ1_canEncode_9a6ad) B.pre
  have hown : s.vm.findClass RJ1 = some m.cls := findClass_of_methodNamed B.named
  have hlocks := B.notSynchronized
  subst hsz
  have hD := hD0.self (sz := s.heap.size)
  generalize hAe : va_A (wd_k_canEnc109 z) s.heap.size = A at hD hM ⊢
  have hA : ∀ q : Nat, s.heap.size ≤ q → A q := fun q h => by rw [← hAe]; exact Or.inr h
  have hS : va_S A s.heap s.heap [] := va_S.rf
  have hP : va_P (dC, dI) vwCl [] s.heap := hP
  have hD : va_D A [] := hD
  have hl := lv_entry ([.int 109]) (n := 1) (Nat.le_of_ble_eq_true rfl)
  rw [lg_entry_eq]
  generalize (lg_sl ([.int 109]) ++ List.replicate (1 - (lg_sl ([.int 109])).length) Slot.unset).toArray = ls at hl ⊢
  have hl : lv_has ls 1 [(0, .int 109)] := hl
  refine lv_iload_n hx hb dJ1_canEncode_9a6ad_0 rfl (lv_at hl 0 rfl) ?_
  refine lv_if_lt (tgt := 15) hx hb dJ1_canEncode_9a6ad_1 (by decide) (fun c_ => absurd c_ (by decide +kernel)) (fun _ => ?_)
  refine lv_iload_n hx hb dJ1_canEncode_9a6ad_4 rfl (lv_at hl 0 rfl) ?_
  refine lv_sipush (v := 255) hx hb dJ1_canEncode_9a6ad_5 (by decide) ?_
  refine lv_icmp_gt (tgt := 15) hx hb dJ1_canEncode_9a6ad_8 (by decide) (fun c_ => absurd c_ (by decide +kernel)) (fun _ => ?_)
  refine lv_iconst (v := 1) hx hb dJ1_canEncode_9a6ad_11 (by decide) ?_
  refine lv_goto (tgt := 16) hx hb dJ1_canEncode_9a6ad_12 (by decide) ?_
  exact W.zret (v := 1) hx hb hr (by decide +kernel) (fun t ht hW => ⟨⟨1, (), rfl, rfl, kB_end (w9 := []) (t9 := []) hP hK hD [] [] rfl (by decide) rfl rfl t ht hW⟩, hS.F ht⟩) hS.2.2 dJ1_canEncode_9a6ad_16
abbrev wd_k_ixc109 (_z : Nat → Nat) : va_W := []
set_option maxHeartbeats 4000000 in
set_option maxRecDepth 100000 in
theorem k_ixc109 (l : Launch) (dC : Nat → ClassId) (dI : Nat → Nat → Nat) (z zK zV : Nat → Nat)  (sz : Nat)  : Met l yJ1_indexOfChar_4cfef wsJ1_indexOfChar_4cfef ({ frames := 0, cells := 0, slots := 0, locals := 0 }) (kP dC dI z zK zV [.ref (zV 0), .int 109, .int 0, .int 4] sz (wd_k_ixc109 z) []) (va_Qi (fun (r : Int32) (_ : Unit) => 2 = r) (fun _ t => kB (dC, dI) (va_A (wd_k_ixc109 z) sz) [] [] t) (va_A (wd_k_ixc109 z) sz)) 0 0 (va_A (wd_k_ixc109 z) sz) := by
  refine Met.ofW (cc := cJ1_indexOfChar_4cfef) (maxL := 6) (ret := (some .int)) (by decide) rfl ?_
  intro p e s m args below meth c s₁ B hml hv
  obtain ⟨rfl, hsz, hP, hK, hD0, hM⟩ := hv
  have hx := B.exec
  have hb := B.bytes
  have hr := B.returns
  have hts := atoms_spec (ws := wsJ1_indexOfChar_4cfef) B.pre
  have hown : s.vm.findClass RJ1 = some m.cls := findClass_of_methodNamed B.named
  have hlocks := B.notSynchronized
  subst hsz
  have hD := hD0.self (sz := s.heap.size)
  generalize hAe : va_A (wd_k_ixc109 z) s.heap.size = A at hD hM ⊢
  have hA : ∀ q : Nat, s.heap.size ≤ q → A q := fun q h => by rw [← hAe]; exact Or.inr h
  have hS : va_S A s.heap s.heap [] := va_S.rf
  have hP : va_P (dC, dI) vwCl [] s.heap := hP
  have hD : va_D A [] := hD
  have hl := lv_entry ([.ref (zV 0), .int 109, .int 0, .int 4]) (n := 6) (Nat.le_of_ble_eq_true rfl)
  rw [lg_entry_eq]
  generalize (lg_sl ([.ref (zV 0), .int 109, .int 0, .int 4]) ++ List.replicate (6 - (lg_sl ([.ref (zV 0), .int 109, .int 0, .int 4])).length) Slot.unset).toArray = ls at hl ⊢
  have hl : lv_has ls 6 [(0, .ref (zV 0)), (1, .int 109), (2, .int 0), (3, .int 4)] := hl
  refine lv_iload_n hx hb dJ1_indexOfChar_4cfef_0 rfl (lv_at hl 1 rfl) ?_
  refine lv_i2b (v := 109) hx hb dJ1_indexOfChar_4cfef_1 (by decide +kernel) ?_
  refine lv_istore (lv' := [(4, .int 109), (0, .ref (zV 0)), (1, .int 109), (2, .int 0), (3, .int 4)]) hx hb dJ1_indexOfChar_4cfef_2 hl (by decide) rfl (fun ls hl => ?_)
  refine lv_iload_n hx hb dJ1_indexOfChar_4cfef_4 rfl (lv_at hl 3 rfl) ?_
  refine lv_istore (lv' := [(5, .int 0), (4, .int 109), (0, .ref (zV 0)), (1, .int 109), (2, .int 0), (3, .int 4)]) hx hb dJ1_indexOfChar_4cfef_5 hl (by decide) rfl (fun ls hl => ?_)
  refine lv_iload hx hb dJ1_indexOfChar_4cfef_7 (lv_at hl 0 rfl) ?_
  refine lv_iload_n hx hb dJ1_indexOfChar_4cfef_9 rfl (lv_at hl 5 rfl) ?_
  refine lv_icmp_ge (tgt := 31) hx hb dJ1_indexOfChar_4cfef_10 (by decide) (fun c_ => absurd c_ (by decide +kernel)) (fun _ => ?_)
  refine lv_aload_n hx hb dJ1_indexOfChar_4cfef_13 rfl (lv_at hl 2 rfl) ?_
  refine lv_iload hx hb dJ1_indexOfChar_4cfef_14 (lv_at hl 0 rfl) ?_
  refine va_tb (v := .int 115) hx hb ((hM.2.2.2.1.1 0 (by decide)).2.2.2) hS (pk_in 0 4 (by decide) rfl) rfl dJ1_indexOfChar_4cfef_16 ?_
  refine lv_iload hx hb dJ1_indexOfChar_4cfef_17 (lv_at hl 1 rfl) ?_
  refine lv_icmp_ne (tgt := 25) hx hb dJ1_indexOfChar_4cfef_19 (by decide) (fun _ => ?_) (fun c_ => absurd c_ (by decide +kernel))
  refine lv_iinc (v := 1) (lv' := [(5, .int 1), (4, .int 109), (0, .ref (zV 0)), (1, .int 109), (2, .int 0), (3, .int 4)]) hx hb dJ1_indexOfChar_4cfef_25 hl (k := 0) rfl (by decide +kernel) (by decide) rfl (fun ls hl => ?_)
  refine lv_goto (tgt := 7) hx hb dJ1_indexOfChar_4cfef_28 (by decide) ?_
  refine lv_iload hx hb dJ1_indexOfChar_4cfef_7 (lv_at hl 0 rfl) ?_
  refine lv_iload_n hx hb dJ1_indexOfChar_4cfef_9 rfl (lv_at hl 5 rfl) ?_
  refine lv_icmp_ge (tgt := 31) hx hb dJ1_indexOfChar_4cfef_10 (by decide) (fun c_ => absurd c_ (by decide +kernel)) (fun _ => ?_)
  refine lv_aload_n hx hb dJ1_indexOfChar_4cfef_13 rfl (lv_at hl 2 rfl) ?_
  refine lv_iload hx hb dJ1_indexOfChar_4cfef_14 (lv_at hl 0 rfl) ?_
  refine va_tb (v := .int 98) hx hb ((hM.2.2.2.1.1 0 (by decide)).2.2.2) hS (pk_in 1 4 (by decide) rfl) rfl dJ1_indexOfChar_4cfef_16 ?_
  refine lv_iload hx hb dJ1_indexOfChar_4cfef_17 (lv_at hl 1 rfl) ?_
  refine lv_icmp_ne (tgt := 25) hx hb dJ1_indexOfChar_4cfef_19 (by decide) (fun _ => ?_) (fun c_ => absurd c_ (by decide +kernel))
  refine lv_iinc (v := 2) (lv' := [(5, .int 2), (4, .int 109), (0, .ref (zV 0)), (1, .int 109), (2, .int 0), (3, .int 4)]) hx hb dJ1_indexOfChar_4cfef_25 hl (k := 0) rfl (by decide +kernel) (by decide) rfl (fun ls hl => ?_)
  refine lv_goto (tgt := 7) hx hb dJ1_indexOfChar_4cfef_28 (by decide) ?_
  refine lv_iload hx hb dJ1_indexOfChar_4cfef_7 (lv_at hl 0 rfl) ?_
  refine lv_iload_n hx hb dJ1_indexOfChar_4cfef_9 rfl (lv_at hl 5 rfl) ?_
  refine lv_icmp_ge (tgt := 31) hx hb dJ1_indexOfChar_4cfef_10 (by decide) (fun c_ => absurd c_ (by decide +kernel)) (fun _ => ?_)
  refine lv_aload_n hx hb dJ1_indexOfChar_4cfef_13 rfl (lv_at hl 2 rfl) ?_
  refine lv_iload hx hb dJ1_indexOfChar_4cfef_14 (lv_at hl 0 rfl) ?_
  refine va_tb (v := .int 109) hx hb ((hM.2.2.2.1.1 0 (by decide)).2.2.2) hS (pk_in 2 4 (by decide) rfl) rfl dJ1_indexOfChar_4cfef_16 ?_
  refine lv_iload hx hb dJ1_indexOfChar_4cfef_17 (lv_at hl 1 rfl) ?_
  refine lv_icmp_ne (tgt := 25) hx hb dJ1_indexOfChar_4cfef_19 (by decide) (fun c_ => absurd (by decide +kernel) c_) (fun _ => ?_)
  refine lv_iload hx hb dJ1_indexOfChar_4cfef_22 (lv_at hl 0 rfl) ?_
  exact W.iret (v := 2) hx hb hr (fun t ht hW => ⟨⟨2, (), rfl, rfl, kB_end (w9 := []) (t9 := []) hP hK hD [] [] rfl (by decide) rfl rfl t ht hW⟩, hS.F ht⟩) hS.2.2 dJ1_indexOfChar_4cfef_24
abbrev wd_k_ix1_109 (_z : Nat → Nat) : va_W := []
set_option maxHeartbeats 4000000 in
set_option maxRecDepth 100000 in
theorem k_ix1_109 (l : Launch) (dC : Nat → ClassId) (dI : Nat → Nat → Nat) (z zK zV : Nat → Nat)  (sz : Nat)  : Met l yJ1_indexOf_4cfef wsJ1_indexOf_4cfef ({ frames := 1, cells := 0, slots := 0, locals := 25 }) (kP dC dI z zK zV [.ref (zV 0), .int 109, .int 0, .int 4] sz (wd_k_ix1_109 z) []) (va_Qi (fun (r : Int32) (_ : Unit) => 2 = r) (fun _ t => kB (dC, dI) (va_A (wd_k_ix1_109 z) sz) [] [] t) (va_A (wd_k_ix1_109 z) sz)) 0 0 (va_A (wd_k_ix1_109 z) sz) := by
  refine Met.ofW (cc := cJ1_indexOf_4cfef) (maxL := 4) (ret := (some .int)) (by decide) rfl ?_
  intro p e s m args below meth c s₁ B hml hv
  obtain ⟨rfl, hsz, hP, hK, hD0, hM⟩ := hv
  have hx := B.exec
  have hb := B.bytes
  have hr := B.returns
  have hts := atoms_spec (ws := wsJ1_indexOf_4cfef) B.pre
  have hown : s.vm.findClass RJ1 = some m.cls := findClass_of_methodNamed B.named
  have hlocks := B.notSynchronized
  subst hsz
  have hD := hD0.self (sz := s.heap.size)
  generalize hAe : va_A (wd_k_ix1_109 z) s.heap.size = A at hD hM ⊢
  have hA : ∀ q : Nat, s.heap.size ≤ q → A q := fun q h => by rw [← hAe]; exact Or.inr h
  have hS : va_S A s.heap s.heap [] := va_S.rf
  have hP : va_P (dC, dI) vwCl [] s.heap := hP
  have hD : va_D A [] := hD
  have hl := lv_entry ([.ref (zV 0), .int 109, .int 0, .int 4]) (n := 4) (Nat.le_of_ble_eq_true rfl)
  rw [lg_entry_eq]
  generalize (lg_sl ([.ref (zV 0), .int 109, .int 0, .int 4]) ++ List.replicate (4 - (lg_sl ([.ref (zV 0), .int 109, .int 0, .int 4])).length) Slot.unset).toArray = ls at hl ⊢
  have hl : lv_has ls 4 [(0, .ref (zV 0)), (1, .int 109), (2, .int 0), (3, .int 4)] := hl
  refine lv_iload_n hx hb dJ1_indexOf_4cfef_0 rfl (lv_at hl 1 rfl) ?_
  have hPc := hP.sub (ws' := []) [] rfl
  have hDc := hD.sub (ws' := []) [] (by decide) rfl
  have hKc := hK.sub (tys' := []) [] rfl
  have hFc := va_free (wc := []) hD hS hA [] rfl
  refine va_calli (va_runS (As := [.int 109]) (rest := []) ⟨hx, hb, hml, hown, hts⟩ (k_canEnc109 l dC dI z zK zV  s.heap.size) (va_cwS 1 hts gJ1_indexOf_4cfef_J1_canEncode_9a6ad rfl rfl rfl (by decide +kernel) ⟨Nat.le_of_ble_eq_true rfl, Nat.le_of_ble_eq_true rfl⟩) ⟨kP_blind, kP_go hPc hKc hDc hFc hM hS⟩ rfl rfl hl.1 rfl (lv_room (Nat.le_of_ble_eq_true rfl)) dJ1_indexOf_4cfef_1 ⟨Nat.le_of_ble_eq_true rfl, Nat.le_of_ble_eq_true rfl⟩) hS (fun q _ h => hFc q h) hFc (fun r1 u t H1 locs ht hvm hw hB hz1 hk1 hS => ?_)
  obtain ⟨hP, hD, hK⟩ := kJ (wr := []) (w1 := []) (t1 := []) hP hD hK [] [] rfl rfl (by decide) (by decide) hk1 hFc ht hvm hB
  generalize H1 = H at hP hS ⊢
  have hP : va_P (dC, dI) vwCl [] H := hP
  have hD : va_D A [] := hD
  have hK : va_K (dC, dI) vwCl [] s := hK
  obtain rfl : 1 = r1 := hw
  refine lv_if_ne (tgt := 9) hx hb dJ1_indexOf_4cfef_4 (by decide) (fun _ => ?_) (fun c_ => absurd c_ (by decide +kernel))
  refine lv_iload_n hx hb dJ1_indexOf_4cfef_9 rfl (lv_at hl 2 rfl) ?_
  refine lv_iconst (v := 0) hx hb dJ1_indexOf_4cfef_10 (by decide) ?_
  refine va_mmax hx hb (hml.trans hl.1.symm) hown (hts (.methodLink RJ1 92 Lib.Math.max.name) (by decide +kernel)) (hts (.static Lib.Math.max.name) (by decide +kernel)) (hts (.initialized "java/lang/Math") (by decide +kernel)) (hts (.code Lib.Math.max.name Lib.Math.max.code 2 (some .int)) (by decide +kernel)) (Nat.le_of_ble_eq_true rfl) (Nat.le_of_ble_eq_true rfl) (Nat.le_of_ble_eq_true rfl) (Nat.le_of_ble_eq_true rfl) dJ1_indexOf_4cfef_11 ?_
  refine kc_i (y := 0) (by decide +kernel) ?_
  refine lv_istore_n (lv' := [(2, .int 0), (0, .ref (zV 0)), (1, .int 109), (3, .int 4)]) hx hb dJ1_indexOf_4cfef_14 rfl hl (by decide) rfl (fun ls hl => ?_)
  refine lv_iload_n hx hb dJ1_indexOf_4cfef_15 rfl (lv_at hl 3 rfl) ?_
  refine lv_aload_n hx hb dJ1_indexOf_4cfef_16 rfl (lv_at hl 1 rfl) ?_
  refine va_tlen (v := 4) hx hb ((hM.2.2.2.1.1 0 (by decide)).2.2.2) hS rfl dJ1_indexOf_4cfef_17 ?_
  refine va_mmin hx hb (hml.trans hl.1.symm) hown (hts (.methodLink RJ1 38 Lib.Math.min.name) (by decide +kernel)) (hts (.static Lib.Math.min.name) (by decide +kernel)) (hts (.initialized "java/lang/Math") (by decide +kernel)) (hts (.code Lib.Math.min.name Lib.Math.min.code 2 (some .int)) (by decide +kernel)) (Nat.le_of_ble_eq_true rfl) (Nat.le_of_ble_eq_true rfl) (Nat.le_of_ble_eq_true rfl) (Nat.le_of_ble_eq_true rfl) dJ1_indexOf_4cfef_18 ?_
  refine kc_i (y := 4) (by decide +kernel) ?_
  refine lv_istore_n (lv' := [(3, .int 4), (2, .int 0), (0, .ref (zV 0)), (1, .int 109)]) hx hb dJ1_indexOf_4cfef_21 rfl hl (by decide) rfl (fun ls hl => ?_)
  refine lv_iload_n hx hb dJ1_indexOf_4cfef_22 rfl (lv_at hl 1 rfl) ?_
  refine lv_iload_n hx hb dJ1_indexOf_4cfef_23 rfl (lv_at hl 0 rfl) ?_
  refine lv_icmp_lt (tgt := 29) hx hb dJ1_indexOf_4cfef_24 (by decide) (fun _ => ?_) (fun c_ => absurd (by decide +kernel) c_)
  refine lv_aload_n hx hb dJ1_indexOf_4cfef_29 rfl (lv_at hl 2 rfl) ?_
  refine lv_iload_n hx hb dJ1_indexOf_4cfef_30 rfl (lv_at hl 3 rfl) ?_
  refine lv_iload_n hx hb dJ1_indexOf_4cfef_31 rfl (lv_at hl 1 rfl) ?_
  refine lv_iload_n hx hb dJ1_indexOf_4cfef_32 rfl (lv_at hl 0 rfl) ?_
  have hPc := hP.sub (ws' := []) [] rfl
  have hDc := hD.sub (ws' := []) [] (by decide) rfl
  have hKc := hK.sub (tys' := []) [] rfl
  have hFc := va_free (wc := []) hD hS hA [] rfl
  refine va_calli (va_runS (As := [.ref (zV 0), .int 109, .int 0, .int 4]) (rest := []) ⟨hx, hb, hml, hown, hts⟩ (k_ixc109 l dC dI z zK zV  H.size) (va_cwS 4 hts gJ1_indexOf_4cfef_J1_indexOfChar_4cfef rfl rfl rfl (by decide +kernel) ⟨Nat.le_of_ble_eq_true rfl, Nat.le_of_ble_eq_true rfl⟩) ⟨kP_blind, kP_go hPc hKc hDc hFc hM hS⟩ rfl rfl hl.1 rfl (lv_room (Nat.le_of_ble_eq_true rfl)) dJ1_indexOf_4cfef_33 ⟨Nat.le_of_ble_eq_true rfl, Nat.le_of_ble_eq_true rfl⟩) hS (fun q _ h => hFc q h) hFc (fun r2 u t H1 locs ht hvm hw hB hz1 hk1 hS => ?_)
  obtain ⟨hP, hD, hK⟩ := kJ (wr := []) (w1 := []) (t1 := []) hP hD hK [] [] rfl rfl (by decide) (by decide) hk1 hFc ht hvm hB
  generalize H1 = H at hP hS ⊢
  have hP : va_P (dC, dI) vwCl [] H := hP
  have hD : va_D A [] := hD
  have hK : va_K (dC, dI) vwCl [] s := hK
  obtain rfl : 2 = r2 := hw
  exact W.iret (v := 2) hx hb hr (fun t ht hW => ⟨⟨2, (), rfl, rfl, kB_end (w9 := []) (t9 := []) hP hK hD [] [] rfl (by decide) rfl rfl t ht hW⟩, hS.F ht⟩) hS.2.2 dJ1_indexOf_4cfef_36
abbrev wd_k_ix2_109 (_z : Nat → Nat) : va_W := []
set_option maxHeartbeats 4000000 in
set_option maxRecDepth 100000 in
theorem k_ix2_109 (l : Launch) (dC : Nat → ClassId) (dI : Nat → Nat → Nat) (z zK zV : Nat → Nat)  (sz : Nat)  : Met l yJ0_indexOf_7cf53 wsJ0_indexOf_7cf53 ({ frames := 2, cells := 0, slots := 0, locals := 48 }) (kP dC dI z zK zV [.ref (zK 0), .int 109, .int 0] sz (wd_k_ix2_109 z) []) (va_Qi (fun (r : Int32) (_ : Unit) => 2 = r) (fun _ t => kB (dC, dI) (va_A (wd_k_ix2_109 z) sz) [] [] t) (va_A (wd_k_ix2_109 z) sz)) 0 0 (va_A (wd_k_ix2_109 z) sz) := by
  refine Met.ofW (cc := cJ0_indexOf_7cf53) (maxL := 3) (ret := (some .int)) (by decide) rfl ?_
  intro p e s m args below meth c s₁ B hml hv
  obtain ⟨rfl, hsz, hP, hK, hD0, hM⟩ := hv
  have hx := B.exec
  have hb := B.bytes
  have hr := B.returns
  have hts := atoms_spec (ws := wsJ0_indexOf_7cf53) B.pre
  have hown : s.vm.findClass RJ0 = some m.cls := findClass_of_methodNamed B.named
  have hlocks := B.notSynchronized
  subst hsz
  have hD := hD0.self (sz := s.heap.size)
  generalize hAe : va_A (wd_k_ix2_109 z) s.heap.size = A at hD hM ⊢
  have hA : ∀ q : Nat, s.heap.size ≤ q → A q := fun q h => by rw [← hAe]; exact Or.inr h
  have hS : va_S A s.heap s.heap [] := va_S.rf
  have hP : va_P (dC, dI) vwCl [] s.heap := hP
  have hD : va_D A [] := hD
  have hl := lv_entry ([.ref (zK 0), .int 109, .int 0]) (n := 3) (Nat.le_of_ble_eq_true rfl)
  rw [lg_entry_eq]
  generalize (lg_sl ([.ref (zK 0), .int 109, .int 0]) ++ List.replicate (3 - (lg_sl ([.ref (zK 0), .int 109, .int 0])).length) Slot.unset).toArray = ls at hl ⊢
  have hl : lv_has ls 3 [(0, .ref (zK 0)), (1, .int 109), (2, .int 0)] := hl
  refine lv_aload_n hx hb dJ0_indexOf_7cf53_0 rfl (lv_at hl 0 rfl) ?_
  have hPc := hP.sub (ws' := []) [] rfl
  have hDc := hD.sub (ws' := []) [] (by decide) rfl
  have hKc := hK.sub (tys' := []) [] rfl
  have hFc := va_free (wc := []) hD hS hA [] rfl
  refine va_calli (va_runV (As := []) (rest := []) ⟨hx, hb, hml, hown, hts⟩ (k_isLatin0 l dC dI z zK zV  s.heap.size) (cwV 0 hts gJ0_indexOf_7cf53_J0_isLatin1_aae02 rfl rfl rfl (by decide +kernel) ⟨Nat.le_of_ble_eq_true rfl, Nat.le_of_ble_eq_true rfl⟩) ⟨kP_blind, vk_recv (i := 0) hM.2.2.2.1 (by decide) hS, kP_go hPc hKc hDc hFc hM hS⟩ rfl rfl hl.1 rfl (lv_room (Nat.le_of_ble_eq_true rfl)) dJ0_indexOf_7cf53_1 ⟨Nat.le_of_ble_eq_true rfl, Nat.le_of_ble_eq_true rfl⟩) hS (fun q _ h => hFc q h) hFc (fun r1 u t H1 locs ht hvm hw hB hz1 hk1 hS => ?_)
  obtain ⟨hP, hD, hK⟩ := kJ (wr := []) (w1 := []) (t1 := []) hP hD hK [] [] rfl rfl (by decide) (by decide) hk1 hFc ht hvm hB
  generalize H1 = H at hP hS ⊢
  have hP : va_P (dC, dI) vwCl [] H := hP
  have hD : va_D A [] := hD
  have hK : va_K (dC, dI) vwCl [] s := hK
  obtain rfl : 1 = r1 := hw
  refine lv_if_eq (tgt := 23) hx hb dJ0_indexOf_7cf53_4 (by decide) (fun c_ => absurd c_ (by decide +kernel)) (fun _ => ?_)
  refine lv_aload_n hx hb dJ0_indexOf_7cf53_7 rfl (lv_at hl 0 rfl) ?_
  refine vk_getf (v := .ref (zV 0)) hx hb (hM.2.2.2.1.1 0 (by decide)).2.2.1 hS hown (hts (.fieldLink RJ0 9 "java/lang/String" "value" "[B") (by decide +kernel)) (fun _ h9 => h9) dJ0_indexOf_7cf53_8 ?_
  refine lv_iload_n hx hb dJ0_indexOf_7cf53_11 rfl (lv_at hl 1 rfl) ?_
  refine lv_iload_n hx hb dJ0_indexOf_7cf53_12 rfl (lv_at hl 2 rfl) ?_
  refine lv_aload_n hx hb dJ0_indexOf_7cf53_13 rfl (lv_at hl 0 rfl) ?_
  have hPc := hP.sub (ws' := []) [] rfl
  have hDc := hD.sub (ws' := []) [] (by decide) rfl
  have hKc := hK.sub (tys' := []) [] rfl
  have hFc := va_free (wc := []) hD hS hA [] rfl
  refine va_calli (va_runV (As := []) (rest := [.int 0, .int 109, .ref (zV 0)]) ⟨hx, hb, hml, hown, hts⟩ (k_length0 l dC dI z zK zV  H.size) (cwV 0 hts gJ0_indexOf_7cf53_J0_length_8abf5 rfl rfl rfl (by decide +kernel) ⟨Nat.le_of_ble_eq_true rfl, Nat.le_of_ble_eq_true rfl⟩) ⟨kP_blind, vk_recv (i := 0) hM.2.2.2.1 (by decide) hS, kP_go hPc hKc hDc hFc hM hS⟩ rfl rfl hl.1 rfl (lv_room (Nat.le_of_ble_eq_true rfl)) dJ0_indexOf_7cf53_14 ⟨Nat.le_of_ble_eq_true rfl, Nat.le_of_ble_eq_true rfl⟩) hS (fun q _ h => hFc q h) hFc (fun r2 u t H1 locs ht hvm hw hB hz1 hk1 hS => ?_)
  obtain ⟨hP, hD, hK⟩ := kJ (wr := []) (w1 := []) (t1 := []) hP hD hK [] [] rfl rfl (by decide) (by decide) hk1 hFc ht hvm hB
  generalize H1 = H at hP hS ⊢
  have hP : va_P (dC, dI) vwCl [] H := hP
  have hD : va_D A [] := hD
  have hK : va_K (dC, dI) vwCl [] s := hK
  obtain rfl : 4 = r2 := hw
  have hPc := hP.sub (ws' := []) [] rfl
  have hDc := hD.sub (ws' := []) [] (by decide) rfl
  have hKc := hK.sub (tys' := []) [] rfl
  have hFc := va_free (wc := []) hD hS hA [] rfl
  refine va_calli (va_runS (As := [.ref (zV 0), .int 109, .int 0, .int 4]) (rest := []) ⟨hx, hb, hml, hown, hts⟩ (k_ix1_109 l dC dI z zK zV  H.size) (va_cwS 4 hts gJ0_indexOf_7cf53_J1_indexOf_4cfef rfl rfl rfl (by decide +kernel) ⟨Nat.le_of_ble_eq_true rfl, Nat.le_of_ble_eq_true rfl⟩) ⟨kP_blind, kP_go hPc hKc hDc hFc hM hS⟩ rfl rfl hl.1 rfl (lv_room (Nat.le_of_ble_eq_true rfl)) dJ0_indexOf_7cf53_17 ⟨Nat.le_of_ble_eq_true rfl, Nat.le_of_ble_eq_true rfl⟩) hS (fun q _ h => hFc q h) hFc (fun r3 u t H1 locs ht hvm hw hB hz1 hk1 hS => ?_)
  obtain ⟨hP, hD, hK⟩ := kJ (wr := []) (w1 := []) (t1 := []) hP hD hK [] [] rfl rfl (by decide) (by decide) hk1 hFc ht hvm hB
  generalize H1 = H at hP hS ⊢
  have hP : va_P (dC, dI) vwCl [] H := hP
  have hD : va_D A [] := hD
  have hK : va_K (dC, dI) vwCl [] s := hK
  obtain rfl : 2 = r3 := hw
  refine lv_goto (tgt := 36) hx hb dJ0_indexOf_7cf53_20 (by decide) ?_
  exact W.iret (v := 2) hx hb hr (fun t ht hW => ⟨⟨2, (), rfl, rfl, kB_end (w9 := []) (t9 := []) hP hK hD [] [] rfl (by decide) rfl rfl t ht hW⟩, hS.F ht⟩) hS.2.2 dJ0_indexOf_7cf53_36
abbrev wd_k_ix3_109 (_z : Nat → Nat) : va_W := []
set_option maxHeartbeats 4000000 in
set_option maxRecDepth 100000 in
theorem k_ix3_109 (l : Launch) (dC : Nat → ClassId) (dI : Nat → Nat → Nat) (z zK zV : Nat → Nat)  (sz : Nat)  : Met l yJ0_indexOf_0f7a4 wsJ0_indexOf_0f7a4 ({ frames := 3, cells := 0, slots := 0, locals := 70 }) (kP dC dI z zK zV [.ref (zK 0), .int 109] sz (wd_k_ix3_109 z) []) (va_Qi (fun (r : Int32) (_ : Unit) => 2 = r) (fun _ t => kB (dC, dI) (va_A (wd_k_ix3_109 z) sz) [] [] t) (va_A (wd_k_ix3_109 z) sz)) 0 0 (va_A (wd_k_ix3_109 z) sz) := by
  refine Met.ofW (cc := cJ0_indexOf_0f7a4) (maxL := 2) (ret := (some .int)) (by decide) rfl ?_
  intro p e s m args below meth c s₁ B hml hv
  obtain ⟨rfl, hsz, hP, hK, hD0, hM⟩ := hv
  have hx := B.exec
  have hb := B.bytes
  have hr := B.returns
  have hts := atoms_spec (ws := wsJ0_indexOf_0f7a4) B.pre
  have hown : s.vm.findClass RJ0 = some m.cls := findClass_of_methodNamed B.named
  have hlocks := B.notSynchronized
  subst hsz
  have hD := hD0.self (sz := s.heap.size)
  generalize hAe : va_A (wd_k_ix3_109 z) s.heap.size = A at hD hM ⊢
  have hA : ∀ q : Nat, s.heap.size ≤ q → A q := fun q h => by rw [← hAe]; exact Or.inr h
  have hS : va_S A s.heap s.heap [] := va_S.rf
  have hP : va_P (dC, dI) vwCl [] s.heap := hP
  have hD : va_D A [] := hD
  have hl := lv_entry ([.ref (zK 0), .int 109]) (n := 2) (Nat.le_of_ble_eq_true rfl)
  rw [lg_entry_eq]
  generalize (lg_sl ([.ref (zK 0), .int 109]) ++ List.replicate (2 - (lg_sl ([.ref (zK 0), .int 109])).length) Slot.unset).toArray = ls at hl ⊢
  have hl : lv_has ls 2 [(0, .ref (zK 0)), (1, .int 109)] := hl
  refine lv_aload_n hx hb dJ0_indexOf_0f7a4_0 rfl (lv_at hl 0 rfl) ?_
  refine lv_iload_n hx hb dJ0_indexOf_0f7a4_1 rfl (lv_at hl 1 rfl) ?_
  refine lv_iconst (v := 0) hx hb dJ0_indexOf_0f7a4_2 (by decide) ?_
  have hPc := hP.sub (ws' := []) [] rfl
  have hDc := hD.sub (ws' := []) [] (by decide) rfl
  have hKc := hK.sub (tys' := []) [] rfl
  have hFc := va_free (wc := []) hD hS hA [] rfl
  refine va_calli (va_runV (As := [.int 109, .int 0]) (rest := []) ⟨hx, hb, hml, hown, hts⟩ (k_ix2_109 l dC dI z zK zV  s.heap.size) (cwV 2 hts gJ0_indexOf_0f7a4_J0_indexOf_7cf53 rfl rfl rfl (by decide +kernel) ⟨Nat.le_of_ble_eq_true rfl, Nat.le_of_ble_eq_true rfl⟩) ⟨kP_blind, vk_recv (i := 0) hM.2.2.2.1 (by decide) hS, kP_go hPc hKc hDc hFc hM hS⟩ rfl rfl hl.1 rfl (lv_room (Nat.le_of_ble_eq_true rfl)) dJ0_indexOf_0f7a4_3 ⟨Nat.le_of_ble_eq_true rfl, Nat.le_of_ble_eq_true rfl⟩) hS (fun q _ h => hFc q h) hFc (fun r1 u t H1 locs ht hvm hw hB hz1 hk1 hS => ?_)
  obtain ⟨hP, hD, hK⟩ := kJ (wr := []) (w1 := []) (t1 := []) hP hD hK [] [] rfl rfl (by decide) (by decide) hk1 hFc ht hvm hB
  generalize H1 = H at hP hS ⊢
  have hP : va_P (dC, dI) vwCl [] H := hP
  have hD : va_D A [] := hD
  have hK : va_K (dC, dI) vwCl [] s := hK
  obtain rfl : 2 = r1 := hw
  exact W.iret (v := 2) hx hb hr (fun t ht hW => ⟨⟨2, (), rfl, rfl, kB_end (w9 := []) (t9 := []) hP hK hD [] [] rfl (by decide) rfl rfl t ht hW⟩, hS.F ht⟩) hS.2.2 dJ0_indexOf_0f7a4_6
abbrev wd_k_canEnc114 (_z : Nat → Nat) : va_W := []
set_option maxHeartbeats 4000000 in
set_option maxRecDepth 100000 in
theorem k_canEnc114 (l : Launch) (dC : Nat → ClassId) (dI : Nat → Nat → Nat) (z zK zV : Nat → Nat)  (sz : Nat)  : Met l yJ1_canEncode_9a6ad wsJ1_canEncode_9a6ad ({ frames := 0, cells := 0, slots := 0, locals := 0 }) (kP dC dI z zK zV [.int 114] sz (wd_k_canEnc114 z) []) (va_Qi (fun (r : Int32) (_ : Unit) => 1 = r) (fun _ t => kB (dC, dI) (va_A (wd_k_canEnc114 z) sz) [] [] t) (va_A (wd_k_canEnc114 z) sz)) 0 0 (va_A (wd_k_canEnc114 z) sz) := by
  refine Met.ofW (cc := cJ1_canEncode_9a6ad) (maxL := 1) (ret := (some .boolean)) (by decide) rfl ?_
  intro p e s m args below meth c s₁ B hml hv
  obtain ⟨rfl, hsz, hP, hK, hD0, hM⟩ := hv
  have hx := B.exec
  have hb := B.bytes
  have hr := B.returns
  have hts := atoms_spec (ws := wsJ1_canEncode_9a6ad) B.pre
  have hown : s.vm.findClass RJ1 = some m.cls := findClass_of_methodNamed B.named
  have hlocks := B.notSynchronized
  subst hsz
  have hD := hD0.self (sz := s.heap.size)
  generalize hAe : va_A (wd_k_canEnc114 z) s.heap.size = A at hD hM ⊢
  have hA : ∀ q : Nat, s.heap.size ≤ q → A q := fun q h => by rw [← hAe]; exact Or.inr h
  have hS : va_S A s.heap s.heap [] := va_S.rf
  have hP : va_P (dC, dI) vwCl [] s.heap := hP
  have hD : va_D A [] := hD
  have hl := lv_entry ([.int 114]) (n := 1) (Nat.le_of_ble_eq_true rfl)
  rw [lg_entry_eq]
  generalize (lg_sl ([.int 114]) ++ List.replicate (1 - (lg_sl ([.int 114])).length) Slot.unset).toArray = ls at hl ⊢
  have hl : lv_has ls 1 [(0, .int 114)] := hl
  refine lv_iload_n hx hb dJ1_canEncode_9a6ad_0 rfl (lv_at hl 0 rfl) ?_
  refine lv_if_lt (tgt := 15) hx hb dJ1_canEncode_9a6ad_1 (by decide) (fun c_ => absurd c_ (by decide +kernel)) (fun _ => ?_)
  refine lv_iload_n hx hb dJ1_canEncode_9a6ad_4 rfl (lv_at hl 0 rfl) ?_
  refine lv_sipush (v := 255) hx hb dJ1_canEncode_9a6ad_5 (by decide) ?_
  refine lv_icmp_gt (tgt := 15) hx hb dJ1_canEncode_9a6ad_8 (by decide) (fun c_ => absurd c_ (by decide +kernel)) (fun _ => ?_)
  refine lv_iconst (v := 1) hx hb dJ1_canEncode_9a6ad_11 (by decide) ?_
  refine lv_goto (tgt := 16) hx hb dJ1_canEncode_9a6ad_12 (by decide) ?_
  exact W.zret (v := 1) hx hb hr (by decide +kernel) (fun t ht hW => ⟨⟨1, (), rfl, rfl, kB_end (w9 := []) (t9 := []) hP hK hD [] [] rfl (by decide) rfl rfl t ht hW⟩, hS.F ht⟩) hS.2.2 dJ1_canEncode_9a6ad_16
abbrev wd_k_ixc114 (_z : Nat → Nat) : va_W := []
set_option maxHeartbeats 4000000 in
set_option maxRecDepth 100000 in
theorem k_ixc114 (l : Launch) (dC : Nat → ClassId) (dI : Nat → Nat → Nat) (z zK zV : Nat → Nat)  (sz : Nat)  : Met l yJ1_indexOfChar_4cfef wsJ1_indexOfChar_4cfef ({ frames := 0, cells := 0, slots := 0, locals := 0 }) (kP dC dI z zK zV [.ref (zV 0), .int 114, .int 0, .int 4] sz (wd_k_ixc114 z) []) (va_Qi (fun (r : Int32) (_ : Unit) => 3 = r) (fun _ t => kB (dC, dI) (va_A (wd_k_ixc114 z) sz) [] [] t) (va_A (wd_k_ixc114 z) sz)) 0 0 (va_A (wd_k_ixc114 z) sz) := by
  refine Met.ofW (cc := cJ1_indexOfChar_4cfef) (maxL := 6) (ret := (some .int)) (by decide) rfl ?_
  intro p e s m args below meth c s₁ B hml hv
  obtain ⟨rfl, hsz, hP, hK, hD0, hM⟩ := hv
  have hx := B.exec
  have hb := B.bytes
  have hr := B.returns
  have hts := atoms_spec (ws := wsJ1_indexOfChar_4cfef) B.pre
  have hown : s.vm.findClass RJ1 = some m.cls := findClass_of_methodNamed B.named
  have hlocks := B.notSynchronized
  subst hsz
  have hD := hD0.self (sz := s.heap.size)
  generalize hAe : va_A (wd_k_ixc114 z) s.heap.size = A at hD hM ⊢
  have hA : ∀ q : Nat, s.heap.size ≤ q → A q := fun q h => by rw [← hAe]; exact Or.inr h
  have hS : va_S A s.heap s.heap [] := va_S.rf
  have hP : va_P (dC, dI) vwCl [] s.heap := hP
  have hD : va_D A [] := hD
  have hl := lv_entry ([.ref (zV 0), .int 114, .int 0, .int 4]) (n := 6) (Nat.le_of_ble_eq_true rfl)
  rw [lg_entry_eq]
  generalize (lg_sl ([.ref (zV 0), .int 114, .int 0, .int 4]) ++ List.replicate (6 - (lg_sl ([.ref (zV 0), .int 114, .int 0, .int 4])).length) Slot.unset).toArray = ls at hl ⊢
  have hl : lv_has ls 6 [(0, .ref (zV 0)), (1, .int 114), (2, .int 0), (3, .int 4)] := hl
  refine lv_iload_n hx hb dJ1_indexOfChar_4cfef_0 rfl (lv_at hl 1 rfl) ?_
  refine lv_i2b (v := 114) hx hb dJ1_indexOfChar_4cfef_1 (by decide +kernel) ?_
  refine lv_istore (lv' := [(4, .int 114), (0, .ref (zV 0)), (1, .int 114), (2, .int 0), (3, .int 4)]) hx hb dJ1_indexOfChar_4cfef_2 hl (by decide) rfl (fun ls hl => ?_)
  refine lv_iload_n hx hb dJ1_indexOfChar_4cfef_4 rfl (lv_at hl 3 rfl) ?_
  refine lv_istore (lv' := [(5, .int 0), (4, .int 114), (0, .ref (zV 0)), (1, .int 114), (2, .int 0), (3, .int 4)]) hx hb dJ1_indexOfChar_4cfef_5 hl (by decide) rfl (fun ls hl => ?_)
  refine lv_iload hx hb dJ1_indexOfChar_4cfef_7 (lv_at hl 0 rfl) ?_
  refine lv_iload_n hx hb dJ1_indexOfChar_4cfef_9 rfl (lv_at hl 5 rfl) ?_
  refine lv_icmp_ge (tgt := 31) hx hb dJ1_indexOfChar_4cfef_10 (by decide) (fun c_ => absurd c_ (by decide +kernel)) (fun _ => ?_)
  refine lv_aload_n hx hb dJ1_indexOfChar_4cfef_13 rfl (lv_at hl 2 rfl) ?_
  refine lv_iload hx hb dJ1_indexOfChar_4cfef_14 (lv_at hl 0 rfl) ?_
  refine va_tb (v := .int 115) hx hb ((hM.2.2.2.1.1 0 (by decide)).2.2.2) hS (pk_in 0 4 (by decide) rfl) rfl dJ1_indexOfChar_4cfef_16 ?_
  refine lv_iload hx hb dJ1_indexOfChar_4cfef_17 (lv_at hl 1 rfl) ?_
  refine lv_icmp_ne (tgt := 25) hx hb dJ1_indexOfChar_4cfef_19 (by decide) (fun _ => ?_) (fun c_ => absurd c_ (by decide +kernel))
  refine lv_iinc (v := 1) (lv' := [(5, .int 1), (4, .int 114), (0, .ref (zV 0)), (1, .int 114), (2, .int 0), (3, .int 4)]) hx hb dJ1_indexOfChar_4cfef_25 hl (k := 0) rfl (by decide +kernel) (by decide) rfl (fun ls hl => ?_)
  refine lv_goto (tgt := 7) hx hb dJ1_indexOfChar_4cfef_28 (by decide) ?_
  refine lv_iload hx hb dJ1_indexOfChar_4cfef_7 (lv_at hl 0 rfl) ?_
  refine lv_iload_n hx hb dJ1_indexOfChar_4cfef_9 rfl (lv_at hl 5 rfl) ?_
  refine lv_icmp_ge (tgt := 31) hx hb dJ1_indexOfChar_4cfef_10 (by decide) (fun c_ => absurd c_ (by decide +kernel)) (fun _ => ?_)
  refine lv_aload_n hx hb dJ1_indexOfChar_4cfef_13 rfl (lv_at hl 2 rfl) ?_
  refine lv_iload hx hb dJ1_indexOfChar_4cfef_14 (lv_at hl 0 rfl) ?_
  refine va_tb (v := .int 98) hx hb ((hM.2.2.2.1.1 0 (by decide)).2.2.2) hS (pk_in 1 4 (by decide) rfl) rfl dJ1_indexOfChar_4cfef_16 ?_
  refine lv_iload hx hb dJ1_indexOfChar_4cfef_17 (lv_at hl 1 rfl) ?_
  refine lv_icmp_ne (tgt := 25) hx hb dJ1_indexOfChar_4cfef_19 (by decide) (fun _ => ?_) (fun c_ => absurd c_ (by decide +kernel))
  refine lv_iinc (v := 2) (lv' := [(5, .int 2), (4, .int 114), (0, .ref (zV 0)), (1, .int 114), (2, .int 0), (3, .int 4)]) hx hb dJ1_indexOfChar_4cfef_25 hl (k := 0) rfl (by decide +kernel) (by decide) rfl (fun ls hl => ?_)
  refine lv_goto (tgt := 7) hx hb dJ1_indexOfChar_4cfef_28 (by decide) ?_
  refine lv_iload hx hb dJ1_indexOfChar_4cfef_7 (lv_at hl 0 rfl) ?_
  refine lv_iload_n hx hb dJ1_indexOfChar_4cfef_9 rfl (lv_at hl 5 rfl) ?_
  refine lv_icmp_ge (tgt := 31) hx hb dJ1_indexOfChar_4cfef_10 (by decide) (fun c_ => absurd c_ (by decide +kernel)) (fun _ => ?_)
  refine lv_aload_n hx hb dJ1_indexOfChar_4cfef_13 rfl (lv_at hl 2 rfl) ?_
  refine lv_iload hx hb dJ1_indexOfChar_4cfef_14 (lv_at hl 0 rfl) ?_
  refine va_tb (v := .int 109) hx hb ((hM.2.2.2.1.1 0 (by decide)).2.2.2) hS (pk_in 2 4 (by decide) rfl) rfl dJ1_indexOfChar_4cfef_16 ?_
  refine lv_iload hx hb dJ1_indexOfChar_4cfef_17 (lv_at hl 1 rfl) ?_
  refine lv_icmp_ne (tgt := 25) hx hb dJ1_indexOfChar_4cfef_19 (by decide) (fun _ => ?_) (fun c_ => absurd c_ (by decide +kernel))
  refine lv_iinc (v := 3) (lv' := [(5, .int 3), (4, .int 114), (0, .ref (zV 0)), (1, .int 114), (2, .int 0), (3, .int 4)]) hx hb dJ1_indexOfChar_4cfef_25 hl (k := 0) rfl (by decide +kernel) (by decide) rfl (fun ls hl => ?_)
  refine lv_goto (tgt := 7) hx hb dJ1_indexOfChar_4cfef_28 (by decide) ?_
  refine lv_iload hx hb dJ1_indexOfChar_4cfef_7 (lv_at hl 0 rfl) ?_
  refine lv_iload_n hx hb dJ1_indexOfChar_4cfef_9 rfl (lv_at hl 5 rfl) ?_
  refine lv_icmp_ge (tgt := 31) hx hb dJ1_indexOfChar_4cfef_10 (by decide) (fun c_ => absurd c_ (by decide +kernel)) (fun _ => ?_)
  refine lv_aload_n hx hb dJ1_indexOfChar_4cfef_13 rfl (lv_at hl 2 rfl) ?_
  refine lv_iload hx hb dJ1_indexOfChar_4cfef_14 (lv_at hl 0 rfl) ?_
  refine va_tb (v := .int 114) hx hb ((hM.2.2.2.1.1 0 (by decide)).2.2.2) hS (pk_in 3 4 (by decide) rfl) rfl dJ1_indexOfChar_4cfef_16 ?_
  refine lv_iload hx hb dJ1_indexOfChar_4cfef_17 (lv_at hl 1 rfl) ?_
  refine lv_icmp_ne (tgt := 25) hx hb dJ1_indexOfChar_4cfef_19 (by decide) (fun c_ => absurd (by decide +kernel) c_) (fun _ => ?_)
  refine lv_iload hx hb dJ1_indexOfChar_4cfef_22 (lv_at hl 0 rfl) ?_
  exact W.iret (v := 3) hx hb hr (fun t ht hW => ⟨⟨3, (), rfl, rfl, kB_end (w9 := []) (t9 := []) hP hK hD [] [] rfl (by decide) rfl rfl t ht hW⟩, hS.F ht⟩) hS.2.2 dJ1_indexOfChar_4cfef_24
abbrev wd_k_ix1_114 (_z : Nat → Nat) : va_W := []
set_option maxHeartbeats 4000000 in
set_option maxRecDepth 100000 in
theorem k_ix1_114 (l : Launch) (dC : Nat → ClassId) (dI : Nat → Nat → Nat) (z zK zV : Nat → Nat)  (sz : Nat)  : Met l yJ1_indexOf_4cfef wsJ1_indexOf_4cfef ({ frames := 1, cells := 0, slots := 0, locals := 25 }) (kP dC dI z zK zV [.ref (zV 0), .int 114, .int 0, .int 4] sz (wd_k_ix1_114 z) []) (va_Qi (fun (r : Int32) (_ : Unit) => 3 = r) (fun _ t => kB (dC, dI) (va_A (wd_k_ix1_114 z) sz) [] [] t) (va_A (wd_k_ix1_114 z) sz)) 0 0 (va_A (wd_k_ix1_114 z) sz) := by
  refine Met.ofW (cc := cJ1_indexOf_4cfef) (maxL := 4) (ret := (some .int)) (by decide) rfl ?_
  intro p e s m args below meth c s₁ B hml hv
  obtain ⟨rfl, hsz, hP, hK, hD0, hM⟩ := hv
  have hx := B.exec
  have hb := B.bytes
  have hr := B.returns
  have hts := atoms_spec (ws := wsJ1_indexOf_4cfef) B.pre
  have hown : s.vm.findClass RJ1 = some m.cls := findClass_of_methodNamed B.named
  have hlocks := B.notSynchronized
  subst hsz
  have hD := hD0.self (sz := s.heap.size)
  generalize hAe : va_A (wd_k_ix1_114 z) s.heap.size = A at hD hM ⊢
  have hA : ∀ q : Nat, s.heap.size ≤ q → A q := fun q h => by rw [← hAe]; exact Or.inr h
  have hS : va_S A s.heap s.heap [] := va_S.rf
  have hP : va_P (dC, dI) vwCl [] s.heap := hP
  have hD : va_D A [] := hD
  have hl := lv_entry ([.ref (zV 0), .int 114, .int 0, .int 4]) (n := 4) (Nat.le_of_ble_eq_true rfl)
  rw [lg_entry_eq]
  generalize (lg_sl ([.ref (zV 0), .int 114, .int 0, .int 4]) ++ List.replicate (4 - (lg_sl ([.ref (zV 0), .int 114, .int 0, .int 4])).length) Slot.unset).toArray = ls at hl ⊢
  have hl : lv_has ls 4 [(0, .ref (zV 0)), (1, .int 114), (2, .int 0), (3, .int 4)] := hl
  refine lv_iload_n hx hb dJ1_indexOf_4cfef_0 rfl (lv_at hl 1 rfl) ?_
  have hPc := hP.sub (ws' := []) [] rfl
  have hDc := hD.sub (ws' := []) [] (by decide) rfl
  have hKc := hK.sub (tys' := []) [] rfl
  have hFc := va_free (wc := []) hD hS hA [] rfl
  refine va_calli (va_runS (As := [.int 114]) (rest := []) ⟨hx, hb, hml, hown, hts⟩ (k_canEnc114 l dC dI z zK zV  s.heap.size) (va_cwS 1 hts gJ1_indexOf_4cfef_J1_canEncode_9a6ad rfl rfl rfl (by decide +kernel) ⟨Nat.le_of_ble_eq_true rfl, Nat.le_of_ble_eq_true rfl⟩) ⟨kP_blind, kP_go hPc hKc hDc hFc hM hS⟩ rfl rfl hl.1 rfl (lv_room (Nat.le_of_ble_eq_true rfl)) dJ1_indexOf_4cfef_1 ⟨Nat.le_of_ble_eq_true rfl, Nat.le_of_ble_eq_true rfl⟩) hS (fun q _ h => hFc q h) hFc (fun r1 u t H1 locs ht hvm hw hB hz1 hk1 hS => ?_)
  obtain ⟨hP, hD, hK⟩ := kJ (wr := []) (w1 := []) (t1 := []) hP hD hK [] [] rfl rfl (by decide) (by decide) hk1 hFc ht hvm hB
  generalize H1 = H at hP hS ⊢
  have hP : va_P (dC, dI) vwCl [] H := hP
  have hD : va_D A [] := hD
  have hK : va_K (dC, dI) vwCl [] s := hK
  obtain rfl : 1 = r1 := hw
  refine lv_if_ne (tgt := 9) hx hb dJ1_indexOf_4cfef_4 (by decide) (fun _ => ?_) (fun c_ => absurd c_ (by decide +kernel))
  refine lv_iload_n hx hb dJ1_indexOf_4cfef_9 rfl (lv_at hl 2 rfl) ?_
  refine lv_iconst (v := 0) hx hb dJ1_indexOf_4cfef_10 (by decide) ?_
  refine va_mmax hx hb (hml.trans hl.1.symm) hown (hts (.methodLink RJ1 92 Lib.Math.max.name) (by decide +kernel)) (hts (.static Lib.Math.max.name) (by decide +kernel)) (hts (.initialized "java/lang/Math") (by decide +kernel)) (hts (.code Lib.Math.max.name Lib.Math.max.code 2 (some .int)) (by decide +kernel)) (Nat.le_of_ble_eq_true rfl) (Nat.le_of_ble_eq_true rfl) (Nat.le_of_ble_eq_true rfl) (Nat.le_of_ble_eq_true rfl) dJ1_indexOf_4cfef_11 ?_
  refine kc_i (y := 0) (by decide +kernel) ?_
  refine lv_istore_n (lv' := [(2, .int 0), (0, .ref (zV 0)), (1, .int 114), (3, .int 4)]) hx hb dJ1_indexOf_4cfef_14 rfl hl (by decide) rfl (fun ls hl => ?_)
  refine lv_iload_n hx hb dJ1_indexOf_4cfef_15 rfl (lv_at hl 3 rfl) ?_
  refine lv_aload_n hx hb dJ1_indexOf_4cfef_16 rfl (lv_at hl 1 rfl) ?_
  refine va_tlen (v := 4) hx hb ((hM.2.2.2.1.1 0 (by decide)).2.2.2) hS rfl dJ1_indexOf_4cfef_17 ?_
  refine va_mmin hx hb (hml.trans hl.1.symm) hown (hts (.methodLink RJ1 38 Lib.Math.min.name) (by decide +kernel)) (hts (.static Lib.Math.min.name) (by decide +kernel)) (hts (.initialized "java/lang/Math") (by decide +kernel)) (hts (.code Lib.Math.min.name Lib.Math.min.code 2 (some .int)) (by decide +kernel)) (Nat.le_of_ble_eq_true rfl) (Nat.le_of_ble_eq_true rfl) (Nat.le_of_ble_eq_true rfl) (Nat.le_of_ble_eq_true rfl) dJ1_indexOf_4cfef_18 ?_
  refine kc_i (y := 4) (by decide +kernel) ?_
  refine lv_istore_n (lv' := [(3, .int 4), (2, .int 0), (0, .ref (zV 0)), (1, .int 114)]) hx hb dJ1_indexOf_4cfef_21 rfl hl (by decide) rfl (fun ls hl => ?_)
  refine lv_iload_n hx hb dJ1_indexOf_4cfef_22 rfl (lv_at hl 1 rfl) ?_
  refine lv_iload_n hx hb dJ1_indexOf_4cfef_23 rfl (lv_at hl 0 rfl) ?_
  refine lv_icmp_lt (tgt := 29) hx hb dJ1_indexOf_4cfef_24 (by decide) (fun _ => ?_) (fun c_ => absurd (by decide +kernel) c_)
  refine lv_aload_n hx hb dJ1_indexOf_4cfef_29 rfl (lv_at hl 2 rfl) ?_
  refine lv_iload_n hx hb dJ1_indexOf_4cfef_30 rfl (lv_at hl 3 rfl) ?_
  refine lv_iload_n hx hb dJ1_indexOf_4cfef_31 rfl (lv_at hl 1 rfl) ?_
  refine lv_iload_n hx hb dJ1_indexOf_4cfef_32 rfl (lv_at hl 0 rfl) ?_
  have hPc := hP.sub (ws' := []) [] rfl
  have hDc := hD.sub (ws' := []) [] (by decide) rfl
  have hKc := hK.sub (tys' := []) [] rfl
  have hFc := va_free (wc := []) hD hS hA [] rfl
  refine va_calli (va_runS (As := [.ref (zV 0), .int 114, .int 0, .int 4]) (rest := []) ⟨hx, hb, hml, hown, hts⟩ (k_ixc114 l dC dI z zK zV  H.size) (va_cwS 4 hts gJ1_indexOf_4cfef_J1_indexOfChar_4cfef rfl rfl rfl (by decide +kernel) ⟨Nat.le_of_ble_eq_true rfl, Nat.le_of_ble_eq_true rfl⟩) ⟨kP_blind, kP_go hPc hKc hDc hFc hM hS⟩ rfl rfl hl.1 rfl (lv_room (Nat.le_of_ble_eq_true rfl)) dJ1_indexOf_4cfef_33 ⟨Nat.le_of_ble_eq_true rfl, Nat.le_of_ble_eq_true rfl⟩) hS (fun q _ h => hFc q h) hFc (fun r2 u t H1 locs ht hvm hw hB hz1 hk1 hS => ?_)
  obtain ⟨hP, hD, hK⟩ := kJ (wr := []) (w1 := []) (t1 := []) hP hD hK [] [] rfl rfl (by decide) (by decide) hk1 hFc ht hvm hB
  generalize H1 = H at hP hS ⊢
  have hP : va_P (dC, dI) vwCl [] H := hP
  have hD : va_D A [] := hD
  have hK : va_K (dC, dI) vwCl [] s := hK
  obtain rfl : 3 = r2 := hw
  exact W.iret (v := 3) hx hb hr (fun t ht hW => ⟨⟨3, (), rfl, rfl, kB_end (w9 := []) (t9 := []) hP hK hD [] [] rfl (by decide) rfl rfl t ht hW⟩, hS.F ht⟩) hS.2.2 dJ1_indexOf_4cfef_36
abbrev wd_k_ix2_114 (_z : Nat → Nat) : va_W := []
set_option maxHeartbeats 4000000 in
set_option maxRecDepth 100000 in
theorem k_ix2_114 (l : Launch) (dC : Nat → ClassId) (dI : Nat → Nat → Nat) (z zK zV : Nat → Nat)  (sz : Nat)  : Met l yJ0_indexOf_7cf53 wsJ0_indexOf_7cf53 ({ frames := 2, cells := 0, slots := 0, locals := 48 }) (kP dC dI z zK zV [.ref (zK 0), .int 114, .int 0] sz (wd_k_ix2_114 z) []) (va_Qi (fun (r : Int32) (_ : Unit) => 3 = r) (fun _ t => kB (dC, dI) (va_A (wd_k_ix2_114 z) sz) [] [] t) (va_A (wd_k_ix2_114 z) sz)) 0 0 (va_A (wd_k_ix2_114 z) sz) := by
  refine Met.ofW (cc := cJ0_indexOf_7cf53) (maxL := 3) (ret := (some .int)) (by decide) rfl ?_
  intro p e s m args below meth c s₁ B hml hv
  obtain ⟨rfl, hsz, hP, hK, hD0, hM⟩ := hv
  have hx := B.exec
  have hb := B.bytes
  have hr := B.returns
  have hts := atoms_spec (ws := wsJ0_indexOf_7cf53) B.pre
  have hown : s.vm.findClass RJ0 = some m.cls := findClass_of_methodNamed B.named
  have hlocks := B.notSynchronized
  subst hsz
  have hD := hD0.self (sz := s.heap.size)
  generalize hAe : va_A (wd_k_ix2_114 z) s.heap.size = A at hD hM ⊢
  have hA : ∀ q : Nat, s.heap.size ≤ q → A q := fun q h => by rw [← hAe]; exact Or.inr h
  have hS : va_S A s.heap s.heap [] := va_S.rf
  have hP : va_P (dC, dI) vwCl [] s.heap := hP
  have hD : va_D A [] := hD
  have hl := lv_entry ([.ref (zK 0), .int 114, .int 0]) (n := 3) (Nat.le_of_ble_eq_true rfl)
  rw [lg_entry_eq]
  generalize (lg_sl ([.ref (zK 0), .int 114, .int 0]) ++ List.replicate (3 - (lg_sl ([.ref (zK 0), .int 114, .int 0])).length) Slot.unset).toArray = ls at hl ⊢
  have hl : lv_has ls 3 [(0, .ref (zK 0)), (1, .int 114), (2, .int 0)] := hl
  refine lv_aload_n hx hb dJ0_indexOf_7cf53_0 rfl (lv_at hl 0 rfl) ?_
  have hPc := hP.sub (ws' := []) [] rfl
  have hDc := hD.sub (ws' := []) [] (by decide) rfl
  have hKc := hK.sub (tys' := []) [] rfl
  have hFc := va_free (wc := []) hD hS hA [] rfl
  refine va_calli (va_runV (As := []) (rest := []) ⟨hx, hb, hml, hown, hts⟩ (k_isLatin0 l dC dI z zK zV  s.heap.size) (cwV 0 hts gJ0_indexOf_7cf53_J0_isLatin1_aae02 rfl rfl rfl (by decide +kernel) ⟨Nat.le_of_ble_eq_true rfl, Nat.le_of_ble_eq_true rfl⟩) ⟨kP_blind, vk_recv (i := 0) hM.2.2.2.1 (by decide) hS, kP_go hPc hKc hDc hFc hM hS⟩ rfl rfl hl.1 rfl (lv_room (Nat.le_of_ble_eq_true rfl)) dJ0_indexOf_7cf53_1 ⟨Nat.le_of_ble_eq_true rfl, Nat.le_of_ble_eq_true rfl⟩) hS (fun q _ h => hFc q h) hFc (fun r1 u t H1 locs ht hvm hw hB hz1 hk1 hS => ?_)
  obtain ⟨hP, hD, hK⟩ := kJ (wr := []) (w1 := []) (t1 := []) hP hD hK [] [] rfl rfl (by decide) (by decide) hk1 hFc ht hvm hB
  generalize H1 = H at hP hS ⊢
  have hP : va_P (dC, dI) vwCl [] H := hP
  have hD : va_D A [] := hD
  have hK : va_K (dC, dI) vwCl [] s := hK
  obtain rfl : 1 = r1 := hw
  refine lv_if_eq (tgt := 23) hx hb dJ0_indexOf_7cf53_4 (by decide) (fun c_ => absurd c_ (by decide +kernel)) (fun _ => ?_)
  refine lv_aload_n hx hb dJ0_indexOf_7cf53_7 rfl (lv_at hl 0 rfl) ?_
  refine vk_getf (v := .ref (zV 0)) hx hb (hM.2.2.2.1.1 0 (by decide)).2.2.1 hS hown (hts (.fieldLink RJ0 9 "java/lang/String" "value" "[B") (by decide +kernel)) (fun _ h9 => h9) dJ0_indexOf_7cf53_8 ?_
  refine lv_iload_n hx hb dJ0_indexOf_7cf53_11 rfl (lv_at hl 1 rfl) ?_
  refine lv_iload_n hx hb dJ0_indexOf_7cf53_12 rfl (lv_at hl 2 rfl) ?_
  refine lv_aload_n hx hb dJ0_indexOf_7cf53_13 rfl (lv_at hl 0 rfl) ?_
  have hPc := hP.sub (ws' := []) [] rfl
  have hDc := hD.sub (ws' := []) [] (by decide) rfl
  have hKc := hK.sub (tys' := []) [] rfl
  have hFc := va_free (wc := []) hD hS hA [] rfl
  refine va_calli (va_runV (As := []) (rest := [.int 0, .int 114, .ref (zV 0)]) ⟨hx, hb, hml, hown, hts⟩ (k_length0 l dC dI z zK zV  H.size) (cwV 0 hts gJ0_indexOf_7cf53_J0_length_8abf5 rfl rfl rfl (by decide +kernel) ⟨Nat.le_of_ble_eq_true rfl, Nat.le_of_ble_eq_true rfl⟩) ⟨kP_blind, vk_recv (i := 0) hM.2.2.2.1 (by decide) hS, kP_go hPc hKc hDc hFc hM hS⟩ rfl rfl hl.1 rfl (lv_room (Nat.le_of_ble_eq_true rfl)) dJ0_indexOf_7cf53_14 ⟨Nat.le_of_ble_eq_true rfl, Nat.le_of_ble_eq_true rfl⟩) hS (fun q _ h => hFc q h) hFc (fun r2 u t H1 locs ht hvm hw hB hz1 hk1 hS => ?_)
  obtain ⟨hP, hD, hK⟩ := kJ (wr := []) (w1 := []) (t1 := []) hP hD hK [] [] rfl rfl (by decide) (by decide) hk1 hFc ht hvm hB
  generalize H1 = H at hP hS ⊢
  have hP : va_P (dC, dI) vwCl [] H := hP
  have hD : va_D A [] := hD
  have hK : va_K (dC, dI) vwCl [] s := hK
  obtain rfl : 4 = r2 := hw
  have hPc := hP.sub (ws' := []) [] rfl
  have hDc := hD.sub (ws' := []) [] (by decide) rfl
  have hKc := hK.sub (tys' := []) [] rfl
  have hFc := va_free (wc := []) hD hS hA [] rfl
  refine va_calli (va_runS (As := [.ref (zV 0), .int 114, .int 0, .int 4]) (rest := []) ⟨hx, hb, hml, hown, hts⟩ (k_ix1_114 l dC dI z zK zV  H.size) (va_cwS 4 hts gJ0_indexOf_7cf53_J1_indexOf_4cfef rfl rfl rfl (by decide +kernel) ⟨Nat.le_of_ble_eq_true rfl, Nat.le_of_ble_eq_true rfl⟩) ⟨kP_blind, kP_go hPc hKc hDc hFc hM hS⟩ rfl rfl hl.1 rfl (lv_room (Nat.le_of_ble_eq_true rfl)) dJ0_indexOf_7cf53_17 ⟨Nat.le_of_ble_eq_true rfl, Nat.le_of_ble_eq_true rfl⟩) hS (fun q _ h => hFc q h) hFc (fun r3 u t H1 locs ht hvm hw hB hz1 hk1 hS => ?_)
  obtain ⟨hP, hD, hK⟩ := kJ (wr := []) (w1 := []) (t1 := []) hP hD hK [] [] rfl rfl (by decide) (by decide) hk1 hFc ht hvm hB
  generalize H1 = H at hP hS ⊢
  have hP : va_P (dC, dI) vwCl [] H := hP
  have hD : va_D A [] := hD
  have hK : va_K (dC, dI) vwCl [] s := hK
  obtain rfl : 3 = r3 := hw
  refine lv_goto (tgt := 36) hx hb dJ0_indexOf_7cf53_20 (by decide) ?_
  exact W.iret (v := 3) hx hb hr (fun t ht hW => ⟨⟨3, (), rfl, rfl, kB_end (w9 := []) (t9 := []) hP hK hD [] [] rfl (by decide) rfl rfl t ht hW⟩, hS.F ht⟩) hS.2.2 dJ0_indexOf_7cf53_36
abbrev wd_k_ix3_114 (_z : Nat → Nat) : va_W := []
set_option maxHeartbeats 4000000 in
set_option maxRecDepth 100000 in
theorem k_ix3_114 (l : Launch) (dC : Nat → ClassId) (dI : Nat → Nat → Nat) (z zK zV : Nat → Nat)  (sz : Nat)  : Met l yJ0_indexOf_0f7a4 wsJ0_indexOf_0f7a4 ({ frames := 3, cells := 0, slots := 0, locals := 70 }) (kP dC dI z zK zV [.ref (zK 0), .int 114] sz (wd_k_ix3_114 z) []) (va_Qi (fun (r : Int32) (_ : Unit) => 3 = r) (fun _ t => kB (dC, dI) (va_A (wd_k_ix3_114 z) sz) [] [] t) (va_A (wd_k_ix3_114 z) sz)) 0 0 (va_A (wd_k_ix3_114 z) sz) := by
  refine Met.ofW (cc := cJ0_indexOf_0f7a4) (maxL := 2) (ret := (some .int)) (by decide) rfl ?_
  intro p e s m args below meth c s₁ B hml hv
  obtain ⟨rfl, hsz, hP, hK, hD0, hM⟩ := hv
  have hx := B.exec
  have hb := B.bytes
  have hr := B.returns
  have hts := atoms_spec (ws := wsJ0_indexOf_0f7a4) B.pre
  have hown : s.vm.findClass RJ0 = some m.cls := findClass_of_methodNamed B.named
  have hlocks := B.notSynchronized
  subst hsz
  have hD := hD0.self (sz := s.heap.size)
  generalize hAe : va_A (wd_k_ix3_114 z) s.heap.size = A at hD hM ⊢
  have hA : ∀ q : Nat, s.heap.size ≤ q → A q := fun q h => by rw [← hAe]; exact Or.inr h
  have hS : va_S A s.heap s.heap [] := va_S.rf
  have hP : va_P (dC, dI) vwCl [] s.heap := hP
  have hD : va_D A [] := hD
  have hl := lv_entry ([.ref (zK 0), .int 114]) (n := 2) (Nat.le_of_ble_eq_true rfl)
  rw [lg_entry_eq]
  generalize (lg_sl ([.ref (zK 0), .int 114]) ++ List.replicate (2 - (lg_sl ([.ref (zK 0), .int 114])).length) Slot.unset).toArray = ls at hl ⊢
  have hl : lv_has ls 2 [(0, .ref (zK 0)), (1, .int 114)] := hl
  refine lv_aload_n hx hb dJ0_indexOf_0f7a4_0 rfl (lv_at hl 0 rfl) ?_
  refine lv_iload_n hx hb dJ0_indexOf_0f7a4_1 rfl (lv_at hl 1 rfl) ?_
  refine lv_iconst (v := 0) hx hb dJ0_indexOf_0f7a4_2 (by decide) ?_
  have hPc := hP.sub (ws' := []) [] rfl
  have hDc := hD.sub (ws' := []) [] (by decide) rfl
  have hKc := hK.sub (tys' := []) [] rfl
  have hFc := va_free (wc := []) hD hS hA [] rfl
  refine va_calli (va_runV (As := [.int 114, .int 0]) (rest := []) ⟨hx, hb, hml, hown, hts⟩ (k_ix2_114 l dC dI z zK zV  s.heap.size) (cwV 2 hts gJ0_indexOf_0f7a4_J0_indexOf_7cf53 rfl rfl rfl (by decide +kernel) ⟨Nat.le_of_ble_eq_true rfl, Nat.le_of_ble_eq_true rfl⟩) ⟨kP_blind, vk_recv (i := 0) hM.2.2.2.1 (by decide) hS, kP_go hPc hKc hDc hFc hM hS⟩ rfl rfl hl.1 rfl (lv_room (Nat.le_of_ble_eq_true rfl)) dJ0_indexOf_0f7a4_3 ⟨Nat.le_of_ble_eq_true rfl, Nat.le_of_ble_eq_true rfl⟩) hS (fun q _ h => hFc q h) hFc (fun r1 u t H1 locs ht hvm hw hB hz1 hk1 hS => ?_)
  obtain ⟨hP, hD, hK⟩ := kJ (wr := []) (w1 := []) (t1 := []) hP hD hK [] [] rfl rfl (by decide) (by decide) hk1 hFc ht hvm hB
  generalize H1 = H at hP hS ⊢
  have hP : va_P (dC, dI) vwCl [] H := hP
  have hD : va_D A [] := hD
  have hK : va_K (dC, dI) vwCl [] s := hK
  obtain rfl : 3 = r1 := hw
  exact W.iret (v := 3) hx hb hr (fun t ht hW => ⟨⟨3, (), rfl, rfl, kB_end (w9 := []) (t9 := []) hP hK hD [] [] rfl (by decide) rfl rfl t ht hW⟩, hS.F ht⟩) hS.2.2 dJ0_indexOf_0f7a4_6
abbrev wd_k_canEnc_o (z : Nat → Nat) (p0 : Int32) : va_W := []
set_option maxHeartbeats 4000000 in
set_option maxRecDepth 100000 in
theorem k_canEnc_o (l : Launch) (dC : Nat → ClassId) (dI : Nat → Nat → Nat) (z zK zV : Nat → Nat) (p0 : Int32) (sz : Nat)  : Met l yJ1_canEncode_9a6ad wsJ1_canEncode_9a6ad ({ frames := 0, cells := 0, slots := 0, locals := 0 }) (kP dC dI z zK zV [.int p0] sz (wd_k_canEnc_o z p0) []) (va_Qi (fun (r : Int32) (_ : Unit) => (if (0 : Int32) ≤ p0 ∧ p0 ≤ 255 then (1 : Int32) else 0) = r) (fun _ t => kB (dC, dI) (va_A (wd_k_canEnc_o z p0) sz) [] [] t) (va_A (wd_k_canEnc_o z p0) sz)) 0 0 (va_A (wd_k_canEnc_o z p0) sz) := by
  refine Met.ofW (cc := cJ1_canEncode_9a6ad) (maxL := 1) (ret := (some .boolean)) (by decide) rfl ?_
  intro p e s m args below meth c s₁ B hml hv
  obtain ⟨rfl, hsz, hP, hK, hD0, hM⟩ := hv
  have hx := B.exec
  have hb := B.bytes
  have hr := B.returns
  have hts := atoms_spec (ws := wsJ1_canEncode_9a6ad) B.pre
  have hown : s.vm.findClass RJ1 = some m.cls := findClass_of_methodNamed B.named
  have hlocks := B.notSynchronized
  subst hsz
  have hD := hD0.self (sz := s.heap.size)
  generalize hAe : va_A (wd_k_canEnc_o z p0) s.heap.size = A at hD hM ⊢
  have hA : ∀ q : Nat, s.heap.size ≤ q → A q := fun q h => by rw [← hAe]; exact Or.inr h
  have hS : va_S A s.heap s.heap [] := va_S.rf
  have hP : va_P (dC, dI) vwCl [] s.heap := hP
  have hD : va_D A [] := hD
  have hl := lv_entry ([.int p0]) (n := 1) (Nat.le_of_ble_eq_true rfl)
  rw [lg_entry_eq]
  generalize (lg_sl ([.int p0]) ++ List.replicate (1 - (lg_sl ([.int p0])).length) Slot.unset).toArray = ls at hl ⊢
  have hl : lv_has ls 1 [(0, .int p0)] := hl
  refine lv_iload_n hx hb dJ1_canEncode_9a6ad_0 rfl (lv_at hl 0 rfl) ?_
  refine lv_if_lt (tgt := 15) hx hb dJ1_canEncode_9a6ad_1 (by decide) (fun c1 => ?_) (fun c1 => ?_)
  · skip
    refine lv_iconst (v := 0) hx hb dJ1_canEncode_9a6ad_15 (by decide) ?_
    exact W.zret (v := 0) hx hb hr (by decide +kernel) (fun t ht hW => ⟨⟨0, (), rfl, (if_neg (fun h => absurd h.1 (k_ltn c1))), kB_end (w9 := []) (t9 := []) hP hK hD [] [] rfl (by decide) rfl rfl t ht hW⟩, hS.F ht⟩) hS.2.2 dJ1_canEncode_9a6ad_16
  · skip
    refine lv_iload_n hx hb dJ1_canEncode_9a6ad_4 rfl (lv_at hl 0 rfl) ?_
    refine lv_sipush (v := 255) hx hb dJ1_canEncode_9a6ad_5 (by decide) ?_
    refine lv_icmp_gt (tgt := 15) hx hb dJ1_canEncode_9a6ad_8 (by decide) (fun c2 => ?_) (fun c2 => ?_)
    · skip
      refine lv_iconst (v := 0) hx hb dJ1_canEncode_9a6ad_15 (by decide) ?_
      exact W.zret (v := 0) hx hb hr (by decide +kernel) (fun t ht hW => ⟨⟨0, (), rfl, (if_neg (fun h => absurd h.2 (k_ltn c2))), kB_end (w9 := []) (t9 := []) hP hK hD [] [] rfl (by decide) rfl rfl t ht hW⟩, hS.F ht⟩) hS.2.2 dJ1_canEncode_9a6ad_16
    · skip
      refine lv_iconst (v := 1) hx hb dJ1_canEncode_9a6ad_11 (by decide) ?_
      refine lv_goto (tgt := 16) hx hb dJ1_canEncode_9a6ad_12 (by decide) ?_
      exact W.zret (v := 1) hx hb hr (by decide +kernel) (fun t ht hW => ⟨⟨1, (), rfl, (if_pos ⟨k_nlt c1, k_nlt c2⟩), kB_end (w9 := []) (t9 := []) hP hK hD [] [] rfl (by decide) rfl rfl t ht hW⟩, hS.F ht⟩) hS.2.2 dJ1_canEncode_9a6ad_16
abbrev wd_k_ixc_o (z : Nat → Nat) (p0 : Int32) : va_W := []
set_option maxHeartbeats 4000000 in
set_option maxRecDepth 100000 in
theorem k_ixc_o (l : Launch) (dC : Nat → ClassId) (dI : Nat → Nat → Nat) (z zK zV : Nat → Nat) (p0 : Int32) (sz : Nat) (h115 : ¬ p0 = 115) (h98 : ¬ p0 = 98) (h109 : ¬ p0 = 109) (h114 : ¬ p0 = 114) (hr0 : (0 : Int32) ≤ p0 ∧ p0 ≤ 255) : Met l yJ1_indexOfChar_4cfef wsJ1_indexOfChar_4cfef ({ frames := 0, cells := 0, slots := 0, locals := 0 }) (kP dC dI z zK zV [.ref (zV 0), .int p0, .int 0, .int 4] sz (wd_k_ixc_o z p0) []) (va_Qi (fun (r : Int32) (_ : Unit) => (-1) = r) (fun _ t => kB (dC, dI) (va_A (wd_k_ixc_o z p0) sz) [] [] t) (va_A (wd_k_ixc_o z p0) sz)) 0 0 (va_A (wd_k_ixc_o z p0) sz) := by
  refine Met.ofW (cc := cJ1_indexOfChar_4cfef) (maxL := 6) (ret := (some .int)) (by decide) rfl ?_
  intro p e s m args below meth c s₁ B hml hv
  obtain ⟨rfl, hsz, hP, hK, hD0, hM⟩ := hv
  have hx := B.exec
  have hb := B.bytes
  have hr := B.returns
  have hts := atoms_spec (ws := wsJ1_indexOfChar_4cfef) B.pre
  have hown : s.vm.findClass RJ1 = some m.cls := findClass_of_methodNamed B.named
  have hlocks := B.notSynchronized
  subst hsz
  have hD := hD0.self (sz := s.heap.size)
  generalize hAe : va_A (wd_k_ixc_o z p0) s.heap.size = A at hD hM ⊢
  have hA : ∀ q : Nat, s.heap.size ≤ q → A q := fun q h => by rw [← hAe]; exact Or.inr h
  have hS : va_S A s.heap s.heap [] := va_S.rf
  have hP : va_P (dC, dI) vwCl [] s.heap := hP
  have hD : va_D A [] := hD
  have hl := lv_entry ([.ref (zV 0), .int p0, .int 0, .int 4]) (n := 6) (Nat.le_of_ble_eq_true rfl)
  rw [lg_entry_eq]
  generalize (lg_sl ([.ref (zV 0), .int p0, .int 0, .int 4]) ++ List.replicate (6 - (lg_sl ([.ref (zV 0), .int p0, .int 0, .int 4])).length) Slot.unset).toArray = ls at hl ⊢
  have hl : lv_has ls 6 [(0, .ref (zV 0)), (1, .int p0), (2, .int 0), (3, .int 4)] := hl
  refine lv_iload_n hx hb dJ1_indexOfChar_4cfef_0 rfl (lv_at hl 1 rfl) ?_
  refine lv_i2b (v := p0.toInt8.toInt32) hx hb dJ1_indexOfChar_4cfef_1 rfl ?_
  refine lv_istore (lv' := [(4, .int p0.toInt8.toInt32), (0, .ref (zV 0)), (1, .int p0), (2, .int 0), (3, .int 4)]) hx hb dJ1_indexOfChar_4cfef_2 hl (by decide) rfl (fun ls hl => ?_)
  refine lv_iload_n hx hb dJ1_indexOfChar_4cfef_4 rfl (lv_at hl 3 rfl) ?_
  refine lv_istore (lv' := [(5, .int 0), (4, .int p0.toInt8.toInt32), (0, .ref (zV 0)), (1, .int p0), (2, .int 0), (3, .int 4)]) hx hb dJ1_indexOfChar_4cfef_5 hl (by decide) rfl (fun ls hl => ?_)
  refine lv_iload hx hb dJ1_indexOfChar_4cfef_7 (lv_at hl 0 rfl) ?_
  refine lv_iload_n hx hb dJ1_indexOfChar_4cfef_9 rfl (lv_at hl 5 rfl) ?_
  refine lv_icmp_ge (tgt := 31) hx hb dJ1_indexOfChar_4cfef_10 (by decide) (fun c_ => absurd c_ (by decide +kernel)) (fun _ => ?_)
  refine lv_aload_n hx hb dJ1_indexOfChar_4cfef_13 rfl (lv_at hl 2 rfl) ?_
  refine lv_iload hx hb dJ1_indexOfChar_4cfef_14 (lv_at hl 0 rfl) ?_
  refine va_tb (v := .int 115) hx hb ((hM.2.2.2.1.1 0 (by decide)).2.2.2) hS (pk_in 0 4 (by decide) rfl) rfl dJ1_indexOfChar_4cfef_16 ?_
  refine lv_iload hx hb dJ1_indexOfChar_4cfef_17 (lv_at hl 1 rfl) ?_
  refine lv_icmp_ne (tgt := 25) hx hb dJ1_indexOfChar_4cfef_19 (by decide) (fun _ => ?_) (fun c_ => absurd c_ (k_b8 115 (by decide) hr0 h115))
  refine lv_iinc (v := 1) (lv' := [(5, .int 1), (4, .int p0.toInt8.toInt32), (0, .ref (zV 0)), (1, .int p0), (2, .int 0), (3, .int 4)]) hx hb dJ1_indexOfChar_4cfef_25 hl (k := 0) rfl (by decide +kernel) (by decide) rfl (fun ls hl => ?_)
  refine lv_goto (tgt := 7) hx hb dJ1_indexOfChar_4cfef_28 (by decide) ?_
  refine lv_iload hx hb dJ1_indexOfChar_4cfef_7 (lv_at hl 0 rfl) ?_
  refine lv_iload_n hx hb dJ1_indexOfChar_4cfef_9 rfl (lv_at hl 5 rfl) ?_
  refine lv_icmp_ge (tgt := 31) hx hb dJ1_indexOfChar_4cfef_10 (by decide) (fun c_ => absurd c_ (by decide +kernel)) (fun _ => ?_)
  refine lv_aload_n hx hb dJ1_indexOfChar_4cfef_13 rfl (lv_at hl 2 rfl) ?_
  refine lv_iload hx hb dJ1_indexOfChar_4cfef_14 (lv_at hl 0 rfl) ?_
  refine va_tb (v := .int 98) hx hb ((hM.2.2.2.1.1 0 (by decide)).2.2.2) hS (pk_in 1 4 (by decide) rfl) rfl dJ1_indexOfChar_4cfef_16 ?_
  refine lv_iload hx hb dJ1_indexOfChar_4cfef_17 (lv_at hl 1 rfl) ?_
  refine lv_icmp_ne (tgt := 25) hx hb dJ1_indexOfChar_4cfef_19 (by decide) (fun _ => ?_) (fun c_ => absurd c_ (k_b8 98 (by decide) hr0 h98))
  refine lv_iinc (v := 2) (lv' := [(5, .int 2), (4, .int p0.toInt8.toInt32), (0, .ref (zV 0)), (1, .int p0), (2, .int 0), (3, .int 4)]) hx hb dJ1_indexOfChar_4cfef_25 hl (k := 0) rfl (by decide +kernel) (by decide) rfl (fun ls hl => ?_)
  refine lv_goto (tgt := 7) hx hb dJ1_indexOfChar_4cfef_28 (by decide) ?_
  refine lv_iload hx hb dJ1_indexOfChar_4cfef_7 (lv_at hl 0 rfl) ?_
  refine lv_iload_n hx hb dJ1_indexOfChar_4cfef_9 rfl (lv_at hl 5 rfl) ?_
  refine lv_icmp_ge (tgt := 31) hx hb dJ1_indexOfChar_4cfef_10 (by decide) (fun c_ => absurd c_ (by decide +kernel)) (fun _ => ?_)
  refine lv_aload_n hx hb dJ1_indexOfChar_4cfef_13 rfl (lv_at hl 2 rfl) ?_
  refine lv_iload hx hb dJ1_indexOfChar_4cfef_14 (lv_at hl 0 rfl) ?_
  refine va_tb (v := .int 109) hx hb ((hM.2.2.2.1.1 0 (by decide)).2.2.2) hS (pk_in 2 4 (by decide) rfl) rfl dJ1_indexOfChar_4cfef_16 ?_
  refine lv_iload hx hb dJ1_indexOfChar_4cfef_17 (lv_at hl 1 rfl) ?_
  refine lv_icmp_ne (tgt := 25) hx hb dJ1_indexOfChar_4cfef_19 (by decide) (fun _ => ?_) (fun c_ => absurd c_ (k_b8 109 (by decide) hr0 h109))
  refine lv_iinc (v := 3) (lv' := [(5, .int 3), (4, .int p0.toInt8.toInt32), (0, .ref (zV 0)), (1, .int p0), (2, .int 0), (3, .int 4)]) hx hb dJ1_indexOfChar_4cfef_25 hl (k := 0) rfl (by decide +kernel) (by decide) rfl (fun ls hl => ?_)
  refine lv_goto (tgt := 7) hx hb dJ1_indexOfChar_4cfef_28 (by decide) ?_
  refine lv_iload hx hb dJ1_indexOfChar_4cfef_7 (lv_at hl 0 rfl) ?_
  refine lv_iload_n hx hb dJ1_indexOfChar_4cfef_9 rfl (lv_at hl 5 rfl) ?_
  refine lv_icmp_ge (tgt := 31) hx hb dJ1_indexOfChar_4cfef_10 (by decide) (fun c_ => absurd c_ (by decide +kernel)) (fun _ => ?_)
  refine lv_aload_n hx hb dJ1_indexOfChar_4cfef_13 rfl (lv_at hl 2 rfl) ?_
  refine lv_iload hx hb dJ1_indexOfChar_4cfef_14 (lv_at hl 0 rfl) ?_
  refine va_tb (v := .int 114) hx hb ((hM.2.2.2.1.1 0 (by decide)).2.2.2) hS (pk_in 3 4 (by decide) rfl) rfl dJ1_indexOfChar_4cfef_16 ?_
  refine lv_iload hx hb dJ1_indexOfChar_4cfef_17 (lv_at hl 1 rfl) ?_
  refine lv_icmp_ne (tgt := 25) hx hb dJ1_indexOfChar_4cfef_19 (by decide) (fun _ => ?_) (fun c_ => absurd c_ (k_b8 114 (by decide) hr0 h114))
  refine lv_iinc (v := 4) (lv' := [(5, .int 4), (4, .int p0.toInt8.toInt32), (0, .ref (zV 0)), (1, .int p0), (2, .int 0), (3, .int 4)]) hx hb dJ1_indexOfChar_4cfef_25 hl (k := 0) rfl (by decide +kernel) (by decide) rfl (fun ls hl => ?_)
  refine lv_goto (tgt := 7) hx hb dJ1_indexOfChar_4cfef_28 (by decide) ?_
  refine lv_iload hx hb dJ1_indexOfChar_4cfef_7 (lv_at hl 0 rfl) ?_
  refine lv_iload_n hx hb dJ1_indexOfChar_4cfef_9 rfl (lv_at hl 5 rfl) ?_
  refine lv_icmp_ge (tgt := 31) hx hb dJ1_indexOfChar_4cfef_10 (by decide) (fun _ => ?_) (fun c_ => absurd (by decide +kernel) c_)
  refine lv_iconst (v := (-1)) hx hb dJ1_indexOfChar_4cfef_31 (by decide) ?_
  exact W.iret (v := (-1)) hx hb hr (fun t ht hW => ⟨⟨(-1), (), rfl, rfl, kB_end (w9 := []) (t9 := []) hP hK hD [] [] rfl (by decide) rfl rfl t ht hW⟩, hS.F ht⟩) hS.2.2 dJ1_indexOfChar_4cfef_32
abbrev wd_k_ix1_o (z : Nat → Nat) (p0 : Int32) : va_W := []
set_option maxHeartbeats 4000000 in
set_option maxRecDepth 100000 in
theorem k_ix1_o (l : Launch) (dC : Nat → ClassId) (dI : Nat → Nat → Nat) (z zK zV : Nat → Nat) (p0 : Int32) (sz : Nat) (h115 : ¬ p0 = 115) (h98 : ¬ p0 = 98) (h109 : ¬ p0 = 109) (h114 : ¬ p0 = 114) : Met l yJ1_indexOf_4cfef wsJ1_indexOf_4cfef ({ frames := 1, cells := 0, slots := 0, locals := 25 }) (kP dC dI z zK zV [.ref (zV 0), .int p0, .int 0, .int 4] sz (wd_k_ix1_o z p0) []) (va_Qi (fun (r : Int32) (_ : Unit) => (-1) = r) (fun _ t => kB (dC, dI) (va_A (wd_k_ix1_o z p0) sz) [] [] t) (va_A (wd_k_ix1_o z p0) sz)) 0 0 (va_A (wd_k_ix1_o z p0) sz) := by
  refine Met.ofW (cc := cJ1_indexOf_4cfef) (maxL := 4) (ret := (some .int)) (by decide) rfl ?_
  intro p e s m args below meth c s₁ B hml hv
  obtain ⟨rfl, hsz, hP, hK, hD0, hM⟩ := hv
  have hx := B.exec
  have hb := B.bytes
  have hr := B.returns
  have hts := atoms_spec (ws := wsJ1_indexOf_4cfef) B.pre
  have hown : s.vm.findClass RJ1 = some m.cls := findClass_of_methodNamed B.named
  have hlocks := B.notSynchronized
  subst hsz
  have hD := hD0.self (sz := s.heap.size)
  generalize hAe : va_A (wd_k_ix1_o z p0) s.heap.size = A at hD hM ⊢
  have hA : ∀ q : Nat, s.heap.size ≤ q → A q := fun q h => by rw [← hAe]; exact Or.inr h
  have hS : va_S A s.heap s.heap [] := va_S.rf
  have hP : va_P (dC, dI) vwCl [] s.heap := hP
  have hD : va_D A [] := hD
  have hl := lv_entry ([.ref (zV 0), .int p0, .int 0, .int 4]) (n := 4) (Nat.le_of_ble_eq_true rfl)
  rw [lg_entry_eq]
  generalize (lg_sl ([.ref (zV 0), .int p0, .int 0, .int 4]) ++ List.replicate (4 - (lg_sl ([.ref (zV 0), .int p0, .int 0, .int 4])).length) Slot.unset).toArray = ls at hl ⊢
  have hl : lv_has ls 4 [(0, .ref (zV 0)), (1, .int p0), (2, .int 0), (3, .int 4)] := hl
  refine lv_iload_n hx hb dJ1_indexOf_4cfef_0 rfl (lv_at hl 1 rfl) ?_
  have hPc := hP.sub (ws' := []) [] rfl
  have hDc := hD.sub (ws' := []) [] (by decide) rfl
  have hKc := hK.sub (tys' := []) [] rfl
  have hFc := va_free (wc := []) hD hS hA [] rfl
  refine va_calli (va_runS (As := [.int p0]) (rest := []) ⟨hx, hb, hml, hown, hts⟩ (k_canEnc_o l dC dI z zK zV p0 s.heap.size) (va_cwS 1 hts gJ1_indexOf_4cfef_J1_canEncode_9a6ad rfl rfl rfl (by decide +kernel) ⟨Nat.le_of_ble_eq_true rfl, Nat.le_of_ble_eq_true rfl⟩) ⟨kP_blind, kP_go hPc hKc hDc hFc hM hS⟩ rfl rfl hl.1 rfl (lv_room (Nat.le_of_ble_eq_true rfl)) dJ1_indexOf_4cfef_1 ⟨Nat.le_of_ble_eq_true rfl, Nat.le_of_ble_eq_true rfl⟩) hS (fun q _ h => hFc q h) hFc (fun r1 u t H1 locs ht hvm hw hB hz1 hk1 hS => ?_)
  obtain ⟨hP, hD, hK⟩ := kJ (wr := []) (w1 := []) (t1 := []) hP hD hK [] [] rfl rfl (by decide) (by decide) hk1 hFc ht hvm hB
  generalize H1 = H at hP hS ⊢
  have hP : va_P (dC, dI) vwCl [] H := hP
  have hD : va_D A [] := hD
  have hK : va_K (dC, dI) vwCl [] s := hK
  obtain rfl : (if (0 : Int32) ≤ p0 ∧ p0 ≤ 255 then (1 : Int32) else 0) = r1 := hw
  refine lv_if_ne (tgt := 9) hx hb dJ1_indexOf_4cfef_4 (by decide) (fun c2 => ?_) (fun c2 => ?_)
  · skip
    refine lv_iload_n hx hb dJ1_indexOf_4cfef_9 rfl (lv_at hl 2 rfl) ?_
    refine lv_iconst (v := 0) hx hb dJ1_indexOf_4cfef_10 (by decide) ?_
    refine va_mmax hx hb (hml.trans hl.1.symm) hown (hts (.methodLink RJ1 92 Lib.Math.max.name) (by decide +kernel)) (hts (.static Lib.Math.max.name) (by decide +kernel)) (hts (.initialized "java/lang/Math") (by decide +kernel)) (hts (.code Lib.Math.max.name Lib.Math.max.code 2 (some .int)) (by decide +kernel)) (Nat.le_of_ble_eq_true rfl) (Nat.le_of_ble_eq_true rfl) (Nat.le_of_ble_eq_true rfl) (Nat.le_of_ble_eq_true rfl) dJ1_indexOf_4cfef_11 ?_
    refine kc_i (y := 0) (by decide +kernel) ?_
    refine lv_istore_n (lv' := [(2, .int 0), (0, .ref (zV 0)), (1, .int p0), (3, .int 4)]) hx hb dJ1_indexOf_4cfef_14 rfl hl (by decide) rfl (fun ls hl => ?_)
    refine lv_iload_n hx hb dJ1_indexOf_4cfef_15 rfl (lv_at hl 3 rfl) ?_
    refine lv_aload_n hx hb dJ1_indexOf_4cfef_16 rfl (lv_at hl 1 rfl) ?_
    refine va_tlen (v := 4) hx hb ((hM.2.2.2.1.1 0 (by decide)).2.2.2) hS rfl dJ1_indexOf_4cfef_17 ?_
    refine va_mmin hx hb (hml.trans hl.1.symm) hown (hts (.methodLink RJ1 38 Lib.Math.min.name) (by decide +kernel)) (hts (.static Lib.Math.min.name) (by decide +kernel)) (hts (.initialized "java/lang/Math") (by decide +kernel)) (hts (.code Lib.Math.min.name Lib.Math.min.code 2 (some .int)) (by decide +kernel)) (Nat.le_of_ble_eq_true rfl) (Nat.le_of_ble_eq_true rfl) (Nat.le_of_ble_eq_true rfl) (Nat.le_of_ble_eq_true rfl) dJ1_indexOf_4cfef_18 ?_
    refine kc_i (y := 4) (by decide +kernel) ?_
    refine lv_istore_n (lv' := [(3, .int 4), (2, .int 0), (0, .ref (zV 0)), (1, .int p0)]) hx hb dJ1_indexOf_4cfef_21 rfl hl (by decide) rfl (fun ls hl => ?_)
    refine lv_iload_n hx hb dJ1_indexOf_4cfef_22 rfl (lv_at hl 1 rfl) ?_
    refine lv_iload_n hx hb dJ1_indexOf_4cfef_23 rfl (lv_at hl 0 rfl) ?_
    refine lv_icmp_lt (tgt := 29) hx hb dJ1_indexOf_4cfef_24 (by decide) (fun _ => ?_) (fun c_ => absurd (by decide +kernel) c_)
    refine lv_aload_n hx hb dJ1_indexOf_4cfef_29 rfl (lv_at hl 2 rfl) ?_
    refine lv_iload_n hx hb dJ1_indexOf_4cfef_30 rfl (lv_at hl 3 rfl) ?_
    refine lv_iload_n hx hb dJ1_indexOf_4cfef_31 rfl (lv_at hl 1 rfl) ?_
    refine lv_iload_n hx hb dJ1_indexOf_4cfef_32 rfl (lv_at hl 0 rfl) ?_
    have hPc := hP.sub (ws' := []) [] rfl
    have hDc := hD.sub (ws' := []) [] (by decide) rfl
    have hKc := hK.sub (tys' := []) [] rfl
    have hFc := va_free (wc := []) hD hS hA [] rfl
    refine va_calli (va_runS (As := [.ref (zV 0), .int p0, .int 0, .int 4]) (rest := []) ⟨hx, hb, hml, hown, hts⟩ (k_ixc_o l dC dI z zK zV p0 H.size (h115) (h98) (h109) (h114) ((k_ift c2))) (va_cwS 4 hts gJ1_indexOf_4cfef_J1_indexOfChar_4cfef rfl rfl rfl (by decide +kernel) ⟨Nat.le_of_ble_eq_true rfl, Nat.le_of_ble_eq_true rfl⟩) ⟨kP_blind, kP_go hPc hKc hDc hFc hM hS⟩ rfl rfl hl.1 rfl (lv_room (Nat.le_of_ble_eq_true rfl)) dJ1_indexOf_4cfef_33 ⟨Nat.le_of_ble_eq_true rfl, Nat.le_of_ble_eq_true rfl⟩) hS (fun q _ h => hFc q h) hFc (fun r3 u t H1 locs ht hvm hw hB hz1 hk1 hS => ?_)
    obtain ⟨hP, hD, hK⟩ := kJ (wr := []) (w1 := []) (t1 := []) hP hD hK [] [] rfl rfl (by decide) (by decide) hk1 hFc ht hvm hB
    generalize H1 = H at hP hS ⊢
    have hP : va_P (dC, dI) vwCl [] H := hP
    have hD : va_D A [] := hD
    have hK : va_K (dC, dI) vwCl [] s := hK
    obtain rfl : (-1) = r3 := hw
    exact W.iret (v := (-1)) hx hb hr (fun t ht hW => ⟨⟨(-1), (), rfl, rfl, kB_end (w9 := []) (t9 := []) hP hK hD [] [] rfl (by decide) rfl rfl t ht hW⟩, hS.F ht⟩) hS.2.2 dJ1_indexOf_4cfef_36
  · skip
    refine lv_iconst (v := (-1)) hx hb dJ1_indexOf_4cfef_7 (by decide) ?_
    exact W.iret (v := (-1)) hx hb hr (fun t ht hW => ⟨⟨(-1), (), rfl, rfl, kB_end (w9 := []) (t9 := []) hP hK hD [] [] rfl (by decide) rfl rfl t ht hW⟩, hS.F ht⟩) hS.2.2 dJ1_indexOf_4cfef_8
abbrev wd_k_ix2_o (z : Nat → Nat) (p0 : Int32) : va_W := []
set_option maxHeartbeats 4000000 in
set_option maxRecDepth 100000 in
theorem k_ix2_o (l : Launch) (dC : Nat → ClassId) (dI : Nat → Nat → Nat) (z zK zV : Nat → Nat) (p0 : Int32) (sz : Nat) (h115 : ¬ p0 = 115) (h98 : ¬ p0 = 98) (h109 : ¬ p0 = 109) (h114 : ¬ p0 = 114) : Met l yJ0_indexOf_7cf53 wsJ0_indexOf_7cf53 ({ frames := 2, cells := 0, slots := 0, locals := 48 }) (kP dC dI z zK zV [.ref (zK 0), .int p0, .int 0] sz (wd_k_ix2_o z p0) []) (va_Qi (fun (r : Int32) (_ : Unit) => (-1) = r) (fun _ t => kB (dC, dI) (va_A (wd_k_ix2_o z p0) sz) [] [] t) (va_A (wd_k_ix2_o z p0) sz)) 0 0 (va_A (wd_k_ix2_o z p0) sz) := by
  refine Met.ofW (cc := cJ0_indexOf_7cf53) (maxL := 3) (ret := (some .int)) (by decide) rfl ?_
  intro p e s m args below meth c s₁ B hml hv
  obtain ⟨rfl, hsz, hP, hK, hD0, hM⟩ := hv
  have hx := B.exec
  have hb := B.bytes
  have hr := B.returns
  have hts := atoms_spec (ws := wsJ0_indexOf_7cf53) B.pre
  have hown : s.vm.findClass RJ0 = some m.cls := findClass_of_methodNamed B.named
  have hlocks := B.notSynchronized
  subst hsz
  have hD := hD0.self (sz := s.heap.size)
  generalize hAe : va_A (wd_k_ix2_o z p0) s.heap.size = A at hD hM ⊢
  have hA : ∀ q : Nat, s.heap.size ≤ q → A q := fun q h => by rw [← hAe]; exact Or.inr h
  have hS : va_S A s.heap s.heap [] := va_S.rf
  have hP : va_P (dC, dI) vwCl [] s.heap := hP
  have hD : va_D A [] := hD
  have hl := lv_entry ([.ref (zK 0), .int p0, .int 0]) (n := 3) (Nat.le_of_ble_eq_true rfl)
  rw [lg_entry_eq]
  generalize (lg_sl ([.ref (zK 0), .int p0, .int 0]) ++ List.replicate (3 - (lg_sl ([.ref (zK 0), .int p0, .int 0])).length) Slot.unset).toArray = ls at hl ⊢
  have hl : lv_has ls 3 [(0, .ref (zK 0)), (1, .int p0), (2, .int 0)] := hl
  refine lv_aload_n hx hb dJ0_indexOf_7cf53_0 rfl (lv_at hl 0 rfl) ?_
  have hPc := hP.sub (ws' := []) [] rfl
  have hDc := hD.sub (ws' := []) [] (by decide) rfl
  have hKc := hK.sub (tys' := []) [] rfl
  have hFc := va_free (wc := []) hD hS hA [] rfl
  refine va_calli (va_runV (As := []) (rest := []) ⟨hx, hb, hml, hown, hts⟩ (k_isLatin0 l dC dI z zK zV  s.heap.size) (cwV 0 hts gJ0_indexOf_7cf53_J0_isLatin1_aae02 rfl rfl rfl (by decide +kernel) ⟨Nat.le_of_ble_eq_true rfl, Nat.le_of_ble_eq_true rfl⟩) ⟨kP_blind, vk_recv (i := 0) hM.2.2.2.1 (by decide) hS, kP_go hPc hKc hDc hFc hM hS⟩ rfl rfl hl.1 rfl (lv_room (Nat.le_of_ble_eq_true rfl)) dJ0_indexOf_7cf53_1 ⟨Nat.le_of_ble_eq_true rfl, Nat.le_of_ble_eq_true rfl⟩) hS (fun q _ h => hFc q h) hFc (fun r1 u t H1 locs ht hvm hw hB hz1 hk1 hS => ?_)
  obtain ⟨hP, hD, hK⟩ := kJ (wr := []) (w1 := []) (t1 := []) hP hD hK [] [] rfl rfl (by decide) (by decide) hk1 hFc ht hvm hB
  generalize H1 = H at hP hS ⊢
  have hP : va_P (dC, dI) vwCl [] H := hP
  have hD : va_D A [] := hD
  have hK : va_K (dC, dI) vwCl [] s := hK
  obtain rfl : 1 = r1 := hw
  refine lv_if_eq (tgt := 23) hx hb dJ0_indexOf_7cf53_4 (by decide) (fun c_ => absurd c_ (by decide +kernel)) (fun _ => ?_)
  refine lv_aload_n hx hb dJ0_indexOf_7cf53_7 rfl (lv_at hl 0 rfl) ?_
  refine vk_getf (v := .ref (zV 0)) hx hb (hM.2.2.2.1.1 0 (by decide)).2.2.1 hS hown (hts (.fieldLink RJ0 9 "java/lang/String" "value" "[B") (by decide +kernel)) (fun _ h9 => h9) dJ0_indexOf_7cf53_8 ?_
  refine lv_iload_n hx hb dJ0_indexOf_7cf53_11 rfl (lv_at hl 1 rfl) ?_
  refine lv_iload_n hx hb dJ0_indexOf_7cf53_12 rfl (lv_at hl 2 rfl) ?_
  refine lv_aload_n hx hb dJ0_indexOf_7cf53_13 rfl (lv_at hl 0 rfl) ?_
  have hPc := hP.sub (ws' := []) [] rfl
  have hDc := hD.sub (ws' := []) [] (by decide) rfl
  have hKc := hK.sub (tys' := []) [] rfl
  have hFc := va_free (wc := []) hD hS hA [] rfl
  refine va_calli (va_runV (As := []) (rest := [.int 0, .int p0, .ref (zV 0)]) ⟨hx, hb, hml, hown, hts⟩ (k_length0 l dC dI z zK zV  H.size) (cwV 0 hts gJ0_indexOf_7cf53_J0_length_8abf5 rfl rfl rfl (by decide +kernel) ⟨Nat.le_of_ble_eq_true rfl, Nat.le_of_ble_eq_true rfl⟩) ⟨kP_blind, vk_recv (i := 0) hM.2.2.2.1 (by decide) hS, kP_go hPc hKc hDc hFc hM hS⟩ rfl rfl hl.1 rfl (lv_room (Nat.le_of_ble_eq_true rfl)) dJ0_indexOf_7cf53_14 ⟨Nat.le_of_ble_eq_true rfl, Nat.le_of_ble_eq_true rfl⟩) hS (fun q _ h => hFc q h) hFc (fun r2 u t H1 locs ht hvm hw hB hz1 hk1 hS => ?_)
  obtain ⟨hP, hD, hK⟩ := kJ (wr := []) (w1 := []) (t1 := []) hP hD hK [] [] rfl rfl (by decide) (by decide) hk1 hFc ht hvm hB
  generalize H1 = H at hP hS ⊢
  have hP : va_P (dC, dI) vwCl [] H := hP
  have hD : va_D A [] := hD
  have hK : va_K (dC, dI) vwCl [] s := hK
  obtain rfl : 4 = r2 := hw
  have hPc := hP.sub (ws' := []) [] rfl
  have hDc := hD.sub (ws' := []) [] (by decide) rfl
  have hKc := hK.sub (tys' := []) [] rfl
  have hFc := va_free (wc := []) hD hS hA [] rfl
  refine va_calli (va_runS (As := [.ref (zV 0), .int p0, .int 0, .int 4]) (rest := []) ⟨hx, hb, hml, hown, hts⟩ (k_ix1_o l dC dI z zK zV p0 H.size (h115) (h98) (h109) (h114)) (va_cwS 4 hts gJ0_indexOf_7cf53_J1_indexOf_4cfef rfl rfl rfl (by decide +kernel) ⟨Nat.le_of_ble_eq_true rfl, Nat.le_of_ble_eq_true rfl⟩) ⟨kP_blind, kP_go hPc hKc hDc hFc hM hS⟩ rfl rfl hl.1 rfl (lv_room (Nat.le_of_ble_eq_true rfl)) dJ0_indexOf_7cf53_17 ⟨Nat.le_of_ble_eq_true rfl, Nat.le_of_ble_eq_true rfl⟩) hS (fun q _ h => hFc q h) hFc (fun r3 u t H1 locs ht hvm hw hB hz1 hk1 hS => ?_)
  obtain ⟨hP, hD, hK⟩ := kJ (wr := []) (w1 := []) (t1 := []) hP hD hK [] [] rfl rfl (by decide) (by decide) hk1 hFc ht hvm hB
  generalize H1 = H at hP hS ⊢
  have hP : va_P (dC, dI) vwCl [] H := hP
  have hD : va_D A [] := hD
  have hK : va_K (dC, dI) vwCl [] s := hK
  obtain rfl : (-1) = r3 := hw
  refine lv_goto (tgt := 36) hx hb dJ0_indexOf_7cf53_20 (by decide) ?_
  exact W.iret (v := (-1)) hx hb hr (fun t ht hW => ⟨⟨(-1), (), rfl, rfl, kB_end (w9 := []) (t9 := []) hP hK hD [] [] rfl (by decide) rfl rfl t ht hW⟩, hS.F ht⟩) hS.2.2 dJ0_indexOf_7cf53_36
abbrev wd_k_ix3_o (z : Nat → Nat) (p0 : Int32) : va_W := []
set_option maxHeartbeats 4000000 in
set_option maxRecDepth 100000 in
theorem k_ix3_o (l : Launch) (dC : Nat → ClassId) (dI : Nat → Nat → Nat) (z zK zV : Nat → Nat) (p0 : Int32) (sz : Nat) (h115 : ¬ p0 = 115) (h98 : ¬ p0 = 98) (h109 : ¬ p0 = 109) (h114 : ¬ p0 = 114) : Met l yJ0_indexOf_0f7a4 wsJ0_indexOf_0f7a4 ({ frames := 3, cells := 0, slots := 0, locals := 70 }) (kP dC dI z zK zV [.ref (zK 0), .int p0] sz (wd_k_ix3_o z p0) []) (va_Qi (fun (r : Int32) (_ : Unit) => (-1) = r) (fun _ t => kB (dC, dI) (va_A (wd_k_ix3_o z p0) sz) [] [] t) (va_A (wd_k_ix3_o z p0) sz)) 0 0 (va_A (wd_k_ix3_o z p0) sz) := by
  refine Met.ofW (cc := cJ0_indexOf_0f7a4) (maxL := 2) (ret := (some .int)) (by decide) rfl ?_
  intro p e s m args below meth c s₁ B hml hv
  obtain ⟨rfl, hsz, hP, hK, hD0, hM⟩ := hv
  have hx := B.exec
  have hb := B.bytes
  have hr := B.returns
  have hts := atoms_spec (ws := wsJ0_indexOf_0f7a4) B.pre
  have hown : s.vm.findClass RJ0 = some m.cls := findClass_of_methodNamed B.named
  have hlocks := B.notSynchronized
  subst hsz
  have hD := hD0.self (sz := s.heap.size)
  generalize hAe : va_A (wd_k_ix3_o z p0) s.heap.size = A at hD hM ⊢
  have hA : ∀ q : Nat, s.heap.size ≤ q → A q := fun q h => by rw [← hAe]; exact Or.inr h
  have hS : va_S A s.heap s.heap [] := va_S.rf
  have hP : va_P (dC, dI) vwCl [] s.heap := hP
  have hD : va_D A [] := hD
  have hl := lv_entry ([.ref (zK 0), .int p0]) (n := 2) (Nat.le_of_ble_eq_true rfl)
  rw [lg_entry_eq]
  generalize (lg_sl ([.ref (zK 0), .int p0]) ++ List.replicate (2 - (lg_sl ([.ref (zK 0), .int p0])).length) Slot.unset).toArray = ls at hl ⊢
  have hl : lv_has ls 2 [(0, .ref (zK 0)), (1, .int p0)] := hl
  refine lv_aload_n hx hb dJ0_indexOf_0f7a4_0 rfl (lv_at hl 0 rfl) ?_
  refine lv_iload_n hx hb dJ0_indexOf_0f7a4_1 rfl (lv_at hl 1 rfl) ?_
  refine lv_iconst (v := 0) hx hb dJ0_indexOf_0f7a4_2 (by decide) ?_
  have hPc := hP.sub (ws' := []) [] rfl
  have hDc := hD.sub (ws' := []) [] (by decide) rfl
  have hKc := hK.sub (tys' := []) [] rfl
  have hFc := va_free (wc := []) hD hS hA [] rfl
  refine va_calli (va_runV (As := [.int p0, .int 0]) (rest := []) ⟨hx, hb, hml, hown, hts⟩ (k_ix2_o l dC dI z zK zV p0 s.heap.size (h115) (h98) (h109) (h114)) (cwV 2 hts gJ0_indexOf_0f7a4_J0_indexOf_7cf53 rfl rfl rfl (by decide +kernel) ⟨Nat.le_of_ble_eq_true rfl, Nat.le_of_ble_eq_true rfl⟩) ⟨kP_blind, vk_recv (i := 0) hM.2.2.2.1 (by decide) hS, kP_go hPc hKc hDc hFc hM hS⟩ rfl rfl hl.1 rfl (lv_room (Nat.le_of_ble_eq_true rfl)) dJ0_indexOf_0f7a4_3 ⟨Nat.le_of_ble_eq_true rfl, Nat.le_of_ble_eq_true rfl⟩) hS (fun q _ h => hFc q h) hFc (fun r1 u t H1 locs ht hvm hw hB hz1 hk1 hS => ?_)
  obtain ⟨hP, hD, hK⟩ := kJ (wr := []) (w1 := []) (t1 := []) hP hD hK [] [] rfl rfl (by decide) (by decide) hk1 hFc ht hvm hB
  generalize H1 = H at hP hS ⊢
  have hP : va_P (dC, dI) vwCl [] H := hP
  have hD : va_D A [] := hD
  have hK : va_K (dC, dI) vwCl [] s := hK
  obtain rfl : (-1) = r1 := hw
  exact W.iret (v := (-1)) hx hb hr (fun t ht hW => ⟨⟨(-1), (), rfl, rfl, kB_end (w9 := []) (t9 := []) hP hK hD [] [] rfl (by decide) rfl rfl t ht hW⟩, hS.F ht⟩) hS.2.2 dJ0_indexOf_0f7a4_6
abbrev wd_k_MOrder_init115 (z : Nat → Nat) (od : Nat) (o1 : Int32) (o2 : Int32) (o3 : Int32) : va_W := [(od, .inr (18, [.int 0, .int 0, .int 0, .int 0, .int 0, .int 0]))]
set_option maxHeartbeats 4000000 in
set_option maxRecDepth 100000 in
theorem k_MOrder_init115 (l : Launch) (dC : Nat → ClassId) (dI : Nat → Nat → Nat) (z zK zV : Nat → Nat) (od : Nat) (o1 : Int32) (o2 : Int32) (o3 : Int32) (sz : Nat)  : Met l yX14_init wsX14_init ({ frames := 1, cells := 0, slots := 0, locals := 12 }) (kP dC dI z zK zV [.ref od, .int 115, .int o1, .int o2, .int o3] sz (wd_k_MOrder_init115 z od o1 o2 o3) []) (va_Qv (fun _ : Unit => True) (fun _ t => kB (dC, dI) (va_A (wd_k_MOrder_init115 z od o1 o2 o3) sz) [(od, .inr (18, [.int 115, .int o1, .int o2, .int o3, .int 119, .int 0]))] [] t) (va_A (wd_k_MOrder_init115 z od o1 o2 o3) sz)) 0 0 (va_A (wd_k_MOrder_init115 z od o1 o2 o3) sz) := by
  refine Met.ofW (cc := cX14_init) (maxL := 5) (ret := none) (by decide) rfl ?_
  intro p e s m args below meth c s₁ B hml hv
  obtain ⟨rfl, hsz, hP, hK, hD0, hM⟩ := hv
  have hx := B.exec
  have hb := B.bytes
  have hr := B.returns
  have hts := atoms_spec (ws := wsX14_init) B.pre
  have hown : s.vm.findClass RX14 = some m.cls := findClass_of_methodNamed B.named
  have hlocks := B.notSynchronized
  have hin : meth.name = "<init>" := (name_of_methodNamed B.named B.method).1
  have hiX14 : ∀ w ∈ u_ws RX14 TX14 6, w ∈ wsX14_init := by decide +kernel
  have hobj : Cond.code objectInit ⟨#[0xb1]⟩ 1 none ∈ wsX14_init := by decide +kernel
  subst hsz
  have hD := hD0.self (sz := s.heap.size)
  generalize hAe : va_A (wd_k_MOrder_init115 z od o1 o2 o3) s.heap.size = A at hD hM ⊢
  have hA : ∀ q : Nat, s.heap.size ≤ q → A q := fun q h => by rw [← hAe]; exact Or.inr h
  have hS : va_S A s.heap s.heap [] := va_S.rf
  have hP : va_P (dC, dI) vwCl [(od, .inr (18, [.int 0, .int 0, .int 0, .int 0, .int 0, .int 0]))] s.heap := hP
  have hD : va_D A [(od, .inr (18, [.int 0, .int 0, .int 0, .int 0, .int 0, .int 0]))] := hD
  have hl := lv_entry ([.ref od, .int 115, .int o1, .int o2, .int o3]) (n := 5) (Nat.le_of_ble_eq_true rfl)
  rw [lg_entry_eq]
  generalize (lg_sl ([.ref od, .int 115, .int o1, .int o2, .int o3]) ++ List.replicate (5 - (lg_sl ([.ref od, .int 115, .int o1, .int o2, .int o3])).length) Slot.unset).toArray = ls at hl ⊢
  have hl : lv_has ls 5 [(0, .ref od), (1, .int 115), (2, .int o1), (3, .int o2), (4, .int o3)] := hl
  refine lv_aload_n hx hb dX14_init_0 rfl (lv_at hl 0 rfl) ?_
  refine W.objInit hx hb hown (hts (.methodLink RX14 1 objectInit) (by decide +kernel)) (hts (.instanceMethod objectInit) (by decide +kernel)) (hts _ hobj) rfl (by rw [hml]; exact hl.1) rfl dX14_init_1 (Nat.le_of_ble_eq_true rfl) (Nat.le_of_ble_eq_true rfl) ?_
  refine W.eq (g2 := F0 m 4 ls []) rfl ?_
  refine lv_aload_n hx hb dX14_init_4 rfl (lv_at hl 0 rfl) ?_
  refine lv_bipush (v := 119) hx hb dX14_init_5 (by decide) ?_
  refine va_put (D := (dC, dI)) (ci := 18) (v := .int 119) (ty := .char) (C := RX14) (T := TX14) (N := 6) hx hb hts hiX14 tyX14 tyX14_ok nmX14 hown hK hP hD hS 0 rfl rfl 4 (by decide) (hts (.fieldLink RX14 7 "SquareRigModel$Order" "state" "C") (by decide +kernel)) (fun _ h9 => h9) rfl (by decide +kernel) (by decide +kernel) (by decide +kernel) (Nat.le_of_ble_eq_true rfl) dX14_init_7 (fun H locs hP hD hS => ?_)
  have hP : va_P (dC, dI) vwCl [(od, .inr (18, [.int 0, .int 0, .int 0, .int 0, .int 119, .int 0]))] H := hP
  have hD : va_D A [(od, .inr (18, [.int 0, .int 0, .int 0, .int 0, .int 119, .int 0]))] := hD
  refine lv_aload_n hx hb dX14_init_10 rfl (lv_at hl 0 rfl) ?_
  refine lv_iload_n hx hb dX14_init_11 rfl (lv_at hl 1 rfl) ?_
  refine va_putF (D := (dC, dI)) (ci := 18) (v := .int 115) (ty := .char) (C := RX14) (T := TX14) (N := 6) hx hb hts hiX14 tyX14 tyX14_ok nmX14 hown hK hP hD hS 0 rfl rfl 0 (by decide) (hts (.fieldLink RX14 13 "SquareRigModel$Order" "kind" "C") (by decide +kernel)) (fun _ h9 => h9) rfl hin rfl (by decide +kernel) (by decide +kernel) (by decide +kernel) (Nat.le_of_ble_eq_true rfl) dX14_init_12 (fun H locs hP hD hS => ?_)
  have hP : va_P (dC, dI) vwCl [(od, .inr (18, [.int 115, .int 0, .int 0, .int 0, .int 119, .int 0]))] H := hP
  have hD : va_D A [(od, .inr (18, [.int 115, .int 0, .int 0, .int 0, .int 119, .int 0]))] := hD
  refine lv_aload_n hx hb dX14_init_15 rfl (lv_at hl 0 rfl) ?_
  refine lv_iload_n hx hb dX14_init_16 rfl (lv_at hl 2 rfl) ?_
  refine va_putF (D := (dC, dI)) (ci := 18) (v := .int o1) (ty := .int) (C := RX14) (T := TX14) (N := 6) hx hb hts hiX14 tyX14 tyX14_ok nmX14 hown hK hP hD hS 0 rfl rfl 1 (by decide) (hts (.fieldLink RX14 16 "SquareRigModel$Order" "what" "I") (by decide +kernel)) (fun _ h9 => h9) rfl hin rfl (by decide +kernel) rfl rfl (Nat.le_of_ble_eq_true rfl) dX14_init_17 (fun H locs hP hD hS => ?_)
  have hP : va_P (dC, dI) vwCl [(od, .inr (18, [.int 115, .int o1, .int 0, .int 0, .int 119, .int 0]))] H := hP
  have hD : va_D A [(od, .inr (18, [.int 115, .int o1, .int 0, .int 0, .int 119, .int 0]))] := hD
  refine lv_aload_n hx hb dX14_init_20 rfl (lv_at hl 0 rfl) ?_
  refine lv_iload_n hx hb dX14_init_21 rfl (lv_at hl 3 rfl) ?_
  refine va_putF (D := (dC, dI)) (ci := 18) (v := .int o2) (ty := .int) (C := RX14) (T := TX14) (N := 6) hx hb hts hiX14 tyX14 tyX14_ok nmX14 hown hK hP hD hS 0 rfl rfl 2 (by decide) (hts (.fieldLink RX14 20 "SquareRigModel$Order" "how" "I") (by decide +kernel)) (fun _ h9 => h9) rfl hin rfl (by decide +kernel) rfl rfl (Nat.le_of_ble_eq_true rfl) dX14_init_22 (fun H locs hP hD hS => ?_)
  have hP : va_P (dC, dI) vwCl [(od, .inr (18, [.int 115, .int o1, .int o2, .int 0, .int 119, .int 0]))] H := hP
  have hD : va_D A [(od, .inr (18, [.int 115, .int o1, .int o2, .int 0, .int 119, .int 0]))] := hD
  refine lv_aload_n hx hb dX14_init_25 rfl (lv_at hl 0 rfl) ?_
  refine lv_iload hx hb dX14_init_26 (lv_at hl 4 rfl) ?_
  refine va_putF (D := (dC, dI)) (ci := 18) (v := .int o3) (ty := .int) (C := RX14) (T := TX14) (N := 6) hx hb hts hiX14 tyX14 tyX14_ok nmX14 hown hK hP hD hS 0 rfl rfl 3 (by decide) (hts (.fieldLink RX14 23 "SquareRigModel$Order" "given" "I") (by decide +kernel)) (fun _ h9 => h9) rfl hin rfl (by decide +kernel) rfl rfl (Nat.le_of_ble_eq_true rfl) dX14_init_28 (fun H locs hP hD hS => ?_)
  have hP : va_P (dC, dI) vwCl [(od, .inr (18, [.int 115, .int o1, .int o2, .int o3, .int 119, .int 0]))] H := hP
  have hD : va_D A [(od, .inr (18, [.int 115, .int o1, .int o2, .int o3, .int 119, .int 0]))] := hD
  exact W.vret hx hb hr (fun t ht hW => ⟨⟨(), rfl, trivial, kB_end (w9 := [(od, .inr (18, [.int 115, .int o1, .int o2, .int o3, .int 119, .int 0]))]) (t9 := []) hP hK hD [0] [] rfl (by decide) rfl rfl t ht hW⟩, hS.F ht⟩) hS.2.2 dX14_init_31
abbrev wd_k_MOrder_init98 (z : Nat → Nat) (od : Nat) (o1 : Int32) (o2 : Int32) (o3 : Int32) : va_W := [(od, .inr (18, [.int 0, .int 0, .int 0, .int 0, .int 0, .int 0]))]
set_option maxHeartbeats 4000000 in
set_option maxRecDepth 100000 in
theorem k_MOrder_init98 (l : Launch) (dC : Nat → ClassId) (dI : Nat → Nat → Nat) (z zK zV : Nat → Nat) (od : Nat) (o1 : Int32) (o2 : Int32) (o3 : Int32) (sz : Nat)  : Met l yX14_init wsX14_init ({ frames := 1, cells := 0, slots := 0, locals := 12 }) (kP dC dI z zK zV [.ref od, .int 98, .int o1, .int o2, .int o3] sz (wd_k_MOrder_init98 z od o1 o2 o3) []) (va_Qv (fun _ : Unit => True) (fun _ t => kB (dC, dI) (va_A (wd_k_MOrder_init98 z od o1 o2 o3) sz) [(od, .inr (18, [.int 98, .int o1, .int o2, .int o3, .int 119, .int 0]))] [] t) (va_A (wd_k_MOrder_init98 z od o1 o2 o3) sz)) 0 0 (va_A (wd_k_MOrder_init98 z od o1 o2 o3) sz) := by
  refine Met.ofW (cc := cX14_init) (maxL := 5) (ret := none) (by decide) rfl ?_
  intro p e s m args below meth c s₁ B hml hv
  obtain ⟨rfl, hsz, hP, hK, hD0, hM⟩ := hv
  have hx := B.exec
  have hb := B.bytes
  have hr := B.returns
  have hts := atoms_spec (ws := wsX14_init) B.pre
  have hown : s.vm.findClass RX14 = some m.cls := findClass_of_methodNamed B.named
  have hlocks := B.notSynchronized
  have hin : meth.name = "<init>" := (name_of_methodNamed B.named B.method).1
  have hiX14 : ∀ w ∈ u_ws RX14 TX14 6, w ∈ wsX14_init := by decide +kernel
  have hobj : Cond.code objectInit ⟨#[0xb1]⟩ 1 none ∈ wsX14_init := by decide +kernel
  subst hsz
  have hD := hD0.self (sz := s.heap.size)
  generalize hAe : va_A (wd_k_MOrder_init98 z od o1 o2 o3) s.heap.size = A at hD hM ⊢
  have hA : ∀ q : Nat, s.heap.size ≤ q → A q := fun q h => by rw [← hAe]; exact Or.inr h
  have hS : va_S A s.heap s.heap [] := va_S.rf
  have hP : va_P (dC, dI) vwCl [(od, .inr (18, [.int 0, .int 0, .int 0, .int 0, .int 0, .int 0]))] s.heap := hP
  have hD : va_D A [(od, .inr (18, [.int 0, .int 0, .int 0, .int 0, .int 0, .int 0]))] := hD
  have hl := lv_entry ([.ref od, .int 98, .int o1, .int o2, .int o3]) (n := 5) (Nat.le_of_ble_eq_true rfl)
  rw [lg_entry_eq]
  generalize (lg_sl ([.ref od, .int 98, .int o1, .int o2, .int o3]) ++ List.replicate (5 - (lg_sl ([.ref od, .int 98, .int o1, .int o2, .int o3])).length) Slot.unset).toArray = ls at hl ⊢
  have hl : lv_has ls 5 [(0, .ref od), (1, .int 98), (2, .int o1), (3, .int o2), (4, .int o3)] := hl
  refine lv_aload_n hx hb dX14_init_0 rfl (lv_at hl 0 rfl) ?_
  refine W.objInit hx hb hown (hts (.methodLink RX14 1 objectInit) (by decide +kernel)) (hts (.instanceMethod objectInit) (by decide +kernel)) (hts _ hobj) rfl (by rw [hml]; exact hl.1) rfl dX14_init_1 (Nat.le_of_ble_eq_true rfl) (Nat.le_of_ble_eq_true rfl) ?_
  refine W.eq (g2 := F0 m 4 ls []) rfl ?_
  refine lv_aload_n hx hb dX14_init_4 rfl (lv_at hl 0 rfl) ?_
  refine lv_bipush (v := 119) hx hb dX14_init_5 (by decide) ?_
  refine va_put (D := (dC, dI)) (ci := 18) (v := .int 119) (ty := .char) (C := RX14) (T := TX14) (N := 6) hx hb hts hiX14 tyX14 tyX14_ok nmX14 hown hK hP hD hS 0 rfl rfl 4 (by decide) (hts (.fieldLink RX14 7 "SquareRigModel$Order" "state" "C") (by decide +kernel)) (fun _ h9 => h9) rfl (by decide +kernel) (by decide +kernel) (by decide +kernel) (Nat.le_of_ble_eq_true rfl) dX14_init_7 (fun H locs hP hD hS => ?_)
  have hP : va_P (dC, dI) vwCl [(od, .inr (18, [.int 0, .int 0, .int 0, .int 0, .int 119, .int 0]))] H := hP
  have hD : va_D A [(od, .inr (18, [.int 0, .int 0, .int 0, .int 0, .int 119, .int 0]))] := hD
  refine lv_aload_n hx hb dX14_init_10 rfl (lv_at hl 0 rfl) ?_
  refine lv_iload_n hx hb dX14_init_11 rfl (lv_at hl 1 rfl) ?_
  refine va_putF (D := (dC, dI)) (ci := 18) (v := .int 98) (ty := .char) (C := RX14) (T := TX14) (N := 6) hx hb hts hiX14 tyX14 tyX14_ok nmX14 hown hK hP hD hS 0 rfl rfl 0 (by decide) (hts (.fieldLink RX14 13 "SquareRigModel$Order" "kind" "C") (by decide +kernel)) (fun _ h9 => h9) rfl hin rfl (by decide +kernel) (by decide +kernel) (by decide +kernel) (Nat.le_of_ble_eq_true rfl) dX14_init_12 (fun H locs hP hD hS => ?_)
  have hP : va_P (dC, dI) vwCl [(od, .inr (18, [.int 98, .int 0, .int 0, .int 0, .int 119, .int 0]))] H := hP
  have hD : va_D A [(od, .inr (18, [.int 98, .int 0, .int 0, .int 0, .int 119, .int 0]))] := hD
  refine lv_aload_n hx hb dX14_init_15 rfl (lv_at hl 0 rfl) ?_
  refine lv_iload_n hx hb dX14_init_16 rfl (lv_at hl 2 rfl) ?_
  refine va_putF (D := (dC, dI)) (ci := 18) (v := .int o1) (ty := .int) (C := RX14) (T := TX14) (N := 6) hx hb hts hiX14 tyX14 tyX14_ok nmX14 hown hK hP hD hS 0 rfl rfl 1 (by decide) (hts (.fieldLink RX14 16 "SquareRigModel$Order" "what" "I") (by decide +kernel)) (fun _ h9 => h9) rfl hin rfl (by decide +kernel) rfl rfl (Nat.le_of_ble_eq_true rfl) dX14_init_17 (fun H locs hP hD hS => ?_)
  have hP : va_P (dC, dI) vwCl [(od, .inr (18, [.int 98, .int o1, .int 0, .int 0, .int 119, .int 0]))] H := hP
  have hD : va_D A [(od, .inr (18, [.int 98, .int o1, .int 0, .int 0, .int 119, .int 0]))] := hD
  refine lv_aload_n hx hb dX14_init_20 rfl (lv_at hl 0 rfl) ?_
  refine lv_iload_n hx hb dX14_init_21 rfl (lv_at hl 3 rfl) ?_
  refine va_putF (D := (dC, dI)) (ci := 18) (v := .int o2) (ty := .int) (C := RX14) (T := TX14) (N := 6) hx hb hts hiX14 tyX14 tyX14_ok nmX14 hown hK hP hD hS 0 rfl rfl 2 (by decide) (hts (.fieldLink RX14 20 "SquareRigModel$Order" "how" "I") (by decide +kernel)) (fun _ h9 => h9) rfl hin rfl (by decide +kernel) rfl rfl (Nat.le_of_ble_eq_true rfl) dX14_init_22 (fun H locs hP hD hS => ?_)
  have hP : va_P (dC, dI) vwCl [(od, .inr (18, [.int 98, .int o1, .int o2, .int 0, .int 119, .int 0]))] H := hP
  have hD : va_D A [(od, .inr (18, [.int 98, .int o1, .int o2, .int 0, .int 119, .int 0]))] := hD
  refine lv_aload_n hx hb dX14_init_25 rfl (lv_at hl 0 rfl) ?_
  refine lv_iload hx hb dX14_init_26 (lv_at hl 4 rfl) ?_
  refine va_putF (D := (dC, dI)) (ci := 18) (v := .int o3) (ty := .int) (C := RX14) (T := TX14) (N := 6) hx hb hts hiX14 tyX14 tyX14_ok nmX14 hown hK hP hD hS 0 rfl rfl 3 (by decide) (hts (.fieldLink RX14 23 "SquareRigModel$Order" "given" "I") (by decide +kernel)) (fun _ h9 => h9) rfl hin rfl (by decide +kernel) rfl rfl (Nat.le_of_ble_eq_true rfl) dX14_init_28 (fun H locs hP hD hS => ?_)
  have hP : va_P (dC, dI) vwCl [(od, .inr (18, [.int 98, .int o1, .int o2, .int o3, .int 119, .int 0]))] H := hP
  have hD : va_D A [(od, .inr (18, [.int 98, .int o1, .int o2, .int o3, .int 119, .int 0]))] := hD
  exact W.vret hx hb hr (fun t ht hW => ⟨⟨(), rfl, trivial, kB_end (w9 := [(od, .inr (18, [.int 98, .int o1, .int o2, .int o3, .int 119, .int 0]))]) (t9 := []) hP hK hD [0] [] rfl (by decide) rfl rfl t ht hW⟩, hS.F ht⟩) hS.2.2 dX14_init_31
abbrev wd_k_MOrder_init109 (z : Nat → Nat) (od : Nat) (o1 : Int32) (o2 : Int32) (o3 : Int32) : va_W := [(od, .inr (18, [.int 0, .int 0, .int 0, .int 0, .int 0, .int 0]))]
set_option maxHeartbeats 4000000 in
set_option maxRecDepth 100000 in
theorem k_MOrder_init109 (l : Launch) (dC : Nat → ClassId) (dI : Nat → Nat → Nat) (z zK zV : Nat → Nat) (od : Nat) (o1 : Int32) (o2 : Int32) (o3 : Int32) (sz : Nat)  : Met l yX14_init wsX14_init ({ frames := 1, cells := 0, slots := 0, locals := 12 }) (kP dC dI z zK zV [.ref od, .int 109, .int o1, .int o2, .int o3] sz (wd_k_MOrder_init109 z od o1 o2 o3) []) (va_Qv (fun _ : Unit => True) (fun _ t => kB (dC, dI) (va_A (wd_k_MOrder_init109 z od o1 o2 o3) sz) [(od, .inr (18, [.int 109, .int o1, .int o2, .int o3, .int 119, .int 0]))] [] t) (va_A (wd_k_MOrder_init109 z od o1 o2 o3) sz)) 0 0 (va_A (wd_k_MOrder_init109 z od o1 o2 o3) sz) := by
  refine Met.ofW (cc := cX14_init) (maxL := 5) (ret := none) (by decide) rfl ?_
  intro p e s m args below meth c s₁ B hml hv
  obtain ⟨rfl, hsz, hP, hK, hD0, hM⟩ := hv
  have hx := B.exec
  have hb := B.bytes
  have hr := B.returns
  have hts := atoms_spec (ws := wsX14_init) B.pre
  have hown : s.vm.findClass RX14 = some m.cls := findClass_of_methodNamed B.named
  have hlocks := B.notSynchronized
  have hin : meth.name = "<init>" := (name_of_methodNamed B.named B.method).1
  have hiX14 : ∀ w ∈ u_ws RX14 TX14 6, w ∈ wsX14_init := by decide +kernel
  have hobj : Cond.code objectInit ⟨#[0xb1]⟩ 1 none ∈ wsX14_init := by decide +kernel
  subst hsz
  have hD := hD0.self (sz := s.heap.size)
  generalize hAe : va_A (wd_k_MOrder_init109 z od o1 o2 o3) s.heap.size = A at hD hM ⊢
  have hA : ∀ q : Nat, s.heap.size ≤ q → A q := fun q h => by rw [← hAe]; exact Or.inr h
  have hS : va_S A s.heap s.heap [] := va_S.rf
  have hP : va_P (dC, dI) vwCl [(od, .inr (18, [.int 0, .int 0, .int 0, .int 0, .int 0, .int 0]))] s.heap := hP
  have hD : va_D A [(od, .inr (18, [.int 0, .int 0, .int 0, .int 0, .int 0, .int 0]))] := hD
  have hl := lv_entry ([.ref od, .int 109, .int o1, .int o2, .int o3]) (n := 5) (Nat.le_of_ble_eq_true rfl)
  rw [lg_entry_eq]
  generalize (lg_sl ([.ref od, .int 109, .int o1, .int o2, .int o3]) ++ List.replicate (5 - (lg_sl ([.ref od, .int 109, .int o1, .int o2, .int o3])).length) Slot.unset).toArray = ls at hl ⊢
  have hl : lv_has ls 5 [(0, .ref od), (1, .int 109), (2, .int o1), (3, .int o2), (4, .int o3)] := hl
  refine lv_aload_n hx hb dX14_init_0 rfl (lv_at hl 0 rfl) ?_
  refine W.objInit hx hb hown (hts (.methodLink RX14 1 objectInit) (by decide +kernel)) (hts (.instanceMethod objectInit) (by decide +kernel)) (hts _ hobj) rfl (by rw [hml]; exact hl.1) rfl dX14_init_1 (Nat.le_of_ble_eq_true rfl) (Nat.le_of_ble_eq_true rfl) ?_
  refine W.eq (g2 := F0 m 4 ls []) rfl ?_
  refine lv_aload_n hx hb dX14_init_4 rfl (lv_at hl 0 rfl) ?_
  refine lv_bipush (v := 119) hx hb dX14_init_5 (by decide) ?_
  refine va_put (D := (dC, dI)) (ci := 18) (v := .int 119) (ty := .char) (C := RX14) (T := TX14) (N := 6) hx hb hts hiX14 tyX14 tyX14_ok nmX14 hown hK hP hD hS 0 rfl rfl 4 (by decide) (hts (.fieldLink RX14 7 "SquareRigModel$Order" "state" "C") (by decide +kernel)) (fun _ h9 => h9) rfl (by decide +kernel) (by decide +kernel) (by decide +kernel) (Nat.le_of_ble_eq_true rfl) dX14_init_7 (fun H locs hP hD hS => ?_)
  have hP : va_P (dC, dI) vwCl [(od, .inr (18, [.int 0, .int 0, .int 0, .int 0, .int 119, .int 0]))] H := hP
  have hD : va_D A [(od, .inr (18, [.int 0, .int 0, .int 0, .int 0, .int 119, .int 0]))] := hD
  refine lv_aload_n hx hb dX14_init_10 rfl (lv_at hl 0 rfl) ?_
  refine lv_iload_n hx hb dX14_init_11 rfl (lv_at hl 1 rfl) ?_
  refine va_putF (D := (dC, dI)) (ci := 18) (v := .int 109) (ty := .char) (C := RX14) (T := TX14) (N := 6) hx hb hts hiX14 tyX14 tyX14_ok nmX14 hown hK hP hD hS 0 rfl rfl 0 (by decide) (hts (.fieldLink RX14 13 "SquareRigModel$Order" "kind" "C") (by decide +kernel)) (fun _ h9 => h9) rfl hin rfl (by decide +kernel) (by decide +kernel) (by decide +kernel) (Nat.le_of_ble_eq_true rfl) dX14_init_12 (fun H locs hP hD hS => ?_)
  have hP : va_P (dC, dI) vwCl [(od, .inr (18, [.int 109, .int 0, .int 0, .int 0, .int 119, .int 0]))] H := hP
  have hD : va_D A [(od, .inr (18, [.int 109, .int 0, .int 0, .int 0, .int 119, .int 0]))] := hD
  refine lv_aload_n hx hb dX14_init_15 rfl (lv_at hl 0 rfl) ?_
  refine lv_iload_n hx hb dX14_init_16 rfl (lv_at hl 2 rfl) ?_
  refine va_putF (D := (dC, dI)) (ci := 18) (v := .int o1) (ty := .int) (C := RX14) (T := TX14) (N := 6) hx hb hts hiX14 tyX14 tyX14_ok nmX14 hown hK hP hD hS 0 rfl rfl 1 (by decide) (hts (.fieldLink RX14 16 "SquareRigModel$Order" "what" "I") (by decide +kernel)) (fun _ h9 => h9) rfl hin rfl (by decide +kernel) rfl rfl (Nat.le_of_ble_eq_true rfl) dX14_init_17 (fun H locs hP hD hS => ?_)
  have hP : va_P (dC, dI) vwCl [(od, .inr (18, [.int 109, .int o1, .int 0, .int 0, .int 119, .int 0]))] H := hP
  have hD : va_D A [(od, .inr (18, [.int 109, .int o1, .int 0, .int 0, .int 119, .int 0]))] := hD
  refine lv_aload_n hx hb dX14_init_20 rfl (lv_at hl 0 rfl) ?_
  refine lv_iload_n hx hb dX14_init_21 rfl (lv_at hl 3 rfl) ?_
  refine va_putF (D := (dC, dI)) (ci := 18) (v := .int o2) (ty := .int) (C := RX14) (T := TX14) (N := 6) hx hb hts hiX14 tyX14 tyX14_ok nmX14 hown hK hP hD hS 0 rfl rfl 2 (by decide) (hts (.fieldLink RX14 20 "SquareRigModel$Order" "how" "I") (by decide +kernel)) (fun _ h9 => h9) rfl hin rfl (by decide +kernel) rfl rfl (Nat.le_of_ble_eq_true rfl) dX14_init_22 (fun H locs hP hD hS => ?_)
  have hP : va_P (dC, dI) vwCl [(od, .inr (18, [.int 109, .int o1, .int o2, .int 0, .int 119, .int 0]))] H := hP
  have hD : va_D A [(od, .inr (18, [.int 109, .int o1, .int o2, .int 0, .int 119, .int 0]))] := hD
  refine lv_aload_n hx hb dX14_init_25 rfl (lv_at hl 0 rfl) ?_
  refine lv_iload hx hb dX14_init_26 (lv_at hl 4 rfl) ?_
  refine va_putF (D := (dC, dI)) (ci := 18) (v := .int o3) (ty := .int) (C := RX14) (T := TX14) (N := 6) hx hb hts hiX14 tyX14 tyX14_ok nmX14 hown hK hP hD hS 0 rfl rfl 3 (by decide) (hts (.fieldLink RX14 23 "SquareRigModel$Order" "given" "I") (by decide +kernel)) (fun _ h9 => h9) rfl hin rfl (by decide +kernel) rfl rfl (Nat.le_of_ble_eq_true rfl) dX14_init_28 (fun H locs hP hD hS => ?_)
  have hP : va_P (dC, dI) vwCl [(od, .inr (18, [.int 109, .int o1, .int o2, .int o3, .int 119, .int 0]))] H := hP
  have hD : va_D A [(od, .inr (18, [.int 109, .int o1, .int o2, .int o3, .int 119, .int 0]))] := hD
  exact W.vret hx hb hr (fun t ht hW => ⟨⟨(), rfl, trivial, kB_end (w9 := [(od, .inr (18, [.int 109, .int o1, .int o2, .int o3, .int 119, .int 0]))]) (t9 := []) hP hK hD [0] [] rfl (by decide) rfl rfl t ht hW⟩, hS.F ht⟩) hS.2.2 dX14_init_31
abbrev wd_k_MOrder_init114 (z : Nat → Nat) (od : Nat) (o1 : Int32) (o2 : Int32) (o3 : Int32) : va_W := [(od, .inr (18, [.int 0, .int 0, .int 0, .int 0, .int 0, .int 0]))]
set_option maxHeartbeats 4000000 in
set_option maxRecDepth 100000 in
theorem k_MOrder_init114 (l : Launch) (dC : Nat → ClassId) (dI : Nat → Nat → Nat) (z zK zV : Nat → Nat) (od : Nat) (o1 : Int32) (o2 : Int32) (o3 : Int32) (sz : Nat)  : Met l yX14_init wsX14_init ({ frames := 1, cells := 0, slots := 0, locals := 12 }) (kP dC dI z zK zV [.ref od, .int 114, .int o1, .int o2, .int o3] sz (wd_k_MOrder_init114 z od o1 o2 o3) []) (va_Qv (fun _ : Unit => True) (fun _ t => kB (dC, dI) (va_A (wd_k_MOrder_init114 z od o1 o2 o3) sz) [(od, .inr (18, [.int 114, .int o1, .int o2, .int o3, .int 119, .int 0]))] [] t) (va_A (wd_k_MOrder_init114 z od o1 o2 o3) sz)) 0 0 (va_A (wd_k_MOrder_init114 z od o1 o2 o3) sz) := by
  refine Met.ofW (cc := cX14_init) (maxL := 5) (ret := none) (by decide) rfl ?_
  intro p e s m args below meth c s₁ B hml hv
  obtain ⟨rfl, hsz, hP, hK, hD0, hM⟩ := hv
  have hx := B.exec
  have hb := B.bytes
  have hr := B.returns
  have hts := atoms_spec (ws := wsX14_init) B.pre
  have hown : s.vm.findClass RX14 = some m.cls := findClass_of_methodNamed B.named
  have hlocks := B.notSynchronized
  have hin : meth.name = "<init>" := (name_of_methodNamed B.named B.method).1
  have hiX14 : ∀ w ∈ u_ws RX14 TX14 6, w ∈ wsX14_init := by decide +kernel
  have hobj : Cond.code objectInit ⟨#[0xb1]⟩ 1 none ∈ wsX14_init := by decide +kernel
  subst hsz
  have hD := hD0.self (sz := s.heap.size)
  generalize hAe : va_A (wd_k_MOrder_init114 z od o1 o2 o3) s.heap.size = A at hD hM ⊢
  have hA : ∀ q : Nat, s.heap.size ≤ q → A q := fun q h => by rw [← hAe]; exact Or.inr h
  have hS : va_S A s.heap s.heap [] := va_S.rf
  have hP : va_P (dC, dI) vwCl [(od, .inr (18, [.int 0, .int 0, .int 0, .int 0, .int 0, .int 0]))] s.heap := hP
  have hD : va_D A [(od, .inr (18, [.int 0, .int 0, .int 0, .int 0, .int 0, .int 0]))] := hD
  have hl := lv_entry ([.ref od, .int 114, .int o1, .int o2, .int o3]) (n := 5) (Nat.le_of_ble_eq_true rfl)
  rw [lg_entry_eq]
  generalize (lg_sl ([.ref od, .int 114, .int o1, .int o2, .int o3]) ++ List.replicate (5 - (lg_sl ([.ref od, .int 114, .int o1, .int o2, .int o3])).length) Slot.unset).toArray = ls at hl ⊢
  have hl : lv_has ls 5 [(0, .ref od), (1, .int 114), (2, .int o1), (3, .int o2), (4, .int o3)] := hl
  refine lv_aload_n hx hb dX14_init_0 rfl (lv_at hl 0 rfl) ?_
  refine W.objInit hx hb hown (hts (.methodLink RX14 1 objectInit) (by decide +kernel)) (hts (.instanceMethod objectInit) (by decide +kernel)) (hts _ hobj) rfl (by rw [hml]; exact hl.1) rfl dX14_init_1 (Nat.le_of_ble_eq_true rfl) (Nat.le_of_ble_eq_true rfl) ?_
  refine W.eq (g2 := F0 m 4 ls []) rfl ?_
  refine lv_aload_n hx hb dX14_init_4 rfl (lv_at hl 0 rfl) ?_
  refine lv_bipush (v := 119) hx hb dX14_init_5 (by decide) ?_
  refine va_put (D := (dC, dI)) (ci := 18) (v := .int 119) (ty := .char) (C := RX14) (T := TX14) (N := 6) hx hb hts hiX14 tyX14 tyX14_ok nmX14 hown hK hP hD hS 0 rfl rfl 4 (by decide) (hts (.fieldLink RX14 7 "SquareRigModel$Order" "state" "C") (by decide +kernel)) (fun _ h9 => h9) rfl (by decide +kernel) (by decide +kernel) (by decide +kernel) (Nat.le_of_ble_eq_true rfl) dX14_init_7 (fun H locs hP hD hS => ?_)
  have hP : va_P (dC, dI) vwCl [(od, .inr (18, [.int 0, .int 0, .int 0, .int 0, .int 119, .int 0]))] H := hP
  have hD : va_D A [(od, .inr (18, [.int 0, .int 0, .int 0, .int 0, .int 119, .int 0]))] := hD
  refine lv_aload_n hx hb dX14_init_10 rfl (lv_at hl 0 rfl) ?_
  refine lv_iload_n hx hb dX14_init_11 rfl (lv_at hl 1 rfl) ?_
  refine va_putF (D := (dC, dI)) (ci := 18) (v := .int 114) (ty := .char) (C := RX14) (T := TX14) (N := 6) hx hb hts hiX14 tyX14 tyX14_ok nmX14 hown hK hP hD hS 0 rfl rfl 0 (by decide) (hts (.fieldLink RX14 13 "SquareRigModel$Order" "kind" "C") (by decide +kernel)) (fun _ h9 => h9) rfl hin rfl (by decide +kernel) (by decide +kernel) (by decide +kernel) (Nat.le_of_ble_eq_true rfl) dX14_init_12 (fun H locs hP hD hS => ?_)
  have hP : va_P (dC, dI) vwCl [(od, .inr (18, [.int 114, .int 0, .int 0, .int 0, .int 119, .int 0]))] H := hP
  have hD : va_D A [(od, .inr (18, [.int 114, .int 0, .int 0, .int 0, .int 119, .int 0]))] := hD
  refine lv_aload_n hx hb dX14_init_15 rfl (lv_at hl 0 rfl) ?_
  refine lv_iload_n hx hb dX14_init_16 rfl (lv_at hl 2 rfl) ?_
  refine va_putF (D := (dC, dI)) (ci := 18) (v := .int o1) (ty := .int) (C := RX14) (T := TX14) (N := 6) hx hb hts hiX14 tyX14 tyX14_ok nmX14 hown hK hP hD hS 0 rfl rfl 1 (by decide) (hts (.fieldLink RX14 16 "SquareRigModel$Order" "what" "I") (by decide +kernel)) (fun _ h9 => h9) rfl hin rfl (by decide +kernel) rfl rfl (Nat.le_of_ble_eq_true rfl) dX14_init_17 (fun H locs hP hD hS => ?_)
  have hP : va_P (dC, dI) vwCl [(od, .inr (18, [.int 114, .int o1, .int 0, .int 0, .int 119, .int 0]))] H := hP
  have hD : va_D A [(od, .inr (18, [.int 114, .int o1, .int 0, .int 0, .int 119, .int 0]))] := hD
  refine lv_aload_n hx hb dX14_init_20 rfl (lv_at hl 0 rfl) ?_
  refine lv_iload_n hx hb dX14_init_21 rfl (lv_at hl 3 rfl) ?_
  refine va_putF (D := (dC, dI)) (ci := 18) (v := .int o2) (ty := .int) (C := RX14) (T := TX14) (N := 6) hx hb hts hiX14 tyX14 tyX14_ok nmX14 hown hK hP hD hS 0 rfl rfl 2 (by decide) (hts (.fieldLink RX14 20 "SquareRigModel$Order" "how" "I") (by decide +kernel)) (fun _ h9 => h9) rfl hin rfl (by decide +kernel) rfl rfl (Nat.le_of_ble_eq_true rfl) dX14_init_22 (fun H locs hP hD hS => ?_)
  have hP : va_P (dC, dI) vwCl [(od, .inr (18, [.int 114, .int o1, .int o2, .int 0, .int 119, .int 0]))] H := hP
  have hD : va_D A [(od, .inr (18, [.int 114, .int o1, .int o2, .int 0, .int 119, .int 0]))] := hD
  refine lv_aload_n hx hb dX14_init_25 rfl (lv_at hl 0 rfl) ?_
  refine lv_iload hx hb dX14_init_26 (lv_at hl 4 rfl) ?_
  refine va_putF (D := (dC, dI)) (ci := 18) (v := .int o3) (ty := .int) (C := RX14) (T := TX14) (N := 6) hx hb hts hiX14 tyX14 tyX14_ok nmX14 hown hK hP hD hS 0 rfl rfl 3 (by decide) (hts (.fieldLink RX14 23 "SquareRigModel$Order" "given" "I") (by decide +kernel)) (fun _ h9 => h9) rfl hin rfl (by decide +kernel) rfl rfl (Nat.le_of_ble_eq_true rfl) dX14_init_28 (fun H locs hP hD hS => ?_)
  have hP : va_P (dC, dI) vwCl [(od, .inr (18, [.int 114, .int o1, .int o2, .int o3, .int 119, .int 0]))] H := hP
  have hD : va_D A [(od, .inr (18, [.int 114, .int o1, .int o2, .int o3, .int 119, .int 0]))] := hD
  exact W.vret hx hb hr (fun t ht hW => ⟨⟨(), rfl, trivial, kB_end (w9 := [(od, .inr (18, [.int 114, .int o1, .int o2, .int o3, .int 119, .int 0]))]) (t9 := []) hP hK hD [0] [] rfl (by decide) rfl rfl t ht hW⟩, hS.F ht⟩) hS.2.2 dX14_init_31
abbrev wd_k_m_order_s0 (z : Nat → Nat) (p2 : Int32) (mo : Nat) (ti : Nat) (si : Nat) (lo : Nat) (lh : Nat) (lk : Nat) (sp : Nat) (st : Nat) (pa : Nat) (br : Nat) (sg : Nat) (th : Int32) : va_W := [(mo, .inr (19, [.int 0, .int 0, .int 0, .int 0, .int 0, .int 0, .int 0, .ref ti, .ref si, .ref lo, .ref lh, .ref lk, .ref sp, .ref st, .ref pa, .ref br, .ref sg, .int 0, .int 0, .int 0, .int 0, .int 0, .int 0, .long 0, .long 0, .long 0, .long 0, .int th])), (lo, .inr (3, [.int 0, .ref (z 0), .int 0]))]
set_option maxHeartbeats 4000000 in
set_option maxRecDepth 100000 in
theorem k_m_order_s0 (l : Launch) (dC : Nat → ClassId) (dI : Nat → Nat → Nat) (z zK zV : Nat → Nat) (p2 : Int32) (mo : Nat) (ti : Nat) (si : Nat) (lo : Nat) (lh : Nat) (lk : Nat) (sp : Nat) (st : Nat) (pa : Nat) (br : Nat) (sg : Nat) (th : Int32) (sz : Nat) (hg0 : (0 : Int32) ≤ p2 ∧ p2 ≤ 2) : Met l yX15_order wsX15_order ({ frames := 5, cells := 2, slots := 16, locals := 101 }) (kP dC dI z zK zV [.ref mo, .int 115, .int 0, .int p2] sz (wd_k_m_order_s0 z p2 mo ti si lo lh lk sp st pa br sg th) []) (va_Qi (fun (r : Int32) (_ : Unit) => 0 = r) (fun _ t => kB (dC, dI) (va_A (wd_k_m_order_s0 z p2 mo ti si lo lh lk sp st pa br sg th) sz) [(mo, .inr (19, [.int 0, .int 0, .int 0, .int 0, .int 0, .int 0, .int 0, .ref ti, .ref si, .ref lo, .ref lh, .ref lk, .ref sp, .ref st, .ref pa, .ref br, .ref sg, .int 0, .int 0, .int 0, .int 0, .int 0, .int 0, .long 0, .long 0, .long 0, .long 0, .int 0]))] [] t) (va_A (wd_k_m_order_s0 z p2 mo ti si lo lh lk sp st pa br sg th) sz)) 2 16 (va_A (wd_k_m_order_s0 z p2 mo ti si lo lh lk sp st pa br sg th) sz) := by
  refine Met.ofW (cc := cX15_order) (maxL := 6) (ret := (some .int)) (by decide) rfl ?_
  intro p e s m args below meth c s₁ B hml hv
  obtain ⟨rfl, hsz, hP, hK, hD0, hM⟩ := hv
  have hx := B.exec
  have hb := B.bytes
  have hr := B.returns
  have hts := atoms_spec (ws := wsX15_order) B.pre
  have hown : s.vm.findClass RX15 = some m.cls := findClass_of_methodNamed B.named
  have hlocks := B.notSynchronized
  have hiX15 : ∀ w ∈ u_ws RX15 TX15 28, w ∈ wsX15_order := by decide +kernel
  have hiX14 : ∀ w ∈ u_ws RX14 TX14 6, w ∈ wsX15_order := by decide +kernel
  subst hsz
  have hD := hD0.self (sz := s.heap.size)
  generalize hAe : va_A (wd_k_m_order_s0 z p2 mo ti si lo lh lk sp st pa br sg th) s.heap.size = A at hD hM ⊢
  have hA : ∀ q : Nat, s.heap.size ≤ q → A q := fun q h => by rw [← hAe]; exact Or.inr h
  have hS : va_S A s.heap s.heap [] := va_S.rf
  have hP : va_P (dC, dI) vwCl [(mo, .inr (19, [.int 0, .int 0, .int 0, .int 0, .int 0, .int 0, .int 0, .ref ti, .ref si, .ref lo, .ref lh, .ref lk, .ref sp, .ref st, .ref pa, .ref br, .ref sg, .int 0, .int 0, .int 0, .int 0, .int 0, .int 0, .long 0, .long 0, .long 0, .long 0, .int th])), (lo, .inr (3, [.int 0, .ref (z 0), .int 0]))] s.heap := hP
  have hD : va_D A [(mo, .inr (19, [.int 0, .int 0, .int 0, .int 0, .int 0, .int 0, .int 0, .ref ti, .ref si, .ref lo, .ref lh, .ref lk, .ref sp, .ref st, .ref pa, .ref br, .ref sg, .int 0, .int 0, .int 0, .int 0, .int 0, .int 0, .long 0, .long 0, .long 0, .long 0, .int th])), (lo, .inr (3, [.int 0, .ref (z 0), .int 0]))] := hD
  have hl := lv_entry ([.ref mo, .int 115, .int 0, .int p2]) (n := 6) (Nat.le_of_ble_eq_true rfl)
  rw [lg_entry_eq]
  generalize (lg_sl ([.ref mo, .int 115, .int 0, .int p2]) ++ List.replicate (6 - (lg_sl ([.ref mo, .int 115, .int 0, .int p2])).length) Slot.unset).toArray = ls at hl ⊢
  have hl : lv_has ls 6 [(0, .ref mo), (1, .int 115), (2, .int 0), (3, .int p2)] := hl
  refine lv_iload_n hx hb dX15_order_0 rfl (lv_at hl 1 rfl) ?_
  refine lv_bipush (v := 115) hx hb dX15_order_1 (by decide) ?_
  refine lv_icmp_eq (tgt := 12) hx hb dX15_order_3 (by decide) (fun _ => ?_) (fun c_ => absurd (by decide +kernel) c_)
  refine lv_iconst (v := 1) hx hb dX15_order_12 (by decide) ?_
  refine lv_goto (tgt := 17) hx hb dX15_order_13 (by decide) ?_
  refine lv_istore (lv' := [(4, .int 1), (0, .ref mo), (1, .int 115), (2, .int 0), (3, .int p2)]) hx hb dX15_order_17 hl (by decide) rfl (fun ls hl => ?_)
  refine va_ldcS hx hb hown (hM.2.2.1 0 _ rfl) dX15_order_19 ?_
  refine lv_iload_n hx hb dX15_order_21 rfl (lv_at hl 2 rfl) ?_
  have hPc := hP.sub (ws' := []) [] rfl
  have hDc := hD.sub (ws' := []) [] (by decide) rfl
  have hKc := hK.sub (tys' := []) [] rfl
  have hFc := va_free (wc := []) hD hS hA [] rfl
  refine va_calli (va_runV (As := [.int 115]) (rest := []) ⟨hx, hb, hml, hown, hts⟩ (k_ix3_115 l dC dI z zK zV  s.heap.size) (cwV 1 hts gX15_order_J0_indexOf_0f7a4 rfl rfl rfl (by decide +kernel) ⟨Nat.le_of_ble_eq_true rfl, Nat.le_of_ble_eq_true rfl⟩) ⟨kP_blind, vk_recv (i := 0) hM.2.2.2.1 (by decide) hS, kP_go hPc hKc hDc hFc hM hS⟩ rfl rfl hl.1 rfl (lv_room (Nat.le_of_ble_eq_true rfl)) dX15_order_22 ⟨Nat.le_of_ble_eq_true rfl, Nat.le_of_ble_eq_true rfl⟩) hS (fun q _ h => hFc q h) hFc (fun r1 u t H1 locs ht hvm hw hB hz1 hk1 hS => ?_)
  obtain ⟨hP, hD, hK⟩ := kJ (wr := [(mo, .inr (19, [.int 0, .int 0, .int 0, .int 0, .int 0, .int 0, .int 0, .ref ti, .ref si, .ref lo, .ref lh, .ref lk, .ref sp, .ref st, .ref pa, .ref br, .ref sg, .int 0, .int 0, .int 0, .int 0, .int 0, .int 0, .long 0, .long 0, .long 0, .long 0, .int th])), (lo, .inr (3, [.int 0, .ref (z 0), .int 0]))]) (w1 := []) (t1 := []) hP hD hK [] [0, 1] rfl rfl (by decide) (by decide) hk1 hFc ht hvm hB
  generalize H1 = H at hP hS ⊢
  have hP : va_P (dC, dI) vwCl [(mo, .inr (19, [.int 0, .int 0, .int 0, .int 0, .int 0, .int 0, .int 0, .ref ti, .ref si, .ref lo, .ref lh, .ref lk, .ref sp, .ref st, .ref pa, .ref br, .ref sg, .int 0, .int 0, .int 0, .int 0, .int 0, .int 0, .long 0, .long 0, .long 0, .long 0, .int th])), (lo, .inr (3, [.int 0, .ref (z 0), .int 0]))] H := hP
  have hD : va_D A [(mo, .inr (19, [.int 0, .int 0, .int 0, .int 0, .int 0, .int 0, .int 0, .ref ti, .ref si, .ref lo, .ref lh, .ref lk, .ref sp, .ref st, .ref pa, .ref br, .ref sg, .int 0, .int 0, .int 0, .int 0, .int 0, .int 0, .long 0, .long 0, .long 0, .long 0, .int th])), (lo, .inr (3, [.int 0, .ref (z 0), .int 0]))] := hD
  have hK : va_K (dC, dI) vwCl [] s := hK
  obtain rfl : 0 = r1 := hw
  refine lv_if_lt (tgt := 55) hx hb dX15_order_25 (by decide) (fun c_ => absurd c_ (by decide +kernel)) (fun _ => ?_)
  refine lv_iload_n hx hb dX15_order_28 rfl (lv_at hl 3 rfl) ?_
  refine lv_i2l (v := 0) hx hb dX15_order_29 (by decide +kernel) ?_
  refine lv_lconst (v := 0) hx hb dX15_order_30 (by decide) ?_
  refine lv_iload hx hb dX15_order_31 (lv_at hl 0 rfl) ?_
  refine lv_if_eq (tgt := 42) hx hb dX15_order_33 (by decide) (fun c_ => absurd c_ (by decide +kernel)) (fun _ => ?_)
  refine lv_ldc2 (v := 8) hx hb hown (hts (.constantLong RX15 148 8) (by decide +kernel)) dX15_order_36 ?_
  refine lv_goto (tgt := 45) hx hb dX15_order_39 (by decide) ?_
  have hPc := hP.sub (ws' := []) [] rfl
  have hDc := hD.sub (ws' := []) [] (by decide) rfl
  have hKc := hK.sub (tys' := []) [] rfl
  have hFc := va_free (wc := []) hD hS hA [] rfl
  refine va_calli (va_runS (As := [.long 0, .long 0, .long 8]) (rest := []) ⟨hx, hb, hml, hown, hts⟩ (k_in l dC dI z zK zV 0 0 8 H.size) (va_cwS 3 hts gX15_order_X15_in rfl rfl rfl (by decide +kernel) ⟨Nat.le_of_ble_eq_true rfl, Nat.le_of_ble_eq_true rfl⟩) ⟨kP_blind, kP_go hPc hKc hDc hFc hM hS⟩ rfl rfl hl.1 rfl (lv_room (Nat.le_of_ble_eq_true rfl)) dX15_order_45 ⟨Nat.le_of_ble_eq_true rfl, Nat.le_of_ble_eq_true rfl⟩) hS (fun q _ h => hFc q h) hFc (fun r2 u t H1 locs ht hvm hw hB hz1 hk1 hS => ?_)
  obtain ⟨hP, hD, hK⟩ := kJ (wr := [(mo, .inr (19, [.int 0, .int 0, .int 0, .int 0, .int 0, .int 0, .int 0, .ref ti, .ref si, .ref lo, .ref lh, .ref lk, .ref sp, .ref st, .ref pa, .ref br, .ref sg, .int 0, .int 0, .int 0, .int 0, .int 0, .int 0, .long 0, .long 0, .long 0, .long 0, .int th])), (lo, .inr (3, [.int 0, .ref (z 0), .int 0]))]) (w1 := []) (t1 := []) hP hD hK [] [0, 1] rfl rfl (by decide) (by decide) hk1 hFc ht hvm hB
  generalize H1 = H at hP hS ⊢
  have hP : va_P (dC, dI) vwCl [(mo, .inr (19, [.int 0, .int 0, .int 0, .int 0, .int 0, .int 0, .int 0, .ref ti, .ref si, .ref lo, .ref lh, .ref lk, .ref sp, .ref st, .ref pa, .ref br, .ref sg, .int 0, .int 0, .int 0, .int 0, .int 0, .int 0, .long 0, .long 0, .long 0, .long 0, .int th])), (lo, .inr (3, [.int 0, .ref (z 0), .int 0]))] H := hP
  have hD : va_D A [(mo, .inr (19, [.int 0, .int 0, .int 0, .int 0, .int 0, .int 0, .int 0, .ref ti, .ref si, .ref lo, .ref lh, .ref lk, .ref sp, .ref st, .ref pa, .ref br, .ref sg, .int 0, .int 0, .int 0, .int 0, .int 0, .int 0, .long 0, .long 0, .long 0, .long 0, .int th])), (lo, .inr (3, [.int 0, .ref (z 0), .int 0]))] := hD
  have hK : va_K (dC, dI) vwCl [] s := hK
  obtain rfl : (if 0 ≤ 0 ∧ 0 ≤ 8 then (1 : Int32) else 0) = r2 := hw
  refine kc_i (y := 1) (by decide +kernel) ?_
  refine lv_if_eq (tgt := 55) hx hb dX15_order_48 (by decide) (fun c_ => absurd c_ (by decide +kernel)) (fun _ => ?_)
  refine lv_iconst (v := 1) hx hb dX15_order_51 (by decide) ?_
  refine lv_goto (tgt := 56) hx hb dX15_order_52 (by decide) ?_
  refine lv_istore (lv' := [(5, .int 1), (4, .int 1), (0, .ref mo), (1, .int 115), (2, .int 0), (3, .int p2)]) hx hb dX15_order_56 hl (by decide) rfl (fun ls hl => ?_)
  refine lv_iload hx hb dX15_order_58 (lv_at hl 0 rfl) ?_
  refine lv_if_eq (tgt := 115) hx hb dX15_order_60 (by decide) (fun c_ => absurd c_ (by decide +kernel)) (fun _ => ?_)
  refine lv_iload_n hx hb dX15_order_63 rfl (lv_at hl 3 rfl) ?_
  refine lv_bipush (v := 115) hx hb dX15_order_64 (by decide) ?_
  refine lv_icmp_ne (tgt := 84) hx hb dX15_order_66 (by decide) (fun c_ => absurd (by decide +kernel) c_) (fun _ => ?_)
  refine lv_iload_n hx hb dX15_order_69 rfl (lv_at hl 5 rfl) ?_
  refine lv_i2l (v := p2.toInt64) hx hb dX15_order_70 rfl ?_
  refine lv_lconst (v := 0) hx hb dX15_order_71 (by decide) ?_
  refine lv_ldc2 (v := 2) hx hb hown (hts (.constantLong RX15 150 2) (by decide +kernel)) dX15_order_72 ?_
  have hPc := hP.sub (ws' := []) [] rfl
  have hDc := hD.sub (ws' := []) [] (by decide) rfl
  have hKc := hK.sub (tys' := []) [] rfl
  have hFc := va_free (wc := []) hD hS hA [] rfl
  refine va_calli (va_runS (As := [.long p2.toInt64, .long 0, .long 2]) (rest := []) ⟨hx, hb, hml, hown, hts⟩ (k_in l dC dI z zK zV p2.toInt64 0 2 H.size) (va_cwS 3 hts gX15_order_X15_in rfl rfl rfl (by decide +kernel) ⟨Nat.le_of_ble_eq_true rfl, Nat.le_of_ble_eq_true rfl⟩) ⟨kP_blind, kP_go hPc hKc hDc hFc hM hS⟩ rfl rfl hl.1 rfl (lv_room (Nat.le_of_ble_eq_true rfl)) dX15_order_75 ⟨Nat.le_of_ble_eq_true rfl, Nat.le_of_ble_eq_true rfl⟩) hS (fun q _ h => hFc q h) hFc (fun r3 u t H1 locs ht hvm hw hB hz1 hk1 hS => ?_)
  obtain ⟨hP, hD, hK⟩ := kJ (wr := [(mo, .inr (19, [.int 0, .int 0, .int 0, .int 0, .int 0, .int 0, .int 0, .ref ti, .ref si, .ref lo, .ref lh, .ref lk, .ref sp, .ref st, .ref pa, .ref br, .ref sg, .int 0, .int 0, .int 0, .int 0, .int 0, .int 0, .long 0, .long 0, .long 0, .long 0, .int th])), (lo, .inr (3, [.int 0, .ref (z 0), .int 0]))]) (w1 := []) (t1 := []) hP hD hK [] [0, 1] rfl rfl (by decide) (by decide) hk1 hFc ht hvm hB
  generalize H1 = H at hP hS ⊢
  have hP : va_P (dC, dI) vwCl [(mo, .inr (19, [.int 0, .int 0, .int 0, .int 0, .int 0, .int 0, .int 0, .ref ti, .ref si, .ref lo, .ref lh, .ref lk, .ref sp, .ref st, .ref pa, .ref br, .ref sg, .int 0, .int 0, .int 0, .int 0, .int 0, .int 0, .long 0, .long 0, .long 0, .long 0, .int th])), (lo, .inr (3, [.int 0, .ref (z 0), .int 0]))] H := hP
  have hD : va_D A [(mo, .inr (19, [.int 0, .int 0, .int 0, .int 0, .int 0, .int 0, .int 0, .ref ti, .ref si, .ref lo, .ref lh, .ref lk, .ref sp, .ref st, .ref pa, .ref br, .ref sg, .int 0, .int 0, .int 0, .int 0, .int 0, .int 0, .long 0, .long 0, .long 0, .long 0, .int th])), (lo, .inr (3, [.int 0, .ref (z 0), .int 0]))] := hD
  have hK : va_K (dC, dI) vwCl [] s := hK
  obtain rfl : (if 0 ≤ (p2.toInt64) ∧ (p2.toInt64) ≤ 2 then (1 : Int32) else 0) = r3 := hw
  refine kc_i (y := (if 0 ≤ p2 ∧ p2 ≤ 2 then (1 : Int32) else 0)) (k_inP (a := 0) (b := 2) (by decide +kernel) (by decide +kernel)) ?_
  refine lv_if_eq (tgt := 115) hx hb dX15_order_78 (by decide) (fun c_ => absurd c_ (k_ifp hg0)) (fun _ => ?_)
  refine lv_goto (tgt := 111) hx hb dX15_order_81 (by decide) ?_
  refine lv_iconst (v := 1) hx hb dX15_order_111 (by decide) ?_
  refine lv_goto (tgt := 116) hx hb dX15_order_112 (by decide) ?_
  refine lv_istore (lv' := [(5, .int 1), (4, .int 1), (0, .ref mo), (1, .int 115), (2, .int 0), (3, .int p2)]) hx hb dX15_order_116 hl (by decide) rfl (fun ls hl => ?_)
  refine lv_aload_n hx hb dX15_order_118 rfl (lv_at hl 2 rfl) ?_
  refine lv_iload hx hb dX15_order_119 (lv_at hl 0 rfl) ?_
  refine lv_if_ne (tgt := 128) hx hb dX15_order_121 (by decide) (fun _ => ?_) (fun c_ => absurd c_ (by decide +kernel))
  refine lv_aload_n hx hb dX15_order_128 rfl (lv_at hl 2 rfl) ?_
  refine va_get (D := (dC, dI)) (ci := 19) (v := .ref lo) (C := RX15) (T := TX15) (N := 28) hx hb hts hiX15 hown hK hP 0 rfl rfl 9 (by decide) (hts (.fieldLink RX15 19 "SquareRigModel" "orders" "Ljava/util/List;") (by decide +kernel)) (fun _ h9 => h9) rfl dX15_order_129 ?_
  have hPc := hP.sub (ws' := [(lo, .inr (3, [.int 0, .ref (z 0), .int 0]))]) [1] rfl
  have hDc := hD.sub (ws' := [(lo, .inr (3, [.int 0, .ref (z 0), .int 0]))]) [1] (by decide) rfl
  have hKc := hK.sub (tys' := []) [] rfl
  have hFc := va_free (wc := [(lo, .inr (3, [.int 0, .ref (z 0), .int 0]))]) hD hS hA [1] rfl
  refine va_callFi (va_runF (hK.1 3 _ rfl).2 (As := []) (rest := [.ref mo]) ⟨hx, hb, hml, hown, hts⟩ (k_size0 l dC dI z zK zV lo H.size) (va_cwF 0 hts gX15_order_Jx4a65c_size_8abf5_f156Jx4a65c rfl rfl rfl hM.2.2.2.2.2.2.2.2.2.2.1.2.2.1 (by decide +kernel) ⟨Nat.le_of_ble_eq_true rfl, Nat.le_of_ble_eq_true rfl⟩) ⟨kP_blind, va_recv hKc hPc (ci := 3) (q0 := 0) rfl rfl, kP_go hPc hKc hDc hFc hM hS⟩ rfl rfl hl.1 rfl (lv_room (Nat.le_of_ble_eq_true rfl)) dX15_order_132 ⟨Nat.le_of_ble_eq_true rfl, Nat.le_of_ble_eq_true rfl⟩) hS (fun q _ h => hFc q h) hFc (fun r4 u t H1 locs ht hvm hw hB hz1 hk1 hS => ?_)
  obtain ⟨hP, hD, hK⟩ := kJ (wr := [(mo, .inr (19, [.int 0, .int 0, .int 0, .int 0, .int 0, .int 0, .int 0, .ref ti, .ref si, .ref lo, .ref lh, .ref lk, .ref sp, .ref st, .ref pa, .ref br, .ref sg, .int 0, .int 0, .int 0, .int 0, .int 0, .int 0, .long 0, .long 0, .long 0, .long 0, .int th]))]) (w1 := [(lo, .inr (3, [.int 0, .ref (z 0), .int 0]))]) (t1 := []) hP hD hK [1] [0] rfl rfl (by decide) (by decide) hk1 hFc ht hvm hB
  generalize H1 = H at hP hS ⊢
  have hP : va_P (dC, dI) vwCl [(mo, .inr (19, [.int 0, .int 0, .int 0, .int 0, .int 0, .int 0, .int 0, .ref ti, .ref si, .ref lo, .ref lh, .ref lk, .ref sp, .ref st, .ref pa, .ref br, .ref sg, .int 0, .int 0, .int 0, .int 0, .int 0, .int 0, .long 0, .long 0, .long 0, .long 0, .int th])), (lo, .inr (3, [.int 0, .ref (z 0), .int 0]))] H := hP
  have hD : va_D A [(mo, .inr (19, [.int 0, .int 0, .int 0, .int 0, .int 0, .int 0, .int 0, .ref ti, .ref si, .ref lo, .ref lh, .ref lk, .ref sp, .ref st, .ref pa, .ref br, .ref sg, .int 0, .int 0, .int 0, .int 0, .int 0, .int 0, .long 0, .long 0, .long 0, .long 0, .int th])), (lo, .inr (3, [.int 0, .ref (z 0), .int 0]))] := hD
  have hK : va_K (dC, dI) vwCl [] s := hK
  obtain rfl : 0 = r4 := hw
  refine lv_bipush (v := 100) hx hb dX15_order_137 (by decide) ?_
  refine lv_icmp_ne (tgt := 146) hx hb dX15_order_139 (by decide) (fun _ => ?_) (fun c_ => absurd c_ (by decide +kernel))
  refine lv_iconst (v := 0) hx hb dX15_order_146 (by decide) ?_
  refine va_put (D := (dC, dI)) (ci := 19) (v := .int 0) (ty := .int) (C := RX15) (T := TX15) (N := 28) hx hb hts hiX15 tyX15 tyX15_ok nmX15 hown hK hP hD hS 0 rfl rfl 27 (by decide) (hts (.fieldLink RX15 45 "SquareRigModel" "thrown" "I") (by decide +kernel)) (fun _ h9 => h9) rfl (by decide +kernel) rfl rfl (Nat.le_of_ble_eq_true rfl) dX15_order_147 (fun H locs hP hD hS => ?_)
  have hP : va_P (dC, dI) vwCl [(mo, .inr (19, [.int 0, .int 0, .int 0, .int 0, .int 0, .int 0, .int 0, .ref ti, .ref si, .ref lo, .ref lh, .ref lk, .ref sp, .ref st, .ref pa, .ref br, .ref sg, .int 0, .int 0, .int 0, .int 0, .int 0, .int 0, .long 0, .long 0, .long 0, .long 0, .int 0])), (lo, .inr (3, [.int 0, .ref (z 0), .int 0]))] H := hP
  have hD : va_D A [(mo, .inr (19, [.int 0, .int 0, .int 0, .int 0, .int 0, .int 0, .int 0, .ref ti, .ref si, .ref lo, .ref lh, .ref lk, .ref sp, .ref st, .ref pa, .ref br, .ref sg, .int 0, .int 0, .int 0, .int 0, .int 0, .int 0, .long 0, .long 0, .long 0, .long 0, .int 0])), (lo, .inr (3, [.int 0, .ref (z 0), .int 0]))] := hD
  refine lv_aload_n hx hb dX15_order_150 rfl (lv_at hl 2 rfl) ?_
  refine va_get (D := (dC, dI)) (ci := 19) (v := .int 0) (C := RX15) (T := TX15) (N := 28) hx hb hts hiX15 hown hK hP 0 rfl rfl 27 (by decide) (hts (.fieldLink RX15 45 "SquareRigModel" "thrown" "I") (by decide +kernel)) (fun _ h9 => h9) rfl dX15_order_151 ?_
  refine lv_if_le (tgt := 159) hx hb dX15_order_154 (by decide) (fun _ => ?_) (fun c_ => absurd (by decide +kernel) c_)
  refine lv_aload_n hx hb dX15_order_159 rfl (lv_at hl 2 rfl) ?_
  refine va_get (D := (dC, dI)) (ci := 19) (v := .ref lo) (C := RX15) (T := TX15) (N := 28) hx hb hts hiX15 hown hK hP 0 rfl rfl 9 (by decide) (hts (.fieldLink RX15 19 "SquareRigModel" "orders" "Ljava/util/List;") (by decide +kernel)) (fun _ h9 => h9) rfl dX15_order_160 ?_
  refine va_new (ci := 18) (fs := [.int 0, .int 0, .int 0, .int 0, .int 0, .int 0]) (C := RX14) (T := TX14) (N := 6) hx hb hts hiX14 tyX14 tyX14_ok hown (hts (.classLink RX15 161 RX14) (by decide +kernel)) (hts (.instantiable RX14 6) (by decide +kernel)) (hts (.initialized RX14) (by decide +kernel)) hK hP hD hS hA rfl (fun j hj => by rcases (show j = 0 ∨ j = 1 ∨ j = 2 ∨ j = 3 ∨ j = 4 ∨ j = 5 by omega) with rfl | rfl | rfl | rfl | rfl | rfl <;> rfl) (Nat.le_of_ble_eq_true rfl) (Nat.le_of_ble_eq_true rfl) dX15_order_163 (fun q5 H hP hD hS => ?_)
  have hP : va_P (dC, dI) vwCl [(mo, .inr (19, [.int 0, .int 0, .int 0, .int 0, .int 0, .int 0, .int 0, .ref ti, .ref si, .ref lo, .ref lh, .ref lk, .ref sp, .ref st, .ref pa, .ref br, .ref sg, .int 0, .int 0, .int 0, .int 0, .int 0, .int 0, .long 0, .long 0, .long 0, .long 0, .int 0])), (lo, .inr (3, [.int 0, .ref (z 0), .int 0])), (q5, .inr (18, [.int 0, .int 0, .int 0, .int 0, .int 0, .int 0]))] H := hP
  have hD : va_D A [(mo, .inr (19, [.int 0, .int 0, .int 0, .int 0, .int 0, .int 0, .int 0, .ref ti, .ref si, .ref lo, .ref lh, .ref lk, .ref sp, .ref st, .ref pa, .ref br, .ref sg, .int 0, .int 0, .int 0, .int 0, .int 0, .int 0, .long 0, .long 0, .long 0, .long 0, .int 0])), (lo, .inr (3, [.int 0, .ref (z 0), .int 0])), (q5, .inr (18, [.int 0, .int 0, .int 0, .int 0, .int 0, .int 0]))] := hD
  refine lv_dup hx hb dX15_order_166 rfl ?_
  refine lv_iload_n hx hb dX15_order_167 rfl (lv_at hl 3 rfl) ?_
  refine lv_iload_n hx hb dX15_order_168 rfl (lv_at hl 4 rfl) ?_
  refine lv_iload_n hx hb dX15_order_169 rfl (lv_at hl 5 rfl) ?_
  refine lv_aload_n hx hb dX15_order_170 rfl (lv_at hl 2 rfl) ?_
  refine va_get (D := (dC, dI)) (ci := 19) (v := .int 0) (C := RX15) (T := TX15) (N := 28) hx hb hts hiX15 hown hK hP 0 rfl rfl 17 (by decide) (hts (.fieldLink RX15 163 "SquareRigModel" "minute" "I") (by decide +kernel)) (fun _ h9 => h9) rfl dX15_order_171 ?_
  have hPc := hP.sub (ws' := [(q5, .inr (18, [.int 0, .int 0, .int 0, .int 0, .int 0, .int 0]))]) [2] rfl
  have hDc := hD.sub (ws' := [(q5, .inr (18, [.int 0, .int 0, .int 0, .int 0, .int 0, .int 0]))]) [2] (by decide) rfl
  have hKc := hK.sub (tys' := []) [] rfl
  have hFc := va_free (wc := [(q5, .inr (18, [.int 0, .int 0, .int 0, .int 0, .int 0, .int 0]))]) hD hS hA [2] rfl
  refine va_callv (va_runI (As := [.int 115, .int 0, .int p2, .int 0]) (rest := [.ref q5, .ref lo]) ⟨hx, hb, hml, hown, hts⟩ (k_MOrder_init115 l dC dI z zK zV q5 0 p2 0 H.size) (cwI 4 hts gX15_order_X14_init rfl rfl rfl (hts (.initialized RX14) (by decide +kernel)) (hts (.methodLink RX15 166 yX14_init) (by decide +kernel)) (hts (.instanceMethod yX14_init) (by decide +kernel)) rfl (by decide +kernel) ⟨Nat.le_of_ble_eq_true rfl, Nat.le_of_ble_eq_true rfl⟩) ⟨kP_blind, kP_go hPc hKc hDc hFc hM hS⟩ rfl rfl hl.1 rfl (lv_room (Nat.le_of_ble_eq_true rfl)) dX15_order_174 ⟨Nat.le_of_ble_eq_true rfl, Nat.le_of_ble_eq_true rfl⟩) hS (fun q _ h => hFc q h) hFc (fun u t H1 locs ht hvm hw hB hz1 hk1 hS => ?_)
  obtain ⟨hP, hD, hK⟩ := kJ (wr := [(mo, .inr (19, [.int 0, .int 0, .int 0, .int 0, .int 0, .int 0, .int 0, .ref ti, .ref si, .ref lo, .ref lh, .ref lk, .ref sp, .ref st, .ref pa, .ref br, .ref sg, .int 0, .int 0, .int 0, .int 0, .int 0, .int 0, .long 0, .long 0, .long 0, .long 0, .int 0])), (lo, .inr (3, [.int 0, .ref (z 0), .int 0]))]) (w1 := [(q5, .inr (18, [.int 115, .int 0, .int p2, .int 0, .int 119, .int 0]))]) (t1 := []) hP hD hK [2] [0, 1] rfl rfl (by decide) (by decide) hk1 hFc ht hvm hB
  generalize H1 = H at hP hS ⊢
  have hP : va_P (dC, dI) vwCl [(mo, .inr (19, [.int 0, .int 0, .int 0, .int 0, .int 0, .int 0, .int 0, .ref ti, .ref si, .ref lo, .ref lh, .ref lk, .ref sp, .ref st, .ref pa, .ref br, .ref sg, .int 0, .int 0, .int 0, .int 0, .int 0, .int 0, .long 0, .long 0, .long 0, .long 0, .int 0])), (lo, .inr (3, [.int 0, .ref (z 0), .int 0])), (q5, .inr (18, [.int 115, .int 0, .int p2, .int 0, .int 119, .int 0]))] H := hP
  have hD : va_D A [(mo, .inr (19, [.int 0, .int 0, .int 0, .int 0, .int 0, .int 0, .int 0, .ref ti, .ref si, .ref lo, .ref lh, .ref lk, .ref sp, .ref st, .ref pa, .ref br, .ref sg, .int 0, .int 0, .int 0, .int 0, .int 0, .int 0, .long 0, .long 0, .long 0, .long 0, .int 0])), (lo, .inr (3, [.int 0, .ref (z 0), .int 0])), (q5, .inr (18, [.int 115, .int 0, .int p2, .int 0, .int 119, .int 0]))] := hD
  have hK : va_K (dC, dI) vwCl [] s := hK
  clear hw
  have hPc := hP.sub (ws' := [(lo, .inr (3, [.int 0, .ref (z 0), .int 0])), (q5, .inr (18, [.int 115, .int 0, .int p2, .int 0, .int 119, .int 0]))]) [1, 2] rfl
  have hDc := hD.sub (ws' := [(lo, .inr (3, [.int 0, .ref (z 0), .int 0])), (q5, .inr (18, [.int 115, .int 0, .int p2, .int 0, .int 119, .int 0]))]) [1, 2] (by decide) rfl
  have hKc := hK.sub (tys' := []) [] rfl
  have hFc := va_free (wc := [(lo, .inr (3, [.int 0, .ref (z 0), .int 0])), (q5, .inr (18, [.int 115, .int 0, .int p2, .int 0, .int 119, .int 0]))]) hD hS hA [1, 2] rfl
  refine va_callFi (va_runF (hK.1 3 _ rfl).2 (As := [.ref q5]) (rest := []) ⟨hx, hb, hml, hown, hts⟩ (k_add1_oo l dC dI z zK zV lo 0 q5 115 0 p2 0 119 0 H.size) (va_cwF 1 hts gX15_order_Jx4a65c_add_9ea2d_f169Jx4a65c rfl rfl rfl hM.2.2.2.2.2.2.2.2.2.2.1.2.2.2.2 (by decide +kernel) ⟨Nat.le_of_ble_eq_true rfl, Nat.le_of_ble_eq_true rfl⟩) ⟨kP_blind, va_recv hKc hPc (ci := 3) (q0 := 0) rfl rfl, kP_go hPc hKc hDc hFc hM hS⟩ rfl rfl hl.1 rfl (lv_room (Nat.le_of_ble_eq_true rfl)) dX15_order_177 ⟨Nat.le_of_ble_eq_true rfl, Nat.le_of_ble_eq_true rfl⟩) hS (fun q _ h => hFc q h) hFc (fun r6 u t H1 locs ht hvm hw hB hz1 hk1 hS => ?_)
  obtain ⟨q7, cA8, hB⟩ := hB
  obtain ⟨hP, hD, hK⟩ := kJ (wr := [(mo, .inr (19, [.int 0, .int 0, .int 0, .int 0, .int 0, .int 0, .int 0, .ref ti, .ref si, .ref lo, .ref lh, .ref lk, .ref sp, .ref st, .ref pa, .ref br, .ref sg, .int 0, .int 0, .int 0, .int 0, .int 0, .int 0, .long 0, .long 0, .long 0, .long 0, .int 0]))]) (w1 := [(q5, .inr (18, [.int 115, .int 0, .int p2, .int 0, .int 119, .int 0])), (lo, .inr (3, [.int (0 + 1), .ref q7, .int 1])), (q7, .inl (cA8, 10, .inr (.inr (.inr (.inr (va_up (fun _ => none) 0 (some q5)))))))]) (t1 := [(cA8, .object "java/lang/Object")]) hP hD hK [1, 2] [0] rfl rfl (by decide) (by decide) hk1 hFc ht hvm hB
  generalize H1 = H at hP hS ⊢
  have hP : va_P (dC, dI) vwCl [(mo, .inr (19, [.int 0, .int 0, .int 0, .int 0, .int 0, .int 0, .int 0, .ref ti, .ref si, .ref lo, .ref lh, .ref lk, .ref sp, .ref st, .ref pa, .ref br, .ref sg, .int 0, .int 0, .int 0, .int 0, .int 0, .int 0, .long 0, .long 0, .long 0, .long 0, .int 0])), (q5, .inr (18, [.int 115, .int 0, .int p2, .int 0, .int 119, .int 0])), (lo, .inr (3, [.int (0 + 1), .ref q7, .int 1])), (q7, .inl (cA8, 10, .inr (.inr (.inr (.inr (va_up (fun _ => none) 0 (some q5)))))))] H := hP
  have hD : va_D A [(mo, .inr (19, [.int 0, .int 0, .int 0, .int 0, .int 0, .int 0, .int 0, .ref ti, .ref si, .ref lo, .ref lh, .ref lk, .ref sp, .ref st, .ref pa, .ref br, .ref sg, .int 0, .int 0, .int 0, .int 0, .int 0, .int 0, .long 0, .long 0, .long 0, .long 0, .int 0])), (q5, .inr (18, [.int 115, .int 0, .int p2, .int 0, .int 119, .int 0])), (lo, .inr (3, [.int (0 + 1), .ref q7, .int 1])), (q7, .inl (cA8, 10, .inr (.inr (.inr (.inr (va_up (fun _ => none) 0 (some q5)))))))] := hD
  have hK : va_K (dC, dI) vwCl [(cA8, .object "java/lang/Object")] s := hK
  obtain rfl : 1 = r6 := hw
  refine lv_pop hx hb dX15_order_182 rfl ?_
  refine lv_aload_n hx hb dX15_order_183 rfl (lv_at hl 2 rfl) ?_
  refine va_get (D := (dC, dI)) (ci := 19) (v := .ref lo) (C := RX15) (T := TX15) (N := 28) hx hb hts hiX15 hown hK hP 0 rfl rfl 9 (by decide) (hts (.fieldLink RX15 19 "SquareRigModel" "orders" "Ljava/util/List;") (by decide +kernel)) (fun _ h9 => h9) rfl dX15_order_184 ?_
  have hPc := hP.sub (ws' := [(lo, .inr (3, [.int (0 + 1), .ref q7, .int 1]))]) [2] rfl
  have hDc := hD.sub (ws' := [(lo, .inr (3, [.int (0 + 1), .ref q7, .int 1]))]) [2] (by decide) rfl
  have hKc := hK.sub (tys' := []) [] rfl
  have hFc := va_free (wc := [(lo, .inr (3, [.int (0 + 1), .ref q7, .int 1]))]) hD hS hA [2] rfl
  refine va_callFi (va_runF (hK.1 3 _ rfl).2 (As := []) (rest := []) ⟨hx, hb, hml, hown, hts⟩ (k_size1 l dC dI z zK zV lo (0 + 1) q7 H.size) (va_cwF 0 hts gX15_order_Jx4a65c_size_8abf5_f156Jx4a65c rfl rfl rfl hM.2.2.2.2.2.2.2.2.2.2.1.2.2.1 (by decide +kernel) ⟨Nat.le_of_ble_eq_true rfl, Nat.le_of_ble_eq_true rfl⟩) ⟨kP_blind, va_recv hKc hPc (ci := 3) (q0 := 0) rfl rfl, kP_go hPc hKc hDc hFc hM hS⟩ rfl rfl hl.1 rfl (lv_room (Nat.le_of_ble_eq_true rfl)) dX15_order_187 ⟨Nat.le_of_ble_eq_true rfl, Nat.le_of_ble_eq_true rfl⟩) hS (fun q _ h => hFc q h) hFc (fun r9 u t H1 locs ht hvm hw hB hz1 hk1 hS => ?_)
  obtain ⟨hP, hD, hK⟩ := kJ (wr := [(mo, .inr (19, [.int 0, .int 0, .int 0, .int 0, .int 0, .int 0, .int 0, .ref ti, .ref si, .ref lo, .ref lh, .ref lk, .ref sp, .ref st, .ref pa, .ref br, .ref sg, .int 0, .int 0, .int 0, .int 0, .int 0, .int 0, .long 0, .long 0, .long 0, .long 0, .int 0])), (q5, .inr (18, [.int 115, .int 0, .int p2, .int 0, .int 119, .int 0])), (q7, .inl (cA8, 10, .inr (.inr (.inr (.inr (va_up (fun _ => none) 0 (some q5)))))))]) (w1 := [(lo, .inr (3, [.int (0 + 1), .ref q7, .int 1]))]) (t1 := []) hP hD hK [2] [0, 1, 3] rfl rfl (by decide) (by decide) hk1 hFc ht hvm hB
  generalize H1 = H at hP hS ⊢
  have hP : va_P (dC, dI) vwCl [(mo, .inr (19, [.int 0, .int 0, .int 0, .int 0, .int 0, .int 0, .int 0, .ref ti, .ref si, .ref lo, .ref lh, .ref lk, .ref sp, .ref st, .ref pa, .ref br, .ref sg, .int 0, .int 0, .int 0, .int 0, .int 0, .int 0, .long 0, .long 0, .long 0, .long 0, .int 0])), (q5, .inr (18, [.int 115, .int 0, .int p2, .int 0, .int 119, .int 0])), (q7, .inl (cA8, 10, .inr (.inr (.inr (.inr (va_up (fun _ => none) 0 (some q5))))))), (lo, .inr (3, [.int (0 + 1), .ref q7, .int 1]))] H := hP
  have hD : va_D A [(mo, .inr (19, [.int 0, .int 0, .int 0, .int 0, .int 0, .int 0, .int 0, .ref ti, .ref si, .ref lo, .ref lh, .ref lk, .ref sp, .ref st, .ref pa, .ref br, .ref sg, .int 0, .int 0, .int 0, .int 0, .int 0, .int 0, .long 0, .long 0, .long 0, .long 0, .int 0])), (q5, .inr (18, [.int 115, .int 0, .int p2, .int 0, .int 119, .int 0])), (q7, .inl (cA8, 10, .inr (.inr (.inr (.inr (va_up (fun _ => none) 0 (some q5))))))), (lo, .inr (3, [.int (0 + 1), .ref q7, .int 1]))] := hD
  have hK : va_K (dC, dI) vwCl [(cA8, .object "java/lang/Object")] s := hK
  obtain rfl : 1 = r9 := hw
  refine lv_iconst (v := 1) hx hb dX15_order_192 (by decide) ?_
  refine lv_isub hx hb dX15_order_193 ?_
  refine kc_i (y := 0) (by decide +kernel) ?_
  refine W.widen (k := 2) (n := 16) (Nat.le_of_ble_eq_true rfl) (Nat.le_of_ble_eq_true rfl) ?_
  exact W.iret (v := 0) hx hb hr (fun t ht hW => ⟨⟨0, (), rfl, rfl, kB_end (w9 := [(mo, .inr (19, [.int 0, .int 0, .int 0, .int 0, .int 0, .int 0, .int 0, .ref ti, .ref si, .ref lo, .ref lh, .ref lk, .ref sp, .ref st, .ref pa, .ref br, .ref sg, .int 0, .int 0, .int 0, .int 0, .int 0, .int 0, .long 0, .long 0, .long 0, .long 0, .int 0]))]) (t9 := []) hP hK hD [0] [] rfl (by decide) rfl rfl t ht hW⟩, hS.F ht⟩) hS.2.2 dX15_order_194
abbrev wd_k_m_order_s1 (z : Nat → Nat) (p2 : Int32) (mo : Nat) (ti : Nat) (si : Nat) (lo : Nat) (lh : Nat) (lk : Nat) (sp : Nat) (st : Nat) (pa : Nat) (br : Nat) (sg : Nat) (th : Int32) : va_W := [(mo, .inr (19, [.int 0, .int 0, .int 0, .int 0, .int 0, .int 0, .int 0, .ref ti, .ref si, .ref lo, .ref lh, .ref lk, .ref sp, .ref st, .ref pa, .ref br, .ref sg, .int 0, .int 0, .int 0, .int 0, .int 0, .int 0, .long 0, .long 0, .long 0, .long 0, .int th])), (lo, .inr (3, [.int 0, .ref (z 0), .int 0]))]
set_option maxHeartbeats 4000000 in
set_option maxRecDepth 100000 in
theorem k_m_order_s1 (l : Launch) (dC : Nat → ClassId) (dI : Nat → Nat → Nat) (z zK zV : Nat → Nat) (p2 : Int32) (mo : Nat) (ti : Nat) (si : Nat) (lo : Nat) (lh : Nat) (lk : Nat) (sp : Nat) (st : Nat) (pa : Nat) (br : Nat) (sg : Nat) (th : Int32) (sz : Nat) (hg0 : (0 : Int32) ≤ p2 ∧ p2 ≤ 2) : Met l yX15_order wsX15_order ({ frames := 5, cells := 2, slots := 16, locals := 101 }) (kP dC dI z zK zV [.ref mo, .int 115, .int 1, .int p2] sz (wd_k_m_order_s1 z p2 mo ti si lo lh lk sp st pa br sg th) []) (va_Qi (fun (r : Int32) (_ : Unit) => 0 = r) (fun _ t => kB (dC, dI) (va_A (wd_k_m_order_s1 z p2 mo ti si lo lh lk sp st pa br sg th) sz) [(mo, .inr (19, [.int 0, .int 0, .int 0, .int 0, .int 0, .int 0, .int 0, .ref ti, .ref si, .ref lo, .ref lh, .ref lk, .ref sp, .ref st, .ref pa, .ref br, .ref sg, .int 0, .int 0, .int 0, .int 0, .int 0, .int 0, .long 0, .long 0, .long 0, .long 0, .int 0]))] [] t) (va_A (wd_k_m_order_s1 z p2 mo ti si lo lh lk sp st pa br sg th) sz)) 2 16 (va_A (wd_k_m_order_s1 z p2 mo ti si lo lh lk sp st pa br sg th) sz) := by
  refine Met.ofW (cc := cX15_order) (maxL := 6) (ret := (some .int)) (by decide) rfl ?_
  intro p e s m args below meth c s₁ B hml hv
  obtain ⟨rfl, hsz, hP, hK, hD0, hM⟩ := hv
  have hx := B.exec
  have hb := B.bytes
  have hr := B.returns
  have hts := atoms_spec (ws := wsX15_order) B.pre
  have hown : s.vm.findClass RX15 = some m.cls := findClass_of_methodNamed B.named
  have hlocks := B.notSynchronized
  have hiX15 : ∀ w ∈ u_ws RX15 TX15 28, w ∈ wsX15_order := by decide +kernel
  have hiX14 : ∀ w ∈ u_ws RX14 TX14 6, w ∈ wsX15_order := by decide +kernel
  subst hsz
  have hD := hD0.self (sz := s.heap.size)
  generalize hAe : va_A (wd_k_m_order_s1 z p2 mo ti si lo lh lk sp st pa br sg th) s.heap.size = A at hD hM ⊢
  have hA : ∀ q : Nat, s.heap.size ≤ q → A q := fun q h => by rw [← hAe]; exact Or.inr h
  have hS : va_S A s.heap s.heap [] := va_S.rf
  have hP : va_P (dC, dI) vwCl [(mo, .inr (19, [.int 0, .int 0, .int 0, .int 0, .int 0, .int 0, .int 0, .ref ti, .ref si, .ref lo, .ref lh, .ref lk, .ref sp, .ref st, .ref pa, .ref br, .ref sg, .int 0, .int 0, .int 0, .int 0, .int 0, .int 0, .long 0, .long 0, .long 0, .long 0, .int th])), (lo, .inr (3, [.int 0, .ref (z 0), .int 0]))] s.heap := hP
  have hD : va_D A [(mo, .inr (19, [.int 0, .int 0, .int 0, .int 0, .int 0, .int 0, .int 0, .ref ti, .ref si, .ref lo, .ref lh, .ref lk, .ref sp, .ref st, .ref pa, .ref br, .ref sg, .int 0, .int 0, .int 0, .int 0, .int 0, .int 0, .long 0, .long 0, .long 0, .long 0, .int th])), (lo, .inr (3, [.int 0, .ref (z 0), .int 0]))] := hD
  have hl := lv_entry ([.ref mo, .int 115, .int 1, .int p2]) (n := 6) (Nat.le_of_ble_eq_true rfl)
  rw [lg_entry_eq]
  generalize (lg_sl ([.ref mo, .int 115, .int 1, .int p2]) ++ List.replicate (6 - (lg_sl ([.ref mo, .int 115, .int 1, .int p2])).length) Slot.unset).toArray = ls at hl ⊢
  have hl : lv_has ls 6 [(0, .ref mo), (1, .int 115), (2, .int 1), (3, .int p2)] := hl
  refine lv_iload_n hx hb dX15_order_0 rfl (lv_at hl 1 rfl) ?_
  refine lv_bipush (v := 115) hx hb dX15_order_1 (by decide) ?_
  refine lv_icmp_eq (tgt := 12) hx hb dX15_order_3 (by decide) (fun _ => ?_) (fun c_ => absurd (by decide +kernel) c_)
  refine lv_iconst (v := 1) hx hb dX15_order_12 (by decide) ?_
  refine lv_goto (tgt := 17) hx hb dX15_order_13 (by decide) ?_
  refine lv_istore (lv' := [(4, .int 1), (0, .ref mo), (1, .int 115), (2, .int 1), (3, .int p2)]) hx hb dX15_order_17 hl (by decide) rfl (fun ls hl => ?_)
  refine va_ldcS hx hb hown (hM.2.2.1 0 _ rfl) dX15_order_19 ?_
  refine lv_iload_n hx hb dX15_order_21 rfl (lv_at hl 2 rfl) ?_
  have hPc := hP.sub (ws' := []) [] rfl
  have hDc := hD.sub (ws' := []) [] (by decide) rfl
  have hKc := hK.sub (tys' := []) [] rfl
  have hFc := va_free (wc := []) hD hS hA [] rfl
  refine va_calli (va_runV (As := [.int 115]) (rest := []) ⟨hx, hb, hml, hown, hts⟩ (k_ix3_115 l dC dI z zK zV  s.heap.size) (cwV 1 hts gX15_order_J0_indexOf_0f7a4 rfl rfl rfl (by decide +kernel) ⟨Nat.le_of_ble_eq_true rfl, Nat.le_of_ble_eq_true rfl⟩) ⟨kP_blind, vk_recv (i := 0) hM.2.2.2.1 (by decide) hS, kP_go hPc hKc hDc hFc hM hS⟩ rfl rfl hl.1 rfl (lv_room (Nat.le_of_ble_eq_true rfl)) dX15_order_22 ⟨Nat.le_of_ble_eq_true rfl, Nat.le_of_ble_eq_true rfl⟩) hS (fun q _ h => hFc q h) hFc (fun r1 u t H1 locs ht hvm hw hB hz1 hk1 hS => ?_)
  obtain ⟨hP, hD, hK⟩ := kJ (wr := [(mo, .inr (19, [.int 0, .int 0, .int 0, .int 0, .int 0, .int 0, .int 0, .ref ti, .ref si, .ref lo, .ref lh, .ref lk, .ref sp, .ref st, .ref pa, .ref br, .ref sg, .int 0, .int 0, .int 0, .int 0, .int 0, .int 0, .long 0, .long 0, .long 0, .long 0, .int th])), (lo, .inr (3, [.int 0, .ref (z 0), .int 0]))]) (w1 := []) (t1 := []) hP hD hK [] [0, 1] rfl rfl (by decide) (by decide) hk1 hFc ht hvm hB
  generalize H1 = H at hP hS ⊢
  have hP : va_P (dC, dI) vwCl [(mo, .inr (19, [.int 0, .int 0, .int 0, .int 0, .int 0, .int 0, .int 0, .ref ti, .ref si, .ref lo, .ref lh, .ref lk, .ref sp, .ref st, .ref pa, .ref br, .ref sg, .int 0, .int 0, .int 0, .int 0, .int 0, .int 0, .long 0, .long 0, .long 0, .long 0, .int th])), (lo, .inr (3, [.int 0, .ref (z 0), .int 0]))] H := hP
  have hD : va_D A [(mo, .inr (19, [.int 0, .int 0, .int 0, .int 0, .int 0, .int 0, .int 0, .ref ti, .ref si, .ref lo, .ref lh, .ref lk, .ref sp, .ref st, .ref pa, .ref br, .ref sg, .int 0, .int 0, .int 0, .int 0, .int 0, .int 0, .long 0, .long 0, .long 0, .long 0, .int th])), (lo, .inr (3, [.int 0, .ref (z 0), .int 0]))] := hD
  have hK : va_K (dC, dI) vwCl [] s := hK
  obtain rfl : 0 = r1 := hw
  refine lv_if_lt (tgt := 55) hx hb dX15_order_25 (by decide) (fun c_ => absurd c_ (by decide +kernel)) (fun _ => ?_)
  refine lv_iload_n hx hb dX15_order_28 rfl (lv_at hl 3 rfl) ?_
  refine lv_i2l (v := 1) hx hb dX15_order_29 (by decide +kernel) ?_
  refine lv_lconst (v := 0) hx hb dX15_order_30 (by decide) ?_
  refine lv_iload hx hb dX15_order_31 (lv_at hl 0 rfl) ?_
  refine lv_if_eq (tgt := 42) hx hb dX15_order_33 (by decide) (fun c_ => absurd c_ (by decide +kernel)) (fun _ => ?_)
  refine lv_ldc2 (v := 8) hx hb hown (hts (.constantLong RX15 148 8) (by decide +kernel)) dX15_order_36 ?_
  refine lv_goto (tgt := 45) hx hb dX15_order_39 (by decide) ?_
  have hPc := hP.sub (ws' := []) [] rfl
  have hDc := hD.sub (ws' := []) [] (by decide) rfl
  have hKc := hK.sub (tys' := []) [] rfl
  have hFc := va_free (wc := []) hD hS hA [] rfl
  refine va_calli (va_runS (As := [.long 1, .long 0, .long 8]) (rest := []) ⟨hx, hb, hml, hown, hts⟩ (k_in l dC dI z zK zV 1 0 8 H.size) (va_cwS 3 hts gX15_order_X15_in rfl rfl rfl (by decide +kernel) ⟨Nat.le_of_ble_eq_true rfl, Nat.le_of_ble_eq_true rfl⟩) ⟨kP_blind, kP_go hPc hKc hDc hFc hM hS⟩ rfl rfl hl.1 rfl (lv_room (Nat.le_of_ble_eq_true rfl)) dX15_order_45 ⟨Nat.le_of_ble_eq_true rfl, Nat.le_of_ble_eq_true rfl⟩) hS (fun q _ h => hFc q h) hFc (fun r2 u t H1 locs ht hvm hw hB hz1 hk1 hS => ?_)
  obtain ⟨hP, hD, hK⟩ := kJ (wr := [(mo, .inr (19, [.int 0, .int 0, .int 0, .int 0, .int 0, .int 0, .int 0, .ref ti, .ref si, .ref lo, .ref lh, .ref lk, .ref sp, .ref st, .ref pa, .ref br, .ref sg, .int 0, .int 0, .int 0, .int 0, .int 0, .int 0, .long 0, .long 0, .long 0, .long 0, .int th])), (lo, .inr (3, [.int 0, .ref (z 0), .int 0]))]) (w1 := []) (t1 := []) hP hD hK [] [0, 1] rfl rfl (by decide) (by decide) hk1 hFc ht hvm hB
  generalize H1 = H at hP hS ⊢
  have hP : va_P (dC, dI) vwCl [(mo, .inr (19, [.int 0, .int 0, .int 0, .int 0, .int 0, .int 0, .int 0, .ref ti, .ref si, .ref lo, .ref lh, .ref lk, .ref sp, .ref st, .ref pa, .ref br, .ref sg, .int 0, .int 0, .int 0, .int 0, .int 0, .int 0, .long 0, .long 0, .long 0, .long 0, .int th])), (lo, .inr (3, [.int 0, .ref (z 0), .int 0]))] H := hP
  have hD : va_D A [(mo, .inr (19, [.int 0, .int 0, .int 0, .int 0, .int 0, .int 0, .int 0, .ref ti, .ref si, .ref lo, .ref lh, .ref lk, .ref sp, .ref st, .ref pa, .ref br, .ref sg, .int 0, .int 0, .int 0, .int 0, .int 0, .int 0, .long 0, .long 0, .long 0, .long 0, .int th])), (lo, .inr (3, [.int 0, .ref (z 0), .int 0]))] := hD
  have hK : va_K (dC, dI) vwCl [] s := hK
  obtain rfl : (if 0 ≤ 1 ∧ 1 ≤ 8 then (1 : Int32) else 0) = r2 := hw
  refine kc_i (y := 1) (by decide +kernel) ?_
  refine lv_if_eq (tgt := 55) hx hb dX15_order_48 (by decide) (fun c_ => absurd c_ (by decide +kernel)) (fun _ => ?_)
  refine lv_iconst (v := 1) hx hb dX15_order_51 (by decide) ?_
  refine lv_goto (tgt := 56) hx hb dX15_order_52 (by decide) ?_
  refine lv_istore (lv' := [(5, .int 1), (4, .int 1), (0, .ref mo), (1, .int 115), (2, .int 1), (3, .int p2)]) hx hb dX15_order_56 hl (by decide) rfl (fun ls hl => ?_)
  refine lv_iload hx hb dX15_order_58 (lv_at hl 0 rfl) ?_
  refine lv_if_eq (tgt := 115) hx hb dX15_order_60 (by decide) (fun c_ => absurd c_ (by decide +kernel)) (fun _ => ?_)
  refine lv_iload_n hx hb dX15_order_63 rfl (lv_at hl 3 rfl) ?_
  refine lv_bipush (v := 115) hx hb dX15_order_64 (by decide) ?_
  refine lv_icmp_ne (tgt := 84) hx hb dX15_order_66 (by decide) (fun c_ => absurd (by decide +kernel) c_) (fun _ => ?_)
  refine lv_iload_n hx hb dX15_order_69 rfl (lv_at hl 5 rfl) ?_
  refine lv_i2l (v := p2.toInt64) hx hb dX15_order_70 rfl ?_
  refine lv_lconst (v := 0) hx hb dX15_order_71 (by decide) ?_
  refine lv_ldc2 (v := 2) hx hb hown (hts (.constantLong RX15 150 2) (by decide +kernel)) dX15_order_72 ?_
  have hPc := hP.sub (ws' := []) [] rfl
  have hDc := hD.sub (ws' := []) [] (by decide) rfl
  have hKc := hK.sub (tys' := []) [] rfl
  have hFc := va_free (wc := []) hD hS hA [] rfl
  refine va_calli (va_runS (As := [.long p2.toInt64, .long 0, .long 2]) (rest := []) ⟨hx, hb, hml, hown, hts⟩ (k_in l dC dI z zK zV p2.toInt64 0 2 H.size) (va_cwS 3 hts gX15_order_X15_in rfl rfl rfl (by decide +kernel) ⟨Nat.le_of_ble_eq_true rfl, Nat.le_of_ble_eq_true rfl⟩) ⟨kP_blind, kP_go hPc hKc hDc hFc hM hS⟩ rfl rfl hl.1 rfl (lv_room (Nat.le_of_ble_eq_true rfl)) dX15_order_75 ⟨Nat.le_of_ble_eq_true rfl, Nat.le_of_ble_eq_true rfl⟩) hS (fun q _ h => hFc q h) hFc (fun r3 u t H1 locs ht hvm hw hB hz1 hk1 hS => ?_)
  obtain ⟨hP, hD, hK⟩ := kJ (wr := [(mo, .inr (19, [.int 0, .int 0, .int 0, .int 0, .int 0, .int 0, .int 0, .ref ti, .ref si, .ref lo, .ref lh, .ref lk, .ref sp, .ref st, .ref pa, .ref br, .ref sg, .int 0, .int 0, .int 0, .int 0, .int 0, .int 0, .long 0, .long 0, .long 0, .long 0, .int th])), (lo, .inr (3, [.int 0, .ref (z 0), .int 0]))]) (w1 := []) (t1 := []) hP hD hK [] [0, 1] rfl rfl (by decide) (by decide) hk1 hFc ht hvm hB
  generalize H1 = H at hP hS ⊢
  have hP : va_P (dC, dI) vwCl [(mo, .inr (19, [.int 0, .int 0, .int 0, .int 0, .int 0, .int 0, .int 0, .ref ti, .ref si, .ref lo, .ref lh, .ref lk, .ref sp, .ref st, .ref pa, .ref br, .ref sg, .int 0, .int 0, .int 0, .int 0, .int 0, .int 0, .long 0, .long 0, .long 0, .long 0, .int th])), (lo, .inr (3, [.int 0, .ref (z 0), .int 0]))] H := hP
  have hD : va_D A [(mo, .inr (19, [.int 0, .int 0, .int 0, .int 0, .int 0, .int 0, .int 0, .ref ti, .ref si, .ref lo, .ref lh, .ref lk, .ref sp, .ref st, .ref pa, .ref br, .ref sg, .int 0, .int 0, .int 0, .int 0, .int 0, .int 0, .long 0, .long 0, .long 0, .long 0, .int th])), (lo, .inr (3, [.int 0, .ref (z 0), .int 0]))] := hD
  have hK : va_K (dC, dI) vwCl [] s := hK
  obtain rfl : (if 0 ≤ (p2.toInt64) ∧ (p2.toInt64) ≤ 2 then (1 : Int32) else 0) = r3 := hw
  refine kc_i (y := (if 0 ≤ p2 ∧ p2 ≤ 2 then (1 : Int32) else 0)) (k_inP (a := 0) (b := 2) (by decide +kernel) (by decide +kernel)) ?_
  refine lv_if_eq (tgt := 115) hx hb dX15_order_78 (by decide) (fun c_ => absurd c_ (k_ifp hg0)) (fun _ => ?_)
  refine lv_goto (tgt := 111) hx hb dX15_order_81 (by decide) ?_
  refine lv_iconst (v := 1) hx hb dX15_order_111 (by decide) ?_
  refine lv_goto (tgt := 116) hx hb dX15_order_112 (by decide) ?_
  refine lv_istore (lv' := [(5, .int 1), (4, .int 1), (0, .ref mo), (1, .int 115), (2, .int 1), (3, .int p2)]) hx hb dX15_order_116 hl (by decide) rfl (fun ls hl => ?_)
  refine lv_aload_n hx hb dX15_order_118 rfl (lv_at hl 2 rfl) ?_
  refine lv_iload hx hb dX15_order_119 (lv_at hl 0 rfl) ?_
  refine lv_if_ne (tgt := 128) hx hb dX15_order_121 (by decide) (fun _ => ?_) (fun c_ => absurd c_ (by decide +kernel))
  refine lv_aload_n hx hb dX15_order_128 rfl (lv_at hl 2 rfl) ?_
  refine va_get (D := (dC, dI)) (ci := 19) (v := .ref lo) (C := RX15) (T := TX15) (N := 28) hx hb hts hiX15 hown hK hP 0 rfl rfl 9 (by decide) (hts (.fieldLink RX15 19 "SquareRigModel" "orders" "Ljava/util/List;") (by decide +kernel)) (fun _ h9 => h9) rfl dX15_order_129 ?_
  have hPc := hP.sub (ws' := [(lo, .inr (3, [.int 0, .ref (z 0), .int 0]))]) [1] rfl
  have hDc := hD.sub (ws' := [(lo, .inr (3, [.int 0, .ref (z 0), .int 0]))]) [1] (by decide) rfl
  have hKc := hK.sub (tys' := []) [] rfl
  have hFc := va_free (wc := [(lo, .inr (3, [.int 0, .ref (z 0), .int 0]))]) hD hS hA [1] rfl
  refine va_callFi (va_runF (hK.1 3 _ rfl).2 (As := []) (rest := [.ref mo]) ⟨hx, hb, hml, hown, hts⟩ (k_size0 l dC dI z zK zV lo H.size) (va_cwF 0 hts gX15_order_Jx4a65c_size_8abf5_f156Jx4a65c rfl rfl rfl hM.2.2.2.2.2.2.2.2.2.2.1.2.2.1 (by decide +kernel) ⟨Nat.le_of_ble_eq_true rfl, Nat.le_of_ble_eq_true rfl⟩) ⟨kP_blind, va_recv hKc hPc (ci := 3) (q0 := 0) rfl rfl, kP_go hPc hKc hDc hFc hM hS⟩ rfl rfl hl.1 rfl (lv_room (Nat.le_of_ble_eq_true rfl)) dX15_order_132 ⟨Nat.le_of_ble_eq_true rfl, Nat.le_of_ble_eq_true rfl⟩) hS (fun q _ h => hFc q h) hFc (fun r4 u t H1 locs ht hvm hw hB hz1 hk1 hS => ?_)
  obtain ⟨hP, hD, hK⟩ := kJ (wr := [(mo, .inr (19, [.int 0, .int 0, .int 0, .int 0, .int 0, .int 0, .int 0, .ref ti, .ref si, .ref lo, .ref lh, .ref lk, .ref sp, .ref st, .ref pa, .ref br, .ref sg, .int 0, .int 0, .int 0, .int 0, .int 0, .int 0, .long 0, .long 0, .long 0, .long 0, .int th]))]) (w1 := [(lo, .inr (3, [.int 0, .ref (z 0), .int 0]))]) (t1 := []) hP hD hK [1] [0] rfl rfl (by decide) (by decide) hk1 hFc ht hvm hB
  generalize H1 = H at hP hS ⊢
  have hP : va_P (dC, dI) vwCl [(mo, .inr (19, [.int 0, .int 0, .int 0, .int 0, .int 0, .int 0, .int 0, .ref ti, .ref si, .ref lo, .ref lh, .ref lk, .ref sp, .ref st, .ref pa, .ref br, .ref sg, .int 0, .int 0, .int 0, .int 0, .int 0, .int 0, .long 0, .long 0, .long 0, .long 0, .int th])), (lo, .inr (3, [.int 0, .ref (z 0), .int 0]))] H := hP
  have hD : va_D A [(mo, .inr (19, [.int 0, .int 0, .int 0, .int 0, .int 0, .int 0, .int 0, .ref ti, .ref si, .ref lo, .ref lh, .ref lk, .ref sp, .ref st, .ref pa, .ref br, .ref sg, .int 0, .int 0, .int 0, .int 0, .int 0, .int 0, .long 0, .long 0, .long 0, .long 0, .int th])), (lo, .inr (3, [.int 0, .ref (z 0), .int 0]))] := hD
  have hK : va_K (dC, dI) vwCl [] s := hK
  obtain rfl : 0 = r4 := hw
  refine lv_bipush (v := 100) hx hb dX15_order_137 (by decide) ?_
  refine lv_icmp_ne (tgt := 146) hx hb dX15_order_139 (by decide) (fun _ => ?_) (fun c_ => absurd c_ (by decide +kernel))
  refine lv_iconst (v := 0) hx hb dX15_order_146 (by decide) ?_
  refine va_put (D := (dC, dI)) (ci := 19) (v := .int 0) (ty := .int) (C := RX15) (T := TX15) (N := 28) hx hb hts hiX15 tyX15 tyX15_ok nmX15 hown hK hP hD hS 0 rfl rfl 27 (by decide) (hts (.fieldLink RX15 45 "SquareRigModel" "thrown" "I") (by decide +kernel)) (fun _ h9 => h9) rfl (by decide +kernel) rfl rfl (Nat.le_of_ble_eq_true rfl) dX15_order_147 (fun H locs hP hD hS => ?_)
  have hP : va_P (dC, dI) vwCl [(mo, .inr (19, [.int 0, .int 0, .int 0, .int 0, .int 0, .int 0, .int 0, .ref ti, .ref si, .ref lo, .ref lh, .ref lk, .ref sp, .ref st, .ref pa, .ref br, .ref sg, .int 0, .int 0, .int 0, .int 0, .int 0, .int 0, .long 0, .long 0, .long 0, .long 0, .int 0])), (lo, .inr (3, [.int 0, .ref (z 0), .int 0]))] H := hP
  have hD : va_D A [(mo, .inr (19, [.int 0, .int 0, .int 0, .int 0, .int 0, .int 0, .int 0, .ref ti, .ref si, .ref lo, .ref lh, .ref lk, .ref sp, .ref st, .ref pa, .ref br, .ref sg, .int 0, .int 0, .int 0, .int 0, .int 0, .int 0, .long 0, .long 0, .long 0, .long 0, .int 0])), (lo, .inr (3, [.int 0, .ref (z 0), .int 0]))] := hD
  refine lv_aload_n hx hb dX15_order_150 rfl (lv_at hl 2 rfl) ?_
  refine va_get (D := (dC, dI)) (ci := 19) (v := .int 0) (C := RX15) (T := TX15) (N := 28) hx hb hts hiX15 hown hK hP 0 rfl rfl 27 (by decide) (hts (.fieldLink RX15 45 "SquareRigModel" "thrown" "I") (by decide +kernel)) (fun _ h9 => h9) rfl dX15_order_151 ?_
  refine lv_if_le (tgt := 159) hx hb dX15_order_154 (by decide) (fun _ => ?_) (fun c_ => absurd (by decide +kernel) c_)
  refine lv_aload_n hx hb dX15_order_159 rfl (lv_at hl 2 rfl) ?_
  refine va_get (D := (dC, dI)) (ci := 19) (v := .ref lo) (C := RX15) (T := TX15) (N := 28) hx hb hts hiX15 hown hK hP 0 rfl rfl 9 (by decide) (hts (.fieldLink RX15 19 "SquareRigModel" "orders" "Ljava/util/List;") (by decide +kernel)) (fun _ h9 => h9) rfl dX15_order_160 ?_
  refine va_new (ci := 18) (fs := [.int 0, .int 0, .int 0, .int 0, .int 0, .int 0]) (C := RX14) (T := TX14) (N := 6) hx hb hts hiX14 tyX14 tyX14_ok hown (hts (.classLink RX15 161 RX14) (by decide +kernel)) (hts (.instantiable RX14 6) (by decide +kernel)) (hts (.initialized RX14) (by decide +kernel)) hK hP hD hS hA rfl (fun j hj => by rcases (show j = 0 ∨ j = 1 ∨ j = 2 ∨ j = 3 ∨ j = 4 ∨ j = 5 by omega) with rfl | rfl | rfl | rfl | rfl | rfl <;> rfl) (Nat.le_of_ble_eq_true rfl) (Nat.le_of_ble_eq_true rfl) dX15_order_163 (fun q5 H hP hD hS => ?_)
  have hP : va_P (dC, dI) vwCl [(mo, .inr (19, [.int 0, .int 0, .int 0, .int 0, .int 0, .int 0, .int 0, .ref ti, .ref si, .ref lo, .ref lh, .ref lk, .ref sp, .ref st, .ref pa, .ref br, .ref sg, .int 0, .int 0, .int 0, .int 0, .int 0, .int 0, .long 0, .long 0, .long 0, .long 0, .int 0])), (lo, .inr (3, [.int 0, .ref (z 0), .int 0])), (q5, .inr (18, [.int 0, .int 0, .int 0, .int 0, .int 0, .int 0]))] H := hP
  have hD : va_D A [(mo, .inr (19, [.int 0, .int 0, .int 0, .int 0, .int 0, .int 0, .int 0, .ref ti, .ref si, .ref lo, .ref lh, .ref lk, .ref sp, .ref st, .ref pa, .ref br, .ref sg, .int 0, .int 0, .int 0, .int 0, .int 0, .int 0, .long 0, .long 0, .long 0, .long 0, .int 0])), (lo, .inr (3, [.int 0, .ref (z 0), .int 0])), (q5, .inr (18, [.int 0, .int 0, .int 0, .int 0, .int 0, .int 0]))] := hD
  refine lv_dup hx hb dX15_order_166 rfl ?_
  refine lv_iload_n hx hb dX15_order_167 rfl (lv_at hl 3 rfl) ?_
  refine lv_iload_n hx hb dX15_order_168 rfl (lv_at hl 4 rfl) ?_
  refine lv_iload_n hx hb dX15_order_169 rfl (lv_at hl 5 rfl) ?_
  refine lv_aload_n hx hb dX15_order_170 rfl (lv_at hl 2 rfl) ?_
  refine va_get (D := (dC, dI)) (ci := 19) (v := .int 0) (C := RX15) (T := TX15) (N := 28) hx hb hts hiX15 hown hK hP 0 rfl rfl 17 (by decide) (hts (.fieldLink RX15 163 "SquareRigModel" "minute" "I") (by decide +kernel)) (fun _ h9 => h9) rfl dX15_order_171 ?_
  have hPc := hP.sub (ws' := [(q5, .inr (18, [.int 0, .int 0, .int 0, .int 0, .int 0, .int 0]))]) [2] rfl
  have hDc := hD.sub (ws' := [(q5, .inr (18, [.int 0, .int 0, .int 0, .int 0, .int 0, .int 0]))]) [2] (by decide) rfl
  have hKc := hK.sub (tys' := []) [] rfl
  have hFc := va_free (wc := [(q5, .inr (18, [.int 0, .int 0, .int 0, .int 0, .int 0, .int 0]))]) hD hS hA [2] rfl
  refine va_callv (va_runI (As := [.int 115, .int 1, .int p2, .int 0]) (rest := [.ref q5, .ref lo]) ⟨hx, hb, hml, hown, hts⟩ (k_MOrder_init115 l dC dI z zK zV q5 1 p2 0 H.size) (cwI 4 hts gX15_order_X14_init rfl rfl rfl (hts (.initialized RX14) (by decide +kernel)) (hts (.methodLink RX15 166 yX14_init) (by decide +kernel)) (hts (.instanceMethod yX14_init) (by decide +kernel)) rfl (by decide +kernel) ⟨Nat.le_of_ble_eq_true rfl, Nat.le_of_ble_eq_true rfl⟩) ⟨kP_blind, kP_go hPc hKc hDc hFc hM hS⟩ rfl rfl hl.1 rfl (lv_room (Nat.le_of_ble_eq_true rfl)) dX15_order_174 ⟨Nat.le_of_ble_eq_true rfl, Nat.le_of_ble_eq_true rfl⟩) hS (fun q _ h => hFc q h) hFc (fun u t H1 locs ht hvm hw hB hz1 hk1 hS => ?_)
  obtain ⟨hP, hD, hK⟩ := kJ (wr := [(mo, .inr (19, [.int 0, .int 0, .int 0, .int 0, .int 0, .int 0, .int 0, .ref ti, .ref si, .ref lo, .ref lh, .ref lk, .ref sp, .ref st, .ref pa, .ref br, .ref sg, .int 0, .int 0, .int 0, .int 0, .int 0, .int 0, .long 0, .long 0, .long 0, .long 0, .int 0])), (lo, .inr (3, [.int 0, .ref (z 0), .int 0]))]) (w1 := [(q5, .inr (18, [.int 115, .int 1, .int p2, .int 0, .int 119, .int 0]))]) (t1 := []) hP hD hK [2] [0, 1] rfl rfl (by decide) (by decide) hk1 hFc ht hvm hB
  generalize H1 = H at hP hS ⊢
  have hP : va_P (dC, dI) vwCl [(mo, .inr (19, [.int 0, .int 0, .int 0, .int 0, .int 0, .int 0, .int 0, .ref ti, .ref si, .ref lo, .ref lh, .ref lk, .ref sp, .ref st, .ref pa, .ref br, .ref sg, .int 0, .int 0, .int 0, .int 0, .int 0, .int 0, .long 0, .long 0, .long 0, .long 0, .int 0])), (lo, .inr (3, [.int 0, .ref (z 0), .int 0])), (q5, .inr (18, [.int 115, .int 1, .int p2, .int 0, .int 119, .int 0]))] H := hP
  have hD : va_D A [(mo, .inr (19, [.int 0, .int 0, .int 0, .int 0, .int 0, .int 0, .int 0, .ref ti, .ref si, .ref lo, .ref lh, .ref lk, .ref sp, .ref st, .ref pa, .ref br, .ref sg, .int 0, .int 0, .int 0, .int 0, .int 0, .int 0, .long 0, .long 0, .long 0, .long 0, .int 0])), (lo, .inr (3, [.int 0, .ref (z 0), .int 0])), (q5, .inr (18, [.int 115, .int 1, .int p2, .int 0, .int 119, .int 0]))] := hD
  have hK : va_K (dC, dI) vwCl [] s := hK
  clear hw
  have hPc := hP.sub (ws' := [(lo, .inr (3, [.int 0, .ref (z 0), .int 0])), (q5, .inr (18, [.int 115, .int 1, .int p2, .int 0, .int 119, .int 0]))]) [1, 2] rfl
  have hDc := hD.sub (ws' := [(lo, .inr (3, [.int 0, .ref (z 0), .int 0])), (q5, .inr (18, [.int 115, .int 1, .int p2, .int 0, .int 119, .int 0]))]) [1, 2] (by decide) rfl
  have hKc := hK.sub (tys' := []) [] rfl
  have hFc := va_free (wc := [(lo, .inr (3, [.int 0, .ref (z 0), .int 0])), (q5, .inr (18, [.int 115, .int 1, .int p2, .int 0, .int 119, .int 0]))]) hD hS hA [1, 2] rfl
  refine va_callFi (va_runF (hK.1 3 _ rfl).2 (As := [.ref q5]) (rest := []) ⟨hx, hb, hml, hown, hts⟩ (k_add1_oo l dC dI z zK zV lo 0 q5 115 1 p2 0 119 0 H.size) (va_cwF 1 hts gX15_order_Jx4a65c_add_9ea2d_f169Jx4a65c rfl rfl rfl hM.2.2.2.2.2.2.2.2.2.2.1.2.2.2.2 (by decide +kernel) ⟨Nat.le_of_ble_eq_true rfl, Nat.le_of_ble_eq_true rfl⟩) ⟨kP_blind, va_recv hKc hPc (ci := 3) (q0 := 0) rfl rfl, kP_go hPc hKc hDc hFc hM hS⟩ rfl rfl hl.1 rfl (lv_room (Nat.le_of_ble_eq_true rfl)) dX15_order_177 ⟨Nat.le_of_ble_eq_true rfl, Nat.le_of_ble_eq_true rfl⟩) hS (fun q _ h => hFc q h) hFc (fun r6 u t H1 locs ht hvm hw hB hz1 hk1 hS => ?_)
  obtain ⟨q7, cA8, hB⟩ := hB
  obtain ⟨hP, hD, hK⟩ := kJ (wr := [(mo, .inr (19, [.int 0, .int 0, .int 0, .int 0, .int 0, .int 0, .int 0, .ref ti, .ref si, .ref lo, .ref lh, .ref lk, .ref sp, .ref st, .ref pa, .ref br, .ref sg, .int 0, .int 0, .int 0, .int 0, .int 0, .int 0, .long 0, .long 0, .long 0, .long 0, .int 0]))]) (w1 := [(q5, .inr (18, [.int 115, .int 1, .int p2, .int 0, .int 119, .int 0])), (lo, .inr (3, [.int (0 + 1), .ref q7, .int 1])), (q7, .inl (cA8, 10, .inr (.inr (.inr (.inr (va_up (fun _ => none) 0 (some q5)))))))]) (t1 := [(cA8, .object "java/lang/Object")]) hP hD hK [1, 2] [0] rfl rfl (by decide) (by decide) hk1 hFc ht hvm hB
  generalize H1 = H at hP hS ⊢
  have hP : va_P (dC, dI) vwCl [(mo, .inr (19, [.int 0, .int 0, .int 0, .int 0, .int 0, .int 0, .int 0, .ref ti, .ref si, .ref lo, .ref lh, .ref lk, .ref sp, .ref st, .ref pa, .ref br, .ref sg, .int 0, .int 0, .int 0, .int 0, .int 0, .int 0, .long 0, .long 0, .long 0, .long 0, .int 0])), (q5, .inr (18, [.int 115, .int 1, .int p2, .int 0, .int 119, .int 0])), (lo, .inr (3, [.int (0 + 1), .ref q7, .int 1])), (q7, .inl (cA8, 10, .inr (.inr (.inr (.inr (va_up (fun _ => none) 0 (some q5)))))))] H := hP
  have hD : va_D A [(mo, .inr (19, [.int 0, .int 0, .int 0, .int 0, .int 0, .int 0, .int 0, .ref ti, .ref si, .ref lo, .ref lh, .ref lk, .ref sp, .ref st, .ref pa, .ref br, .ref sg, .int 0, .int 0, .int 0, .int 0, .int 0, .int 0, .long 0, .long 0, .long 0, .long 0, .int 0])), (q5, .inr (18, [.int 115, .int 1, .int p2, .int 0, .int 119, .int 0])), (lo, .inr (3, [.int (0 + 1), .ref q7, .int 1])), (q7, .inl (cA8, 10, .inr (.inr (.inr (.inr (va_up (fun _ => none) 0 (some q5)))))))] := hD
  have hK : va_K (dC, dI) vwCl [(cA8, .object "java/lang/Object")] s := hK
  obtain rfl : 1 = r6 := hw
  refine lv_pop hx hb dX15_order_182 rfl ?_
  refine lv_aload_n hx hb dX15_order_183 rfl (lv_at hl 2 rfl) ?_
  refine va_get (D := (dC, dI)) (ci := 19) (v := .ref lo) (C := RX15) (T := TX15) (N := 28) hx hb hts hiX15 hown hK hP 0 rfl rfl 9 (by decide) (hts (.fieldLink RX15 19 "SquareRigModel" "orders" "Ljava/util/List;") (by decide +kernel)) (fun _ h9 => h9) rfl dX15_order_184 ?_
  have hPc := hP.sub (ws' := [(lo, .inr (3, [.int (0 + 1), .ref q7, .int 1]))]) [2] rfl
  have hDc := hD.sub (ws' := [(lo, .inr (3, [.int (0 + 1), .ref q7, .int 1]))]) [2] (by decide) rfl
  have hKc := hK.sub (tys' := []) [] rfl
  have hFc := va_free (wc := [(lo, .inr (3, [.int (0 + 1), .ref q7, .int 1]))]) hD hS hA [2] rfl
  refine va_callFi (va_runF (hK.1 3 _ rfl).2 (As := []) (rest := []) ⟨hx, hb, hml, hown, hts⟩ (k_size1 l dC dI z zK zV lo (0 + 1) q7 H.size) (va_cwF 0 hts gX15_order_Jx4a65c_size_8abf5_f156Jx4a65c rfl rfl rfl hM.2.2.2.2.2.2.2.2.2.2.1.2.2.1 (by decide +kernel) ⟨Nat.le_of_ble_eq_true rfl, Nat.le_of_ble_eq_true rfl⟩) ⟨kP_blind, va_recv hKc hPc (ci := 3) (q0 := 0) rfl rfl, kP_go hPc hKc hDc hFc hM hS⟩ rfl rfl hl.1 rfl (lv_room (Nat.le_of_ble_eq_true rfl)) dX15_order_187 ⟨Nat.le_of_ble_eq_true rfl, Nat.le_of_ble_eq_true rfl⟩) hS (fun q _ h => hFc q h) hFc (fun r9 u t H1 locs ht hvm hw hB hz1 hk1 hS => ?_)
  obtain ⟨hP, hD, hK⟩ := kJ (wr := [(mo, .inr (19, [.int 0, .int 0, .int 0, .int 0, .int 0, .int 0, .int 0, .ref ti, .ref si, .ref lo, .ref lh, .ref lk, .ref sp, .ref st, .ref pa, .ref br, .ref sg, .int 0, .int 0, .int 0, .int 0, .int 0, .int 0, .long 0, .long 0, .long 0, .long 0, .int 0])), (q5, .inr (18, [.int 115, .int 1, .int p2, .int 0, .int 119, .int 0])), (q7, .inl (cA8, 10, .inr (.inr (.inr (.inr (va_up (fun _ => none) 0 (some q5)))))))]) (w1 := [(lo, .inr (3, [.int (0 + 1), .ref q7, .int 1]))]) (t1 := []) hP hD hK [2] [0, 1, 3] rfl rfl (by decide) (by decide) hk1 hFc ht hvm hB
  generalize H1 = H at hP hS ⊢
  have hP : va_P (dC, dI) vwCl [(mo, .inr (19, [.int 0, .int 0, .int 0, .int 0, .int 0, .int 0, .int 0, .ref ti, .ref si, .ref lo, .ref lh, .ref lk, .ref sp, .ref st, .ref pa, .ref br, .ref sg, .int 0, .int 0, .int 0, .int 0, .int 0, .int 0, .long 0, .long 0, .long 0, .long 0, .int 0])), (q5, .inr (18, [.int 115, .int 1, .int p2, .int 0, .int 119, .int 0])), (q7, .inl (cA8, 10, .inr (.inr (.inr (.inr (va_up (fun _ => none) 0 (some q5))))))), (lo, .inr (3, [.int (0 + 1), .ref q7, .int 1]))] H := hP
  have hD : va_D A [(mo, .inr (19, [.int 0, .int 0, .int 0, .int 0, .int 0, .int 0, .int 0, .ref ti, .ref si, .ref lo, .ref lh, .ref lk, .ref sp, .ref st, .ref pa, .ref br, .ref sg, .int 0, .int 0, .int 0, .int 0, .int 0, .int 0, .long 0, .long 0, .long 0, .long 0, .int 0])), (q5, .inr (18, [.int 115, .int 1, .int p2, .int 0, .int 119, .int 0])), (q7, .inl (cA8, 10, .inr (.inr (.inr (.inr (va_up (fun _ => none) 0 (some q5))))))), (lo, .inr (3, [.int (0 + 1), .ref q7, .int 1]))] := hD
  have hK : va_K (dC, dI) vwCl [(cA8, .object "java/lang/Object")] s := hK
  obtain rfl : 1 = r9 := hw
  refine lv_iconst (v := 1) hx hb dX15_order_192 (by decide) ?_
  refine lv_isub hx hb dX15_order_193 ?_
  refine kc_i (y := 0) (by decide +kernel) ?_
  refine W.widen (k := 2) (n := 16) (Nat.le_of_ble_eq_true rfl) (Nat.le_of_ble_eq_true rfl) ?_
  exact W.iret (v := 0) hx hb hr (fun t ht hW => ⟨⟨0, (), rfl, rfl, kB_end (w9 := [(mo, .inr (19, [.int 0, .int 0, .int 0, .int 0, .int 0, .int 0, .int 0, .ref ti, .ref si, .ref lo, .ref lh, .ref lk, .ref sp, .ref st, .ref pa, .ref br, .ref sg, .int 0, .int 0, .int 0, .int 0, .int 0, .int 0, .long 0, .long 0, .long 0, .long 0, .int 0]))]) (t9 := []) hP hK hD [0] [] rfl (by decide) rfl rfl t ht hW⟩, hS.F ht⟩) hS.2.2 dX15_order_194
abbrev wd_k_m_order_s2 (z : Nat → Nat) (p2 : Int32) (mo : Nat) (ti : Nat) (si : Nat) (lo : Nat) (lh : Nat) (lk : Nat) (sp : Nat) (st : Nat) (pa : Nat) (br : Nat) (sg : Nat) (th : Int32) : va_W := [(mo, .inr (19, [.int 0, .int 0, .int 0, .int 0, .int 0, .int 0, .int 0, .ref ti, .ref si, .ref lo, .ref lh, .ref lk, .ref sp, .ref st, .ref pa, .ref br, .ref sg, .int 0, .int 0, .int 0, .int 0, .int 0, .int 0, .long 0, .long 0, .long 0, .long 0, .int th])), (lo, .inr (3, [.int 0, .ref (z 0), .int 0]))]
set_option maxHeartbeats 4000000 in
set_option maxRecDepth 100000 in
theorem k_m_order_s2 (l : Launch) (dC : Nat → ClassId) (dI : Nat → Nat → Nat) (z zK zV : Nat → Nat) (p2 : Int32) (mo : Nat) (ti : Nat) (si : Nat) (lo : Nat) (lh : Nat) (lk : Nat) (sp : Nat) (st : Nat) (pa : Nat) (br : Nat) (sg : Nat) (th : Int32) (sz : Nat) (hg0 : (0 : Int32) ≤ p2 ∧ p2 ≤ 2) : Met l yX15_order wsX15_order ({ frames := 5, cells := 2, slots := 16, locals := 101 }) (kP dC dI z zK zV [.ref mo, .int 115, .int 2, .int p2] sz (wd_k_m_order_s2 z p2 mo ti si lo lh lk sp st pa br sg th) []) (va_Qi (fun (r : Int32) (_ : Unit) => 0 = r) (fun _ t => kB (dC, dI) (va_A (wd_k_m_order_s2 z p2 mo ti si lo lh lk sp st pa br sg th) sz) [(mo, .inr (19, [.int 0, .int 0, .int 0, .int 0, .int 0, .int 0, .int 0, .ref ti, .ref si, .ref lo, .ref lh, .ref lk, .ref sp, .ref st, .ref pa, .ref br, .ref sg, .int 0, .int 0, .int 0, .int 0, .int 0, .int 0, .long 0, .long 0, .long 0, .long 0, .int 0]))] [] t) (va_A (wd_k_m_order_s2 z p2 mo ti si lo lh lk sp st pa br sg th) sz)) 2 16 (va_A (wd_k_m_order_s2 z p2 mo ti si lo lh lk sp st pa br sg th) sz) := by
  refine Met.ofW (cc := cX15_order) (maxL := 6) (ret := (some .int)) (by decide) rfl ?_
  intro p e s m args below meth c s₁ B hml hv
  obtain ⟨rfl, hsz, hP, hK, hD0, hM⟩ := hv
  have hx := B.exec
  have hb := B.bytes
  have hr := B.returns
  have hts := atoms_spec (ws := wsX15_order) B.pre
  have hown : s.vm.findClass RX15 = some m.cls := findClass_of_methodNamed B.named
  have hlocks := B.notSynchronized
  have hiX15 : ∀ w ∈ u_ws RX15 TX15 28, w ∈ wsX15_order := by decide +kernel
  have hiX14 : ∀ w ∈ u_ws RX14 TX14 6, w ∈ wsX15_order := by decide +kernel
  subst hsz
  have hD := hD0.self (sz := s.heap.size)
  generalize hAe : va_A (wd_k_m_order_s2 z p2 mo ti si lo lh lk sp st pa br sg th) s.heap.size = A at hD hM ⊢
  have hA : ∀ q : Nat, s.heap.size ≤ q → A q := fun q h => by rw [← hAe]; exact Or.inr h
  have hS : va_S A s.heap s.heap [] := va_S.rf
  have hP : va_P (dC, dI) vwCl [(mo, .inr (19, [.int 0, .int 0, .int 0, .int 0, .int 0, .int 0, .int 0, .ref ti, .ref si, .ref lo, .ref lh, .ref lk, .ref sp, .ref st, .ref pa, .ref br, .ref sg, .int 0, .int 0, .int 0, .int 0, .int 0, .int 0, .long 0, .long 0, .long 0, .long 0, .int th])), (lo, .inr (3, [.int 0, .ref (z 0), .int 0]))] s.heap := hP
  have hD : va_D A [(mo, .inr (19, [.int 0, .int 0, .int 0, .int 0, .int 0, .int 0, .int 0, .ref ti, .ref si, .ref lo, .ref lh, .ref lk, .ref sp, .ref st, .ref pa, .ref br, .ref sg, .int 0, .int 0, .int 0, .int 0, .int 0, .int 0, .long 0, .long 0, .long 0, .long 0, .int th])), (lo, .inr (3, [.int 0, .ref (z 0), .int 0]))] := hD
  have hl := lv_entry ([.ref mo, .int 115, .int 2, .int p2]) (n := 6) (Nat.le_of_ble_eq_true rfl)
  rw [lg_entry_eq]
  generalize (lg_sl ([.ref mo, .int 115, .int 2, .int p2]) ++ List.replicate (6 - (lg_sl ([.ref mo, .int 115, .int 2, .int p2])).length) Slot.unset).toArray = ls at hl ⊢
  have hl : lv_has ls 6 [(0, .ref mo), (1, .int 115), (2, .int 2), (3, .int p2)] := hl
  refine lv_iload_n hx hb dX15_order_0 rfl (lv_at hl 1 rfl) ?_
  refine lv_bipush (v := 115) hx hb dX15_order_1 (by decide) ?_
  refine lv_icmp_eq (tgt := 12) hx hb dX15_order_3 (by decide) (fun _ => ?_) (fun c_ => absurd (by decide +kernel) c_)
  refine lv_iconst (v := 1) hx hb dX15_order_12 (by decide) ?_
  refine lv_goto (tgt := 17) hx hb dX15_order_13 (by decide) ?_
  refine lv_istore (lv' := [(4, .int 1), (0, .ref mo), (1, .int 115), (2, .int 2), (3, .int p2)]) hx hb dX15_order_17 hl (by decide) rfl (fun ls hl => ?_)
  refine va_ldcS hx hb hown (hM.2.2.1 0 _ rfl) dX15_order_19 ?_
  refine lv_iload_n hx hb dX15_order_21 rfl (lv_at hl 2 rfl) ?_
  have hPc := hP.sub (ws' := []) [] rfl
  have hDc := hD.sub (ws' := []) [] (by decide) rfl
  have hKc := hK.sub (tys' := []) [] rfl
  have hFc := va_free (wc := []) hD hS hA [] rfl
  refine va_calli (va_runV (As := [.int 115]) (rest := []) ⟨hx, hb, hml, hown, hts⟩ (k_ix3_115 l dC dI z zK zV  s.heap.size) (cwV 1 hts gX15_order_J0_indexOf_0f7a4 rfl rfl rfl (by decide +kernel) ⟨Nat.le_of_ble_eq_true rfl, Nat.le_of_ble_eq_true rfl⟩) ⟨kP_blind, vk_recv (i := 0) hM.2.2.2.1 (by decide) hS, kP_go hPc hKc hDc hFc hM hS⟩ rfl rfl hl.1 rfl (lv_room (Nat.le_of_ble_eq_true rfl)) dX15_order_22 ⟨Nat.le_of_ble_eq_true rfl, Nat.le_of_ble_eq_true rfl⟩) hS (fun q _ h => hFc q h) hFc (fun r1 u t H1 locs ht hvm hw hB hz1 hk1 hS => ?_)
  obtain ⟨hP, hD, hK⟩ := kJ (wr := [(mo, .inr (19, [.int 0, .int 0, .int 0, .int 0, .int 0, .int 0, .int 0, .ref ti, .ref si, .ref lo, .ref lh, .ref lk, .ref sp, .ref st, .ref pa, .ref br, .ref sg, .int 0, .int 0, .int 0, .int 0, .int 0, .int 0, .long 0, .long 0, .long 0, .long 0, .int th])), (lo, .inr (3, [.int 0, .ref (z 0), .int 0]))]) (w1 := []) (t1 := []) hP hD hK [] [0, 1] rfl rfl (by decide) (by decide) hk1 hFc ht hvm hB
  generalize H1 = H at hP hS ⊢
  have hP : va_P (dC, dI) vwCl [(mo, .inr (19, [.int 0, .int 0, .int 0, .int 0, .int 0, .int 0, .int 0, .ref ti, .ref si, .ref lo, .ref lh, .ref lk, .ref sp, .ref st, .ref pa, .ref br, .ref sg, .int 0, .int 0, .int 0, .int 0, .int 0, .int 0, .long 0, .long 0, .long 0, .long 0, .int th])), (lo, .inr (3, [.int 0, .ref (z 0), .int 0]))] H := hP
  have hD : va_D A [(mo, .inr (19, [.int 0, .int 0, .int 0, .int 0, .int 0, .int 0, .int 0, .ref ti, .ref si, .ref lo, .ref lh, .ref lk, .ref sp, .ref st, .ref pa, .ref br, .ref sg, .int 0, .int 0, .int 0, .int 0, .int 0, .int 0, .long 0, .long 0, .long 0, .long 0, .int th])), (lo, .inr (3, [.int 0, .ref (z 0), .int 0]))] := hD
  have hK : va_K (dC, dI) vwCl [] s := hK
  obtain rfl : 0 = r1 := hw
  refine lv_if_lt (tgt := 55) hx hb dX15_order_25 (by decide) (fun c_ => absurd c_ (by decide +kernel)) (fun _ => ?_)
  refine lv_iload_n hx hb dX15_order_28 rfl (lv_at hl 3 rfl) ?_
  refine lv_i2l (v := 2) hx hb dX15_order_29 (by decide +kernel) ?_
  refine lv_lconst (v := 0) hx hb dX15_order_30 (by decide) ?_
  refine lv_iload hx hb dX15_order_31 (lv_at hl 0 rfl) ?_
  refine lv_if_eq (tgt := 42) hx hb dX15_order_33 (by decide) (fun c_ => absurd c_ (by decide +kernel)) (fun _ => ?_)
  refine lv_ldc2 (v := 8) hx hb hown (hts (.constantLong RX15 148 8) (by decide +kernel)) dX15_order_36 ?_
  refine lv_goto (tgt := 45) hx hb dX15_order_39 (by decide) ?_
  have hPc := hP.sub (ws' := []) [] rfl
  have hDc := hD.sub (ws' := []) [] (by decide) rfl
  have hKc := hK.sub (tys' := []) [] rfl
  have hFc := va_free (wc := []) hD hS hA [] rfl
  refine va_calli (va_runS (As := [.long 2, .long 0, .long 8]) (rest := []) ⟨hx, hb, hml, hown, hts⟩ (k_in l dC dI z zK zV 2 0 8 H.size) (va_cwS 3 hts gX15_order_X15_in rfl rfl rfl (by decide +kernel) ⟨Nat.le_of_ble_eq_true rfl, Nat.le_of_ble_eq_true rfl⟩) ⟨kP_blind, kP_go hPc hKc hDc hFc hM hS⟩ rfl rfl hl.1 rfl (lv_room (Nat.le_of_ble_eq_true rfl)) dX15_order_45 ⟨Nat.le_of_ble_eq_true rfl, Nat.le_of_ble_eq_true rfl⟩) hS (fun q _ h => hFc q h) hFc (fun r2 u t H1 locs ht hvm hw hB hz1 hk1 hS => ?_)
  obtain ⟨hP, hD, hK⟩ := kJ (wr := [(mo, .inr (19, [.int 0, .int 0, .int 0, .int 0, .int 0, .int 0, .int 0, .ref ti, .ref si, .ref lo, .ref lh, .ref lk, .ref sp, .ref st, .ref pa, .ref br, .ref sg, .int 0, .int 0, .int 0, .int 0, .int 0, .int 0, .long 0, .long 0, .long 0, .long 0, .int th])), (lo, .inr (3, [.int 0, .ref (z 0), .int 0]))]) (w1 := []) (t1 := []) hP hD hK [] [0, 1] rfl rfl (by decide) (by decide) hk1 hFc ht hvm hB
  generalize H1 = H at hP hS ⊢
  have hP : va_P (dC, dI) vwCl [(mo, .inr (19, [.int 0, .int 0, .int 0, .int 0, .int 0, .int 0, .int 0, .ref ti, .ref si, .ref lo, .ref lh, .ref lk, .ref sp, .ref st, .ref pa, .ref br, .ref sg, .int 0, .int 0, .int 0, .int 0, .int 0, .int 0, .long 0, .long 0, .long 0, .long 0, .int th])), (lo, .inr (3, [.int 0, .ref (z 0), .int 0]))] H := hP
  have hD : va_D A [(mo, .inr (19, [.int 0, .int 0, .int 0, .int 0, .int 0, .int 0, .int 0, .ref ti, .ref si, .ref lo, .ref lh, .ref lk, .ref sp, .ref st, .ref pa, .ref br, .ref sg, .int 0, .int 0, .int 0, .int 0, .int 0, .int 0, .long 0, .long 0, .long 0, .long 0, .int th])), (lo, .inr (3, [.int 0, .ref (z 0), .int 0]))] := hD
  have hK : va_K (dC, dI) vwCl [] s := hK
  obtain rfl : (if 0 ≤ 2 ∧ 2 ≤ 8 then (1 : Int32) else 0) = r2 := hw
  refine kc_i (y := 1) (by decide +kernel) ?_
  refine lv_if_eq (tgt := 55) hx hb dX15_order_48 (by decide) (fun c_ => absurd c_ (by decide +kernel)) (fun _ => ?_)
  refine lv_iconst (v := 1) hx hb dX15_order_51 (by decide) ?_
  refine lv_goto (tgt := 56) hx hb dX15_order_52 (by decide) ?_
  refine lv_istore (lv' := [(5, .int 1), (4, .int 1), (0, .ref mo), (1, .int 115), (2, .int 2), (3, .int p2)]) hx hb dX15_order_56 hl (by decide) rfl (fun ls hl => ?_)
  refine lv_iload hx hb dX15_order_58 (lv_at hl 0 rfl) ?_
  refine lv_if_eq (tgt := 115) hx hb dX15_order_60 (by decide) (fun c_ => absurd c_ (by decide +kernel)) (fun _ => ?_)
  refine lv_iload_n hx hb dX15_order_63 rfl (lv_at hl 3 rfl) ?_
  refine lv_bipush (v := 115) hx hb dX15_order_64 (by decide) ?_
  refine lv_icmp_ne (tgt := 84) hx hb dX15_order_66 (by decide) (fun c_ => absurd (by decide +kernel) c_) (fun _ => ?_)
  refine lv_iload_n hx hb dX15_order_69 rfl (lv_at hl 5 rfl) ?_
  refine lv_i2l (v := p2.toInt64) hx hb dX15_order_70 rfl ?_
  refine lv_lconst (v := 0) hx hb dX15_order_71 (by decide) ?_
  refine lv_ldc2 (v := 2) hx hb hown (hts (.constantLong RX15 150 2) (by decide +kernel)) dX15_order_72 ?_
  have hPc := hP.sub (ws' := []) [] rfl
  have hDc := hD.sub (ws' := []) [] (by decide) rfl
  have hKc := hK.sub (tys' := []) [] rfl
  have hFc := va_free (wc := []) hD hS hA [] rfl
  refine va_calli (va_runS (As := [.long p2.toInt64, .long 0, .long 2]) (rest := []) ⟨hx, hb, hml, hown, hts⟩ (k_in l dC dI z zK zV p2.toInt64 0 2 H.size) (va_cwS 3 hts gX15_order_X15_in rfl rfl rfl (by decide +kernel) ⟨Nat.le_of_ble_eq_true rfl, Nat.le_of_ble_eq_true rfl⟩) ⟨kP_blind, kP_go hPc hKc hDc hFc hM hS⟩ rfl rfl hl.1 rfl (lv_room (Nat.le_of_ble_eq_true rfl)) dX15_order_75 ⟨Nat.le_of_ble_eq_true rfl, Nat.le_of_ble_eq_true rfl⟩) hS (fun q _ h => hFc q h) hFc (fun r3 u t H1 locs ht hvm hw hB hz1 hk1 hS => ?_)
  obtain ⟨hP, hD, hK⟩ := kJ (wr := [(mo, .inr (19, [.int 0, .int 0, .int 0, .int 0, .int 0, .int 0, .int 0, .ref ti, .ref si, .ref lo, .ref lh, .ref lk, .ref sp, .ref st, .ref pa, .ref br, .ref sg, .int 0, .int 0, .int 0, .int 0, .int 0, .int 0, .long 0, .long 0, .long 0, .long 0, .int th])), (lo, .inr (3, [.int 0, .ref (z 0), .int 0]))]) (w1 := []) (t1 := []) hP hD hK [] [0, 1] rfl rfl (by decide) (by decide) hk1 hFc ht hvm hB
  generalize H1 = H at hP hS ⊢
  have hP : va_P (dC, dI) vwCl [(mo, .inr (19, [.int 0, .int 0, .int 0, .int 0, .int 0, .int 0, .int 0, .ref ti, .ref si, .ref lo, .ref lh, .ref lk, .ref sp, .ref st, .ref pa, .ref br, .ref sg, .int 0, .int 0, .int 0, .int 0, .int 0, .int 0, .long 0, .long 0, .long 0, .long 0, .int th])), (lo, .inr (3, [.int 0, .ref (z 0), .int 0]))] H := hP
  have hD : va_D A [(mo, .inr (19, [.int 0, .int 0, .int 0, .int 0, .int 0, .int 0, .int 0, .ref ti, .ref si, .ref lo, .ref lh, .ref lk, .ref sp, .ref st, .ref pa, .ref br, .ref sg, .int 0, .int 0, .int 0, .int 0, .int 0, .int 0, .long 0, .long 0, .long 0, .long 0, .int th])), (lo, .inr (3, [.int 0, .ref (z 0), .int 0]))] := hD
  have hK : va_K (dC, dI) vwCl [] s := hK
  obtain rfl : (if 0 ≤ (p2.toInt64) ∧ (p2.toInt64) ≤ 2 then (1 : Int32) else 0) = r3 := hw
  refine kc_i (y := (if 0 ≤ p2 ∧ p2 ≤ 2 then (1 : Int32) else 0)) (k_inP (a := 0) (b := 2) (by decide +kernel) (by decide +kernel)) ?_
  refine lv_if_eq (tgt := 115) hx hb dX15_order_78 (by decide) (fun c_ => absurd c_ (k_ifp hg0)) (fun _ => ?_)
  refine lv_goto (tgt := 111) hx hb dX15_order_81 (by decide) ?_
  refine lv_iconst (v := 1) hx hb dX15_order_111 (by decide) ?_
  refine lv_goto (tgt := 116) hx hb dX15_order_112 (by decide) ?_
  refine lv_istore (lv' := [(5, .int 1), (4, .int 1), (0, .ref mo), (1, .int 115), (2, .int 2), (3, .int p2)]) hx hb dX15_order_116 hl (by decide) rfl (fun ls hl => ?_)
  refine lv_aload_n hx hb dX15_order_118 rfl (lv_at hl 2 rfl) ?_
  refine lv_iload hx hb dX15_order_119 (lv_at hl 0 rfl) ?_
  refine lv_if_ne (tgt := 128) hx hb dX15_order_121 (by decide) (fun _ => ?_) (fun c_ => absurd c_ (by decide +kernel))
  refine lv_aload_n hx hb dX15_order_128 rfl (lv_at hl 2 rfl) ?_
  refine va_get (D := (dC, dI)) (ci := 19) (v := .ref lo) (C := RX15) (T := TX15) (N := 28) hx hb hts hiX15 hown hK hP 0 rfl rfl 9 (by decide) (hts (.fieldLink RX15 19 "SquareRigModel" "orders" "Ljava/util/List;") (by decide +kernel)) (fun _ h9 => h9) rfl dX15_order_129 ?_
  have hPc := hP.sub (ws' := [(lo, .inr (3, [.int 0, .ref (z 0), .int 0]))]) [1] rfl
  have hDc := hD.sub (ws' := [(lo, .inr (3, [.int 0, .ref (z 0), .int 0]))]) [1] (by decide) rfl
  have hKc := hK.sub (tys' := []) [] rfl
  have hFc := va_free (wc := [(lo, .inr (3, [.int 0, .ref (z 0), .int 0]))]) hD hS hA [1] rfl
  refine va_callFi (va_runF (hK.1 3 _ rfl).2 (As := []) (rest := [.ref mo]) ⟨hx, hb, hml, hown, hts⟩ (k_size0 l dC dI z zK zV lo H.size) (va_cwF 0 hts gX15_order_Jx4a65c_size_8abf5_f156Jx4a65c rfl rfl rfl hM.2.2.2.2.2.2.2.2.2.2.1.2.2.1 (by decide +kernel) ⟨Nat.le_of_ble_eq_true rfl, Nat.le_of_ble_eq_true rfl⟩) ⟨kP_blind, va_recv hKc hPc (ci := 3) (q0 := 0) rfl rfl, kP_go hPc hKc hDc hFc hM hS⟩ rfl rfl hl.1 rfl (lv_room (Nat.le_of_ble_eq_true rfl)) dX15_order_132 ⟨Nat.le_of_ble_eq_true rfl, Nat.le_of_ble_eq_true rfl⟩) hS (fun q _ h => hFc q h) hFc (fun r4 u t H1 locs ht hvm hw hB hz1 hk1 hS => ?_)
  obtain ⟨hP, hD, hK⟩ := kJ (wr := [(mo, .inr (19, [.int 0, .int 0, .int 0, .int 0, .int 0, .int 0, .int 0, .ref ti, .ref si, .ref lo, .ref lh, .ref lk, .ref sp, .ref st, .ref pa, .ref br, .ref sg, .int 0, .int 0, .int 0, .int 0, .int 0, .int 0, .long 0, .long 0, .long 0, .long 0, .int th]))]) (w1 := [(lo, .inr (3, [.int 0, .ref (z 0), .int 0]))]) (t1 := []) hP hD hK [1] [0] rfl rfl (by decide) (by decide) hk1 hFc ht hvm hB
  generalize H1 = H at hP hS ⊢
  have hP : va_P (dC, dI) vwCl [(mo, .inr (19, [.int 0, .int 0, .int 0, .int 0, .int 0, .int 0, .int 0, .ref ti, .ref si, .ref lo, .ref lh, .ref lk, .ref sp, .ref st, .ref pa, .ref br, .ref sg, .int 0, .int 0, .int 0, .int 0, .int 0, .int 0, .long 0, .long 0, .long 0, .long 0, .int th])), (lo, .inr (3, [.int 0, .ref (z 0), .int 0]))] H := hP
  have hD : va_D A [(mo, .inr (19, [.int 0, .int 0, .int 0, .int 0, .int 0, .int 0, .int 0, .ref ti, .ref si, .ref lo, .ref lh, .ref lk, .ref sp, .ref st, .ref pa, .ref br, .ref sg, .int 0, .int 0, .int 0, .int 0, .int 0, .int 0, .long 0, .long 0, .long 0, .long 0, .int th])), (lo, .inr (3, [.int 0, .ref (z 0), .int 0]))] := hD
  have hK : va_K (dC, dI) vwCl [] s := hK
  obtain rfl : 0 = r4 := hw
  refine lv_bipush (v := 100) hx hb dX15_order_137 (by decide) ?_
  refine lv_icmp_ne (tgt := 146) hx hb dX15_order_139 (by decide) (fun _ => ?_) (fun c_ => absurd c_ (by decide +kernel))
  refine lv_iconst (v := 0) hx hb dX15_order_146 (by decide) ?_
  refine va_put (D := (dC, dI)) (ci := 19) (v := .int 0) (ty := .int) (C := RX15) (T := TX15) (N := 28) hx hb hts hiX15 tyX15 tyX15_ok nmX15 hown hK hP hD hS 0 rfl rfl 27 (by decide) (hts (.fieldLink RX15 45 "SquareRigModel" "thrown" "I") (by decide +kernel)) (fun _ h9 => h9) rfl (by decide +kernel) rfl rfl (Nat.le_of_ble_eq_true rfl) dX15_order_147 (fun H locs hP hD hS => ?_)
  have hP : va_P (dC, dI) vwCl [(mo, .inr (19, [.int 0, .int 0, .int 0, .int 0, .int 0, .int 0, .int 0, .ref ti, .ref si, .ref lo, .ref lh, .ref lk, .ref sp, .ref st, .ref pa, .ref br, .ref sg, .int 0, .int 0, .int 0, .int 0, .int 0, .int 0, .long 0, .long 0, .long 0, .long 0, .int 0])), (lo, .inr (3, [.int 0, .ref (z 0), .int 0]))] H := hP
  have hD : va_D A [(mo, .inr (19, [.int 0, .int 0, .int 0, .int 0, .int 0, .int 0, .int 0, .ref ti, .ref si, .ref lo, .ref lh, .ref lk, .ref sp, .ref st, .ref pa, .ref br, .ref sg, .int 0, .int 0, .int 0, .int 0, .int 0, .int 0, .long 0, .long 0, .long 0, .long 0, .int 0])), (lo, .inr (3, [.int 0, .ref (z 0), .int 0]))] := hD
  refine lv_aload_n hx hb dX15_order_150 rfl (lv_at hl 2 rfl) ?_
  refine va_get (D := (dC, dI)) (ci := 19) (v := .int 0) (C := RX15) (T := TX15) (N := 28) hx hb hts hiX15 hown hK hP 0 rfl rfl 27 (by decide) (hts (.fieldLink RX15 45 "SquareRigModel" "thrown" "I") (by decide +kernel)) (fun _ h9 => h9) rfl dX15_order_151 ?_
  refine lv_if_le (tgt := 159) hx hb dX15_order_154 (by decide) (fun _ => ?_) (fun c_ => absurd (by decide +kernel) c_)
  refine lv_aload_n hx hb dX15_order_159 rfl (lv_at hl 2 rfl) ?_
  refine va_get (D := (dC, dI)) (ci := 19) (v := .ref lo) (C := RX15) (T := TX15) (N := 28) hx hb hts hiX15 hown hK hP 0 rfl rfl 9 (by decide) (hts (.fieldLink RX15 19 "SquareRigModel" "orders" "Ljava/util/List;") (by decide +kernel)) (fun _ h9 => h9) rfl dX15_order_160 ?_
  refine va_new (ci := 18) (fs := [.int 0, .int 0, .int 0, .int 0, .int 0, .int 0]) (C := RX14) (T := TX14) (N := 6) hx hb hts hiX14 tyX14 tyX14_ok hown (hts (.classLink RX15 161 RX14) (by decide +kernel)) (hts (.instantiable RX14 6) (by decide +kernel)) (hts (.initialized RX14) (by decide +kernel)) hK hP hD hS hA rfl (fun j hj => by rcases (show j = 0 ∨ j = 1 ∨ j = 2 ∨ j = 3 ∨ j = 4 ∨ j = 5 by omega) with rfl | rfl | rfl | rfl | rfl | rfl <;> rfl) (Nat.le_of_ble_eq_true rfl) (Nat.le_of_ble_eq_true rfl) dX15_order_163 (fun q5 H hP hD hS => ?_)
  have hP : va_P (dC, dI) vwCl [(mo, .inr (19, [.int 0, .int 0, .int 0, .int 0, .int 0, .int 0, .int 0, .ref ti, .ref si, .ref lo, .ref lh, .ref lk, .ref sp, .ref st, .ref pa, .ref br, .ref sg, .int 0, .int 0, .int 0, .int 0, .int 0, .int 0, .long 0, .long 0, .long 0, .long 0, .int 0])), (lo, .inr (3, [.int 0, .ref (z 0), .int 0])), (q5, .inr (18, [.int 0, .int 0, .int 0, .int 0, .int 0, .int 0]))] H := hP
  have hD : va_D A [(mo, .inr (19, [.int 0, .int 0, .int 0, .int 0, .int 0, .int 0, .int 0, .ref ti, .ref si, .ref lo, .ref lh, .ref lk, .ref sp, .ref st, .ref pa, .ref br, .ref sg, .int 0, .int 0, .int 0, .int 0, .int 0, .int 0, .long 0, .long 0, .long 0, .long 0, .int 0])), (lo, .inr (3, [.int 0, .ref (z 0), .int 0])), (q5, .inr (18, [.int 0, .int 0, .int 0, .int 0, .int 0, .int 0]))] := hD
  refine lv_dup hx hb dX15_order_166 rfl ?_
  refine lv_iload_n hx hb dX15_order_167 rfl (lv_at hl 3 rfl) ?_
  refine lv_iload_n hx hb dX15_order_168 rfl (lv_at hl 4 rfl) ?_
  refine lv_iload_n hx hb dX15_order_169 rfl (lv_at hl 5 rfl) ?_
  refine lv_aload_n hx hb dX15_order_170 rfl (lv_at hl 2 rfl) ?_
  refine va_get (D := (dC, dI)) (ci := 19) (v := .int 0) (C := RX15) (T := TX15) (N := 28) hx hb hts hiX15 hown hK hP 0 rfl rfl 17 (by decide) (hts (.fieldLink RX15 163 "SquareRigModel" "minute" "I") (by decide +kernel)) (fun _ h9 => h9) rfl dX15_order_171 ?_
  have hPc := hP.sub (ws' := [(q5, .inr (18, [.int 0, .int 0, .int 0, .int 0, .int 0, .int 0]))]) [2] rfl
  have hDc := hD.sub (ws' := [(q5, .inr (18, [.int 0, .int 0, .int 0, .int 0, .int 0, .int 0]))]) [2] (by decide) rfl
  have hKc := hK.sub (tys' := []) [] rfl
  have hFc := va_free (wc := [(q5, .inr (18, [.int 0, .int 0, .int 0, .int 0, .int 0, .int 0]))]) hD hS hA [2] rfl
  refine va_callv (va_runI (As := [.int 115, .int 2, .int p2, .int 0]) (rest := [.ref q5, .ref lo]) ⟨hx, hb, hml, hown, hts⟩ (k_MOrder_init115 l dC dI z zK zV q5 2 p2 0 H.size) (cwI 4 hts gX15_order_X14_init rfl rfl rfl (hts (.initialized RX14) (by decide +kernel)) (hts (.methodLink RX15 166 yX14_init) (by decide +kernel)) (hts (.instanceMethod yX14_init) (by decide +kernel)) rfl (by decide +kernel) ⟨Nat.le_of_ble_eq_true rfl, Nat.le_of_ble_eq_true rfl⟩) ⟨kP_blind, kP_go hPc hKc hDc hFc hM hS⟩ rfl rfl hl.1 rfl (lv_room (Nat.le_of_ble_eq_true rfl)) dX15_order_174 ⟨Nat.le_of_ble_eq_true rfl, Nat.le_of_ble_eq_true rfl⟩) hS (fun q _ h => hFc q h) hFc (fun u t H1 locs ht hvm hw hB hz1 hk1 hS => ?_)
  obtain ⟨hP, hD, hK⟩ := kJ (wr := [(mo, .inr (19, [.int 0, .int 0, .int 0, .int 0, .int 0, .int 0, .int 0, .ref ti, .ref si, .ref lo, .ref lh, .ref lk, .ref sp, .ref st, .ref pa, .ref br, .ref sg, .int 0, .int 0, .int 0, .int 0, .int 0, .int 0, .long 0, .long 0, .long 0, .long 0, .int 0])), (lo, .inr (3, [.int 0, .ref (z 0), .int 0]))]) (w1 := [(q5, .inr (18, [.int 115, .int 2, .int p2, .int 0, .int 119, .int 0]))]) (t1 := []) hP hD hK [2] [0, 1] rfl rfl (by decide) (by decide) hk1 hFc ht hvm hB
  generalize H1 = H at hP hS ⊢
  have hP : va_P (dC, dI) vwCl [(mo, .inr (19, [.int 0, .int 0, .int 0, .int 0, .int 0, .int 0, .int 0, .ref ti, .ref si, .ref lo, .ref lh, .ref lk, .ref sp, .ref st, .ref pa, .ref br, .ref sg, .int 0, .int 0, .int 0, .int 0, .int 0, .int 0, .long 0, .long 0, .long 0, .long 0, .int 0])), (lo, .inr (3, [.int 0, .ref (z 0), .int 0])), (q5, .inr (18, [.int 115, .int 2, .int p2, .int 0, .int 119, .int 0]))] H := hP
  have hD : va_D A [(mo, .inr (19, [.int 0, .int 0, .int 0, .int 0, .int 0, .int 0, .int 0, .ref ti, .ref si, .ref lo, .ref lh, .ref lk, .ref sp, .ref st, .ref pa, .ref br, .ref sg, .int 0, .int 0, .int 0, .int 0, .int 0, .int 0, .long 0, .long 0, .long 0, .long 0, .int 0])), (lo, .inr (3, [.int 0, .ref (z 0), .int 0])), (q5, .inr (18, [.int 115, .int 2, .int p2, .int 0, .int 119, .int 0]))] := hD
  have hK : va_K (dC, dI) vwCl [] s := hK
  clear hw
  have hPc := hP.sub (ws' := [(lo, .inr (3, [.int 0, .ref (z 0), .int 0])), (q5, .inr (18, [.int 115, .int 2, .int p2, .int 0, .int 119, .int 0]))]) [1, 2] rfl
  have hDc := hD.sub (ws' := [(lo, .inr (3, [.int 0, .ref (z 0), .int 0])), (q5, .inr (18, [.int 115, .int 2, .int p2, .int 0, .int 119, .int 0]))]) [1, 2] (by decide) rfl
  have hKc := hK.sub (tys' := []) [] rfl
  have hFc := va_free (wc := [(lo, .inr (3, [.int 0, .ref (z 0), .int 0])), (q5, .inr (18, [.int 115, .int 2, .int p2, .int 0, .int 119, .int 0]))]) hD hS hA [1, 2] rfl
  refine va_callFi (va_runF (hK.1 3 _ rfl).2 (As := [.ref q5]) (rest := []) ⟨hx, hb, hml, hown, hts⟩ (k_add1_oo l dC dI z zK zV lo 0 q5 115 2 p2 0 119 0 H.size) (va_cwF 1 hts gX15_order_Jx4a65c_add_9ea2d_f169Jx4a65c rfl rfl rfl hM.2.2.2.2.2.2.2.2.2.2.1.2.2.2.2 (by decide +kernel) ⟨Nat.le_of_ble_eq_true rfl, Nat.le_of_ble_eq_true rfl⟩) ⟨kP_blind, va_recv hKc hPc (ci := 3) (q0 := 0) rfl rfl, kP_go hPc hKc hDc hFc hM hS⟩ rfl rfl hl.1 rfl (lv_room (Nat.le_of_ble_eq_true rfl)) dX15_order_177 ⟨Nat.le_of_ble_eq_true rfl, Nat.le_of_ble_eq_true rfl⟩) hS (fun q _ h => hFc q h) hFc (fun r6 u t H1 locs ht hvm hw hB hz1 hk1 hS => ?_)
  obtain ⟨q7, cA8, hB⟩ := hB
  obtain ⟨hP, hD, hK⟩ := kJ (wr := [(mo, .inr (19, [.int 0, .int 0, .int 0, .int 0, .int 0, .int 0, .int 0, .ref ti, .ref si, .ref lo, .ref lh, .ref lk, .ref sp, .ref st, .ref pa, .ref br, .ref sg, .int 0, .int 0, .int 0, .int 0, .int 0, .int 0, .long 0, .long 0, .long 0, .long 0, .int 0]))]) (w1 := [(q5, .inr (18, [.int 115, .int 2, .int p2, .int 0, .int 119, .int 0])), (lo, .inr (3, [.int (0 + 1), .ref q7, .int 1])), (q7, .inl (cA8, 10, .inr (.inr (.inr (.inr (va_up (fun _ => none) 0 (some q5)))))))]) (t1 := [(cA8, .object "java/lang/Object")]) hP hD hK [1, 2] [0] rfl rfl (by decide) (by decide) hk1 hFc ht hvm hB
  generalize H1 = H at hP hS ⊢
  have hP : va_P (dC, dI) vwCl [(mo, .inr (19, [.int 0, .int 0, .int 0, .int 0, .int 0, .int 0, .int 0, .ref ti, .ref si, .ref lo, .ref lh, .ref lk, .ref sp, .ref st, .ref pa, .ref br, .ref sg, .int 0, .int 0, .int 0, .int 0, .int 0, .int 0, .long 0, .long 0, .long 0, .long 0, .int 0])), (q5, .inr (18, [.int 115, .int 2, .int p2, .int 0, .int 119, .int 0])), (lo, .inr (3, [.int (0 + 1), .ref q7, .int 1])), (q7, .inl (cA8, 10, .inr (.inr (.inr (.inr (va_up (fun _ => none) 0 (some q5)))))))] H := hP
  have hD : va_D A [(mo, .inr (19, [.int 0, .int 0, .int 0, .int 0, .int 0, .int 0, .int 0, .ref ti, .ref si, .ref lo, .ref lh, .ref lk, .ref sp, .ref st, .ref pa, .ref br, .ref sg, .int 0, .int 0, .int 0, .int 0, .int 0, .int 0, .long 0, .long 0, .long 0, .long 0, .int 0])), (q5, .inr (18, [.int 115, .int 2, .int p2, .int 0, .int 119, .int 0])), (lo, .inr (3, [.int (0 + 1), .ref q7, .int 1])), (q7, .inl (cA8, 10, .inr (.inr (.inr (.inr (va_up (fun _ => none) 0 (some q5)))))))] := hD
  have hK : va_K (dC, dI) vwCl [(cA8, .object "java/lang/Object")] s := hK
  obtain rfl : 1 = r6 := hw
  refine lv_pop hx hb dX15_order_182 rfl ?_
  refine lv_aload_n hx hb dX15_order_183 rfl (lv_at hl 2 rfl) ?_
  refine va_get (D := (dC, dI)) (ci := 19) (v := .ref lo) (C := RX15) (T := TX15) (N := 28) hx hb hts hiX15 hown hK hP 0 rfl rfl 9 (by decide) (hts (.fieldLink RX15 19 "SquareRigModel" "orders" "Ljava/util/List;") (by decide +kernel)) (fun _ h9 => h9) rfl dX15_order_184 ?_
  have hPc := hP.sub (ws' := [(lo, .inr (3, [.int (0 + 1), .ref q7, .int 1]))]) [2] rfl
  have hDc := hD.sub (ws' := [(lo, .inr (3, [.int (0 + 1), .ref q7, .int 1]))]) [2] (by decide) rfl
  have hKc := hK.sub (tys' := []) [] rfl
  have hFc := va_free (wc := [(lo, .inr (3, [.int (0 + 1), .ref q7, .int 1]))]) hD hS hA [2] rfl
  refine va_callFi (va_runF (hK.1 3 _ rfl).2 (As := []) (rest := []) ⟨hx, hb, hml, hown, hts⟩ (k_size1 l dC dI z zK zV lo (0 + 1) q7 H.size) (va_cwF 0 hts gX15_order_Jx4a65c_size_8abf5_f156Jx4a65c rfl rfl rfl hM.2.2.2.2.2.2.2.2.2.2.1.2.2.1 (by decide +kernel) ⟨Nat.le_of_ble_eq_true rfl, Nat.le_of_ble_eq_true rfl⟩) ⟨kP_blind, va_recv hKc hPc (ci := 3) (q0 := 0) rfl rfl, kP_go hPc hKc hDc hFc hM hS⟩ rfl rfl hl.1 rfl (lv_room (Nat.le_of_ble_eq_true rfl)) dX15_order_187 ⟨Nat.le_of_ble_eq_true rfl, Nat.le_of_ble_eq_true rfl⟩) hS (fun q _ h => hFc q h) hFc (fun r9 u t H1 locs ht hvm hw hB hz1 hk1 hS => ?_)
  obtain ⟨hP, hD, hK⟩ := kJ (wr := [(mo, .inr (19, [.int 0, .int 0, .int 0, .int 0, .int 0, .int 0, .int 0, .ref ti, .ref si, .ref lo, .ref lh, .ref lk, .ref sp, .ref st, .ref pa, .ref br, .ref sg, .int 0, .int 0, .int 0, .int 0, .int 0, .int 0, .long 0, .long 0, .long 0, .long 0, .int 0])), (q5, .inr (18, [.int 115, .int 2, .int p2, .int 0, .int 119, .int 0])), (q7, .inl (cA8, 10, .inr (.inr (.inr (.inr (va_up (fun _ => none) 0 (some q5)))))))]) (w1 := [(lo, .inr (3, [.int (0 + 1), .ref q7, .int 1]))]) (t1 := []) hP hD hK [2] [0, 1, 3] rfl rfl (by decide) (by decide) hk1 hFc ht hvm hB
  generalize H1 = H at hP hS ⊢
  have hP : va_P (dC, dI) vwCl [(mo, .inr (19, [.int 0, .int 0, .int 0, .int 0, .int 0, .int 0, .int 0, .ref ti, .ref si, .ref lo, .ref lh, .ref lk, .ref sp, .ref st, .ref pa, .ref br, .ref sg, .int 0, .int 0, .int 0, .int 0, .int 0, .int 0, .long 0, .long 0, .long 0, .long 0, .int 0])), (q5, .inr (18, [.int 115, .int 2, .int p2, .int 0, .int 119, .int 0])), (q7, .inl (cA8, 10, .inr (.inr (.inr (.inr (va_up (fun _ => none) 0 (some q5))))))), (lo, .inr (3, [.int (0 + 1), .ref q7, .int 1]))] H := hP
  have hD : va_D A [(mo, .inr (19, [.int 0, .int 0, .int 0, .int 0, .int 0, .int 0, .int 0, .ref ti, .ref si, .ref lo, .ref lh, .ref lk, .ref sp, .ref st, .ref pa, .ref br, .ref sg, .int 0, .int 0, .int 0, .int 0, .int 0, .int 0, .long 0, .long 0, .long 0, .long 0, .int 0])), (q5, .inr (18, [.int 115, .int 2, .int p2, .int 0, .int 119, .int 0])), (q7, .inl (cA8, 10, .inr (.inr (.inr (.inr (va_up (fun _ => none) 0 (some q5))))))), (lo, .inr (3, [.int (0 + 1), .ref q7, .int 1]))] := hD
  have hK : va_K (dC, dI) vwCl [(cA8, .object "java/lang/Object")] s := hK
  obtain rfl : 1 = r9 := hw
  refine lv_iconst (v := 1) hx hb dX15_order_192 (by decide) ?_
  refine lv_isub hx hb dX15_order_193 ?_
  refine kc_i (y := 0) (by decide +kernel) ?_
  refine W.widen (k := 2) (n := 16) (Nat.le_of_ble_eq_true rfl) (Nat.le_of_ble_eq_true rfl) ?_
  exact W.iret (v := 0) hx hb hr (fun t ht hW => ⟨⟨0, (), rfl, rfl, kB_end (w9 := [(mo, .inr (19, [.int 0, .int 0, .int 0, .int 0, .int 0, .int 0, .int 0, .ref ti, .ref si, .ref lo, .ref lh, .ref lk, .ref sp, .ref st, .ref pa, .ref br, .ref sg, .int 0, .int 0, .int 0, .int 0, .int 0, .int 0, .long 0, .long 0, .long 0, .long 0, .int 0]))]) (t9 := []) hP hK hD [0] [] rfl (by decide) rfl rfl t ht hW⟩, hS.F ht⟩) hS.2.2 dX15_order_194
abbrev wd_k_m_order_s3 (z : Nat → Nat) (p2 : Int32) (mo : Nat) (ti : Nat) (si : Nat) (lo : Nat) (lh : Nat) (lk : Nat) (sp : Nat) (st : Nat) (pa : Nat) (br : Nat) (sg : Nat) (th : Int32) : va_W := [(mo, .inr (19, [.int 0, .int 0, .int 0, .int 0, .int 0, .int 0, .int 0, .ref ti, .ref si, .ref lo, .ref lh, .ref lk, .ref sp, .ref st, .ref pa, .ref br, .ref sg, .int 0, .int 0, .int 0, .int 0, .int 0, .int 0, .long 0, .long 0, .long 0, .long 0, .int th])), (lo, .inr (3, [.int 0, .ref (z 0), .int 0]))]
set_option maxHeartbeats 4000000 in
set_option maxRecDepth 100000 in
theorem k_m_order_s3 (l : Launch) (dC : Nat → ClassId) (dI : Nat → Nat → Nat) (z zK zV : Nat → Nat) (p2 : Int32) (mo : Nat) (ti : Nat) (si : Nat) (lo : Nat) (lh : Nat) (lk : Nat) (sp : Nat) (st : Nat) (pa : Nat) (br : Nat) (sg : Nat) (th : Int32) (sz : Nat) (hg0 : (0 : Int32) ≤ p2 ∧ p2 ≤ 2) : Met l yX15_order wsX15_order ({ frames := 5, cells := 2, slots := 16, locals := 101 }) (kP dC dI z zK zV [.ref mo, .int 115, .int 3, .int p2] sz (wd_k_m_order_s3 z p2 mo ti si lo lh lk sp st pa br sg th) []) (va_Qi (fun (r : Int32) (_ : Unit) => 0 = r) (fun _ t => kB (dC, dI) (va_A (wd_k_m_order_s3 z p2 mo ti si lo lh lk sp st pa br sg th) sz) [(mo, .inr (19, [.int 0, .int 0, .int 0, .int 0, .int 0, .int 0, .int 0, .ref ti, .ref si, .ref lo, .ref lh, .ref lk, .ref sp, .ref st, .ref pa, .ref br, .ref sg, .int 0, .int 0, .int 0, .int 0, .int 0, .int 0, .long 0, .long 0, .long 0, .long 0, .int 0]))] [] t) (va_A (wd_k_m_order_s3 z p2 mo ti si lo lh lk sp st pa br sg th) sz)) 2 16 (va_A (wd_k_m_order_s3 z p2 mo ti si lo lh lk sp st pa br sg th) sz) := by
  refine Met.ofW (cc := cX15_order) (maxL := 6) (ret := (some .int)) (by decide) rfl ?_
  intro p e s m args below meth c s₁ B hml hv
  obtain ⟨rfl, hsz, hP, hK, hD0, hM⟩ := hv
  have hx := B.exec
  have hb := B.bytes
  have hr := B.returns
  have hts := atoms_spec (ws := wsX15_order) B.pre
  have hown : s.vm.findClass RX15 = some m.cls := findClass_of_methodNamed B.named
  have hlocks := B.notSynchronized
  have hiX15 : ∀ w ∈ u_ws RX15 TX15 28, w ∈ wsX15_order := by decide +kernel
  have hiX14 : ∀ w ∈ u_ws RX14 TX14 6, w ∈ wsX15_order := by decide +kernel
  subst hsz
  have hD := hD0.self (sz := s.heap.size)
  generalize hAe : va_A (wd_k_m_order_s3 z p2 mo ti si lo lh lk sp st pa br sg th) s.heap.size = A at hD hM ⊢
  have hA : ∀ q : Nat, s.heap.size ≤ q → A q := fun q h => by rw [← hAe]; exact Or.inr h
  have hS : va_S A s.heap s.heap [] := va_S.rf
  have hP : va_P (dC, dI) vwCl [(mo, .inr (19, [.int 0, .int 0, .int 0, .int 0, .int 0, .int 0, .int 0, .ref ti, .ref si, .ref lo, .ref lh, .ref lk, .ref sp, .ref st, .ref pa, .ref br, .ref sg, .int 0, .int 0, .int 0, .int 0, .int 0, .int 0, .long 0, .long 0, .long 0, .long 0, .int th])), (lo, .inr (3, [.int 0, .ref (z 0), .int 0]))] s.heap := hP
  have hD : va_D A [(mo, .inr (19, [.int 0, .int 0, .int 0, .int 0, .int 0, .int 0, .int 0, .ref ti, .ref si, .ref lo, .ref lh, .ref lk, .ref sp, .ref st, .ref pa, .ref br, .ref sg, .int 0, .int 0, .int 0, .int 0, .int 0, .int 0, .long 0, .long 0, .long 0, .long 0, .int th])), (lo, .inr (3, [.int 0, .ref (z 0), .int 0]))] := hD
  have hl := lv_entry ([.ref mo, .int 115, .int 3, .int p2]) (n := 6) (Nat.le_of_ble_eq_true rfl)
  rw [lg_entry_eq]
  generalize (lg_sl ([.ref mo, .int 115, .int 3, .int p2]) ++ List.replicate (6 - (lg_sl ([.ref mo, .int 115, .int 3, .int p2])).length) Slot.unset).toArray = ls at hl ⊢
  have hl : lv_has ls 6 [(0, .ref mo), (1, .int 115), (2, .int 3), (3, .int p2)] := hl
  refine lv_iload_n hx hb dX15_order_0 rfl (lv_at hl 1 rfl) ?_
  refine lv_bipush (v := 115) hx hb dX15_order_1 (by decide) ?_
  refine lv_icmp_eq (tgt := 12) hx hb dX15_order_3 (by decide) (fun _ => ?_) (fun c_ => absurd (by decide +kernel) c_)
  refine lv_iconst (v := 1) hx hb dX15_order_12 (by decide) ?_
  refine lv_goto (tgt := 17) hx hb dX15_order_13 (by decide) ?_
  refine lv_istore (lv' := [(4, .int 1), (0, .ref mo), (1, .int 115), (2, .int 3), (3, .int p2)]) hx hb dX15_order_17 hl (by decide) rfl (fun ls hl => ?_)
  refine va_ldcS hx hb hown (hM.2.2.1 0 _ rfl) dX15_order_19 ?_
  refine lv_iload_n hx hb dX15_order_21 rfl (lv_at hl 2 rfl) ?_
  have hPc := hP.sub (ws' := []) [] rfl
  have hDc := hD.sub (ws' := []) [] (by decide) rfl
  have hKc := hK.sub (tys' := []) [] rfl
  have hFc := va_free (wc := []) hD hS hA [] rfl
  refine va_calli (va_runV (As := [.int 115]) (rest := []) ⟨hx, hb, hml, hown, hts⟩ (k_ix3_115 l dC dI z zK zV  s.heap.size) (cwV 1 hts gX15_order_J0_indexOf_0f7a4 rfl rfl rfl (by decide +kernel) ⟨Nat.le_of_ble_eq_true rfl, Nat.le_of_ble_eq_true rfl⟩) ⟨kP_blind, vk_recv (i := 0) hM.2.2.2.1 (by decide) hS, kP_go hPc hKc hDc hFc hM hS⟩ rfl rfl hl.1 rfl (lv_room (Nat.le_of_ble_eq_true rfl)) dX15_order_22 ⟨Nat.le_of_ble_eq_true rfl, Nat.le_of_ble_eq_true rfl⟩) hS (fun q _ h => hFc q h) hFc (fun r1 u t H1 locs ht hvm hw hB hz1 hk1 hS => ?_)
  obtain ⟨hP, hD, hK⟩ := kJ (wr := [(mo, .inr (19, [.int 0, .int 0, .int 0, .int 0, .int 0, .int 0, .int 0, .ref ti, .ref si, .ref lo, .ref lh, .ref lk, .ref sp, .ref st, .ref pa, .ref br, .ref sg, .int 0, .int 0, .int 0, .int 0, .int 0, .int 0, .long 0, .long 0, .long 0, .long 0, .int th])), (lo, .inr (3, [.int 0, .ref (z 0), .int 0]))]) (w1 := []) (t1 := []) hP hD hK [] [0, 1] rfl rfl (by decide) (by decide) hk1 hFc ht hvm hB
  generalize H1 = H at hP hS ⊢
  have hP : va_P (dC, dI) vwCl [(mo, .inr (19, [.int 0, .int 0, .int 0, .int 0, .int 0, .int 0, .int 0, .ref ti, .ref si, .ref lo, .ref lh, .ref lk, .ref sp, .ref st, .ref pa, .ref br, .ref sg, .int 0, .int 0, .int 0, .int 0, .int 0, .int 0, .long 0, .long 0, .long 0, .long 0, .int th])), (lo, .inr (3, [.int 0, .ref (z 0), .int 0]))] H := hP
  have hD : va_D A [(mo, .inr (19, [.int 0, .int 0, .int 0, .int 0, .int 0, .int 0, .int 0, .ref ti, .ref si, .ref lo, .ref lh, .ref lk, .ref sp, .ref st, .ref pa, .ref br, .ref sg, .int 0, .int 0, .int 0, .int 0, .int 0, .int 0, .long 0, .long 0, .long 0, .long 0, .int th])), (lo, .inr (3, [.int 0, .ref (z 0), .int 0]))] := hD
  have hK : va_K (dC, dI) vwCl [] s := hK
  obtain rfl : 0 = r1 := hw
  refine lv_if_lt (tgt := 55) hx hb dX15_order_25 (by decide) (fun c_ => absurd c_ (by decide +kernel)) (fun _ => ?_)
  refine lv_iload_n hx hb dX15_order_28 rfl (lv_at hl 3 rfl) ?_
  refine lv_i2l (v := 3) hx hb dX15_order_29 (by decide +kernel) ?_
  refine lv_lconst (v := 0) hx hb dX15_order_30 (by decide) ?_
  refine lv_iload hx hb dX15_order_31 (lv_at hl 0 rfl) ?_
  refine lv_if_eq (tgt := 42) hx hb dX15_order_33 (by decide) (fun c_ => absurd c_ (by decide +kernel)) (fun _ => ?_)
  refine lv_ldc2 (v := 8) hx hb hown (hts (.constantLong RX15 148 8) (by decide +kernel)) dX15_order_36 ?_
  refine lv_goto (tgt := 45) hx hb dX15_order_39 (by decide) ?_
  have hPc := hP.sub (ws' := []) [] rfl
  have hDc := hD.sub (ws' := []) [] (by decide) rfl
  have hKc := hK.sub (tys' := []) [] rfl
  have hFc := va_free (wc := []) hD hS hA [] rfl
  refine va_calli (va_runS (As := [.long 3, .long 0, .long 8]) (rest := []) ⟨hx, hb, hml, hown, hts⟩ (k_in l dC dI z zK zV 3 0 8 H.size) (va_cwS 3 hts gX15_order_X15_in rfl rfl rfl (by decide +kernel) ⟨Nat.le_of_ble_eq_true rfl, Nat.le_of_ble_eq_true rfl⟩) ⟨kP_blind, kP_go hPc hKc hDc hFc hM hS⟩ rfl rfl hl.1 rfl (lv_room (Nat.le_of_ble_eq_true rfl)) dX15_order_45 ⟨Nat.le_of_ble_eq_true rfl, Nat.le_of_ble_eq_true rfl⟩) hS (fun q _ h => hFc q h) hFc (fun r2 u t H1 locs ht hvm hw hB hz1 hk1 hS => ?_)
  obtain ⟨hP, hD, hK⟩ := kJ (wr := [(mo, .inr (19, [.int 0, .int 0, .int 0, .int 0, .int 0, .int 0, .int 0, .ref ti, .ref si, .ref lo, .ref lh, .ref lk, .ref sp, .ref st, .ref pa, .ref br, .ref sg, .int 0, .int 0, .int 0, .int 0, .int 0, .int 0, .long 0, .long 0, .long 0, .long 0, .int th])), (lo, .inr (3, [.int 0, .ref (z 0), .int 0]))]) (w1 := []) (t1 := []) hP hD hK [] [0, 1] rfl rfl (by decide) (by decide) hk1 hFc ht hvm hB
  generalize H1 = H at hP hS ⊢
  have hP : va_P (dC, dI) vwCl [(mo, .inr (19, [.int 0, .int 0, .int 0, .int 0, .int 0, .int 0, .int 0, .ref ti, .ref si, .ref lo, .ref lh, .ref lk, .ref sp, .ref st, .ref pa, .ref br, .ref sg, .int 0, .int 0, .int 0, .int 0, .int 0, .int 0, .long 0, .long 0, .long 0, .long 0, .int th])), (lo, .inr (3, [.int 0, .ref (z 0), .int 0]))] H := hP
  have hD : va_D A [(mo, .inr (19, [.int 0, .int 0, .int 0, .int 0, .int 0, .int 0, .int 0, .ref ti, .ref si, .ref lo, .ref lh, .ref lk, .ref sp, .ref st, .ref pa, .ref br, .ref sg, .int 0, .int 0, .int 0, .int 0, .int 0, .int 0, .long 0, .long 0, .long 0, .long 0, .int th])), (lo, .inr (3, [.int 0, .ref (z 0), .int 0]))] := hD
  have hK : va_K (dC, dI) vwCl [] s := hK
  obtain rfl : (if 0 ≤ 3 ∧ 3 ≤ 8 then (1 : Int32) else 0) = r2 := hw
  refine kc_i (y := 1) (by decide +kernel) ?_
  refine lv_if_eq (tgt := 55) hx hb dX15_order_48 (by decide) (fun c_ => absurd c_ (by decide +kernel)) (fun _ => ?_)
  refine lv_iconst (v := 1) hx hb dX15_order_51 (by decide) ?_
  refine lv_goto (tgt := 56) hx hb dX15_order_52 (by decide) ?_
  refine lv_istore (lv' := [(5, .int 1), (4, .int 1), (0, .ref mo), (1, .int 115), (2, .int 3), (3, .int p2)]) hx hb dX15_order_56 hl (by decide) rfl (fun ls hl => ?_)
  refine lv_iload hx hb dX15_order_58 (lv_at hl 0 rfl) ?_
  refine lv_if_eq (tgt := 115) hx hb dX15_order_60 (by decide) (fun c_ => absurd c_ (by decide +kernel)) (fun _ => ?_)
  refine lv_iload_n hx hb dX15_order_63 rfl (lv_at hl 3 rfl) ?_
  refine lv_bipush (v := 115) hx hb dX15_order_64 (by decide) ?_
  refine lv_icmp_ne (tgt := 84) hx hb dX15_order_66 (by decide) (fun c_ => absurd (by decide +kernel) c_) (fun _ => ?_)
  refine lv_iload_n hx hb dX15_order_69 rfl (lv_at hl 5 rfl) ?_
  refine lv_i2l (v := p2.toInt64) hx hb dX15_order_70 rfl ?_
  refine lv_lconst (v := 0) hx hb dX15_order_71 (by decide) ?_
  refine lv_ldc2 (v := 2) hx hb hown (hts (.constantLong RX15 150 2) (by decide +kernel)) dX15_order_72 ?_
  have hPc := hP.sub (ws' := []) [] rfl
  have hDc := hD.sub (ws' := []) [] (by decide) rfl
  have hKc := hK.sub (tys' := []) [] rfl
  have hFc := va_free (wc := []) hD hS hA [] rfl
  refine va_calli (va_runS (As := [.long p2.toInt64, .long 0, .long 2]) (rest := []) ⟨hx, hb, hml, hown, hts⟩ (k_in l dC dI z zK zV p2.toInt64 0 2 H.size) (va_cwS 3 hts gX15_order_X15_in rfl rfl rfl (by decide +kernel) ⟨Nat.le_of_ble_eq_true rfl, Nat.le_of_ble_eq_true rfl⟩) ⟨kP_blind, kP_go hPc hKc hDc hFc hM hS⟩ rfl rfl hl.1 rfl (lv_room (Nat.le_of_ble_eq_true rfl)) dX15_order_75 ⟨Nat.le_of_ble_eq_true rfl, Nat.le_of_ble_eq_true rfl⟩) hS (fun q _ h => hFc q h) hFc (fun r3 u t H1 locs ht hvm hw hB hz1 hk1 hS => ?_)
  obtain ⟨hP, hD, hK⟩ := kJ (wr := [(mo, .inr (19, [.int 0, .int 0, .int 0, .int 0, .int 0, .int 0, .int 0, .ref ti, .ref si, .ref lo, .ref lh, .ref lk, .ref sp, .ref st, .ref pa, .ref br, .ref sg, .int 0, .int 0, .int 0, .int 0, .int 0, .int 0, .long 0, .long 0, .long 0, .long 0, .int th])), (lo, .inr (3, [.int 0, .ref (z 0), .int 0]))]) (w1 := []) (t1 := []) hP hD hK [] [0, 1] rfl rfl (by decide) (by decide) hk1 hFc ht hvm hB
  generalize H1 = H at hP hS ⊢
  have hP : va_P (dC, dI) vwCl [(mo, .inr (19, [.int 0, .int 0, .int 0, .int 0, .int 0, .int 0, .int 0, .ref ti, .ref si, .ref lo, .ref lh, .ref lk, .ref sp, .ref st, .ref pa, .ref br, .ref sg, .int 0, .int 0, .int 0, .int 0, .int 0, .int 0, .long 0, .long 0, .long 0, .long 0, .int th])), (lo, .inr (3, [.int 0, .ref (z 0), .int 0]))] H := hP
  have hD : va_D A [(mo, .inr (19, [.int 0, .int 0, .int 0, .int 0, .int 0, .int 0, .int 0, .ref ti, .ref si, .ref lo, .ref lh, .ref lk, .ref sp, .ref st, .ref pa, .ref br, .ref sg, .int 0, .int 0, .int 0, .int 0, .int 0, .int 0, .long 0, .long 0, .long 0, .long 0, .int th])), (lo, .inr (3, [.int 0, .ref (z 0), .int 0]))] := hD
  have hK : va_K (dC, dI) vwCl [] s := hK
  obtain rfl : (if 0 ≤ (p2.toInt64) ∧ (p2.toInt64) ≤ 2 then (1 : Int32) else 0) = r3 := hw
  refine kc_i (y := (if 0 ≤ p2 ∧ p2 ≤ 2 then (1 : Int32) else 0)) (k_inP (a := 0) (b := 2) (by decide +kernel) (by decide +kernel)) ?_
  refine lv_if_eq (tgt := 115) hx hb dX15_order_78 (by decide) (fun c_ => absurd c_ (k_ifp hg0)) (fun _ => ?_)
  refine lv_goto (tgt := 111) hx hb dX15_order_81 (by decide) ?_
  refine lv_iconst (v := 1) hx hb dX15_order_111 (by decide) ?_
  refine lv_goto (tgt := 116) hx hb dX15_order_112 (by decide) ?_
  refine lv_istore (lv' := [(5, .int 1), (4, .int 1), (0, .ref mo), (1, .int 115), (2, .int 3), (3, .int p2)]) hx hb dX15_order_116 hl (by decide) rfl (fun ls hl => ?_)
  refine lv_aload_n hx hb dX15_order_118 rfl (lv_at hl 2 rfl) ?_
  refine lv_iload hx hb dX15_order_119 (lv_at hl 0 rfl) ?_
  refine lv_if_ne (tgt := 128) hx hb dX15_order_121 (by decide) (fun _ => ?_) (fun c_ => absurd c_ (by decide +kernel))
  refine lv_aload_n hx hb dX15_order_128 rfl (lv_at hl 2 rfl) ?_
  refine va_get (D := (dC, dI)) (ci := 19) (v := .ref lo) (C := RX15) (T := TX15) (N := 28) hx hb hts hiX15 hown hK hP 0 rfl rfl 9 (by decide) (hts (.fieldLink RX15 19 "SquareRigModel" "orders" "Ljava/util/List;") (by decide +kernel)) (fun _ h9 => h9) rfl dX15_order_129 ?_
  have hPc := hP.sub (ws' := [(lo, .inr (3, [.int 0, .ref (z 0), .int 0]))]) [1] rfl
  have hDc := hD.sub (ws' := [(lo, .inr (3, [.int 0, .ref (z 0), .int 0]))]) [1] (by decide) rfl
  have hKc := hK.sub (tys' := []) [] rfl
  have hFc := va_free (wc := [(lo, .inr (3, [.int 0, .ref (z 0), .int 0]))]) hD hS hA [1] rfl
  refine va_callFi (va_runF (hK.1 3 _ rfl).2 (As := []) (rest := [.ref mo]) ⟨hx, hb, hml, hown, hts⟩ (k_size0 l dC dI z zK zV lo H.size) (va_cwF 0 hts gX15_order_Jx4a65c_size_8abf5_f156Jx4a65c rfl rfl rfl hM.2.2.2.2.2.2.2.2.2.2.1.2.2.1 (by decide +kernel) ⟨Nat.le_of_ble_eq_true rfl, Nat.le_of_ble_eq_true rfl⟩) ⟨kP_blind, va_recv hKc hPc (ci := 3) (q0 := 0) rfl rfl, kP_go hPc hKc hDc hFc hM hS⟩ rfl rfl hl.1 rfl (lv_room (Nat.le_of_ble_eq_true rfl)) dX15_order_132 ⟨Nat.le_of_ble_eq_true rfl, Nat.le_of_ble_eq_true rfl⟩) hS (fun q _ h => hFc q h) hFc (fun r4 u t H1 locs ht hvm hw hB hz1 hk1 hS => ?_)
  obtain ⟨hP, hD, hK⟩ := kJ (wr := [(mo, .inr (19, [.int 0, .int 0, .int 0, .int 0, .int 0, .int 0, .int 0, .ref ti, .ref si, .ref lo, .ref lh, .ref lk, .ref sp, .ref st, .ref pa, .ref br, .ref sg, .int 0, .int 0, .int 0, .int 0, .int 0, .int 0, .long 0, .long 0, .long 0, .long 0, .int th]))]) (w1 := [(lo, .inr (3, [.int 0, .ref (z 0), .int 0]))]) (t1 := []) hP hD hK [1] [0] rfl rfl (by decide) (by decide) hk1 hFc ht hvm hB
  generalize H1 = H at hP hS ⊢
  have hP : va_P (dC, dI) vwCl [(mo, .inr (19, [.int 0, .int 0, .int 0, .int 0, .int 0, .int 0, .int 0, .ref ti, .ref si, .ref lo, .ref lh, .ref lk, .ref sp, .ref st, .ref pa, .ref br, .ref sg, .int 0, .int 0, .int 0, .int 0, .int 0, .int 0, .long 0, .long 0, .long 0, .long 0, .int th])), (lo, .inr (3, [.int 0, .ref (z 0), .int 0]))] H := hP
  have hD : va_D A [(mo, .inr (19, [.int 0, .int 0, .int 0, .int 0, .int 0, .int 0, .int 0, .ref ti, .ref si, .ref lo, .ref lh, .ref lk, .ref sp, .ref st, .ref pa, .ref br, .ref sg, .int 0, .int 0, .int 0, .int 0, .int 0, .int 0, .long 0, .long 0, .long 0, .long 0, .int th])), (lo, .inr (3, [.int 0, .ref (z 0), .int 0]))] := hD
  have hK : va_K (dC, dI) vwCl [] s := hK
  obtain rfl : 0 = r4 := hw
  refine lv_bipush (v := 100) hx hb dX15_order_137 (by decide) ?_
  refine lv_icmp_ne (tgt := 146) hx hb dX15_order_139 (by decide) (fun _ => ?_) (fun c_ => absurd c_ (by decide +kernel))
  refine lv_iconst (v := 0) hx hb dX15_order_146 (by decide) ?_
  refine va_put (D := (dC, dI)) (ci := 19) (v := .int 0) (ty := .int) (C := RX15) (T := TX15) (N := 28) hx hb hts hiX15 tyX15 tyX15_ok nmX15 hown hK hP hD hS 0 rfl rfl 27 (by decide) (hts (.fieldLink RX15 45 "SquareRigModel" "thrown" "I") (by decide +kernel)) (fun _ h9 => h9) rfl (by decide +kernel) rfl rfl (Nat.le_of_ble_eq_true rfl) dX15_order_147 (fun H locs hP hD hS => ?_)
  have hP : va_P (dC, dI) vwCl [(mo, .inr (19, [.int 0, .int 0, .int 0, .int 0, .int 0, .int 0, .int 0, .ref ti, .ref si, .ref lo, .ref lh, .ref lk, .ref sp, .ref st, .ref pa, .ref br, .ref sg, .int 0, .int 0, .int 0, .int 0, .int 0, .int 0, .long 0, .long 0, .long 0, .long 0, .int 0])), (lo, .inr (3, [.int 0, .ref (z 0), .int 0]))] H := hP
  have hD : va_D A [(mo, .inr (19, [.int 0, .int 0, .int 0, .int 0, .int 0, .int 0, .int 0, .ref ti, .ref si, .ref lo, .ref lh, .ref lk, .ref sp, .ref st, .ref pa, .ref br, .ref sg, .int 0, .int 0, .int 0, .int 0, .int 0, .int 0, .long 0, .long 0, .long 0, .long 0, .int 0])), (lo, .inr (3, [.int 0, .ref (z 0), .int 0]))] := hD
  refine lv_aload_n hx hb dX15_order_150 rfl (lv_at hl 2 rfl) ?_
  refine va_get (D := (dC, dI)) (ci := 19) (v := .int 0) (C := RX15) (T := TX15) (N := 28) hx hb hts hiX15 hown hK hP 0 rfl rfl 27 (by decide) (hts (.fieldLink RX15 45 "SquareRigModel" "thrown" "I") (by decide +kernel)) (fun _ h9 => h9) rfl dX15_order_151 ?_
  refine lv_if_le (tgt := 159) hx hb dX15_order_154 (by decide) (fun _ => ?_) (fun c_ => absurd (by decide +kernel) c_)
  refine lv_aload_n hx hb dX15_order_159 rfl (lv_at hl 2 rfl) ?_
  refine va_get (D := (dC, dI)) (ci := 19) (v := .ref lo) (C := RX15) (T := TX15) (N := 28) hx hb hts hiX15 hown hK hP 0 rfl rfl 9 (by decide) (hts (.fieldLink RX15 19 "SquareRigModel" "orders" "Ljava/util/List;") (by decide +kernel)) (fun _ h9 => h9) rfl dX15_order_160 ?_
  refine va_new (ci := 18) (fs := [.int 0, .int 0, .int 0, .int 0, .int 0, .int 0]) (C := RX14) (T := TX14) (N := 6) hx hb hts hiX14 tyX14 tyX14_ok hown (hts (.classLink RX15 161 RX14) (by decide +kernel)) (hts (.instantiable RX14 6) (by decide +kernel)) (hts (.initialized RX14) (by decide +kernel)) hK hP hD hS hA rfl (fun j hj => by rcases (show j = 0 ∨ j = 1 ∨ j = 2 ∨ j = 3 ∨ j = 4 ∨ j = 5 by omega) with rfl | rfl | rfl | rfl | rfl | rfl <;> rfl) (Nat.le_of_ble_eq_true rfl) (Nat.le_of_ble_eq_true rfl) dX15_order_163 (fun q5 H hP hD hS => ?_)
  have hP : va_P (dC, dI) vwCl [(mo, .inr (19, [.int 0, .int 0, .int 0, .int 0, .int 0, .int 0, .int 0, .ref ti, .ref si, .ref lo, .ref lh, .ref lk, .ref sp, .ref st, .ref pa, .ref br, .ref sg, .int 0, .int 0, .int 0, .int 0, .int 0, .int 0, .long 0, .long 0, .long 0, .long 0, .int 0])), (lo, .inr (3, [.int 0, .ref (z 0), .int 0])), (q5, .inr (18, [.int 0, .int 0, .int 0, .int 0, .int 0, .int 0]))] H := hP
  have hD : va_D A [(mo, .inr (19, [.int 0, .int 0, .int 0, .int 0, .int 0, .int 0, .int 0, .ref ti, .ref si, .ref lo, .ref lh, .ref lk, .ref sp, .ref st, .ref pa, .ref br, .ref sg, .int 0, .int 0, .int 0, .int 0, .int 0, .int 0, .long 0, .long 0, .long 0, .long 0, .int 0])), (lo, .inr (3, [.int 0, .ref (z 0), .int 0])), (q5, .inr (18, [.int 0, .int 0, .int 0, .int 0, .int 0, .int 0]))] := hD
  refine lv_dup hx hb dX15_order_166 rfl ?_
  refine lv_iload_n hx hb dX15_order_167 rfl (lv_at hl 3 rfl) ?_
  refine lv_iload_n hx hb dX15_order_168 rfl (lv_at hl 4 rfl) ?_
  refine lv_iload_n hx hb dX15_order_169 rfl (lv_at hl 5 rfl) ?_
  refine lv_aload_n hx hb dX15_order_170 rfl (lv_at hl 2 rfl) ?_
  refine va_get (D := (dC, dI)) (ci := 19) (v := .int 0) (C := RX15) (T := TX15) (N := 28) hx hb hts hiX15 hown hK hP 0 rfl rfl 17 (by decide) (hts (.fieldLink RX15 163 "SquareRigModel" "minute" "I") (by decide +kernel)) (fun _ h9 => h9) rfl dX15_order_171 ?_
  have hPc := hP.sub (ws' := [(q5, .inr (18, [.int 0, .int 0, .int 0, .int 0, .int 0, .int 0]))]) [2] rfl
  have hDc := hD.sub (ws' := [(q5, .inr (18, [.int 0, .int 0, .int 0, .int 0, .int 0, .int 0]))]) [2] (by decide) rfl
  have hKc := hK.sub (tys' := []) [] rfl
  have hFc := va_free (wc := [(q5, .inr (18, [.int 0, .int 0, .int 0, .int 0, .int 0, .int 0]))]) hD hS hA [2] rfl
  refine va_callv (va_runI (As := [.int 115, .int 3, .int p2, .int 0]) (rest := [.ref q5, .ref lo]) ⟨hx, hb, hml, hown, hts⟩ (k_MOrder_init115 l dC dI z zK zV q5 3 p2 0 H.size) (cwI 4 hts gX15_order_X14_init rfl rfl rfl (hts (.initialized RX14) (by decide +kernel)) (hts (.methodLink RX15 166 yX14_init) (by decide +kernel)) (hts (.instanceMethod yX14_init) (by decide +kernel)) rfl (by decide +kernel) ⟨Nat.le_of_ble_eq_true rfl, Nat.le_of_ble_eq_true rfl⟩) ⟨kP_blind, kP_go hPc hKc hDc hFc hM hS⟩ rfl rfl hl.1 rfl (lv_room (Nat.le_of_ble_eq_true rfl)) dX15_order_174 ⟨Nat.le_of_ble_eq_true rfl, Nat.le_of_ble_eq_true rfl⟩) hS (fun q _ h => hFc q h) hFc (fun u t H1 locs ht hvm hw hB hz1 hk1 hS => ?_)
  obtain ⟨hP, hD, hK⟩ := kJ (wr := [(mo, .inr (19, [.int 0, .int 0, .int 0, .int 0, .int 0, .int 0, .int 0, .ref ti, .ref si, .ref lo, .ref lh, .ref lk, .ref sp, .ref st, .ref pa, .ref br, .ref sg, .int 0, .int 0, .int 0, .int 0, .int 0, .int 0, .long 0, .long 0, .long 0, .long 0, .int 0])), (lo, .inr (3, [.int 0, .ref (z 0), .int 0]))]) (w1 := [(q5, .inr (18, [.int 115, .int 3, .int p2, .int 0, .int 119, .int 0]))]) (t1 := []) hP hD hK [2] [0, 1] rfl rfl (by decide) (by decide) hk1 hFc ht hvm hB
  generalize H1 = H at hP hS ⊢
  have hP : va_P (dC, dI) vwCl [(mo, .inr (19, [.int 0, .int 0, .int 0, .int 0, .int 0, .int 0, .int 0, .ref ti, .ref si, .ref lo, .ref lh, .ref lk, .ref sp, .ref st, .ref pa, .ref br, .ref sg, .int 0, .int 0, .int 0, .int 0, .int 0, .int 0, .long 0, .long 0, .long 0, .long 0, .int 0])), (lo, .inr (3, [.int 0, .ref (z 0), .int 0])), (q5, .inr (18, [.int 115, .int 3, .int p2, .int 0, .int 119, .int 0]))] H := hP
  have hD : va_D A [(mo, .inr (19, [.int 0, .int 0, .int 0, .int 0, .int 0, .int 0, .int 0, .ref ti, .ref si, .ref lo, .ref lh, .ref lk, .ref sp, .ref st, .ref pa, .ref br, .ref sg, .int 0, .int 0, .int 0, .int 0, .int 0, .int 0, .long 0, .long 0, .long 0, .long 0, .int 0])), (lo, .inr (3, [.int 0, .ref (z 0), .int 0])), (q5, .inr (18, [.int 115, .int 3, .int p2, .int 0, .int 119, .int 0]))] := hD
  have hK : va_K (dC, dI) vwCl [] s := hK
  clear hw
  have hPc := hP.sub (ws' := [(lo, .inr (3, [.int 0, .ref (z 0), .int 0])), (q5, .inr (18, [.int 115, .int 3, .int p2, .int 0, .int 119, .int 0]))]) [1, 2] rfl
  have hDc := hD.sub (ws' := [(lo, .inr (3, [.int 0, .ref (z 0), .int 0])), (q5, .inr (18, [.int 115, .int 3, .int p2, .int 0, .int 119, .int 0]))]) [1, 2] (by decide) rfl
  have hKc := hK.sub (tys' := []) [] rfl
  have hFc := va_free (wc := [(lo, .inr (3, [.int 0, .ref (z 0), .int 0])), (q5, .inr (18, [.int 115, .int 3, .int p2, .int 0, .int 119, .int 0]))]) hD hS hA [1, 2] rfl
  refine va_callFi (va_runF (hK.1 3 _ rfl).2 (As := [.ref q5]) (rest := []) ⟨hx, hb, hml, hown, hts⟩ (k_add1_oo l dC dI z zK zV lo 0 q5 115 3 p2 0 119 0 H.size) (va_cwF 1 hts gX15_order_Jx4a65c_add_9ea2d_f169Jx4a65c rfl rfl rfl hM.2.2.2.2.2.2.2.2.2.2.1.2.2.2.2 (by decide +kernel) ⟨Nat.le_of_ble_eq_true rfl, Nat.le_of_ble_eq_true rfl⟩) ⟨kP_blind, va_recv hKc hPc (ci := 3) (q0 := 0) rfl rfl, kP_go hPc hKc hDc hFc hM hS⟩ rfl rfl hl.1 rfl (lv_room (Nat.le_of_ble_eq_true rfl)) dX15_order_177 ⟨Nat.le_of_ble_eq_true rfl, Nat.le_of_ble_eq_true rfl⟩) hS (fun q _ h => hFc q h) hFc (fun r6 u t H1 locs ht hvm hw hB hz1 hk1 hS => ?_)
  obtain ⟨q7, cA8, hB⟩ := hB
  obtain ⟨hP, hD, hK⟩ := kJ (wr := [(mo, .inr (19, [.int 0, .int 0, .int 0, .int 0, .int 0, .int 0, .int 0, .ref ti, .ref si, .ref lo, .ref lh, .ref lk, .ref sp, .ref st, .ref pa, .ref br, .ref sg, .int 0, .int 0, .int 0, .int 0, .int 0, .int 0, .long 0, .long 0, .long 0, .long 0, .int 0]))]) (w1 := [(q5, .inr (18, [.int 115, .int 3, .int p2, .int 0, .int 119, .int 0])), (lo, .inr (3, [.int (0 + 1), .ref q7, .int 1])), (q7, .inl (cA8, 10, .inr (.inr (.inr (.inr (va_up (fun _ => none) 0 (some q5)))))))]) (t1 := [(cA8, .object "java/lang/Object")]) hP hD hK [1, 2] [0] rfl rfl (by decide) (by decide) hk1 hFc ht hvm hB
  generalize H1 = H at hP hS ⊢
  have hP : va_P (dC, dI) vwCl [(mo, .inr (19, [.int 0, .int 0, .int 0, .int 0, .int 0, .int 0, .int 0, .ref ti, .ref si, .ref lo, .ref lh, .ref lk, .ref sp, .ref st, .ref pa, .ref br, .ref sg, .int 0, .int 0, .int 0, .int 0, .int 0, .int 0, .long 0, .long 0, .long 0, .long 0, .int 0])), (q5, .inr (18, [.int 115, .int 3, .int p2, .int 0, .int 119, .int 0])), (lo, .inr (3, [.int (0 + 1), .ref q7, .int 1])), (q7, .inl (cA8, 10, .inr (.inr (.inr (.inr (va_up (fun _ => none) 0 (some q5)))))))] H := hP
  have hD : va_D A [(mo, .inr (19, [.int 0, .int 0, .int 0, .int 0, .int 0, .int 0, .int 0, .ref ti, .ref si, .ref lo, .ref lh, .ref lk, .ref sp, .ref st, .ref pa, .ref br, .ref sg, .int 0, .int 0, .int 0, .int 0, .int 0, .int 0, .long 0, .long 0, .long 0, .long 0, .int 0])), (q5, .inr (18, [.int 115, .int 3, .int p2, .int 0, .int 119, .int 0])), (lo, .inr (3, [.int (0 + 1), .ref q7, .int 1])), (q7, .inl (cA8, 10, .inr (.inr (.inr (.inr (va_up (fun _ => none) 0 (some q5)))))))] := hD
  have hK : va_K (dC, dI) vwCl [(cA8, .object "java/lang/Object")] s := hK
  obtain rfl : 1 = r6 := hw
  refine lv_pop hx hb dX15_order_182 rfl ?_
  refine lv_aload_n hx hb dX15_order_183 rfl (lv_at hl 2 rfl) ?_
  refine va_get (D := (dC, dI)) (ci := 19) (v := .ref lo) (C := RX15) (T := TX15) (N := 28) hx hb hts hiX15 hown hK hP 0 rfl rfl 9 (by decide) (hts (.fieldLink RX15 19 "SquareRigModel" "orders" "Ljava/util/List;") (by decide +kernel)) (fun _ h9 => h9) rfl dX15_order_184 ?_
  have hPc := hP.sub (ws' := [(lo, .inr (3, [.int (0 + 1), .ref q7, .int 1]))]) [2] rfl
  have hDc := hD.sub (ws' := [(lo, .inr (3, [.int (0 + 1), .ref q7, .int 1]))]) [2] (by decide) rfl
  have hKc := hK.sub (tys' := []) [] rfl
  have hFc := va_free (wc := [(lo, .inr (3, [.int (0 + 1), .ref q7, .int 1]))]) hD hS hA [2] rfl
  refine va_callFi (va_runF (hK.1 3 _ rfl).2 (As := []) (rest := []) ⟨hx, hb, hml, hown, hts⟩ (k_size1 l dC dI z zK zV lo (0 + 1) q7 H.size) (va_cwF 0 hts gX15_order_Jx4a65c_size_8abf5_f156Jx4a65c rfl rfl rfl hM.2.2.2.2.2.2.2.2.2.2.1.2.2.1 (by decide +kernel) ⟨Nat.le_of_ble_eq_true rfl, Nat.le_of_ble_eq_true rfl⟩) ⟨kP_blind, va_recv hKc hPc (ci := 3) (q0 := 0) rfl rfl, kP_go hPc hKc hDc hFc hM hS⟩ rfl rfl hl.1 rfl (lv_room (Nat.le_of_ble_eq_true rfl)) dX15_order_187 ⟨Nat.le_of_ble_eq_true rfl, Nat.le_of_ble_eq_true rfl⟩) hS (fun q _ h => hFc q h) hFc (fun r9 u t H1 locs ht hvm hw hB hz1 hk1 hS => ?_)
  obtain ⟨hP, hD, hK⟩ := kJ (wr := [(mo, .inr (19, [.int 0, .int 0, .int 0, .int 0, .int 0, .int 0, .int 0, .ref ti, .ref si, .ref lo, .ref lh, .ref lk, .ref sp, .ref st, .ref pa, .ref br, .ref sg, .int 0, .int 0, .int 0, .int 0, .int 0, .int 0, .long 0, .long 0, .long 0, .long 0, .int 0])), (q5, .inr (18, [.int 115, .int 3, .int p2, .int 0, .int 119, .int 0])), (q7, .inl (cA8, 10, .inr (.inr (.inr (.inr (va_up (fun _ => none) 0 (some q5)))))))]) (w1 := [(lo, .inr (3, [.int (0 + 1), .ref q7, .int 1]))]) (t1 := []) hP hD hK [2] [0, 1, 3] rfl rfl (by decide) (by decide) hk1 hFc ht hvm hB
  generalize H1 = H at hP hS ⊢
  have hP : va_P (dC, dI) vwCl [(mo, .inr (19, [.int 0, .int 0, .int 0, .int 0, .int 0, .int 0, .int 0, .ref ti, .ref si, .ref lo, .ref lh, .ref lk, .ref sp, .ref st, .ref pa, .ref br, .ref sg, .int 0, .int 0, .int 0, .int 0, .int 0, .int 0, .long 0, .long 0, .long 0, .long 0, .int 0])), (q5, .inr (18, [.int 115, .int 3, .int p2, .int 0, .int 119, .int 0])), (q7, .inl (cA8, 10, .inr (.inr (.inr (.inr (va_up (fun _ => none) 0 (some q5))))))), (lo, .inr (3, [.int (0 + 1), .ref q7, .int 1]))] H := hP
  have hD : va_D A [(mo, .inr (19, [.int 0, .int 0, .int 0, .int 0, .int 0, .int 0, .int 0, .ref ti, .ref si, .ref lo, .ref lh, .ref lk, .ref sp, .ref st, .ref pa, .ref br, .ref sg, .int 0, .int 0, .int 0, .int 0, .int 0, .int 0, .long 0, .long 0, .long 0, .long 0, .int 0])), (q5, .inr (18, [.int 115, .int 3, .int p2, .int 0, .int 119, .int 0])), (q7, .inl (cA8, 10, .inr (.inr (.inr (.inr (va_up (fun _ => none) 0 (some q5))))))), (lo, .inr (3, [.int (0 + 1), .ref q7, .int 1]))] := hD
  have hK : va_K (dC, dI) vwCl [(cA8, .object "java/lang/Object")] s := hK
  obtain rfl : 1 = r9 := hw
  refine lv_iconst (v := 1) hx hb dX15_order_192 (by decide) ?_
  refine lv_isub hx hb dX15_order_193 ?_
  refine kc_i (y := 0) (by decide +kernel) ?_
  refine W.widen (k := 2) (n := 16) (Nat.le_of_ble_eq_true rfl) (Nat.le_of_ble_eq_true rfl) ?_
  exact W.iret (v := 0) hx hb hr (fun t ht hW => ⟨⟨0, (), rfl, rfl, kB_end (w9 := [(mo, .inr (19, [.int 0, .int 0, .int 0, .int 0, .int 0, .int 0, .int 0, .ref ti, .ref si, .ref lo, .ref lh, .ref lk, .ref sp, .ref st, .ref pa, .ref br, .ref sg, .int 0, .int 0, .int 0, .int 0, .int 0, .int 0, .long 0, .long 0, .long 0, .long 0, .int 0]))]) (t9 := []) hP hK hD [0] [] rfl (by decide) rfl rfl t ht hW⟩, hS.F ht⟩) hS.2.2 dX15_order_194
abbrev wd_k_m_order_s4 (z : Nat → Nat) (p2 : Int32) (mo : Nat) (ti : Nat) (si : Nat) (lo : Nat) (lh : Nat) (lk : Nat) (sp : Nat) (st : Nat) (pa : Nat) (br : Nat) (sg : Nat) (th : Int32) : va_W := [(mo, .inr (19, [.int 0, .int 0, .int 0, .int 0, .int 0, .int 0, .int 0, .ref ti, .ref si, .ref lo, .ref lh, .ref lk, .ref sp, .ref st, .ref pa, .ref br, .ref sg, .int 0, .int 0, .int 0, .int 0, .int 0, .int 0, .long 0, .long 0, .long 0, .long 0, .int th])), (lo, .inr (3, [.int 0, .ref (z 0), .int 0]))]
set_option maxHeartbeats 4000000 in
set_option maxRecDepth 100000 in
theorem k_m_order_s4 (l : Launch) (dC : Nat → ClassId) (dI : Nat → Nat → Nat) (z zK zV : Nat → Nat) (p2 : Int32) (mo : Nat) (ti : Nat) (si : Nat) (lo : Nat) (lh : Nat) (lk : Nat) (sp : Nat) (st : Nat) (pa : Nat) (br : Nat) (sg : Nat) (th : Int32) (sz : Nat) (hg0 : (0 : Int32) ≤ p2 ∧ p2 ≤ 2) : Met l yX15_order wsX15_order ({ frames := 5, cells := 2, slots := 16, locals := 101 }) (kP dC dI z zK zV [.ref mo, .int 115, .int 4, .int p2] sz (wd_k_m_order_s4 z p2 mo ti si lo lh lk sp st pa br sg th) []) (va_Qi (fun (r : Int32) (_ : Unit) => 0 = r) (fun _ t => kB (dC, dI) (va_A (wd_k_m_order_s4 z p2 mo ti si lo lh lk sp st pa br sg th) sz) [(mo, .inr (19, [.int 0, .int 0, .int 0, .int 0, .int 0, .int 0, .int 0, .ref ti, .ref si, .ref lo, .ref lh, .ref lk, .ref sp, .ref st, .ref pa, .ref br, .ref sg, .int 0, .int 0, .int 0, .int 0, .int 0, .int 0, .long 0, .long 0, .long 0, .long 0, .int 0]))] [] t) (va_A (wd_k_m_order_s4 z p2 mo ti si lo lh lk sp st pa br sg th) sz)) 2 16 (va_A (wd_k_m_order_s4 z p2 mo ti si lo lh lk sp st pa br sg th) sz) := by
  refine Met.ofW (cc := cX15_order) (maxL := 6) (ret := (some .int)) (by decide) rfl ?_
  intro p e s m args below meth c s₁ B hml hv
  obtain ⟨rfl, hsz, hP, hK, hD0, hM⟩ := hv
  have hx := B.exec
  have hb := B.bytes
  have hr := B.returns
  have hts := atoms_spec (ws := wsX15_order) B.pre
  have hown : s.vm.findClass RX15 = some m.cls := findClass_of_methodNamed B.named
  have hlocks := B.notSynchronized
  have hiX15 : ∀ w ∈ u_ws RX15 TX15 28, w ∈ wsX15_order := by decide +kernel
  have hiX14 : ∀ w ∈ u_ws RX14 TX14 6, w ∈ wsX15_order := by decide +kernel
  subst hsz
  have hD := hD0.self (sz := s.heap.size)
  generalize hAe : va_A (wd_k_m_order_s4 z p2 mo ti si lo lh lk sp st pa br sg th) s.heap.size = A at hD hM ⊢
  have hA : ∀ q : Nat, s.heap.size ≤ q → A q := fun q h => by rw [← hAe]; exact Or.inr h
  have hS : va_S A s.heap s.heap [] := va_S.rf
  have hP : va_P (dC, dI) vwCl [(mo, .inr (19, [.int 0, .int 0, .int 0, .int 0, .int 0, .int 0, .int 0, .ref ti, .ref si, .ref lo, .ref lh, .ref lk, .ref sp, .ref st, .ref pa, .ref br, .ref sg, .int 0, .int 0, .int 0, .int 0, .int 0, .int 0, .long 0, .long 0, .long 0, .long 0, .int th])), (lo, .inr (3, [.int 0, .ref (z 0), .int 0]))] s.heap := hP
  have hD : va_D A [(mo, .inr (19, [.int 0, .int 0, .int 0, .int 0, .int 0, .int 0, .int 0, .ref ti, .ref si, .ref lo, .ref lh, .ref lk, .ref sp, .ref st, .ref pa, .ref br, .ref sg, .int 0, .int 0, .int 0, .int 0, .int 0, .int 0, .long 0, .long 0, .long 0, .long 0, .int th])), (lo, .inr (3, [.int 0, .ref (z 0), .int 0]))] := hD
  have hl := lv_entry ([.ref mo, .int 115, .int 4, .int p2]) (n := 6) (Nat.le_of_ble_eq_true rfl)
  rw [lg_entry_eq]
  generalize (lg_sl ([.ref mo, .int 115, .int 4, .int p2]) ++ List.replicate (6 - (lg_sl ([.ref mo, .int 115, .int 4, .int p2])).length) Slot.unset).toArray = ls at hl ⊢
  have hl : lv_has ls 6 [(0, .ref mo), (1, .int 115), (2, .int 4), (3, .int p2)] := hl
  refine lv_iload_n hx hb dX15_order_0 rfl (lv_at hl 1 rfl) ?_
  refine lv_bipush (v := 115) hx hb dX15_order_1 (by decide) ?_
  refine lv_icmp_eq (tgt := 12) hx hb dX15_order_3 (by decide) (fun _ => ?_) (fun c_ => absurd (by decide +kernel) c_)
  refine lv_iconst (v := 1) hx hb dX15_order_12 (by decide) ?_
  refine lv_goto (tgt := 17) hx hb dX15_order_13 (by decide) ?_
  refine lv_istore (lv' := [(4, .int 1), (0, .ref mo), (1, .int 115), (2, .int 4), (3, .int p2)]) hx hb dX15_order_17 hl (by decide) rfl (fun ls hl => ?_)
  refine va_ldcS hx hb hown (hM.2.2.1 0 _ rfl) dX15_order_19 ?_
  refine lv_iload_n hx hb dX15_order_21 rfl (lv_at hl 2 rfl) ?_
  have hPc := hP.sub (ws' := []) [] rfl
  have hDc := hD.sub (ws' := []) [] (by decide) rfl
  have hKc := hK.sub (tys' := []) [] rfl
  have hFc := va_free (wc := []) hD hS hA [] rfl
  refine va_calli (va_runV (As := [.int 115]) (rest := []) ⟨hx, hb, hml, hown, hts⟩ (k_ix3_115 l dC dI z zK zV  s.heap.size) (cwV 1 hts gX15_order_J0_indexOf_0f7a4 rfl rfl rfl (by decide +kernel) ⟨Nat.le_of_ble_eq_true rfl, Nat.le_of_ble_eq_true rfl⟩) ⟨kP_blind, vk_recv (i := 0) hM.2.2.2.1 (by decide) hS, kP_go hPc hKc hDc hFc hM hS⟩ rfl rfl hl.1 rfl (lv_room (Nat.le_of_ble_eq_true rfl)) dX15_order_22 ⟨Nat.le_of_ble_eq_true rfl, Nat.le_of_ble_eq_true rfl⟩) hS (fun q _ h => hFc q h) hFc (fun r1 u t H1 locs ht hvm hw hB hz1 hk1 hS => ?_)
  obtain ⟨hP, hD, hK⟩ := kJ (wr := [(mo, .inr (19, [.int 0, .int 0, .int 0, .int 0, .int 0, .int 0, .int 0, .ref ti, .ref si, .ref lo, .ref lh, .ref lk, .ref sp, .ref st, .ref pa, .ref br, .ref sg, .int 0, .int 0, .int 0, .int 0, .int 0, .int 0, .long 0, .long 0, .long 0, .long 0, .int th])), (lo, .inr (3, [.int 0, .ref (z 0), .int 0]))]) (w1 := []) (t1 := []) hP hD hK [] [0, 1] rfl rfl (by decide) (by decide) hk1 hFc ht hvm hB
  generalize H1 = H at hP hS ⊢
  have hP : va_P (dC, dI) vwCl [(mo, .inr (19, [.int 0, .int 0, .int 0, .int 0, .int 0, .int 0, .int 0, .ref ti, .ref si, .ref lo, .ref lh, .ref lk, .ref sp, .ref st, .ref pa, .ref br, .ref sg, .int 0, .int 0, .int 0, .int 0, .int 0, .int 0, .long 0, .long 0, .long 0, .long 0, .int th])), (lo, .inr (3, [.int 0, .ref (z 0), .int 0]))] H := hP
  have hD : va_D A [(mo, .inr (19, [.int 0, .int 0, .int 0, .int 0, .int 0, .int 0, .int 0, .ref ti, .ref si, .ref lo, .ref lh, .ref lk, .ref sp, .ref st, .ref pa, .ref br, .ref sg, .int 0, .int 0, .int 0, .int 0, .int 0, .int 0, .long 0, .long 0, .long 0, .long 0, .int th])), (lo, .inr (3, [.int 0, .ref (z 0), .int 0]))] := hD
  have hK : va_K (dC, dI) vwCl [] s := hK
  obtain rfl : 0 = r1 := hw
  refine lv_if_lt (tgt := 55) hx hb dX15_order_25 (by decide) (fun c_ => absurd c_ (by decide +kernel)) (fun _ => ?_)
  refine lv_iload_n hx hb dX15_order_28 rfl (lv_at hl 3 rfl) ?_
  refine lv_i2l (v := 4) hx hb dX15_order_29 (by decide +kernel) ?_
  refine lv_lconst (v := 0) hx hb dX15_order_30 (by decide) ?_
  refine lv_iload hx hb dX15_order_31 (lv_at hl 0 rfl) ?_
  refine lv_if_eq (tgt := 42) hx hb dX15_order_33 (by decide) (fun c_ => absurd c_ (by decide +kernel)) (fun _ => ?_)
  refine lv_ldc2 (v := 8) hx hb hown (hts (.constantLong RX15 148 8) (by decide +kernel)) dX15_order_36 ?_
  refine lv_goto (tgt := 45) hx hb dX15_order_39 (by decide) ?_
  have hPc := hP.sub (ws' := []) [] rfl
  have hDc := hD.sub (ws' := []) [] (by decide) rfl
  have hKc := hK.sub (tys' := []) [] rfl
  have hFc := va_free (wc := []) hD hS hA [] rfl
  refine va_calli (va_runS (As := [.long 4, .long 0, .long 8]) (rest := []) ⟨hx, hb, hml, hown, hts⟩ (k_in l dC dI z zK zV 4 0 8 H.size) (va_cwS 3 hts gX15_order_X15_in rfl rfl rfl (by decide +kernel) ⟨Nat.le_of_ble_eq_true rfl, Nat.le_of_ble_eq_true rfl⟩) ⟨kP_blind, kP_go hPc hKc hDc hFc hM hS⟩ rfl rfl hl.1 rfl (lv_room (Nat.le_of_ble_eq_true rfl)) dX15_order_45 ⟨Nat.le_of_ble_eq_true rfl, Nat.le_of_ble_eq_true rfl⟩) hS (fun q _ h => hFc q h) hFc (fun r2 u t H1 locs ht hvm hw hB hz1 hk1 hS => ?_)
  obtain ⟨hP, hD, hK⟩ := kJ (wr := [(mo, .inr (19, [.int 0, .int 0, .int 0, .int 0, .int 0, .int 0, .int 0, .ref ti, .ref si, .ref lo, .ref lh, .ref lk, .ref sp, .ref st, .ref pa, .ref br, .ref sg, .int 0, .int 0, .int 0, .int 0, .int 0, .int 0, .long 0, .long 0, .long 0, .long 0, .int th])), (lo, .inr (3, [.int 0, .ref (z 0), .int 0]))]) (w1 := []) (t1 := []) hP hD hK [] [0, 1] rfl rfl (by decide) (by decide) hk1 hFc ht hvm hB
  generalize H1 = H at hP hS ⊢
  have hP : va_P (dC, dI) vwCl [(mo, .inr (19, [.int 0, .int 0, .int 0, .int 0, .int 0, .int 0, .int 0, .ref ti, .ref si, .ref lo, .ref lh, .ref lk, .ref sp, .ref st, .ref pa, .ref br, .ref sg, .int 0, .int 0, .int 0, .int 0, .int 0, .int 0, .long 0, .long 0, .long 0, .long 0, .int th])), (lo, .inr (3, [.int 0, .ref (z 0), .int 0]))] H := hP
  have hD : va_D A [(mo, .inr (19, [.int 0, .int 0, .int 0, .int 0, .int 0, .int 0, .int 0, .ref ti, .ref si, .ref lo, .ref lh, .ref lk, .ref sp, .ref st, .ref pa, .ref br, .ref sg, .int 0, .int 0, .int 0, .int 0, .int 0, .int 0, .long 0, .long 0, .long 0, .long 0, .int th])), (lo, .inr (3, [.int 0, .ref (z 0), .int 0]))] := hD
  have hK : va_K (dC, dI) vwCl [] s := hK
  obtain rfl : (if 0 ≤ 4 ∧ 4 ≤ 8 then (1 : Int32) else 0) = r2 := hw
  refine kc_i (y := 1) (by decide +kernel) ?_
  refine lv_if_eq (tgt := 55) hx hb dX15_order_48 (by decide) (fun c_ => absurd c_ (by decide +kernel)) (fun _ => ?_)
  refine lv_iconst (v := 1) hx hb dX15_order_51 (by decide) ?_
  refine lv_goto (tgt := 56) hx hb dX15_order_52 (by decide) ?_
  refine lv_istore (lv' := [(5, .int 1), (4, .int 1), (0, .ref mo), (1, .int 115), (2, .int 4), (3, .int p2)]) hx hb dX15_order_56 hl (by decide) rfl (fun ls hl => ?_)
  refine lv_iload hx hb dX15_order_58 (lv_at hl 0 rfl) ?_
  refine lv_if_eq (tgt := 115) hx hb dX15_order_60 (by decide) (fun c_ => absurd c_ (by decide +kernel)) (fun _ => ?_)
  refine lv_iload_n hx hb dX15_order_63 rfl (lv_at hl 3 rfl) ?_
  refine lv_bipush (v := 115) hx hb dX15_order_64 (by decide) ?_
  refine lv_icmp_ne (tgt := 84) hx hb dX15_order_66 (by decide) (fun c_ => absurd (by decide +kernel) c_) (fun _ => ?_)
  refine lv_iload_n hx hb dX15_order_69 rfl (lv_at hl 5 rfl) ?_
  refine lv_i2l (v := p2.toInt64) hx hb dX15_order_70 rfl ?_
  refine lv_lconst (v := 0) hx hb dX15_order_71 (by decide) ?_
  refine lv_ldc2 (v := 2) hx hb hown (hts (.constantLong RX15 150 2) (by decide +kernel)) dX15_order_72 ?_
  have hPc := hP.sub (ws' := []) [] rfl
  have hDc := hD.sub (ws' := []) [] (by decide) rfl
  have hKc := hK.sub (tys' := []) [] rfl
  have hFc := va_free (wc := []) hD hS hA [] rfl
  refine va_calli (va_runS (As := [.long p2.toInt64, .long 0, .long 2]) (rest := []) ⟨hx, hb, hml, hown, hts⟩ (k_in l dC dI z zK zV p2.toInt64 0 2 H.size) (va_cwS 3 hts gX15_order_X15_in rfl rfl rfl (by decide +kernel) ⟨Nat.le_of_ble_eq_true rfl, Nat.le_of_ble_eq_true rfl⟩) ⟨kP_blind, kP_go hPc hKc hDc hFc hM hS⟩ rfl rfl hl.1 rfl (lv_room (Nat.le_of_ble_eq_true rfl)) dX15_order_75 ⟨Nat.le_of_ble_eq_true rfl, Nat.le_of_ble_eq_true rfl⟩) hS (fun q _ h => hFc q h) hFc (fun r3 u t H1 locs ht hvm hw hB hz1 hk1 hS => ?_)
  obtain ⟨hP, hD, hK⟩ := kJ (wr := [(mo, .inr (19, [.int 0, .int 0, .int 0, .int 0, .int 0, .int 0, .int 0, .ref ti, .ref si, .ref lo, .ref lh, .ref lk, .ref sp, .ref st, .ref pa, .ref br, .ref sg, .int 0, .int 0, .int 0, .int 0, .int 0, .int 0, .long 0, .long 0, .long 0, .long 0, .int th])), (lo, .inr (3, [.int 0, .ref (z 0), .int 0]))]) (w1 := []) (t1 := []) hP hD hK [] [0, 1] rfl rfl (by decide) (by decide) hk1 hFc ht hvm hB
  generalize H1 = H at hP hS ⊢
  have hP : va_P (dC, dI) vwCl [(mo, .inr (19, [.int 0, .int 0, .int 0, .int 0, .int 0, .int 0, .int 0, .ref ti, .ref si, .ref lo, .ref lh, .ref lk, .ref sp, .ref st, .ref pa, .ref br, .ref sg, .int 0, .int 0, .int 0, .int 0, .int 0, .int 0, .long 0, .long 0, .long 0, .long 0, .int th])), (lo, .inr (3, [.int 0, .ref (z 0), .int 0]))] H := hP
  have hD : va_D A [(mo, .inr (19, [.int 0, .int 0, .int 0, .int 0, .int 0, .int 0, .int 0, .ref ti, .ref si, .ref lo, .ref lh, .ref lk, .ref sp, .ref st, .ref pa, .ref br, .ref sg, .int 0, .int 0, .int 0, .int 0, .int 0, .int 0, .long 0, .long 0, .long 0, .long 0, .int th])), (lo, .inr (3, [.int 0, .ref (z 0), .int 0]))] := hD
  have hK : va_K (dC, dI) vwCl [] s := hK
  obtain rfl : (if 0 ≤ (p2.toInt64) ∧ (p2.toInt64) ≤ 2 then (1 : Int32) else 0) = r3 := hw
  refine kc_i (y := (if 0 ≤ p2 ∧ p2 ≤ 2 then (1 : Int32) else 0)) (k_inP (a := 0) (b := 2) (by decide +kernel) (by decide +kernel)) ?_
  refine lv_if_eq (tgt := 115) hx hb dX15_order_78 (by decide) (fun c_ => absurd c_ (k_ifp hg0)) (fun _ => ?_)
  refine lv_goto (tgt := 111) hx hb dX15_order_81 (by decide) ?_
  refine lv_iconst (v := 1) hx hb dX15_order_111 (by decide) ?_
  refine lv_goto (tgt := 116) hx hb dX15_order_112 (by decide) ?_
  refine lv_istore (lv' := [(5, .int 1), (4, .int 1), (0, .ref mo), (1, .int 115), (2, .int 4), (3, .int p2)]) hx hb dX15_order_116 hl (by decide) rfl (fun ls hl => ?_)
  refine lv_aload_n hx hb dX15_order_118 rfl (lv_at hl 2 rfl) ?_
  refine lv_iload hx hb dX15_order_119 (lv_at hl 0 rfl) ?_
  refine lv_if_ne (tgt := 128) hx hb dX15_order_121 (by decide) (fun _ => ?_) (fun c_ => absurd c_ (by decide +kernel))
  refine lv_aload_n hx hb dX15_order_128 rfl (lv_at hl 2 rfl) ?_
  refine va_get (D := (dC, dI)) (ci := 19) (v := .ref lo) (C := RX15) (T := TX15) (N := 28) hx hb hts hiX15 hown hK hP 0 rfl rfl 9 (by decide) (hts (.fieldLink RX15 19 "SquareRigModel" "orders" "Ljava/util/List;") (by decide +kernel)) (fun _ h9 => h9) rfl dX15_order_129 ?_
  have hPc := hP.sub (ws' := [(lo, .inr (3, [.int 0, .ref (z 0), .int 0]))]) [1] rfl
  have hDc := hD.sub (ws' := [(lo, .inr (3, [.int 0, .ref (z 0), .int 0]))]) [1] (by decide) rfl
  have hKc := hK.sub (tys' := []) [] rfl
  have hFc := va_free (wc := [(lo, .inr (3, [.int 0, .ref (z 0), .int 0]))]) hD hS hA [1] rfl
  refine va_callFi (va_runF (hK.1 3 _ rfl).2 (As := []) (rest := [.ref mo]) ⟨hx, hb, hml, hown, hts⟩ (k_size0 l dC dI z zK zV lo H.size) (va_cwF 0 hts gX15_order_Jx4a65c_size_8abf5_f156Jx4a65c rfl rfl rfl hM.2.2.2.2.2.2.2.2.2.2.1.2.2.1 (by decide +kernel) ⟨Nat.le_of_ble_eq_true rfl, Nat.le_of_ble_eq_true rfl⟩) ⟨kP_blind, va_recv hKc hPc (ci := 3) (q0 := 0) rfl rfl, kP_go hPc hKc hDc hFc hM hS⟩ rfl rfl hl.1 rfl (lv_room (Nat.le_of_ble_eq_true rfl)) dX15_order_132 ⟨Nat.le_of_ble_eq_true rfl, Nat.le_of_ble_eq_true rfl⟩) hS (fun q _ h => hFc q h) hFc (fun r4 u t H1 locs ht hvm hw hB hz1 hk1 hS => ?_)
  obtain ⟨hP, hD, hK⟩ := kJ (wr := [(mo, .inr (19, [.int 0, .int 0, .int 0, .int 0, .int 0, .int 0, .int 0, .ref ti, .ref si, .ref lo, .ref lh, .ref lk, .ref sp, .ref st, .ref pa, .ref br, .ref sg, .int 0, .int 0, .int 0, .int 0, .int 0, .int 0, .long 0, .long 0, .long 0, .long 0, .int th]))]) (w1 := [(lo, .inr (3, [.int 0, .ref (z 0), .int 0]))]) (t1 := []) hP hD hK [1] [0] rfl rfl (by decide) (by decide) hk1 hFc ht hvm hB
  generalize H1 = H at hP hS ⊢
  have hP : va_P (dC, dI) vwCl [(mo, .inr (19, [.int 0, .int 0, .int 0, .int 0, .int 0, .int 0, .int 0, .ref ti, .ref si, .ref lo, .ref lh, .ref lk, .ref sp, .ref st, .ref pa, .ref br, .ref sg, .int 0, .int 0, .int 0, .int 0, .int 0, .int 0, .long 0, .long 0, .long 0, .long 0, .int th])), (lo, .inr (3, [.int 0, .ref (z 0), .int 0]))] H := hP
  have hD : va_D A [(mo, .inr (19, [.int 0, .int 0, .int 0, .int 0, .int 0, .int 0, .int 0, .ref ti, .ref si, .ref lo, .ref lh, .ref lk, .ref sp, .ref st, .ref pa, .ref br, .ref sg, .int 0, .int 0, .int 0, .int 0, .int 0, .int 0, .long 0, .long 0, .long 0, .long 0, .int th])), (lo, .inr (3, [.int 0, .ref (z 0), .int 0]))] := hD
  have hK : va_K (dC, dI) vwCl [] s := hK
  obtain rfl : 0 = r4 := hw
  refine lv_bipush (v := 100) hx hb dX15_order_137 (by decide) ?_
  refine lv_icmp_ne (tgt := 146) hx hb dX15_order_139 (by decide) (fun _ => ?_) (fun c_ => absurd c_ (by decide +kernel))
  refine lv_iconst (v := 0) hx hb dX15_order_146 (by decide) ?_
  refine va_put (D := (dC, dI)) (ci := 19) (v := .int 0) (ty := .int) (C := RX15) (T := TX15) (N := 28) hx hb hts hiX15 tyX15 tyX15_ok nmX15 hown hK hP hD hS 0 rfl rfl 27 (by decide) (hts (.fieldLink RX15 45 "SquareRigModel" "thrown" "I") (by decide +kernel)) (fun _ h9 => h9) rfl (by decide +kernel) rfl rfl (Nat.le_of_ble_eq_true rfl) dX15_order_147 (fun H locs hP hD hS => ?_)
  have hP : va_P (dC, dI) vwCl [(mo, .inr (19, [.int 0, .int 0, .int 0, .int 0, .int 0, .int 0, .int 0, .ref ti, .ref si, .ref lo, .ref lh, .ref lk, .ref sp, .ref st, .ref pa, .ref br, .ref sg, .int 0, .int 0, .int 0, .int 0, .int 0, .int 0, .long 0, .long 0, .long 0, .long 0, .int 0])), (lo, .inr (3, [.int 0, .ref (z 0), .int 0]))] H := hP
  have hD : va_D A [(mo, .inr (19, [.int 0, .int 0, .int 0, .int 0, .int 0, .int 0, .int 0, .ref ti, .ref si, .ref lo, .ref lh, .ref lk, .ref sp, .ref st, .ref pa, .ref br, .ref sg, .int 0, .int 0, .int 0, .int 0, .int 0, .int 0, .long 0, .long 0, .long 0, .long 0, .int 0])), (lo, .inr (3, [.int 0, .ref (z 0), .int 0]))] := hD
  refine lv_aload_n hx hb dX15_order_150 rfl (lv_at hl 2 rfl) ?_
  refine va_get (D := (dC, dI)) (ci := 19) (v := .int 0) (C := RX15) (T := TX15) (N := 28) hx hb hts hiX15 hown hK hP 0 rfl rfl 27 (by decide) (hts (.fieldLink RX15 45 "SquareRigModel" "thrown" "I") (by decide +kernel)) (fun _ h9 => h9) rfl dX15_order_151 ?_
  refine lv_if_le (tgt := 159) hx hb dX15_order_154 (by decide) (fun _ => ?_) (fun c_ => absurd (by decide +kernel) c_)
  refine lv_aload_n hx hb dX15_order_159 rfl (lv_at hl 2 rfl) ?_
  refine va_get (D := (dC, dI)) (ci := 19) (v := .ref lo) (C := RX15) (T := TX15) (N := 28) hx hb hts hiX15 hown hK hP 0 rfl rfl 9 (by decide) (hts (.fieldLink RX15 19 "SquareRigModel" "orders" "Ljava/util/List;") (by decide +kernel)) (fun _ h9 => h9) rfl dX15_order_160 ?_
  refine va_new (ci := 18) (fs := [.int 0, .int 0, .int 0, .int 0, .int 0, .int 0]) (C := RX14) (T := TX14) (N := 6) hx hb hts hiX14 tyX14 tyX14_ok hown (hts (.classLink RX15 161 RX14) (by decide +kernel)) (hts (.instantiable RX14 6) (by decide +kernel)) (hts (.initialized RX14) (by decide +kernel)) hK hP hD hS hA rfl (fun j hj => by rcases (show j = 0 ∨ j = 1 ∨ j = 2 ∨ j = 3 ∨ j = 4 ∨ j = 5 by omega) with rfl | rfl | rfl | rfl | rfl | rfl <;> rfl) (Nat.le_of_ble_eq_true rfl) (Nat.le_of_ble_eq_true rfl) dX15_order_163 (fun q5 H hP hD hS => ?_)
  have hP : va_P (dC, dI) vwCl [(mo, .inr (19, [.int 0, .int 0, .int 0, .int 0, .int 0, .int 0, .int 0, .ref ti, .ref si, .ref lo, .ref lh, .ref lk, .ref sp, .ref st, .ref pa, .ref br, .ref sg, .int 0, .int 0, .int 0, .int 0, .int 0, .int 0, .long 0, .long 0, .long 0, .long 0, .int 0])), (lo, .inr (3, [.int 0, .ref (z 0), .int 0])), (q5, .inr (18, [.int 0, .int 0, .int 0, .int 0, .int 0, .int 0]))] H := hP
  have hD : va_D A [(mo, .inr (19, [.int 0, .int 0, .int 0, .int 0, .int 0, .int 0, .int 0, .ref ti, .ref si, .ref lo, .ref lh, .ref lk, .ref sp, .ref st, .ref pa, .ref br, .ref sg, .int 0, .int 0, .int 0, .int 0, .int 0, .int 0, .long 0, .long 0, .long 0, .long 0, .int 0])), (lo, .inr (3, [.int 0, .ref (z 0), .int 0])), (q5, .inr (18, [.int 0, .int 0, .int 0, .int 0, .int 0, .int 0]))] := hD
  refine lv_dup hx hb dX15_order_166 rfl ?_
  refine lv_iload_n hx hb dX15_order_167 rfl (lv_at hl 3 rfl) ?_
  refine lv_iload_n hx hb dX15_order_168 rfl (lv_at hl 4 rfl) ?_
  refine lv_iload_n hx hb dX15_order_169 rfl (lv_at hl 5 rfl) ?_
  refine lv_aload_n hx hb dX15_order_170 rfl (lv_at hl 2 rfl) ?_
  refine va_get (D := (dC, dI)) (ci := 19) (v := .int 0) (C := RX15) (T := TX15) (N := 28) hx hb hts hiX15 hown hK hP 0 rfl rfl 17 (by decide) (hts (.fieldLink RX15 163 "SquareRigModel" "minute" "I") (by decide +kernel)) (fun _ h9 => h9) rfl dX15_order_171 ?_
  have hPc := hP.sub (ws' := [(q5, .inr (18, [.int 0, .int 0, .int 0, .int 0, .int 0, .int 0]))]) [2] rfl
  have hDc := hD.sub (ws' := [(q5, .inr (18, [.int 0, .int 0, .int 0, .int 0, .int 0, .int 0]))]) [2] (by decide) rfl
  have hKc := hK.sub (tys' := []) [] rfl
  have hFc := va_free (wc := [(q5, .inr (18, [.int 0, .int 0, .int 0, .int 0, .int 0, .int 0]))]) hD hS hA [2] rfl
  refine va_callv (va_runI (As := [.int 115, .int 4, .int p2, .int 0]) (rest := [.ref q5, .ref lo]) ⟨hx, hb, hml, hown, hts⟩ (k_MOrder_init115 l dC dI z zK zV q5 4 p2 0 H.size) (cwI 4 hts gX15_order_X14_init rfl rfl rfl (hts (.initialized RX14) (by decide +kernel)) (hts (.methodLink RX15 166 yX14_init) (by decide +kernel)) (hts (.instanceMethod yX14_init) (by decide +kernel)) rfl (by decide +kernel) ⟨Nat.le_of_ble_eq_true rfl, Nat.le_of_ble_eq_true rfl⟩) ⟨kP_blind, kP_go hPc hKc hDc hFc hM hS⟩ rfl rfl hl.1 rfl (lv_room (Nat.le_of_ble_eq_true rfl)) dX15_order_174 ⟨Nat.le_of_ble_eq_true rfl, Nat.le_of_ble_eq_true rfl⟩) hS (fun q _ h => hFc q h) hFc (fun u t H1 locs ht hvm hw hB hz1 hk1 hS => ?_)
  obtain ⟨hP, hD, hK⟩ := kJ (wr := [(mo, .inr (19, [.int 0, .int 0, .int 0, .int 0, .int 0, .int 0, .int 0, .ref ti, .ref si, .ref lo, .ref lh, .ref lk, .ref sp, .ref st, .ref pa, .ref br, .ref sg, .int 0, .int 0, .int 0, .int 0, .int 0, .int 0, .long 0, .long 0, .long 0, .long 0, .int 0])), (lo, .inr (3, [.int 0, .ref (z 0), .int 0]))]) (w1 := [(q5, .inr (18, [.int 115, .int 4, .int p2, .int 0, .int 119, .int 0]))]) (t1 := []) hP hD hK [2] [0, 1] rfl rfl (by decide) (by decide) hk1 hFc ht hvm hB
  generalize H1 = H at hP hS ⊢
  have hP : va_P (dC, dI) vwCl [(mo, .inr (19, [.int 0, .int 0, .int 0, .int 0, .int 0, .int 0, .int 0, .ref ti, .ref si, .ref lo, .ref lh, .ref lk, .ref sp, .ref st, .ref pa, .ref br, .ref sg, .int 0, .int 0, .int 0, .int 0, .int 0, .int 0, .long 0, .long 0, .long 0, .long 0, .int 0])), (lo, .inr (3, [.int 0, .ref (z 0), .int 0])), (q5, .inr (18, [.int 115, .int 4, .int p2, .int 0, .int 119, .int 0]))] H := hP
  have hD : va_D A [(mo, .inr (19, [.int 0, .int 0, .int 0, .int 0, .int 0, .int 0, .int 0, .ref ti, .ref si, .ref lo, .ref lh, .ref lk, .ref sp, .ref st, .ref pa, .ref br, .ref sg, .int 0, .int 0, .int 0, .int 0, .int 0, .int 0, .long 0, .long 0, .long 0, .long 0, .int 0])), (lo, .inr (3, [.int 0, .ref (z 0), .int 0])), (q5, .inr (18, [.int 115, .int 4, .int p2, .int 0, .int 119, .int 0]))] := hD
  have hK : va_K (dC, dI) vwCl [] s := hK
  clear hw
  have hPc := hP.sub (ws' := [(lo, .inr (3, [.int 0, .ref (z 0), .int 0])), (q5, .inr (18, [.int 115, .int 4, .int p2, .int 0, .int 119, .int 0]))]) [1, 2] rfl
  have hDc := hD.sub (ws' := [(lo, .inr (3, [.int 0, .ref (z 0), .int 0])), (q5, .inr (18, [.int 115, .int 4, .int p2, .int 0, .int 119, .int 0]))]) [1, 2] (by decide) rfl
  have hKc := hK.sub (tys' := []) [] rfl
  have hFc := va_free (wc := [(lo, .inr (3, [.int 0, .ref (z 0), .int 0])), (q5, .inr (18, [.int 115, .int 4, .int p2, .int 0, .int 119, .int 0]))]) hD hS hA [1, 2] rfl
  refine va_callFi (va_runF (hK.1 3 _ rfl).2 (As := [.ref q5]) (rest := []) ⟨hx, hb, hml, hown, hts⟩ (k_add1_oo l dC dI z zK zV lo 0 q5 115 4 p2 0 119 0 H.size) (va_cwF 1 hts gX15_order_Jx4a65c_add_9ea2d_f169Jx4a65c rfl rfl rfl hM.2.2.2.2.2.2.2.2.2.2.1.2.2.2.2 (by decide +kernel) ⟨Nat.le_of_ble_eq_true rfl, Nat.le_of_ble_eq_true rfl⟩) ⟨kP_blind, va_recv hKc hPc (ci := 3) (q0 := 0) rfl rfl, kP_go hPc hKc hDc hFc hM hS⟩ rfl rfl hl.1 rfl (lv_room (Nat.le_of_ble_eq_true rfl)) dX15_order_177 ⟨Nat.le_of_ble_eq_true rfl, Nat.le_of_ble_eq_true rfl⟩) hS (fun q _ h => hFc q h) hFc (fun r6 u t H1 locs ht hvm hw hB hz1 hk1 hS => ?_)
  obtain ⟨q7, cA8, hB⟩ := hB
  obtain ⟨hP, hD, hK⟩ := kJ (wr := [(mo, .inr (19, [.int 0, .int 0, .int 0, .int 0, .int 0, .int 0, .int 0, .ref ti, .ref si, .ref lo, .ref lh, .ref lk, .ref sp, .ref st, .ref pa, .ref br, .ref sg, .int 0, .int 0, .int 0, .int 0, .int 0, .int 0, .long 0, .long 0, .long 0, .long 0, .int 0]))]) (w1 := [(q5, .inr (18, [.int 115, .int 4, .int p2, .int 0, .int 119, .int 0])), (lo, .inr (3, [.int (0 + 1), .ref q7, .int 1])), (q7, .inl (cA8, 10, .inr (.inr (.inr (.inr (va_up (fun _ => none) 0 (some q5)))))))]) (t1 := [(cA8, .object "java/lang/Object")]) hP hD hK [1, 2] [0] rfl rfl (by decide) (by decide) hk1 hFc ht hvm hB
  generalize H1 = H at hP hS ⊢
  have hP : va_P (dC, dI) vwCl [(mo, .inr (19, [.int 0, .int 0, .int 0, .int 0, .int 0, .int 0, .int 0, .ref ti, .ref si, .ref lo, .ref lh, .ref lk, .ref sp, .ref st, .ref pa, .ref br, .ref sg, .int 0, .int 0, .int 0, .int 0, .int 0, .int 0, .long 0, .long 0, .long 0, .long 0, .int 0])), (q5, .inr (18, [.int 115, .int 4, .int p2, .int 0, .int 119, .int 0])), (lo, .inr (3, [.int (0 + 1), .ref q7, .int 1])), (q7, .inl (cA8, 10, .inr (.inr (.inr (.inr (va_up (fun _ => none) 0 (some q5)))))))] H := hP
  have hD : va_D A [(mo, .inr (19, [.int 0, .int 0, .int 0, .int 0, .int 0, .int 0, .int 0, .ref ti, .ref si, .ref lo, .ref lh, .ref lk, .ref sp, .ref st, .ref pa, .ref br, .ref sg, .int 0, .int 0, .int 0, .int 0, .int 0, .int 0, .long 0, .long 0, .long 0, .long 0, .int 0])), (q5, .inr (18, [.int 115, .int 4, .int p2, .int 0, .int 119, .int 0])), (lo, .inr (3, [.int (0 + 1), .ref q7, .int 1])), (q7, .inl (cA8, 10, .inr (.inr (.inr (.inr (va_up (fun _ => none) 0 (some q5)))))))] := hD
  have hK : va_K (dC, dI) vwCl [(cA8, .object "java/lang/Object")] s := hK
  obtain rfl : 1 = r6 := hw
  refine lv_pop hx hb dX15_order_182 rfl ?_
  refine lv_aload_n hx hb dX15_order_183 rfl (lv_at hl 2 rfl) ?_
  refine va_get (D := (dC, dI)) (ci := 19) (v := .ref lo) (C := RX15) (T := TX15) (N := 28) hx hb hts hiX15 hown hK hP 0 rfl rfl 9 (by decide) (hts (.fieldLink RX15 19 "SquareRigModel" "orders" "Ljava/util/List;") (by decide +kernel)) (fun _ h9 => h9) rfl dX15_order_184 ?_
  have hPc := hP.sub (ws' := [(lo, .inr (3, [.int (0 + 1), .ref q7, .int 1]))]) [2] rfl
  have hDc := hD.sub (ws' := [(lo, .inr (3, [.int (0 + 1), .ref q7, .int 1]))]) [2] (by decide) rfl
  have hKc := hK.sub (tys' := []) [] rfl
  have hFc := va_free (wc := [(lo, .inr (3, [.int (0 + 1), .ref q7, .int 1]))]) hD hS hA [2] rfl
  refine va_callFi (va_runF (hK.1 3 _ rfl).2 (As := []) (rest := []) ⟨hx, hb, hml, hown, hts⟩ (k_size1 l dC dI z zK zV lo (0 + 1) q7 H.size) (va_cwF 0 hts gX15_order_Jx4a65c_size_8abf5_f156Jx4a65c rfl rfl rfl hM.2.2.2.2.2.2.2.2.2.2.1.2.2.1 (by decide +kernel) ⟨Nat.le_of_ble_eq_true rfl, Nat.le_of_ble_eq_true rfl⟩) ⟨kP_blind, va_recv hKc hPc (ci := 3) (q0 := 0) rfl rfl, kP_go hPc hKc hDc hFc hM hS⟩ rfl rfl hl.1 rfl (lv_room (Nat.le_of_ble_eq_true rfl)) dX15_order_187 ⟨Nat.le_of_ble_eq_true rfl, Nat.le_of_ble_eq_true rfl⟩) hS (fun q _ h => hFc q h) hFc (fun r9 u t H1 locs ht hvm hw hB hz1 hk1 hS => ?_)
  obtain ⟨hP, hD, hK⟩ := kJ (wr := [(mo, .inr (19, [.int 0, .int 0, .int 0, .int 0, .int 0, .int 0, .int 0, .ref ti, .ref si, .ref lo, .ref lh, .ref lk, .ref sp, .ref st, .ref pa, .ref br, .ref sg, .int 0, .int 0, .int 0, .int 0, .int 0, .int 0, .long 0, .long 0, .long 0, .long 0, .int 0])), (q5, .inr (18, [.int 115, .int 4, .int p2, .int 0, .int 119, .int 0])), (q7, .inl (cA8, 10, .inr (.inr (.inr (.inr (va_up (fun _ => none) 0 (some q5)))))))]) (w1 := [(lo, .inr (3, [.int (0 + 1), .ref q7, .int 1]))]) (t1 := []) hP hD hK [2] [0, 1, 3] rfl rfl (by decide) (by decide) hk1 hFc ht hvm hB
  generalize H1 = H at hP hS ⊢
  have hP : va_P (dC, dI) vwCl [(mo, .inr (19, [.int 0, .int 0, .int 0, .int 0, .int 0, .int 0, .int 0, .ref ti, .ref si, .ref lo, .ref lh, .ref lk, .ref sp, .ref st, .ref pa, .ref br, .ref sg, .int 0, .int 0, .int 0, .int 0, .int 0, .int 0, .long 0, .long 0, .long 0, .long 0, .int 0])), (q5, .inr (18, [.int 115, .int 4, .int p2, .int 0, .int 119, .int 0])), (q7, .inl (cA8, 10, .inr (.inr (.inr (.inr (va_up (fun _ => none) 0 (some q5))))))), (lo, .inr (3, [.int (0 + 1), .ref q7, .int 1]))] H := hP
  have hD : va_D A [(mo, .inr (19, [.int 0, .int 0, .int 0, .int 0, .int 0, .int 0, .int 0, .ref ti, .ref si, .ref lo, .ref lh, .ref lk, .ref sp, .ref st, .ref pa, .ref br, .ref sg, .int 0, .int 0, .int 0, .int 0, .int 0, .int 0, .long 0, .long 0, .long 0, .long 0, .int 0])), (q5, .inr (18, [.int 115, .int 4, .int p2, .int 0, .int 119, .int 0])), (q7, .inl (cA8, 10, .inr (.inr (.inr (.inr (va_up (fun _ => none) 0 (some q5))))))), (lo, .inr (3, [.int (0 + 1), .ref q7, .int 1]))] := hD
  have hK : va_K (dC, dI) vwCl [(cA8, .object "java/lang/Object")] s := hK
  obtain rfl : 1 = r9 := hw
  refine lv_iconst (v := 1) hx hb dX15_order_192 (by decide) ?_
  refine lv_isub hx hb dX15_order_193 ?_
  refine kc_i (y := 0) (by decide +kernel) ?_
  refine W.widen (k := 2) (n := 16) (Nat.le_of_ble_eq_true rfl) (Nat.le_of_ble_eq_true rfl) ?_
  exact W.iret (v := 0) hx hb hr (fun t ht hW => ⟨⟨0, (), rfl, rfl, kB_end (w9 := [(mo, .inr (19, [.int 0, .int 0, .int 0, .int 0, .int 0, .int 0, .int 0, .ref ti, .ref si, .ref lo, .ref lh, .ref lk, .ref sp, .ref st, .ref pa, .ref br, .ref sg, .int 0, .int 0, .int 0, .int 0, .int 0, .int 0, .long 0, .long 0, .long 0, .long 0, .int 0]))]) (t9 := []) hP hK hD [0] [] rfl (by decide) rfl rfl t ht hW⟩, hS.F ht⟩) hS.2.2 dX15_order_194
abbrev wd_k_m_order_s5 (z : Nat → Nat) (p2 : Int32) (mo : Nat) (ti : Nat) (si : Nat) (lo : Nat) (lh : Nat) (lk : Nat) (sp : Nat) (st : Nat) (pa : Nat) (br : Nat) (sg : Nat) (th : Int32) : va_W := [(mo, .inr (19, [.int 0, .int 0, .int 0, .int 0, .int 0, .int 0, .int 0, .ref ti, .ref si, .ref lo, .ref lh, .ref lk, .ref sp, .ref st, .ref pa, .ref br, .ref sg, .int 0, .int 0, .int 0, .int 0, .int 0, .int 0, .long 0, .long 0, .long 0, .long 0, .int th])), (lo, .inr (3, [.int 0, .ref (z 0), .int 0]))]
set_option maxHeartbeats 4000000 in
set_option maxRecDepth 100000 in
theorem k_m_order_s5 (l : Launch) (dC : Nat → ClassId) (dI : Nat → Nat → Nat) (z zK zV : Nat → Nat) (p2 : Int32) (mo : Nat) (ti : Nat) (si : Nat) (lo : Nat) (lh : Nat) (lk : Nat) (sp : Nat) (st : Nat) (pa : Nat) (br : Nat) (sg : Nat) (th : Int32) (sz : Nat) (hg0 : (0 : Int32) ≤ p2 ∧ p2 ≤ 2) : Met l yX15_order wsX15_order ({ frames := 5, cells := 2, slots := 16, locals := 101 }) (kP dC dI z zK zV [.ref mo, .int 115, .int 5, .int p2] sz (wd_k_m_order_s5 z p2 mo ti si lo lh lk sp st pa br sg th) []) (va_Qi (fun (r : Int32) (_ : Unit) => 0 = r) (fun _ t => kB (dC, dI) (va_A (wd_k_m_order_s5 z p2 mo ti si lo lh lk sp st pa br sg th) sz) [(mo, .inr (19, [.int 0, .int 0, .int 0, .int 0, .int 0, .int 0, .int 0, .ref ti, .ref si, .ref lo, .ref lh, .ref lk, .ref sp, .ref st, .ref pa, .ref br, .ref sg, .int 0, .int 0, .int 0, .int 0, .int 0, .int 0, .long 0, .long 0, .long 0, .long 0, .int 0]))] [] t) (va_A (wd_k_m_order_s5 z p2 mo ti si lo lh lk sp st pa br sg th) sz)) 2 16 (va_A (wd_k_m_order_s5 z p2 mo ti si lo lh lk sp st pa br sg th) sz) := by
  refine Met.ofW (cc := cX15_order) (maxL := 6) (ret := (some .int)) (by decide) rfl ?_
  intro p e s m args below meth c s₁ B hml hv
  obtain ⟨rfl, hsz, hP, hK, hD0, hM⟩ := hv
  have hx := B.exec
  have hb := B.bytes
  have hr := B.returns
  have hts := atoms_spec (ws := wsX15_order) B.pre
  have hown : s.vm.findClass RX15 = some m.cls := findClass_of_methodNamed B.named
  have hlocks := B.notSynchronized
  have hiX15 : ∀ w ∈ u_ws RX15 TX15 28, w ∈ wsX15_order := by decide +kernel
  have hiX14 : ∀ w ∈ u_ws RX14 TX14 6, w ∈ wsX15_order := by decide +kernel
  subst hsz
  have hD := hD0.self (sz := s.heap.size)
  generalize hAe : va_A (wd_k_m_order_s5 z p2 mo ti si lo lh lk sp st pa br sg th) s.heap.size = A at hD hM ⊢
  have hA : ∀ q : Nat, s.heap.size ≤ q → A q := fun q h => by rw [← hAe]; exact Or.inr h
  have hS : va_S A s.heap s.heap [] := va_S.rf
  have hP : va_P (dC, dI) vwCl [(mo, .inr (19, [.int 0, .int 0, .int 0, .int 0, .int 0, .int 0, .int 0, .ref ti, .ref si, .ref lo, .ref lh, .ref lk, .ref sp, .ref st, .ref pa, .ref br, .ref sg, .int 0, .int 0, .int 0, .int 0, .int 0, .int 0, .long 0, .long 0, .long 0, .long 0, .int th])), (lo, .inr (3, [.int 0, .ref (z 0), .int 0]))] s.heap := hP
  have hD : va_D A [(mo, .inr (19, [.int 0, .int 0, .int 0, .int 0, .int 0, .int 0, .int 0, .ref ti, .ref si, .ref lo, .ref lh, .ref lk, .ref sp, .ref st, .ref pa, .ref br, .ref sg, .int 0, .int 0, .int 0, .int 0, .int 0, .int 0, .long 0, .long 0, .long 0, .long 0, .int th])), (lo, .inr (3, [.int 0, .ref (z 0), .int 0]))] := hD
  have hl := lv_entry ([.ref mo, .int 115, .int 5, .int p2]) (n := 6) (Nat.le_of_ble_eq_true rfl)
  rw [lg_entry_eq]
  generalize (lg_sl ([.ref mo, .int 115, .int 5, .int p2]) ++ List.replicate (6 - (lg_sl ([.ref mo, .int 115, .int 5, .int p2])).length) Slot.unset).toArray = ls at hl ⊢
  have hl : lv_has ls 6 [(0, .ref mo), (1, .int 115), (2, .int 5), (3, .int p2)] := hl
  refine lv_iload_n hx hb dX15_order_0 rfl (lv_at hl 1 rfl) ?_
  refine lv_bipush (v := 115) hx hb dX15_order_1 (by decide) ?_
  refine lv_icmp_eq (tgt := 12) hx hb dX15_order_3 (by decide) (fun _ => ?_) (fun c_ => absurd (by decide +kernel) c_)
  refine lv_iconst (v := 1) hx hb dX15_order_12 (by decide) ?_
  refine lv_goto (tgt := 17) hx hb dX15_order_13 (by decide) ?_
  refine lv_istore (lv' := [(4, .int 1), (0, .ref mo), (1, .int 115), (2, .int 5), (3, .int p2)]) hx hb dX15_order_17 hl (by decide) rfl (fun ls hl => ?_)
  refine va_ldcS hx hb hown (hM.2.2.1 0 _ rfl) dX15_order_19 ?_
  refine lv_iload_n hx hb dX15_order_21 rfl (lv_at hl 2 rfl) ?_
  have hPc := hP.sub (ws' := []) [] rfl
  have hDc := hD.sub (ws' := []) [] (by decide) rfl
  have hKc := hK.sub (tys' := []) [] rfl
  have hFc := va_free (wc := []) hD hS hA [] rfl
  refine va_calli (va_runV (As := [.int 115]) (rest := []) ⟨hx, hb, hml, hown, hts⟩ (k_ix3_115 l dC dI z zK zV  s.heap.size) (cwV 1 hts gX15_order_J0_indexOf_0f7a4 rfl rfl rfl (by decide +kernel) ⟨Nat.le_of_ble_eq_true rfl, Nat.le_of_ble_eq_true rfl⟩) ⟨kP_blind, vk_recv (i := 0) hM.2.2.2.1 (by decide) hS, kP_go hPc hKc hDc hFc hM hS⟩ rfl rfl hl.1 rfl (lv_room (Nat.le_of_ble_eq_true rfl)) dX15_order_22 ⟨Nat.le_of_ble_eq_true rfl, Nat.le_of_ble_eq_true rfl⟩) hS (fun q _ h => hFc q h) hFc (fun r1 u t H1 locs ht hvm hw hB hz1 hk1 hS => ?_)
  obtain ⟨hP, hD, hK⟩ := kJ (wr := [(mo, .inr (19, [.int 0, .int 0, .int 0, .int 0, .int 0, .int 0, .int 0, .ref ti, .ref si, .ref lo, .ref lh, .ref lk, .ref sp, .ref st, .ref pa, .ref br, .ref sg, .int 0, .int 0, .int 0, .int 0, .int 0, .int 0, .long 0, .long 0, .long 0, .long 0, .int th])), (lo, .inr (3, [.int 0, .ref (z 0), .int 0]))]) (w1 := []) (t1 := []) hP hD hK [] [0, 1] rfl rfl (by decide) (by decide) hk1 hFc ht hvm hB
  generalize H1 = H at hP hS ⊢
  have hP : va_P (dC, dI) vwCl [(mo, .inr (19, [.int 0, .int 0, .int 0, .int 0, .int 0, .int 0, .int 0, .ref ti, .ref si, .ref lo, .ref lh, .ref lk, .ref sp, .ref st, .ref pa, .ref br, .ref sg, .int 0, .int 0, .int 0, .int 0, .int 0, .int 0, .long 0, .long 0, .long 0, .long 0, .int th])), (lo, .inr (3, [.int 0, .ref (z 0), .int 0]))] H := hP
  have hD : va_D A [(mo, .inr (19, [.int 0, .int 0, .int 0, .int 0, .int 0, .int 0, .int 0, .ref ti, .ref si, .ref lo, .ref lh, .ref lk, .ref sp, .ref st, .ref pa, .ref br, .ref sg, .int 0, .int 0, .int 0, .int 0, .int 0, .int 0, .long 0, .long 0, .long 0, .long 0, .int th])), (lo, .inr (3, [.int 0, .ref (z 0), .int 0]))] := hD
  have hK : va_K (dC, dI) vwCl [] s := hK
  obtain rfl : 0 = r1 := hw
  refine lv_if_lt (tgt := 55) hx hb dX15_order_25 (by decide) (fun c_ => absurd c_ (by decide +kernel)) (fun _ => ?_)
  refine lv_iload_n hx hb dX15_order_28 rfl (lv_at hl 3 rfl) ?_
  refine lv_i2l (v := 5) hx hb dX15_order_29 (by decide +kernel) ?_
  refine lv_lconst (v := 0) hx hb dX15_order_30 (by decide) ?_
  refine lv_iload hx hb dX15_order_31 (lv_at hl 0 rfl) ?_
  refine lv_if_eq (tgt := 42) hx hb dX15_order_33 (by decide) (fun c_ => absurd c_ (by decide +kernel)) (fun _ => ?_)
  refine lv_ldc2 (v := 8) hx hb hown (hts (.constantLong RX15 148 8) (by decide +kernel)) dX15_order_36 ?_
  refine lv_goto (tgt := 45) hx hb dX15_order_39 (by decide) ?_
  have hPc := hP.sub (ws' := []) [] rfl
  have hDc := hD.sub (ws' := []) [] (by decide) rfl
  have hKc := hK.sub (tys' := []) [] rfl
  have hFc := va_free (wc := []) hD hS hA [] rfl
  refine va_calli (va_runS (As := [.long 5, .long 0, .long 8]) (rest := []) ⟨hx, hb, hml, hown, hts⟩ (k_in l dC dI z zK zV 5 0 8 H.size) (va_cwS 3 hts gX15_order_X15_in rfl rfl rfl (by decide +kernel) ⟨Nat.le_of_ble_eq_true rfl, Nat.le_of_ble_eq_true rfl⟩) ⟨kP_blind, kP_go hPc hKc hDc hFc hM hS⟩ rfl rfl hl.1 rfl (lv_room (Nat.le_of_ble_eq_true rfl)) dX15_order_45 ⟨Nat.le_of_ble_eq_true rfl, Nat.le_of_ble_eq_true rfl⟩) hS (fun q _ h => hFc q h) hFc (fun r2 u t H1 locs ht hvm hw hB hz1 hk1 hS => ?_)
  obtain ⟨hP, hD, hK⟩ := kJ (wr := [(mo, .inr (19, [.int 0, .int 0, .int 0, .int 0, .int 0, .int 0, .int 0, .ref ti, .ref si, .ref lo, .ref lh, .ref lk, .ref sp, .ref st, .ref pa, .ref br, .ref sg, .int 0, .int 0, .int 0, .int 0, .int 0, .int 0, .long 0, .long 0, .long 0, .long 0, .int th])), (lo, .inr (3, [.int 0, .ref (z 0), .int 0]))]) (w1 := []) (t1 := []) hP hD hK [] [0, 1] rfl rfl (by decide) (by decide) hk1 hFc ht hvm hB
  generalize H1 = H at hP hS ⊢
  have hP : va_P (dC, dI) vwCl [(mo, .inr (19, [.int 0, .int 0, .int 0, .int 0, .int 0, .int 0, .int 0, .ref ti, .ref si, .ref lo, .ref lh, .ref lk, .ref sp, .ref st, .ref pa, .ref br, .ref sg, .int 0, .int 0, .int 0, .int 0, .int 0, .int 0, .long 0, .long 0, .long 0, .long 0, .int th])), (lo, .inr (3, [.int 0, .ref (z 0), .int 0]))] H := hP
  have hD : va_D A [(mo, .inr (19, [.int 0, .int 0, .int 0, .int 0, .int 0, .int 0, .int 0, .ref ti, .ref si, .ref lo, .ref lh, .ref lk, .ref sp, .ref st, .ref pa, .ref br, .ref sg, .int 0, .int 0, .int 0, .int 0, .int 0, .int 0, .long 0, .long 0, .long 0, .long 0, .int th])), (lo, .inr (3, [.int 0, .ref (z 0), .int 0]))] := hD
  have hK : va_K (dC, dI) vwCl [] s := hK
  obtain rfl : (if 0 ≤ 5 ∧ 5 ≤ 8 then (1 : Int32) else 0) = r2 := hw
  refine kc_i (y := 1) (by decide +kernel) ?_
  refine lv_if_eq (tgt := 55) hx hb dX15_order_48 (by decide) (fun c_ => absurd c_ (by decide +kernel)) (fun _ => ?_)
  refine lv_iconst (v := 1) hx hb dX15_order_51 (by decide) ?_
  refine lv_goto (tgt := 56) hx hb dX15_order_52 (by decide) ?_
  refine lv_istore (lv' := [(5, .int 1), (4, .int 1), (0, .ref mo), (1, .int 115), (2, .int 5), (3, .int p2)]) hx hb dX15_order_56 hl (by decide) rfl (fun ls hl => ?_)
  refine lv_iload hx hb dX15_order_58 (lv_at hl 0 rfl) ?_
  refine lv_if_eq (tgt := 115) hx hb dX15_order_60 (by decide) (fun c_ => absurd c_ (by decide +kernel)) (fun _ => ?_)
  refine lv_iload_n hx hb dX15_order_63 rfl (lv_at hl 3 rfl) ?_
  refine lv_bipush (v := 115) hx hb dX15_order_64 (by decide) ?_
  refine lv_icmp_ne (tgt := 84) hx hb dX15_order_66 (by decide) (fun c_ => absurd (by decide +kernel) c_) (fun _ => ?_)
  refine lv_iload_n hx hb dX15_order_69 rfl (lv_at hl 5 rfl) ?_
  refine lv_i2l (v := p2.toInt64) hx hb dX15_order_70 rfl ?_
  refine lv_lconst (v := 0) hx hb dX15_order_71 (by decide) ?_
  refine lv_ldc2 (v := 2) hx hb hown (hts (.constantLong RX15 150 2) (by decide +kernel)) dX15_order_72 ?_
  have hPc := hP.sub (ws' := []) [] rfl
  have hDc := hD.sub (ws' := []) [] (by decide) rfl
  have hKc := hK.sub (tys' := []) [] rfl
  have hFc := va_free (wc := []) hD hS hA [] rfl
  refine va_calli (va_runS (As := [.long p2.toInt64, .long 0, .long 2]) (rest := []) ⟨hx, hb, hml, hown, hts⟩ (k_in l dC dI z zK zV p2.toInt64 0 2 H.size) (va_cwS 3 hts gX15_order_X15_in rfl rfl rfl (by decide +kernel) ⟨Nat.le_of_ble_eq_true rfl, Nat.le_of_ble_eq_true rfl⟩) ⟨kP_blind, kP_go hPc hKc hDc hFc hM hS⟩ rfl rfl hl.1 rfl (lv_room (Nat.le_of_ble_eq_true rfl)) dX15_order_75 ⟨Nat.le_of_ble_eq_true rfl, Nat.le_of_ble_eq_true rfl⟩) hS (fun q _ h => hFc q h) hFc (fun r3 u t H1 locs ht hvm hw hB hz1 hk1 hS => ?_)
  obtain ⟨hP, hD, hK⟩ := kJ (wr := [(mo, .inr (19, [.int 0, .int 0, .int 0, .int 0, .int 0, .int 0, .int 0, .ref ti, .ref si, .ref lo, .ref lh, .ref lk, .ref sp, .ref st, .ref pa, .ref br, .ref sg, .int 0, .int 0, .int 0, .int 0, .int 0, .int 0, .long 0, .long 0, .long 0, .long 0, .int th])), (lo, .inr (3, [.int 0, .ref (z 0), .int 0]))]) (w1 := []) (t1 := []) hP hD hK [] [0, 1] rfl rfl (by decide) (by decide) hk1 hFc ht hvm hB
  generalize H1 = H at hP hS ⊢
  have hP : va_P (dC, dI) vwCl [(mo, .inr (19, [.int 0, .int 0, .int 0, .int 0, .int 0, .int 0, .int 0, .ref ti, .ref si, .ref lo, .ref lh, .ref lk, .ref sp, .ref st, .ref pa, .ref br, .ref sg, .int 0, .int 0, .int 0, .int 0, .int 0, .int 0, .long 0, .long 0, .long 0, .long 0, .int th])), (lo, .inr (3, [.int 0, .ref (z 0), .int 0]))] H := hP
  have hD : va_D A [(mo, .inr (19, [.int 0, .int 0, .int 0, .int 0, .int 0, .int 0, .int 0, .ref ti, .ref si, .ref lo, .ref lh, .ref lk, .ref sp, .ref st, .ref pa, .ref br, .ref sg, .int 0, .int 0, .int 0, .int 0, .int 0, .int 0, .long 0, .long 0, .long 0, .long 0, .int th])), (lo, .inr (3, [.int 0, .ref (z 0), .int 0]))] := hD
  have hK : va_K (dC, dI) vwCl [] s := hK
  obtain rfl : (if 0 ≤ (p2.toInt64) ∧ (p2.toInt64) ≤ 2 then (1 : Int32) else 0) = r3 := hw
  refine kc_i (y := (if 0 ≤ p2 ∧ p2 ≤ 2 then (1 : Int32) else 0)) (k_inP (a := 0) (b := 2) (by decide +kernel) (by decide +kernel)) ?_
  refine lv_if_eq (tgt := 115) hx hb dX15_order_78 (by decide) (fun c_ => absurd c_ (k_ifp hg0)) (fun _ => ?_)
  refine lv_goto (tgt := 111) hx hb dX15_order_81 (by decide) ?_
  refine lv_iconst (v := 1) hx hb dX15_order_111 (by decide) ?_
  refine lv_goto (tgt := 116) hx hb dX15_order_112 (by decide) ?_
  refine lv_istore (lv' := [(5, .int 1), (4, .int 1), (0, .ref mo), (1, .int 115), (2, .int 5), (3, .int p2)]) hx hb dX15_order_116 hl (by decide) rfl (fun ls hl => ?_)
  refine lv_aload_n hx hb dX15_order_118 rfl (lv_at hl 2 rfl) ?_
  refine lv_iload hx hb dX15_order_119 (lv_at hl 0 rfl) ?_
  refine lv_if_ne (tgt := 128) hx hb dX15_order_121 (by decide) (fun _ => ?_) (fun c_ => absurd c_ (by decide +kernel))
  refine lv_aload_n hx hb dX15_order_128 rfl (lv_at hl 2 rfl) ?_
  refine va_get (D := (dC, dI)) (ci := 19) (v := .ref lo) (C := RX15) (T := TX15) (N := 28) hx hb hts hiX15 hown hK hP 0 rfl rfl 9 (by decide) (hts (.fieldLink RX15 19 "SquareRigModel" "orders" "Ljava/util/List;") (by decide +kernel)) (fun _ h9 => h9) rfl dX15_order_129 ?_
  have hPc := hP.sub (ws' := [(lo, .inr (3, [.int 0, .ref (z 0), .int 0]))]) [1] rfl
  have hDc := hD.sub (ws' := [(lo, .inr (3, [.int 0, .ref (z 0), .int 0]))]) [1] (by decide) rfl
  have hKc := hK.sub (tys' := []) [] rfl
  have hFc := va_free (wc := [(lo, .inr (3, [.int 0, .ref (z 0), .int 0]))]) hD hS hA [1] rfl
  refine va_callFi (va_runF (hK.1 3 _ rfl).2 (As := []) (rest := [.ref mo]) ⟨hx, hb, hml, hown, hts⟩ (k_size0 l dC dI z zK zV lo H.size) (va_cwF 0 hts gX15_order_Jx4a65c_size_8abf5_f156Jx4a65c rfl rfl rfl hM.2.2.2.2.2.2.2.2.2.2.1.2.2.1 (by decide +kernel) ⟨Nat.le_of_ble_eq_true rfl, Nat.le_of_ble_eq_true rfl⟩) ⟨kP_blind, va_recv hKc hPc (ci := 3) (q0 := 0) rfl rfl, kP_go hPc hKc hDc hFc hM hS⟩ rfl rfl hl.1 rfl (lv_room (Nat.le_of_ble_eq_true rfl)) dX15_order_132 ⟨Nat.le_of_ble_eq_true rfl, Nat.le_of_ble_eq_true rfl⟩) hS (fun q _ h => hFc q h) hFc (fun r4 u t H1 locs ht hvm hw hB hz1 hk1 hS => ?_)
  obtain ⟨hP, hD, hK⟩ := kJ (wr := [(mo, .inr (19, [.int 0, .int 0, .int 0, .int 0, .int 0, .int 0, .int 0, .ref ti, .ref si, .ref lo, .ref lh, .ref lk, .ref sp, .ref st, .ref pa, .ref br, .ref sg, .int 0, .int 0, .int 0, .int 0, .int 0, .int 0, .long 0, .long 0, .long 0, .long 0, .int th]))]) (w1 := [(lo, .inr (3, [.int 0, .ref (z 0), .int 0]))]) (t1 := []) hP hD hK [1] [0] rfl rfl (by decide) (by decide) hk1 hFc ht hvm hB
  generalize H1 = H at hP hS ⊢
  have hP : va_P (dC, dI) vwCl [(mo, .inr (19, [.int 0, .int 0, .int 0, .int 0, .int 0, .int 0, .int 0, .ref ti, .ref si, .ref lo, .ref lh, .ref lk, .ref sp, .ref st, .ref pa, .ref br, .ref sg, .int 0, .int 0, .int 0, .int 0, .int 0, .int 0, .long 0, .long 0, .long 0, .long 0, .int th])), (lo, .inr (3, [.int 0, .ref (z 0), .int 0]))] H := hP
  have hD : va_D A [(mo, .inr (19, [.int 0, .int 0, .int 0, .int 0, .int 0, .int 0, .int 0, .ref ti, .ref si, .ref lo, .ref lh, .ref lk, .ref sp, .ref st, .ref pa, .ref br, .ref sg, .int 0, .int 0, .int 0, .int 0, .int 0, .int 0, .long 0, .long 0, .long 0, .long 0, .int th])), (lo, .inr (3, [.int 0, .ref (z 0), .int 0]))] := hD
  have hK : va_K (dC, dI) vwCl [] s := hK
  obtain rfl : 0 = r4 := hw
  refine lv_bipush (v := 100) hx hb dX15_order_137 (by decide) ?_
  refine lv_icmp_ne (tgt := 146) hx hb dX15_order_139 (by decide) (fun _ => ?_) (fun c_ => absurd c_ (by decide +kernel))
  refine lv_iconst (v := 0) hx hb dX15_order_146 (by decide) ?_
  refine va_put (D := (dC, dI)) (ci := 19) (v := .int 0) (ty := .int) (C := RX15) (T := TX15) (N := 28) hx hb hts hiX15 tyX15 tyX15_ok nmX15 hown hK hP hD hS 0 rfl rfl 27 (by decide) (hts (.fieldLink RX15 45 "SquareRigModel" "thrown" "I") (by decide +kernel)) (fun _ h9 => h9) rfl (by decide +kernel) rfl rfl (Nat.le_of_ble_eq_true rfl) dX15_order_147 (fun H locs hP hD hS => ?_)
  have hP : va_P (dC, dI) vwCl [(mo, .inr (19, [.int 0, .int 0, .int 0, .int 0, .int 0, .int 0, .int 0, .ref ti, .ref si, .ref lo, .ref lh, .ref lk, .ref sp, .ref st, .ref pa, .ref br, .ref sg, .int 0, .int 0, .int 0, .int 0, .int 0, .int 0, .long 0, .long 0, .long 0, .long 0, .int 0])), (lo, .inr (3, [.int 0, .ref (z 0), .int 0]))] H := hP
  have hD : va_D A [(mo, .inr (19, [.int 0, .int 0, .int 0, .int 0, .int 0, .int 0, .int 0, .ref ti, .ref si, .ref lo, .ref lh, .ref lk, .ref sp, .ref st, .ref pa, .ref br, .ref sg, .int 0, .int 0, .int 0, .int 0, .int 0, .int 0, .long 0, .long 0, .long 0, .long 0, .int 0])), (lo, .inr (3, [.int 0, .ref (z 0), .int 0]))] := hD
  refine lv_aload_n hx hb dX15_order_150 rfl (lv_at hl 2 rfl) ?_
  refine va_get (D := (dC, dI)) (ci := 19) (v := .int 0) (C := RX15) (T := TX15) (N := 28) hx hb hts hiX15 hown hK hP 0 rfl rfl 27 (by decide) (hts (.fieldLink RX15 45 "SquareRigModel" "thrown" "I") (by decide +kernel)) (fun _ h9 => h9) rfl dX15_order_151 ?_
  refine lv_if_le (tgt := 159) hx hb dX15_order_154 (by decide) (fun _ => ?_) (fun c_ => absurd (by decide +kernel) c_)
  refine lv_aload_n hx hb dX15_order_159 rfl (lv_at hl 2 rfl) ?_
  refine va_get (D := (dC, dI)) (ci := 19) (v := .ref lo) (C := RX15) (T := TX15) (N := 28) hx hb hts hiX15 hown hK hP 0 rfl rfl 9 (by decide) (hts (.fieldLink RX15 19 "SquareRigModel" "orders" "Ljava/util/List;") (by decide +kernel)) (fun _ h9 => h9) rfl dX15_order_160 ?_
  refine va_new (ci := 18) (fs := [.int 0, .int 0, .int 0, .int 0, .int 0, .int 0]) (C := RX14) (T := TX14) (N := 6) hx hb hts hiX14 tyX14 tyX14_ok hown (hts (.classLink RX15 161 RX14) (by decide +kernel)) (hts (.instantiable RX14 6) (by decide +kernel)) (hts (.initialized RX14) (by decide +kernel)) hK hP hD hS hA rfl (fun j hj => by rcases (show j = 0 ∨ j = 1 ∨ j = 2 ∨ j = 3 ∨ j = 4 ∨ j = 5 by omega) with rfl | rfl | rfl | rfl | rfl | rfl <;> rfl) (Nat.le_of_ble_eq_true rfl) (Nat.le_of_ble_eq_true rfl) dX15_order_163 (fun q5 H hP hD hS => ?_)
  have hP : va_P (dC, dI) vwCl [(mo, .inr (19, [.int 0, .int 0, .int 0, .int 0, .int 0, .int 0, .int 0, .ref ti, .ref si, .ref lo, .ref lh, .ref lk, .ref sp, .ref st, .ref pa, .ref br, .ref sg, .int 0, .int 0, .int 0, .int 0, .int 0, .int 0, .long 0, .long 0, .long 0, .long 0, .int 0])), (lo, .inr (3, [.int 0, .ref (z 0), .int 0])), (q5, .inr (18, [.int 0, .int 0, .int 0, .int 0, .int 0, .int 0]))] H := hP
  have hD : va_D A [(mo, .inr (19, [.int 0, .int 0, .int 0, .int 0, .int 0, .int 0, .int 0, .ref ti, .ref si, .ref lo, .ref lh, .ref lk, .ref sp, .ref st, .ref pa, .ref br, .ref sg, .int 0, .int 0, .int 0, .int 0, .int 0, .int 0, .long 0, .long 0, .long 0, .long 0, .int 0])), (lo, .inr (3, [.int 0, .ref (z 0), .int 0])), (q5, .inr (18, [.int 0, .int 0, .int 0, .int 0, .int 0, .int 0]))] := hD
  refine lv_dup hx hb dX15_order_166 rfl ?_
  refine lv_iload_n hx hb dX15_order_167 rfl (lv_at hl 3 rfl) ?_
  refine lv_iload_n hx hb dX15_order_168 rfl (lv_at hl 4 rfl) ?_
  refine lv_iload_n hx hb dX15_order_169 rfl (lv_at hl 5 rfl) ?_
  refine lv_aload_n hx hb dX15_order_170 rfl (lv_at hl 2 rfl) ?_
  refine va_get (D := (dC, dI)) (ci := 19) (v := .int 0) (C := RX15) (T := TX15) (N := 28) hx hb hts hiX15 hown hK hP 0 rfl rfl 17 (by decide) (hts (.fieldLink RX15 163 "SquareRigModel" "minute" "I") (by decide +kernel)) (fun _ h9 => h9) rfl dX15_order_171 ?_
  have hPc := hP.sub (ws' := [(q5, .inr (18, [.int 0, .int 0, .int 0, .int 0, .int 0, .int 0]))]) [2] rfl
  have hDc := hD.sub (ws' := [(q5, .inr (18, [.int 0, .int 0, .int 0, .int 0, .int 0, .int 0]))]) [2] (by decide) rfl
  have hKc := hK.sub (tys' := []) [] rfl
  have hFc := va_free (wc := [(q5, .inr (18, [.int 0, .int 0, .int 0, .int 0, .int 0, .int 0]))]) hD hS hA [2] rfl
  refine va_callv (va_runI (As := [.int 115, .int 5, .int p2, .int 0]) (rest := [.ref q5, .ref lo]) ⟨hx, hb, hml, hown, hts⟩ (k_MOrder_init115 l dC dI z zK zV q5 5 p2 0 H.size) (cwI 4 hts gX15_order_X14_init rfl rfl rfl (hts (.initialized RX14) (by decide +kernel)) (hts (.methodLink RX15 166 yX14_init) (by decide +kernel)) (hts (.instanceMethod yX14_init) (by decide +kernel)) rfl (by decide +kernel) ⟨Nat.le_of_ble_eq_true rfl, Nat.le_of_ble_eq_true rfl⟩) ⟨kP_blind, kP_go hPc hKc hDc hFc hM hS⟩ rfl rfl hl.1 rfl (lv_room (Nat.le_of_ble_eq_true rfl)) dX15_order_174 ⟨Nat.le_of_ble_eq_true rfl, Nat.le_of_ble_eq_true rfl⟩) hS (fun q _ h => hFc q h) hFc (fun u t H1 locs ht hvm hw hB hz1 hk1 hS => ?_)
  obtain ⟨hP, hD, hK⟩ := kJ (wr := [(mo, .inr (19, [.int 0, .int 0, .int 0, .int 0, .int 0, .int 0, .int 0, .ref ti, .ref si, .ref lo, .ref lh, .ref lk, .ref sp, .ref st, .ref pa, .ref br, .ref sg, .int 0, .int 0, .int 0, .int 0, .int 0, .int 0, .long 0, .long 0, .long 0, .long 0, .int 0])), (lo, .inr (3, [.int 0, .ref (z 0), .int 0]))]) (w1 := [(q5, .inr (18, [.int 115, .int 5, .int p2, .int 0, .int 119, .int 0]))]) (t1 := []) hP hD hK [2] [0, 1] rfl rfl (by decide) (by decide) hk1 hFc ht hvm hB
  generalize H1 = H at hP hS ⊢
  have hP : va_P (dC, dI) vwCl [(mo, .inr (19, [.int 0, .int 0, .int 0, .int 0, .int 0, .int 0, .int 0, .ref ti, .ref si, .ref lo, .ref lh, .ref lk, .ref sp, .ref st, .ref pa, .ref br, .ref sg, .int 0, .int 0, .int 0, .int 0, .int 0, .int 0, .long 0, .long 0, .long 0, .long 0, .int 0])), (lo, .inr (3, [.int 0, .ref (z 0), .int 0])), (q5, .inr (18, [.int 115, .int 5, .int p2, .int 0, .int 119, .int 0]))] H := hP
  have hD : va_D A [(mo, .inr (19, [.int 0, .int 0, .int 0, .int 0, .int 0, .int 0, .int 0, .ref ti, .ref si, .ref lo, .ref lh, .ref lk, .ref sp, .ref st, .ref pa, .ref br, .ref sg, .int 0, .int 0, .int 0, .int 0, .int 0, .int 0, .long 0, .long 0, .long 0, .long 0, .int 0])), (lo, .inr (3, [.int 0, .ref (z 0), .int 0])), (q5, .inr (18, [.int 115, .int 5, .int p2, .int 0, .int 119, .int 0]))] := hD
  have hK : va_K (dC, dI) vwCl [] s := hK
  clear hw
  have hPc := hP.sub (ws' := [(lo, .inr (3, [.int 0, .ref (z 0), .int 0])), (q5, .inr (18, [.int 115, .int 5, .int p2, .int 0, .int 119, .int 0]))]) [1, 2] rfl
  have hDc := hD.sub (ws' := [(lo, .inr (3, [.int 0, .ref (z 0), .int 0])), (q5, .inr (18, [.int 115, .int 5, .int p2, .int 0, .int 119, .int 0]))]) [1, 2] (by decide) rfl
  have hKc := hK.sub (tys' := []) [] rfl
  have hFc := va_free (wc := [(lo, .inr (3, [.int 0, .ref (z 0), .int 0])), (q5, .inr (18, [.int 115, .int 5, .int p2, .int 0, .int 119, .int 0]))]) hD hS hA [1, 2] rfl
  refine va_callFi (va_runF (hK.1 3 _ rfl).2 (As := [.ref q5]) (rest := []) ⟨hx, hb, hml, hown, hts⟩ (k_add1_oo l dC dI z zK zV lo 0 q5 115 5 p2 0 119 0 H.size) (va_cwF 1 hts gX15_order_Jx4a65c_add_9ea2d_f169Jx4a65c rfl rfl rfl hM.2.2.2.2.2.2.2.2.2.2.1.2.2.2.2 (by decide +kernel) ⟨Nat.le_of_ble_eq_true rfl, Nat.le_of_ble_eq_true rfl⟩) ⟨kP_blind, va_recv hKc hPc (ci := 3) (q0 := 0) rfl rfl, kP_go hPc hKc hDc hFc hM hS⟩ rfl rfl hl.1 rfl (lv_room (Nat.le_of_ble_eq_true rfl)) dX15_order_177 ⟨Nat.le_of_ble_eq_true rfl, Nat.le_of_ble_eq_true rfl⟩) hS (fun q _ h => hFc q h) hFc (fun r6 u t H1 locs ht hvm hw hB hz1 hk1 hS => ?_)
  obtain ⟨q7, cA8, hB⟩ := hB
  obtain ⟨hP, hD, hK⟩ := kJ (wr := [(mo, .inr (19, [.int 0, .int 0, .int 0, .int 0, .int 0, .int 0, .int 0, .ref ti, .ref si, .ref lo, .ref lh, .ref lk, .ref sp, .ref st, .ref pa, .ref br, .ref sg, .int 0, .int 0, .int 0, .int 0, .int 0, .int 0, .long 0, .long 0, .long 0, .long 0, .int 0]))]) (w1 := [(q5, .inr (18, [.int 115, .int 5, .int p2, .int 0, .int 119, .int 0])), (lo, .inr (3, [.int (0 + 1), .ref q7, .int 1])), (q7, .inl (cA8, 10, .inr (.inr (.inr (.inr (va_up (fun _ => none) 0 (some q5)))))))]) (t1 := [(cA8, .object "java/lang/Object")]) hP hD hK [1, 2] [0] rfl rfl (by decide) (by decide) hk1 hFc ht hvm hB
  generalize H1 = H at hP hS ⊢
  have hP : va_P (dC, dI) vwCl [(mo, .inr (19, [.int 0, .int 0, .int 0, .int 0, .int 0, .int 0, .int 0, .ref ti, .ref si, .ref lo, .ref lh, .ref lk, .ref sp, .ref st, .ref pa, .ref br, .ref sg, .int 0, .int 0, .int 0, .int 0, .int 0, .int 0, .long 0, .long 0, .long 0, .long 0, .int 0])), (q5, .inr (18, [.int 115, .int 5, .int p2, .int 0, .int 119, .int 0])), (lo, .inr (3, [.int (0 + 1), .ref q7, .int 1])), (q7, .inl (cA8, 10, .inr (.inr (.inr (.inr (va_up (fun _ => none) 0 (some q5)))))))] H := hP
  have hD : va_D A [(mo, .inr (19, [.int 0, .int 0, .int 0, .int 0, .int 0, .int 0, .int 0, .ref ti, .ref si, .ref lo, .ref lh, .ref lk, .ref sp, .ref st, .ref pa, .ref br, .ref sg, .int 0, .int 0, .int 0, .int 0, .int 0, .int 0, .long 0, .long 0, .long 0, .long 0, .int 0])), (q5, .inr (18, [.int 115, .int 5, .int p2, .int 0, .int 119, .int 0])), (lo, .inr (3, [.int (0 + 1), .ref q7, .int 1])), (q7, .inl (cA8, 10, .inr (.inr (.inr (.inr (va_up (fun _ => none) 0 (some q5)))))))] := hD
  have hK : va_K (dC, dI) vwCl [(cA8, .object "java/lang/Object")] s := hK
  obtain rfl : 1 = r6 := hw
  refine lv_pop hx hb dX15_order_182 rfl ?_
  refine lv_aload_n hx hb dX15_order_183 rfl (lv_at hl 2 rfl) ?_
  refine va_get (D := (dC, dI)) (ci := 19) (v := .ref lo) (C := RX15) (T := TX15) (N := 28) hx hb hts hiX15 hown hK hP 0 rfl rfl 9 (by decide) (hts (.fieldLink RX15 19 "SquareRigModel" "orders" "Ljava/util/List;") (by decide +kernel)) (fun _ h9 => h9) rfl dX15_order_184 ?_
  have hPc := hP.sub (ws' := [(lo, .inr (3, [.int (0 + 1), .ref q7, .int 1]))]) [2] rfl
  have hDc := hD.sub (ws' := [(lo, .inr (3, [.int (0 + 1), .ref q7, .int 1]))]) [2] (by decide) rfl
  have hKc := hK.sub (tys' := []) [] rfl
  have hFc := va_free (wc := [(lo, .inr (3, [.int (0 + 1), .ref q7, .int 1]))]) hD hS hA [2] rfl
  refine va_callFi (va_runF (hK.1 3 _ rfl).2 (As := []) (rest := []) ⟨hx, hb, hml, hown, hts⟩ (k_size1 l dC dI z zK zV lo (0 + 1) q7 H.size) (va_cwF 0 hts gX15_order_Jx4a65c_size_8abf5_f156Jx4a65c rfl rfl rfl hM.2.2.2.2.2.2.2.2.2.2.1.2.2.1 (by decide +kernel) ⟨Nat.le_of_ble_eq_true rfl, Nat.le_of_ble_eq_true rfl⟩) ⟨kP_blind, va_recv hKc hPc (ci := 3) (q0 := 0) rfl rfl, kP_go hPc hKc hDc hFc hM hS⟩ rfl rfl hl.1 rfl (lv_room (Nat.le_of_ble_eq_true rfl)) dX15_order_187 ⟨Nat.le_of_ble_eq_true rfl, Nat.le_of_ble_eq_true rfl⟩) hS (fun q _ h => hFc q h) hFc (fun r9 u t H1 locs ht hvm hw hB hz1 hk1 hS => ?_)
  obtain ⟨hP, hD, hK⟩ := kJ (wr := [(mo, .inr (19, [.int 0, .int 0, .int 0, .int 0, .int 0, .int 0, .int 0, .ref ti, .ref si, .ref lo, .ref lh, .ref lk, .ref sp, .ref st, .ref pa, .ref br, .ref sg, .int 0, .int 0, .int 0, .int 0, .int 0, .int 0, .long 0, .long 0, .long 0, .long 0, .int 0])), (q5, .inr (18, [.int 115, .int 5, .int p2, .int 0, .int 119, .int 0])), (q7, .inl (cA8, 10, .inr (.inr (.inr (.inr (va_up (fun _ => none) 0 (some q5)))))))]) (w1 := [(lo, .inr (3, [.int (0 + 1), .ref q7, .int 1]))]) (t1 := []) hP hD hK [2] [0, 1, 3] rfl rfl (by decide) (by decide) hk1 hFc ht hvm hB
  generalize H1 = H at hP hS ⊢
  have hP : va_P (dC, dI) vwCl [(mo, .inr (19, [.int 0, .int 0, .int 0, .int 0, .int 0, .int 0, .int 0, .ref ti, .ref si, .ref lo, .ref lh, .ref lk, .ref sp, .ref st, .ref pa, .ref br, .ref sg, .int 0, .int 0, .int 0, .int 0, .int 0, .int 0, .long 0, .long 0, .long 0, .long 0, .int 0])), (q5, .inr (18, [.int 115, .int 5, .int p2, .int 0, .int 119, .int 0])), (q7, .inl (cA8, 10, .inr (.inr (.inr (.inr (va_up (fun _ => none) 0 (some q5))))))), (lo, .inr (3, [.int (0 + 1), .ref q7, .int 1]))] H := hP
  have hD : va_D A [(mo, .inr (19, [.int 0, .int 0, .int 0, .int 0, .int 0, .int 0, .int 0, .ref ti, .ref si, .ref lo, .ref lh, .ref lk, .ref sp, .ref st, .ref pa, .ref br, .ref sg, .int 0, .int 0, .int 0, .int 0, .int 0, .int 0, .long 0, .long 0, .long 0, .long 0, .int 0])), (q5, .inr (18, [.int 115, .int 5, .int p2, .int 0, .int 119, .int 0])), (q7, .inl (cA8, 10, .inr (.inr (.inr (.inr (va_up (fun _ => none) 0 (some q5))))))), (lo, .inr (3, [.int (0 + 1), .ref q7, .int 1]))] := hD
  have hK : va_K (dC, dI) vwCl [(cA8, .object "java/lang/Object")] s := hK
  obtain rfl : 1 = r9 := hw
  refine lv_iconst (v := 1) hx hb dX15_order_192 (by decide) ?_
  refine lv_isub hx hb dX15_order_193 ?_
  refine kc_i (y := 0) (by decide +kernel) ?_
  refine W.widen (k := 2) (n := 16) (Nat.le_of_ble_eq_true rfl) (Nat.le_of_ble_eq_true rfl) ?_
  exact W.iret (v := 0) hx hb hr (fun t ht hW => ⟨⟨0, (), rfl, rfl, kB_end (w9 := [(mo, .inr (19, [.int 0, .int 0, .int 0, .int 0, .int 0, .int 0, .int 0, .ref ti, .ref si, .ref lo, .ref lh, .ref lk, .ref sp, .ref st, .ref pa, .ref br, .ref sg, .int 0, .int 0, .int 0, .int 0, .int 0, .int 0, .long 0, .long 0, .long 0, .long 0, .int 0]))]) (t9 := []) hP hK hD [0] [] rfl (by decide) rfl rfl t ht hW⟩, hS.F ht⟩) hS.2.2 dX15_order_194
abbrev wd_k_m_order_s6 (z : Nat → Nat) (p2 : Int32) (mo : Nat) (ti : Nat) (si : Nat) (lo : Nat) (lh : Nat) (lk : Nat) (sp : Nat) (st : Nat) (pa : Nat) (br : Nat) (sg : Nat) (th : Int32) : va_W := [(mo, .inr (19, [.int 0, .int 0, .int 0, .int 0, .int 0, .int 0, .int 0, .ref ti, .ref si, .ref lo, .ref lh, .ref lk, .ref sp, .ref st, .ref pa, .ref br, .ref sg, .int 0, .int 0, .int 0, .int 0, .int 0, .int 0, .long 0, .long 0, .long 0, .long 0, .int th])), (lo, .inr (3, [.int 0, .ref (z 0), .int 0]))]
set_option maxHeartbeats 4000000 in
set_option maxRecDepth 100000 in
theorem k_m_order_s6 (l : Launch) (dC : Nat → ClassId) (dI : Nat → Nat → Nat) (z zK zV : Nat → Nat) (p2 : Int32) (mo : Nat) (ti : Nat) (si : Nat) (lo : Nat) (lh : Nat) (lk : Nat) (sp : Nat) (st : Nat) (pa : Nat) (br : Nat) (sg : Nat) (th : Int32) (sz : Nat) (hg0 : (0 : Int32) ≤ p2 ∧ p2 ≤ 2) : Met l yX15_order wsX15_order ({ frames := 5, cells := 2, slots := 16, locals := 101 }) (kP dC dI z zK zV [.ref mo, .int 115, .int 6, .int p2] sz (wd_k_m_order_s6 z p2 mo ti si lo lh lk sp st pa br sg th) []) (va_Qi (fun (r : Int32) (_ : Unit) => 0 = r) (fun _ t => kB (dC, dI) (va_A (wd_k_m_order_s6 z p2 mo ti si lo lh lk sp st pa br sg th) sz) [(mo, .inr (19, [.int 0, .int 0, .int 0, .int 0, .int 0, .int 0, .int 0, .ref ti, .ref si, .ref lo, .ref lh, .ref lk, .ref sp, .ref st, .ref pa, .ref br, .ref sg, .int 0, .int 0, .int 0, .int 0, .int 0, .int 0, .long 0, .long 0, .long 0, .long 0, .int 0]))] [] t) (va_A (wd_k_m_order_s6 z p2 mo ti si lo lh lk sp st pa br sg th) sz)) 2 16 (va_A (wd_k_m_order_s6 z p2 mo ti si lo lh lk sp st pa br sg th) sz) := by
  refine Met.ofW (cc := cX15_order) (maxL := 6) (ret := (some .int)) (by decide) rfl ?_
  intro p e s m args below meth c s₁ B hml hv
  obtain ⟨rfl, hsz, hP, hK, hD0, hM⟩ := hv
  have hx := B.exec
  have hb := B.bytes
  have hr := B.returns
  have hts := atoms_spec (ws := wsX15_order) B.pre
  have hown : s.vm.findClass RX15 = some m.cls := findClass_of_methodNamed B.named
  have hlocks := B.notSynchronized
  have hiX15 : ∀ w ∈ u_ws RX15 TX15 28, w ∈ wsX15_order := by decide +kernel
  have hiX14 : ∀ w ∈ u_ws RX14 TX14 6, w ∈ wsX15_order := by decide +kernel
  subst hsz
  have hD := hD0.self (sz := s.heap.size)
  generalize hAe : va_A (wd_k_m_order_s6 z p2 mo ti si lo lh lk sp st pa br sg th) s.heap.size = A at hD hM ⊢
  have hA : ∀ q : Nat, s.heap.size ≤ q → A q := fun q h => by rw [← hAe]; exact Or.inr h
  have hS : va_S A s.heap s.heap [] := va_S.rf
  have hP : va_P (dC, dI) vwCl [(mo, .inr (19, [.int 0, .int 0, .int 0, .int 0, .int 0, .int 0, .int 0, .ref ti, .ref si, .ref lo, .ref lh, .ref lk, .ref sp, .ref st, .ref pa, .ref br, .ref sg, .int 0, .int 0, .int 0, .int 0, .int 0, .int 0, .long 0, .long 0, .long 0, .long 0, .int th])), (lo, .inr (3, [.int 0, .ref (z 0), .int 0]))] s.heap := hP
  have hD : va_D A [(mo, .inr (19, [.int 0, .int 0, .int 0, .int 0, .int 0, .int 0, .int 0, .ref ti, .ref si, .ref lo, .ref lh, .ref lk, .ref sp, .ref st, .ref pa, .ref br, .ref sg, .int 0, .int 0, .int 0, .int 0, .int 0, .int 0, .long 0, .long 0, .long 0, .long 0, .int th])), (lo, .inr (3, [.int 0, .ref (z 0), .int 0]))] := hD
  have hl := lv_entry ([.ref mo, .int 115, .int 6, .int p2]) (n := 6) (Nat.le_of_ble_eq_true rfl)
  rw [lg_entry_eq]
  generalize (lg_sl ([.ref mo, .int 115, .int 6, .int p2]) ++ List.replicate (6 - (lg_sl ([.ref mo, .int 115, .int 6, .int p2])).length) Slot.unset).toArray = ls at hl ⊢
  have hl : lv_has ls 6 [(0, .ref mo), (1, .int 115), (2, .int 6), (3, .int p2)] := hl
  refine lv_iload_n hx hb dX15_order_0 rfl (lv_at hl 1 rfl) ?_
  refine lv_bipush (v := 115) hx hb dX15_order_1 (by decide) ?_
  refine lv_icmp_eq (tgt := 12) hx hb dX15_order_3 (by decide) (fun _ => ?_) (fun c_ => absurd (by decide +kernel) c_)
  refine lv_iconst (v := 1) hx hb dX15_order_12 (by decide) ?_
  refine lv_goto (tgt := 17) hx hb dX15_order_13 (by decide) ?_
  refine lv_istore (lv' := [(4, .int 1), (0, .ref mo), (1, .int 115), (2, .int 6), (3, .int p2)]) hx hb dX15_order_17 hl (by decide) rfl (fun ls hl => ?_)
  refine va_ldcS hx hb hown (hM.2.2.1 0 _ rfl) dX15_order_19 ?_
  refine lv_iload_n hx hb dX15_order_21 rfl (lv_at hl 2 rfl) ?_
  have hPc := hP.sub (ws' := []) [] rfl
  have hDc := hD.sub (ws' := []) [] (by decide) rfl
  have hKc := hK.sub (tys' := []) [] rfl
  have hFc := va_free (wc := []) hD hS hA [] rfl
  refine va_calli (va_runV (As := [.int 115]) (rest := []) ⟨hx, hb, hml, hown, hts⟩ (k_ix3_115 l dC dI z zK zV  s.heap.size) (cwV 1 hts gX15_order_J0_indexOf_0f7a4 rfl rfl rfl (by decide +kernel) ⟨Nat.le_of_ble_eq_true rfl, Nat.le_of_ble_eq_true rfl⟩) ⟨kP_blind, vk_recv (i := 0) hM.2.2.2.1 (by decide) hS, kP_go hPc hKc hDc hFc hM hS⟩ rfl rfl hl.1 rfl (lv_room (Nat.le_of_ble_eq_true rfl)) dX15_order_22 ⟨Nat.le_of_ble_eq_true rfl, Nat.le_of_ble_eq_true rfl⟩) hS (fun q _ h => hFc q h) hFc (fun r1 u t H1 locs ht hvm hw hB hz1 hk1 hS => ?_)
  obtain ⟨hP, hD, hK⟩ := kJ (wr := [(mo, .inr (19, [.int 0, .int 0, .int 0, .int 0, .int 0, .int 0, .int 0, .ref ti, .ref si, .ref lo, .ref lh, .ref lk, .ref sp, .ref st, .ref pa, .ref br, .ref sg, .int 0, .int 0, .int 0, .int 0, .int 0, .int 0, .long 0, .long 0, .long 0, .long 0, .int th])), (lo, .inr (3, [.int 0, .ref (z 0), .int 0]))]) (w1 := []) (t1 := []) hP hD hK [] [0, 1] rfl rfl (by decide) (by decide) hk1 hFc ht hvm hB
  generalize H1 = H at hP hS ⊢
  have hP : va_P (dC, dI) vwCl [(mo, .inr (19, [.int 0, .int 0, .int 0, .int 0, .int 0, .int 0, .int 0, .ref ti, .ref si, .ref lo, .ref lh, .ref lk, .ref sp, .ref st, .ref pa, .ref br, .ref sg, .int 0, .int 0, .int 0, .int 0, .int 0, .int 0, .long 0, .long 0, .long 0, .long 0, .int th])), (lo, .inr (3, [.int 0, .ref (z 0), .int 0]))] H := hP
  have hD : va_D A [(mo, .inr (19, [.int 0, .int 0, .int 0, .int 0, .int 0, .int 0, .int 0, .ref ti, .ref si, .ref lo, .ref lh, .ref lk, .ref sp, .ref st, .ref pa, .ref br, .ref sg, .int 0, .int 0, .int 0, .int 0, .int 0, .int 0, .long 0, .long 0, .long 0, .long 0, .int th])), (lo, .inr (3, [.int 0, .ref (z 0), .int 0]))] := hD
  have hK : va_K (dC, dI) vwCl [] s := hK
  obtain rfl : 0 = r1 := hw
  refine lv_if_lt (tgt := 55) hx hb dX15_order_25 (by decide) (fun c_ => absurd c_ (by decide +kernel)) (fun _ => ?_)
  refine lv_iload_n hx hb dX15_order_28 rfl (lv_at hl 3 rfl) ?_
  refine lv_i2l (v := 6) hx hb dX15_order_29 (by decide +kernel) ?_
  refine lv_lconst (v := 0) hx hb dX15_order_30 (by decide) ?_
  refine lv_iload hx hb dX15_order_31 (lv_at hl 0 rfl) ?_
  refine lv_if_eq (tgt := 42) hx hb dX15_order_33 (by decide) (fun c_ => absurd c_ (by decide +kernel)) (fun _ => ?_)
  refine lv_ldc2 (v := 8) hx hb hown (hts (.constantLong RX15 148 8) (by decide +kernel)) dX15_order_36 ?_
  refine lv_goto (tgt := 45) hx hb dX15_order_39 (by decide) ?_
  have hPc := hP.sub (ws' := []) [] rfl
  have hDc := hD.sub (ws' := []) [] (by decide) rfl
  have hKc := hK.sub (tys' := []) [] rfl
  have hFc := va_free (wc := []) hD hS hA [] rfl
  refine va_calli (va_runS (As := [.long 6, .long 0, .long 8]) (rest := []) ⟨hx, hb, hml, hown, hts⟩ (k_in l dC dI z zK zV 6 0 8 H.size) (va_cwS 3 hts gX15_order_X15_in rfl rfl rfl (by decide +kernel) ⟨Nat.le_of_ble_eq_true rfl, Nat.le_of_ble_eq_true rfl⟩) ⟨kP_blind, kP_go hPc hKc hDc hFc hM hS⟩ rfl rfl hl.1 rfl (lv_room (Nat.le_of_ble_eq_true rfl)) dX15_order_45 ⟨Nat.le_of_ble_eq_true rfl, Nat.le_of_ble_eq_true rfl⟩) hS (fun q _ h => hFc q h) hFc (fun r2 u t H1 locs ht hvm hw hB hz1 hk1 hS => ?_)
  obtain ⟨hP, hD, hK⟩ := kJ (wr := [(mo, .inr (19, [.int 0, .int 0, .int 0, .int 0, .int 0, .int 0, .int 0, .ref ti, .ref si, .ref lo, .ref lh, .ref lk, .ref sp, .ref st, .ref pa, .ref br, .ref sg, .int 0, .int 0, .int 0, .int 0, .int 0, .int 0, .long 0, .long 0, .long 0, .long 0, .int th])), (lo, .inr (3, [.int 0, .ref (z 0), .int 0]))]) (w1 := []) (t1 := []) hP hD hK [] [0, 1] rfl rfl (by decide) (by decide) hk1 hFc ht hvm hB
  generalize H1 = H at hP hS ⊢
  have hP : va_P (dC, dI) vwCl [(mo, .inr (19, [.int 0, .int 0, .int 0, .int 0, .int 0, .int 0, .int 0, .ref ti, .ref si, .ref lo, .ref lh, .ref lk, .ref sp, .ref st, .ref pa, .ref br, .ref sg, .int 0, .int 0, .int 0, .int 0, .int 0, .int 0, .long 0, .long 0, .long 0, .long 0, .int th])), (lo, .inr (3, [.int 0, .ref (z 0), .int 0]))] H := hP
  have hD : va_D A [(mo, .inr (19, [.int 0, .int 0, .int 0, .int 0, .int 0, .int 0, .int 0, .ref ti, .ref si, .ref lo, .ref lh, .ref lk, .ref sp, .ref st, .ref pa, .ref br, .ref sg, .int 0, .int 0, .int 0, .int 0, .int 0, .int 0, .long 0, .long 0, .long 0, .long 0, .int th])), (lo, .inr (3, [.int 0, .ref (z 0), .int 0]))] := hD
  have hK : va_K (dC, dI) vwCl [] s := hK
  obtain rfl : (if 0 ≤ 6 ∧ 6 ≤ 8 then (1 : Int32) else 0) = r2 := hw
  refine kc_i (y := 1) (by decide +kernel) ?_
  refine lv_if_eq (tgt := 55) hx hb dX15_order_48 (by decide) (fun c_ => absurd c_ (by decide +kernel)) (fun _ => ?_)
  refine lv_iconst (v := 1) hx hb dX15_order_51 (by decide) ?_
  refine lv_goto (tgt := 56) hx hb dX15_order_52 (by decide) ?_
  refine lv_istore (lv' := [(5, .int 1), (4, .int 1), (0, .ref mo), (1, .int 115), (2, .int 6), (3, .int p2)]) hx hb dX15_order_56 hl (by decide) rfl (fun ls hl => ?_)
  refine lv_iload hx hb dX15_order_58 (lv_at hl 0 rfl) ?_
  refine lv_if_eq (tgt := 115) hx hb dX15_order_60 (by decide) (fun c_ => absurd c_ (by decide +kernel)) (fun _ => ?_)
  refine lv_iload_n hx hb dX15_order_63 rfl (lv_at hl 3 rfl) ?_
  refine lv_bipush (v := 115) hx hb dX15_order_64 (by decide) ?_
  refine lv_icmp_ne (tgt := 84) hx hb dX15_order_66 (by decide) (fun c_ => absurd (by decide +kernel) c_) (fun _ => ?_)
  refine lv_iload_n hx hb dX15_order_69 rfl (lv_at hl 5 rfl) ?_
  refine lv_i2l (v := p2.toInt64) hx hb dX15_order_70 rfl ?_
  refine lv_lconst (v := 0) hx hb dX15_order_71 (by decide) ?_
  refine lv_ldc2 (v := 2) hx hb hown (hts (.constantLong RX15 150 2) (by decide +kernel)) dX15_order_72 ?_
  have hPc := hP.sub (ws' := []) [] rfl
  have hDc := hD.sub (ws' := []) [] (by decide) rfl
  have hKc := hK.sub (tys' := []) [] rfl
  have hFc := va_free (wc := []) hD hS hA [] rfl
  refine va_calli (va_runS (As := [.long p2.toInt64, .long 0, .long 2]) (rest := []) ⟨hx, hb, hml, hown, hts⟩ (k_in l dC dI z zK zV p2.toInt64 0 2 H.size) (va_cwS 3 hts gX15_order_X15_in rfl rfl rfl (by decide +kernel) ⟨Nat.le_of_ble_eq_true rfl, Nat.le_of_ble_eq_true rfl⟩) ⟨kP_blind, kP_go hPc hKc hDc hFc hM hS⟩ rfl rfl hl.1 rfl (lv_room (Nat.le_of_ble_eq_true rfl)) dX15_order_75 ⟨Nat.le_of_ble_eq_true rfl, Nat.le_of_ble_eq_true rfl⟩) hS (fun q _ h => hFc q h) hFc (fun r3 u t H1 locs ht hvm hw hB hz1 hk1 hS => ?_)
  obtain ⟨hP, hD, hK⟩ := kJ (wr := [(mo, .inr (19, [.int 0, .int 0, .int 0, .int 0, .int 0, .int 0, .int 0, .ref ti, .ref si, .ref lo, .ref lh, .ref lk, .ref sp, .ref st, .ref pa, .ref br, .ref sg, .int 0, .int 0, .int 0, .int 0, .int 0, .int 0, .long 0, .long 0, .long 0, .long 0, .int th])), (lo, .inr (3, [.int 0, .ref (z 0), .int 0]))]) (w1 := []) (t1 := []) hP hD hK [] [0, 1] rfl rfl (by decide) (by decide) hk1 hFc ht hvm hB
  generalize H1 = H at hP hS ⊢
  have hP : va_P (dC, dI) vwCl [(mo, .inr (19, [.int 0, .int 0, .int 0, .int 0, .int 0, .int 0, .int 0, .ref ti, .ref si, .ref lo, .ref lh, .ref lk, .ref sp, .ref st, .ref pa, .ref br, .ref sg, .int 0, .int 0, .int 0, .int 0, .int 0, .int 0, .long 0, .long 0, .long 0, .long 0, .int th])), (lo, .inr (3, [.int 0, .ref (z 0), .int 0]))] H := hP
  have hD : va_D A [(mo, .inr (19, [.int 0, .int 0, .int 0, .int 0, .int 0, .int 0, .int 0, .ref ti, .ref si, .ref lo, .ref lh, .ref lk, .ref sp, .ref st, .ref pa, .ref br, .ref sg, .int 0, .int 0, .int 0, .int 0, .int 0, .int 0, .long 0, .long 0, .long 0, .long 0, .int th])), (lo, .inr (3, [.int 0, .ref (z 0), .int 0]))] := hD
  have hK : va_K (dC, dI) vwCl [] s := hK
  obtain rfl : (if 0 ≤ (p2.toInt64) ∧ (p2.toInt64) ≤ 2 then (1 : Int32) else 0) = r3 := hw
  refine kc_i (y := (if 0 ≤ p2 ∧ p2 ≤ 2 then (1 : Int32) else 0)) (k_inP (a := 0) (b := 2) (by decide +kernel) (by decide +kernel)) ?_
  refine lv_if_eq (tgt := 115) hx hb dX15_order_78 (by decide) (fun c_ => absurd c_ (k_ifp hg0)) (fun _ => ?_)
  refine lv_goto (tgt := 111) hx hb dX15_order_81 (by decide) ?_
  refine lv_iconst (v := 1) hx hb dX15_order_111 (by decide) ?_
  refine lv_goto (tgt := 116) hx hb dX15_order_112 (by decide) ?_
  refine lv_istore (lv' := [(5, .int 1), (4, .int 1), (0, .ref mo), (1, .int 115), (2, .int 6), (3, .int p2)]) hx hb dX15_order_116 hl (by decide) rfl (fun ls hl => ?_)
  refine lv_aload_n hx hb dX15_order_118 rfl (lv_at hl 2 rfl) ?_
  refine lv_iload hx hb dX15_order_119 (lv_at hl 0 rfl) ?_
  refine lv_if_ne (tgt := 128) hx hb dX15_order_121 (by decide) (fun _ => ?_) (fun c_ => absurd c_ (by decide +kernel))
  refine lv_aload_n hx hb dX15_order_128 rfl (lv_at hl 2 rfl) ?_
  refine va_get (D := (dC, dI)) (ci := 19) (v := .ref lo) (C := RX15) (T := TX15) (N := 28) hx hb hts hiX15 hown hK hP 0 rfl rfl 9 (by decide) (hts (.fieldLink RX15 19 "SquareRigModel" "orders" "Ljava/util/List;") (by decide +kernel)) (fun _ h9 => h9) rfl dX15_order_129 ?_
  have hPc := hP.sub (ws' := [(lo, .inr (3, [.int 0, .ref (z 0), .int 0]))]) [1] rfl
  have hDc := hD.sub (ws' := [(lo, .inr (3, [.int 0, .ref (z 0), .int 0]))]) [1] (by decide) rfl
  have hKc := hK.sub (tys' := []) [] rfl
  have hFc := va_free (wc := [(lo, .inr (3, [.int 0, .ref (z 0), .int 0]))]) hD hS hA [1] rfl
  refine va_callFi (va_runF (hK.1 3 _ rfl).2 (As := []) (rest := [.ref mo]) ⟨hx, hb, hml, hown, hts⟩ (k_size0 l dC dI z zK zV lo H.size) (va_cwF 0 hts gX15_order_Jx4a65c_size_8abf5_f156Jx4a65c rfl rfl rfl hM.2.2.2.2.2.2.2.2.2.2.1.2.2.1 (by decide +kernel) ⟨Nat.le_of_ble_eq_true rfl, Nat.le_of_ble_eq_true rfl⟩) ⟨kP_blind, va_recv hKc hPc (ci := 3) (q0 := 0) rfl rfl, kP_go hPc hKc hDc hFc hM hS⟩ rfl rfl hl.1 rfl (lv_room (Nat.le_of_ble_eq_true rfl)) dX15_order_132 ⟨Nat.le_of_ble_eq_true rfl, Nat.le_of_ble_eq_true rfl⟩) hS (fun q _ h => hFc q h) hFc (fun r4 u t H1 locs ht hvm hw hB hz1 hk1 hS => ?_)
  obtain ⟨hP, hD, hK⟩ := kJ (wr := [(mo, .inr (19, [.int 0, .int 0, .int 0, .int 0, .int 0, .int 0, .int 0, .ref ti, .ref si, .ref lo, .ref lh, .ref lk, .ref sp, .ref st, .ref pa, .ref br, .ref sg, .int 0, .int 0, .int 0, .int 0, .int 0, .int 0, .long 0, .long 0, .long 0, .long 0, .int th]))]) (w1 := [(lo, .inr (3, [.int 0, .ref (z 0), .int 0]))]) (t1 := []) hP hD hK [1] [0] rfl rfl (by decide) (by decide) hk1 hFc ht hvm hB
  generalize H1 = H at hP hS ⊢
  have hP : va_P (dC, dI) vwCl [(mo, .inr (19, [.int 0, .int 0, .int 0, .int 0, .int 0, .int 0, .int 0, .ref ti, .ref si, .ref lo, .ref lh, .ref lk, .ref sp, .ref st, .ref pa, .ref br, .ref sg, .int 0, .int 0, .int 0, .int 0, .int 0, .int 0, .long 0, .long 0, .long 0, .long 0, .int th])), (lo, .inr (3, [.int 0, .ref (z 0), .int 0]))] H := hP
  have hD : va_D A [(mo, .inr (19, [.int 0, .int 0, .int 0, .int 0, .int 0, .int 0, .int 0, .ref ti, .ref si, .ref lo, .ref lh, .ref lk, .ref sp, .ref st, .ref pa, .ref br, .ref sg, .int 0, .int 0, .int 0, .int 0, .int 0, .int 0, .long 0, .long 0, .long 0, .long 0, .int th])), (lo, .inr (3, [.int 0, .ref (z 0), .int 0]))] := hD
  have hK : va_K (dC, dI) vwCl [] s := hK
  obtain rfl : 0 = r4 := hw
  refine lv_bipush (v := 100) hx hb dX15_order_137 (by decide) ?_
  refine lv_icmp_ne (tgt := 146) hx hb dX15_order_139 (by decide) (fun _ => ?_) (fun c_ => absurd c_ (by decide +kernel))
  refine lv_iconst (v := 0) hx hb dX15_order_146 (by decide) ?_
  refine va_put (D := (dC, dI)) (ci := 19) (v := .int 0) (ty := .int) (C := RX15) (T := TX15) (N := 28) hx hb hts hiX15 tyX15 tyX15_ok nmX15 hown hK hP hD hS 0 rfl rfl 27 (by decide) (hts (.fieldLink RX15 45 "SquareRigModel" "thrown" "I") (by decide +kernel)) (fun _ h9 => h9) rfl (by decide +kernel) rfl rfl (Nat.le_of_ble_eq_true rfl) dX15_order_147 (fun H locs hP hD hS => ?_)
  have hP : va_P (dC, dI) vwCl [(mo, .inr (19, [.int 0, .int 0, .int 0, .int 0, .int 0, .int 0, .int 0, .ref ti, .ref si, .ref lo, .ref lh, .ref lk, .ref sp, .ref st, .ref pa, .ref br, .ref sg, .int 0, .int 0, .int 0, .int 0, .int 0, .int 0, .long 0, .long 0, .long 0, .long 0, .int 0])), (lo, .inr (3, [.int 0, .ref (z 0), .int 0]))] H := hP
  have hD : va_D A [(mo, .inr (19, [.int 0, .int 0, .int 0, .int 0, .int 0, .int 0, .int 0, .ref ti, .ref si, .ref lo, .ref lh, .ref lk, .ref sp, .ref st, .ref pa, .ref br, .ref sg, .int 0, .int 0, .int 0, .int 0, .int 0, .int 0, .long 0, .long 0, .long 0, .long 0, .int 0])), (lo, .inr (3, [.int 0, .ref (z 0), .int 0]))] := hD
  refine lv_aload_n hx hb dX15_order_150 rfl (lv_at hl 2 rfl) ?_
  refine va_get (D := (dC, dI)) (ci := 19) (v := .int 0) (C := RX15) (T := TX15) (N := 28) hx hb hts hiX15 hown hK hP 0 rfl rfl 27 (by decide) (hts (.fieldLink RX15 45 "SquareRigModel" "thrown" "I") (by decide +kernel)) (fun _ h9 => h9) rfl dX15_order_151 ?_
  refine lv_if_le (tgt := 159) hx hb dX15_order_154 (by decide) (fun _ => ?_) (fun c_ => absurd (by decide +kernel) c_)
  refine lv_aload_n hx hb dX15_order_159 rfl (lv_at hl 2 rfl) ?_
  refine va_get (D := (dC, dI)) (ci := 19) (v := .ref lo) (C := RX15) (T := TX15) (N := 28) hx hb hts hiX15 hown hK hP 0 rfl rfl 9 (by decide) (hts (.fieldLink RX15 19 "SquareRigModel" "orders" "Ljava/util/List;") (by decide +kernel)) (fun _ h9 => h9) rfl dX15_order_160 ?_
  refine va_new (ci := 18) (fs := [.int 0, .int 0, .int 0, .int 0, .int 0, .int 0]) (C := RX14) (T := TX14) (N := 6) hx hb hts hiX14 tyX14 tyX14_ok hown (hts (.classLink RX15 161 RX14) (by decide +kernel)) (hts (.instantiable RX14 6) (by decide +kernel)) (hts (.initialized RX14) (by decide +kernel)) hK hP hD hS hA rfl (fun j hj => by rcases (show j = 0 ∨ j = 1 ∨ j = 2 ∨ j = 3 ∨ j = 4 ∨ j = 5 by omega) with rfl | rfl | rfl | rfl | rfl | rfl <;> rfl) (Nat.le_of_ble_eq_true rfl) (Nat.le_of_ble_eq_true rfl) dX15_order_163 (fun q5 H hP hD hS => ?_)
  have hP : va_P (dC, dI) vwCl [(mo, .inr (19, [.int 0, .int 0, .int 0, .int 0, .int 0, .int 0, .int 0, .ref ti, .ref si, .ref lo, .ref lh, .ref lk, .ref sp, .ref st, .ref pa, .ref br, .ref sg, .int 0, .int 0, .int 0, .int 0, .int 0, .int 0, .long 0, .long 0, .long 0, .long 0, .int 0])), (lo, .inr (3, [.int 0, .ref (z 0), .int 0])), (q5, .inr (18, [.int 0, .int 0, .int 0, .int 0, .int 0, .int 0]))] H := hP
  have hD : va_D A [(mo, .inr (19, [.int 0, .int 0, .int 0, .int 0, .int 0, .int 0, .int 0, .ref ti, .ref si, .ref lo, .ref lh, .ref lk, .ref sp, .ref st, .ref pa, .ref br, .ref sg, .int 0, .int 0, .int 0, .int 0, .int 0, .int 0, .long 0, .long 0, .long 0, .long 0, .int 0])), (lo, .inr (3, [.int 0, .ref (z 0), .int 0])), (q5, .inr (18, [.int 0, .int 0, .int 0, .int 0, .int 0, .int 0]))] := hD
  refine lv_dup hx hb dX15_order_166 rfl ?_
  refine lv_iload_n hx hb dX15_order_167 rfl (lv_at hl 3 rfl) ?_
  refine lv_iload_n hx hb dX15_order_168 rfl (lv_at hl 4 rfl) ?_
  refine lv_iload_n hx hb dX15_order_169 rfl (lv_at hl 5 rfl) ?_
  refine lv_aload_n hx hb dX15_order_170 rfl (lv_at hl 2 rfl) ?_
  refine va_get (D := (dC, dI)) (ci := 19) (v := .int 0) (C := RX15) (T := TX15) (N := 28) hx hb hts hiX15 hown hK hP 0 rfl rfl 17 (by decide) (hts (.fieldLink RX15 163 "SquareRigModel" "minute" "I") (by decide +kernel)) (fun _ h9 => h9) rfl dX15_order_171 ?_
  have hPc := hP.sub (ws' := [(q5, .inr (18, [.int 0, .int 0, .int 0, .int 0, .int 0, .int 0]))]) [2] rfl
  have hDc := hD.sub (ws' := [(q5, .inr (18, [.int 0, .int 0, .int 0, .int 0, .int 0, .int 0]))]) [2] (by decide) rfl
  have hKc := hK.sub (tys' := []) [] rfl
  have hFc := va_free (wc := [(q5, .inr (18, [.int 0, .int 0, .int 0, .int 0, .int 0, .int 0]))]) hD hS hA [2] rfl
  refine va_callv (va_runI (As := [.int 115, .int 6, .int p2, .int 0]) (rest := [.ref q5, .ref lo]) ⟨hx, hb, hml, hown, hts⟩ (k_MOrder_init115 l dC dI z zK zV q5 6 p2 0 H.size) (cwI 4 hts gX15_order_X14_init rfl rfl rfl (hts (.initialized RX14) (by decide +kernel)) (hts (.methodLink RX15 166 yX14_init) (by decide +kernel)) (hts (.instanceMethod yX14_init) (by decide +kernel)) rfl (by decide +kernel) ⟨Nat.le_of_ble_eq_true rfl, Nat.le_of_ble_eq_true rfl⟩) ⟨kP_blind, kP_go hPc hKc hDc hFc hM hS⟩ rfl rfl hl.1 rfl (lv_room (Nat.le_of_ble_eq_true rfl)) dX15_order_174 ⟨Nat.le_of_ble_eq_true rfl, Nat.le_of_ble_eq_true rfl⟩) hS (fun q _ h => hFc q h) hFc (fun u t H1 locs ht hvm hw hB hz1 hk1 hS => ?_)
  obtain ⟨hP, hD, hK⟩ := kJ (wr := [(mo, .inr (19, [.int 0, .int 0, .int 0, .int 0, .int 0, .int 0, .int 0, .ref ti, .ref si, .ref lo, .ref lh, .ref lk, .ref sp, .ref st, .ref pa, .ref br, .ref sg, .int 0, .int 0, .int 0, .int 0, .int 0, .int 0, .long 0, .long 0, .long 0, .long 0, .int 0])), (lo, .inr (3, [.int 0, .ref (z 0), .int 0]))]) (w1 := [(q5, .inr (18, [.int 115, .int 6, .int p2, .int 0, .int 119, .int 0]))]) (t1 := []) hP hD hK [2] [0, 1] rfl rfl (by decide) (by decide) hk1 hFc ht hvm hB
  generalize H1 = H at hP hS ⊢
  have hP : va_P (dC, dI) vwCl [(mo, .inr (19, [.int 0, .int 0, .int 0, .int 0, .int 0, .int 0, .int 0, .ref ti, .ref si, .ref lo, .ref lh, .ref lk, .ref sp, .ref st, .ref pa, .ref br, .ref sg, .int 0, .int 0, .int 0, .int 0, .int 0, .int 0, .long 0, .long 0, .long 0, .long 0, .int 0])), (lo, .inr (3, [.int 0, .ref (z 0), .int 0])), (q5, .inr (18, [.int 115, .int 6, .int p2, .int 0, .int 119, .int 0]))] H := hP
  have hD : va_D A [(mo, .inr (19, [.int 0, .int 0, .int 0, .int 0, .int 0, .int 0, .int 0, .ref ti, .ref si, .ref lo, .ref lh, .ref lk, .ref sp, .ref st, .ref pa, .ref br, .ref sg, .int 0, .int 0, .int 0, .int 0, .int 0, .int 0, .long 0, .long 0, .long 0, .long 0, .int 0])), (lo, .inr (3, [.int 0, .ref (z 0), .int 0])), (q5, .inr (18, [.int 115, .int 6, .int p2, .int 0, .int 119, .int 0]))] := hD
  have hK : va_K (dC, dI) vwCl [] s := hK
  clear hw
  have hPc := hP.sub (ws' := [(lo, .inr (3, [.int 0, .ref (z 0), .int 0])), (q5, .inr (18, [.int 115, .int 6, .int p2, .int 0, .int 119, .int 0]))]) [1, 2] rfl
  have hDc := hD.sub (ws' := [(lo, .inr (3, [.int 0, .ref (z 0), .int 0])), (q5, .inr (18, [.int 115, .int 6, .int p2, .int 0, .int 119, .int 0]))]) [1, 2] (by decide) rfl
  have hKc := hK.sub (tys' := []) [] rfl
  have hFc := va_free (wc := [(lo, .inr (3, [.int 0, .ref (z 0), .int 0])), (q5, .inr (18, [.int 115, .int 6, .int p2, .int 0, .int 119, .int 0]))]) hD hS hA [1, 2] rfl
  refine va_callFi (va_runF (hK.1 3 _ rfl).2 (As := [.ref q5]) (rest := []) ⟨hx, hb, hml, hown, hts⟩ (k_add1_oo l dC dI z zK zV lo 0 q5 115 6 p2 0 119 0 H.size) (va_cwF 1 hts gX15_order_Jx4a65c_add_9ea2d_f169Jx4a65c rfl rfl rfl hM.2.2.2.2.2.2.2.2.2.2.1.2.2.2.2 (by decide +kernel) ⟨Nat.le_of_ble_eq_true rfl, Nat.le_of_ble_eq_true rfl⟩) ⟨kP_blind, va_recv hKc hPc (ci := 3) (q0 := 0) rfl rfl, kP_go hPc hKc hDc hFc hM hS⟩ rfl rfl hl.1 rfl (lv_room (Nat.le_of_ble_eq_true rfl)) dX15_order_177 ⟨Nat.le_of_ble_eq_true rfl, Nat.le_of_ble_eq_true rfl⟩) hS (fun q _ h => hFc q h) hFc (fun r6 u t H1 locs ht hvm hw hB hz1 hk1 hS => ?_)
  obtain ⟨q7, cA8, hB⟩ := hB
  obtain ⟨hP, hD, hK⟩ := kJ (wr := [(mo, .inr (19, [.int 0, .int 0, .int 0, .int 0, .int 0, .int 0, .int 0, .ref ti, .ref si, .ref lo, .ref lh, .ref lk, .ref sp, .ref st, .ref pa, .ref br, .ref sg, .int 0, .int 0, .int 0, .int 0, .int 0, .int 0, .long 0, .long 0, .long 0, .long 0, .int 0]))]) (w1 := [(q5, .inr (18, [.int 115, .int 6, .int p2, .int 0, .int 119, .int 0])), (lo, .inr (3, [.int (0 + 1), .ref q7, .int 1])), (q7, .inl (cA8, 10, .inr (.inr (.inr (.inr (va_up (fun _ => none) 0 (some q5)))))))]) (t1 := [(cA8, .object "java/lang/Object")]) hP hD hK [1, 2] [0] rfl rfl (by decide) (by decide) hk1 hFc ht hvm hB
  generalize H1 = H at hP hS ⊢
  have hP : va_P (dC, dI) vwCl [(mo, .inr (19, [.int 0, .int 0, .int 0, .int 0, .int 0, .int 0, .int 0, .ref ti, .ref si, .ref lo, .ref lh, .ref lk, .ref sp, .ref st, .ref pa, .ref br, .ref sg, .int 0, .int 0, .int 0, .int 0, .int 0, .int 0, .long 0, .long 0, .long 0, .long 0, .int 0])), (q5, .inr (18, [.int 115, .int 6, .int p2, .int 0, .int 119, .int 0])), (lo, .inr (3, [.int (0 + 1), .ref q7, .int 1])), (q7, .inl (cA8, 10, .inr (.inr (.inr (.inr (va_up (fun _ => none) 0 (some q5)))))))] H := hP
  have hD : va_D A [(mo, .inr (19, [.int 0, .int 0, .int 0, .int 0, .int 0, .int 0, .int 0, .ref ti, .ref si, .ref lo, .ref lh, .ref lk, .ref sp, .ref st, .ref pa, .ref br, .ref sg, .int 0, .int 0, .int 0, .int 0, .int 0, .int 0, .long 0, .long 0, .long 0, .long 0, .int 0])), (q5, .inr (18, [.int 115, .int 6, .int p2, .int 0, .int 119, .int 0])), (lo, .inr (3, [.int (0 + 1), .ref q7, .int 1])), (q7, .inl (cA8, 10, .inr (.inr (.inr (.inr (va_up (fun _ => none) 0 (some q5)))))))] := hD
  have hK : va_K (dC, dI) vwCl [(cA8, .object "java/lang/Object")] s := hK
  obtain rfl : 1 = r6 := hw
  refine lv_pop hx hb dX15_order_182 rfl ?_
  refine lv_aload_n hx hb dX15_order_183 rfl (lv_at hl 2 rfl) ?_
  refine va_get (D := (dC, dI)) (ci := 19) (v := .ref lo) (C := RX15) (T := TX15) (N := 28) hx hb hts hiX15 hown hK hP 0 rfl rfl 9 (by decide) (hts (.fieldLink RX15 19 "SquareRigModel" "orders" "Ljava/util/List;") (by decide +kernel)) (fun _ h9 => h9) rfl dX15_order_184 ?_
  have hPc := hP.sub (ws' := [(lo, .inr (3, [.int (0 + 1), .ref q7, .int 1]))]) [2] rfl
  have hDc := hD.sub (ws' := [(lo, .inr (3, [.int (0 + 1), .ref q7, .int 1]))]) [2] (by decide) rfl
  have hKc := hK.sub (tys' := []) [] rfl
  have hFc := va_free (wc := [(lo, .inr (3, [.int (0 + 1), .ref q7, .int 1]))]) hD hS hA [2] rfl
  refine va_callFi (va_runF (hK.1 3 _ rfl).2 (As := []) (rest := []) ⟨hx, hb, hml, hown, hts⟩ (k_size1 l dC dI z zK zV lo (0 + 1) q7 H.size) (va_cwF 0 hts gX15_order_Jx4a65c_size_8abf5_f156Jx4a65c rfl rfl rfl hM.2.2.2.2.2.2.2.2.2.2.1.2.2.1 (by decide +kernel) ⟨Nat.le_of_ble_eq_true rfl, Nat.le_of_ble_eq_true rfl⟩) ⟨kP_blind, va_recv hKc hPc (ci := 3) (q0 := 0) rfl rfl, kP_go hPc hKc hDc hFc hM hS⟩ rfl rfl hl.1 rfl (lv_room (Nat.le_of_ble_eq_true rfl)) dX15_order_187 ⟨Nat.le_of_ble_eq_true rfl, Nat.le_of_ble_eq_true rfl⟩) hS (fun q _ h => hFc q h) hFc (fun r9 u t H1 locs ht hvm hw hB hz1 hk1 hS => ?_)
  obtain ⟨hP, hD, hK⟩ := kJ (wr := [(mo, .inr (19, [.int 0, .int 0, .int 0, .int 0, .int 0, .int 0, .int 0, .ref ti, .ref si, .ref lo, .ref lh, .ref lk, .ref sp, .ref st, .ref pa, .ref br, .ref sg, .int 0, .int 0, .int 0, .int 0, .int 0, .int 0, .long 0, .long 0, .long 0, .long 0, .int 0])), (q5, .inr (18, [.int 115, .int 6, .int p2, .int 0, .int 119, .int 0])), (q7, .inl (cA8, 10, .inr (.inr (.inr (.inr (va_up (fun _ => none) 0 (some q5)))))))]) (w1 := [(lo, .inr (3, [.int (0 + 1), .ref q7, .int 1]))]) (t1 := []) hP hD hK [2] [0, 1, 3] rfl rfl (by decide) (by decide) hk1 hFc ht hvm hB
  generalize H1 = H at hP hS ⊢
  have hP : va_P (dC, dI) vwCl [(mo, .inr (19, [.int 0, .int 0, .int 0, .int 0, .int 0, .int 0, .int 0, .ref ti, .ref si, .ref lo, .ref lh, .ref lk, .ref sp, .ref st, .ref pa, .ref br, .ref sg, .int 0, .int 0, .int 0, .int 0, .int 0, .int 0, .long 0, .long 0, .long 0, .long 0, .int 0])), (q5, .inr (18, [.int 115, .int 6, .int p2, .int 0, .int 119, .int 0])), (q7, .inl (cA8, 10, .inr (.inr (.inr (.inr (va_up (fun _ => none) 0 (some q5))))))), (lo, .inr (3, [.int (0 + 1), .ref q7, .int 1]))] H := hP
  have hD : va_D A [(mo, .inr (19, [.int 0, .int 0, .int 0, .int 0, .int 0, .int 0, .int 0, .ref ti, .ref si, .ref lo, .ref lh, .ref lk, .ref sp, .ref st, .ref pa, .ref br, .ref sg, .int 0, .int 0, .int 0, .int 0, .int 0, .int 0, .long 0, .long 0, .long 0, .long 0, .int 0])), (q5, .inr (18, [.int 115, .int 6, .int p2, .int 0, .int 119, .int 0])), (q7, .inl (cA8, 10, .inr (.inr (.inr (.inr (va_up (fun _ => none) 0 (some q5))))))), (lo, .inr (3, [.int (0 + 1), .ref q7, .int 1]))] := hD
  have hK : va_K (dC, dI) vwCl [(cA8, .object "java/lang/Object")] s := hK
  obtain rfl : 1 = r9 := hw
  refine lv_iconst (v := 1) hx hb dX15_order_192 (by decide) ?_
  refine lv_isub hx hb dX15_order_193 ?_
  refine kc_i (y := 0) (by decide +kernel) ?_
  refine W.widen (k := 2) (n := 16) (Nat.le_of_ble_eq_true rfl) (Nat.le_of_ble_eq_true rfl) ?_
  exact W.iret (v := 0) hx hb hr (fun t ht hW => ⟨⟨0, (), rfl, rfl, kB_end (w9 := [(mo, .inr (19, [.int 0, .int 0, .int 0, .int 0, .int 0, .int 0, .int 0, .ref ti, .ref si, .ref lo, .ref lh, .ref lk, .ref sp, .ref st, .ref pa, .ref br, .ref sg, .int 0, .int 0, .int 0, .int 0, .int 0, .int 0, .long 0, .long 0, .long 0, .long 0, .int 0]))]) (t9 := []) hP hK hD [0] [] rfl (by decide) rfl rfl t ht hW⟩, hS.F ht⟩) hS.2.2 dX15_order_194
abbrev wd_k_m_order_s7 (z : Nat → Nat) (p2 : Int32) (mo : Nat) (ti : Nat) (si : Nat) (lo : Nat) (lh : Nat) (lk : Nat) (sp : Nat) (st : Nat) (pa : Nat) (br : Nat) (sg : Nat) (th : Int32) : va_W := [(mo, .inr (19, [.int 0, .int 0, .int 0, .int 0, .int 0, .int 0, .int 0, .ref ti, .ref si, .ref lo, .ref lh, .ref lk, .ref sp, .ref st, .ref pa, .ref br, .ref sg, .int 0, .int 0, .int 0, .int 0, .int 0, .int 0, .long 0, .long 0, .long 0, .long 0, .int th])), (lo, .inr (3, [.int 0, .ref (z 0), .int 0]))]
set_option maxHeartbeats 4000000 in
set_option maxRecDepth 100000 in
theorem k_m_order_s7 (l : Launch) (dC : Nat → ClassId) (dI : Nat → Nat → Nat) (z zK zV : Nat → Nat) (p2 : Int32) (mo : Nat) (ti : Nat) (si : Nat) (lo : Nat) (lh : Nat) (lk : Nat) (sp : Nat) (st : Nat) (pa : Nat) (br : Nat) (sg : Nat) (th : Int32) (sz : Nat) (hg0 : (0 : Int32) ≤ p2 ∧ p2 ≤ 2) : Met l yX15_order wsX15_order ({ frames := 5, cells := 2, slots := 16, locals := 101 }) (kP dC dI z zK zV [.ref mo, .int 115, .int 7, .int p2] sz (wd_k_m_order_s7 z p2 mo ti si lo lh lk sp st pa br sg th) []) (va_Qi (fun (r : Int32) (_ : Unit) => 0 = r) (fun _ t => kB (dC, dI) (va_A (wd_k_m_order_s7 z p2 mo ti si lo lh lk sp st pa br sg th) sz) [(mo, .inr (19, [.int 0, .int 0, .int 0, .int 0, .int 0, .int 0, .int 0, .ref ti, .ref si, .ref lo, .ref lh, .ref lk, .ref sp, .ref st, .ref pa, .ref br, .ref sg, .int 0, .int 0, .int 0, .int 0, .int 0, .int 0, .long 0, .long 0, .long 0, .long 0, .int 0]))] [] t) (va_A (wd_k_m_order_s7 z p2 mo ti si lo lh lk sp st pa br sg th) sz)) 2 16 (va_A (wd_k_m_order_s7 z p2 mo ti si lo lh lk sp st pa br sg th) sz) := by
  refine Met.ofW (cc := cX15_order) (maxL := 6) (ret := (some .int)) (by decide) rfl ?_
  intro p e s m args below meth c s₁ B hml hv
  obtain ⟨rfl, hsz, hP, hK, hD0, hM⟩ := hv
  have hx := B.exec
  have hb := B.bytes
  have hr := B.returns
  have hts := atoms_spec (ws := wsX15_order) B.pre
  have hown : s.vm.findClass RX15 = some m.cls := findClass_of_methodNamed B.named
  have hlocks := B.notSynchronized
  have hiX15 : ∀ w ∈ u_ws RX15 TX15 28, w ∈ wsX15_order := by decide +kernel
  have hiX14 : ∀ w ∈ u_ws RX14 TX14 6, w ∈ wsX15_order := by decide +kernel
  subst hsz
  have hD := hD0.self (sz := s.heap.size)
  generalize hAe : va_A (wd_k_m_order_s7 z p2 mo ti si lo lh lk sp st pa br sg th) s.heap.size = A at hD hM ⊢
  have hA : ∀ q : Nat, s.heap.size ≤ q → A q := fun q h => by rw [← hAe]; exact Or.inr h
  have hS : va_S A s.heap s.heap [] := va_S.rf
  have hP : va_P (dC, dI) vwCl [(mo, .inr (19, [.int 0, .int 0, .int 0, .int 0, .int 0, .int 0, .int 0, .ref ti, .ref si, .ref lo, .ref lh, .ref lk, .ref sp, .ref st, .ref pa, .ref br, .ref sg, .int 0, .int 0, .int 0, .int 0, .int 0, .int 0, .long 0, .long 0, .long 0, .long 0, .int th])), (lo, .inr (3, [.int 0, .ref (z 0), .int 0]))] s.heap := hP
  have hD : va_D A [(mo, .inr (19, [.int 0, .int 0, .int 0, .int 0, .int 0, .int 0, .int 0, .ref ti, .ref si, .ref lo, .ref lh, .ref lk, .ref sp, .ref st, .ref pa, .ref br, .ref sg, .int 0, .int 0, .int 0, .int 0, .int 0, .int 0, .long 0, .long 0, .long 0, .long 0, .int th])), (lo, .inr (3, [.int 0, .ref (z 0), .int 0]))] := hD
  have hl := lv_entry ([.ref mo, .int 115, .int 7, .int p2]) (n := 6) (Nat.le_of_ble_eq_true rfl)
  rw [lg_entry_eq]
  generalize (lg_sl ([.ref mo, .int 115, .int 7, .int p2]) ++ List.replicate (6 - (lg_sl ([.ref mo, .int 115, .int 7, .int p2])).length) Slot.unset).toArray = ls at hl ⊢
  have hl : lv_has ls 6 [(0, .ref mo), (1, .int 115), (2, .int 7), (3, .int p2)] := hl
  refine lv_iload_n hx hb dX15_order_0 rfl (lv_at hl 1 rfl) ?_
  refine lv_bipush (v := 115) hx hb dX15_order_1 (by decide) ?_
  refine lv_icmp_eq (tgt := 12) hx hb dX15_order_3 (by decide) (fun _ => ?_) (fun c_ => absurd (by decide +kernel) c_)
  refine lv_iconst (v := 1) hx hb dX15_order_12 (by decide) ?_
  refine lv_goto (tgt := 17) hx hb dX15_order_13 (by decide) ?_
  refine lv_istore (lv' := [(4, .int 1), (0, .ref mo), (1, .int 115), (2, .int 7), (3, .int p2)]) hx hb dX15_order_17 hl (by decide) rfl (fun ls hl => ?_)
  refine va_ldcS hx hb hown (hM.2.2.1 0 _ rfl) dX15_order_19 ?_
  refine lv_iload_n hx hb dX15_order_21 rfl (lv_at hl 2 rfl) ?_
  have hPc := hP.sub (ws' := []) [] rfl
  have hDc := hD.sub (ws' := []) [] (by decide) rfl
  have hKc := hK.sub (tys' := []) [] rfl
  have hFc := va_free (wc := []) hD hS hA [] rfl
  refine va_calli (va_runV (As := [.int 115]) (rest := []) ⟨hx, hb, hml, hown, hts⟩ (k_ix3_115 l dC dI z zK zV  s.heap.size) (cwV 1 hts gX15_order_J0_indexOf_0f7a4 rfl rfl rfl (by decide +kernel) ⟨Nat.le_of_ble_eq_true rfl, Nat.le_of_ble_eq_true rfl⟩) ⟨kP_blind, vk_recv (i := 0) hM.2.2.2.1 (by decide) hS, kP_go hPc hKc hDc hFc hM hS⟩ rfl rfl hl.1 rfl (lv_room (Nat.le_of_ble_eq_true rfl)) dX15_order_22 ⟨Nat.le_of_ble_eq_true rfl, Nat.le_of_ble_eq_true rfl⟩) hS (fun q _ h => hFc q h) hFc (fun r1 u t H1 locs ht hvm hw hB hz1 hk1 hS => ?_)
  obtain ⟨hP, hD, hK⟩ := kJ (wr := [(mo, .inr (19, [.int 0, .int 0, .int 0, .int 0, .int 0, .int 0, .int 0, .ref ti, .ref si, .ref lo, .ref lh, .ref lk, .ref sp, .ref st, .ref pa, .ref br, .ref sg, .int 0, .int 0, .int 0, .int 0, .int 0, .int 0, .long 0, .long 0, .long 0, .long 0, .int th])), (lo, .inr (3, [.int 0, .ref (z 0), .int 0]))]) (w1 := []) (t1 := []) hP hD hK [] [0, 1] rfl rfl (by decide) (by decide) hk1 hFc ht hvm hB
  generalize H1 = H at hP hS ⊢
  have hP : va_P (dC, dI) vwCl [(mo, .inr (19, [.int 0, .int 0, .int 0, .int 0, .int 0, .int 0, .int 0, .ref ti, .ref si, .ref lo, .ref lh, .ref lk, .ref sp, .ref st, .ref pa, .ref br, .ref sg, .int 0, .int 0, .int 0, .int 0, .int 0, .int 0, .long 0, .long 0, .long 0, .long 0, .int th])), (lo, .inr (3, [.int 0, .ref (z 0), .int 0]))] H := hP
  have hD : va_D A [(mo, .inr (19, [.int 0, .int 0, .int 0, .int 0, .int 0, .int 0, .int 0, .ref ti, .ref si, .ref lo, .ref lh, .ref lk, .ref sp, .ref st, .ref pa, .ref br, .ref sg, .int 0, .int 0, .int 0, .int 0, .int 0, .int 0, .long 0, .long 0, .long 0, .long 0, .int th])), (lo, .inr (3, [.int 0, .ref (z 0), .int 0]))] := hD
  have hK : va_K (dC, dI) vwCl [] s := hK
  obtain rfl : 0 = r1 := hw
  refine lv_if_lt (tgt := 55) hx hb dX15_order_25 (by decide) (fun c_ => absurd c_ (by decide +kernel)) (fun _ => ?_)
  refine lv_iload_n hx hb dX15_order_28 rfl (lv_at hl 3 rfl) ?_
  refine lv_i2l (v := 7) hx hb dX15_order_29 (by decide +kernel) ?_
  refine lv_lconst (v := 0) hx hb dX15_order_30 (by decide) ?_
  refine lv_iload hx hb dX15_order_31 (lv_at hl 0 rfl) ?_
  refine lv_if_eq (tgt := 42) hx hb dX15_order_33 (by decide) (fun c_ => absurd c_ (by decide +kernel)) (fun _ => ?_)
  refine lv_ldc2 (v := 8) hx hb hown (hts (.constantLong RX15 148 8) (by decide +kernel)) dX15_order_36 ?_
  refine lv_goto (tgt := 45) hx hb dX15_order_39 (by decide) ?_
  have hPc := hP.sub (ws' := []) [] rfl
  have hDc := hD.sub (ws' := []) [] (by decide) rfl
  have hKc := hK.sub (tys' := []) [] rfl
  have hFc := va_free (wc := []) hD hS hA [] rfl
  refine va_calli (va_runS (As := [.long 7, .long 0, .long 8]) (rest := []) ⟨hx, hb, hml, hown, hts⟩ (k_in l dC dI z zK zV 7 0 8 H.size) (va_cwS 3 hts gX15_order_X15_in rfl rfl rfl (by decide +kernel) ⟨Nat.le_of_ble_eq_true rfl, Nat.le_of_ble_eq_true rfl⟩) ⟨kP_blind, kP_go hPc hKc hDc hFc hM hS⟩ rfl rfl hl.1 rfl (lv_room (Nat.le_of_ble_eq_true rfl)) dX15_order_45 ⟨Nat.le_of_ble_eq_true rfl, Nat.le_of_ble_eq_true rfl⟩) hS (fun q _ h => hFc q h) hFc (fun r2 u t H1 locs ht hvm hw hB hz1 hk1 hS => ?_)
  obtain ⟨hP, hD, hK⟩ := kJ (wr := [(mo, .inr (19, [.int 0, .int 0, .int 0, .int 0, .int 0, .int 0, .int 0, .ref ti, .ref si, .ref lo, .ref lh, .ref lk, .ref sp, .ref st, .ref pa, .ref br, .ref sg, .int 0, .int 0, .int 0, .int 0, .int 0, .int 0, .long 0, .long 0, .long 0, .long 0, .int th])), (lo, .inr (3, [.int 0, .ref (z 0), .int 0]))]) (w1 := []) (t1 := []) hP hD hK [] [0, 1] rfl rfl (by decide) (by decide) hk1 hFc ht hvm hB
  generalize H1 = H at hP hS ⊢
  have hP : va_P (dC, dI) vwCl [(mo, .inr (19, [.int 0, .int 0, .int 0, .int 0, .int 0, .int 0, .int 0, .ref ti, .ref si, .ref lo, .ref lh, .ref lk, .ref sp, .ref st, .ref pa, .ref br, .ref sg, .int 0, .int 0, .int 0, .int 0, .int 0, .int 0, .long 0, .long 0, .long 0, .long 0, .int th])), (lo, .inr (3, [.int 0, .ref (z 0), .int 0]))] H := hP
  have hD : va_D A [(mo, .inr (19, [.int 0, .int 0, .int 0, .int 0, .int 0, .int 0, .int 0, .ref ti, .ref si, .ref lo, .ref lh, .ref lk, .ref sp, .ref st, .ref pa, .ref br, .ref sg, .int 0, .int 0, .int 0, .int 0, .int 0, .int 0, .long 0, .long 0, .long 0, .long 0, .int th])), (lo, .inr (3, [.int 0, .ref (z 0), .int 0]))] := hD
  have hK : va_K (dC, dI) vwCl [] s := hK
  obtain rfl : (if 0 ≤ 7 ∧ 7 ≤ 8 then (1 : Int32) else 0) = r2 := hw
  refine kc_i (y := 1) (by decide +kernel) ?_
  refine lv_if_eq (tgt := 55) hx hb dX15_order_48 (by decide) (fun c_ => absurd c_ (by decide +kernel)) (fun _ => ?_)
  refine lv_iconst (v := 1) hx hb dX15_order_51 (by decide) ?_
  refine lv_goto (tgt := 56) hx hb dX15_order_52 (by decide) ?_
  refine lv_istore (lv' := [(5, .int 1), (4, .int 1), (0, .ref mo), (1, .int 115), (2, .int 7), (3, .int p2)]) hx hb dX15_order_56 hl (by decide) rfl (fun ls hl => ?_)
  refine lv_iload hx hb dX15_order_58 (lv_at hl 0 rfl) ?_
  refine lv_if_eq (tgt := 115) hx hb dX15_order_60 (by decide) (fun c_ => absurd c_ (by decide +kernel)) (fun _ => ?_)
  refine lv_iload_n hx hb dX15_order_63 rfl (lv_at hl 3 rfl) ?_
  refine lv_bipush (v := 115) hx hb dX15_order_64 (by decide) ?_
  refine lv_icmp_ne (tgt := 84) hx hb dX15_order_66 (by decide) (fun c_ => absurd (by decide +kernel) c_) (fun _ => ?_)
  refine lv_iload_n hx hb dX15_order_69 rfl (lv_at hl 5 rfl) ?_
  refine lv_i2l (v := p2.toInt64) hx hb dX15_order_70 rfl ?_
  refine lv_lconst (v := 0) hx hb dX15_order_71 (by decide) ?_
  refine lv_ldc2 (v := 2) hx hb hown (hts (.constantLong RX15 150 2) (by decide +kernel)) dX15_order_72 ?_
  have hPc := hP.sub (ws' := []) [] rfl
  have hDc := hD.sub (ws' := []) [] (by decide) rfl
  have hKc := hK.sub (tys' := []) [] rfl
  have hFc := va_free (wc := []) hD hS hA [] rfl
  refine va_calli (va_runS (As := [.long p2.toInt64, .long 0, .long 2]) (rest := []) ⟨hx, hb, hml, hown, hts⟩ (k_in l dC dI z zK zV p2.toInt64 0 2 H.size) (va_cwS 3 hts gX15_order_X15_in rfl rfl rfl (by decide +kernel) ⟨Nat.le_of_ble_eq_true rfl, Nat.le_of_ble_eq_true rfl⟩) ⟨kP_blind, kP_go hPc hKc hDc hFc hM hS⟩ rfl rfl hl.1 rfl (lv_room (Nat.le_of_ble_eq_true rfl)) dX15_order_75 ⟨Nat.le_of_ble_eq_true rfl, Nat.le_of_ble_eq_true rfl⟩) hS (fun q _ h => hFc q h) hFc (fun r3 u t H1 locs ht hvm hw hB hz1 hk1 hS => ?_)
  obtain ⟨hP, hD, hK⟩ := kJ (wr := [(mo, .inr (19, [.int 0, .int 0, .int 0, .int 0, .int 0, .int 0, .int 0, .ref ti, .ref si, .ref lo, .ref lh, .ref lk, .ref sp, .ref st, .ref pa, .ref br, .ref sg, .int 0, .int 0, .int 0, .int 0, .int 0, .int 0, .long 0, .long 0, .long 0, .long 0, .int th])), (lo, .inr (3, [.int 0, .ref (z 0), .int 0]))]) (w1 := []) (t1 := []) hP hD hK [] [0, 1] rfl rfl (by decide) (by decide) hk1 hFc ht hvm hB
  generalize H1 = H at hP hS ⊢
  have hP : va_P (dC, dI) vwCl [(mo, .inr (19, [.int 0, .int 0, .int 0, .int 0, .int 0, .int 0, .int 0, .ref ti, .ref si, .ref lo, .ref lh, .ref lk, .ref sp, .ref st, .ref pa, .ref br, .ref sg, .int 0, .int 0, .int 0, .int 0, .int 0, .int 0, .long 0, .long 0, .long 0, .long 0, .int th])), (lo, .inr (3, [.int 0, .ref (z 0), .int 0]))] H := hP
  have hD : va_D A [(mo, .inr (19, [.int 0, .int 0, .int 0, .int 0, .int 0, .int 0, .int 0, .ref ti, .ref si, .ref lo, .ref lh, .ref lk, .ref sp, .ref st, .ref pa, .ref br, .ref sg, .int 0, .int 0, .int 0, .int 0, .int 0, .int 0, .long 0, .long 0, .long 0, .long 0, .int th])), (lo, .inr (3, [.int 0, .ref (z 0), .int 0]))] := hD
  have hK : va_K (dC, dI) vwCl [] s := hK
  obtain rfl : (if 0 ≤ (p2.toInt64) ∧ (p2.toInt64) ≤ 2 then (1 : Int32) else 0) = r3 := hw
  refine kc_i (y := (if 0 ≤ p2 ∧ p2 ≤ 2 then (1 : Int32) else 0)) (k_inP (a := 0) (b := 2) (by decide +kernel) (by decide +kernel)) ?_
  refine lv_if_eq (tgt := 115) hx hb dX15_order_78 (by decide) (fun c_ => absurd c_ (k_ifp hg0)) (fun _ => ?_)
  refine lv_goto (tgt := 111) hx hb dX15_order_81 (by decide) ?_
  refine lv_iconst (v := 1) hx hb dX15_order_111 (by decide) ?_
  refine lv_goto (tgt := 116) hx hb dX15_order_112 (by decide) ?_
  refine lv_istore (lv' := [(5, .int 1), (4, .int 1), (0, .ref mo), (1, .int 115), (2, .int 7), (3, .int p2)]) hx hb dX15_order_116 hl (by decide) rfl (fun ls hl => ?_)
  refine lv_aload_n hx hb dX15_order_118 rfl (lv_at hl 2 rfl) ?_
  refine lv_iload hx hb dX15_order_119 (lv_at hl 0 rfl) ?_
  refine lv_if_ne (tgt := 128) hx hb dX15_order_121 (by decide) (fun _ => ?_) (fun c_ => absurd c_ (by decide +kernel))
  refine lv_aload_n hx hb dX15_order_128 rfl (lv_at hl 2 rfl) ?_
  refine va_get (D := (dC, dI)) (ci := 19) (v := .ref lo) (C := RX15) (T := TX15) (N := 28) hx hb hts hiX15 hown hK hP 0 rfl rfl 9 (by decide) (hts (.fieldLink RX15 19 "SquareRigModel" "orders" "Ljava/util/List;") (by decide +kernel)) (fun _ h9 => h9) rfl dX15_order_129 ?_
  have hPc := hP.sub (ws' := [(lo, .inr (3, [.int 0, .ref (z 0), .int 0]))]) [1] rfl
  have hDc := hD.sub (ws' := [(lo, .inr (3, [.int 0, .ref (z 0), .int 0]))]) [1] (by decide) rfl
  have hKc := hK.sub (tys' := []) [] rfl
  have hFc := va_free (wc := [(lo, .inr (3, [.int 0, .ref (z 0), .int 0]))]) hD hS hA [1] rfl
  refine va_callFi (va_runF (hK.1 3 _ rfl).2 (As := []) (rest := [.ref mo]) ⟨hx, hb, hml, hown, hts⟩ (k_size0 l dC dI z zK zV lo H.size) (va_cwF 0 hts gX15_order_Jx4a65c_size_8abf5_f156Jx4a65c rfl rfl rfl hM.2.2.2.2.2.2.2.2.2.2.1.2.2.1 (by decide +kernel) ⟨Nat.le_of_ble_eq_true rfl, Nat.le_of_ble_eq_true rfl⟩) ⟨kP_blind, va_recv hKc hPc (ci := 3) (q0 := 0) rfl rfl, kP_go hPc hKc hDc hFc hM hS⟩ rfl rfl hl.1 rfl (lv_room (Nat.le_of_ble_eq_true rfl)) dX15_order_132 ⟨Nat.le_of_ble_eq_true rfl, Nat.le_of_ble_eq_true rfl⟩) hS (fun q _ h => hFc q h) hFc (fun r4 u t H1 locs ht hvm hw hB hz1 hk1 hS => ?_)
  obtain ⟨hP, hD, hK⟩ := kJ (wr := [(mo, .inr (19, [.int 0, .int 0, .int 0, .int 0, .int 0, .int 0, .int 0, .ref ti, .ref si, .ref lo, .ref lh, .ref lk, .ref sp, .ref st, .ref pa, .ref br, .ref sg, .int 0, .int 0, .int 0, .int 0, .int 0, .int 0, .long 0, .long 0, .long 0, .long 0, .int th]))]) (w1 := [(lo, .inr (3, [.int 0, .ref (z 0), .int 0]))]) (t1 := []) hP hD hK [1] [0] rfl rfl (by decide) (by decide) hk1 hFc ht hvm hB
  generalize H1 = H at hP hS ⊢
  have hP : va_P (dC, dI) vwCl [(mo, .inr (19, [.int 0, .int 0, .int 0, .int 0, .int 0, .int 0, .int 0, .ref ti, .ref si, .ref lo, .ref lh, .ref lk, .ref sp, .ref st, .ref pa, .ref br, .ref sg, .int 0, .int 0, .int 0, .int 0, .int 0, .int 0, .long 0, .long 0, .long 0, .long 0, .int th])), (lo, .inr (3, [.int 0, .ref (z 0), .int 0]))] H := hP
  have hD : va_D A [(mo, .inr (19, [.int 0, .int 0, .int 0, .int 0, .int 0, .int 0, .int 0, .ref ti, .ref si, .ref lo, .ref lh, .ref lk, .ref sp, .ref st, .ref pa, .ref br, .ref sg, .int 0, .int 0, .int 0, .int 0, .int 0, .int 0, .long 0, .long 0, .long 0, .long 0, .int th])), (lo, .inr (3, [.int 0, .ref (z 0), .int 0]))] := hD
  have hK : va_K (dC, dI) vwCl [] s := hK
  obtain rfl : 0 = r4 := hw
  refine lv_bipush (v := 100) hx hb dX15_order_137 (by decide) ?_
  refine lv_icmp_ne (tgt := 146) hx hb dX15_order_139 (by decide) (fun _ => ?_) (fun c_ => absurd c_ (by decide +kernel))
  refine lv_iconst (v := 0) hx hb dX15_order_146 (by decide) ?_
  refine va_put (D := (dC, dI)) (ci := 19) (v := .int 0) (ty := .int) (C := RX15) (T := TX15) (N := 28) hx hb hts hiX15 tyX15 tyX15_ok nmX15 hown hK hP hD hS 0 rfl rfl 27 (by decide) (hts (.fieldLink RX15 45 "SquareRigModel" "thrown" "I") (by decide +kernel)) (fun _ h9 => h9) rfl (by decide +kernel) rfl rfl (Nat.le_of_ble_eq_true rfl) dX15_order_147 (fun H locs hP hD hS => ?_)
  have hP : va_P (dC, dI) vwCl [(mo, .inr (19, [.int 0, .int 0, .int 0, .int 0, .int 0, .int 0, .int 0, .ref ti, .ref si, .ref lo, .ref lh, .ref lk, .ref sp, .ref st, .ref pa, .ref br, .ref sg, .int 0, .int 0, .int 0, .int 0, .int 0, .int 0, .long 0, .long 0, .long 0, .long 0, .int 0])), (lo, .inr (3, [.int 0, .ref (z 0), .int 0]))] H := hP
  have hD : va_D A [(mo, .inr (19, [.int 0, .int 0, .int 0, .int 0, .int 0, .int 0, .int 0, .ref ti, .ref si, .ref lo, .ref lh, .ref lk, .ref sp, .ref st, .ref pa, .ref br, .ref sg, .int 0, .int 0, .int 0, .int 0, .int 0, .int 0, .long 0, .long 0, .long 0, .long 0, .int 0])), (lo, .inr (3, [.int 0, .ref (z 0), .int 0]))] := hD
  refine lv_aload_n hx hb dX15_order_150 rfl (lv_at hl 2 rfl) ?_
  refine va_get (D := (dC, dI)) (ci := 19) (v := .int 0) (C := RX15) (T := TX15) (N := 28) hx hb hts hiX15 hown hK hP 0 rfl rfl 27 (by decide) (hts (.fieldLink RX15 45 "SquareRigModel" "thrown" "I") (by decide +kernel)) (fun _ h9 => h9) rfl dX15_order_151 ?_
  refine lv_if_le (tgt := 159) hx hb dX15_order_154 (by decide) (fun _ => ?_) (fun c_ => absurd (by decide +kernel) c_)
  refine lv_aload_n hx hb dX15_order_159 rfl (lv_at hl 2 rfl) ?_
  refine va_get (D := (dC, dI)) (ci := 19) (v := .ref lo) (C := RX15) (T := TX15) (N := 28) hx hb hts hiX15 hown hK hP 0 rfl rfl 9 (by decide) (hts (.fieldLink RX15 19 "SquareRigModel" "orders" "Ljava/util/List;") (by decide +kernel)) (fun _ h9 => h9) rfl dX15_order_160 ?_
  refine va_new (ci := 18) (fs := [.int 0, .int 0, .int 0, .int 0, .int 0, .int 0]) (C := RX14) (T := TX14) (N := 6) hx hb hts hiX14 tyX14 tyX14_ok hown (hts (.classLink RX15 161 RX14) (by decide +kernel)) (hts (.instantiable RX14 6) (by decide +kernel)) (hts (.initialized RX14) (by decide +kernel)) hK hP hD hS hA rfl (fun j hj => by rcases (show j = 0 ∨ j = 1 ∨ j = 2 ∨ j = 3 ∨ j = 4 ∨ j = 5 by omega) with rfl | rfl | rfl | rfl | rfl | rfl <;> rfl) (Nat.le_of_ble_eq_true rfl) (Nat.le_of_ble_eq_true rfl) dX15_order_163 (fun q5 H hP hD hS => ?_)
  have hP : va_P (dC, dI) vwCl [(mo, .inr (19, [.int 0, .int 0, .int 0, .int 0, .int 0, .int 0, .int 0, .ref ti, .ref si, .ref lo, .ref lh, .ref lk, .ref sp, .ref st, .ref pa, .ref br, .ref sg, .int 0, .int 0, .int 0, .int 0, .int 0, .int 0, .long 0, .long 0, .long 0, .long 0, .int 0])), (lo, .inr (3, [.int 0, .ref (z 0), .int 0])), (q5, .inr (18, [.int 0, .int 0, .int 0, .int 0, .int 0, .int 0]))] H := hP
  have hD : va_D A [(mo, .inr (19, [.int 0, .int 0, .int 0, .int 0, .int 0, .int 0, .int 0, .ref ti, .ref si, .ref lo, .ref lh, .ref lk, .ref sp, .ref st, .ref pa, .ref br, .ref sg, .int 0, .int 0, .int 0, .int 0, .int 0, .int 0, .long 0, .long 0, .long 0, .long 0, .int 0])), (lo, .inr (3, [.int 0, .ref (z 0), .int 0])), (q5, .inr (18, [.int 0, .int 0, .int 0, .int 0, .int 0, .int 0]))] := hD
  refine lv_dup hx hb dX15_order_166 rfl ?_
  refine lv_iload_n hx hb dX15_order_167 rfl (lv_at hl 3 rfl) ?_
  refine lv_iload_n hx hb dX15_order_168 rfl (lv_at hl 4 rfl) ?_
  refine lv_iload_n hx hb dX15_order_169 rfl (lv_at hl 5 rfl) ?_
  refine lv_aload_n hx hb dX15_order_170 rfl (lv_at hl 2 rfl) ?_
  refine va_get (D := (dC, dI)) (ci := 19) (v := .int 0) (C := RX15) (T := TX15) (N := 28) hx hb hts hiX15 hown hK hP 0 rfl rfl 17 (by decide) (hts (.fieldLink RX15 163 "SquareRigModel" "minute" "I") (by decide +kernel)) (fun _ h9 => h9) rfl dX15_order_171 ?_
  have hPc := hP.sub (ws' := [(q5, .inr (18, [.int 0, .int 0, .int 0, .int 0, .int 0, .int 0]))]) [2] rfl
  have hDc := hD.sub (ws' := [(q5, .inr (18, [.int 0, .int 0, .int 0, .int 0, .int 0, .int 0]))]) [2] (by decide) rfl
  have hKc := hK.sub (tys' := []) [] rfl
  have hFc := va_free (wc := [(q5, .inr (18, [.int 0, .int 0, .int 0, .int 0, .int 0, .int 0]))]) hD hS hA [2] rfl
  refine va_callv (va_runI (As := [.int 115, .int 7, .int p2, .int 0]) (rest := [.ref q5, .ref lo]) ⟨hx, hb, hml, hown, hts⟩ (k_MOrder_init115 l dC dI z zK zV q5 7 p2 0 H.size) (cwI 4 hts gX15_order_X14_init rfl rfl rfl (hts (.initialized RX14) (by decide +kernel)) (hts (.methodLink RX15 166 yX14_init) (by decide +kernel)) (hts (.instanceMethod yX14_init) (by decide +kernel)) rfl (by decide +kernel) ⟨Nat.le_of_ble_eq_true rfl, Nat.le_of_ble_eq_true rfl⟩) ⟨kP_blind, kP_go hPc hKc hDc hFc hM hS⟩ rfl rfl hl.1 rfl (lv_room (Nat.le_of_ble_eq_true rfl)) dX15_order_174 ⟨Nat.le_of_ble_eq_true rfl, Nat.le_of_ble_eq_true rfl⟩) hS (fun q _ h => hFc q h) hFc (fun u t H1 locs ht hvm hw hB hz1 hk1 hS => ?_)
  obtain ⟨hP, hD, hK⟩ := kJ (wr := [(mo, .inr (19, [.int 0, .int 0, .int 0, .int 0, .int 0, .int 0, .int 0, .ref ti, .ref si, .ref lo, .ref lh, .ref lk, .ref sp, .ref st, .ref pa, .ref br, .ref sg, .int 0, .int 0, .int 0, .int 0, .int 0, .int 0, .long 0, .long 0, .long 0, .long 0, .int 0])), (lo, .inr (3, [.int 0, .ref (z 0), .int 0]))]) (w1 := [(q5, .inr (18, [.int 115, .int 7, .int p2, .int 0, .int 119, .int 0]))]) (t1 := []) hP hD hK [2] [0, 1] rfl rfl (by decide) (by decide) hk1 hFc ht hvm hB
  generalize H1 = H at hP hS ⊢
  have hP : va_P (dC, dI) vwCl [(mo, .inr (19, [.int 0, .int 0, .int 0, .int 0, .int 0, .int 0, .int 0, .ref ti, .ref si, .ref lo, .ref lh, .ref lk, .ref sp, .ref st, .ref pa, .ref br, .ref sg, .int 0, .int 0, .int 0, .int 0, .int 0, .int 0, .long 0, .long 0, .long 0, .long 0, .int 0])), (lo, .inr (3, [.int 0, .ref (z 0), .int 0])), (q5, .inr (18, [.int 115, .int 7, .int p2, .int 0, .int 119, .int 0]))] H := hP
  have hD : va_D A [(mo, .inr (19, [.int 0, .int 0, .int 0, .int 0, .int 0, .int 0, .int 0, .ref ti, .ref si, .ref lo, .ref lh, .ref lk, .ref sp, .ref st, .ref pa, .ref br, .ref sg, .int 0, .int 0, .int 0, .int 0, .int 0, .int 0, .long 0, .long 0, .long 0, .long 0, .int 0])), (lo, .inr (3, [.int 0, .ref (z 0), .int 0])), (q5, .inr (18, [.int 115, .int 7, .int p2, .int 0, .int 119, .int 0]))] := hD
  have hK : va_K (dC, dI) vwCl [] s := hK
  clear hw
  have hPc := hP.sub (ws' := [(lo, .inr (3, [.int 0, .ref (z 0), .int 0])), (q5, .inr (18, [.int 115, .int 7, .int p2, .int 0, .int 119, .int 0]))]) [1, 2] rfl
  have hDc := hD.sub (ws' := [(lo, .inr (3, [.int 0, .ref (z 0), .int 0])), (q5, .inr (18, [.int 115, .int 7, .int p2, .int 0, .int 119, .int 0]))]) [1, 2] (by decide) rfl
  have hKc := hK.sub (tys' := []) [] rfl
  have hFc := va_free (wc := [(lo, .inr (3, [.int 0, .ref (z 0), .int 0])), (q5, .inr (18, [.int 115, .int 7, .int p2, .int 0, .int 119, .int 0]))]) hD hS hA [1, 2] rfl
  refine va_callFi (va_runF (hK.1 3 _ rfl).2 (As := [.ref q5]) (rest := []) ⟨hx, hb, hml, hown, hts⟩ (k_add1_oo l dC dI z zK zV lo 0 q5 115 7 p2 0 119 0 H.size) (va_cwF 1 hts gX15_order_Jx4a65c_add_9ea2d_f169Jx4a65c rfl rfl rfl hM.2.2.2.2.2.2.2.2.2.2.1.2.2.2.2 (by decide +kernel) ⟨Nat.le_of_ble_eq_true rfl, Nat.le_of_ble_eq_true rfl⟩) ⟨kP_blind, va_recv hKc hPc (ci := 3) (q0 := 0) rfl rfl, kP_go hPc hKc hDc hFc hM hS⟩ rfl rfl hl.1 rfl (lv_room (Nat.le_of_ble_eq_true rfl)) dX15_order_177 ⟨Nat.le_of_ble_eq_true rfl, Nat.le_of_ble_eq_true rfl⟩) hS (fun q _ h => hFc q h) hFc (fun r6 u t H1 locs ht hvm hw hB hz1 hk1 hS => ?_)
  obtain ⟨q7, cA8, hB⟩ := hB
  obtain ⟨hP, hD, hK⟩ := kJ (wr := [(mo, .inr (19, [.int 0, .int 0, .int 0, .int 0, .int 0, .int 0, .int 0, .ref ti, .ref si, .ref lo, .ref lh, .ref lk, .ref sp, .ref st, .ref pa, .ref br, .ref sg, .int 0, .int 0, .int 0, .int 0, .int 0, .int 0, .long 0, .long 0, .long 0, .long 0, .int 0]))]) (w1 := [(q5, .inr (18, [.int 115, .int 7, .int p2, .int 0, .int 119, .int 0])), (lo, .inr (3, [.int (0 + 1), .ref q7, .int 1])), (q7, .inl (cA8, 10, .inr (.inr (.inr (.inr (va_up (fun _ => none) 0 (some q5)))))))]) (t1 := [(cA8, .object "java/lang/Object")]) hP hD hK [1, 2] [0] rfl rfl (by decide) (by decide) hk1 hFc ht hvm hB
  generalize H1 = H at hP hS ⊢
  have hP : va_P (dC, dI) vwCl [(mo, .inr (19, [.int 0, .int 0, .int 0, .int 0, .int 0, .int 0, .int 0, .ref ti, .ref si, .ref lo, .ref lh, .ref lk, .ref sp, .ref st, .ref pa, .ref br, .ref sg, .int 0, .int 0, .int 0, .int 0, .int 0, .int 0, .long 0, .long 0, .long 0, .long 0, .int 0])), (q5, .inr (18, [.int 115, .int 7, .int p2, .int 0, .int 119, .int 0])), (lo, .inr (3, [.int (0 + 1), .ref q7, .int 1])), (q7, .inl (cA8, 10, .inr (.inr (.inr (.inr (va_up (fun _ => none) 0 (some q5)))))))] H := hP
  have hD : va_D A [(mo, .inr (19, [.int 0, .int 0, .int 0, .int 0, .int 0, .int 0, .int 0, .ref ti, .ref si, .ref lo, .ref lh, .ref lk, .ref sp, .ref st, .ref pa, .ref br, .ref sg, .int 0, .int 0, .int 0, .int 0, .int 0, .int 0, .long 0, .long 0, .long 0, .long 0, .int 0])), (q5, .inr (18, [.int 115, .int 7, .int p2, .int 0, .int 119, .int 0])), (lo, .inr (3, [.int (0 + 1), .ref q7, .int 1])), (q7, .inl (cA8, 10, .inr (.inr (.inr (.inr (va_up (fun _ => none) 0 (some q5)))))))] := hD
  have hK : va_K (dC, dI) vwCl [(cA8, .object "java/lang/Object")] s := hK
  obtain rfl : 1 = r6 := hw
  refine lv_pop hx hb dX15_order_182 rfl ?_
  refine lv_aload_n hx hb dX15_order_183 rfl (lv_at hl 2 rfl) ?_
  refine va_get (D := (dC, dI)) (ci := 19) (v := .ref lo) (C := RX15) (T := TX15) (N := 28) hx hb hts hiX15 hown hK hP 0 rfl rfl 9 (by decide) (hts (.fieldLink RX15 19 "SquareRigModel" "orders" "Ljava/util/List;") (by decide +kernel)) (fun _ h9 => h9) rfl dX15_order_184 ?_
  have hPc := hP.sub (ws' := [(lo, .inr (3, [.int (0 + 1), .ref q7, .int 1]))]) [2] rfl
  have hDc := hD.sub (ws' := [(lo, .inr (3, [.int (0 + 1), .ref q7, .int 1]))]) [2] (by decide) rfl
  have hKc := hK.sub (tys' := []) [] rfl
  have hFc := va_free (wc := [(lo, .inr (3, [.int (0 + 1), .ref q7, .int 1]))]) hD hS hA [2] rfl
  refine va_callFi (va_runF (hK.1 3 _ rfl).2 (As := []) (rest := []) ⟨hx, hb, hml, hown, hts⟩ (k_size1 l dC dI z zK zV lo (0 + 1) q7 H.size) (va_cwF 0 hts gX15_order_Jx4a65c_size_8abf5_f156Jx4a65c rfl rfl rfl hM.2.2.2.2.2.2.2.2.2.2.1.2.2.1 (by decide +kernel) ⟨Nat.le_of_ble_eq_true rfl, Nat.le_of_ble_eq_true rfl⟩) ⟨kP_blind, va_recv hKc hPc (ci := 3) (q0 := 0) rfl rfl, kP_go hPc hKc hDc hFc hM hS⟩ rfl rfl hl.1 rfl (lv_room (Nat.le_of_ble_eq_true rfl)) dX15_order_187 ⟨Nat.le_of_ble_eq_true rfl, Nat.le_of_ble_eq_true rfl⟩) hS (fun q _ h => hFc q h) hFc (fun r9 u t H1 locs ht hvm hw hB hz1 hk1 hS => ?_)
  obtain ⟨hP, hD, hK⟩ := kJ (wr := [(mo, .inr (19, [.int 0, .int 0, .int 0, .int 0, .int 0, .int 0, .int 0, .ref ti, .ref si, .ref lo, .ref lh, .ref lk, .ref sp, .ref st, .ref pa, .ref br, .ref sg, .int 0, .int 0, .int 0, .int 0, .int 0, .int 0, .long 0, .long 0, .long 0, .long 0, .int 0])), (q5, .inr (18, [.int 115, .int 7, .int p2, .int 0, .int 119, .int 0])), (q7, .inl (cA8, 10, .inr (.inr (.inr (.inr (va_up (fun _ => none) 0 (some q5)))))))]) (w1 := [(lo, .inr (3, [.int (0 + 1), .ref q7, .int 1]))]) (t1 := []) hP hD hK [2] [0, 1, 3] rfl rfl (by decide) (by decide) hk1 hFc ht hvm hB
  generalize H1 = H at hP hS ⊢
  have hP : va_P (dC, dI) vwCl [(mo, .inr (19, [.int 0, .int 0, .int 0, .int 0, .int 0, .int 0, .int 0, .ref ti, .ref si, .ref lo, .ref lh, .ref lk, .ref sp, .ref st, .ref pa, .ref br, .ref sg, .int 0, .int 0, .int 0, .int 0, .int 0, .int 0, .long 0, .long 0, .long 0, .long 0, .int 0])), (q5, .inr (18, [.int 115, .int 7, .int p2, .int 0, .int 119, .int 0])), (q7, .inl (cA8, 10, .inr (.inr (.inr (.inr (va_up (fun _ => none) 0 (some q5))))))), (lo, .inr (3, [.int (0 + 1), .ref q7, .int 1]))] H := hP
  have hD : va_D A [(mo, .inr (19, [.int 0, .int 0, .int 0, .int 0, .int 0, .int 0, .int 0, .ref ti, .ref si, .ref lo, .ref lh, .ref lk, .ref sp, .ref st, .ref pa, .ref br, .ref sg, .int 0, .int 0, .int 0, .int 0, .int 0, .int 0, .long 0, .long 0, .long 0, .long 0, .int 0])), (q5, .inr (18, [.int 115, .int 7, .int p2, .int 0, .int 119, .int 0])), (q7, .inl (cA8, 10, .inr (.inr (.inr (.inr (va_up (fun _ => none) 0 (some q5))))))), (lo, .inr (3, [.int (0 + 1), .ref q7, .int 1]))] := hD
  have hK : va_K (dC, dI) vwCl [(cA8, .object "java/lang/Object")] s := hK
  obtain rfl : 1 = r9 := hw
  refine lv_iconst (v := 1) hx hb dX15_order_192 (by decide) ?_
  refine lv_isub hx hb dX15_order_193 ?_
  refine kc_i (y := 0) (by decide +kernel) ?_
  refine W.widen (k := 2) (n := 16) (Nat.le_of_ble_eq_true rfl) (Nat.le_of_ble_eq_true rfl) ?_
  exact W.iret (v := 0) hx hb hr (fun t ht hW => ⟨⟨0, (), rfl, rfl, kB_end (w9 := [(mo, .inr (19, [.int 0, .int 0, .int 0, .int 0, .int 0, .int 0, .int 0, .ref ti, .ref si, .ref lo, .ref lh, .ref lk, .ref sp, .ref st, .ref pa, .ref br, .ref sg, .int 0, .int 0, .int 0, .int 0, .int 0, .int 0, .long 0, .long 0, .long 0, .long 0, .int 0]))]) (t9 := []) hP hK hD [0] [] rfl (by decide) rfl rfl t ht hW⟩, hS.F ht⟩) hS.2.2 dX15_order_194
abbrev wd_k_m_order_s8 (z : Nat → Nat) (p2 : Int32) (mo : Nat) (ti : Nat) (si : Nat) (lo : Nat) (lh : Nat) (lk : Nat) (sp : Nat) (st : Nat) (pa : Nat) (br : Nat) (sg : Nat) (th : Int32) : va_W := [(mo, .inr (19, [.int 0, .int 0, .int 0, .int 0, .int 0, .int 0, .int 0, .ref ti, .ref si, .ref lo, .ref lh, .ref lk, .ref sp, .ref st, .ref pa, .ref br, .ref sg, .int 0, .int 0, .int 0, .int 0, .int 0, .int 0, .long 0, .long 0, .long 0, .long 0, .int th])), (lo, .inr (3, [.int 0, .ref (z 0), .int 0]))]
set_option maxHeartbeats 4000000 in
set_option maxRecDepth 100000 in
theorem k_m_order_s8 (l : Launch) (dC : Nat → ClassId) (dI : Nat → Nat → Nat) (z zK zV : Nat → Nat) (p2 : Int32) (mo : Nat) (ti : Nat) (si : Nat) (lo : Nat) (lh : Nat) (lk : Nat) (sp : Nat) (st : Nat) (pa : Nat) (br : Nat) (sg : Nat) (th : Int32) (sz : Nat) (hg0 : (0 : Int32) ≤ p2 ∧ p2 ≤ 2) : Met l yX15_order wsX15_order ({ frames := 5, cells := 2, slots := 16, locals := 101 }) (kP dC dI z zK zV [.ref mo, .int 115, .int 8, .int p2] sz (wd_k_m_order_s8 z p2 mo ti si lo lh lk sp st pa br sg th) []) (va_Qi (fun (r : Int32) (_ : Unit) => 0 = r) (fun _ t => kB (dC, dI) (va_A (wd_k_m_order_s8 z p2 mo ti si lo lh lk sp st pa br sg th) sz) [(mo, .inr (19, [.int 0, .int 0, .int 0, .int 0, .int 0, .int 0, .int 0, .ref ti, .ref si, .ref lo, .ref lh, .ref lk, .ref sp, .ref st, .ref pa, .ref br, .ref sg, .int 0, .int 0, .int 0, .int 0, .int 0, .int 0, .long 0, .long 0, .long 0, .long 0, .int 0]))] [] t) (va_A (wd_k_m_order_s8 z p2 mo ti si lo lh lk sp st pa br sg th) sz)) 2 16 (va_A (wd_k_m_order_s8 z p2 mo ti si lo lh lk sp st pa br sg th) sz) := by
  refine Met.ofW (cc := cX15_order) (maxL := 6) (ret := (some .int)) (by decide) rfl ?_
  intro p e s m args below meth c s₁ B hml hv
  obtain ⟨rfl, hsz, hP, hK, hD0, hM⟩ := hv
  have hx := B.exec
  have hb := B.bytes
  have hr := B.returns
  have hts := atoms_spec (ws := wsX15_order) B.pre
  have hown : s.vm.findClass RX15 = some m.cls := findClass_of_methodNamed B.named
  have hlocks := B.notSynchronized
  have hiX15 : ∀ w ∈ u_ws RX15 TX15 28, w ∈ wsX15_order := by decide +kernel
  have hiX14 : ∀ w ∈ u_ws RX14 TX14 6, w ∈ wsX15_order := by decide +kernel
  subst hsz
  have hD := hD0.self (sz := s.heap.size)
  generalize hAe : va_A (wd_k_m_order_s8 z p2 mo ti si lo lh lk sp st pa br sg th) s.heap.size = A at hD hM ⊢
  have hA : ∀ q : Nat, s.heap.size ≤ q → A q := fun q h => by rw [← hAe]; exact Or.inr h
  have hS : va_S A s.heap s.heap [] := va_S.rf
  have hP : va_P (dC, dI) vwCl [(mo, .inr (19, [.int 0, .int 0, .int 0, .int 0, .int 0, .int 0, .int 0, .ref ti, .ref si, .ref lo, .ref lh, .ref lk, .ref sp, .ref st, .ref pa, .ref br, .ref sg, .int 0, .int 0, .int 0, .int 0, .int 0, .int 0, .long 0, .long 0, .long 0, .long 0, .int th])), (lo, .inr (3, [.int 0, .ref (z 0), .int 0]))] s.heap := hP
  have hD : va_D A [(mo, .inr (19, [.int 0, .int 0, .int 0, .int 0, .int 0, .int 0, .int 0, .ref ti, .ref si, .ref lo, .ref lh, .ref lk, .ref sp, .ref st, .ref pa, .ref br, .ref sg, .int 0, .int 0, .int 0, .int 0, .int 0, .int 0, .long 0, .long 0, .long 0, .long 0, .int th])), (lo, .inr (3, [.int 0, .ref (z 0), .int 0]))] := hD
  have hl := lv_entry ([.ref mo, .int 115, .int 8, .int p2]) (n := 6) (Nat.le_of_ble_eq_true rfl)
  rw [lg_entry_eq]
  generalize (lg_sl ([.ref mo, .int 115, .int 8, .int p2]) ++ List.replicate (6 - (lg_sl ([.ref mo, .int 115, .int 8, .int p2])).length) Slot.unset).toArray = ls at hl ⊢
  have hl : lv_has ls 6 [(0, .ref mo), (1, .int 115), (2, .int 8), (3, .int p2)] := hl
  refine lv_iload_n hx hb dX15_order_0 rfl (lv_at hl 1 rfl) ?_
  refine lv_bipush (v := 115) hx hb dX15_order_1 (by decide) ?_
  refine lv_icmp_eq (tgt := 12) hx hb dX15_order_3 (by decide) (fun _ => ?_) (fun c_ => absurd (by decide +kernel) c_)
  refine lv_iconst (v := 1) hx hb dX15_order_12 (by decide) ?_
  refine lv_goto (tgt := 17) hx hb dX15_order_13 (by decide) ?_
  refine lv_istore (lv' := [(4, .int 1), (0, .ref mo), (1, .int 115), (2, .int 8), (3, .int p2)]) hx hb dX15_order_17 hl (by decide) rfl (fun ls hl => ?_)
  refine va_ldcS hx hb hown (hM.2.2.1 0 _ rfl) dX15_order_19 ?_
  refine lv_iload_n hx hb dX15_order_21 rfl (lv_at hl 2 rfl) ?_
  have hPc := hP.sub (ws' := []) [] rfl
  have hDc := hD.sub (ws' := []) [] (by decide) rfl
  have hKc := hK.sub (tys' := []) [] rfl
  have hFc := va_free (wc := []) hD hS hA [] rfl
  refine va_calli (va_runV (As := [.int 115]) (rest := []) ⟨hx, hb, hml, hown, hts⟩ (k_ix3_115 l dC dI z zK zV  s.heap.size) (cwV 1 hts gX15_order_J0_indexOf_0f7a4 rfl rfl rfl (by decide +kernel) ⟨Nat.le_of_ble_eq_true rfl, Nat.le_of_ble_eq_true rfl⟩) ⟨kP_blind, vk_recv (i := 0) hM.2.2.2.1 (by decide) hS, kP_go hPc hKc hDc hFc hM hS⟩ rfl rfl hl.1 rfl (lv_room (Nat.le_of_ble_eq_true rfl)) dX15_order_22 ⟨Nat.le_of_ble_eq_true rfl, Nat.le_of_ble_eq_true rfl⟩) hS (fun q _ h => hFc q h) hFc (fun r1 u t H1 locs ht hvm hw hB hz1 hk1 hS => ?_)
  obtain ⟨hP, hD, hK⟩ := kJ (wr := [(mo, .inr (19, [.int 0, .int 0, .int 0, .int 0, .int 0, .int 0, .int 0, .ref ti, .ref si, .ref lo, .ref lh, .ref lk, .ref sp, .ref st, .ref pa, .ref br, .ref sg, .int 0, .int 0, .int 0, .int 0, .int 0, .int 0, .long 0, .long 0, .long 0, .long 0, .int th])), (lo, .inr (3, [.int 0, .ref (z 0), .int 0]))]) (w1 := []) (t1 := []) hP hD hK [] [0, 1] rfl rfl (by decide) (by decide) hk1 hFc ht hvm hB
  generalize H1 = H at hP hS ⊢
  have hP : va_P (dC, dI) vwCl [(mo, .inr (19, [.int 0, .int 0, .int 0, .int 0, .int 0, .int 0, .int 0, .ref ti, .ref si, .ref lo, .ref lh, .ref lk, .ref sp, .ref st, .ref pa, .ref br, .ref sg, .int 0, .int 0, .int 0, .int 0, .int 0, .int 0, .long 0, .long 0, .long 0, .long 0, .int th])), (lo, .inr (3, [.int 0, .ref (z 0), .int 0]))] H := hP
  have hD : va_D A [(mo, .inr (19, [.int 0, .int 0, .int 0, .int 0, .int 0, .int 0, .int 0, .ref ti, .ref si, .ref lo, .ref lh, .ref lk, .ref sp, .ref st, .ref pa, .ref br, .ref sg, .int 0, .int 0, .int 0, .int 0, .int 0, .int 0, .long 0, .long 0, .long 0, .long 0, .int th])), (lo, .inr (3, [.int 0, .ref (z 0), .int 0]))] := hD
  have hK : va_K (dC, dI) vwCl [] s := hK
  obtain rfl : 0 = r1 := hw
  refine lv_if_lt (tgt := 55) hx hb dX15_order_25 (by decide) (fun c_ => absurd c_ (by decide +kernel)) (fun _ => ?_)
  refine lv_iload_n hx hb dX15_order_28 rfl (lv_at hl 3 rfl) ?_
  refine lv_i2l (v := 8) hx hb dX15_order_29 (by decide +kernel) ?_
  refine lv_lconst (v := 0) hx hb dX15_order_30 (by decide) ?_
  refine lv_iload hx hb dX15_order_31 (lv_at hl 0 rfl) ?_
  refine lv_if_eq (tgt := 42) hx hb dX15_order_33 (by decide) (fun c_ => absurd c_ (by decide +kernel)) (fun _ => ?_)
  refine lv_ldc2 (v := 8) hx hb hown (hts (.constantLong RX15 148 8) (by decide +kernel)) dX15_order_36 ?_
  refine lv_goto (tgt := 45) hx hb dX15_order_39 (by decide) ?_
  have hPc := hP.sub (ws' := []) [] rfl
  have hDc := hD.sub (ws' := []) [] (by decide) rfl
  have hKc := hK.sub (tys' := []) [] rfl
  have hFc := va_free (wc := []) hD hS hA [] rfl
  refine va_calli (va_runS (As := [.long 8, .long 0, .long 8]) (rest := []) ⟨hx, hb, hml, hown, hts⟩ (k_in l dC dI z zK zV 8 0 8 H.size) (va_cwS 3 hts gX15_order_X15_in rfl rfl rfl (by decide +kernel) ⟨Nat.le_of_ble_eq_true rfl, Nat.le_of_ble_eq_true rfl⟩) ⟨kP_blind, kP_go hPc hKc hDc hFc hM hS⟩ rfl rfl hl.1 rfl (lv_room (Nat.le_of_ble_eq_true rfl)) dX15_order_45 ⟨Nat.le_of_ble_eq_true rfl, Nat.le_of_ble_eq_true rfl⟩) hS (fun q _ h => hFc q h) hFc (fun r2 u t H1 locs ht hvm hw hB hz1 hk1 hS => ?_)
  obtain ⟨hP, hD, hK⟩ := kJ (wr := [(mo, .inr (19, [.int 0, .int 0, .int 0, .int 0, .int 0, .int 0, .int 0, .ref ti, .ref si, .ref lo, .ref lh, .ref lk, .ref sp, .ref st, .ref pa, .ref br, .ref sg, .int 0, .int 0, .int 0, .int 0, .int 0, .int 0, .long 0, .long 0, .long 0, .long 0, .int th])), (lo, .inr (3, [.int 0, .ref (z 0), .int 0]))]) (w1 := []) (t1 := []) hP hD hK [] [0, 1] rfl rfl (by decide) (by decide) hk1 hFc ht hvm hB
  generalize H1 = H at hP hS ⊢
  have hP : va_P (dC, dI) vwCl [(mo, .inr (19, [.int 0, .int 0, .int 0, .int 0, .int 0, .int 0, .int 0, .ref ti, .ref si, .ref lo, .ref lh, .ref lk, .ref sp, .ref st, .ref pa, .ref br, .ref sg, .int 0, .int 0, .int 0, .int 0, .int 0, .int 0, .long 0, .long 0, .long 0, .long 0, .int th])), (lo, .inr (3, [.int 0, .ref (z 0), .int 0]))] H := hP
  have hD : va_D A [(mo, .inr (19, [.int 0, .int 0, .int 0, .int 0, .int 0, .int 0, .int 0, .ref ti, .ref si, .ref lo, .ref lh, .ref lk, .ref sp, .ref st, .ref pa, .ref br, .ref sg, .int 0, .int 0, .int 0, .int 0, .int 0, .int 0, .long 0, .long 0, .long 0, .long 0, .int th])), (lo, .inr (3, [.int 0, .ref (z 0), .int 0]))] := hD
  have hK : va_K (dC, dI) vwCl [] s := hK
  obtain rfl : (if 0 ≤ 8 ∧ 8 ≤ 8 then (1 : Int32) else 0) = r2 := hw
  refine kc_i (y := 1) (by decide +kernel) ?_
  refine lv_if_eq (tgt := 55) hx hb dX15_order_48 (by decide) (fun c_ => absurd c_ (by decide +kernel)) (fun _ => ?_)
  refine lv_iconst (v := 1) hx hb dX15_order_51 (by decide) ?_
  refine lv_goto (tgt := 56) hx hb dX15_order_52 (by decide) ?_
  refine lv_istore (lv' := [(5, .int 1), (4, .int 1), (0, .ref mo), (1, .int 115), (2, .int 8), (3, .int p2)]) hx hb dX15_order_56 hl (by decide) rfl (fun ls hl => ?_)
  refine lv_iload hx hb dX15_order_58 (lv_at hl 0 rfl) ?_
  refine lv_if_eq (tgt := 115) hx hb dX15_order_60 (by decide) (fun c_ => absurd c_ (by decide +kernel)) (fun _ => ?_)
  refine lv_iload_n hx hb dX15_order_63 rfl (lv_at hl 3 rfl) ?_
  refine lv_bipush (v := 115) hx hb dX15_order_64 (by decide) ?_
  refine lv_icmp_ne (tgt := 84) hx hb dX15_order_66 (by decide) (fun c_ => absurd (by decide +kernel) c_) (fun _ => ?_)
  refine lv_iload_n hx hb dX15_order_69 rfl (lv_at hl 5 rfl) ?_
  refine lv_i2l (v := p2.toInt64) hx hb dX15_order_70 rfl ?_
  refine lv_lconst (v := 0) hx hb dX15_order_71 (by decide) ?_
  refine lv_ldc2 (v := 2) hx hb hown (hts (.constantLong RX15 150 2) (by decide +kernel)) dX15_order_72 ?_
  have hPc := hP.sub (ws' := []) [] rfl
  have hDc := hD.sub (ws' := []) [] (by decide) rfl
  have hKc := hK.sub (tys' := []) [] rfl
  have hFc := va_free (wc := []) hD hS hA [] rfl
  refine va_calli (va_runS (As := [.long p2.toInt64, .long 0, .long 2]) (rest := []) ⟨hx, hb, hml, hown, hts⟩ (k_in l dC dI z zK zV p2.toInt64 0 2 H.size) (va_cwS 3 hts gX15_order_X15_in rfl rfl rfl (by decide +kernel) ⟨Nat.le_of_ble_eq_true rfl, Nat.le_of_ble_eq_true rfl⟩) ⟨kP_blind, kP_go hPc hKc hDc hFc hM hS⟩ rfl rfl hl.1 rfl (lv_room (Nat.le_of_ble_eq_true rfl)) dX15_order_75 ⟨Nat.le_of_ble_eq_true rfl, Nat.le_of_ble_eq_true rfl⟩) hS (fun q _ h => hFc q h) hFc (fun r3 u t H1 locs ht hvm hw hB hz1 hk1 hS => ?_)
  obtain ⟨hP, hD, hK⟩ := kJ (wr := [(mo, .inr (19, [.int 0, .int 0, .int 0, .int 0, .int 0, .int 0, .int 0, .ref ti, .ref si, .ref lo, .ref lh, .ref lk, .ref sp, .ref st, .ref pa, .ref br, .ref sg, .int 0, .int 0, .int 0, .int 0, .int 0, .int 0, .long 0, .long 0, .long 0, .long 0, .int th])), (lo, .inr (3, [.int 0, .ref (z 0), .int 0]))]) (w1 := []) (t1 := []) hP hD hK [] [0, 1] rfl rfl (by decide) (by decide) hk1 hFc ht hvm hB
  generalize H1 = H at hP hS ⊢
  have hP : va_P (dC, dI) vwCl [(mo, .inr (19, [.int 0, .int 0, .int 0, .int 0, .int 0, .int 0, .int 0, .ref ti, .ref si, .ref lo, .ref lh, .ref lk, .ref sp, .ref st, .ref pa, .ref br, .ref sg, .int 0, .int 0, .int 0, .int 0, .int 0, .int 0, .long 0, .long 0, .long 0, .long 0, .int th])), (lo, .inr (3, [.int 0, .ref (z 0), .int 0]))] H := hP
  have hD : va_D A [(mo, .inr (19, [.int 0, .int 0, .int 0, .int 0, .int 0, .int 0, .int 0, .ref ti, .ref si, .ref lo, .ref lh, .ref lk, .ref sp, .ref st, .ref pa, .ref br, .ref sg, .int 0, .int 0, .int 0, .int 0, .int 0, .int 0, .long 0, .long 0, .long 0, .long 0, .int th])), (lo, .inr (3, [.int 0, .ref (z 0), .int 0]))] := hD
  have hK : va_K (dC, dI) vwCl [] s := hK
  obtain rfl : (if 0 ≤ (p2.toInt64) ∧ (p2.toInt64) ≤ 2 then (1 : Int32) else 0) = r3 := hw
  refine kc_i (y := (if 0 ≤ p2 ∧ p2 ≤ 2 then (1 : Int32) else 0)) (k_inP (a := 0) (b := 2) (by decide +kernel) (by decide +kernel)) ?_
  refine lv_if_eq (tgt := 115) hx hb dX15_order_78 (by decide) (fun c_ => absurd c_ (k_ifp hg0)) (fun _ => ?_)
  refine lv_goto (tgt := 111) hx hb dX15_order_81 (by decide) ?_
  refine lv_iconst (v := 1) hx hb dX15_order_111 (by decide) ?_
  refine lv_goto (tgt := 116) hx hb dX15_order_112 (by decide) ?_
  refine lv_istore (lv' := [(5, .int 1), (4, .int 1), (0, .ref mo), (1, .int 115), (2, .int 8), (3, .int p2)]) hx hb dX15_order_116 hl (by decide) rfl (fun ls hl => ?_)
  refine lv_aload_n hx hb dX15_order_118 rfl (lv_at hl 2 rfl) ?_
  refine lv_iload hx hb dX15_order_119 (lv_at hl 0 rfl) ?_
  refine lv_if_ne (tgt := 128) hx hb dX15_order_121 (by decide) (fun _ => ?_) (fun c_ => absurd c_ (by decide +kernel))
  refine lv_aload_n hx hb dX15_order_128 rfl (lv_at hl 2 rfl) ?_
  refine va_get (D := (dC, dI)) (ci := 19) (v := .ref lo) (C := RX15) (T := TX15) (N := 28) hx hb hts hiX15 hown hK hP 0 rfl rfl 9 (by decide) (hts (.fieldLink RX15 19 "SquareRigModel" "orders" "Ljava/util/List;") (by decide +kernel)) (fun _ h9 => h9) rfl dX15_order_129 ?_
  have hPc := hP.sub (ws' := [(lo, .inr (3, [.int 0, .ref (z 0), .int 0]))]) [1] rfl
  have hDc := hD.sub (ws' := [(lo, .inr (3, [.int 0, .ref (z 0), .int 0]))]) [1] (by decide) rfl
  have hKc := hK.sub (tys' := []) [] rfl
  have hFc := va_free (wc := [(lo, .inr (3, [.int 0, .ref (z 0), .int 0]))]) hD hS hA [1] rfl
  refine va_callFi (va_runF (hK.1 3 _ rfl).2 (As := []) (rest := [.ref mo]) ⟨hx, hb, hml, hown, hts⟩ (k_size0 l dC dI z zK zV lo H.size) (va_cwF 0 hts gX15_order_Jx4a65c_size_8abf5_f156Jx4a65c rfl rfl rfl hM.2.2.2.2.2.2.2.2.2.2.1.2.2.1 (by decide +kernel) ⟨Nat.le_of_ble_eq_true rfl, Nat.le_of_ble_eq_true rfl⟩) ⟨kP_blind, va_recv hKc hPc (ci := 3) (q0 := 0) rfl rfl, kP_go hPc hKc hDc hFc hM hS⟩ rfl rfl hl.1 rfl (lv_room (Nat.le_of_ble_eq_true rfl)) dX15_order_132 ⟨Nat.le_of_ble_eq_true rfl, Nat.le_of_ble_eq_true rfl⟩) hS (fun q _ h => hFc q h) hFc (fun r4 u t H1 locs ht hvm hw hB hz1 hk1 hS => ?_)
  obtain ⟨hP, hD, hK⟩ := kJ (wr := [(mo, .inr (19, [.int 0, .int 0, .int 0, .int 0, .int 0, .int 0, .int 0, .ref ti, .ref si, .ref lo, .ref lh, .ref lk, .ref sp, .ref st, .ref pa, .ref br, .ref sg, .int 0, .int 0, .int 0, .int 0, .int 0, .int 0, .long 0, .long 0, .long 0, .long 0, .int th]))]) (w1 := [(lo, .inr (3, [.int 0, .ref (z 0), .int 0]))]) (t1 := []) hP hD hK [1] [0] rfl rfl (by decide) (by decide) hk1 hFc ht hvm hB
  generalize H1 = H at hP hS ⊢
  have hP : va_P (dC, dI) vwCl [(mo, .inr (19, [.int 0, .int 0, .int 0, .int 0, .int 0, .int 0, .int 0, .ref ti, .ref si, .ref lo, .ref lh, .ref lk, .ref sp, .ref st, .ref pa, .ref br, .ref sg, .int 0, .int 0, .int 0, .int 0, .int 0, .int 0, .long 0, .long 0, .long 0, .long 0, .int th])), (lo, .inr (3, [.int 0, .ref (z 0), .int 0]))] H := hP
  have hD : va_D A [(mo, .inr (19, [.int 0, .int 0, .int 0, .int 0, .int 0, .int 0, .int 0, .ref ti, .ref si, .ref lo, .ref lh, .ref lk, .ref sp, .ref st, .ref pa, .ref br, .ref sg, .int 0, .int 0, .int 0, .int 0, .int 0, .int 0, .long 0, .long 0, .long 0, .long 0, .int th])), (lo, .inr (3, [.int 0, .ref (z 0), .int 0]))] := hD
  have hK : va_K (dC, dI) vwCl [] s := hK
  obtain rfl : 0 = r4 := hw
  refine lv_bipush (v := 100) hx hb dX15_order_137 (by decide) ?_
  refine lv_icmp_ne (tgt := 146) hx hb dX15_order_139 (by decide) (fun _ => ?_) (fun c_ => absurd c_ (by decide +kernel))
  refine lv_iconst (v := 0) hx hb dX15_order_146 (by decide) ?_
  refine va_put (D := (dC, dI)) (ci := 19) (v := .int 0) (ty := .int) (C := RX15) (T := TX15) (N := 28) hx hb hts hiX15 tyX15 tyX15_ok nmX15 hown hK hP hD hS 0 rfl rfl 27 (by decide) (hts (.fieldLink RX15 45 "SquareRigModel" "thrown" "I") (by decide +kernel)) (fun _ h9 => h9) rfl (by decide +kernel) rfl rfl (Nat.le_of_ble_eq_true rfl) dX15_order_147 (fun H locs hP hD hS => ?_)
  have hP : va_P (dC, dI) vwCl [(mo, .inr (19, [.int 0, .int 0, .int 0, .int 0, .int 0, .int 0, .int 0, .ref ti, .ref si, .ref lo, .ref lh, .ref lk, .ref sp, .ref st, .ref pa, .ref br, .ref sg, .int 0, .int 0, .int 0, .int 0, .int 0, .int 0, .long 0, .long 0, .long 0, .long 0, .int 0])), (lo, .inr (3, [.int 0, .ref (z 0), .int 0]))] H := hP
  have hD : va_D A [(mo, .inr (19, [.int 0, .int 0, .int 0, .int 0, .int 0, .int 0, .int 0, .ref ti, .ref si, .ref lo, .ref lh, .ref lk, .ref sp, .ref st, .ref pa, .ref br, .ref sg, .int 0, .int 0, .int 0, .int 0, .int 0, .int 0, .long 0, .long 0, .long 0, .long 0, .int 0])), (lo, .inr (3, [.int 0, .ref (z 0), .int 0]))] := hD
  refine lv_aload_n hx hb dX15_order_150 rfl (lv_at hl 2 rfl) ?_
  refine va_get (D := (dC, dI)) (ci := 19) (v := .int 0) (C := RX15) (T := TX15) (N := 28) hx hb hts hiX15 hown hK hP 0 rfl rfl 27 (by decide) (hts (.fieldLink RX15 45 "SquareRigModel" "thrown" "I") (by decide +kernel)) (fun _ h9 => h9) rfl dX15_order_151 ?_
  refine lv_if_le (tgt := 159) hx hb dX15_order_154 (by decide) (fun _ => ?_) (fun c_ => absurd (by decide +kernel) c_)
  refine lv_aload_n hx hb dX15_order_159 rfl (lv_at hl 2 rfl) ?_
  refine va_get (D := (dC, dI)) (ci := 19) (v := .ref lo) (C := RX15) (T := TX15) (N := 28) hx hb hts hiX15 hown hK hP 0 rfl rfl 9 (by decide) (hts (.fieldLink RX15 19 "SquareRigModel" "orders" "Ljava/util/List;") (by decide +kernel)) (fun _ h9 => h9) rfl dX15_order_160 ?_
  refine va_new (ci := 18) (fs := [.int 0, .int 0, .int 0, .int 0, .int 0, .int 0]) (C := RX14) (T := TX14) (N := 6) hx hb hts hiX14 tyX14 tyX14_ok hown (hts (.classLink RX15 161 RX14) (by decide +kernel)) (hts (.instantiable RX14 6) (by decide +kernel)) (hts (.initialized RX14) (by decide +kernel)) hK hP hD hS hA rfl (fun j hj => by rcases (show j = 0 ∨ j = 1 ∨ j = 2 ∨ j = 3 ∨ j = 4 ∨ j = 5 by omega) with rfl | rfl | rfl | rfl | rfl | rfl <;> rfl) (Nat.le_of_ble_eq_true rfl) (Nat.le_of_ble_eq_true rfl) dX15_order_163 (fun q5 H hP hD hS => ?_)
  have hP : va_P (dC, dI) vwCl [(mo, .inr (19, [.int 0, .int 0, .int 0, .int 0, .int 0, .int 0, .int 0, .ref ti, .ref si, .ref lo, .ref lh, .ref lk, .ref sp, .ref st, .ref pa, .ref br, .ref sg, .int 0, .int 0, .int 0, .int 0, .int 0, .int 0, .long 0, .long 0, .long 0, .long 0, .int 0])), (lo, .inr (3, [.int 0, .ref (z 0), .int 0])), (q5, .inr (18, [.int 0, .int 0, .int 0, .int 0, .int 0, .int 0]))] H := hP
  have hD : va_D A [(mo, .inr (19, [.int 0, .int 0, .int 0, .int 0, .int 0, .int 0, .int 0, .ref ti, .ref si, .ref lo, .ref lh, .ref lk, .ref sp, .ref st, .ref pa, .ref br, .ref sg, .int 0, .int 0, .int 0, .int 0, .int 0, .int 0, .long 0, .long 0, .long 0, .long 0, .int 0])), (lo, .inr (3, [.int 0, .ref (z 0), .int 0])), (q5, .inr (18, [.int 0, .int 0, .int 0, .int 0, .int 0, .int 0]))] := hD
  refine lv_dup hx hb dX15_order_166 rfl ?_
  refine lv_iload_n hx hb dX15_order_167 rfl (lv_at hl 3 rfl) ?_
  refine lv_iload_n hx hb dX15_order_168 rfl (lv_at hl 4 rfl) ?_
  refine lv_iload_n hx hb dX15_order_169 rfl (lv_at hl 5 rfl) ?_
  refine lv_aload_n hx hb dX15_order_170 rfl (lv_at hl 2 rfl) ?_
  refine va_get (D := (dC, dI)) (ci := 19) (v := .int 0) (C := RX15) (T := TX15) (N := 28) hx hb hts hiX15 hown hK hP 0 rfl rfl 17 (by decide) (hts (.fieldLink RX15 163 "SquareRigModel" "minute" "I") (by decide +kernel)) (fun _ h9 => h9) rfl dX15_order_171 ?_
  have hPc := hP.sub (ws' := [(q5, .inr (18, [.int 0, .int 0, .int 0, .int 0, .int 0, .int 0]))]) [2] rfl
  have hDc := hD.sub (ws' := [(q5, .inr (18, [.int 0, .int 0, .int 0, .int 0, .int 0, .int 0]))]) [2] (by decide) rfl
  have hKc := hK.sub (tys' := []) [] rfl
  have hFc := va_free (wc := [(q5, .inr (18, [.int 0, .int 0, .int 0, .int 0, .int 0, .int 0]))]) hD hS hA [2] rfl
  refine va_callv (va_runI (As := [.int 115, .int 8, .int p2, .int 0]) (rest := [.ref q5, .ref lo]) ⟨hx, hb, hml, hown, hts⟩ (k_MOrder_init115 l dC dI z zK zV q5 8 p2 0 H.size) (cwI 4 hts gX15_order_X14_init rfl rfl rfl (hts (.initialized RX14) (by decide +kernel)) (hts (.methodLink RX15 166 yX14_init) (by decide +kernel)) (hts (.instanceMethod yX14_init) (by decide +kernel)) rfl (by decide +kernel) ⟨Nat.le_of_ble_eq_true rfl, Nat.le_of_ble_eq_true rfl⟩) ⟨kP_blind, kP_go hPc hKc hDc hFc hM hS⟩ rfl rfl hl.1 rfl (lv_room (Nat.le_of_ble_eq_true rfl)) dX15_order_174 ⟨Nat.le_of_ble_eq_true rfl, Nat.le_of_ble_eq_true rfl⟩) hS (fun q _ h => hFc q h) hFc (fun u t H1 locs ht hvm hw hB hz1 hk1 hS => ?_)
  obtain ⟨hP, hD, hK⟩ := kJ (wr := [(mo, .inr (19, [.int 0, .int 0, .int 0, .int 0, .int 0, .int 0, .int 0, .ref ti, .ref si, .ref lo, .ref lh, .ref lk, .ref sp, .ref st, .ref pa, .ref br, .ref sg, .int 0, .int 0, .int 0, .int 0, .int 0, .int 0, .long 0, .long 0, .long 0, .long 0, .int 0])), (lo, .inr (3, [.int 0, .ref (z 0), .int 0]))]) (w1 := [(q5, .inr (18, [.int 115, .int 8, .int p2, .int 0, .int 119, .int 0]))]) (t1 := []) hP hD hK [2] [0, 1] rfl rfl (by decide) (by decide) hk1 hFc ht hvm hB
  generalize H1 = H at hP hS ⊢
  have hP : va_P (dC, dI) vwCl [(mo, .inr (19, [.int 0, .int 0, .int 0, .int 0, .int 0, .int 0, .int 0, .ref ti, .ref si, .ref lo, .ref lh, .ref lk, .ref sp, .ref st, .ref pa, .ref br, .ref sg, .int 0, .int 0, .int 0, .int 0, .int 0, .int 0, .long 0, .long 0, .long 0, .long 0, .int 0])), (lo, .inr (3, [.int 0, .ref (z 0), .int 0])), (q5, .inr (18, [.int 115, .int 8, .int p2, .int 0, .int 119, .int 0]))] H := hP
  have hD : va_D A [(mo, .inr (19, [.int 0, .int 0, .int 0, .int 0, .int 0, .int 0, .int 0, .ref ti, .ref si, .ref lo, .ref lh, .ref lk, .ref sp, .ref st, .ref pa, .ref br, .ref sg, .int 0, .int 0, .int 0, .int 0, .int 0, .int 0, .long 0, .long 0, .long 0, .long 0, .int 0])), (lo, .inr (3, [.int 0, .ref (z 0), .int 0])), (q5, .inr (18, [.int 115, .int 8, .int p2, .int 0, .int 119, .int 0]))] := hD
  have hK : va_K (dC, dI) vwCl [] s := hK
  clear hw
  have hPc := hP.sub (ws' := [(lo, .inr (3, [.int 0, .ref (z 0), .int 0])), (q5, .inr (18, [.int 115, .int 8, .int p2, .int 0, .int 119, .int 0]))]) [1, 2] rfl
  have hDc := hD.sub (ws' := [(lo, .inr (3, [.int 0, .ref (z 0), .int 0])), (q5, .inr (18, [.int 115, .int 8, .int p2, .int 0, .int 119, .int 0]))]) [1, 2] (by decide) rfl
  have hKc := hK.sub (tys' := []) [] rfl
  have hFc := va_free (wc := [(lo, .inr (3, [.int 0, .ref (z 0), .int 0])), (q5, .inr (18, [.int 115, .int 8, .int p2, .int 0, .int 119, .int 0]))]) hD hS hA [1, 2] rfl
  refine va_callFi (va_runF (hK.1 3 _ rfl).2 (As := [.ref q5]) (rest := []) ⟨hx, hb, hml, hown, hts⟩ (k_add1_oo l dC dI z zK zV lo 0 q5 115 8 p2 0 119 0 H.size) (va_cwF 1 hts gX15_order_Jx4a65c_add_9ea2d_f169Jx4a65c rfl rfl rfl hM.2.2.2.2.2.2.2.2.2.2.1.2.2.2.2 (by decide +kernel) ⟨Nat.le_of_ble_eq_true rfl, Nat.le_of_ble_eq_true rfl⟩) ⟨kP_blind, va_recv hKc hPc (ci := 3) (q0 := 0) rfl rfl, kP_go hPc hKc hDc hFc hM hS⟩ rfl rfl hl.1 rfl (lv_room (Nat.le_of_ble_eq_true rfl)) dX15_order_177 ⟨Nat.le_of_ble_eq_true rfl, Nat.le_of_ble_eq_true rfl⟩) hS (fun q _ h => hFc q h) hFc (fun r6 u t H1 locs ht hvm hw hB hz1 hk1 hS => ?_)
  obtain ⟨q7, cA8, hB⟩ := hB
  obtain ⟨hP, hD, hK⟩ := kJ (wr := [(mo, .inr (19, [.int 0, .int 0, .int 0, .int 0, .int 0, .int 0, .int 0, .ref ti, .ref si, .ref lo, .ref lh, .ref lk, .ref sp, .ref st, .ref pa, .ref br, .ref sg, .int 0, .int 0, .int 0, .int 0, .int 0, .int 0, .long 0, .long 0, .long 0, .long 0, .int 0]))]) (w1 := [(q5, .inr (18, [.int 115, .int 8, .int p2, .int 0, .int 119, .int 0])), (lo, .inr (3, [.int (0 + 1), .ref q7, .int 1])), (q7, .inl (cA8, 10, .inr (.inr (.inr (.inr (va_up (fun _ => none) 0 (some q5)))))))]) (t1 := [(cA8, .object "java/lang/Object")]) hP hD hK [1, 2] [0] rfl rfl (by decide) (by decide) hk1 hFc ht hvm hB
  generalize H1 = H at hP hS ⊢
  have hP : va_P (dC, dI) vwCl [(mo, .inr (19, [.int 0, .int 0, .int 0, .int 0, .int 0, .int 0, .int 0, .ref ti, .ref si, .ref lo, .ref lh, .ref lk, .ref sp, .ref st, .ref pa, .ref br, .ref sg, .int 0, .int 0, .int 0, .int 0, .int 0, .int 0, .long 0, .long 0, .long 0, .long 0, .int 0])), (q5, .inr (18, [.int 115, .int 8, .int p2, .int 0, .int 119, .int 0])), (lo, .inr (3, [.int (0 + 1), .ref q7, .int 1])), (q7, .inl (cA8, 10, .inr (.inr (.inr (.inr (va_up (fun _ => none) 0 (some q5)))))))] H := hP
  have hD : va_D A [(mo, .inr (19, [.int 0, .int 0, .int 0, .int 0, .int 0, .int 0, .int 0, .ref ti, .ref si, .ref lo, .ref lh, .ref lk, .ref sp, .ref st, .ref pa, .ref br, .ref sg, .int 0, .int 0, .int 0, .int 0, .int 0, .int 0, .long 0, .long 0, .long 0, .long 0, .int 0])), (q5, .inr (18, [.int 115, .int 8, .int p2, .int 0, .int 119, .int 0])), (lo, .inr (3, [.int (0 + 1), .ref q7, .int 1])), (q7, .inl (cA8, 10, .inr (.inr (.inr (.inr (va_up (fun _ => none) 0 (some q5)))))))] := hD
  have hK : va_K (dC, dI) vwCl [(cA8, .object "java/lang/Object")] s := hK
  obtain rfl : 1 = r6 := hw
  refine lv_pop hx hb dX15_order_182 rfl ?_
  refine lv_aload_n hx hb dX15_order_183 rfl (lv_at hl 2 rfl) ?_
  refine va_get (D := (dC, dI)) (ci := 19) (v := .ref lo) (C := RX15) (T := TX15) (N := 28) hx hb hts hiX15 hown hK hP 0 rfl rfl 9 (by decide) (hts (.fieldLink RX15 19 "SquareRigModel" "orders" "Ljava/util/List;") (by decide +kernel)) (fun _ h9 => h9) rfl dX15_order_184 ?_
  have hPc := hP.sub (ws' := [(lo, .inr (3, [.int (0 + 1), .ref q7, .int 1]))]) [2] rfl
  have hDc := hD.sub (ws' := [(lo, .inr (3, [.int (0 + 1), .ref q7, .int 1]))]) [2] (by decide) rfl
  have hKc := hK.sub (tys' := []) [] rfl
  have hFc := va_free (wc := [(lo, .inr (3, [.int (0 + 1), .ref q7, .int 1]))]) hD hS hA [2] rfl
  refine va_callFi (va_runF (hK.1 3 _ rfl).2 (As := []) (rest := []) ⟨hx, hb, hml, hown, hts⟩ (k_size1 l dC dI z zK zV lo (0 + 1) q7 H.size) (va_cwF 0 hts gX15_order_Jx4a65c_size_8abf5_f156Jx4a65c rfl rfl rfl hM.2.2.2.2.2.2.2.2.2.2.1.2.2.1 (by decide +kernel) ⟨Nat.le_of_ble_eq_true rfl, Nat.le_of_ble_eq_true rfl⟩) ⟨kP_blind, va_recv hKc hPc (ci := 3) (q0 := 0) rfl rfl, kP_go hPc hKc hDc hFc hM hS⟩ rfl rfl hl.1 rfl (lv_room (Nat.le_of_ble_eq_true rfl)) dX15_order_187 ⟨Nat.le_of_ble_eq_true rfl, Nat.le_of_ble_eq_true rfl⟩) hS (fun q _ h => hFc q h) hFc (fun r9 u t H1 locs ht hvm hw hB hz1 hk1 hS => ?_)
  obtain ⟨hP, hD, hK⟩ := kJ (wr := [(mo, .inr (19, [.int 0, .int 0, .int 0, .int 0, .int 0, .int 0, .int 0, .ref ti, .ref si, .ref lo, .ref lh, .ref lk, .ref sp, .ref st, .ref pa, .ref br, .ref sg, .int 0, .int 0, .int 0, .int 0, .int 0, .int 0, .long 0, .long 0, .long 0, .long 0, .int 0])), (q5, .inr (18, [.int 115, .int 8, .int p2, .int 0, .int 119, .int 0])), (q7, .inl (cA8, 10, .inr (.inr (.inr (.inr (va_up (fun _ => none) 0 (some q5)))))))]) (w1 := [(lo, .inr (3, [.int (0 + 1), .ref q7, .int 1]))]) (t1 := []) hP hD hK [2] [0, 1, 3] rfl rfl (by decide) (by decide) hk1 hFc ht hvm hB
  generalize H1 = H at hP hS ⊢
  have hP : va_P (dC, dI) vwCl [(mo, .inr (19, [.int 0, .int 0, .int 0, .int 0, .int 0, .int 0, .int 0, .ref ti, .ref si, .ref lo, .ref lh, .ref lk, .ref sp, .ref st, .ref pa, .ref br, .ref sg, .int 0, .int 0, .int 0, .int 0, .int 0, .int 0, .long 0, .long 0, .long 0, .long 0, .int 0])), (q5, .inr (18, [.int 115, .int 8, .int p2, .int 0, .int 119, .int 0])), (q7, .inl (cA8, 10, .inr (.inr (.inr (.inr (va_up (fun _ => none) 0 (some q5))))))), (lo, .inr (3, [.int (0 + 1), .ref q7, .int 1]))] H := hP
  have hD : va_D A [(mo, .inr (19, [.int 0, .int 0, .int 0, .int 0, .int 0, .int 0, .int 0, .ref ti, .ref si, .ref lo, .ref lh, .ref lk, .ref sp, .ref st, .ref pa, .ref br, .ref sg, .int 0, .int 0, .int 0, .int 0, .int 0, .int 0, .long 0, .long 0, .long 0, .long 0, .int 0])), (q5, .inr (18, [.int 115, .int 8, .int p2, .int 0, .int 119, .int 0])), (q7, .inl (cA8, 10, .inr (.inr (.inr (.inr (va_up (fun _ => none) 0 (some q5))))))), (lo, .inr (3, [.int (0 + 1), .ref q7, .int 1]))] := hD
  have hK : va_K (dC, dI) vwCl [(cA8, .object "java/lang/Object")] s := hK
  obtain rfl : 1 = r9 := hw
  refine lv_iconst (v := 1) hx hb dX15_order_192 (by decide) ?_
  refine lv_isub hx hb dX15_order_193 ?_
  refine kc_i (y := 0) (by decide +kernel) ?_
  refine W.widen (k := 2) (n := 16) (Nat.le_of_ble_eq_true rfl) (Nat.le_of_ble_eq_true rfl) ?_
  exact W.iret (v := 0) hx hb hr (fun t ht hW => ⟨⟨0, (), rfl, rfl, kB_end (w9 := [(mo, .inr (19, [.int 0, .int 0, .int 0, .int 0, .int 0, .int 0, .int 0, .ref ti, .ref si, .ref lo, .ref lh, .ref lk, .ref sp, .ref st, .ref pa, .ref br, .ref sg, .int 0, .int 0, .int 0, .int 0, .int 0, .int 0, .long 0, .long 0, .long 0, .long 0, .int 0]))]) (t9 := []) hP hK hD [0] [] rfl (by decide) rfl rfl t ht hW⟩, hS.F ht⟩) hS.2.2 dX15_order_194
abbrev wd_k_m_order_m (z : Nat → Nat) (p1 : Int32) (mo : Nat) (ti : Nat) (si : Nat) (lo : Nat) (lh : Nat) (lk : Nat) (sp : Nat) (st : Nat) (pa : Nat) (br : Nat) (sg : Nat) (th : Int32) : va_W := [(mo, .inr (19, [.int 0, .int 0, .int 0, .int 0, .int 0, .int 0, .int 0, .ref ti, .ref si, .ref lo, .ref lh, .ref lk, .ref sp, .ref st, .ref pa, .ref br, .ref sg, .int 0, .int 0, .int 0, .int 0, .int 0, .int 0, .long 0, .long 0, .long 0, .long 0, .int th])), (lo, .inr (3, [.int 0, .ref (z 0), .int 0]))]
set_option maxHeartbeats 4000000 in
set_option maxRecDepth 100000 in
theorem k_m_order_m (l : Launch) (dC : Nat → ClassId) (dI : Nat → Nat → Nat) (z zK zV : Nat → Nat) (p1 : Int32) (mo : Nat) (ti : Nat) (si : Nat) (lo : Nat) (lh : Nat) (lk : Nat) (sp : Nat) (st : Nat) (pa : Nat) (br : Nat) (sg : Nat) (th : Int32) (sz : Nat) (hg0 : (0 : Int32) ≤ p1 ∧ p1 ≤ 8) : Met l yX15_order wsX15_order ({ frames := 5, cells := 2, slots := 16, locals := 101 }) (kP dC dI z zK zV [.ref mo, .int 109, .int p1, .int 0] sz (wd_k_m_order_m z p1 mo ti si lo lh lk sp st pa br sg th) []) (va_Qi (fun (r : Int32) (_ : Unit) => 0 = r) (fun _ t => kB (dC, dI) (va_A (wd_k_m_order_m z p1 mo ti si lo lh lk sp st pa br sg th) sz) [(mo, .inr (19, [.int 0, .int 0, .int 0, .int 0, .int 0, .int 0, .int 0, .ref ti, .ref si, .ref lo, .ref lh, .ref lk, .ref sp, .ref st, .ref pa, .ref br, .ref sg, .int 0, .int 0, .int 0, .int 0, .int 0, .int 0, .long 0, .long 0, .long 0, .long 0, .int 0]))] [] t) (va_A (wd_k_m_order_m z p1 mo ti si lo lh lk sp st pa br sg th) sz)) 2 16 (va_A (wd_k_m_order_m z p1 mo ti si lo lh lk sp st pa br sg th) sz) := by
  refine Met.ofW (cc := cX15_order) (maxL := 6) (ret := (some .int)) (by decide) rfl ?_
  intro p e s m args below meth c s₁ B hml hv
  obtain ⟨rfl, hsz, hP, hK, hD0, hM⟩ := hv
  have hx := B.exec
  have hb := B.bytes
  have hr := B.returns
  have hts := atoms_spec (ws := wsX15_order) B.pre
  have hown : s.vm.findClass RX15 = some m.cls := findClass_of_methodNamed B.named
  have hlocks := B.notSynchronized
  have hiX15 : ∀ w ∈ u_ws RX15 TX15 28, w ∈ wsX15_order := by decide +kernel
  have hiX14 : ∀ w ∈ u_ws RX14 TX14 6, w ∈ wsX15_order := by decide +kernel
  subst hsz
  have hD := hD0.self (sz := s.heap.size)
  generalize hAe : va_A (wd_k_m_order_m z p1 mo ti si lo lh lk sp st pa br sg th) s.heap.size = A at hD hM ⊢
  have hA : ∀ q : Nat, s.heap.size ≤ q → A q := fun q h => by rw [← hAe]; exact Or.inr h
  have hS : va_S A s.heap s.heap [] := va_S.rf
  have hP : va_P (dC, dI) vwCl [(mo, .inr (19, [.int 0, .int 0, .int 0, .int 0, .int 0, .int 0, .int 0, .ref ti, .ref si, .ref lo, .ref lh, .ref lk, .ref sp, .ref st, .ref pa, .ref br, .ref sg, .int 0, .int 0, .int 0, .int 0, .int 0, .int 0, .long 0, .long 0, .long 0, .long 0, .int th])), (lo, .inr (3, [.int 0, .ref (z 0), .int 0]))] s.heap := hP
  have hD : va_D A [(mo, .inr (19, [.int 0, .int 0, .int 0, .int 0, .int 0, .int 0, .int 0, .ref ti, .ref si, .ref lo, .ref lh, .ref lk, .ref sp, .ref st, .ref pa, .ref br, .ref sg, .int 0, .int 0, .int 0, .int 0, .int 0, .int 0, .long 0, .long 0, .long 0, .long 0, .int th])), (lo, .inr (3, [.int 0, .ref (z 0), .int 0]))] := hD
  have hl := lv_entry ([.ref mo, .int 109, .int p1, .int 0]) (n := 6) (Nat.le_of_ble_eq_true rfl)
  rw [lg_entry_eq]
  generalize (lg_sl ([.ref mo, .int 109, .int p1, .int 0]) ++ List.replicate (6 - (lg_sl ([.ref mo, .int 109, .int p1, .int 0])).length) Slot.unset).toArray = ls at hl ⊢
  have hl : lv_has ls 6 [(0, .ref mo), (1, .int 109), (2, .int p1), (3, .int 0)] := hl
  refine lv_iload_n hx hb dX15_order_0 rfl (lv_at hl 1 rfl) ?_
  refine lv_bipush (v := 115) hx hb dX15_order_1 (by decide) ?_
  refine lv_icmp_eq (tgt := 12) hx hb dX15_order_3 (by decide) (fun c_ => absurd c_ (by decide +kernel)) (fun _ => ?_)
  refine lv_iload_n hx hb dX15_order_6 rfl (lv_at hl 1 rfl) ?_
  refine lv_bipush (v := 109) hx hb dX15_order_7 (by decide) ?_
  refine lv_icmp_ne (tgt := 16) hx hb dX15_order_9 (by decide) (fun c_ => absurd (by decide +kernel) c_) (fun _ => ?_)
  refine lv_iconst (v := 1) hx hb dX15_order_12 (by decide) ?_
  refine lv_goto (tgt := 17) hx hb dX15_order_13 (by decide) ?_
  refine lv_istore (lv' := [(4, .int 1), (0, .ref mo), (1, .int 109), (2, .int p1), (3, .int 0)]) hx hb dX15_order_17 hl (by decide) rfl (fun ls hl => ?_)
  refine va_ldcS hx hb hown (hM.2.2.1 0 _ rfl) dX15_order_19 ?_
  refine lv_iload_n hx hb dX15_order_21 rfl (lv_at hl 2 rfl) ?_
  have hPc := hP.sub (ws' := []) [] rfl
  have hDc := hD.sub (ws' := []) [] (by decide) rfl
  have hKc := hK.sub (tys' := []) [] rfl
  have hFc := va_free (wc := []) hD hS hA [] rfl
  refine va_calli (va_runV (As := [.int 109]) (rest := []) ⟨hx, hb, hml, hown, hts⟩ (k_ix3_109 l dC dI z zK zV  s.heap.size) (cwV 1 hts gX15_order_J0_indexOf_0f7a4 rfl rfl rfl (by decide +kernel) ⟨Nat.le_of_ble_eq_true rfl, Nat.le_of_ble_eq_true rfl⟩) ⟨kP_blind, vk_recv (i := 0) hM.2.2.2.1 (by decide) hS, kP_go hPc hKc hDc hFc hM hS⟩ rfl rfl hl.1 rfl (lv_room (Nat.le_of_ble_eq_true rfl)) dX15_order_22 ⟨Nat.le_of_ble_eq_true rfl, Nat.le_of_ble_eq_true rfl⟩) hS (fun q _ h => hFc q h) hFc (fun r1 u t H1 locs ht hvm hw hB hz1 hk1 hS => ?_)
  obtain ⟨hP, hD, hK⟩ := kJ (wr := [(mo, .inr (19, [.int 0, .int 0, .int 0, .int 0, .int 0, .int 0, .int 0, .ref ti, .ref si, .ref lo, .ref lh, .ref lk, .ref sp, .ref st, .ref pa, .ref br, .ref sg, .int 0, .int 0, .int 0, .int 0, .int 0, .int 0, .long 0, .long 0, .long 0, .long 0, .int th])), (lo, .inr (3, [.int 0, .ref (z 0), .int 0]))]) (w1 := []) (t1 := []) hP hD hK [] [0, 1] rfl rfl (by decide) (by decide) hk1 hFc ht hvm hB
  generalize H1 = H at hP hS ⊢
  have hP : va_P (dC, dI) vwCl [(mo, .inr (19, [.int 0, .int 0, .int 0, .int 0, .int 0, .int 0, .int 0, .ref ti, .ref si, .ref lo, .ref lh, .ref lk, .ref sp, .ref st, .ref pa, .ref br, .ref sg, .int 0, .int 0, .int 0, .int 0, .int 0, .int 0, .long 0, .long 0, .long 0, .long 0, .int th])), (lo, .inr (3, [.int 0, .ref (z 0), .int 0]))] H := hP
  have hD : va_D A [(mo, .inr (19, [.int 0, .int 0, .int 0, .int 0, .int 0, .int 0, .int 0, .ref ti, .ref si, .ref lo, .ref lh, .ref lk, .ref sp, .ref st, .ref pa, .ref br, .ref sg, .int 0, .int 0, .int 0, .int 0, .int 0, .int 0, .long 0, .long 0, .long 0, .long 0, .int th])), (lo, .inr (3, [.int 0, .ref (z 0), .int 0]))] := hD
  have hK : va_K (dC, dI) vwCl [] s := hK
  obtain rfl : 2 = r1 := hw
  refine lv_if_lt (tgt := 55) hx hb dX15_order_25 (by decide) (fun c_ => absurd c_ (by decide +kernel)) (fun _ => ?_)
  refine lv_iload_n hx hb dX15_order_28 rfl (lv_at hl 3 rfl) ?_
  refine lv_i2l (v := p1.toInt64) hx hb dX15_order_29 rfl ?_
  refine lv_lconst (v := 0) hx hb dX15_order_30 (by decide) ?_
  refine lv_iload hx hb dX15_order_31 (lv_at hl 0 rfl) ?_
  refine lv_if_eq (tgt := 42) hx hb dX15_order_33 (by decide) (fun c_ => absurd c_ (by decide +kernel)) (fun _ => ?_)
  refine lv_ldc2 (v := 8) hx hb hown (hts (.constantLong RX15 148 8) (by decide +kernel)) dX15_order_36 ?_
  refine lv_goto (tgt := 45) hx hb dX15_order_39 (by decide) ?_
  have hPc := hP.sub (ws' := []) [] rfl
  have hDc := hD.sub (ws' := []) [] (by decide) rfl
  have hKc := hK.sub (tys' := []) [] rfl
  have hFc := va_free (wc := []) hD hS hA [] rfl
  refine va_calli (va_runS (As := [.long p1.toInt64, .long 0, .long 8]) (rest := []) ⟨hx, hb, hml, hown, hts⟩ (k_in l dC dI z zK zV p1.toInt64 0 8 H.size) (va_cwS 3 hts gX15_order_X15_in rfl rfl rfl (by decide +kernel) ⟨Nat.le_of_ble_eq_true rfl, Nat.le_of_ble_eq_true rfl⟩) ⟨kP_blind, kP_go hPc hKc hDc hFc hM hS⟩ rfl rfl hl.1 rfl (lv_room (Nat.le_of_ble_eq_true rfl)) dX15_order_45 ⟨Nat.le_of_ble_eq_true rfl, Nat.le_of_ble_eq_true rfl⟩) hS (fun q _ h => hFc q h) hFc (fun r2 u t H1 locs ht hvm hw hB hz1 hk1 hS => ?_)
  obtain ⟨hP, hD, hK⟩ := kJ (wr := [(mo, .inr (19, [.int 0, .int 0, .int 0, .int 0, .int 0, .int 0, .int 0, .ref ti, .ref si, .ref lo, .ref lh, .ref lk, .ref sp, .ref st, .ref pa, .ref br, .ref sg, .int 0, .int 0, .int 0, .int 0, .int 0, .int 0, .long 0, .long 0, .long 0, .long 0, .int th])), (lo, .inr (3, [.int 0, .ref (z 0), .int 0]))]) (w1 := []) (t1 := []) hP hD hK [] [0, 1] rfl rfl (by decide) (by decide) hk1 hFc ht hvm hB
  generalize H1 = H at hP hS ⊢
  have hP : va_P (dC, dI) vwCl [(mo, .inr (19, [.int 0, .int 0, .int 0, .int 0, .int 0, .int 0, .int 0, .ref ti, .ref si, .ref lo, .ref lh, .ref lk, .ref sp, .ref st, .ref pa, .ref br, .ref sg, .int 0, .int 0, .int 0, .int 0, .int 0, .int 0, .long 0, .long 0, .long 0, .long 0, .int th])), (lo, .inr (3, [.int 0, .ref (z 0), .int 0]))] H := hP
  have hD : va_D A [(mo, .inr (19, [.int 0, .int 0, .int 0, .int 0, .int 0, .int 0, .int 0, .ref ti, .ref si, .ref lo, .ref lh, .ref lk, .ref sp, .ref st, .ref pa, .ref br, .ref sg, .int 0, .int 0, .int 0, .int 0, .int 0, .int 0, .long 0, .long 0, .long 0, .long 0, .int th])), (lo, .inr (3, [.int 0, .ref (z 0), .int 0]))] := hD
  have hK : va_K (dC, dI) vwCl [] s := hK
  obtain rfl : (if 0 ≤ (p1.toInt64) ∧ (p1.toInt64) ≤ 8 then (1 : Int32) else 0) = r2 := hw
  refine kc_i (y := (if 0 ≤ p1 ∧ p1 ≤ 8 then (1 : Int32) else 0)) (k_inP (a := 0) (b := 8) (by decide +kernel) (by decide +kernel)) ?_
  refine lv_if_eq (tgt := 55) hx hb dX15_order_48 (by decide) (fun c_ => absurd c_ (k_ifp hg0)) (fun _ => ?_)
  refine lv_iconst (v := 1) hx hb dX15_order_51 (by decide) ?_
  refine lv_goto (tgt := 56) hx hb dX15_order_52 (by decide) ?_
  refine lv_istore (lv' := [(5, .int 1), (4, .int 1), (0, .ref mo), (1, .int 109), (2, .int p1), (3, .int 0)]) hx hb dX15_order_56 hl (by decide) rfl (fun ls hl => ?_)
  refine lv_iload hx hb dX15_order_58 (lv_at hl 0 rfl) ?_
  refine lv_if_eq (tgt := 115) hx hb dX15_order_60 (by decide) (fun c_ => absurd c_ (by decide +kernel)) (fun _ => ?_)
  refine lv_iload_n hx hb dX15_order_63 rfl (lv_at hl 3 rfl) ?_
  refine lv_bipush (v := 115) hx hb dX15_order_64 (by decide) ?_
  refine lv_icmp_ne (tgt := 84) hx hb dX15_order_66 (by decide) (fun _ => ?_) (fun c_ => absurd c_ (by decide +kernel))
  refine lv_iload_n hx hb dX15_order_84 rfl (lv_at hl 3 rfl) ?_
  refine lv_bipush (v := 98) hx hb dX15_order_85 (by decide) ?_
  refine lv_icmp_ne (tgt := 107) hx hb dX15_order_87 (by decide) (fun _ => ?_) (fun c_ => absurd c_ (by decide +kernel))
  refine lv_iload_n hx hb dX15_order_107 rfl (lv_at hl 5 rfl) ?_
  refine lv_if_ne (tgt := 115) hx hb dX15_order_108 (by decide) (fun c_ => absurd (by decide +kernel) c_) (fun _ => ?_)
  refine lv_iconst (v := 1) hx hb dX15_order_111 (by decide) ?_
  refine lv_goto (tgt := 116) hx hb dX15_order_112 (by decide) ?_
  refine lv_istore (lv' := [(5, .int 1), (4, .int 1), (0, .ref mo), (1, .int 109), (2, .int p1), (3, .int 0)]) hx hb dX15_order_116 hl (by decide) rfl (fun ls hl => ?_)
  refine lv_aload_n hx hb dX15_order_118 rfl (lv_at hl 2 rfl) ?_
  refine lv_iload hx hb dX15_order_119 (lv_at hl 0 rfl) ?_
  refine lv_if_ne (tgt := 128) hx hb dX15_order_121 (by decide) (fun _ => ?_) (fun c_ => absurd c_ (by decide +kernel))
  refine lv_aload_n hx hb dX15_order_128 rfl (lv_at hl 2 rfl) ?_
  refine va_get (D := (dC, dI)) (ci := 19) (v := .ref lo) (C := RX15) (T := TX15) (N := 28) hx hb hts hiX15 hown hK hP 0 rfl rfl 9 (by decide) (hts (.fieldLink RX15 19 "SquareRigModel" "orders" "Ljava/util/List;") (by decide +kernel)) (fun _ h9 => h9) rfl dX15_order_129 ?_
  have hPc := hP.sub (ws' := [(lo, .inr (3, [.int 0, .ref (z 0), .int 0]))]) [1] rfl
  have hDc := hD.sub (ws' := [(lo, .inr (3, [.int 0, .ref (z 0), .int 0]))]) [1] (by decide) rfl
  have hKc := hK.sub (tys' := []) [] rfl
  have hFc := va_free (wc := [(lo, .inr (3, [.int 0, .ref (z 0), .int 0]))]) hD hS hA [1] rfl
  refine va_callFi (va_runF (hK.1 3 _ rfl).2 (As := []) (rest := [.ref mo]) ⟨hx, hb, hml, hown, hts⟩ (k_size0 l dC dI z zK zV lo H.size) (va_cwF 0 hts gX15_order_Jx4a65c_size_8abf5_f156Jx4a65c rfl rfl rfl hM.2.2.2.2.2.2.2.2.2.2.1.2.2.1 (by decide +kernel) ⟨Nat.le_of_ble_eq_true rfl, Nat.le_of_ble_eq_true rfl⟩) ⟨kP_blind, va_recv hKc hPc (ci := 3) (q0 := 0) rfl rfl, kP_go hPc hKc hDc hFc hM hS⟩ rfl rfl hl.1 rfl (lv_room (Nat.le_of_ble_eq_true rfl)) dX15_order_132 ⟨Nat.le_of_ble_eq_true rfl, Nat.le_of_ble_eq_true rfl⟩) hS (fun q _ h => hFc q h) hFc (fun r3 u t H1 locs ht hvm hw hB hz1 hk1 hS => ?_)
  obtain ⟨hP, hD, hK⟩ := kJ (wr := [(mo, .inr (19, [.int 0, .int 0, .int 0, .int 0, .int 0, .int 0, .int 0, .ref ti, .ref si, .ref lo, .ref lh, .ref lk, .ref sp, .ref st, .ref pa, .ref br, .ref sg, .int 0, .int 0, .int 0, .int 0, .int 0, .int 0, .long 0, .long 0, .long 0, .long 0, .int th]))]) (w1 := [(lo, .inr (3, [.int 0, .ref (z 0), .int 0]))]) (t1 := []) hP hD hK [1] [0] rfl rfl (by decide) (by decide) hk1 hFc ht hvm hB
  generalize H1 = H at hP hS ⊢
  have hP : va_P (dC, dI) vwCl [(mo, .inr (19, [.int 0, .int 0, .int 0, .int 0, .int 0, .int 0, .int 0, .ref ti, .ref si, .ref lo, .ref lh, .ref lk, .ref sp, .ref st, .ref pa, .ref br, .ref sg, .int 0, .int 0, .int 0, .int 0, .int 0, .int 0, .long 0, .long 0, .long 0, .long 0, .int th])), (lo, .inr (3, [.int 0, .ref (z 0), .int 0]))] H := hP
  have hD : va_D A [(mo, .inr (19, [.int 0, .int 0, .int 0, .int 0, .int 0, .int 0, .int 0, .ref ti, .ref si, .ref lo, .ref lh, .ref lk, .ref sp, .ref st, .ref pa, .ref br, .ref sg, .int 0, .int 0, .int 0, .int 0, .int 0, .int 0, .long 0, .long 0, .long 0, .long 0, .int th])), (lo, .inr (3, [.int 0, .ref (z 0), .int 0]))] := hD
  have hK : va_K (dC, dI) vwCl [] s := hK
  obtain rfl : 0 = r3 := hw
  refine lv_bipush (v := 100) hx hb dX15_order_137 (by decide) ?_
  refine lv_icmp_ne (tgt := 146) hx hb dX15_order_139 (by decide) (fun _ => ?_) (fun c_ => absurd c_ (by decide +kernel))
  refine lv_iconst (v := 0) hx hb dX15_order_146 (by decide) ?_
  refine va_put (D := (dC, dI)) (ci := 19) (v := .int 0) (ty := .int) (C := RX15) (T := TX15) (N := 28) hx hb hts hiX15 tyX15 tyX15_ok nmX15 hown hK hP hD hS 0 rfl rfl 27 (by decide) (hts (.fieldLink RX15 45 "SquareRigModel" "thrown" "I") (by decide +kernel)) (fun _ h9 => h9) rfl (by decide +kernel) rfl rfl (Nat.le_of_ble_eq_true rfl) dX15_order_147 (fun H locs hP hD hS => ?_)
  have hP : va_P (dC, dI) vwCl [(mo, .inr (19, [.int 0, .int 0, .int 0, .int 0, .int 0, .int 0, .int 0, .ref ti, .ref si, .ref lo, .ref lh, .ref lk, .ref sp, .ref st, .ref pa, .ref br, .ref sg, .int 0, .int 0, .int 0, .int 0, .int 0, .int 0, .long 0, .long 0, .long 0, .long 0, .int 0])), (lo, .inr (3, [.int 0, .ref (z 0), .int 0]))] H := hP
  have hD : va_D A [(mo, .inr (19, [.int 0, .int 0, .int 0, .int 0, .int 0, .int 0, .int 0, .ref ti, .ref si, .ref lo, .ref lh, .ref lk, .ref sp, .ref st, .ref pa, .ref br, .ref sg, .int 0, .int 0, .int 0, .int 0, .int 0, .int 0, .long 0, .long 0, .long 0, .long 0, .int 0])), (lo, .inr (3, [.int 0, .ref (z 0), .int 0]))] := hD
  refine lv_aload_n hx hb dX15_order_150 rfl (lv_at hl 2 rfl) ?_
  refine va_get (D := (dC, dI)) (ci := 19) (v := .int 0) (C := RX15) (T := TX15) (N := 28) hx hb hts hiX15 hown hK hP 0 rfl rfl 27 (by decide) (hts (.fieldLink RX15 45 "SquareRigModel" "thrown" "I") (by decide +kernel)) (fun _ h9 => h9) rfl dX15_order_151 ?_
  refine lv_if_le (tgt := 159) hx hb dX15_order_154 (by decide) (fun _ => ?_) (fun c_ => absurd (by decide +kernel) c_)
  refine lv_aload_n hx hb dX15_order_159 rfl (lv_at hl 2 rfl) ?_
  refine va_get (D := (dC, dI)) (ci := 19) (v := .ref lo) (C := RX15) (T := TX15) (N := 28) hx hb hts hiX15 hown hK hP 0 rfl rfl 9 (by decide) (hts (.fieldLink RX15 19 "SquareRigModel" "orders" "Ljava/util/List;") (by decide +kernel)) (fun _ h9 => h9) rfl dX15_order_160 ?_
  refine va_new (ci := 18) (fs := [.int 0, .int 0, .int 0, .int 0, .int 0, .int 0]) (C := RX14) (T := TX14) (N := 6) hx hb hts hiX14 tyX14 tyX14_ok hown (hts (.classLink RX15 161 RX14) (by decide +kernel)) (hts (.instantiable RX14 6) (by decide +kernel)) (hts (.initialized RX14) (by decide +kernel)) hK hP hD hS hA rfl (fun j hj => by rcases (show j = 0 ∨ j = 1 ∨ j = 2 ∨ j = 3 ∨ j = 4 ∨ j = 5 by omega) with rfl | rfl | rfl | rfl | rfl | rfl <;> rfl) (Nat.le_of_ble_eq_true rfl) (Nat.le_of_ble_eq_true rfl) dX15_order_163 (fun q4 H hP hD hS => ?_)
  have hP : va_P (dC, dI) vwCl [(mo, .inr (19, [.int 0, .int 0, .int 0, .int 0, .int 0, .int 0, .int 0, .ref ti, .ref si, .ref lo, .ref lh, .ref lk, .ref sp, .ref st, .ref pa, .ref br, .ref sg, .int 0, .int 0, .int 0, .int 0, .int 0, .int 0, .long 0, .long 0, .long 0, .long 0, .int 0])), (lo, .inr (3, [.int 0, .ref (z 0), .int 0])), (q4, .inr (18, [.int 0, .int 0, .int 0, .int 0, .int 0, .int 0]))] H := hP
  have hD : va_D A [(mo, .inr (19, [.int 0, .int 0, .int 0, .int 0, .int 0, .int 0, .int 0, .ref ti, .ref si, .ref lo, .ref lh, .ref lk, .ref sp, .ref st, .ref pa, .ref br, .ref sg, .int 0, .int 0, .int 0, .int 0, .int 0, .int 0, .long 0, .long 0, .long 0, .long 0, .int 0])), (lo, .inr (3, [.int 0, .ref (z 0), .int 0])), (q4, .inr (18, [.int 0, .int 0, .int 0, .int 0, .int 0, .int 0]))] := hD
  refine lv_dup hx hb dX15_order_166 rfl ?_
  refine lv_iload_n hx hb dX15_order_167 rfl (lv_at hl 3 rfl) ?_
  refine lv_iload_n hx hb dX15_order_168 rfl (lv_at hl 4 rfl) ?_
  refine lv_iload_n hx hb dX15_order_169 rfl (lv_at hl 5 rfl) ?_
  refine lv_aload_n hx hb dX15_order_170 rfl (lv_at hl 2 rfl) ?_
  refine va_get (D := (dC, dI)) (ci := 19) (v := .int 0) (C := RX15) (T := TX15) (N := 28) hx hb hts hiX15 hown hK hP 0 rfl rfl 17 (by decide) (hts (.fieldLink RX15 163 "SquareRigModel" "minute" "I") (by decide +kernel)) (fun _ h9 => h9) rfl dX15_order_171 ?_
  have hPc := hP.sub (ws' := [(q4, .inr (18, [.int 0, .int 0, .int 0, .int 0, .int 0, .int 0]))]) [2] rfl
  have hDc := hD.sub (ws' := [(q4, .inr (18, [.int 0, .int 0, .int 0, .int 0, .int 0, .int 0]))]) [2] (by decide) rfl
  have hKc := hK.sub (tys' := []) [] rfl
  have hFc := va_free (wc := [(q4, .inr (18, [.int 0, .int 0, .int 0, .int 0, .int 0, .int 0]))]) hD hS hA [2] rfl
  refine va_callv (va_runI (As := [.int 109, .int p1, .int 0, .int 0]) (rest := [.ref q4, .ref lo]) ⟨hx, hb, hml, hown, hts⟩ (k_MOrder_init109 l dC dI z zK zV q4 p1 0 0 H.size) (cwI 4 hts gX15_order_X14_init rfl rfl rfl (hts (.initialized RX14) (by decide +kernel)) (hts (.methodLink RX15 166 yX14_init) (by decide +kernel)) (hts (.instanceMethod yX14_init) (by decide +kernel)) rfl (by decide +kernel) ⟨Nat.le_of_ble_eq_true rfl, Nat.le_of_ble_eq_true rfl⟩) ⟨kP_blind, kP_go hPc hKc hDc hFc hM hS⟩ rfl rfl hl.1 rfl (lv_room (Nat.le_of_ble_eq_true rfl)) dX15_order_174 ⟨Nat.le_of_ble_eq_true rfl, Nat.le_of_ble_eq_true rfl⟩) hS (fun q _ h => hFc q h) hFc (fun u t H1 locs ht hvm hw hB hz1 hk1 hS => ?_)
  obtain ⟨hP, hD, hK⟩ := kJ (wr := [(mo, .inr (19, [.int 0, .int 0, .int 0, .int 0, .int 0, .int 0, .int 0, .ref ti, .ref si, .ref lo, .ref lh, .ref lk, .ref sp, .ref st, .ref pa, .ref br, .ref sg, .int 0, .int 0, .int 0, .int 0, .int 0, .int 0, .long 0, .long 0, .long 0, .long 0, .int 0])), (lo, .inr (3, [.int 0, .ref (z 0), .int 0]))]) (w1 := [(q4, .inr (18, [.int 109, .int p1, .int 0, .int 0, .int 119, .int 0]))]) (t1 := []) hP hD hK [2] [0, 1] rfl rfl (by decide) (by decide) hk1 hFc ht hvm hB
  generalize H1 = H at hP hS ⊢
  have hP : va_P (dC, dI) vwCl [(mo, .inr (19, [.int 0, .int 0, .int 0, .int 0, .int 0, .int 0, .int 0, .ref ti, .ref si, .ref lo, .ref lh, .ref lk, .ref sp, .ref st, .ref pa, .ref br, .ref sg, .int 0, .int 0, .int 0, .int 0, .int 0, .int 0, .long 0, .long 0, .long 0, .long 0, .int 0])), (lo, .inr (3, [.int 0, .ref (z 0), .int 0])), (q4, .inr (18, [.int 109, .int p1, .int 0, .int 0, .int 119, .int 0]))] H := hP
  have hD : va_D A [(mo, .inr (19, [.int 0, .int 0, .int 0, .int 0, .int 0, .int 0, .int 0, .ref ti, .ref si, .ref lo, .ref lh, .ref lk, .ref sp, .ref st, .ref pa, .ref br, .ref sg, .int 0, .int 0, .int 0, .int 0, .int 0, .int 0, .long 0, .long 0, .long 0, .long 0, .int 0])), (lo, .inr (3, [.int 0, .ref (z 0), .int 0])), (q4, .inr (18, [.int 109, .int p1, .int 0, .int 0, .int 119, .int 0]))] := hD
  have hK : va_K (dC, dI) vwCl [] s := hK
  clear hw
  have hPc := hP.sub (ws' := [(lo, .inr (3, [.int 0, .ref (z 0), .int 0])), (q4, .inr (18, [.int 109, .int p1, .int 0, .int 0, .int 119, .int 0]))]) [1, 2] rfl
  have hDc := hD.sub (ws' := [(lo, .inr (3, [.int 0, .ref (z 0), .int 0])), (q4, .inr (18, [.int 109, .int p1, .int 0, .int 0, .int 119, .int 0]))]) [1, 2] (by decide) rfl
  have hKc := hK.sub (tys' := []) [] rfl
  have hFc := va_free (wc := [(lo, .inr (3, [.int 0, .ref (z 0), .int 0])), (q4, .inr (18, [.int 109, .int p1, .int 0, .int 0, .int 119, .int 0]))]) hD hS hA [1, 2] rfl
  refine va_callFi (va_runF (hK.1 3 _ rfl).2 (As := [.ref q4]) (rest := []) ⟨hx, hb, hml, hown, hts⟩ (k_add1_oo l dC dI z zK zV lo 0 q4 109 p1 0 0 119 0 H.size) (va_cwF 1 hts gX15_order_Jx4a65c_add_9ea2d_f169Jx4a65c rfl rfl rfl hM.2.2.2.2.2.2.2.2.2.2.1.2.2.2.2 (by decide +kernel) ⟨Nat.le_of_ble_eq_true rfl, Nat.le_of_ble_eq_true rfl⟩) ⟨kP_blind, va_recv hKc hPc (ci := 3) (q0 := 0) rfl rfl, kP_go hPc hKc hDc hFc hM hS⟩ rfl rfl hl.1 rfl (lv_room (Nat.le_of_ble_eq_true rfl)) dX15_order_177 ⟨Nat.le_of_ble_eq_true rfl, Nat.le_of_ble_eq_true rfl⟩) hS (fun q _ h => hFc q h) hFc (fun r5 u t H1 locs ht hvm hw hB hz1 hk1 hS => ?_)
  obtain ⟨q6, cA7, hB⟩ := hB
  obtain ⟨hP, hD, hK⟩ := kJ (wr := [(mo, .inr (19, [.int 0, .int 0, .int 0, .int 0, .int 0, .int 0, .int 0, .ref ti, .ref si, .ref lo, .ref lh, .ref lk, .ref sp, .ref st, .ref pa, .ref br, .ref sg, .int 0, .int 0, .int 0, .int 0, .int 0, .int 0, .long 0, .long 0, .long 0, .long 0, .int 0]))]) (w1 := [(q4, .inr (18, [.int 109, .int p1, .int 0, .int 0, .int 119, .int 0])), (lo, .inr (3, [.int (0 + 1), .ref q6, .int 1])), (q6, .inl (cA7, 10, .inr (.inr (.inr (.inr (va_up (fun _ => none) 0 (some q4)))))))]) (t1 := [(cA7, .object "java/lang/Object")]) hP hD hK [1, 2] [0] rfl rfl (by decide) (by decide) hk1 hFc ht hvm hB
  generalize H1 = H at hP hS ⊢
  have hP : va_P (dC, dI) vwCl [(mo, .inr (19, [.int 0, .int 0, .int 0, .int 0, .int 0, .int 0, .int 0, .ref ti, .ref si, .ref lo, .ref lh, .ref lk, .ref sp, .ref st, .ref pa, .ref br, .ref sg, .int 0, .int 0, .int 0, .int 0, .int 0, .int 0, .long 0, .long 0, .long 0, .long 0, .int 0])), (q4, .inr (18, [.int 109, .int p1, .int 0, .int 0, .int 119, .int 0])), (lo, .inr (3, [.int (0 + 1), .ref q6, .int 1])), (q6, .inl (cA7, 10, .inr (.inr (.inr (.inr (va_up (fun _ => none) 0 (some q4)))))))] H := hP
  have hD : va_D A [(mo, .inr (19, [.int 0, .int 0, .int 0, .int 0, .int 0, .int 0, .int 0, .ref ti, .ref si, .ref lo, .ref lh, .ref lk, .ref sp, .ref st, .ref pa, .ref br, .ref sg, .int 0, .int 0, .int 0, .int 0, .int 0, .int 0, .long 0, .long 0, .long 0, .long 0, .int 0])), (q4, .inr (18, [.int 109, .int p1, .int 0, .int 0, .int 119, .int 0])), (lo, .inr (3, [.int (0 + 1), .ref q6, .int 1])), (q6, .inl (cA7, 10, .inr (.inr (.inr (.inr (va_up (fun _ => none) 0 (some q4)))))))] := hD
  have hK : va_K (dC, dI) vwCl [(cA7, .object "java/lang/Object")] s := hK
  obtain rfl : 1 = r5 := hw
  refine lv_pop hx hb dX15_order_182 rfl ?_
  refine lv_aload_n hx hb dX15_order_183 rfl (lv_at hl 2 rfl) ?_
  refine va_get (D := (dC, dI)) (ci := 19) (v := .ref lo) (C := RX15) (T := TX15) (N := 28) hx hb hts hiX15 hown hK hP 0 rfl rfl 9 (by decide) (hts (.fieldLink RX15 19 "SquareRigModel" "orders" "Ljava/util/List;") (by decide +kernel)) (fun _ h9 => h9) rfl dX15_order_184 ?_
  have hPc := hP.sub (ws' := [(lo, .inr (3, [.int (0 + 1), .ref q6, .int 1]))]) [2] rfl
  have hDc := hD.sub (ws' := [(lo, .inr (3, [.int (0 + 1), .ref q6, .int 1]))]) [2] (by decide) rfl
  have hKc := hK.sub (tys' := []) [] rfl
  have hFc := va_free (wc := [(lo, .inr (3, [.int (0 + 1), .ref q6, .int 1]))]) hD hS hA [2] rfl
  refine va_callFi (va_runF (hK.1 3 _ rfl).2 (As := []) (rest := []) ⟨hx, hb, hml, hown, hts⟩ (k_size1 l dC dI z zK zV lo (0 + 1) q6 H.size) (va_cwF 0 hts gX15_order_Jx4a65c_size_8abf5_f156Jx4a65c rfl rfl rfl hM.2.2.2.2.2.2.2.2.2.2.1.2.2.1 (by decide +kernel) ⟨Nat.le_of_ble_eq_true rfl, Nat.le_of_ble_eq_true rfl⟩) ⟨kP_blind, va_recv hKc hPc (ci := 3) (q0 := 0) rfl rfl, kP_go hPc hKc hDc hFc hM hS⟩ rfl rfl hl.1 rfl (lv_room (Nat.le_of_ble_eq_true rfl)) dX15_order_187 ⟨Nat.le_of_ble_eq_true rfl, Nat.le_of_ble_eq_true rfl⟩) hS (fun q _ h => hFc q h) hFc (fun r8 u t H1 locs ht hvm hw hB hz1 hk1 hS => ?_)
  obtain ⟨hP, hD, hK⟩ := kJ (wr := [(mo, .inr (19, [.int 0, .int 0, .int 0, .int 0, .int 0, .int 0, .int 0, .ref ti, .ref si, .ref lo, .ref lh, .ref lk, .ref sp, .ref st, .ref pa, .ref br, .ref sg, .int 0, .int 0, .int 0, .int 0, .int 0, .int 0, .long 0, .long 0, .long 0, .long 0, .int 0])), (q4, .inr (18, [.int 109, .int p1, .int 0, .int 0, .int 119, .int 0])), (q6, .inl (cA7, 10, .inr (.inr (.inr (.inr (va_up (fun _ => none) 0 (some q4)))))))]) (w1 := [(lo, .inr (3, [.int (0 + 1), .ref q6, .int 1]))]) (t1 := []) hP hD hK [2] [0, 1, 3] rfl rfl (by decide) (by decide) hk1 hFc ht hvm hB
  generalize H1 = H at hP hS ⊢
  have hP : va_P (dC, dI) vwCl [(mo, .inr (19, [.int 0, .int 0, .int 0, .int 0, .int 0, .int 0, .int 0, .ref ti, .ref si, .ref lo, .ref lh, .ref lk, .ref sp, .ref st, .ref pa, .ref br, .ref sg, .int 0, .int 0, .int 0, .int 0, .int 0, .int 0, .long 0, .long 0, .long 0, .long 0, .int 0])), (q4, .inr (18, [.int 109, .int p1, .int 0, .int 0, .int 119, .int 0])), (q6, .inl (cA7, 10, .inr (.inr (.inr (.inr (va_up (fun _ => none) 0 (some q4))))))), (lo, .inr (3, [.int (0 + 1), .ref q6, .int 1]))] H := hP
  have hD : va_D A [(mo, .inr (19, [.int 0, .int 0, .int 0, .int 0, .int 0, .int 0, .int 0, .ref ti, .ref si, .ref lo, .ref lh, .ref lk, .ref sp, .ref st, .ref pa, .ref br, .ref sg, .int 0, .int 0, .int 0, .int 0, .int 0, .int 0, .long 0, .long 0, .long 0, .long 0, .int 0])), (q4, .inr (18, [.int 109, .int p1, .int 0, .int 0, .int 119, .int 0])), (q6, .inl (cA7, 10, .inr (.inr (.inr (.inr (va_up (fun _ => none) 0 (some q4))))))), (lo, .inr (3, [.int (0 + 1), .ref q6, .int 1]))] := hD
  have hK : va_K (dC, dI) vwCl [(cA7, .object "java/lang/Object")] s := hK
  obtain rfl : 1 = r8 := hw
  refine lv_iconst (v := 1) hx hb dX15_order_192 (by decide) ?_
  refine lv_isub hx hb dX15_order_193 ?_
  refine kc_i (y := 0) (by decide +kernel) ?_
  refine W.widen (k := 2) (n := 16) (Nat.le_of_ble_eq_true rfl) (Nat.le_of_ble_eq_true rfl) ?_
  exact W.iret (v := 0) hx hb hr (fun t ht hW => ⟨⟨0, (), rfl, rfl, kB_end (w9 := [(mo, .inr (19, [.int 0, .int 0, .int 0, .int 0, .int 0, .int 0, .int 0, .ref ti, .ref si, .ref lo, .ref lh, .ref lk, .ref sp, .ref st, .ref pa, .ref br, .ref sg, .int 0, .int 0, .int 0, .int 0, .int 0, .int 0, .long 0, .long 0, .long 0, .long 0, .int 0]))]) (t9 := []) hP hK hD [0] [] rfl (by decide) rfl rfl t ht hW⟩, hS.F ht⟩) hS.2.2 dX15_order_194
abbrev wd_k_m_order_b (z : Nat → Nat) (p1 : Int32) (p2 : Int32) (mo : Nat) (ti : Nat) (si : Nat) (lo : Nat) (lh : Nat) (lk : Nat) (sp : Nat) (st : Nat) (pa : Nat) (br : Nat) (sg : Nat) (th : Int32) : va_W := [(mo, .inr (19, [.int 0, .int 0, .int 0, .int 0, .int 0, .int 0, .int 0, .ref ti, .ref si, .ref lo, .ref lh, .ref lk, .ref sp, .ref st, .ref pa, .ref br, .ref sg, .int 0, .int 0, .int 0, .int 0, .int 0, .int 0, .long 0, .long 0, .long 0, .long 0, .int th])), (lo, .inr (3, [.int 0, .ref (z 0), .int 0]))]
set_option maxHeartbeats 4000000 in
set_option maxRecDepth 100000 in
theorem k_m_order_b (l : Launch) (dC : Nat → ClassId) (dI : Nat → Nat → Nat) (z zK zV : Nat → Nat) (p1 : Int32) (p2 : Int32) (mo : Nat) (ti : Nat) (si : Nat) (lo : Nat) (lh : Nat) (lk : Nat) (sp : Nat) (st : Nat) (pa : Nat) (br : Nat) (sg : Nat) (th : Int32) (sz : Nat) (hg0 : ((0 : Int32) ≤ p1 ∧ p1 ≤ 2) ∧ (-4 : Int32) ≤ p2 ∧ p2 ≤ 4) : Met l yX15_order wsX15_order ({ frames := 5, cells := 2, slots := 16, locals := 101 }) (kP dC dI z zK zV [.ref mo, .int 98, .int p1, .int p2] sz (wd_k_m_order_b z p1 p2 mo ti si lo lh lk sp st pa br sg th) []) (va_Qi (fun (r : Int32) (_ : Unit) => 0 = r) (fun _ t => kB (dC, dI) (va_A (wd_k_m_order_b z p1 p2 mo ti si lo lh lk sp st pa br sg th) sz) [(mo, .inr (19, [.int 0, .int 0, .int 0, .int 0, .int 0, .int 0, .int 0, .ref ti, .ref si, .ref lo, .ref lh, .ref lk, .ref sp, .ref st, .ref pa, .ref br, .ref sg, .int 0, .int 0, .int 0, .int 0, .int 0, .int 0, .long 0, .long 0, .long 0, .long 0, .int 0]))] [] t) (va_A (wd_k_m_order_b z p1 p2 mo ti si lo lh lk sp st pa br sg th) sz)) 2 16 (va_A (wd_k_m_order_b z p1 p2 mo ti si lo lh lk sp st pa br sg th) sz) := by
  refine Met.ofW (cc := cX15_order) (maxL := 6) (ret := (some .int)) (by decide) rfl ?_
  intro p e s m args below meth c s₁ B hml hv
  obtain ⟨rfl, hsz, hP, hK, hD0, hM⟩ := hv
  have hx := B.exec
  have hb := B.bytes
  have hr := B.returns
  have hts := atoms_spec (ws := wsX15_order) B.pre
  have hown : s.vm.findClass RX15 = some m.cls := findClass_of_methodNamed B.named
  have hlocks := B.notSynchronized
  have hiX15 : ∀ w ∈ u_ws RX15 TX15 28, w ∈ wsX15_order := by decide +kernel
  have hiX14 : ∀ w ∈ u_ws RX14 TX14 6, w ∈ wsX15_order := by decide +kernel
  subst hsz
  have hD := hD0.self (sz := s.heap.size)
  generalize hAe : va_A (wd_k_m_order_b z p1 p2 mo ti si lo lh lk sp st pa br sg th) s.heap.size = A at hD hM ⊢
  have hA : ∀ q : Nat, s.heap.size ≤ q → A q := fun q h => by rw [← hAe]; exact Or.inr h
  have hS : va_S A s.heap s.heap [] := va_S.rf
  have hP : va_P (dC, dI) vwCl [(mo, .inr (19, [.int 0, .int 0, .int 0, .int 0, .int 0, .int 0, .int 0, .ref ti, .ref si, .ref lo, .ref lh, .ref lk, .ref sp, .ref st, .ref pa, .ref br, .ref sg, .int 0, .int 0, .int 0, .int 0, .int 0, .int 0, .long 0, .long 0, .long 0, .long 0, .int th])), (lo, .inr (3, [.int 0, .ref (z 0), .int 0]))] s.heap := hP
  have hD : va_D A [(mo, .inr (19, [.int 0, .int 0, .int 0, .int 0, .int 0, .int 0, .int 0, .ref ti, .ref si, .ref lo, .ref lh, .ref lk, .ref sp, .ref st, .ref pa, .ref br, .ref sg, .int 0, .int 0, .int 0, .int 0, .int 0, .int 0, .long 0, .long 0, .long 0, .long 0, .int th])), (lo, .inr (3, [.int 0, .ref (z 0), .int 0]))] := hD
  have hl := lv_entry ([.ref mo, .int 98, .int p1, .int p2]) (n := 6) (Nat.le_of_ble_eq_true rfl)
  rw [lg_entry_eq]
  generalize (lg_sl ([.ref mo, .int 98, .int p1, .int p2]) ++ List.replicate (6 - (lg_sl ([.ref mo, .int 98, .int p1, .int p2])).length) Slot.unset).toArray = ls at hl ⊢
  have hl : lv_has ls 6 [(0, .ref mo), (1, .int 98), (2, .int p1), (3, .int p2)] := hl
  refine lv_iload_n hx hb dX15_order_0 rfl (lv_at hl 1 rfl) ?_
  refine lv_bipush (v := 115) hx hb dX15_order_1 (by decide) ?_
  refine lv_icmp_eq (tgt := 12) hx hb dX15_order_3 (by decide) (fun c_ => absurd c_ (by decide +kernel)) (fun _ => ?_)
  refine lv_iload_n hx hb dX15_order_6 rfl (lv_at hl 1 rfl) ?_
  refine lv_bipush (v := 109) hx hb dX15_order_7 (by decide) ?_
  refine lv_icmp_ne (tgt := 16) hx hb dX15_order_9 (by decide) (fun _ => ?_) (fun c_ => absurd c_ (by decide +kernel))
  refine lv_iconst (v := 0) hx hb dX15_order_16 (by decide) ?_
  refine lv_istore (lv' := [(4, .int 0), (0, .ref mo), (1, .int 98), (2, .int p1), (3, .int p2)]) hx hb dX15_order_17 hl (by decide) rfl (fun ls hl => ?_)
  refine va_ldcS hx hb hown (hM.2.2.1 0 _ rfl) dX15_order_19 ?_
  refine lv_iload_n hx hb dX15_order_21 rfl (lv_at hl 2 rfl) ?_
  have hPc := hP.sub (ws' := []) [] rfl
  have hDc := hD.sub (ws' := []) [] (by decide) rfl
  have hKc := hK.sub (tys' := []) [] rfl
  have hFc := va_free (wc := []) hD hS hA [] rfl
  refine va_calli (va_runV (As := [.int 98]) (rest := []) ⟨hx, hb, hml, hown, hts⟩ (k_ix3_98 l dC dI z zK zV  s.heap.size) (cwV 1 hts gX15_order_J0_indexOf_0f7a4 rfl rfl rfl (by decide +kernel) ⟨Nat.le_of_ble_eq_true rfl, Nat.le_of_ble_eq_true rfl⟩) ⟨kP_blind, vk_recv (i := 0) hM.2.2.2.1 (by decide) hS, kP_go hPc hKc hDc hFc hM hS⟩ rfl rfl hl.1 rfl (lv_room (Nat.le_of_ble_eq_true rfl)) dX15_order_22 ⟨Nat.le_of_ble_eq_true rfl, Nat.le_of_ble_eq_true rfl⟩) hS (fun q _ h => hFc q h) hFc (fun r1 u t H1 locs ht hvm hw hB hz1 hk1 hS => ?_)
  obtain ⟨hP, hD, hK⟩ := kJ (wr := [(mo, .inr (19, [.int 0, .int 0, .int 0, .int 0, .int 0, .int 0, .int 0, .ref ti, .ref si, .ref lo, .ref lh, .ref lk, .ref sp, .ref st, .ref pa, .ref br, .ref sg, .int 0, .int 0, .int 0, .int 0, .int 0, .int 0, .long 0, .long 0, .long 0, .long 0, .int th])), (lo, .inr (3, [.int 0, .ref (z 0), .int 0]))]) (w1 := []) (t1 := []) hP hD hK [] [0, 1] rfl rfl (by decide) (by decide) hk1 hFc ht hvm hB
  generalize H1 = H at hP hS ⊢
  have hP : va_P (dC, dI) vwCl [(mo, .inr (19, [.int 0, .int 0, .int 0, .int 0, .int 0, .int 0, .int 0, .ref ti, .ref si, .ref lo, .ref lh, .ref lk, .ref sp, .ref st, .ref pa, .ref br, .ref sg, .int 0, .int 0, .int 0, .int 0, .int 0, .int 0, .long 0, .long 0, .long 0, .long 0, .int th])), (lo, .inr (3, [.int 0, .ref (z 0), .int 0]))] H := hP
  have hD : va_D A [(mo, .inr (19, [.int 0, .int 0, .int 0, .int 0, .int 0, .int 0, .int 0, .ref ti, .ref si, .ref lo, .ref lh, .ref lk, .ref sp, .ref st, .ref pa, .ref br, .ref sg, .int 0, .int 0, .int 0, .int 0, .int 0, .int 0, .long 0, .long 0, .long 0, .long 0, .int th])), (lo, .inr (3, [.int 0, .ref (z 0), .int 0]))] := hD
  have hK : va_K (dC, dI) vwCl [] s := hK
  obtain rfl : 1 = r1 := hw
  refine lv_if_lt (tgt := 55) hx hb dX15_order_25 (by decide) (fun c_ => absurd c_ (by decide +kernel)) (fun _ => ?_)
  refine lv_iload_n hx hb dX15_order_28 rfl (lv_at hl 3 rfl) ?_
  refine lv_i2l (v := p1.toInt64) hx hb dX15_order_29 rfl ?_
  refine lv_lconst (v := 0) hx hb dX15_order_30 (by decide) ?_
  refine lv_iload hx hb dX15_order_31 (lv_at hl 0 rfl) ?_
  refine lv_if_eq (tgt := 42) hx hb dX15_order_33 (by decide) (fun _ => ?_) (fun c_ => absurd (by decide +kernel) c_)
  refine lv_ldc2 (v := 2) hx hb hown (hts (.constantLong RX15 150 2) (by decide +kernel)) dX15_order_42 ?_
  have hPc := hP.sub (ws' := []) [] rfl
  have hDc := hD.sub (ws' := []) [] (by decide) rfl
  have hKc := hK.sub (tys' := []) [] rfl
  have hFc := va_free (wc := []) hD hS hA [] rfl
  refine va_calli (va_runS (As := [.long p1.toInt64, .long 0, .long 2]) (rest := []) ⟨hx, hb, hml, hown, hts⟩ (k_in l dC dI z zK zV p1.toInt64 0 2 H.size) (va_cwS 3 hts gX15_order_X15_in rfl rfl rfl (by decide +kernel) ⟨Nat.le_of_ble_eq_true rfl, Nat.le_of_ble_eq_true rfl⟩) ⟨kP_blind, kP_go hPc hKc hDc hFc hM hS⟩ rfl rfl hl.1 rfl (lv_room (Nat.le_of_ble_eq_true rfl)) dX15_order_45 ⟨Nat.le_of_ble_eq_true rfl, Nat.le_of_ble_eq_true rfl⟩) hS (fun q _ h => hFc q h) hFc (fun r2 u t H1 locs ht hvm hw hB hz1 hk1 hS => ?_)
  obtain ⟨hP, hD, hK⟩ := kJ (wr := [(mo, .inr (19, [.int 0, .int 0, .int 0, .int 0, .int 0, .int 0, .int 0, .ref ti, .ref si, .ref lo, .ref lh, .ref lk, .ref sp, .ref st, .ref pa, .ref br, .ref sg, .int 0, .int 0, .int 0, .int 0, .int 0, .int 0, .long 0, .long 0, .long 0, .long 0, .int th])), (lo, .inr (3, [.int 0, .ref (z 0), .int 0]))]) (w1 := []) (t1 := []) hP hD hK [] [0, 1] rfl rfl (by decide) (by decide) hk1 hFc ht hvm hB
  generalize H1 = H at hP hS ⊢
  have hP : va_P (dC, dI) vwCl [(mo, .inr (19, [.int 0, .int 0, .int 0, .int 0, .int 0, .int 0, .int 0, .ref ti, .ref si, .ref lo, .ref lh, .ref lk, .ref sp, .ref st, .ref pa, .ref br, .ref sg, .int 0, .int 0, .int 0, .int 0, .int 0, .int 0, .long 0, .long 0, .long 0, .long 0, .int th])), (lo, .inr (3, [.int 0, .ref (z 0), .int 0]))] H := hP
  have hD : va_D A [(mo, .inr (19, [.int 0, .int 0, .int 0, .int 0, .int 0, .int 0, .int 0, .ref ti, .ref si, .ref lo, .ref lh, .ref lk, .ref sp, .ref st, .ref pa, .ref br, .ref sg, .int 0, .int 0, .int 0, .int 0, .int 0, .int 0, .long 0, .long 0, .long 0, .long 0, .int th])), (lo, .inr (3, [.int 0, .ref (z 0), .int 0]))] := hD
  have hK : va_K (dC, dI) vwCl [] s := hK
  obtain rfl : (if 0 ≤ (p1.toInt64) ∧ (p1.toInt64) ≤ 2 then (1 : Int32) else 0) = r2 := hw
  refine kc_i (y := (if 0 ≤ p1 ∧ p1 ≤ 2 then (1 : Int32) else 0)) (k_inP (a := 0) (b := 2) (by decide +kernel) (by decide +kernel)) ?_
  refine lv_if_eq (tgt := 55) hx hb dX15_order_48 (by decide) (fun c_ => absurd c_ (k_ifp hg0.1)) (fun _ => ?_)
  refine lv_iconst (v := 1) hx hb dX15_order_51 (by decide) ?_
  refine lv_goto (tgt := 56) hx hb dX15_order_52 (by decide) ?_
  refine lv_istore (lv' := [(5, .int 1), (4, .int 0), (0, .ref mo), (1, .int 98), (2, .int p1), (3, .int p2)]) hx hb dX15_order_56 hl (by decide) rfl (fun ls hl => ?_)
  refine lv_iload hx hb dX15_order_58 (lv_at hl 0 rfl) ?_
  refine lv_if_eq (tgt := 115) hx hb dX15_order_60 (by decide) (fun c_ => absurd c_ (by decide +kernel)) (fun _ => ?_)
  refine lv_iload_n hx hb dX15_order_63 rfl (lv_at hl 3 rfl) ?_
  refine lv_bipush (v := 115) hx hb dX15_order_64 (by decide) ?_
  refine lv_icmp_ne (tgt := 84) hx hb dX15_order_66 (by decide) (fun _ => ?_) (fun c_ => absurd c_ (by decide +kernel))
  refine lv_iload_n hx hb dX15_order_84 rfl (lv_at hl 3 rfl) ?_
  refine lv_bipush (v := 98) hx hb dX15_order_85 (by decide) ?_
  refine lv_icmp_ne (tgt := 107) hx hb dX15_order_87 (by decide) (fun c_ => absurd (by decide +kernel) c_) (fun _ => ?_)
  refine lv_iload_n hx hb dX15_order_90 rfl (lv_at hl 5 rfl) ?_
  refine lv_i2l (v := p2.toInt64) hx hb dX15_order_91 rfl ?_
  refine lv_ldc2 (v := (-4)) hx hb hown (hts (.constantLong RX15 152 (-4)) (by decide +kernel)) dX15_order_92 ?_
  refine lv_ldc2 (v := 4) hx hb hown (hts (.constantLong RX15 154 4) (by decide +kernel)) dX15_order_95 ?_
  have hPc := hP.sub (ws' := []) [] rfl
  have hDc := hD.sub (ws' := []) [] (by decide) rfl
  have hKc := hK.sub (tys' := []) [] rfl
  have hFc := va_free (wc := []) hD hS hA [] rfl
  refine va_calli (va_runS (As := [.long p2.toInt64, .long (-4), .long 4]) (rest := []) ⟨hx, hb, hml, hown, hts⟩ (k_in l dC dI z zK zV p2.toInt64 (-4) 4 H.size) (va_cwS 3 hts gX15_order_X15_in rfl rfl rfl (by decide +kernel) ⟨Nat.le_of_ble_eq_true rfl, Nat.le_of_ble_eq_true rfl⟩) ⟨kP_blind, kP_go hPc hKc hDc hFc hM hS⟩ rfl rfl hl.1 rfl (lv_room (Nat.le_of_ble_eq_true rfl)) dX15_order_98 ⟨Nat.le_of_ble_eq_true rfl, Nat.le_of_ble_eq_true rfl⟩) hS (fun q _ h => hFc q h) hFc (fun r3 u t H1 locs ht hvm hw hB hz1 hk1 hS => ?_)
  obtain ⟨hP, hD, hK⟩ := kJ (wr := [(mo, .inr (19, [.int 0, .int 0, .int 0, .int 0, .int 0, .int 0, .int 0, .ref ti, .ref si, .ref lo, .ref lh, .ref lk, .ref sp, .ref st, .ref pa, .ref br, .ref sg, .int 0, .int 0, .int 0, .int 0, .int 0, .int 0, .long 0, .long 0, .long 0, .long 0, .int th])), (lo, .inr (3, [.int 0, .ref (z 0), .int 0]))]) (w1 := []) (t1 := []) hP hD hK [] [0, 1] rfl rfl (by decide) (by decide) hk1 hFc ht hvm hB
  generalize H1 = H at hP hS ⊢
  have hP : va_P (dC, dI) vwCl [(mo, .inr (19, [.int 0, .int 0, .int 0, .int 0, .int 0, .int 0, .int 0, .ref ti, .ref si, .ref lo, .ref lh, .ref lk, .ref sp, .ref st, .ref pa, .ref br, .ref sg, .int 0, .int 0, .int 0, .int 0, .int 0, .int 0, .long 0, .long 0, .long 0, .long 0, .int th])), (lo, .inr (3, [.int 0, .ref (z 0), .int 0]))] H := hP
  have hD : va_D A [(mo, .inr (19, [.int 0, .int 0, .int 0, .int 0, .int 0, .int 0, .int 0, .ref ti, .ref si, .ref lo, .ref lh, .ref lk, .ref sp, .ref st, .ref pa, .ref br, .ref sg, .int 0, .int 0, .int 0, .int 0, .int 0, .int 0, .long 0, .long 0, .long 0, .long 0, .int th])), (lo, .inr (3, [.int 0, .ref (z 0), .int 0]))] := hD
  have hK : va_K (dC, dI) vwCl [] s := hK
  obtain rfl : (if (-4) ≤ (p2.toInt64) ∧ (p2.toInt64) ≤ 4 then (1 : Int32) else 0) = r3 := hw
  refine kc_i (y := (if (-4) ≤ p2 ∧ p2 ≤ 4 then (1 : Int32) else 0)) (k_inP (a := (-4)) (b := 4) (by decide +kernel) (by decide +kernel)) ?_
  refine lv_if_eq (tgt := 115) hx hb dX15_order_101 (by decide) (fun c_ => absurd c_ (k_ifp hg0.2)) (fun _ => ?_)
  refine lv_goto (tgt := 111) hx hb dX15_order_104 (by decide) ?_
  refine lv_iconst (v := 1) hx hb dX15_order_111 (by decide) ?_
  refine lv_goto (tgt := 116) hx hb dX15_order_112 (by decide) ?_
  refine lv_istore (lv' := [(5, .int 1), (4, .int 0), (0, .ref mo), (1, .int 98), (2, .int p1), (3, .int p2)]) hx hb dX15_order_116 hl (by decide) rfl (fun ls hl => ?_)
  refine lv_aload_n hx hb dX15_order_118 rfl (lv_at hl 2 rfl) ?_
  refine lv_iload hx hb dX15_order_119 (lv_at hl 0 rfl) ?_
  refine lv_if_ne (tgt := 128) hx hb dX15_order_121 (by decide) (fun _ => ?_) (fun c_ => absurd c_ (by decide +kernel))
  refine lv_aload_n hx hb dX15_order_128 rfl (lv_at hl 2 rfl) ?_
  refine va_get (D := (dC, dI)) (ci := 19) (v := .ref lo) (C := RX15) (T := TX15) (N := 28) hx hb hts hiX15 hown hK hP 0 rfl rfl 9 (by decide) (hts (.fieldLink RX15 19 "SquareRigModel" "orders" "Ljava/util/List;") (by decide +kernel)) (fun _ h9 => h9) rfl dX15_order_129 ?_
  have hPc := hP.sub (ws' := [(lo, .inr (3, [.int 0, .ref (z 0), .int 0]))]) [1] rfl
  have hDc := hD.sub (ws' := [(lo, .inr (3, [.int 0, .ref (z 0), .int 0]))]) [1] (by decide) rfl
  have hKc := hK.sub (tys' := []) [] rfl
  have hFc := va_free (wc := [(lo, .inr (3, [.int 0, .ref (z 0), .int 0]))]) hD hS hA [1] rfl
  refine va_callFi (va_runF (hK.1 3 _ rfl).2 (As := []) (rest := [.ref mo]) ⟨hx, hb, hml, hown, hts⟩ (k_size0 l dC dI z zK zV lo H.size) (va_cwF 0 hts gX15_order_Jx4a65c_size_8abf5_f156Jx4a65c rfl rfl rfl hM.2.2.2.2.2.2.2.2.2.2.1.2.2.1 (by decide +kernel) ⟨Nat.le_of_ble_eq_true rfl, Nat.le_of_ble_eq_true rfl⟩) ⟨kP_blind, va_recv hKc hPc (ci := 3) (q0 := 0) rfl rfl, kP_go hPc hKc hDc hFc hM hS⟩ rfl rfl hl.1 rfl (lv_room (Nat.le_of_ble_eq_true rfl)) dX15_order_132 ⟨Nat.le_of_ble_eq_true rfl, Nat.le_of_ble_eq_true rfl⟩) hS (fun q _ h => hFc q h) hFc (fun r4 u t H1 locs ht hvm hw hB hz1 hk1 hS => ?_)
  obtain ⟨hP, hD, hK⟩ := kJ (wr := [(mo, .inr (19, [.int 0, .int 0, .int 0, .int 0, .int 0, .int 0, .int 0, .ref ti, .ref si, .ref lo, .ref lh, .ref lk, .ref sp, .ref st, .ref pa, .ref br, .ref sg, .int 0, .int 0, .int 0, .int 0, .int 0, .int 0, .long 0, .long 0, .long 0, .long 0, .int th]))]) (w1 := [(lo, .inr (3, [.int 0, .ref (z 0), .int 0]))]) (t1 := []) hP hD hK [1] [0] rfl rfl (by decide) (by decide) hk1 hFc ht hvm hB
  generalize H1 = H at hP hS ⊢
  have hP : va_P (dC, dI) vwCl [(mo, .inr (19, [.int 0, .int 0, .int 0, .int 0, .int 0, .int 0, .int 0, .ref ti, .ref si, .ref lo, .ref lh, .ref lk, .ref sp, .ref st, .ref pa, .ref br, .ref sg, .int 0, .int 0, .int 0, .int 0, .int 0, .int 0, .long 0, .long 0, .long 0, .long 0, .int th])), (lo, .inr (3, [.int 0, .ref (z 0), .int 0]))] H := hP
  have hD : va_D A [(mo, .inr (19, [.int 0, .int 0, .int 0, .int 0, .int 0, .int 0, .int 0, .ref ti, .ref si, .ref lo, .ref lh, .ref lk, .ref sp, .ref st, .ref pa, .ref br, .ref sg, .int 0, .int 0, .int 0, .int 0, .int 0, .int 0, .long 0, .long 0, .long 0, .long 0, .int th])), (lo, .inr (3, [.int 0, .ref (z 0), .int 0]))] := hD
  have hK : va_K (dC, dI) vwCl [] s := hK
  obtain rfl : 0 = r4 := hw
  refine lv_bipush (v := 100) hx hb dX15_order_137 (by decide) ?_
  refine lv_icmp_ne (tgt := 146) hx hb dX15_order_139 (by decide) (fun _ => ?_) (fun c_ => absurd c_ (by decide +kernel))
  refine lv_iconst (v := 0) hx hb dX15_order_146 (by decide) ?_
  refine va_put (D := (dC, dI)) (ci := 19) (v := .int 0) (ty := .int) (C := RX15) (T := TX15) (N := 28) hx hb hts hiX15 tyX15 tyX15_ok nmX15 hown hK hP hD hS 0 rfl rfl 27 (by decide) (hts (.fieldLink RX15 45 "SquareRigModel" "thrown" "I") (by decide +kernel)) (fun _ h9 => h9) rfl (by decide +kernel) rfl rfl (Nat.le_of_ble_eq_true rfl) dX15_order_147 (fun H locs hP hD hS => ?_)
  have hP : va_P (dC, dI) vwCl [(mo, .inr (19, [.int 0, .int 0, .int 0, .int 0, .int 0, .int 0, .int 0, .ref ti, .ref si, .ref lo, .ref lh, .ref lk, .ref sp, .ref st, .ref pa, .ref br, .ref sg, .int 0, .int 0, .int 0, .int 0, .int 0, .int 0, .long 0, .long 0, .long 0, .long 0, .int 0])), (lo, .inr (3, [.int 0, .ref (z 0), .int 0]))] H := hP
  have hD : va_D A [(mo, .inr (19, [.int 0, .int 0, .int 0, .int 0, .int 0, .int 0, .int 0, .ref ti, .ref si, .ref lo, .ref lh, .ref lk, .ref sp, .ref st, .ref pa, .ref br, .ref sg, .int 0, .int 0, .int 0, .int 0, .int 0, .int 0, .long 0, .long 0, .long 0, .long 0, .int 0])), (lo, .inr (3, [.int 0, .ref (z 0), .int 0]))] := hD
  refine lv_aload_n hx hb dX15_order_150 rfl (lv_at hl 2 rfl) ?_
  refine va_get (D := (dC, dI)) (ci := 19) (v := .int 0) (C := RX15) (T := TX15) (N := 28) hx hb hts hiX15 hown hK hP 0 rfl rfl 27 (by decide) (hts (.fieldLink RX15 45 "SquareRigModel" "thrown" "I") (by decide +kernel)) (fun _ h9 => h9) rfl dX15_order_151 ?_
  refine lv_if_le (tgt := 159) hx hb dX15_order_154 (by decide) (fun _ => ?_) (fun c_ => absurd (by decide +kernel) c_)
  refine lv_aload_n hx hb dX15_order_159 rfl (lv_at hl 2 rfl) ?_
  refine va_get (D := (dC, dI)) (ci := 19) (v := .ref lo) (C := RX15) (T := TX15) (N := 28) hx hb hts hiX15 hown hK hP 0 rfl rfl 9 (by decide) (hts (.fieldLink RX15 19 "SquareRigModel" "orders" "Ljava/util/List;") (by decide +kernel)) (fun _ h9 => h9) rfl dX15_order_160 ?_
  refine va_new (ci := 18) (fs := [.int 0, .int 0, .int 0, .int 0, .int 0, .int 0]) (C := RX14) (T := TX14) (N := 6) hx hb hts hiX14 tyX14 tyX14_ok hown (hts (.classLink RX15 161 RX14) (by decide +kernel)) (hts (.instantiable RX14 6) (by decide +kernel)) (hts (.initialized RX14) (by decide +kernel)) hK hP hD hS hA rfl (fun j hj => by rcases (show j = 0 ∨ j = 1 ∨ j = 2 ∨ j = 3 ∨ j = 4 ∨ j = 5 by omega) with rfl | rfl | rfl | rfl | rfl | rfl <;> rfl) (Nat.le_of_ble_eq_true rfl) (Nat.le_of_ble_eq_true rfl) dX15_order_163 (fun q5 H hP hD hS => ?_)
  have hP : va_P (dC, dI) vwCl [(mo, .inr (19, [.int 0, .int 0, .int 0, .int 0, .int 0, .int 0, .int 0, .ref ti, .ref si, .ref lo, .ref lh, .ref lk, .ref sp, .ref st, .ref pa, .ref br, .ref sg, .int 0, .int 0, .int 0, .int 0, .int 0, .int 0, .long 0, .long 0, .long 0, .long 0, .int 0])), (lo, .inr (3, [.int 0, .ref (z 0), .int 0])), (q5, .inr (18, [.int 0, .int 0, .int 0, .int 0, .int 0, .int 0]))] H := hP
  have hD : va_D A [(mo, .inr (19, [.int 0, .int 0, .int 0, .int 0, .int 0, .int 0, .int 0, .ref ti, .ref si, .ref lo, .ref lh, .ref lk, .ref sp, .ref st, .ref pa, .ref br, .ref sg, .int 0, .int 0, .int 0, .int 0, .int 0, .int 0, .long 0, .long 0, .long 0, .long 0, .int 0])), (lo, .inr (3, [.int 0, .ref (z 0), .int 0])), (q5, .inr (18, [.int 0, .int 0, .int 0, .int 0, .int 0, .int 0]))] := hD
  refine lv_dup hx hb dX15_order_166 rfl ?_
  refine lv_iload_n hx hb dX15_order_167 rfl (lv_at hl 3 rfl) ?_
  refine lv_iload_n hx hb dX15_order_168 rfl (lv_at hl 4 rfl) ?_
  refine lv_iload_n hx hb dX15_order_169 rfl (lv_at hl 5 rfl) ?_
  refine lv_aload_n hx hb dX15_order_170 rfl (lv_at hl 2 rfl) ?_
  refine va_get (D := (dC, dI)) (ci := 19) (v := .int 0) (C := RX15) (T := TX15) (N := 28) hx hb hts hiX15 hown hK hP 0 rfl rfl 17 (by decide) (hts (.fieldLink RX15 163 "SquareRigModel" "minute" "I") (by decide +kernel)) (fun _ h9 => h9) rfl dX15_order_171 ?_
  have hPc := hP.sub (ws' := [(q5, .inr (18, [.int 0, .int 0, .int 0, .int 0, .int 0, .int 0]))]) [2] rfl
  have hDc := hD.sub (ws' := [(q5, .inr (18, [.int 0, .int 0, .int 0, .int 0, .int 0, .int 0]))]) [2] (by decide) rfl
  have hKc := hK.sub (tys' := []) [] rfl
  have hFc := va_free (wc := [(q5, .inr (18, [.int 0, .int 0, .int 0, .int 0, .int 0, .int 0]))]) hD hS hA [2] rfl
  refine va_callv (va_runI (As := [.int 98, .int p1, .int p2, .int 0]) (rest := [.ref q5, .ref lo]) ⟨hx, hb, hml, hown, hts⟩ (k_MOrder_init98 l dC dI z zK zV q5 p1 p2 0 H.size) (cwI 4 hts gX15_order_X14_init rfl rfl rfl (hts (.initialized RX14) (by decide +kernel)) (hts (.methodLink RX15 166 yX14_init) (by decide +kernel)) (hts (.instanceMethod yX14_init) (by decide +kernel)) rfl (by decide +kernel) ⟨Nat.le_of_ble_eq_true rfl, Nat.le_of_ble_eq_true rfl⟩) ⟨kP_blind, kP_go hPc hKc hDc hFc hM hS⟩ rfl rfl hl.1 rfl (lv_room (Nat.le_of_ble_eq_true rfl)) dX15_order_174 ⟨Nat.le_of_ble_eq_true rfl, Nat.le_of_ble_eq_true rfl⟩) hS (fun q _ h => hFc q h) hFc (fun u t H1 locs ht hvm hw hB hz1 hk1 hS => ?_)
  obtain ⟨hP, hD, hK⟩ := kJ (wr := [(mo, .inr (19, [.int 0, .int 0, .int 0, .int 0, .int 0, .int 0, .int 0, .ref ti, .ref si, .ref lo, .ref lh, .ref lk, .ref sp, .ref st, .ref pa, .ref br, .ref sg, .int 0, .int 0, .int 0, .int 0, .int 0, .int 0, .long 0, .long 0, .long 0, .long 0, .int 0])), (lo, .inr (3, [.int 0, .ref (z 0), .int 0]))]) (w1 := [(q5, .inr (18, [.int 98, .int p1, .int p2, .int 0, .int 119, .int 0]))]) (t1 := []) hP hD hK [2] [0, 1] rfl rfl (by decide) (by decide) hk1 hFc ht hvm hB
  generalize H1 = H at hP hS ⊢
  have hP : va_P (dC, dI) vwCl [(mo, .inr (19, [.int 0, .int 0, .int 0, .int 0, .int 0, .int 0, .int 0, .ref ti, .ref si, .ref lo, .ref lh, .ref lk, .ref sp, .ref st, .ref pa, .ref br, .ref sg, .int 0, .int 0, .int 0, .int 0, .int 0, .int 0, .long 0, .long 0, .long 0, .long 0, .int 0])), (lo, .inr (3, [.int 0, .ref (z 0), .int 0])), (q5, .inr (18, [.int 98, .int p1, .int p2, .int 0, .int 119, .int 0]))] H := hP
  have hD : va_D A [(mo, .inr (19, [.int 0, .int 0, .int 0, .int 0, .int 0, .int 0, .int 0, .ref ti, .ref si, .ref lo, .ref lh, .ref lk, .ref sp, .ref st, .ref pa, .ref br, .ref sg, .int 0, .int 0, .int 0, .int 0, .int 0, .int 0, .long 0, .long 0, .long 0, .long 0, .int 0])), (lo, .inr (3, [.int 0, .ref (z 0), .int 0])), (q5, .inr (18, [.int 98, .int p1, .int p2, .int 0, .int 119, .int 0]))] := hD
  have hK : va_K (dC, dI) vwCl [] s := hK
  clear hw
  have hPc := hP.sub (ws' := [(lo, .inr (3, [.int 0, .ref (z 0), .int 0])), (q5, .inr (18, [.int 98, .int p1, .int p2, .int 0, .int 119, .int 0]))]) [1, 2] rfl
  have hDc := hD.sub (ws' := [(lo, .inr (3, [.int 0, .ref (z 0), .int 0])), (q5, .inr (18, [.int 98, .int p1, .int p2, .int 0, .int 119, .int 0]))]) [1, 2] (by decide) rfl
  have hKc := hK.sub (tys' := []) [] rfl
  have hFc := va_free (wc := [(lo, .inr (3, [.int 0, .ref (z 0), .int 0])), (q5, .inr (18, [.int 98, .int p1, .int p2, .int 0, .int 119, .int 0]))]) hD hS hA [1, 2] rfl
  refine va_callFi (va_runF (hK.1 3 _ rfl).2 (As := [.ref q5]) (rest := []) ⟨hx, hb, hml, hown, hts⟩ (k_add1_oo l dC dI z zK zV lo 0 q5 98 p1 p2 0 119 0 H.size) (va_cwF 1 hts gX15_order_Jx4a65c_add_9ea2d_f169Jx4a65c rfl rfl rfl hM.2.2.2.2.2.2.2.2.2.2.1.2.2.2.2 (by decide +kernel) ⟨Nat.le_of_ble_eq_true rfl, Nat.le_of_ble_eq_true rfl⟩) ⟨kP_blind, va_recv hKc hPc (ci := 3) (q0 := 0) rfl rfl, kP_go hPc hKc hDc hFc hM hS⟩ rfl rfl hl.1 rfl (lv_room (Nat.le_of_ble_eq_true rfl)) dX15_order_177 ⟨Nat.le_of_ble_eq_true rfl, Nat.le_of_ble_eq_true rfl⟩) hS (fun q _ h => hFc q h) hFc (fun r6 u t H1 locs ht hvm hw hB hz1 hk1 hS => ?_)
  obtain ⟨q7, cA8, hB⟩ := hB
  obtain ⟨hP, hD, hK⟩ := kJ (wr := [(mo, .inr (19, [.int 0, .int 0, .int 0, .int 0, .int 0, .int 0, .int 0, .ref ti, .ref si, .ref lo, .ref lh, .ref lk, .ref sp, .ref st, .ref pa, .ref br, .ref sg, .int 0, .int 0, .int 0, .int 0, .int 0, .int 0, .long 0, .long 0, .long 0, .long 0, .int 0]))]) (w1 := [(q5, .inr (18, [.int 98, .int p1, .int p2, .int 0, .int 119, .int 0])), (lo, .inr (3, [.int (0 + 1), .ref q7, .int 1])), (q7, .inl (cA8, 10, .inr (.inr (.inr (.inr (va_up (fun _ => none) 0 (some q5)))))))]) (t1 := [(cA8, .object "java/lang/Object")]) hP hD hK [1, 2] [0] rfl rfl (by decide) (by decide) hk1 hFc ht hvm hB
  generalize H1 = H at hP hS ⊢
  have hP : va_P (dC, dI) vwCl [(mo, .inr (19, [.int 0, .int 0, .int 0, .int 0, .int 0, .int 0, .int 0, .ref ti, .ref si, .ref lo, .ref lh, .ref lk, .ref sp, .ref st, .ref pa, .ref br, .ref sg, .int 0, .int 0, .int 0, .int 0, .int 0, .int 0, .long 0, .long 0, .long 0, .long 0, .int 0])), (q5, .inr (18, [.int 98, .int p1, .int p2, .int 0, .int 119, .int 0])), (lo, .inr (3, [.int (0 + 1), .ref q7, .int 1])), (q7, .inl (cA8, 10, .inr (.inr (.inr (.inr (va_up (fun _ => none) 0 (some q5)))))))] H := hP
  have hD : va_D A [(mo, .inr (19, [.int 0, .int 0, .int 0, .int 0, .int 0, .int 0, .int 0, .ref ti, .ref si, .ref lo, .ref lh, .ref lk, .ref sp, .ref st, .ref pa, .ref br, .ref sg, .int 0, .int 0, .int 0, .int 0, .int 0, .int 0, .long 0, .long 0, .long 0, .long 0, .int 0])), (q5, .inr (18, [.int 98, .int p1, .int p2, .int 0, .int 119, .int 0])), (lo, .inr (3, [.int (0 + 1), .ref q7, .int 1])), (q7, .inl (cA8, 10, .inr (.inr (.inr (.inr (va_up (fun _ => none) 0 (some q5)))))))] := hD
  have hK : va_K (dC, dI) vwCl [(cA8, .object "java/lang/Object")] s := hK
  obtain rfl : 1 = r6 := hw
  refine lv_pop hx hb dX15_order_182 rfl ?_
  refine lv_aload_n hx hb dX15_order_183 rfl (lv_at hl 2 rfl) ?_
  refine va_get (D := (dC, dI)) (ci := 19) (v := .ref lo) (C := RX15) (T := TX15) (N := 28) hx hb hts hiX15 hown hK hP 0 rfl rfl 9 (by decide) (hts (.fieldLink RX15 19 "SquareRigModel" "orders" "Ljava/util/List;") (by decide +kernel)) (fun _ h9 => h9) rfl dX15_order_184 ?_
  have hPc := hP.sub (ws' := [(lo, .inr (3, [.int (0 + 1), .ref q7, .int 1]))]) [2] rfl
  have hDc := hD.sub (ws' := [(lo, .inr (3, [.int (0 + 1), .ref q7, .int 1]))]) [2] (by decide) rfl
  have hKc := hK.sub (tys' := []) [] rfl
  have hFc := va_free (wc := [(lo, .inr (3, [.int (0 + 1), .ref q7, .int 1]))]) hD hS hA [2] rfl
  refine va_callFi (va_runF (hK.1 3 _ rfl).2 (As := []) (rest := []) ⟨hx, hb, hml, hown, hts⟩ (k_size1 l dC dI z zK zV lo (0 + 1) q7 H.size) (va_cwF 0 hts gX15_order_Jx4a65c_size_8abf5_f156Jx4a65c rfl rfl rfl hM.2.2.2.2.2.2.2.2.2.2.1.2.2.1 (by decide +kernel) ⟨Nat.le_of_ble_eq_true rfl, Nat.le_of_ble_eq_true rfl⟩) ⟨kP_blind, va_recv hKc hPc (ci := 3) (q0 := 0) rfl rfl, kP_go hPc hKc hDc hFc hM hS⟩ rfl rfl hl.1 rfl (lv_room (Nat.le_of_ble_eq_true rfl)) dX15_order_187 ⟨Nat.le_of_ble_eq_true rfl, Nat.le_of_ble_eq_true rfl⟩) hS (fun q _ h => hFc q h) hFc (fun r9 u t H1 locs ht hvm hw hB hz1 hk1 hS => ?_)
  obtain ⟨hP, hD, hK⟩ := kJ (wr := [(mo, .inr (19, [.int 0, .int 0, .int 0, .int 0, .int 0, .int 0, .int 0, .ref ti, .ref si, .ref lo, .ref lh, .ref lk, .ref sp, .ref st, .ref pa, .ref br, .ref sg, .int 0, .int 0, .int 0, .int 0, .int 0, .int 0, .long 0, .long 0, .long 0, .long 0, .int 0])), (q5, .inr (18, [.int 98, .int p1, .int p2, .int 0, .int 119, .int 0])), (q7, .inl (cA8, 10, .inr (.inr (.inr (.inr (va_up (fun _ => none) 0 (some q5)))))))]) (w1 := [(lo, .inr (3, [.int (0 + 1), .ref q7, .int 1]))]) (t1 := []) hP hD hK [2] [0, 1, 3] rfl rfl (by decide) (by decide) hk1 hFc ht hvm hB
  generalize H1 = H at hP hS ⊢
  have hP : va_P (dC, dI) vwCl [(mo, .inr (19, [.int 0, .int 0, .int 0, .int 0, .int 0, .int 0, .int 0, .ref ti, .ref si, .ref lo, .ref lh, .ref lk, .ref sp, .ref st, .ref pa, .ref br, .ref sg, .int 0, .int 0, .int 0, .int 0, .int 0, .int 0, .long 0, .long 0, .long 0, .long 0, .int 0])), (q5, .inr (18, [.int 98, .int p1, .int p2, .int 0, .int 119, .int 0])), (q7, .inl (cA8, 10, .inr (.inr (.inr (.inr (va_up (fun _ => none) 0 (some q5))))))), (lo, .inr (3, [.int (0 + 1), .ref q7, .int 1]))] H := hP
  have hD : va_D A [(mo, .inr (19, [.int 0, .int 0, .int 0, .int 0, .int 0, .int 0, .int 0, .ref ti, .ref si, .ref lo, .ref lh, .ref lk, .ref sp, .ref st, .ref pa, .ref br, .ref sg, .int 0, .int 0, .int 0, .int 0, .int 0, .int 0, .long 0, .long 0, .long 0, .long 0, .int 0])), (q5, .inr (18, [.int 98, .int p1, .int p2, .int 0, .int 119, .int 0])), (q7, .inl (cA8, 10, .inr (.inr (.inr (.inr (va_up (fun _ => none) 0 (some q5))))))), (lo, .inr (3, [.int (0 + 1), .ref q7, .int 1]))] := hD
  have hK : va_K (dC, dI) vwCl [(cA8, .object "java/lang/Object")] s := hK
  obtain rfl : 1 = r9 := hw
  refine lv_iconst (v := 1) hx hb dX15_order_192 (by decide) ?_
  refine lv_isub hx hb dX15_order_193 ?_
  refine kc_i (y := 0) (by decide +kernel) ?_
  refine W.widen (k := 2) (n := 16) (Nat.le_of_ble_eq_true rfl) (Nat.le_of_ble_eq_true rfl) ?_
  exact W.iret (v := 0) hx hb hr (fun t ht hW => ⟨⟨0, (), rfl, rfl, kB_end (w9 := [(mo, .inr (19, [.int 0, .int 0, .int 0, .int 0, .int 0, .int 0, .int 0, .ref ti, .ref si, .ref lo, .ref lh, .ref lk, .ref sp, .ref st, .ref pa, .ref br, .ref sg, .int 0, .int 0, .int 0, .int 0, .int 0, .int 0, .long 0, .long 0, .long 0, .long 0, .int 0]))]) (t9 := []) hP hK hD [0] [] rfl (by decide) rfl rfl t ht hW⟩, hS.F ht⟩) hS.2.2 dX15_order_194
abbrev wd_k_m_order_r (z : Nat → Nat) (p1 : Int32) (mo : Nat) (ti : Nat) (si : Nat) (lo : Nat) (lh : Nat) (lk : Nat) (sp : Nat) (st : Nat) (pa : Nat) (br : Nat) (sg : Nat) (th : Int32) : va_W := [(mo, .inr (19, [.int 0, .int 0, .int 0, .int 0, .int 0, .int 0, .int 0, .ref ti, .ref si, .ref lo, .ref lh, .ref lk, .ref sp, .ref st, .ref pa, .ref br, .ref sg, .int 0, .int 0, .int 0, .int 0, .int 0, .int 0, .long 0, .long 0, .long 0, .long 0, .int th])), (lo, .inr (3, [.int 0, .ref (z 0), .int 0]))]
set_option maxHeartbeats 4000000 in
set_option maxRecDepth 100000 in
theorem k_m_order_r (l : Launch) (dC : Nat → ClassId) (dI : Nat → Nat → Nat) (z zK zV : Nat → Nat) (p1 : Int32) (mo : Nat) (ti : Nat) (si : Nat) (lo : Nat) (lh : Nat) (lk : Nat) (sp : Nat) (st : Nat) (pa : Nat) (br : Nat) (sg : Nat) (th : Int32) (sz : Nat) (hg0 : (0 : Int32) ≤ p1 ∧ p1 ≤ 2) : Met l yX15_order wsX15_order ({ frames := 5, cells := 2, slots := 16, locals := 101 }) (kP dC dI z zK zV [.ref mo, .int 114, .int p1, .int 0] sz (wd_k_m_order_r z p1 mo ti si lo lh lk sp st pa br sg th) []) (va_Qi (fun (r : Int32) (_ : Unit) => 0 = r) (fun _ t => kB (dC, dI) (va_A (wd_k_m_order_r z p1 mo ti si lo lh lk sp st pa br sg th) sz) [(mo, .inr (19, [.int 0, .int 0, .int 0, .int 0, .int 0, .int 0, .int 0, .ref ti, .ref si, .ref lo, .ref lh, .ref lk, .ref sp, .ref st, .ref pa, .ref br, .ref sg, .int 0, .int 0, .int 0, .int 0, .int 0, .int 0, .long 0, .long 0, .long 0, .long 0, .int 0]))] [] t) (va_A (wd_k_m_order_r z p1 mo ti si lo lh lk sp st pa br sg th) sz)) 2 16 (va_A (wd_k_m_order_r z p1 mo ti si lo lh lk sp st pa br sg th) sz) := by
  refine Met.ofW (cc := cX15_order) (maxL := 6) (ret := (some .int)) (by decide) rfl ?_
  intro p e s m args below meth c s₁ B hml hv
  obtain ⟨rfl, hsz, hP, hK, hD0, hM⟩ := hv
  have hx := B.exec
  have hb := B.bytes
  have hr := B.returns
  have hts := atoms_spec (ws := wsX15_order) B.pre
  have hown : s.vm.findClass RX15 = some m.cls := findClass_of_methodNamed B.named
  have hlocks := B.notSynchronized
  have hiX15 : ∀ w ∈ u_ws RX15 TX15 28, w ∈ wsX15_order := by decide +kernel
  have hiX14 : ∀ w ∈ u_ws RX14 TX14 6, w ∈ wsX15_order := by decide +kernel
  subst hsz
  have hD := hD0.self (sz := s.heap.size)
  generalize hAe : va_A (wd_k_m_order_r z p1 mo ti si lo lh lk sp st pa br sg th) s.heap.size = A at hD hM ⊢
  have hA : ∀ q : Nat, s.heap.size ≤ q → A q := fun q h => by rw [← hAe]; exact Or.inr h
  have hS : va_S A s.heap s.heap [] := va_S.rf
  have hP : va_P (dC, dI) vwCl [(mo, .inr (19, [.int 0, .int 0, .int 0, .int 0, .int 0, .int 0, .int 0, .ref ti, .ref si, .ref lo, .ref lh, .ref lk, .ref sp, .ref st, .ref pa, .ref br, .ref sg, .int 0, .int 0, .int 0, .int 0, .int 0, .int 0, .long 0, .long 0, .long 0, .long 0, .int th])), (lo, .inr (3, [.int 0, .ref (z 0), .int 0]))] s.heap := hP
  have hD : va_D A [(mo, .inr (19, [.int 0, .int 0, .int 0, .int 0, .int 0, .int 0, .int 0, .ref ti, .ref si, .ref lo, .ref lh, .ref lk, .ref sp, .ref st, .ref pa, .ref br, .ref sg, .int 0, .int 0, .int 0, .int 0, .int 0, .int 0, .long 0, .long 0, .long 0, .long 0, .int th])), (lo, .inr (3, [.int 0, .ref (z 0), .int 0]))] := hD
  have hl := lv_entry ([.ref mo, .int 114, .int p1, .int 0]) (n := 6) (Nat.le_of_ble_eq_true rfl)
  rw [lg_entry_eq]
  generalize (lg_sl ([.ref mo, .int 114, .int p1, .int 0]) ++ List.replicate (6 - (lg_sl ([.ref mo, .int 114, .int p1, .int 0])).length) Slot.unset).toArray = ls at hl ⊢
  have hl : lv_has ls 6 [(0, .ref mo), (1, .int 114), (2, .int p1), (3, .int 0)] := hl
  refine lv_iload_n hx hb dX15_order_0 rfl (lv_at hl 1 rfl) ?_
  refine lv_bipush (v := 115) hx hb dX15_order_1 (by decide) ?_
  refine lv_icmp_eq (tgt := 12) hx hb dX15_order_3 (by decide) (fun c_ => absurd c_ (by decide +kernel)) (fun _ => ?_)
  refine lv_iload_n hx hb dX15_order_6 rfl (lv_at hl 1 rfl) ?_
  refine lv_bipush (v := 109) hx hb dX15_order_7 (by decide) ?_
  refine lv_icmp_ne (tgt := 16) hx hb dX15_order_9 (by decide) (fun _ => ?_) (fun c_ => absurd c_ (by decide +kernel))
  refine lv_iconst (v := 0) hx hb dX15_order_16 (by decide) ?_
  refine lv_istore (lv' := [(4, .int 0), (0, .ref mo), (1, .int 114), (2, .int p1), (3, .int 0)]) hx hb dX15_order_17 hl (by decide) rfl (fun ls hl => ?_)
  refine va_ldcS hx hb hown (hM.2.2.1 0 _ rfl) dX15_order_19 ?_
  refine lv_iload_n hx hb dX15_order_21 rfl (lv_at hl 2 rfl) ?_
  have hPc := hP.sub (ws' := []) [] rfl
  have hDc := hD.sub (ws' := []) [] (by decide) rfl
  have hKc := hK.sub (tys' := []) [] rfl
  have hFc := va_free (wc := []) hD hS hA [] rfl
  refine va_calli (va_runV (As := [.int 114]) (rest := []) ⟨hx, hb, hml, hown, hts⟩ (k_ix3_114 l dC dI z zK zV  s.heap.size) (cwV 1 hts gX15_order_J0_indexOf_0f7a4 rfl rfl rfl (by decide +kernel) ⟨Nat.le_of_ble_eq_true rfl, Nat.le_of_ble_eq_true rfl⟩) ⟨kP_blind, vk_recv (i := 0) hM.2.2.2.1 (by decide) hS, kP_go hPc hKc hDc hFc hM hS⟩ rfl rfl hl.1 rfl (lv_room (Nat.le_of_ble_eq_true rfl)) dX15_order_22 ⟨Nat.le_of_ble_eq_true rfl, Nat.le_of_ble_eq_true rfl⟩) hS (fun q _ h => hFc q h) hFc (fun r1 u t H1 locs ht hvm hw hB hz1 hk1 hS => ?_)
  obtain ⟨hP, hD, hK⟩ := kJ (wr := [(mo, .inr (19, [.int 0, .int 0, .int 0, .int 0, .int 0, .int 0, .int 0, .ref ti, .ref si, .ref lo, .ref lh, .ref lk, .ref sp, .ref st, .ref pa, .ref br, .ref sg, .int 0, .int 0, .int 0, .int 0, .int 0, .int 0, .long 0, .long 0, .long 0, .long 0, .int th])), (lo, .inr (3, [.int 0, .ref (z 0), .int 0]))]) (w1 := []) (t1 := []) hP hD hK [] [0, 1] rfl rfl (by decide) (by decide) hk1 hFc ht hvm hB
  generalize H1 = H at hP hS ⊢
  have hP : va_P (dC, dI) vwCl [(mo, .inr (19, [.int 0, .int 0, .int 0, .int 0, .int 0, .int 0, .int 0, .ref ti, .ref si, .ref lo, .ref lh, .ref lk, .ref sp, .ref st, .ref pa, .ref br, .ref sg, .int 0, .int 0, .int 0, .int 0, .int 0, .int 0, .long 0, .long 0, .long 0, .long 0, .int th])), (lo, .inr (3, [.int 0, .ref (z 0), .int 0]))] H := hP
  have hD : va_D A [(mo, .inr (19, [.int 0, .int 0, .int 0, .int 0, .int 0, .int 0, .int 0, .ref ti, .ref si, .ref lo, .ref lh, .ref lk, .ref sp, .ref st, .ref pa, .ref br, .ref sg, .int 0, .int 0, .int 0, .int 0, .int 0, .int 0, .long 0, .long 0, .long 0, .long 0, .int th])), (lo, .inr (3, [.int 0, .ref (z 0), .int 0]))] := hD
  have hK : va_K (dC, dI) vwCl [] s := hK
  obtain rfl : 3 = r1 := hw
  refine lv_if_lt (tgt := 55) hx hb dX15_order_25 (by decide) (fun c_ => absurd c_ (by decide +kernel)) (fun _ => ?_)
  refine lv_iload_n hx hb dX15_order_28 rfl (lv_at hl 3 rfl) ?_
  refine lv_i2l (v := p1.toInt64) hx hb dX15_order_29 rfl ?_
  refine lv_lconst (v := 0) hx hb dX15_order_30 (by decide) ?_
  refine lv_iload hx hb dX15_order_31 (lv_at hl 0 rfl) ?_
  refine lv_if_eq (tgt := 42) hx hb dX15_order_33 (by decide) (fun _ => ?_) (fun c_ => absurd (by decide +kernel) c_)
  refine lv_ldc2 (v := 2) hx hb hown (hts (.constantLong RX15 150 2) (by decide +kernel)) dX15_order_42 ?_
  have hPc := hP.sub (ws' := []) [] rfl
  have hDc := hD.sub (ws' := []) [] (by decide) rfl
  have hKc := hK.sub (tys' := []) [] rfl
  have hFc := va_free (wc := []) hD hS hA [] rfl
  refine va_calli (va_runS (As := [.long p1.toInt64, .long 0, .long 2]) (rest := []) ⟨hx, hb, hml, hown, hts⟩ (k_in l dC dI z zK zV p1.toInt64 0 2 H.size) (va_cwS 3 hts gX15_order_X15_in rfl rfl rfl (by decide +kernel) ⟨Nat.le_of_ble_eq_true rfl, Nat.le_of_ble_eq_true rfl⟩) ⟨kP_blind, kP_go hPc hKc hDc hFc hM hS⟩ rfl rfl hl.1 rfl (lv_room (Nat.le_of_ble_eq_true rfl)) dX15_order_45 ⟨Nat.le_of_ble_eq_true rfl, Nat.le_of_ble_eq_true rfl⟩) hS (fun q _ h => hFc q h) hFc (fun r2 u t H1 locs ht hvm hw hB hz1 hk1 hS => ?_)
  obtain ⟨hP, hD, hK⟩ := kJ (wr := [(mo, .inr (19, [.int 0, .int 0, .int 0, .int 0, .int 0, .int 0, .int 0, .ref ti, .ref si, .ref lo, .ref lh, .ref lk, .ref sp, .ref st, .ref pa, .ref br, .ref sg, .int 0, .int 0, .int 0, .int 0, .int 0, .int 0, .long 0, .long 0, .long 0, .long 0, .int th])), (lo, .inr (3, [.int 0, .ref (z 0), .int 0]))]) (w1 := []) (t1 := []) hP hD hK [] [0, 1] rfl rfl (by decide) (by decide) hk1 hFc ht hvm hB
  generalize H1 = H at hP hS ⊢
  have hP : va_P (dC, dI) vwCl [(mo, .inr (19, [.int 0, .int 0, .int 0, .int 0, .int 0, .int 0, .int 0, .ref ti, .ref si, .ref lo, .ref lh, .ref lk, .ref sp, .ref st, .ref pa, .ref br, .ref sg, .int 0, .int 0, .int 0, .int 0, .int 0, .int 0, .long 0, .long 0, .long 0, .long 0, .int th])), (lo, .inr (3, [.int 0, .ref (z 0), .int 0]))] H := hP
  have hD : va_D A [(mo, .inr (19, [.int 0, .int 0, .int 0, .int 0, .int 0, .int 0, .int 0, .ref ti, .ref si, .ref lo, .ref lh, .ref lk, .ref sp, .ref st, .ref pa, .ref br, .ref sg, .int 0, .int 0, .int 0, .int 0, .int 0, .int 0, .long 0, .long 0, .long 0, .long 0, .int th])), (lo, .inr (3, [.int 0, .ref (z 0), .int 0]))] := hD
  have hK : va_K (dC, dI) vwCl [] s := hK
  obtain rfl : (if 0 ≤ (p1.toInt64) ∧ (p1.toInt64) ≤ 2 then (1 : Int32) else 0) = r2 := hw
  refine kc_i (y := (if 0 ≤ p1 ∧ p1 ≤ 2 then (1 : Int32) else 0)) (k_inP (a := 0) (b := 2) (by decide +kernel) (by decide +kernel)) ?_
  refine lv_if_eq (tgt := 55) hx hb dX15_order_48 (by decide) (fun c_ => absurd c_ (k_ifp hg0)) (fun _ => ?_)
  refine lv_iconst (v := 1) hx hb dX15_order_51 (by decide) ?_
  refine lv_goto (tgt := 56) hx hb dX15_order_52 (by decide) ?_
  refine lv_istore (lv' := [(5, .int 1), (4, .int 0), (0, .ref mo), (1, .int 114), (2, .int p1), (3, .int 0)]) hx hb dX15_order_56 hl (by decide) rfl (fun ls hl => ?_)
  refine lv_iload hx hb dX15_order_58 (lv_at hl 0 rfl) ?_
  refine lv_if_eq (tgt := 115) hx hb dX15_order_60 (by decide) (fun c_ => absurd c_ (by decide +kernel)) (fun _ => ?_)
  refine lv_iload_n hx hb dX15_order_63 rfl (lv_at hl 3 rfl) ?_
  refine lv_bipush (v := 115) hx hb dX15_order_64 (by decide) ?_
  refine lv_icmp_ne (tgt := 84) hx hb dX15_order_66 (by decide) (fun _ => ?_) (fun c_ => absurd c_ (by decide +kernel))
  refine lv_iload_n hx hb dX15_order_84 rfl (lv_at hl 3 rfl) ?_
  refine lv_bipush (v := 98) hx hb dX15_order_85 (by decide) ?_
  refine lv_icmp_ne (tgt := 107) hx hb dX15_order_87 (by decide) (fun _ => ?_) (fun c_ => absurd c_ (by decide +kernel))
  refine lv_iload_n hx hb dX15_order_107 rfl (lv_at hl 5 rfl) ?_
  refine lv_if_ne (tgt := 115) hx hb dX15_order_108 (by decide) (fun c_ => absurd (by decide +kernel) c_) (fun _ => ?_)
  refine lv_iconst (v := 1) hx hb dX15_order_111 (by decide) ?_
  refine lv_goto (tgt := 116) hx hb dX15_order_112 (by decide) ?_
  refine lv_istore (lv' := [(5, .int 1), (4, .int 0), (0, .ref mo), (1, .int 114), (2, .int p1), (3, .int 0)]) hx hb dX15_order_116 hl (by decide) rfl (fun ls hl => ?_)
  refine lv_aload_n hx hb dX15_order_118 rfl (lv_at hl 2 rfl) ?_
  refine lv_iload hx hb dX15_order_119 (lv_at hl 0 rfl) ?_
  refine lv_if_ne (tgt := 128) hx hb dX15_order_121 (by decide) (fun _ => ?_) (fun c_ => absurd c_ (by decide +kernel))
  refine lv_aload_n hx hb dX15_order_128 rfl (lv_at hl 2 rfl) ?_
  refine va_get (D := (dC, dI)) (ci := 19) (v := .ref lo) (C := RX15) (T := TX15) (N := 28) hx hb hts hiX15 hown hK hP 0 rfl rfl 9 (by decide) (hts (.fieldLink RX15 19 "SquareRigModel" "orders" "Ljava/util/List;") (by decide +kernel)) (fun _ h9 => h9) rfl dX15_order_129 ?_
  have hPc := hP.sub (ws' := [(lo, .inr (3, [.int 0, .ref (z 0), .int 0]))]) [1] rfl
  have hDc := hD.sub (ws' := [(lo, .inr (3, [.int 0, .ref (z 0), .int 0]))]) [1] (by decide) rfl
  have hKc := hK.sub (tys' := []) [] rfl
  have hFc := va_free (wc := [(lo, .inr (3, [.int 0, .ref (z 0), .int 0]))]) hD hS hA [1] rfl
  refine va_callFi (va_runF (hK.1 3 _ rfl).2 (As := []) (rest := [.ref mo]) ⟨hx, hb, hml, hown, hts⟩ (k_size0 l dC dI z zK zV lo H.size) (va_cwF 0 hts gX15_order_Jx4a65c_size_8abf5_f156Jx4a65c rfl rfl rfl hM.2.2.2.2.2.2.2.2.2.2.1.2.2.1 (by decide +kernel) ⟨Nat.le_of_ble_eq_true rfl, Nat.le_of_ble_eq_true rfl⟩) ⟨kP_blind, va_recv hKc hPc (ci := 3) (q0 := 0) rfl rfl, kP_go hPc hKc hDc hFc hM hS⟩ rfl rfl hl.1 rfl (lv_room (Nat.le_of_ble_eq_true rfl)) dX15_order_132 ⟨Nat.le_of_ble_eq_true rfl, Nat.le_of_ble_eq_true rfl⟩) hS (fun q _ h => hFc q h) hFc (fun r3 u t H1 locs ht hvm hw hB hz1 hk1 hS => ?_)
  obtain ⟨hP, hD, hK⟩ := kJ (wr := [(mo, .inr (19, [.int 0, .int 0, .int 0, .int 0, .int 0, .int 0, .int 0, .ref ti, .ref si, .ref lo, .ref lh, .ref lk, .ref sp, .ref st, .ref pa, .ref br, .ref sg, .int 0, .int 0, .int 0, .int 0, .int 0, .int 0, .long 0, .long 0, .long 0, .long 0, .int th]))]) (w1 := [(lo, .inr (3, [.int 0, .ref (z 0), .int 0]))]) (t1 := []) hP hD hK [1] [0] rfl rfl (by decide) (by decide) hk1 hFc ht hvm hB
  generalize H1 = H at hP hS ⊢
  have hP : va_P (dC, dI) vwCl [(mo, .inr (19, [.int 0, .int 0, .int 0, .int 0, .int 0, .int 0, .int 0, .ref ti, .ref si, .ref lo, .ref lh, .ref lk, .ref sp, .ref st, .ref pa, .ref br, .ref sg, .int 0, .int 0, .int 0, .int 0, .int 0, .int 0, .long 0, .long 0, .long 0, .long 0, .int th])), (lo, .inr (3, [.int 0, .ref (z 0), .int 0]))] H := hP
  have hD : va_D A [(mo, .inr (19, [.int 0, .int 0, .int 0, .int 0, .int 0, .int 0, .int 0, .ref ti, .ref si, .ref lo, .ref lh, .ref lk, .ref sp, .ref st, .ref pa, .ref br, .ref sg, .int 0, .int 0, .int 0, .int 0, .int 0, .int 0, .long 0, .long 0, .long 0, .long 0, .int th])), (lo, .inr (3, [.int 0, .ref (z 0), .int 0]))] := hD
  have hK : va_K (dC, dI) vwCl [] s := hK
  obtain rfl : 0 = r3 := hw
  refine lv_bipush (v := 100) hx hb dX15_order_137 (by decide) ?_
  refine lv_icmp_ne (tgt := 146) hx hb dX15_order_139 (by decide) (fun _ => ?_) (fun c_ => absurd c_ (by decide +kernel))
  refine lv_iconst (v := 0) hx hb dX15_order_146 (by decide) ?_
  refine va_put (D := (dC, dI)) (ci := 19) (v := .int 0) (ty := .int) (C := RX15) (T := TX15) (N := 28) hx hb hts hiX15 tyX15 tyX15_ok nmX15 hown hK hP hD hS 0 rfl rfl 27 (by decide) (hts (.fieldLink RX15 45 "SquareRigModel" "thrown" "I") (by decide +kernel)) (fun _ h9 => h9) rfl (by decide +kernel) rfl rfl (Nat.le_of_ble_eq_true rfl) dX15_order_147 (fun H locs hP hD hS => ?_)
  have hP : va_P (dC, dI) vwCl [(mo, .inr (19, [.int 0, .int 0, .int 0, .int 0, .int 0, .int 0, .int 0, .ref ti, .ref si, .ref lo, .ref lh, .ref lk, .ref sp, .ref st, .ref pa, .ref br, .ref sg, .int 0, .int 0, .int 0, .int 0, .int 0, .int 0, .long 0, .long 0, .long 0, .long 0, .int 0])), (lo, .inr (3, [.int 0, .ref (z 0), .int 0]))] H := hP
  have hD : va_D A [(mo, .inr (19, [.int 0, .int 0, .int 0, .int 0, .int 0, .int 0, .int 0, .ref ti, .ref si, .ref lo, .ref lh, .ref lk, .ref sp, .ref st, .ref pa, .ref br, .ref sg, .int 0, .int 0, .int 0, .int 0, .int 0, .int 0, .long 0, .long 0, .long 0, .long 0, .int 0])), (lo, .inr (3, [.int 0, .ref (z 0), .int 0]))] := hD
  refine lv_aload_n hx hb dX15_order_150 rfl (lv_at hl 2 rfl) ?_
  refine va_get (D := (dC, dI)) (ci := 19) (v := .int 0) (C := RX15) (T := TX15) (N := 28) hx hb hts hiX15 hown hK hP 0 rfl rfl 27 (by decide) (hts (.fieldLink RX15 45 "SquareRigModel" "thrown" "I") (by decide +kernel)) (fun _ h9 => h9) rfl dX15_order_151 ?_
  refine lv_if_le (tgt := 159) hx hb dX15_order_154 (by decide) (fun _ => ?_) (fun c_ => absurd (by decide +kernel) c_)
  refine lv_aload_n hx hb dX15_order_159 rfl (lv_at hl 2 rfl) ?_
  refine va_get (D := (dC, dI)) (ci := 19) (v := .ref lo) (C := RX15) (T := TX15) (N := 28) hx hb hts hiX15 hown hK hP 0 rfl rfl 9 (by decide) (hts (.fieldLink RX15 19 "SquareRigModel" "orders" "Ljava/util/List;") (by decide +kernel)) (fun _ h9 => h9) rfl dX15_order_160 ?_
  refine va_new (ci := 18) (fs := [.int 0, .int 0, .int 0, .int 0, .int 0, .int 0]) (C := RX14) (T := TX14) (N := 6) hx hb hts hiX14 tyX14 tyX14_ok hown (hts (.classLink RX15 161 RX14) (by decide +kernel)) (hts (.instantiable RX14 6) (by decide +kernel)) (hts (.initialized RX14) (by decide +kernel)) hK hP hD hS hA rfl (fun j hj => by rcases (show j = 0 ∨ j = 1 ∨ j = 2 ∨ j = 3 ∨ j = 4 ∨ j = 5 by omega) with rfl | rfl | rfl | rfl | rfl | rfl <;> rfl) (Nat.le_of_ble_eq_true rfl) (Nat.le_of_ble_eq_true rfl) dX15_order_163 (fun q4 H hP hD hS => ?_)
  have hP : va_P (dC, dI) vwCl [(mo, .inr (19, [.int 0, .int 0, .int 0, .int 0, .int 0, .int 0, .int 0, .ref ti, .ref si, .ref lo, .ref lh, .ref lk, .ref sp, .ref st, .ref pa, .ref br, .ref sg, .int 0, .int 0, .int 0, .int 0, .int 0, .int 0, .long 0, .long 0, .long 0, .long 0, .int 0])), (lo, .inr (3, [.int 0, .ref (z 0), .int 0])), (q4, .inr (18, [.int 0, .int 0, .int 0, .int 0, .int 0, .int 0]))] H := hP
  have hD : va_D A [(mo, .inr (19, [.int 0, .int 0, .int 0, .int 0, .int 0, .int 0, .int 0, .ref ti, .ref si, .ref lo, .ref lh, .ref lk, .ref sp, .ref st, .ref pa, .ref br, .ref sg, .int 0, .int 0, .int 0, .int 0, .int 0, .int 0, .long 0, .long 0, .long 0, .long 0, .int 0])), (lo, .inr (3, [.int 0, .ref (z 0), .int 0])), (q4, .inr (18, [.int 0, .int 0, .int 0, .int 0, .int 0, .int 0]))] := hD
  refine lv_dup hx hb dX15_order_166 rfl ?_
  refine lv_iload_n hx hb dX15_order_167 rfl (lv_at hl 3 rfl) ?_
  refine lv_iload_n hx hb dX15_order_168 rfl (lv_at hl 4 rfl) ?_
  refine lv_iload_n hx hb dX15_order_169 rfl (lv_at hl 5 rfl) ?_
  refine lv_aload_n hx hb dX15_order_170 rfl (lv_at hl 2 rfl) ?_
  refine va_get (D := (dC, dI)) (ci := 19) (v := .int 0) (C := RX15) (T := TX15) (N := 28) hx hb hts hiX15 hown hK hP 0 rfl rfl 17 (by decide) (hts (.fieldLink RX15 163 "SquareRigModel" "minute" "I") (by decide +kernel)) (fun _ h9 => h9) rfl dX15_order_171 ?_
  have hPc := hP.sub (ws' := [(q4, .inr (18, [.int 0, .int 0, .int 0, .int 0, .int 0, .int 0]))]) [2] rfl
  have hDc := hD.sub (ws' := [(q4, .inr (18, [.int 0, .int 0, .int 0, .int 0, .int 0, .int 0]))]) [2] (by decide) rfl
  have hKc := hK.sub (tys' := []) [] rfl
  have hFc := va_free (wc := [(q4, .inr (18, [.int 0, .int 0, .int 0, .int 0, .int 0, .int 0]))]) hD hS hA [2] rfl
  refine va_callv (va_runI (As := [.int 114, .int p1, .int 0, .int 0]) (rest := [.ref q4, .ref lo]) ⟨hx, hb, hml, hown, hts⟩ (k_MOrder_init114 l dC dI z zK zV q4 p1 0 0 H.size) (cwI 4 hts gX15_order_X14_init rfl rfl rfl (hts (.initialized RX14) (by decide +kernel)) (hts (.methodLink RX15 166 yX14_init) (by decide +kernel)) (hts (.instanceMethod yX14_init) (by decide +kernel)) rfl (by decide +kernel) ⟨Nat.le_of_ble_eq_true rfl, Nat.le_of_ble_eq_true rfl⟩) ⟨kP_blind, kP_go hPc hKc hDc hFc hM hS⟩ rfl rfl hl.1 rfl (lv_room (Nat.le_of_ble_eq_true rfl)) dX15_order_174 ⟨Nat.le_of_ble_eq_true rfl, Nat.le_of_ble_eq_true rfl⟩) hS (fun q _ h => hFc q h) hFc (fun u t H1 locs ht hvm hw hB hz1 hk1 hS => ?_)
  obtain ⟨hP, hD, hK⟩ := kJ (wr := [(mo, .inr (19, [.int 0, .int 0, .int 0, .int 0, .int 0, .int 0, .int 0, .ref ti, .ref si, .ref lo, .ref lh, .ref lk, .ref sp, .ref st, .ref pa, .ref br, .ref sg, .int 0, .int 0, .int 0, .int 0, .int 0, .int 0, .long 0, .long 0, .long 0, .long 0, .int 0])), (lo, .inr (3, [.int 0, .ref (z 0), .int 0]))]) (w1 := [(q4, .inr (18, [.int 114, .int p1, .int 0, .int 0, .int 119, .int 0]))]) (t1 := []) hP hD hK [2] [0, 1] rfl rfl (by decide) (by decide) hk1 hFc ht hvm hB
  generalize H1 = H at hP hS ⊢
  have hP : va_P (dC, dI) vwCl [(mo, .inr (19, [.int 0, .int 0, .int 0, .int 0, .int 0, .int 0, .int 0, .ref ti, .ref si, .ref lo, .ref lh, .ref lk, .ref sp, .ref st, .ref pa, .ref br, .ref sg, .int 0, .int 0, .int 0, .int 0, .int 0, .int 0, .long 0, .long 0, .long 0, .long 0, .int 0])), (lo, .inr (3, [.int 0, .ref (z 0), .int 0])), (q4, .inr (18, [.int 114, .int p1, .int 0, .int 0, .int 119, .int 0]))] H := hP
  have hD : va_D A [(mo, .inr (19, [.int 0, .int 0, .int 0, .int 0, .int 0, .int 0, .int 0, .ref ti, .ref si, .ref lo, .ref lh, .ref lk, .ref sp, .ref st, .ref pa, .ref br, .ref sg, .int 0, .int 0, .int 0, .int 0, .int 0, .int 0, .long 0, .long 0, .long 0, .long 0, .int 0])), (lo, .inr (3, [.int 0, .ref (z 0), .int 0])), (q4, .inr (18, [.int 114, .int p1, .int 0, .int 0, .int 119, .int 0]))] := hD
  have hK : va_K (dC, dI) vwCl [] s := hK
  clear hw
  have hPc := hP.sub (ws' := [(lo, .inr (3, [.int 0, .ref (z 0), .int 0])), (q4, .inr (18, [.int 114, .int p1, .int 0, .int 0, .int 119, .int 0]))]) [1, 2] rfl
  have hDc := hD.sub (ws' := [(lo, .inr (3, [.int 0, .ref (z 0), .int 0])), (q4, .inr (18, [.int 114, .int p1, .int 0, .int 0, .int 119, .int 0]))]) [1, 2] (by decide) rfl
  have hKc := hK.sub (tys' := []) [] rfl
  have hFc := va_free (wc := [(lo, .inr (3, [.int 0, .ref (z 0), .int 0])), (q4, .inr (18, [.int 114, .int p1, .int 0, .int 0, .int 119, .int 0]))]) hD hS hA [1, 2] rfl
  refine va_callFi (va_runF (hK.1 3 _ rfl).2 (As := [.ref q4]) (rest := []) ⟨hx, hb, hml, hown, hts⟩ (k_add1_oo l dC dI z zK zV lo 0 q4 114 p1 0 0 119 0 H.size) (va_cwF 1 hts gX15_order_Jx4a65c_add_9ea2d_f169Jx4a65c rfl rfl rfl hM.2.2.2.2.2.2.2.2.2.2.1.2.2.2.2 (by decide +kernel) ⟨Nat.le_of_ble_eq_true rfl, Nat.le_of_ble_eq_true rfl⟩) ⟨kP_blind, va_recv hKc hPc (ci := 3) (q0 := 0) rfl rfl, kP_go hPc hKc hDc hFc hM hS⟩ rfl rfl hl.1 rfl (lv_room (Nat.le_of_ble_eq_true rfl)) dX15_order_177 ⟨Nat.le_of_ble_eq_true rfl, Nat.le_of_ble_eq_true rfl⟩) hS (fun q _ h => hFc q h) hFc (fun r5 u t H1 locs ht hvm hw hB hz1 hk1 hS => ?_)
  obtain ⟨q6, cA7, hB⟩ := hB
  obtain ⟨hP, hD, hK⟩ := kJ (wr := [(mo, .inr (19, [.int 0, .int 0, .int 0, .int 0, .int 0, .int 0, .int 0, .ref ti, .ref si, .ref lo, .ref lh, .ref lk, .ref sp, .ref st, .ref pa, .ref br, .ref sg, .int 0, .int 0, .int 0, .int 0, .int 0, .int 0, .long 0, .long 0, .long 0, .long 0, .int 0]))]) (w1 := [(q4, .inr (18, [.int 114, .int p1, .int 0, .int 0, .int 119, .int 0])), (lo, .inr (3, [.int (0 + 1), .ref q6, .int 1])), (q6, .inl (cA7, 10, .inr (.inr (.inr (.inr (va_up (fun _ => none) 0 (some q4)))))))]) (t1 := [(cA7, .object "java/lang/Object")]) hP hD hK [1, 2] [0] rfl rfl (by decide) (by decide) hk1 hFc ht hvm hB
  generalize H1 = H at hP hS ⊢
  have hP : va_P (dC, dI) vwCl [(mo, .inr (19, [.int 0, .int 0, .int 0, .int 0, .int 0, .int 0, .int 0, .ref ti, .ref si, .ref lo, .ref lh, .ref lk, .ref sp, .ref st, .ref pa, .ref br, .ref sg, .int 0, .int 0, .int 0, .int 0, .int 0, .int 0, .long 0, .long 0, .long 0, .long 0, .int 0])), (q4, .inr (18, [.int 114, .int p1, .int 0, .int 0, .int 119, .int 0])), (lo, .inr (3, [.int (0 + 1), .ref q6, .int 1])), (q6, .inl (cA7, 10, .inr (.inr (.inr (.inr (va_up (fun _ => none) 0 (some q4)))))))] H := hP
  have hD : va_D A [(mo, .inr (19, [.int 0, .int 0, .int 0, .int 0, .int 0, .int 0, .int 0, .ref ti, .ref si, .ref lo, .ref lh, .ref lk, .ref sp, .ref st, .ref pa, .ref br, .ref sg, .int 0, .int 0, .int 0, .int 0, .int 0, .int 0, .long 0, .long 0, .long 0, .long 0, .int 0])), (q4, .inr (18, [.int 114, .int p1, .int 0, .int 0, .int 119, .int 0])), (lo, .inr (3, [.int (0 + 1), .ref q6, .int 1])), (q6, .inl (cA7, 10, .inr (.inr (.inr (.inr (va_up (fun _ => none) 0 (some q4)))))))] := hD
  have hK : va_K (dC, dI) vwCl [(cA7, .object "java/lang/Object")] s := hK
  obtain rfl : 1 = r5 := hw
  refine lv_pop hx hb dX15_order_182 rfl ?_
  refine lv_aload_n hx hb dX15_order_183 rfl (lv_at hl 2 rfl) ?_
  refine va_get (D := (dC, dI)) (ci := 19) (v := .ref lo) (C := RX15) (T := TX15) (N := 28) hx hb hts hiX15 hown hK hP 0 rfl rfl 9 (by decide) (hts (.fieldLink RX15 19 "SquareRigModel" "orders" "Ljava/util/List;") (by decide +kernel)) (fun _ h9 => h9) rfl dX15_order_184 ?_
  have hPc := hP.sub (ws' := [(lo, .inr (3, [.int (0 + 1), .ref q6, .int 1]))]) [2] rfl
  have hDc := hD.sub (ws' := [(lo, .inr (3, [.int (0 + 1), .ref q6, .int 1]))]) [2] (by decide) rfl
  have hKc := hK.sub (tys' := []) [] rfl
  have hFc := va_free (wc := [(lo, .inr (3, [.int (0 + 1), .ref q6, .int 1]))]) hD hS hA [2] rfl
  refine va_callFi (va_runF (hK.1 3 _ rfl).2 (As := []) (rest := []) ⟨hx, hb, hml, hown, hts⟩ (k_size1 l dC dI z zK zV lo (0 + 1) q6 H.size) (va_cwF 0 hts gX15_order_Jx4a65c_size_8abf5_f156Jx4a65c rfl rfl rfl hM.2.2.2.2.2.2.2.2.2.2.1.2.2.1 (by decide +kernel) ⟨Nat.le_of_ble_eq_true rfl, Nat.le_of_ble_eq_true rfl⟩) ⟨kP_blind, va_recv hKc hPc (ci := 3) (q0 := 0) rfl rfl, kP_go hPc hKc hDc hFc hM hS⟩ rfl rfl hl.1 rfl (lv_room (Nat.le_of_ble_eq_true rfl)) dX15_order_187 ⟨Nat.le_of_ble_eq_true rfl, Nat.le_of_ble_eq_true rfl⟩) hS (fun q _ h => hFc q h) hFc (fun r8 u t H1 locs ht hvm hw hB hz1 hk1 hS => ?_)
  obtain ⟨hP, hD, hK⟩ := kJ (wr := [(mo, .inr (19, [.int 0, .int 0, .int 0, .int 0, .int 0, .int 0, .int 0, .ref ti, .ref si, .ref lo, .ref lh, .ref lk, .ref sp, .ref st, .ref pa, .ref br, .ref sg, .int 0, .int 0, .int 0, .int 0, .int 0, .int 0, .long 0, .long 0, .long 0, .long 0, .int 0])), (q4, .inr (18, [.int 114, .int p1, .int 0, .int 0, .int 119, .int 0])), (q6, .inl (cA7, 10, .inr (.inr (.inr (.inr (va_up (fun _ => none) 0 (some q4)))))))]) (w1 := [(lo, .inr (3, [.int (0 + 1), .ref q6, .int 1]))]) (t1 := []) hP hD hK [2] [0, 1, 3] rfl rfl (by decide) (by decide) hk1 hFc ht hvm hB
  generalize H1 = H at hP hS ⊢
  have hP : va_P (dC, dI) vwCl [(mo, .inr (19, [.int 0, .int 0, .int 0, .int 0, .int 0, .int 0, .int 0, .ref ti, .ref si, .ref lo, .ref lh, .ref lk, .ref sp, .ref st, .ref pa, .ref br, .ref sg, .int 0, .int 0, .int 0, .int 0, .int 0, .int 0, .long 0, .long 0, .long 0, .long 0, .int 0])), (q4, .inr (18, [.int 114, .int p1, .int 0, .int 0, .int 119, .int 0])), (q6, .inl (cA7, 10, .inr (.inr (.inr (.inr (va_up (fun _ => none) 0 (some q4))))))), (lo, .inr (3, [.int (0 + 1), .ref q6, .int 1]))] H := hP
  have hD : va_D A [(mo, .inr (19, [.int 0, .int 0, .int 0, .int 0, .int 0, .int 0, .int 0, .ref ti, .ref si, .ref lo, .ref lh, .ref lk, .ref sp, .ref st, .ref pa, .ref br, .ref sg, .int 0, .int 0, .int 0, .int 0, .int 0, .int 0, .long 0, .long 0, .long 0, .long 0, .int 0])), (q4, .inr (18, [.int 114, .int p1, .int 0, .int 0, .int 119, .int 0])), (q6, .inl (cA7, 10, .inr (.inr (.inr (.inr (va_up (fun _ => none) 0 (some q4))))))), (lo, .inr (3, [.int (0 + 1), .ref q6, .int 1]))] := hD
  have hK : va_K (dC, dI) vwCl [(cA7, .object "java/lang/Object")] s := hK
  obtain rfl : 1 = r8 := hw
  refine lv_iconst (v := 1) hx hb dX15_order_192 (by decide) ?_
  refine lv_isub hx hb dX15_order_193 ?_
  refine kc_i (y := 0) (by decide +kernel) ?_
  refine W.widen (k := 2) (n := 16) (Nat.le_of_ble_eq_true rfl) (Nat.le_of_ble_eq_true rfl) ?_
  exact W.iret (v := 0) hx hb hr (fun t ht hW => ⟨⟨0, (), rfl, rfl, kB_end (w9 := [(mo, .inr (19, [.int 0, .int 0, .int 0, .int 0, .int 0, .int 0, .int 0, .ref ti, .ref si, .ref lo, .ref lh, .ref lk, .ref sp, .ref st, .ref pa, .ref br, .ref sg, .int 0, .int 0, .int 0, .int 0, .int 0, .int 0, .long 0, .long 0, .long 0, .long 0, .int 0]))]) (t9 := []) hP hK hD [0] [] rfl (by decide) rfl rfl t ht hW⟩, hS.F ht⟩) hS.2.2 dX15_order_194
abbrev wd_k_m_order_bad115 (z : Nat → Nat) (p1 : Int32) (p2 : Int32) (mo : Nat) (ti : Nat) (si : Nat) (lo : Nat) (lh : Nat) (lk : Nat) (sp : Nat) (st : Nat) (pa : Nat) (br : Nat) (sg : Nat) (th : Int32) : va_W := [(mo, .inr (19, [.int 0, .int 0, .int 0, .int 0, .int 0, .int 0, .int 0, .ref ti, .ref si, .ref lo, .ref lh, .ref lk, .ref sp, .ref st, .ref pa, .ref br, .ref sg, .int 0, .int 0, .int 0, .int 0, .int 0, .int 0, .long 0, .long 0, .long 0, .long 0, .int th]))]
set_option maxHeartbeats 4000000 in
set_option maxRecDepth 100000 in
theorem k_m_order_bad115 (l : Launch) (dC : Nat → ClassId) (dI : Nat → Nat → Nat) (z zK zV : Nat → Nat) (p1 : Int32) (p2 : Int32) (mo : Nat) (ti : Nat) (si : Nat) (lo : Nat) (lh : Nat) (lk : Nat) (sp : Nat) (st : Nat) (pa : Nat) (br : Nat) (sg : Nat) (th : Int32) (sz : Nat) (hb0 : ¬ kO 115 p1 p2) : Met l yX15_order wsX15_order ({ frames := 4, cells := 0, slots := 0, locals := 91 }) (kP dC dI z zK zV [.ref mo, .int 115, .int p1, .int p2] sz (wd_k_m_order_bad115 z p1 p2 mo ti si lo lh lk sp st pa br sg th) []) (va_Qi (fun (r : Int32) (_ : Unit) => (-1) = r) (fun _ t => kB (dC, dI) (va_A (wd_k_m_order_bad115 z p1 p2 mo ti si lo lh lk sp st pa br sg th) sz) [(mo, .inr (19, [.int 0, .int 0, .int 0, .int 0, .int 0, .int 0, .int 0, .ref ti, .ref si, .ref lo, .ref lh, .ref lk, .ref sp, .ref st, .ref pa, .ref br, .ref sg, .int 0, .int 0, .int 0, .int 0, .int 0, .int 0, .long 0, .long 0, .long 0, .long 0, .int 1]))] [] t) (va_A (wd_k_m_order_bad115 z p1 p2 mo ti si lo lh lk sp st pa br sg th) sz)) 0 0 (va_A (wd_k_m_order_bad115 z p1 p2 mo ti si lo lh lk sp st pa br sg th) sz) := by
  refine Met.ofW (cc := cX15_order) (maxL := 6) (ret := (some .int)) (by decide) rfl ?_
  intro p e s m args below meth c s₁ B hml hv
  obtain ⟨rfl, hsz, hP, hK, hD0, hM⟩ := hv
  have hx := B.exec
  have hb := B.bytes
  have hr := B.returns
  have hts := atoms_spec (ws := wsX15_order) B.pre
  have hown : s.vm.findClass RX15 = some m.cls := findClass_of_methodNamed B.named
  have hlocks := B.notSynchronized
  have hiX15 : ∀ w ∈ u_ws RX15 TX15 28, w ∈ wsX15_order := by decide +kernel
  subst hsz
  have hD := hD0.self (sz := s.heap.size)
  generalize hAe : va_A (wd_k_m_order_bad115 z p1 p2 mo ti si lo lh lk sp st pa br sg th) s.heap.size = A at hD hM ⊢
  have hA : ∀ q : Nat, s.heap.size ≤ q → A q := fun q h => by rw [← hAe]; exact Or.inr h
  have hS : va_S A s.heap s.heap [] := va_S.rf
  have hP : va_P (dC, dI) vwCl [(mo, .inr (19, [.int 0, .int 0, .int 0, .int 0, .int 0, .int 0, .int 0, .ref ti, .ref si, .ref lo, .ref lh, .ref lk, .ref sp, .ref st, .ref pa, .ref br, .ref sg, .int 0, .int 0, .int 0, .int 0, .int 0, .int 0, .long 0, .long 0, .long 0, .long 0, .int th]))] s.heap := hP
  have hD : va_D A [(mo, .inr (19, [.int 0, .int 0, .int 0, .int 0, .int 0, .int 0, .int 0, .ref ti, .ref si, .ref lo, .ref lh, .ref lk, .ref sp, .ref st, .ref pa, .ref br, .ref sg, .int 0, .int 0, .int 0, .int 0, .int 0, .int 0, .long 0, .long 0, .long 0, .long 0, .int th]))] := hD
  have hl := lv_entry ([.ref mo, .int 115, .int p1, .int p2]) (n := 6) (Nat.le_of_ble_eq_true rfl)
  rw [lg_entry_eq]
  generalize (lg_sl ([.ref mo, .int 115, .int p1, .int p2]) ++ List.replicate (6 - (lg_sl ([.ref mo, .int 115, .int p1, .int p2])).length) Slot.unset).toArray = ls at hl ⊢
  have hl : lv_has ls 6 [(0, .ref mo), (1, .int 115), (2, .int p1), (3, .int p2)] := hl
  refine lv_iload_n hx hb dX15_order_0 rfl (lv_at hl 1 rfl) ?_
  refine lv_bipush (v := 115) hx hb dX15_order_1 (by decide) ?_
  refine lv_icmp_eq (tgt := 12) hx hb dX15_order_3 (by decide) (fun _ => ?_) (fun c_ => absurd (by decide +kernel) c_)
  refine lv_iconst (v := 1) hx hb dX15_order_12 (by decide) ?_
  refine lv_goto (tgt := 17) hx hb dX15_order_13 (by decide) ?_
  refine lv_istore (lv' := [(4, .int 1), (0, .ref mo), (1, .int 115), (2, .int p1), (3, .int p2)]) hx hb dX15_order_17 hl (by decide) rfl (fun ls hl => ?_)
  refine va_ldcS hx hb hown (hM.2.2.1 0 _ rfl) dX15_order_19 ?_
  refine lv_iload_n hx hb dX15_order_21 rfl (lv_at hl 2 rfl) ?_
  have hPc := hP.sub (ws' := []) [] rfl
  have hDc := hD.sub (ws' := []) [] (by decide) rfl
  have hKc := hK.sub (tys' := []) [] rfl
  have hFc := va_free (wc := []) hD hS hA [] rfl
  refine va_calli (va_runV (As := [.int 115]) (rest := []) ⟨hx, hb, hml, hown, hts⟩ (k_ix3_115 l dC dI z zK zV  s.heap.size) (cwV 1 hts gX15_order_J0_indexOf_0f7a4 rfl rfl rfl (by decide +kernel) ⟨Nat.le_of_ble_eq_true rfl, Nat.le_of_ble_eq_true rfl⟩) ⟨kP_blind, vk_recv (i := 0) hM.2.2.2.1 (by decide) hS, kP_go hPc hKc hDc hFc hM hS⟩ rfl rfl hl.1 rfl (lv_room (Nat.le_of_ble_eq_true rfl)) dX15_order_22 ⟨Nat.le_of_ble_eq_true rfl, Nat.le_of_ble_eq_true rfl⟩) hS (fun q _ h => hFc q h) hFc (fun r1 u t H1 locs ht hvm hw hB hz1 hk1 hS => ?_)
  obtain ⟨hP, hD, hK⟩ := kJ (wr := [(mo, .inr (19, [.int 0, .int 0, .int 0, .int 0, .int 0, .int 0, .int 0, .ref ti, .ref si, .ref lo, .ref lh, .ref lk, .ref sp, .ref st, .ref pa, .ref br, .ref sg, .int 0, .int 0, .int 0, .int 0, .int 0, .int 0, .long 0, .long 0, .long 0, .long 0, .int th]))]) (w1 := []) (t1 := []) hP hD hK [] [0] rfl rfl (by decide) (by decide) hk1 hFc ht hvm hB
  generalize H1 = H at hP hS ⊢
  have hP : va_P (dC, dI) vwCl [(mo, .inr (19, [.int 0, .int 0, .int 0, .int 0, .int 0, .int 0, .int 0, .ref ti, .ref si, .ref lo, .ref lh, .ref lk, .ref sp, .ref st, .ref pa, .ref br, .ref sg, .int 0, .int 0, .int 0, .int 0, .int 0, .int 0, .long 0, .long 0, .long 0, .long 0, .int th]))] H := hP
  have hD : va_D A [(mo, .inr (19, [.int 0, .int 0, .int 0, .int 0, .int 0, .int 0, .int 0, .ref ti, .ref si, .ref lo, .ref lh, .ref lk, .ref sp, .ref st, .ref pa, .ref br, .ref sg, .int 0, .int 0, .int 0, .int 0, .int 0, .int 0, .long 0, .long 0, .long 0, .long 0, .int th]))] := hD
  have hK : va_K (dC, dI) vwCl [] s := hK
  obtain rfl : 0 = r1 := hw
  refine lv_if_lt (tgt := 55) hx hb dX15_order_25 (by decide) (fun c_ => absurd c_ (by decide +kernel)) (fun _ => ?_)
  refine lv_iload_n hx hb dX15_order_28 rfl (lv_at hl 3 rfl) ?_
  refine lv_i2l (v := p1.toInt64) hx hb dX15_order_29 rfl ?_
  refine lv_lconst (v := 0) hx hb dX15_order_30 (by decide) ?_
  refine lv_iload hx hb dX15_order_31 (lv_at hl 0 rfl) ?_
  refine lv_if_eq (tgt := 42) hx hb dX15_order_33 (by decide) (fun c_ => absurd c_ (by decide +kernel)) (fun _ => ?_)
  refine lv_ldc2 (v := 8) hx hb hown (hts (.constantLong RX15 148 8) (by decide +kernel)) dX15_order_36 ?_
  refine lv_goto (tgt := 45) hx hb dX15_order_39 (by decide) ?_
  have hPc := hP.sub (ws' := []) [] rfl
  have hDc := hD.sub (ws' := []) [] (by decide) rfl
  have hKc := hK.sub (tys' := []) [] rfl
  have hFc := va_free (wc := []) hD hS hA [] rfl
  refine va_calli (va_runS (As := [.long p1.toInt64, .long 0, .long 8]) (rest := []) ⟨hx, hb, hml, hown, hts⟩ (k_in l dC dI z zK zV p1.toInt64 0 8 H.size) (va_cwS 3 hts gX15_order_X15_in rfl rfl rfl (by decide +kernel) ⟨Nat.le_of_ble_eq_true rfl, Nat.le_of_ble_eq_true rfl⟩) ⟨kP_blind, kP_go hPc hKc hDc hFc hM hS⟩ rfl rfl hl.1 rfl (lv_room (Nat.le_of_ble_eq_true rfl)) dX15_order_45 ⟨Nat.le_of_ble_eq_true rfl, Nat.le_of_ble_eq_true rfl⟩) hS (fun q _ h => hFc q h) hFc (fun r2 u t H1 locs ht hvm hw hB hz1 hk1 hS => ?_)
  obtain ⟨hP, hD, hK⟩ := kJ (wr := [(mo, .inr (19, [.int 0, .int 0, .int 0, .int 0, .int 0, .int 0, .int 0, .ref ti, .ref si, .ref lo, .ref lh, .ref lk, .ref sp, .ref st, .ref pa, .ref br, .ref sg, .int 0, .int 0, .int 0, .int 0, .int 0, .int 0, .long 0, .long 0, .long 0, .long 0, .int th]))]) (w1 := []) (t1 := []) hP hD hK [] [0] rfl rfl (by decide) (by decide) hk1 hFc ht hvm hB
  generalize H1 = H at hP hS ⊢
  have hP : va_P (dC, dI) vwCl [(mo, .inr (19, [.int 0, .int 0, .int 0, .int 0, .int 0, .int 0, .int 0, .ref ti, .ref si, .ref lo, .ref lh, .ref lk, .ref sp, .ref st, .ref pa, .ref br, .ref sg, .int 0, .int 0, .int 0, .int 0, .int 0, .int 0, .long 0, .long 0, .long 0, .long 0, .int th]))] H := hP
  have hD : va_D A [(mo, .inr (19, [.int 0, .int 0, .int 0, .int 0, .int 0, .int 0, .int 0, .ref ti, .ref si, .ref lo, .ref lh, .ref lk, .ref sp, .ref st, .ref pa, .ref br, .ref sg, .int 0, .int 0, .int 0, .int 0, .int 0, .int 0, .long 0, .long 0, .long 0, .long 0, .int th]))] := hD
  have hK : va_K (dC, dI) vwCl [] s := hK
  obtain rfl : (if 0 ≤ (p1.toInt64) ∧ (p1.toInt64) ≤ 8 then (1 : Int32) else 0) = r2 := hw
  refine kc_i (y := (if 0 ≤ p1 ∧ p1 ≤ 8 then (1 : Int32) else 0)) (k_inP (a := 0) (b := 8) (by decide +kernel) (by decide +kernel)) ?_
  refine lv_if_eq (tgt := 55) hx hb dX15_order_48 (by decide) (fun c3 => ?_) (fun c3 => ?_)
  · skip
    refine lv_iconst (v := 0) hx hb dX15_order_55 (by decide) ?_
    refine lv_istore (lv' := [(5, .int 0), (4, .int 1), (0, .ref mo), (1, .int 115), (2, .int p1), (3, .int p2)]) hx hb dX15_order_56 hl (by decide) rfl (fun ls hl => ?_)
    refine lv_iload hx hb dX15_order_58 (lv_at hl 0 rfl) ?_
    refine lv_if_eq (tgt := 115) hx hb dX15_order_60 (by decide) (fun _ => ?_) (fun c_ => absurd (by decide +kernel) c_)
    refine lv_iconst (v := 0) hx hb dX15_order_115 (by decide) ?_
    refine lv_istore (lv' := [(5, .int 0), (4, .int 1), (0, .ref mo), (1, .int 115), (2, .int p1), (3, .int p2)]) hx hb dX15_order_116 hl (by decide) rfl (fun ls hl => ?_)
    refine lv_aload_n hx hb dX15_order_118 rfl (lv_at hl 2 rfl) ?_
    refine lv_iload hx hb dX15_order_119 (lv_at hl 0 rfl) ?_
    refine lv_if_ne (tgt := 128) hx hb dX15_order_121 (by decide) (fun c_ => absurd (by decide +kernel) c_) (fun _ => ?_)
    refine lv_iconst (v := 1) hx hb dX15_order_124 (by decide) ?_
    refine lv_goto (tgt := 147) hx hb dX15_order_125 (by decide) ?_
    refine va_put (D := (dC, dI)) (ci := 19) (v := .int 1) (ty := .int) (C := RX15) (T := TX15) (N := 28) hx hb hts hiX15 tyX15 tyX15_ok nmX15 hown hK hP hD hS 0 rfl rfl 27 (by decide) (hts (.fieldLink RX15 45 "SquareRigModel" "thrown" "I") (by decide +kernel)) (fun _ h9 => h9) rfl (by decide +kernel) rfl rfl (Nat.le_of_ble_eq_true rfl) dX15_order_147 (fun H locs hP hD hS => ?_)
    have hP : va_P (dC, dI) vwCl [(mo, .inr (19, [.int 0, .int 0, .int 0, .int 0, .int 0, .int 0, .int 0, .ref ti, .ref si, .ref lo, .ref lh, .ref lk, .ref sp, .ref st, .ref pa, .ref br, .ref sg, .int 0, .int 0, .int 0, .int 0, .int 0, .int 0, .long 0, .long 0, .long 0, .long 0, .int 1]))] H := hP
    have hD : va_D A [(mo, .inr (19, [.int 0, .int 0, .int 0, .int 0, .int 0, .int 0, .int 0, .ref ti, .ref si, .ref lo, .ref lh, .ref lk, .ref sp, .ref st, .ref pa, .ref br, .ref sg, .int 0, .int 0, .int 0, .int 0, .int 0, .int 0, .long 0, .long 0, .long 0, .long 0, .int 1]))] := hD
    refine lv_aload_n hx hb dX15_order_150 rfl (lv_at hl 2 rfl) ?_
    refine va_get (D := (dC, dI)) (ci := 19) (v := .int 1) (C := RX15) (T := TX15) (N := 28) hx hb hts hiX15 hown hK hP 0 rfl rfl 27 (by decide) (hts (.fieldLink RX15 45 "SquareRigModel" "thrown" "I") (by decide +kernel)) (fun _ h9 => h9) rfl dX15_order_151 ?_
    refine lv_if_le (tgt := 159) hx hb dX15_order_154 (by decide) (fun c_ => absurd c_ (by decide +kernel)) (fun _ => ?_)
    refine lv_iconst (v := (-1)) hx hb dX15_order_157 (by decide) ?_
    exact W.iret (v := (-1)) hx hb hr (fun t ht hW => ⟨⟨(-1), (), rfl, rfl, kB_end (w9 := [(mo, .inr (19, [.int 0, .int 0, .int 0, .int 0, .int 0, .int 0, .int 0, .ref ti, .ref si, .ref lo, .ref lh, .ref lk, .ref sp, .ref st, .ref pa, .ref br, .ref sg, .int 0, .int 0, .int 0, .int 0, .int 0, .int 0, .long 0, .long 0, .long 0, .long 0, .int 1]))]) (t9 := []) hP hK hD [0] [] rfl (by decide) rfl rfl t ht hW⟩, hS.F ht⟩) hS.2.2 dX15_order_158
  · skip
    refine lv_iconst (v := 1) hx hb dX15_order_51 (by decide) ?_
    refine lv_goto (tgt := 56) hx hb dX15_order_52 (by decide) ?_
    refine lv_istore (lv' := [(5, .int 1), (4, .int 1), (0, .ref mo), (1, .int 115), (2, .int p1), (3, .int p2)]) hx hb dX15_order_56 hl (by decide) rfl (fun ls hl => ?_)
    refine lv_iload hx hb dX15_order_58 (lv_at hl 0 rfl) ?_
    refine lv_if_eq (tgt := 115) hx hb dX15_order_60 (by decide) (fun c_ => absurd c_ (by decide +kernel)) (fun _ => ?_)
    refine lv_iload_n hx hb dX15_order_63 rfl (lv_at hl 3 rfl) ?_
    refine lv_bipush (v := 115) hx hb dX15_order_64 (by decide) ?_
    refine lv_icmp_ne (tgt := 84) hx hb dX15_order_66 (by decide) (fun c_ => absurd (by decide +kernel) c_) (fun _ => ?_)
    refine lv_iload_n hx hb dX15_order_69 rfl (lv_at hl 5 rfl) ?_
    refine lv_i2l (v := p2.toInt64) hx hb dX15_order_70 rfl ?_
    refine lv_lconst (v := 0) hx hb dX15_order_71 (by decide) ?_
    refine lv_ldc2 (v := 2) hx hb hown (hts (.constantLong RX15 150 2) (by decide +kernel)) dX15_order_72 ?_
    have hPc := hP.sub (ws' := []) [] rfl
    have hDc := hD.sub (ws' := []) [] (by decide) rfl
    have hKc := hK.sub (tys' := []) [] rfl
    have hFc := va_free (wc := []) hD hS hA [] rfl
    refine va_calli (va_runS (As := [.long p2.toInt64, .long 0, .long 2]) (rest := []) ⟨hx, hb, hml, hown, hts⟩ (k_in l dC dI z zK zV p2.toInt64 0 2 H.size) (va_cwS 3 hts gX15_order_X15_in rfl rfl rfl (by decide +kernel) ⟨Nat.le_of_ble_eq_true rfl, Nat.le_of_ble_eq_true rfl⟩) ⟨kP_blind, kP_go hPc hKc hDc hFc hM hS⟩ rfl rfl hl.1 rfl (lv_room (Nat.le_of_ble_eq_true rfl)) dX15_order_75 ⟨Nat.le_of_ble_eq_true rfl, Nat.le_of_ble_eq_true rfl⟩) hS (fun q _ h => hFc q h) hFc (fun r4 u t H1 locs ht hvm hw hB hz1 hk1 hS => ?_)
    obtain ⟨hP, hD, hK⟩ := kJ (wr := [(mo, .inr (19, [.int 0, .int 0, .int 0, .int 0, .int 0, .int 0, .int 0, .ref ti, .ref si, .ref lo, .ref lh, .ref lk, .ref sp, .ref st, .ref pa, .ref br, .ref sg, .int 0, .int 0, .int 0, .int 0, .int 0, .int 0, .long 0, .long 0, .long 0, .long 0, .int th]))]) (w1 := []) (t1 := []) hP hD hK [] [0] rfl rfl (by decide) (by decide) hk1 hFc ht hvm hB
    generalize H1 = H at hP hS ⊢
    have hP : va_P (dC, dI) vwCl [(mo, .inr (19, [.int 0, .int 0, .int 0, .int 0, .int 0, .int 0, .int 0, .ref ti, .ref si, .ref lo, .ref lh, .ref lk, .ref sp, .ref st, .ref pa, .ref br, .ref sg, .int 0, .int 0, .int 0, .int 0, .int 0, .int 0, .long 0, .long 0, .long 0, .long 0, .int th]))] H := hP
    have hD : va_D A [(mo, .inr (19, [.int 0, .int 0, .int 0, .int 0, .int 0, .int 0, .int 0, .ref ti, .ref si, .ref lo, .ref lh, .ref lk, .ref sp, .ref st, .ref pa, .ref br, .ref sg, .int 0, .int 0, .int 0, .int 0, .int 0, .int 0, .long 0, .long 0, .long 0, .long 0, .int th]))] := hD
    have hK : va_K (dC, dI) vwCl [] s := hK
    obtain rfl : (if 0 ≤ (p2.toInt64) ∧ (p2.toInt64) ≤ 2 then (1 : Int32) else 0) = r4 := hw
    refine kc_i (y := (if 0 ≤ p2 ∧ p2 ≤ 2 then (1 : Int32) else 0)) (k_inP (a := 0) (b := 2) (by decide +kernel) (by decide +kernel)) ?_
    refine lv_if_eq (tgt := 115) hx hb dX15_order_78 (by decide) (fun _ => ?_) (fun c_ => absurd (if_neg (fun h => hb0 (Or.inl ⟨rfl, k_ift c3, h⟩))) c_)
    refine lv_iconst (v := 0) hx hb dX15_order_115 (by decide) ?_
    refine lv_istore (lv' := [(5, .int 0), (4, .int 1), (0, .ref mo), (1, .int 115), (2, .int p1), (3, .int p2)]) hx hb dX15_order_116 hl (by decide) rfl (fun ls hl => ?_)
    refine lv_aload_n hx hb dX15_order_118 rfl (lv_at hl 2 rfl) ?_
    refine lv_iload hx hb dX15_order_119 (lv_at hl 0 rfl) ?_
    refine lv_if_ne (tgt := 128) hx hb dX15_order_121 (by decide) (fun c_ => absurd (by decide +kernel) c_) (fun _ => ?_)
    refine lv_iconst (v := 1) hx hb dX15_order_124 (by decide) ?_
    refine lv_goto (tgt := 147) hx hb dX15_order_125 (by decide) ?_
    refine va_put (D := (dC, dI)) (ci := 19) (v := .int 1) (ty := .int) (C := RX15) (T := TX15) (N := 28) hx hb hts hiX15 tyX15 tyX15_ok nmX15 hown hK hP hD hS 0 rfl rfl 27 (by decide) (hts (.fieldLink RX15 45 "SquareRigModel" "thrown" "I") (by decide +kernel)) (fun _ h9 => h9) rfl (by decide +kernel) rfl rfl (Nat.le_of_ble_eq_true rfl) dX15_order_147 (fun H locs hP hD hS => ?_)
    have hP : va_P (dC, dI) vwCl [(mo, .inr (19, [.int 0, .int 0, .int 0, .int 0, .int 0, .int 0, .int 0, .ref ti, .ref si, .ref lo, .ref lh, .ref lk, .ref sp, .ref st, .ref pa, .ref br, .ref sg, .int 0, .int 0, .int 0, .int 0, .int 0, .int 0, .long 0, .long 0, .long 0, .long 0, .int 1]))] H := hP
    have hD : va_D A [(mo, .inr (19, [.int 0, .int 0, .int 0, .int 0, .int 0, .int 0, .int 0, .ref ti, .ref si, .ref lo, .ref lh, .ref lk, .ref sp, .ref st, .ref pa, .ref br, .ref sg, .int 0, .int 0, .int 0, .int 0, .int 0, .int 0, .long 0, .long 0, .long 0, .long 0, .int 1]))] := hD
    refine lv_aload_n hx hb dX15_order_150 rfl (lv_at hl 2 rfl) ?_
    refine va_get (D := (dC, dI)) (ci := 19) (v := .int 1) (C := RX15) (T := TX15) (N := 28) hx hb hts hiX15 hown hK hP 0 rfl rfl 27 (by decide) (hts (.fieldLink RX15 45 "SquareRigModel" "thrown" "I") (by decide +kernel)) (fun _ h9 => h9) rfl dX15_order_151 ?_
    refine lv_if_le (tgt := 159) hx hb dX15_order_154 (by decide) (fun c_ => absurd c_ (by decide +kernel)) (fun _ => ?_)
    refine lv_iconst (v := (-1)) hx hb dX15_order_157 (by decide) ?_
    exact W.iret (v := (-1)) hx hb hr (fun t ht hW => ⟨⟨(-1), (), rfl, rfl, kB_end (w9 := [(mo, .inr (19, [.int 0, .int 0, .int 0, .int 0, .int 0, .int 0, .int 0, .ref ti, .ref si, .ref lo, .ref lh, .ref lk, .ref sp, .ref st, .ref pa, .ref br, .ref sg, .int 0, .int 0, .int 0, .int 0, .int 0, .int 0, .long 0, .long 0, .long 0, .long 0, .int 1]))]) (t9 := []) hP hK hD [0] [] rfl (by decide) rfl rfl t ht hW⟩, hS.F ht⟩) hS.2.2 dX15_order_158
abbrev wd_k_m_order_bad109 (z : Nat → Nat) (p1 : Int32) (p2 : Int32) (mo : Nat) (ti : Nat) (si : Nat) (lo : Nat) (lh : Nat) (lk : Nat) (sp : Nat) (st : Nat) (pa : Nat) (br : Nat) (sg : Nat) (th : Int32) : va_W := [(mo, .inr (19, [.int 0, .int 0, .int 0, .int 0, .int 0, .int 0, .int 0, .ref ti, .ref si, .ref lo, .ref lh, .ref lk, .ref sp, .ref st, .ref pa, .ref br, .ref sg, .int 0, .int 0, .int 0, .int 0, .int 0, .int 0, .long 0, .long 0, .long 0, .long 0, .int th]))]
set_option maxHeartbeats 4000000 in
set_option maxRecDepth 100000 in
theorem k_m_order_bad109 (l : Launch) (dC : Nat → ClassId) (dI : Nat → Nat → Nat) (z zK zV : Nat → Nat) (p1 : Int32) (p2 : Int32) (mo : Nat) (ti : Nat) (si : Nat) (lo : Nat) (lh : Nat) (lk : Nat) (sp : Nat) (st : Nat) (pa : Nat) (br : Nat) (sg : Nat) (th : Int32) (sz : Nat) (hb0 : ¬ kO 109 p1 p2) : Met l yX15_order wsX15_order ({ frames := 4, cells := 0, slots := 0, locals := 91 }) (kP dC dI z zK zV [.ref mo, .int 109, .int p1, .int p2] sz (wd_k_m_order_bad109 z p1 p2 mo ti si lo lh lk sp st pa br sg th) []) (va_Qi (fun (r : Int32) (_ : Unit) => (-1) = r) (fun _ t => kB (dC, dI) (va_A (wd_k_m_order_bad109 z p1 p2 mo ti si lo lh lk sp st pa br sg th) sz) [(mo, .inr (19, [.int 0, .int 0, .int 0, .int 0, .int 0, .int 0, .int 0, .ref ti, .ref si, .ref lo, .ref lh, .ref lk, .ref sp, .ref st, .ref pa, .ref br, .ref sg, .int 0, .int 0, .int 0, .int 0, .int 0, .int 0, .long 0, .long 0, .long 0, .long 0, .int 1]))] [] t) (va_A (wd_k_m_order_bad109 z p1 p2 mo ti si lo lh lk sp st pa br sg th) sz)) 0 0 (va_A (wd_k_m_order_bad109 z p1 p2 mo ti si lo lh lk sp st pa br sg th) sz) := by
  refine Met.ofW (cc := cX15_order) (maxL := 6) (ret := (some .int)) (by decide) rfl ?_
  intro p e s m args below meth c s₁ B hml hv
  obtain ⟨rfl, hsz, hP, hK, hD0, hM⟩ := hv
  have hx := B.exec
  have hb := B.bytes
  have hr := B.returns
  have hts := atoms_spec (ws := wsX15_order) B.pre
  have hown : s.vm.findClass RX15 = some m.cls := findClass_of_methodNamed B.named
  have hlocks := B.notSynchronized
  have hiX15 : ∀ w ∈ u_ws RX15 TX15 28, w ∈ wsX15_order := by decide +kernel
  subst hsz
  have hD := hD0.self (sz := s.heap.size)
  generalize hAe : va_A (wd_k_m_order_bad109 z p1 p2 mo ti si lo lh lk sp st pa br sg th) s.heap.size = A at hD hM ⊢
  have hA : ∀ q : Nat, s.heap.size ≤ q → A q := fun q h => by rw [← hAe]; exact Or.inr h
  have hS : va_S A s.heap s.heap [] := va_S.rf
  have hP : va_P (dC, dI) vwCl [(mo, .inr (19, [.int 0, .int 0, .int 0, .int 0, .int 0, .int 0, .int 0, .ref ti, .ref si, .ref lo, .ref lh, .ref lk, .ref sp, .ref st, .ref pa, .ref br, .ref sg, .int 0, .int 0, .int 0, .int 0, .int 0, .int 0, .long 0, .long 0, .long 0, .long 0, .int th]))] s.heap := hP
  have hD : va_D A [(mo, .inr (19, [.int 0, .int 0, .int 0, .int 0, .int 0, .int 0, .int 0, .ref ti, .ref si, .ref lo, .ref lh, .ref lk, .ref sp, .ref st, .ref pa, .ref br, .ref sg, .int 0, .int 0, .int 0, .int 0, .int 0, .int 0, .long 0, .long 0, .long 0, .long 0, .int th]))] := hD
  have hl := lv_entry ([.ref mo, .int 109, .int p1, .int p2]) (n := 6) (Nat.le_of_ble_eq_true rfl)
  rw [lg_entry_eq]
  generalize (lg_sl ([.ref mo, .int 109, .int p1, .int p2]) ++ List.replicate (6 - (lg_sl ([.ref mo, .int 109, .int p1, .int p2])).length) Slot.unset).toArray = ls at hl ⊢
  have hl : lv_has ls 6 [(0, .ref mo), (1, .int 109), (2, .int p1), (3, .int p2)] := hl
  refine lv_iload_n hx hb dX15_order_0 rfl (lv_at hl 1 rfl) ?_
  refine lv_bipush (v := 115) hx hb dX15_order_1 (by decide) ?_
  refine lv_icmp_eq (tgt := 12) hx hb dX15_order_3 (by decide) (fun c_ => absurd c_ (by decide +kernel)) (fun _ => ?_)
  refine lv_iload_n hx hb dX15_order_6 rfl (lv_at hl 1 rfl) ?_
  refine lv_bipush (v := 109) hx hb dX15_order_7 (by decide) ?_
  refine lv_icmp_ne (tgt := 16) hx hb dX15_order_9 (by decide) (fun c_ => absurd (by decide +kernel) c_) (fun _ => ?_)
  refine lv_iconst (v := 1) hx hb dX15_order_12 (by decide) ?_
  refine lv_goto (tgt := 17) hx hb dX15_order_13 (by decide) ?_
  refine lv_istore (lv' := [(4, .int 1), (0, .ref mo), (1, .int 109), (2, .int p1), (3, .int p2)]) hx hb dX15_order_17 hl (by decide) rfl (fun ls hl => ?_)
  refine va_ldcS hx hb hown (hM.2.2.1 0 _ rfl) dX15_order_19 ?_
  refine lv_iload_n hx hb dX15_order_21 rfl (lv_at hl 2 rfl) ?_
  have hPc := hP.sub (ws' := []) [] rfl
  have hDc := hD.sub (ws' := []) [] (by decide) rfl
  have hKc := hK.sub (tys' := []) [] rfl
  have hFc := va_free (wc := []) hD hS hA [] rfl
  refine va_calli (va_runV (As := [.int 109]) (rest := []) ⟨hx, hb, hml, hown, hts⟩ (k_ix3_109 l dC dI z zK zV  s.heap.size) (cwV 1 hts gX15_order_J0_indexOf_0f7a4 rfl rfl rfl (by decide +kernel) ⟨Nat.le_of_ble_eq_true rfl, Nat.le_of_ble_eq_true rfl⟩) ⟨kP_blind, vk_recv (i := 0) hM.2.2.2.1 (by decide) hS, kP_go hPc hKc hDc hFc hM hS⟩ rfl rfl hl.1 rfl (lv_room (Nat.le_of_ble_eq_true rfl)) dX15_order_22 ⟨Nat.le_of_ble_eq_true rfl, Nat.le_of_ble_eq_true rfl⟩) hS (fun q _ h => hFc q h) hFc (fun r1 u t H1 locs ht hvm hw hB hz1 hk1 hS => ?_)
  obtain ⟨hP, hD, hK⟩ := kJ (wr := [(mo, .inr (19, [.int 0, .int 0, .int 0, .int 0, .int 0, .int 0, .int 0, .ref ti, .ref si, .ref lo, .ref lh, .ref lk, .ref sp, .ref st, .ref pa, .ref br, .ref sg, .int 0, .int 0, .int 0, .int 0, .int 0, .int 0, .long 0, .long 0, .long 0, .long 0, .int th]))]) (w1 := []) (t1 := []) hP hD hK [] [0] rfl rfl (by decide) (by decide) hk1 hFc ht hvm hB
  generalize H1 = H at hP hS ⊢
  have hP : va_P (dC, dI) vwCl [(mo, .inr (19, [.int 0, .int 0, .int 0, .int 0, .int 0, .int 0, .int 0, .ref ti, .ref si, .ref lo, .ref lh, .ref lk, .ref sp, .ref st, .ref pa, .ref br, .ref sg, .int 0, .int 0, .int 0, .int 0, .int 0, .int 0, .long 0, .long 0, .long 0, .long 0, .int th]))] H := hP
  have hD : va_D A [(mo, .inr (19, [.int 0, .int 0, .int 0, .int 0, .int 0, .int 0, .int 0, .ref ti, .ref si, .ref lo, .ref lh, .ref lk, .ref sp, .ref st, .ref pa, .ref br, .ref sg, .int 0, .int 0, .int 0, .int 0, .int 0, .int 0, .long 0, .long 0, .long 0, .long 0, .int th]))] := hD
  have hK : va_K (dC, dI) vwCl [] s := hK
  obtain rfl : 2 = r1 := hw
  refine lv_if_lt (tgt := 55) hx hb dX15_order_25 (by decide) (fun c_ => absurd c_ (by decide +kernel)) (fun _ => ?_)
  refine lv_iload_n hx hb dX15_order_28 rfl (lv_at hl 3 rfl) ?_
  refine lv_i2l (v := p1.toInt64) hx hb dX15_order_29 rfl ?_
  refine lv_lconst (v := 0) hx hb dX15_order_30 (by decide) ?_
  refine lv_iload hx hb dX15_order_31 (lv_at hl 0 rfl) ?_
  refine lv_if_eq (tgt := 42) hx hb dX15_order_33 (by decide) (fun c_ => absurd c_ (by decide +kernel)) (fun _ => ?_)
  refine lv_ldc2 (v := 8) hx hb hown (hts (.constantLong RX15 148 8) (by decide +kernel)) dX15_order_36 ?_
  refine lv_goto (tgt := 45) hx hb dX15_order_39 (by decide) ?_
  have hPc := hP.sub (ws' := []) [] rfl
  have hDc := hD.sub (ws' := []) [] (by decide) rfl
  have hKc := hK.sub (tys' := []) [] rfl
  have hFc := va_free (wc := []) hD hS hA [] rfl
  refine va_calli (va_runS (As := [.long p1.toInt64, .long 0, .long 8]) (rest := []) ⟨hx, hb, hml, hown, hts⟩ (k_in l dC dI z zK zV p1.toInt64 0 8 H.size) (va_cwS 3 hts gX15_order_X15_in rfl rfl rfl (by decide +kernel) ⟨Nat.le_of_ble_eq_true rfl, Nat.le_of_ble_eq_true rfl⟩) ⟨kP_blind, kP_go hPc hKc hDc hFc hM hS⟩ rfl rfl hl.1 rfl (lv_room (Nat.le_of_ble_eq_true rfl)) dX15_order_45 ⟨Nat.le_of_ble_eq_true rfl, Nat.le_of_ble_eq_true rfl⟩) hS (fun q _ h => hFc q h) hFc (fun r2 u t H1 locs ht hvm hw hB hz1 hk1 hS => ?_)
  obtain ⟨hP, hD, hK⟩ := kJ (wr := [(mo, .inr (19, [.int 0, .int 0, .int 0, .int 0, .int 0, .int 0, .int 0, .ref ti, .ref si, .ref lo, .ref lh, .ref lk, .ref sp, .ref st, .ref pa, .ref br, .ref sg, .int 0, .int 0, .int 0, .int 0, .int 0, .int 0, .long 0, .long 0, .long 0, .long 0, .int th]))]) (w1 := []) (t1 := []) hP hD hK [] [0] rfl rfl (by decide) (by decide) hk1 hFc ht hvm hB
  generalize H1 = H at hP hS ⊢
  have hP : va_P (dC, dI) vwCl [(mo, .inr (19, [.int 0, .int 0, .int 0, .int 0, .int 0, .int 0, .int 0, .ref ti, .ref si, .ref lo, .ref lh, .ref lk, .ref sp, .ref st, .ref pa, .ref br, .ref sg, .int 0, .int 0, .int 0, .int 0, .int 0, .int 0, .long 0, .long 0, .long 0, .long 0, .int th]))] H := hP
  have hD : va_D A [(mo, .inr (19, [.int 0, .int 0, .int 0, .int 0, .int 0, .int 0, .int 0, .ref ti, .ref si, .ref lo, .ref lh, .ref lk, .ref sp, .ref st, .ref pa, .ref br, .ref sg, .int 0, .int 0, .int 0, .int 0, .int 0, .int 0, .long 0, .long 0, .long 0, .long 0, .int th]))] := hD
  have hK : va_K (dC, dI) vwCl [] s := hK
  obtain rfl : (if 0 ≤ (p1.toInt64) ∧ (p1.toInt64) ≤ 8 then (1 : Int32) else 0) = r2 := hw
  refine kc_i (y := (if 0 ≤ p1 ∧ p1 ≤ 8 then (1 : Int32) else 0)) (k_inP (a := 0) (b := 8) (by decide +kernel) (by decide +kernel)) ?_
  refine lv_if_eq (tgt := 55) hx hb dX15_order_48 (by decide) (fun c3 => ?_) (fun c3 => ?_)
  · skip
    refine lv_iconst (v := 0) hx hb dX15_order_55 (by decide) ?_
    refine lv_istore (lv' := [(5, .int 0), (4, .int 1), (0, .ref mo), (1, .int 109), (2, .int p1), (3, .int p2)]) hx hb dX15_order_56 hl (by decide) rfl (fun ls hl => ?_)
    refine lv_iload hx hb dX15_order_58 (lv_at hl 0 rfl) ?_
    refine lv_if_eq (tgt := 115) hx hb dX15_order_60 (by decide) (fun _ => ?_) (fun c_ => absurd (by decide +kernel) c_)
    refine lv_iconst (v := 0) hx hb dX15_order_115 (by decide) ?_
    refine lv_istore (lv' := [(5, .int 0), (4, .int 1), (0, .ref mo), (1, .int 109), (2, .int p1), (3, .int p2)]) hx hb dX15_order_116 hl (by decide) rfl (fun ls hl => ?_)
    refine lv_aload_n hx hb dX15_order_118 rfl (lv_at hl 2 rfl) ?_
    refine lv_iload hx hb dX15_order_119 (lv_at hl 0 rfl) ?_
    refine lv_if_ne (tgt := 128) hx hb dX15_order_121 (by decide) (fun c_ => absurd (by decide +kernel) c_) (fun _ => ?_)
    refine lv_iconst (v := 1) hx hb dX15_order_124 (by decide) ?_
    refine lv_goto (tgt := 147) hx hb dX15_order_125 (by decide) ?_
    refine va_put (D := (dC, dI)) (ci := 19) (v := .int 1) (ty := .int) (C := RX15) (T := TX15) (N := 28) hx hb hts hiX15 tyX15 tyX15_ok nmX15 hown hK hP hD hS 0 rfl rfl 27 (by decide) (hts (.fieldLink RX15 45 "SquareRigModel" "thrown" "I") (by decide +kernel)) (fun _ h9 => h9) rfl (by decide +kernel) rfl rfl (Nat.le_of_ble_eq_true rfl) dX15_order_147 (fun H locs hP hD hS => ?_)
    have hP : va_P (dC, dI) vwCl [(mo, .inr (19, [.int 0, .int 0, .int 0, .int 0, .int 0, .int 0, .int 0, .ref ti, .ref si, .ref lo, .ref lh, .ref lk, .ref sp, .ref st, .ref pa, .ref br, .ref sg, .int 0, .int 0, .int 0, .int 0, .int 0, .int 0, .long 0, .long 0, .long 0, .long 0, .int 1]))] H := hP
    have hD : va_D A [(mo, .inr (19, [.int 0, .int 0, .int 0, .int 0, .int 0, .int 0, .int 0, .ref ti, .ref si, .ref lo, .ref lh, .ref lk, .ref sp, .ref st, .ref pa, .ref br, .ref sg, .int 0, .int 0, .int 0, .int 0, .int 0, .int 0, .long 0, .long 0, .long 0, .long 0, .int 1]))] := hD
    refine lv_aload_n hx hb dX15_order_150 rfl (lv_at hl 2 rfl) ?_
    refine va_get (D := (dC, dI)) (ci := 19) (v := .int 1) (C := RX15) (T := TX15) (N := 28) hx hb hts hiX15 hown hK hP 0 rfl rfl 27 (by decide) (hts (.fieldLink RX15 45 "SquareRigModel" "thrown" "I") (by decide +kernel)) (fun _ h9 => h9) rfl dX15_order_151 ?_
    refine lv_if_le (tgt := 159) hx hb dX15_order_154 (by decide) (fun c_ => absurd c_ (by decide +kernel)) (fun _ => ?_)
    refine lv_iconst (v := (-1)) hx hb dX15_order_157 (by decide) ?_
    exact W.iret (v := (-1)) hx hb hr (fun t ht hW => ⟨⟨(-1), (), rfl, rfl, kB_end (w9 := [(mo, .inr (19, [.int 0, .int 0, .int 0, .int 0, .int 0, .int 0, .int 0, .ref ti, .ref si, .ref lo, .ref lh, .ref lk, .ref sp, .ref st, .ref pa, .ref br, .ref sg, .int 0, .int 0, .int 0, .int 0, .int 0, .int 0, .long 0, .long 0, .long 0, .long 0, .int 1]))]) (t9 := []) hP hK hD [0] [] rfl (by decide) rfl rfl t ht hW⟩, hS.F ht⟩) hS.2.2 dX15_order_158
  · skip
    refine lv_iconst (v := 1) hx hb dX15_order_51 (by decide) ?_
    refine lv_goto (tgt := 56) hx hb dX15_order_52 (by decide) ?_
    refine lv_istore (lv' := [(5, .int 1), (4, .int 1), (0, .ref mo), (1, .int 109), (2, .int p1), (3, .int p2)]) hx hb dX15_order_56 hl (by decide) rfl (fun ls hl => ?_)
    refine lv_iload hx hb dX15_order_58 (lv_at hl 0 rfl) ?_
    refine lv_if_eq (tgt := 115) hx hb dX15_order_60 (by decide) (fun c_ => absurd c_ (by decide +kernel)) (fun _ => ?_)
    refine lv_iload_n hx hb dX15_order_63 rfl (lv_at hl 3 rfl) ?_
    refine lv_bipush (v := 115) hx hb dX15_order_64 (by decide) ?_
    refine lv_icmp_ne (tgt := 84) hx hb dX15_order_66 (by decide) (fun _ => ?_) (fun c_ => absurd c_ (by decide +kernel))
    refine lv_iload_n hx hb dX15_order_84 rfl (lv_at hl 3 rfl) ?_
    refine lv_bipush (v := 98) hx hb dX15_order_85 (by decide) ?_
    refine lv_icmp_ne (tgt := 107) hx hb dX15_order_87 (by decide) (fun _ => ?_) (fun c_ => absurd c_ (by decide +kernel))
    refine lv_iload_n hx hb dX15_order_107 rfl (lv_at hl 5 rfl) ?_
    refine lv_if_ne (tgt := 115) hx hb dX15_order_108 (by decide) (fun _ => ?_) (fun c_ => absurd c_ (fun h => hb0 (Or.inr (Or.inl ⟨rfl, k_ift c3, h⟩))))
    refine lv_iconst (v := 0) hx hb dX15_order_115 (by decide) ?_
    refine lv_istore (lv' := [(5, .int 0), (4, .int 1), (0, .ref mo), (1, .int 109), (2, .int p1), (3, .int p2)]) hx hb dX15_order_116 hl (by decide) rfl (fun ls hl => ?_)
    refine lv_aload_n hx hb dX15_order_118 rfl (lv_at hl 2 rfl) ?_
    refine lv_iload hx hb dX15_order_119 (lv_at hl 0 rfl) ?_
    refine lv_if_ne (tgt := 128) hx hb dX15_order_121 (by decide) (fun c_ => absurd (by decide +kernel) c_) (fun _ => ?_)
    refine lv_iconst (v := 1) hx hb dX15_order_124 (by decide) ?_
    refine lv_goto (tgt := 147) hx hb dX15_order_125 (by decide) ?_
    refine va_put (D := (dC, dI)) (ci := 19) (v := .int 1) (ty := .int) (C := RX15) (T := TX15) (N := 28) hx hb hts hiX15 tyX15 tyX15_ok nmX15 hown hK hP hD hS 0 rfl rfl 27 (by decide) (hts (.fieldLink RX15 45 "SquareRigModel" "thrown" "I") (by decide +kernel)) (fun _ h9 => h9) rfl (by decide +kernel) rfl rfl (Nat.le_of_ble_eq_true rfl) dX15_order_147 (fun H locs hP hD hS => ?_)
    have hP : va_P (dC, dI) vwCl [(mo, .inr (19, [.int 0, .int 0, .int 0, .int 0, .int 0, .int 0, .int 0, .ref ti, .ref si, .ref lo, .ref lh, .ref lk, .ref sp, .ref st, .ref pa, .ref br, .ref sg, .int 0, .int 0, .int 0, .int 0, .int 0, .int 0, .long 0, .long 0, .long 0, .long 0, .int 1]))] H := hP
    have hD : va_D A [(mo, .inr (19, [.int 0, .int 0, .int 0, .int 0, .int 0, .int 0, .int 0, .ref ti, .ref si, .ref lo, .ref lh, .ref lk, .ref sp, .ref st, .ref pa, .ref br, .ref sg, .int 0, .int 0, .int 0, .int 0, .int 0, .int 0, .long 0, .long 0, .long 0, .long 0, .int 1]))] := hD
    refine lv_aload_n hx hb dX15_order_150 rfl (lv_at hl 2 rfl) ?_
    refine va_get (D := (dC, dI)) (ci := 19) (v := .int 1) (C := RX15) (T := TX15) (N := 28) hx hb hts hiX15 hown hK hP 0 rfl rfl 27 (by decide) (hts (.fieldLink RX15 45 "SquareRigModel" "thrown" "I") (by decide +kernel)) (fun _ h9 => h9) rfl dX15_order_151 ?_
    refine lv_if_le (tgt := 159) hx hb dX15_order_154 (by decide) (fun c_ => absurd c_ (by decide +kernel)) (fun _ => ?_)
    refine lv_iconst (v := (-1)) hx hb dX15_order_157 (by decide) ?_
    exact W.iret (v := (-1)) hx hb hr (fun t ht hW => ⟨⟨(-1), (), rfl, rfl, kB_end (w9 := [(mo, .inr (19, [.int 0, .int 0, .int 0, .int 0, .int 0, .int 0, .int 0, .ref ti, .ref si, .ref lo, .ref lh, .ref lk, .ref sp, .ref st, .ref pa, .ref br, .ref sg, .int 0, .int 0, .int 0, .int 0, .int 0, .int 0, .long 0, .long 0, .long 0, .long 0, .int 1]))]) (t9 := []) hP hK hD [0] [] rfl (by decide) rfl rfl t ht hW⟩, hS.F ht⟩) hS.2.2 dX15_order_158
abbrev wd_k_m_order_bad98 (z : Nat → Nat) (p1 : Int32) (p2 : Int32) (mo : Nat) (ti : Nat) (si : Nat) (lo : Nat) (lh : Nat) (lk : Nat) (sp : Nat) (st : Nat) (pa : Nat) (br : Nat) (sg : Nat) (th : Int32) : va_W := [(mo, .inr (19, [.int 0, .int 0, .int 0, .int 0, .int 0, .int 0, .int 0, .ref ti, .ref si, .ref lo, .ref lh, .ref lk, .ref sp, .ref st, .ref pa, .ref br, .ref sg, .int 0, .int 0, .int 0, .int 0, .int 0, .int 0, .long 0, .long 0, .long 0, .long 0, .int th]))]
set_option maxHeartbeats 4000000 in
set_option maxRecDepth 100000 in
theorem k_m_order_bad98 (l : Launch) (dC : Nat → ClassId) (dI : Nat → Nat → Nat) (z zK zV : Nat → Nat) (p1 : Int32) (p2 : Int32) (mo : Nat) (ti : Nat) (si : Nat) (lo : Nat) (lh : Nat) (lk : Nat) (sp : Nat) (st : Nat) (pa : Nat) (br : Nat) (sg : Nat) (th : Int32) (sz : Nat) (hb0 : ¬ kO 98 p1 p2) : Met l yX15_order wsX15_order ({ frames := 4, cells := 0, slots := 0, locals := 91 }) (kP dC dI z zK zV [.ref mo, .int 98, .int p1, .int p2] sz (wd_k_m_order_bad98 z p1 p2 mo ti si lo lh lk sp st pa br sg th) []) (va_Qi (fun (r : Int32) (_ : Unit) => (-1) = r) (fun _ t => kB (dC, dI) (va_A (wd_k_m_order_bad98 z p1 p2 mo ti si lo lh lk sp st pa br sg th) sz) [(mo, .inr (19, [.int 0, .int 0, .int 0, .int 0, .int 0, .int 0, .int 0, .ref ti, .ref si, .ref lo, .ref lh, .ref lk, .ref sp, .ref st, .ref pa, .ref br, .ref sg, .int 0, .int 0, .int 0, .int 0, .int 0, .int 0, .long 0, .long 0, .long 0, .long 0, .int 1]))] [] t) (va_A (wd_k_m_order_bad98 z p1 p2 mo ti si lo lh lk sp st pa br sg th) sz)) 0 0 (va_A (wd_k_m_order_bad98 z p1 p2 mo ti si lo lh lk sp st pa br sg th) sz) := by
  refine Met.ofW (cc := cX15_order) (maxL := 6) (ret := (some .int)) (by decide) rfl ?_
  intro p e s m args below meth c s₁ B hml hv
  obtain ⟨rfl, hsz, hP, hK, hD0, hM⟩ := hv
  have hx := B.exec
  have hb := B.bytes
  have hr := B.returns
  have hts := atoms_spec (ws := wsX15_order) B.pre
  have hown : s.vm.findClass RX15 = some m.cls := findClass_of_methodNamed B.named
  have hlocks := B.notSynchronized
  have hiX15 : ∀ w ∈ u_ws RX15 TX15 28, w ∈ wsX15_order := by decide +kernel
  subst hsz
  have hD := hD0.self (sz := s.heap.size)
  generalize hAe : va_A (wd_k_m_order_bad98 z p1 p2 mo ti si lo lh lk sp st pa br sg th) s.heap.size = A at hD hM ⊢
  have hA : ∀ q : Nat, s.heap.size ≤ q → A q := fun q h => by rw [← hAe]; exact Or.inr h
  have hS : va_S A s.heap s.heap [] := va_S.rf
  have hP : va_P (dC, dI) vwCl [(mo, .inr (19, [.int 0, .int 0, .int 0, .int 0, .int 0, .int 0, .int 0, .ref ti, .ref si, .ref lo, .ref lh, .ref lk, .ref sp, .ref st, .ref pa, .ref br, .ref sg, .int 0, .int 0, .int 0, .int 0, .int 0, .int 0, .long 0, .long 0, .long 0, .long 0, .int th]))] s.heap := hP
  have hD : va_D A [(mo, .inr (19, [.int 0, .int 0, .int 0, .int 0, .int 0, .int 0, .int 0, .ref ti, .ref si, .ref lo, .ref lh, .ref lk, .ref sp, .ref st, .ref pa, .ref br, .ref sg, .int 0, .int 0, .int 0, .int 0, .int 0, .int 0, .long 0, .long 0, .long 0, .long 0, .int th]))] := hD
  have hl := lv_entry ([.ref mo, .int 98, .int p1, .int p2]) (n := 6) (Nat.le_of_ble_eq_true rfl)
  rw [lg_entry_eq]
  generalize (lg_sl ([.ref mo, .int 98, .int p1, .int p2]) ++ List.replicate (6 - (lg_sl ([.ref mo, .int 98, .int p1, .int p2])).length) Slot.unset).toArray = ls at hl ⊢
  have hl : lv_has ls 6 [(0, .ref mo), (1, .int 98), (2, .int p1), (3, .int p2)] := hl
  refine lv_iload_n hx hb dX15_order_0 rfl (lv_at hl 1 rfl) ?_
  refine lv_bipush (v := 115) hx hb dX15_order_1 (by decide) ?_
  refine lv_icmp_eq (tgt := 12) hx hb dX15_order_3 (by decide) (fun c_ => absurd c_ (by decide +kernel)) (fun _ => ?_)
  refine lv_iload_n hx hb dX15_order_6 rfl (lv_at hl 1 rfl) ?_
  refine lv_bipush (v := 109) hx hb dX15_order_7 (by decide) ?_
  refine lv_icmp_ne (tgt := 16) hx hb dX15_order_9 (by decide) (fun _ => ?_) (fun c_ => absurd c_ (by decide +kernel))
  refine lv_iconst (v := 0) hx hb dX15_order_16 (by decide) ?_
  refine lv_istore (lv' := [(4, .int 0), (0, .ref mo), (1, .int 98), (2, .int p1), (3, .int p2)]) hx hb dX15_order_17 hl (by decide) rfl (fun ls hl => ?_)
  refine va_ldcS hx hb hown (hM.2.2.1 0 _ rfl) dX15_order_19 ?_
  refine lv_iload_n hx hb dX15_order_21 rfl (lv_at hl 2 rfl) ?_
  have hPc := hP.sub (ws' := []) [] rfl
  have hDc := hD.sub (ws' := []) [] (by decide) rfl
  have hKc := hK.sub (tys' := []) [] rfl
  have hFc := va_free (wc := []) hD hS hA [] rfl
  refine va_calli (va_runV (As := [.int 98]) (rest := []) ⟨hx, hb, hml, hown, hts⟩ (k_ix3_98 l dC dI z zK zV  s.heap.size) (cwV 1 hts gX15_order_J0_indexOf_0f7a4 rfl rfl rfl (by decide +kernel) ⟨Nat.le_of_ble_eq_true rfl, Nat.le_of_ble_eq_true rfl⟩) ⟨kP_blind, vk_recv (i := 0) hM.2.2.2.1 (by decide) hS, kP_go hPc hKc hDc hFc hM hS⟩ rfl rfl hl.1 rfl (lv_room (Nat.le_of_ble_eq_true rfl)) dX15_order_22 ⟨Nat.le_of_ble_eq_true rfl, Nat.le_of_ble_eq_true rfl⟩) hS (fun q _ h => hFc q h) hFc (fun r1 u t H1 locs ht hvm hw hB hz1 hk1 hS => ?_)
  obtain ⟨hP, hD, hK⟩ := kJ (wr := [(mo, .inr (19, [.int 0, .int 0, .int 0, .int 0, .int 0, .int 0, .int 0, .ref ti, .ref si, .ref lo, .ref lh, .ref lk, .ref sp, .ref st, .ref pa, .ref br, .ref sg, .int 0, .int 0, .int 0, .int 0, .int 0, .int 0, .long 0, .long 0, .long 0, .long 0, .int th]))]) (w1 := []) (t1 := []) hP hD hK [] [0] rfl rfl (by decide) (by decide) hk1 hFc ht hvm hB
  generalize H1 = H at hP hS ⊢
  have hP : va_P (dC, dI) vwCl [(mo, .inr (19, [.int 0, .int 0, .int 0, .int 0, .int 0, .int 0, .int 0, .ref ti, .ref si, .ref lo, .ref lh, .ref lk, .ref sp, .ref st, .ref pa, .ref br, .ref sg, .int 0, .int 0, .int 0, .int 0, .int 0, .int 0, .long 0, .long 0, .long 0, .long 0, .int th]))] H := hP
  have hD : va_D A [(mo, .inr (19, [.int 0, .int 0, .int 0, .int 0, .int 0, .int 0, .int 0, .ref ti, .ref si, .ref lo, .ref lh, .ref lk, .ref sp, .ref st, .ref pa, .ref br, .ref sg, .int 0, .int 0, .int 0, .int 0, .int 0, .int 0, .long 0, .long 0, .long 0, .long 0, .int th]))] := hD
  have hK : va_K (dC, dI) vwCl [] s := hK
  obtain rfl : 1 = r1 := hw
  refine lv_if_lt (tgt := 55) hx hb dX15_order_25 (by decide) (fun c_ => absurd c_ (by decide +kernel)) (fun _ => ?_)
  refine lv_iload_n hx hb dX15_order_28 rfl (lv_at hl 3 rfl) ?_
  refine lv_i2l (v := p1.toInt64) hx hb dX15_order_29 rfl ?_
  refine lv_lconst (v := 0) hx hb dX15_order_30 (by decide) ?_
  refine lv_iload hx hb dX15_order_31 (lv_at hl 0 rfl) ?_
  refine lv_if_eq (tgt := 42) hx hb dX15_order_33 (by decide) (fun _ => ?_) (fun c_ => absurd (by decide +kernel) c_)
  refine lv_ldc2 (v := 2) hx hb hown (hts (.constantLong RX15 150 2) (by decide +kernel)) dX15_order_42 ?_
  have hPc := hP.sub (ws' := []) [] rfl
  have hDc := hD.sub (ws' := []) [] (by decide) rfl
  have hKc := hK.sub (tys' := []) [] rfl
  have hFc := va_free (wc := []) hD hS hA [] rfl
  refine va_calli (va_runS (As := [.long p1.toInt64, .long 0, .long 2]) (rest := []) ⟨hx, hb, hml, hown, hts⟩ (k_in l dC dI z zK zV p1.toInt64 0 2 H.size) (va_cwS 3 hts gX15_order_X15_in rfl rfl rfl (by decide +kernel) ⟨Nat.le_of_ble_eq_true rfl, Nat.le_of_ble_eq_true rfl⟩) ⟨kP_blind, kP_go hPc hKc hDc hFc hM hS⟩ rfl rfl hl.1 rfl (lv_room (Nat.le_of_ble_eq_true rfl)) dX15_order_45 ⟨Nat.le_of_ble_eq_true rfl, Nat.le_of_ble_eq_true rfl⟩) hS (fun q _ h => hFc q h) hFc (fun r2 u t H1 locs ht hvm hw hB hz1 hk1 hS => ?_)
  obtain ⟨hP, hD, hK⟩ := kJ (wr := [(mo, .inr (19, [.int 0, .int 0, .int 0, .int 0, .int 0, .int 0, .int 0, .ref ti, .ref si, .ref lo, .ref lh, .ref lk, .ref sp, .ref st, .ref pa, .ref br, .ref sg, .int 0, .int 0, .int 0, .int 0, .int 0, .int 0, .long 0, .long 0, .long 0, .long 0, .int th]))]) (w1 := []) (t1 := []) hP hD hK [] [0] rfl rfl (by decide) (by decide) hk1 hFc ht hvm hB
  generalize H1 = H at hP hS ⊢
  have hP : va_P (dC, dI) vwCl [(mo, .inr (19, [.int 0, .int 0, .int 0, .int 0, .int 0, .int 0, .int 0, .ref ti, .ref si, .ref lo, .ref lh, .ref lk, .ref sp, .ref st, .ref pa, .ref br, .ref sg, .int 0, .int 0, .int 0, .int 0, .int 0, .int 0, .long 0, .long 0, .long 0, .long 0, .int th]))] H := hP
  have hD : va_D A [(mo, .inr (19, [.int 0, .int 0, .int 0, .int 0, .int 0, .int 0, .int 0, .ref ti, .ref si, .ref lo, .ref lh, .ref lk, .ref sp, .ref st, .ref pa, .ref br, .ref sg, .int 0, .int 0, .int 0, .int 0, .int 0, .int 0, .long 0, .long 0, .long 0, .long 0, .int th]))] := hD
  have hK : va_K (dC, dI) vwCl [] s := hK
  obtain rfl : (if 0 ≤ (p1.toInt64) ∧ (p1.toInt64) ≤ 2 then (1 : Int32) else 0) = r2 := hw
  refine kc_i (y := (if 0 ≤ p1 ∧ p1 ≤ 2 then (1 : Int32) else 0)) (k_inP (a := 0) (b := 2) (by decide +kernel) (by decide +kernel)) ?_
  refine lv_if_eq (tgt := 55) hx hb dX15_order_48 (by decide) (fun c3 => ?_) (fun c3 => ?_)
  · skip
    refine lv_iconst (v := 0) hx hb dX15_order_55 (by decide) ?_
    refine lv_istore (lv' := [(5, .int 0), (4, .int 0), (0, .ref mo), (1, .int 98), (2, .int p1), (3, .int p2)]) hx hb dX15_order_56 hl (by decide) rfl (fun ls hl => ?_)
    refine lv_iload hx hb dX15_order_58 (lv_at hl 0 rfl) ?_
    refine lv_if_eq (tgt := 115) hx hb dX15_order_60 (by decide) (fun _ => ?_) (fun c_ => absurd (by decide +kernel) c_)
    refine lv_iconst (v := 0) hx hb dX15_order_115 (by decide) ?_
    refine lv_istore (lv' := [(5, .int 0), (4, .int 0), (0, .ref mo), (1, .int 98), (2, .int p1), (3, .int p2)]) hx hb dX15_order_116 hl (by decide) rfl (fun ls hl => ?_)
    refine lv_aload_n hx hb dX15_order_118 rfl (lv_at hl 2 rfl) ?_
    refine lv_iload hx hb dX15_order_119 (lv_at hl 0 rfl) ?_
    refine lv_if_ne (tgt := 128) hx hb dX15_order_121 (by decide) (fun c_ => absurd (by decide +kernel) c_) (fun _ => ?_)
    refine lv_iconst (v := 1) hx hb dX15_order_124 (by decide) ?_
    refine lv_goto (tgt := 147) hx hb dX15_order_125 (by decide) ?_
    refine va_put (D := (dC, dI)) (ci := 19) (v := .int 1) (ty := .int) (C := RX15) (T := TX15) (N := 28) hx hb hts hiX15 tyX15 tyX15_ok nmX15 hown hK hP hD hS 0 rfl rfl 27 (by decide) (hts (.fieldLink RX15 45 "SquareRigModel" "thrown" "I") (by decide +kernel)) (fun _ h9 => h9) rfl (by decide +kernel) rfl rfl (Nat.le_of_ble_eq_true rfl) dX15_order_147 (fun H locs hP hD hS => ?_)
    have hP : va_P (dC, dI) vwCl [(mo, .inr (19, [.int 0, .int 0, .int 0, .int 0, .int 0, .int 0, .int 0, .ref ti, .ref si, .ref lo, .ref lh, .ref lk, .ref sp, .ref st, .ref pa, .ref br, .ref sg, .int 0, .int 0, .int 0, .int 0, .int 0, .int 0, .long 0, .long 0, .long 0, .long 0, .int 1]))] H := hP
    have hD : va_D A [(mo, .inr (19, [.int 0, .int 0, .int 0, .int 0, .int 0, .int 0, .int 0, .ref ti, .ref si, .ref lo, .ref lh, .ref lk, .ref sp, .ref st, .ref pa, .ref br, .ref sg, .int 0, .int 0, .int 0, .int 0, .int 0, .int 0, .long 0, .long 0, .long 0, .long 0, .int 1]))] := hD
    refine lv_aload_n hx hb dX15_order_150 rfl (lv_at hl 2 rfl) ?_
    refine va_get (D := (dC, dI)) (ci := 19) (v := .int 1) (C := RX15) (T := TX15) (N := 28) hx hb hts hiX15 hown hK hP 0 rfl rfl 27 (by decide) (hts (.fieldLink RX15 45 "SquareRigModel" "thrown" "I") (by decide +kernel)) (fun _ h9 => h9) rfl dX15_order_151 ?_
    refine lv_if_le (tgt := 159) hx hb dX15_order_154 (by decide) (fun c_ => absurd c_ (by decide +kernel)) (fun _ => ?_)
    refine lv_iconst (v := (-1)) hx hb dX15_order_157 (by decide) ?_
    exact W.iret (v := (-1)) hx hb hr (fun t ht hW => ⟨⟨(-1), (), rfl, rfl, kB_end (w9 := [(mo, .inr (19, [.int 0, .int 0, .int 0, .int 0, .int 0, .int 0, .int 0, .ref ti, .ref si, .ref lo, .ref lh, .ref lk, .ref sp, .ref st, .ref pa, .ref br, .ref sg, .int 0, .int 0, .int 0, .int 0, .int 0, .int 0, .long 0, .long 0, .long 0, .long 0, .int 1]))]) (t9 := []) hP hK hD [0] [] rfl (by decide) rfl rfl t ht hW⟩, hS.F ht⟩) hS.2.2 dX15_order_158
  · skip
    refine lv_iconst (v := 1) hx hb dX15_order_51 (by decide) ?_
    refine lv_goto (tgt := 56) hx hb dX15_order_52 (by decide) ?_
    refine lv_istore (lv' := [(5, .int 1), (4, .int 0), (0, .ref mo), (1, .int 98), (2, .int p1), (3, .int p2)]) hx hb dX15_order_56 hl (by decide) rfl (fun ls hl => ?_)
    refine lv_iload hx hb dX15_order_58 (lv_at hl 0 rfl) ?_
    refine lv_if_eq (tgt := 115) hx hb dX15_order_60 (by decide) (fun c_ => absurd c_ (by decide +kernel)) (fun _ => ?_)
    refine lv_iload_n hx hb dX15_order_63 rfl (lv_at hl 3 rfl) ?_
    refine lv_bipush (v := 115) hx hb dX15_order_64 (by decide) ?_
    refine lv_icmp_ne (tgt := 84) hx hb dX15_order_66 (by decide) (fun _ => ?_) (fun c_ => absurd c_ (by decide +kernel))
    refine lv_iload_n hx hb dX15_order_84 rfl (lv_at hl 3 rfl) ?_
    refine lv_bipush (v := 98) hx hb dX15_order_85 (by decide) ?_
    refine lv_icmp_ne (tgt := 107) hx hb dX15_order_87 (by decide) (fun c_ => absurd (by decide +kernel) c_) (fun _ => ?_)
    refine lv_iload_n hx hb dX15_order_90 rfl (lv_at hl 5 rfl) ?_
    refine lv_i2l (v := p2.toInt64) hx hb dX15_order_91 rfl ?_
    refine lv_ldc2 (v := (-4)) hx hb hown (hts (.constantLong RX15 152 (-4)) (by decide +kernel)) dX15_order_92 ?_
    refine lv_ldc2 (v := 4) hx hb hown (hts (.constantLong RX15 154 4) (by decide +kernel)) dX15_order_95 ?_
    have hPc := hP.sub (ws' := []) [] rfl
    have hDc := hD.sub (ws' := []) [] (by decide) rfl
    have hKc := hK.sub (tys' := []) [] rfl
    have hFc := va_free (wc := []) hD hS hA [] rfl
    refine va_calli (va_runS (As := [.long p2.toInt64, .long (-4), .long 4]) (rest := []) ⟨hx, hb, hml, hown, hts⟩ (k_in l dC dI z zK zV p2.toInt64 (-4) 4 H.size) (va_cwS 3 hts gX15_order_X15_in rfl rfl rfl (by decide +kernel) ⟨Nat.le_of_ble_eq_true rfl, Nat.le_of_ble_eq_true rfl⟩) ⟨kP_blind, kP_go hPc hKc hDc hFc hM hS⟩ rfl rfl hl.1 rfl (lv_room (Nat.le_of_ble_eq_true rfl)) dX15_order_98 ⟨Nat.le_of_ble_eq_true rfl, Nat.le_of_ble_eq_true rfl⟩) hS (fun q _ h => hFc q h) hFc (fun r4 u t H1 locs ht hvm hw hB hz1 hk1 hS => ?_)
    obtain ⟨hP, hD, hK⟩ := kJ (wr := [(mo, .inr (19, [.int 0, .int 0, .int 0, .int 0, .int 0, .int 0, .int 0, .ref ti, .ref si, .ref lo, .ref lh, .ref lk, .ref sp, .ref st, .ref pa, .ref br, .ref sg, .int 0, .int 0, .int 0, .int 0, .int 0, .int 0, .long 0, .long 0, .long 0, .long 0, .int th]))]) (w1 := []) (t1 := []) hP hD hK [] [0] rfl rfl (by decide) (by decide) hk1 hFc ht hvm hB
    generalize H1 = H at hP hS ⊢
    have hP : va_P (dC, dI) vwCl [(mo, .inr (19, [.int 0, .int 0, .int 0, .int 0, .int 0, .int 0, .int 0, .ref ti, .ref si, .ref lo, .ref lh, .ref lk, .ref sp, .ref st, .ref pa, .ref br, .ref sg, .int 0, .int 0, .int 0, .int 0, .int 0, .int 0, .long 0, .long 0, .long 0, .long 0, .int th]))] H := hP
    have hD : va_D A [(mo, .inr (19, [.int 0, .int 0, .int 0, .int 0, .int 0, .int 0, .int 0, .ref ti, .ref si, .ref lo, .ref lh, .ref lk, .ref sp, .ref st, .ref pa, .ref br, .ref sg, .int 0, .int 0, .int 0, .int 0, .int 0, .int 0, .long 0, .long 0, .long 0, .long 0, .int th]))] := hD
    have hK : va_K (dC, dI) vwCl [] s := hK
    obtain rfl : (if (-4) ≤ (p2.toInt64) ∧ (p2.toInt64) ≤ 4 then (1 : Int32) else 0) = r4 := hw
    refine kc_i (y := (if (-4) ≤ p2 ∧ p2 ≤ 4 then (1 : Int32) else 0)) (k_inP (a := (-4)) (b := 4) (by decide +kernel) (by decide +kernel)) ?_
    refine lv_if_eq (tgt := 115) hx hb dX15_order_101 (by decide) (fun _ => ?_) (fun c_ => absurd (if_neg (fun h => hb0 (Or.inr (Or.inr (Or.inl ⟨rfl, k_ift c3, h⟩))))) c_)
    refine lv_iconst (v := 0) hx hb dX15_order_115 (by decide) ?_
    refine lv_istore (lv' := [(5, .int 0), (4, .int 0), (0, .ref mo), (1, .int 98), (2, .int p1), (3, .int p2)]) hx hb dX15_order_116 hl (by decide) rfl (fun ls hl => ?_)
    refine lv_aload_n hx hb dX15_order_118 rfl (lv_at hl 2 rfl) ?_
    refine lv_iload hx hb dX15_order_119 (lv_at hl 0 rfl) ?_
    refine lv_if_ne (tgt := 128) hx hb dX15_order_121 (by decide) (fun c_ => absurd (by decide +kernel) c_) (fun _ => ?_)
    refine lv_iconst (v := 1) hx hb dX15_order_124 (by decide) ?_
    refine lv_goto (tgt := 147) hx hb dX15_order_125 (by decide) ?_
    refine va_put (D := (dC, dI)) (ci := 19) (v := .int 1) (ty := .int) (C := RX15) (T := TX15) (N := 28) hx hb hts hiX15 tyX15 tyX15_ok nmX15 hown hK hP hD hS 0 rfl rfl 27 (by decide) (hts (.fieldLink RX15 45 "SquareRigModel" "thrown" "I") (by decide +kernel)) (fun _ h9 => h9) rfl (by decide +kernel) rfl rfl (Nat.le_of_ble_eq_true rfl) dX15_order_147 (fun H locs hP hD hS => ?_)
    have hP : va_P (dC, dI) vwCl [(mo, .inr (19, [.int 0, .int 0, .int 0, .int 0, .int 0, .int 0, .int 0, .ref ti, .ref si, .ref lo, .ref lh, .ref lk, .ref sp, .ref st, .ref pa, .ref br, .ref sg, .int 0, .int 0, .int 0, .int 0, .int 0, .int 0, .long 0, .long 0, .long 0, .long 0, .int 1]))] H := hP
    have hD : va_D A [(mo, .inr (19, [.int 0, .int 0, .int 0, .int 0, .int 0, .int 0, .int 0, .ref ti, .ref si, .ref lo, .ref lh, .ref lk, .ref sp, .ref st, .ref pa, .ref br, .ref sg, .int 0, .int 0, .int 0, .int 0, .int 0, .int 0, .long 0, .long 0, .long 0, .long 0, .int 1]))] := hD
    refine lv_aload_n hx hb dX15_order_150 rfl (lv_at hl 2 rfl) ?_
    refine va_get (D := (dC, dI)) (ci := 19) (v := .int 1) (C := RX15) (T := TX15) (N := 28) hx hb hts hiX15 hown hK hP 0 rfl rfl 27 (by decide) (hts (.fieldLink RX15 45 "SquareRigModel" "thrown" "I") (by decide +kernel)) (fun _ h9 => h9) rfl dX15_order_151 ?_
    refine lv_if_le (tgt := 159) hx hb dX15_order_154 (by decide) (fun c_ => absurd c_ (by decide +kernel)) (fun _ => ?_)
    refine lv_iconst (v := (-1)) hx hb dX15_order_157 (by decide) ?_
    exact W.iret (v := (-1)) hx hb hr (fun t ht hW => ⟨⟨(-1), (), rfl, rfl, kB_end (w9 := [(mo, .inr (19, [.int 0, .int 0, .int 0, .int 0, .int 0, .int 0, .int 0, .ref ti, .ref si, .ref lo, .ref lh, .ref lk, .ref sp, .ref st, .ref pa, .ref br, .ref sg, .int 0, .int 0, .int 0, .int 0, .int 0, .int 0, .long 0, .long 0, .long 0, .long 0, .int 1]))]) (t9 := []) hP hK hD [0] [] rfl (by decide) rfl rfl t ht hW⟩, hS.F ht⟩) hS.2.2 dX15_order_158
abbrev wd_k_m_order_bad114 (z : Nat → Nat) (p1 : Int32) (p2 : Int32) (mo : Nat) (ti : Nat) (si : Nat) (lo : Nat) (lh : Nat) (lk : Nat) (sp : Nat) (st : Nat) (pa : Nat) (br : Nat) (sg : Nat) (th : Int32) : va_W := [(mo, .inr (19, [.int 0, .int 0, .int 0, .int 0, .int 0, .int 0, .int 0, .ref ti, .ref si, .ref lo, .ref lh, .ref lk, .ref sp, .ref st, .ref pa, .ref br, .ref sg, .int 0, .int 0, .int 0, .int 0, .int 0, .int 0, .long 0, .long 0, .long 0, .long 0, .int th]))]
set_option maxHeartbeats 4000000 in
set_option maxRecDepth 100000 in
theorem k_m_order_bad114 (l : Launch) (dC : Nat → ClassId) (dI : Nat → Nat → Nat) (z zK zV : Nat → Nat) (p1 : Int32) (p2 : Int32) (mo : Nat) (ti : Nat) (si : Nat) (lo : Nat) (lh : Nat) (lk : Nat) (sp : Nat) (st : Nat) (pa : Nat) (br : Nat) (sg : Nat) (th : Int32) (sz : Nat) (hb0 : ¬ kO 114 p1 p2) : Met l yX15_order wsX15_order ({ frames := 4, cells := 0, slots := 0, locals := 91 }) (kP dC dI z zK zV [.ref mo, .int 114, .int p1, .int p2] sz (wd_k_m_order_bad114 z p1 p2 mo ti si lo lh lk sp st pa br sg th) []) (va_Qi (fun (r : Int32) (_ : Unit) => (-1) = r) (fun _ t => kB (dC, dI) (va_A (wd_k_m_order_bad114 z p1 p2 mo ti si lo lh lk sp st pa br sg th) sz) [(mo, .inr (19, [.int 0, .int 0, .int 0, .int 0, .int 0, .int 0, .int 0, .ref ti, .ref si, .ref lo, .ref lh, .ref lk, .ref sp, .ref st, .ref pa, .ref br, .ref sg, .int 0, .int 0, .int 0, .int 0, .int 0, .int 0, .long 0, .long 0, .long 0, .long 0, .int 1]))] [] t) (va_A (wd_k_m_order_bad114 z p1 p2 mo ti si lo lh lk sp st pa br sg th) sz)) 0 0 (va_A (wd_k_m_order_bad114 z p1 p2 mo ti si lo lh lk sp st pa br sg th) sz) := by
  refine Met.ofW (cc := cX15_order) (maxL := 6) (ret := (some .int)) (by decide) rfl ?_
  intro p e s m args below meth c s₁ B hml hv
  obtain ⟨rfl, hsz, hP, hK, hD0, hM⟩ := hv
  have hx := B.exec
  have hb := B.bytes
  have hr := B.returns
  have hts := atoms_spec (ws := wsX15_order) B.pre
  have hown : s.vm.findClass RX15 = some m.cls := findClass_of_methodNamed B.named
  have hlocks := B.notSynchronized
  have hiX15 : ∀ w ∈ u_ws RX15 TX15 28, w ∈ wsX15_order := by decide +kernel
  subst hsz
  have hD := hD0.self (sz := s.heap.size)
  generalize hAe : va_A (wd_k_m_order_bad114 z p1 p2 mo ti si lo lh lk sp st pa br sg th) s.heap.size = A at hD hM ⊢
  have hA : ∀ q : Nat, s.heap.size ≤ q → A q := fun q h => by rw [← hAe]; exact Or.inr h
  have hS : va_S A s.heap s.heap [] := va_S.rf
  have hP : va_P (dC, dI) vwCl [(mo, .inr (19, [.int 0, .int 0, .int 0, .int 0, .int 0, .int 0, .int 0, .ref ti, .ref si, .ref lo, .ref lh, .ref lk, .ref sp, .ref st, .ref pa, .ref br, .ref sg, .int 0, .int 0, .int 0, .int 0, .int 0, .int 0, .long 0, .long 0, .long 0, .long 0, .int th]))] s.heap := hP
  have hD : va_D A [(mo, .inr (19, [.int 0, .int 0, .int 0, .int 0, .int 0, .int 0, .int 0, .ref ti, .ref si, .ref lo, .ref lh, .ref lk, .ref sp, .ref st, .ref pa, .ref br, .ref sg, .int 0, .int 0, .int 0, .int 0, .int 0, .int 0, .long 0, .long 0, .long 0, .long 0, .int th]))] := hD
  have hl := lv_entry ([.ref mo, .int 114, .int p1, .int p2]) (n := 6) (Nat.le_of_ble_eq_true rfl)
  rw [lg_entry_eq]
  generalize (lg_sl ([.ref mo, .int 114, .int p1, .int p2]) ++ List.replicate (6 - (lg_sl ([.ref mo, .int 114, .int p1, .int p2])).length) Slot.unset).toArray = ls at hl ⊢
  have hl : lv_has ls 6 [(0, .ref mo), (1, .int 114), (2, .int p1), (3, .int p2)] := hl
  refine lv_iload_n hx hb dX15_order_0 rfl (lv_at hl 1 rfl) ?_
  refine lv_bipush (v := 115) hx hb dX15_order_1 (by decide) ?_
  refine lv_icmp_eq (tgt := 12) hx hb dX15_order_3 (by decide) (fun c_ => absurd c_ (by decide +kernel)) (fun _ => ?_)
  refine lv_iload_n hx hb dX15_order_6 rfl (lv_at hl 1 rfl) ?_
  refine lv_bipush (v := 109) hx hb dX15_order_7 (by decide) ?_
  refine lv_icmp_ne (tgt := 16) hx hb dX15_order_9 (by decide) (fun _ => ?_) (fun c_ => absurd c_ (by decide +kernel))
  refine lv_iconst (v := 0) hx hb dX15_order_16 (by decide) ?_
  refine lv_istore (lv' := [(4, .int 0), (0, .ref mo), (1, .int 114), (2, .int p1), (3, .int p2)]) hx hb dX15_order_17 hl (by decide) rfl (fun ls hl => ?_)
  refine va_ldcS hx hb hown (hM.2.2.1 0 _ rfl) dX15_order_19 ?_
  refine lv_iload_n hx hb dX15_order_21 rfl (lv_at hl 2 rfl) ?_
  have hPc := hP.sub (ws' := []) [] rfl
  have hDc := hD.sub (ws' := []) [] (by decide) rfl
  have hKc := hK.sub (tys' := []) [] rfl
  have hFc := va_free (wc := []) hD hS hA [] rfl
  refine va_calli (va_runV (As := [.int 114]) (rest := []) ⟨hx, hb, hml, hown, hts⟩ (k_ix3_114 l dC dI z zK zV  s.heap.size) (cwV 1 hts gX15_order_J0_indexOf_0f7a4 rfl rfl rfl (by decide +kernel) ⟨Nat.le_of_ble_eq_true rfl, Nat.le_of_ble_eq_true rfl⟩) ⟨kP_blind, vk_recv (i := 0) hM.2.2.2.1 (by decide) hS, kP_go hPc hKc hDc hFc hM hS⟩ rfl rfl hl.1 rfl (lv_room (Nat.le_of_ble_eq_true rfl)) dX15_order_22 ⟨Nat.le_of_ble_eq_true rfl, Nat.le_of_ble_eq_true rfl⟩) hS (fun q _ h => hFc q h) hFc (fun r1 u t H1 locs ht hvm hw hB hz1 hk1 hS => ?_)
  obtain ⟨hP, hD, hK⟩ := kJ (wr := [(mo, .inr (19, [.int 0, .int 0, .int 0, .int 0, .int 0, .int 0, .int 0, .ref ti, .ref si, .ref lo, .ref lh, .ref lk, .ref sp, .ref st, .ref pa, .ref br, .ref sg, .int 0, .int 0, .int 0, .int 0, .int 0, .int 0, .long 0, .long 0, .long 0, .long 0, .int th]))]) (w1 := []) (t1 := []) hP hD hK [] [0] rfl rfl (by decide) (by decide) hk1 hFc ht hvm hB
  generalize H1 = H at hP hS ⊢
  have hP : va_P (dC, dI) vwCl [(mo, .inr (19, [.int 0, .int 0, .int 0, .int 0, .int 0, .int 0, .int 0, .ref ti, .ref si, .ref lo, .ref lh, .ref lk, .ref sp, .ref st, .ref pa, .ref br, .ref sg, .int 0, .int 0, .int 0, .int 0, .int 0, .int 0, .long 0, .long 0, .long 0, .long 0, .int th]))] H := hP
  have hD : va_D A [(mo, .inr (19, [.int 0, .int 0, .int 0, .int 0, .int 0, .int 0, .int 0, .ref ti, .ref si, .ref lo, .ref lh, .ref lk, .ref sp, .ref st, .ref pa, .ref br, .ref sg, .int 0, .int 0, .int 0, .int 0, .int 0, .int 0, .long 0, .long 0, .long 0, .long 0, .int th]))] := hD
  have hK : va_K (dC, dI) vwCl [] s := hK
  obtain rfl : 3 = r1 := hw
  refine lv_if_lt (tgt := 55) hx hb dX15_order_25 (by decide) (fun c_ => absurd c_ (by decide +kernel)) (fun _ => ?_)
  refine lv_iload_n hx hb dX15_order_28 rfl (lv_at hl 3 rfl) ?_
  refine lv_i2l (v := p1.toInt64) hx hb dX15_order_29 rfl ?_
  refine lv_lconst (v := 0) hx hb dX15_order_30 (by decide) ?_
  refine lv_iload hx hb dX15_order_31 (lv_at hl 0 rfl) ?_
  refine lv_if_eq (tgt := 42) hx hb dX15_order_33 (by decide) (fun _ => ?_) (fun c_ => absurd (by decide +kernel) c_)
  refine lv_ldc2 (v := 2) hx hb hown (hts (.constantLong RX15 150 2) (by decide +kernel)) dX15_order_42 ?_
  have hPc := hP.sub (ws' := []) [] rfl
  have hDc := hD.sub (ws' := []) [] (by decide) rfl
  have hKc := hK.sub (tys' := []) [] rfl
  have hFc := va_free (wc := []) hD hS hA [] rfl
  refine va_calli (va_runS (As := [.long p1.toInt64, .long 0, .long 2]) (rest := []) ⟨hx, hb, hml, hown, hts⟩ (k_in l dC dI z zK zV p1.toInt64 0 2 H.size) (va_cwS 3 hts gX15_order_X15_in rfl rfl rfl (by decide +kernel) ⟨Nat.le_of_ble_eq_true rfl, Nat.le_of_ble_eq_true rfl⟩) ⟨kP_blind, kP_go hPc hKc hDc hFc hM hS⟩ rfl rfl hl.1 rfl (lv_room (Nat.le_of_ble_eq_true rfl)) dX15_order_45 ⟨Nat.le_of_ble_eq_true rfl, Nat.le_of_ble_eq_true rfl⟩) hS (fun q _ h => hFc q h) hFc (fun r2 u t H1 locs ht hvm hw hB hz1 hk1 hS => ?_)
  obtain ⟨hP, hD, hK⟩ := kJ (wr := [(mo, .inr (19, [.int 0, .int 0, .int 0, .int 0, .int 0, .int 0, .int 0, .ref ti, .ref si, .ref lo, .ref lh, .ref lk, .ref sp, .ref st, .ref pa, .ref br, .ref sg, .int 0, .int 0, .int 0, .int 0, .int 0, .int 0, .long 0, .long 0, .long 0, .long 0, .int th]))]) (w1 := []) (t1 := []) hP hD hK [] [0] rfl rfl (by decide) (by decide) hk1 hFc ht hvm hB
  generalize H1 = H at hP hS ⊢
  have hP : va_P (dC, dI) vwCl [(mo, .inr (19, [.int 0, .int 0, .int 0, .int 0, .int 0, .int 0, .int 0, .ref ti, .ref si, .ref lo, .ref lh, .ref lk, .ref sp, .ref st, .ref pa, .ref br, .ref sg, .int 0, .int 0, .int 0, .int 0, .int 0, .int 0, .long 0, .long 0, .long 0, .long 0, .int th]))] H := hP
  have hD : va_D A [(mo, .inr (19, [.int 0, .int 0, .int 0, .int 0, .int 0, .int 0, .int 0, .ref ti, .ref si, .ref lo, .ref lh, .ref lk, .ref sp, .ref st, .ref pa, .ref br, .ref sg, .int 0, .int 0, .int 0, .int 0, .int 0, .int 0, .long 0, .long 0, .long 0, .long 0, .int th]))] := hD
  have hK : va_K (dC, dI) vwCl [] s := hK
  obtain rfl : (if 0 ≤ (p1.toInt64) ∧ (p1.toInt64) ≤ 2 then (1 : Int32) else 0) = r2 := hw
  refine kc_i (y := (if 0 ≤ p1 ∧ p1 ≤ 2 then (1 : Int32) else 0)) (k_inP (a := 0) (b := 2) (by decide +kernel) (by decide +kernel)) ?_
  refine lv_if_eq (tgt := 55) hx hb dX15_order_48 (by decide) (fun c3 => ?_) (fun c3 => ?_)
  · skip
    refine lv_iconst (v := 0) hx hb dX15_order_55 (by decide) ?_
    refine lv_istore (lv' := [(5, .int 0), (4, .int 0), (0, .ref mo), (1, .int 114), (2, .int p1), (3, .int p2)]) hx hb dX15_order_56 hl (by decide) rfl (fun ls hl => ?_)
    refine lv_iload hx hb dX15_order_58 (lv_at hl 0 rfl) ?_
    refine lv_if_eq (tgt := 115) hx hb dX15_order_60 (by decide) (fun _ => ?_) (fun c_ => absurd (by decide +kernel) c_)
    refine lv_iconst (v := 0) hx hb dX15_order_115 (by decide) ?_
    refine lv_istore (lv' := [(5, .int 0), (4, .int 0), (0, .ref mo), (1, .int 114), (2, .int p1), (3, .int p2)]) hx hb dX15_order_116 hl (by decide) rfl (fun ls hl => ?_)
    refine lv_aload_n hx hb dX15_order_118 rfl (lv_at hl 2 rfl) ?_
    refine lv_iload hx hb dX15_order_119 (lv_at hl 0 rfl) ?_
    refine lv_if_ne (tgt := 128) hx hb dX15_order_121 (by decide) (fun c_ => absurd (by decide +kernel) c_) (fun _ => ?_)
    refine lv_iconst (v := 1) hx hb dX15_order_124 (by decide) ?_
    refine lv_goto (tgt := 147) hx hb dX15_order_125 (by decide) ?_
    refine va_put (D := (dC, dI)) (ci := 19) (v := .int 1) (ty := .int) (C := RX15) (T := TX15) (N := 28) hx hb hts hiX15 tyX15 tyX15_ok nmX15 hown hK hP hD hS 0 rfl rfl 27 (by decide) (hts (.fieldLink RX15 45 "SquareRigModel" "thrown" "I") (by decide +kernel)) (fun _ h9 => h9) rfl (by decide +kernel) rfl rfl (Nat.le_of_ble_eq_true rfl) dX15_order_147 (fun H locs hP hD hS => ?_)
    have hP : va_P (dC, dI) vwCl [(mo, .inr (19, [.int 0, .int 0, .int 0, .int 0, .int 0, .int 0, .int 0, .ref ti, .ref si, .ref lo, .ref lh, .ref lk, .ref sp, .ref st, .ref pa, .ref br, .ref sg, .int 0, .int 0, .int 0, .int 0, .int 0, .int 0, .long 0, .long 0, .long 0, .long 0, .int 1]))] H := hP
    have hD : va_D A [(mo, .inr (19, [.int 0, .int 0, .int 0, .int 0, .int 0, .int 0, .int 0, .ref ti, .ref si, .ref lo, .ref lh, .ref lk, .ref sp, .ref st, .ref pa, .ref br, .ref sg, .int 0, .int 0, .int 0, .int 0, .int 0, .int 0, .long 0, .long 0, .long 0, .long 0, .int 1]))] := hD
    refine lv_aload_n hx hb dX15_order_150 rfl (lv_at hl 2 rfl) ?_
    refine va_get (D := (dC, dI)) (ci := 19) (v := .int 1) (C := RX15) (T := TX15) (N := 28) hx hb hts hiX15 hown hK hP 0 rfl rfl 27 (by decide) (hts (.fieldLink RX15 45 "SquareRigModel" "thrown" "I") (by decide +kernel)) (fun _ h9 => h9) rfl dX15_order_151 ?_
    refine lv_if_le (tgt := 159) hx hb dX15_order_154 (by decide) (fun c_ => absurd c_ (by decide +kernel)) (fun _ => ?_)
    refine lv_iconst (v := (-1)) hx hb dX15_order_157 (by decide) ?_
    exact W.iret (v := (-1)) hx hb hr (fun t ht hW => ⟨⟨(-1), (), rfl, rfl, kB_end (w9 := [(mo, .inr (19, [.int 0, .int 0, .int 0, .int 0, .int 0, .int 0, .int 0, .ref ti, .ref si, .ref lo, .ref lh, .ref lk, .ref sp, .ref st, .ref pa, .ref br, .ref sg, .int 0, .int 0, .int 0, .int 0, .int 0, .int 0, .long 0, .long 0, .long 0, .long 0, .int 1]))]) (t9 := []) hP hK hD [0] [] rfl (by decide) rfl rfl t ht hW⟩, hS.F ht⟩) hS.2.2 dX15_order_158
  · skip
    refine lv_iconst (v := 1) hx hb dX15_order_51 (by decide) ?_
    refine lv_goto (tgt := 56) hx hb dX15_order_52 (by decide) ?_
    refine lv_istore (lv' := [(5, .int 1), (4, .int 0), (0, .ref mo), (1, .int 114), (2, .int p1), (3, .int p2)]) hx hb dX15_order_56 hl (by decide) rfl (fun ls hl => ?_)
    refine lv_iload hx hb dX15_order_58 (lv_at hl 0 rfl) ?_
    refine lv_if_eq (tgt := 115) hx hb dX15_order_60 (by decide) (fun c_ => absurd c_ (by decide +kernel)) (fun _ => ?_)
    refine lv_iload_n hx hb dX15_order_63 rfl (lv_at hl 3 rfl) ?_
    refine lv_bipush (v := 115) hx hb dX15_order_64 (by decide) ?_
    refine lv_icmp_ne (tgt := 84) hx hb dX15_order_66 (by decide) (fun _ => ?_) (fun c_ => absurd c_ (by decide +kernel))
    refine lv_iload_n hx hb dX15_order_84 rfl (lv_at hl 3 rfl) ?_
    refine lv_bipush (v := 98) hx hb dX15_order_85 (by decide) ?_
    refine lv_icmp_ne (tgt := 107) hx hb dX15_order_87 (by decide) (fun _ => ?_) (fun c_ => absurd c_ (by decide +kernel))
    refine lv_iload_n hx hb dX15_order_107 rfl (lv_at hl 5 rfl) ?_
    refine lv_if_ne (tgt := 115) hx hb dX15_order_108 (by decide) (fun _ => ?_) (fun c_ => absurd c_ (fun h => hb0 (Or.inr (Or.inr (Or.inr ⟨rfl, k_ift c3, h⟩)))))
    refine lv_iconst (v := 0) hx hb dX15_order_115 (by decide) ?_
    refine lv_istore (lv' := [(5, .int 0), (4, .int 0), (0, .ref mo), (1, .int 114), (2, .int p1), (3, .int p2)]) hx hb dX15_order_116 hl (by decide) rfl (fun ls hl => ?_)
    refine lv_aload_n hx hb dX15_order_118 rfl (lv_at hl 2 rfl) ?_
    refine lv_iload hx hb dX15_order_119 (lv_at hl 0 rfl) ?_
    refine lv_if_ne (tgt := 128) hx hb dX15_order_121 (by decide) (fun c_ => absurd (by decide +kernel) c_) (fun _ => ?_)
    refine lv_iconst (v := 1) hx hb dX15_order_124 (by decide) ?_
    refine lv_goto (tgt := 147) hx hb dX15_order_125 (by decide) ?_
    refine va_put (D := (dC, dI)) (ci := 19) (v := .int 1) (ty := .int) (C := RX15) (T := TX15) (N := 28) hx hb hts hiX15 tyX15 tyX15_ok nmX15 hown hK hP hD hS 0 rfl rfl 27 (by decide) (hts (.fieldLink RX15 45 "SquareRigModel" "thrown" "I") (by decide +kernel)) (fun _ h9 => h9) rfl (by decide +kernel) rfl rfl (Nat.le_of_ble_eq_true rfl) dX15_order_147 (fun H locs hP hD hS => ?_)
    have hP : va_P (dC, dI) vwCl [(mo, .inr (19, [.int 0, .int 0, .int 0, .int 0, .int 0, .int 0, .int 0, .ref ti, .ref si, .ref lo, .ref lh, .ref lk, .ref sp, .ref st, .ref pa, .ref br, .ref sg, .int 0, .int 0, .int 0, .int 0, .int 0, .int 0, .long 0, .long 0, .long 0, .long 0, .int 1]))] H := hP
    have hD : va_D A [(mo, .inr (19, [.int 0, .int 0, .int 0, .int 0, .int 0, .int 0, .int 0, .ref ti, .ref si, .ref lo, .ref lh, .ref lk, .ref sp, .ref st, .ref pa, .ref br, .ref sg, .int 0, .int 0, .int 0, .int 0, .int 0, .int 0, .long 0, .long 0, .long 0, .long 0, .int 1]))] := hD
    refine lv_aload_n hx hb dX15_order_150 rfl (lv_at hl 2 rfl) ?_
    refine va_get (D := (dC, dI)) (ci := 19) (v := .int 1) (C := RX15) (T := TX15) (N := 28) hx hb hts hiX15 hown hK hP 0 rfl rfl 27 (by decide) (hts (.fieldLink RX15 45 "SquareRigModel" "thrown" "I") (by decide +kernel)) (fun _ h9 => h9) rfl dX15_order_151 ?_
    refine lv_if_le (tgt := 159) hx hb dX15_order_154 (by decide) (fun c_ => absurd c_ (by decide +kernel)) (fun _ => ?_)
    refine lv_iconst (v := (-1)) hx hb dX15_order_157 (by decide) ?_
    exact W.iret (v := (-1)) hx hb hr (fun t ht hW => ⟨⟨(-1), (), rfl, rfl, kB_end (w9 := [(mo, .inr (19, [.int 0, .int 0, .int 0, .int 0, .int 0, .int 0, .int 0, .ref ti, .ref si, .ref lo, .ref lh, .ref lk, .ref sp, .ref st, .ref pa, .ref br, .ref sg, .int 0, .int 0, .int 0, .int 0, .int 0, .int 0, .long 0, .long 0, .long 0, .long 0, .int 1]))]) (t9 := []) hP hK hD [0] [] rfl (by decide) rfl rfl t ht hW⟩, hS.F ht⟩) hS.2.2 dX15_order_158
abbrev wd_k_m_order_bado (z : Nat → Nat) (p0 : Int32) (p1 : Int32) (p2 : Int32) (mo : Nat) (ti : Nat) (si : Nat) (lo : Nat) (lh : Nat) (lk : Nat) (sp : Nat) (st : Nat) (pa : Nat) (br : Nat) (sg : Nat) (th : Int32) : va_W := [(mo, .inr (19, [.int 0, .int 0, .int 0, .int 0, .int 0, .int 0, .int 0, .ref ti, .ref si, .ref lo, .ref lh, .ref lk, .ref sp, .ref st, .ref pa, .ref br, .ref sg, .int 0, .int 0, .int 0, .int 0, .int 0, .int 0, .long 0, .long 0, .long 0, .long 0, .int th]))]
set_option maxHeartbeats 4000000 in
set_option maxRecDepth 100000 in
theorem k_m_order_bado (l : Launch) (dC : Nat → ClassId) (dI : Nat → Nat → Nat) (z zK zV : Nat → Nat) (p0 : Int32) (p1 : Int32) (p2 : Int32) (mo : Nat) (ti : Nat) (si : Nat) (lo : Nat) (lh : Nat) (lk : Nat) (sp : Nat) (st : Nat) (pa : Nat) (br : Nat) (sg : Nat) (th : Int32) (sz : Nat) (h115 : ¬ p0 = 115) (h98 : ¬ p0 = 98) (h109 : ¬ p0 = 109) (h114 : ¬ p0 = 114) : Met l yX15_order wsX15_order ({ frames := 4, cells := 0, slots := 0, locals := 91 }) (kP dC dI z zK zV [.ref mo, .int p0, .int p1, .int p2] sz (wd_k_m_order_bado z p0 p1 p2 mo ti si lo lh lk sp st pa br sg th) []) (va_Qi (fun (r : Int32) (_ : Unit) => (-1) = r) (fun _ t => kB (dC, dI) (va_A (wd_k_m_order_bado z p0 p1 p2 mo ti si lo lh lk sp st pa br sg th) sz) [(mo, .inr (19, [.int 0, .int 0, .int 0, .int 0, .int 0, .int 0, .int 0, .ref ti, .ref si, .ref lo, .ref lh, .ref lk, .ref sp, .ref st, .ref pa, .ref br, .ref sg, .int 0, .int 0, .int 0, .int 0, .int 0, .int 0, .long 0, .long 0, .long 0, .long 0, .int 1]))] [] t) (va_A (wd_k_m_order_bado z p0 p1 p2 mo ti si lo lh lk sp st pa br sg th) sz)) 0 0 (va_A (wd_k_m_order_bado z p0 p1 p2 mo ti si lo lh lk sp st pa br sg th) sz) := by
  refine Met.ofW (cc := cX15_order) (maxL := 6) (ret := (some .int)) (by decide) rfl ?_
  intro p e s m args below meth c s₁ B hml hv
  obtain ⟨rfl, hsz, hP, hK, hD0, hM⟩ := hv
  have hx := B.exec
  have hb := B.bytes
  have hr := B.returns
  have hts := atoms_spec (ws := wsX15_order) B.pre
  have hown : s.vm.findClass RX15 = some m.cls := findClass_of_methodNamed B.named
  have hlocks := B.notSynchronized
  have hiX15 : ∀ w ∈ u_ws RX15 TX15 28, w ∈ wsX15_order := by decide +kernel
  subst hsz
  have hD := hD0.self (sz := s.heap.size)
  generalize hAe : va_A (wd_k_m_order_bado z p0 p1 p2 mo ti si lo lh lk sp st pa br sg th) s.heap.size = A at hD hM ⊢
  have hA : ∀ q : Nat, s.heap.size ≤ q → A q := fun q h => by rw [← hAe]; exact Or.inr h
  have hS : va_S A s.heap s.heap [] := va_S.rf
  have hP : va_P (dC, dI) vwCl [(mo, .inr (19, [.int 0, .int 0, .int 0, .int 0, .int 0, .int 0, .int 0, .ref ti, .ref si, .ref lo, .ref lh, .ref lk, .ref sp, .ref st, .ref pa, .ref br, .ref sg, .int 0, .int 0, .int 0, .int 0, .int 0, .int 0, .long 0, .long 0, .long 0, .long 0, .int th]))] s.heap := hP
  have hD : va_D A [(mo, .inr (19, [.int 0, .int 0, .int 0, .int 0, .int 0, .int 0, .int 0, .ref ti, .ref si, .ref lo, .ref lh, .ref lk, .ref sp, .ref st, .ref pa, .ref br, .ref sg, .int 0, .int 0, .int 0, .int 0, .int 0, .int 0, .long 0, .long 0, .long 0, .long 0, .int th]))] := hD
  have hl := lv_entry ([.ref mo, .int p0, .int p1, .int p2]) (n := 6) (Nat.le_of_ble_eq_true rfl)
  rw [lg_entry_eq]
  generalize (lg_sl ([.ref mo, .int p0, .int p1, .int p2]) ++ List.replicate (6 - (lg_sl ([.ref mo, .int p0, .int p1, .int p2])).length) Slot.unset).toArray = ls at hl ⊢
  have hl : lv_has ls 6 [(0, .ref mo), (1, .int p0), (2, .int p1), (3, .int p2)] := hl
  refine lv_iload_n hx hb dX15_order_0 rfl (lv_at hl 1 rfl) ?_
  refine lv_bipush (v := 115) hx hb dX15_order_1 (by decide) ?_
  refine lv_icmp_eq (tgt := 12) hx hb dX15_order_3 (by decide) (fun c_ => absurd c_ h115) (fun _ => ?_)
  refine lv_iload_n hx hb dX15_order_6 rfl (lv_at hl 1 rfl) ?_
  refine lv_bipush (v := 109) hx hb dX15_order_7 (by decide) ?_
  refine lv_icmp_ne (tgt := 16) hx hb dX15_order_9 (by decide) (fun _ => ?_) (fun c_ => absurd c_ h109)
  refine lv_iconst (v := 0) hx hb dX15_order_16 (by decide) ?_
  refine lv_istore (lv' := [(4, .int 0), (0, .ref mo), (1, .int p0), (2, .int p1), (3, .int p2)]) hx hb dX15_order_17 hl (by decide) rfl (fun ls hl => ?_)
  refine va_ldcS hx hb hown (hM.2.2.1 0 _ rfl) dX15_order_19 ?_
  refine lv_iload_n hx hb dX15_order_21 rfl (lv_at hl 2 rfl) ?_
  have hPc := hP.sub (ws' := []) [] rfl
  have hDc := hD.sub (ws' := []) [] (by decide) rfl
  have hKc := hK.sub (tys' := []) [] rfl
  have hFc := va_free (wc := []) hD hS hA [] rfl
  refine va_calli (va_runV (As := [.int p0]) (rest := []) ⟨hx, hb, hml, hown, hts⟩ (k_ix3_o l dC dI z zK zV p0 s.heap.size (h115) (h98) (h109) (h114)) (cwV 1 hts gX15_order_J0_indexOf_0f7a4 rfl rfl rfl (by decide +kernel) ⟨Nat.le_of_ble_eq_true rfl, Nat.le_of_ble_eq_true rfl⟩) ⟨kP_blind, vk_recv (i := 0) hM.2.2.2.1 (by decide) hS, kP_go hPc hKc hDc hFc hM hS⟩ rfl rfl hl.1 rfl (lv_room (Nat.le_of_ble_eq_true rfl)) dX15_order_22 ⟨Nat.le_of_ble_eq_true rfl, Nat.le_of_ble_eq_true rfl⟩) hS (fun q _ h => hFc q h) hFc (fun r1 u t H1 locs ht hvm hw hB hz1 hk1 hS => ?_)
  obtain ⟨hP, hD, hK⟩ := kJ (wr := [(mo, .inr (19, [.int 0, .int 0, .int 0, .int 0, .int 0, .int 0, .int 0, .ref ti, .ref si, .ref lo, .ref lh, .ref lk, .ref sp, .ref st, .ref pa, .ref br, .ref sg, .int 0, .int 0, .int 0, .int 0, .int 0, .int 0, .long 0, .long 0, .long 0, .long 0, .int th]))]) (w1 := []) (t1 := []) hP hD hK [] [0] rfl rfl (by decide) (by decide) hk1 hFc ht hvm hB
  generalize H1 = H at hP hS ⊢
  have hP : va_P (dC, dI) vwCl [(mo, .inr (19, [.int 0, .int 0, .int 0, .int 0, .int 0, .int 0, .int 0, .ref ti, .ref si, .ref lo, .ref lh, .ref lk, .ref sp, .ref st, .ref pa, .ref br, .ref sg, .int 0, .int 0, .int 0, .int 0, .int 0, .int 0, .long 0, .long 0, .long 0, .long 0, .int th]))] H := hP
  have hD : va_D A [(mo, .inr (19, [.int 0, .int 0, .int 0, .int 0, .int 0, .int 0, .int 0, .ref ti, .ref si, .ref lo, .ref lh, .ref lk, .ref sp, .ref st, .ref pa, .ref br, .ref sg, .int 0, .int 0, .int 0, .int 0, .int 0, .int 0, .long 0, .long 0, .long 0, .long 0, .int th]))] := hD
  have hK : va_K (dC, dI) vwCl [] s := hK
  obtain rfl : (-1) = r1 := hw
  refine lv_if_lt (tgt := 55) hx hb dX15_order_25 (by decide) (fun _ => ?_) (fun c_ => absurd (by decide +kernel) c_)
  refine lv_iconst (v := 0) hx hb dX15_order_55 (by decide) ?_
  refine lv_istore (lv' := [(5, .int 0), (4, .int 0), (0, .ref mo), (1, .int p0), (2, .int p1), (3, .int p2)]) hx hb dX15_order_56 hl (by decide) rfl (fun ls hl => ?_)
  refine lv_iload hx hb dX15_order_58 (lv_at hl 0 rfl) ?_
  refine lv_if_eq (tgt := 115) hx hb dX15_order_60 (by decide) (fun _ => ?_) (fun c_ => absurd (by decide +kernel) c_)
  refine lv_iconst (v := 0) hx hb dX15_order_115 (by decide) ?_
  refine lv_istore (lv' := [(5, .int 0), (4, .int 0), (0, .ref mo), (1, .int p0), (2, .int p1), (3, .int p2)]) hx hb dX15_order_116 hl (by decide) rfl (fun ls hl => ?_)
  refine lv_aload_n hx hb dX15_order_118 rfl (lv_at hl 2 rfl) ?_
  refine lv_iload hx hb dX15_order_119 (lv_at hl 0 rfl) ?_
  refine lv_if_ne (tgt := 128) hx hb dX15_order_121 (by decide) (fun c_ => absurd (by decide +kernel) c_) (fun _ => ?_)
  refine lv_iconst (v := 1) hx hb dX15_order_124 (by decide) ?_
  refine lv_goto (tgt := 147) hx hb dX15_order_125 (by decide) ?_
  refine va_put (D := (dC, dI)) (ci := 19) (v := .int 1) (ty := .int) (C := RX15) (T := TX15) (N := 28) hx hb hts hiX15 tyX15 tyX15_ok nmX15 hown hK hP hD hS 0 rfl rfl 27 (by decide) (hts (.fieldLink RX15 45 "SquareRigModel" "thrown" "I") (by decide +kernel)) (fun _ h9 => h9) rfl (by decide +kernel) rfl rfl (Nat.le_of_ble_eq_true rfl) dX15_order_147 (fun H locs hP hD hS => ?_)
  have hP : va_P (dC, dI) vwCl [(mo, .inr (19, [.int 0, .int 0, .int 0, .int 0, .int 0, .int 0, .int 0, .ref ti, .ref si, .ref lo, .ref lh, .ref lk, .ref sp, .ref st, .ref pa, .ref br, .ref sg, .int 0, .int 0, .int 0, .int 0, .int 0, .int 0, .long 0, .long 0, .long 0, .long 0, .int 1]))] H := hP
  have hD : va_D A [(mo, .inr (19, [.int 0, .int 0, .int 0, .int 0, .int 0, .int 0, .int 0, .ref ti, .ref si, .ref lo, .ref lh, .ref lk, .ref sp, .ref st, .ref pa, .ref br, .ref sg, .int 0, .int 0, .int 0, .int 0, .int 0, .int 0, .long 0, .long 0, .long 0, .long 0, .int 1]))] := hD
  refine lv_aload_n hx hb dX15_order_150 rfl (lv_at hl 2 rfl) ?_
  refine va_get (D := (dC, dI)) (ci := 19) (v := .int 1) (C := RX15) (T := TX15) (N := 28) hx hb hts hiX15 hown hK hP 0 rfl rfl 27 (by decide) (hts (.fieldLink RX15 45 "SquareRigModel" "thrown" "I") (by decide +kernel)) (fun _ h9 => h9) rfl dX15_order_151 ?_
  refine lv_if_le (tgt := 159) hx hb dX15_order_154 (by decide) (fun c_ => absurd c_ (by decide +kernel)) (fun _ => ?_)
  refine lv_iconst (v := (-1)) hx hb dX15_order_157 (by decide) ?_
  exact W.iret (v := (-1)) hx hb hr (fun t ht hW => ⟨⟨(-1), (), rfl, rfl, kB_end (w9 := [(mo, .inr (19, [.int 0, .int 0, .int 0, .int 0, .int 0, .int 0, .int 0, .ref ti, .ref si, .ref lo, .ref lh, .ref lk, .ref sp, .ref st, .ref pa, .ref br, .ref sg, .int 0, .int 0, .int 0, .int 0, .int 0, .int 0, .long 0, .long 0, .long 0, .long 0, .int 1]))]) (t9 := []) hP hK hD [0] [] rfl (by decide) rfl rfl t ht hW⟩, hS.F ht⟩) hS.2.2 dX15_order_158
