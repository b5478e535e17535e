section KF
variable {p : Program} {l : Launch} {e : Env} {R : Room} {s : State} {m : MethodId} {args : Array Value} {below : List Frame} {meth : Method} {c : Code} {H : Heap} {locs : List Loc} {cells slots : Nat} {Q : State → Prop} {pc : Nat} {ls : Array Slot} {rest : List Value}
theorem k_ldcwf {cc : ByteArray} (hexec : p.tables.exec = Jvm.exec) (hb : c.code = cc) {own : String} {index : Nat} {v : UInt32} (hown : s.vm.findClass own = some m.cls) (hconst : (Jvm.Cond.constantFloat own index v).before args s = true) (hdg : decode cc pc = .ok (.ldc_w index, 3)) (k : W p l e R s m args below meth c H locs cells slots Q (F0 m (pc + 3) ls (.float v :: rest))) : W p l e R s m args below meth c H locs cells slots Q (F0 m pc ls rest) := by
  intro T hT X
  obtain ⟨t, a, b⟩ := k T hT X
  obtain ⟨k, cf, hk, hcf, hcp⟩ := Cond.constantFloat_spec hown hconst
  obtain ⟨k', hk', he⟩ := X.warmed.alike.2.2 _ _ hk
  refine ⟨t, ?_, b⟩
  have hdg : decode c.code (F0 m pc ls rest).pc = .ok (.ldc_w index, 3) := by rw [hb]; exact hdg
  jvm_step X.here [hexec, hdg, ldc_w.wp_float (s := T) (f := F0 m pc ls rest) X.here.top hk' (by rw [he]; exact hcf) hcp]
  exact a
end KF
theorem k_none (x : Int32) : ¬ (0 ≤ x ∧ x ≤ -1) := by
  rintro ⟨h1, h2⟩
  rw [Int32.le_iff_toInt_le] at h1 h2
  have e1 : (-1 : Int32).toInt = -1 := by decide
  rw [e1] at h2
  rw [Int32.toInt_zero] at h1
  omega
/-- an order that can be given -/
def kO (k w h : Int32) : Prop := (k = 115 ∧ ((0 : Int32) ≤ w ∧ w ≤ 8) ∧ (0 : Int32) ≤ h ∧ h ≤ 2) ∨ (k = 109 ∧ ((0 : Int32) ≤ w ∧ w ≤ 8) ∧ h = 0) ∨ (k = 98 ∧ ((0 : Int32) ≤ w ∧ w ≤ 2) ∧ (-4 : Int32) ≤ h ∧ h ≤ 4) ∨ (k = 114 ∧ ((0 : Int32) ≤ w ∧ w ≤ 2) ∧ h = 0)
theorem kO_1 {r k w h : Int32} (q : (r = 1 ∧ kO k w h) ∨ (r = 0 ∧ ¬ kO k w h)) (g : kO k w h) : ¬ r = 0 := by
  rcases q with ⟨rfl, -⟩ | ⟨-, x⟩
  · decide
  · exact absurd g x
theorem kO_0 {r k w h : Int32} (q : (r = 1 ∧ kO k w h) ∨ (r = 0 ∧ ¬ kO k w h)) (g : ¬ kO k w h) : r = 0 := by
  rcases q with ⟨-, x⟩ | ⟨rfl, -⟩
  · exact absurd x g
  · rfl
theorem k_ifx {P : Prop} [Decidable P] : ((if P then (1 : Int32) else 0) = 0) = ¬ P := by
  by_cases q : P
  · rw [if_pos q]; exact propext ⟨fun h => absurd h (by decide), fun h => absurd q h⟩
  · rw [if_neg q]; exact propext ⟨fun _ => q, fun _ => rfl⟩
set_option maxRecDepth 20000 in
theorem ggX0_find_Jx4a65c_size_8abf5 : GoodIn wsX0_find wsJx4a65c_size_8abf5 := goodIn_r _ [7, 8, 33, 34, 35] (by decide +kernel) (by decide +kernel)
set_option maxRecDepth 20000 in
theorem gX0_find_Jx4a65c_size_8abf5 : GoodIn wsX0_find (wsV RX0 42 RJx4a65c yJx4a65c_size_8abf5 wsJx4a65c_size_8abf5) := goodIn_app (goodIn_of _ (by decide +kernel)) ggX0_find_Jx4a65c_size_8abf5
theorem dX0_find_0 : decode cX0_find 0 = .ok (.iload_n 1, 1) := by decide +kernel
theorem dX0_find_1 : decode cX0_find 1 = .ok (.ifCond .lt 28, 3) := by decide +kernel
theorem dX0_find_4 : decode cX0_find 4 = .ok (.iload_n 1, 1) := by decide +kernel
theorem dX0_find_5 : decode cX0_find 5 = .ok (.aload_n 0, 1) := by decide +kernel
theorem dX0_find_6 : decode cX0_find 6 = .ok (.getfield 24, 3) := by decide +kernel
theorem dX0_find_9 : decode cX0_find 9 = .ok (.invokevirtual 42, 3) := by decide +kernel
theorem dX0_find_12 : decode cX0_find 12 = .ok (.if_icmp .ge 17, 3) := by decide +kernel
theorem dX0_find_29 : decode cX0_find 29 = .ok (.aconst_null, 1) := by decide +kernel
theorem dX0_find_30 : decode cX0_find 30 = .ok (.areturn, 1) := by decide +kernel
set_option maxRecDepth 20000 in
theorem ggX0_freeHands_X0_watchOf : GoodIn wsX0_freeHands wsX0_watchOf := goodIn_r _ [8, 9, 10, 17, 18, 19, 20, 21, 22, 23] (by decide +kernel) (by decide +kernel)
set_option maxRecDepth 20000 in
theorem gX0_freeHands_X0_watchOf : GoodIn wsX0_freeHands (wsV RX0 52 RX0 yX0_watchOf wsX0_watchOf) := goodIn_app (goodIn_of _ (by decide +kernel)) ggX0_freeHands_X0_watchOf
set_option maxRecDepth 20000 in
theorem ggX0_freeHands_X10_healthy : GoodIn wsX0_freeHands wsX10_healthy := goodIn_r _ [15, 16, 24, 25] (by decide +kernel) (by decide +kernel)
set_option maxRecDepth 20000 in
theorem gX0_freeHands_X10_healthy : GoodIn wsX0_freeHands (wsV RX0 56 RX10 yX10_healthy wsX10_healthy) := goodIn_app (goodIn_of _ (by decide +kernel)) ggX0_freeHands_X10_healthy
theorem dX0_freeHands_0 : decode cX0_freeHands 0 = .ok (.aload_n 0, 1) := by decide +kernel
theorem dX0_freeHands_1 : decode cX0_freeHands 1 = .ok (.aload_n 0, 1) := by decide +kernel
theorem dX0_freeHands_2 : decode cX0_freeHands 2 = .ok (.getfield 28, 3) := by decide +kernel
theorem dX0_freeHands_5 : decode cX0_freeHands 5 = .ok (.invokevirtual 52, 3) := by decide +kernel
theorem dX0_freeHands_8 : decode cX0_freeHands 8 = .ok (.invokevirtual 56, 3) := by decide +kernel
theorem dX0_freeHands_11 : decode cX0_freeHands 11 = .ok (.istore_n 1, 1) := by decide +kernel
theorem dX0_freeHands_12 : decode cX0_freeHands 12 = .ok (.aload_n 0, 1) := by decide +kernel
theorem dX0_freeHands_13 : decode cX0_freeHands 13 = .ok (.getfield 32, 3) := by decide +kernel
theorem dX0_freeHands_16 : decode cX0_freeHands 16 = .ok (.ifCond .eq 19, 3) := by decide +kernel
theorem dX0_freeHands_35 : decode cX0_freeHands 35 = .ok (.iload_n 1, 1) := by decide +kernel
theorem dX0_freeHands_36 : decode cX0_freeHands 36 = .ok (.aload_n 0, 1) := by decide +kernel
theorem dX0_freeHands_37 : decode cX0_freeHands 37 = .ok (.getfield 39, 3) := by decide +kernel
theorem dX0_freeHands_40 : decode cX0_freeHands 40 = .ok (.isub, 1) := by decide +kernel
theorem dX0_freeHands_41 : decode cX0_freeHands 41 = .ok (.istore_n 2, 1) := by decide +kernel
theorem dX0_freeHands_42 : decode cX0_freeHands 42 = .ok (.iload_n 2, 1) := by decide +kernel
theorem dX0_freeHands_43 : decode cX0_freeHands 43 = .ok (.ifCond .ge 7, 3) := by decide +kernel
theorem dX0_freeHands_50 : decode cX0_freeHands 50 = .ok (.iload_n 2, 1) := by decide +kernel
theorem dX0_freeHands_51 : decode cX0_freeHands 51 = .ok (.ireturn, 1) := by decide +kernel
theorem dX10_healthy_0 : decode cX10_healthy 0 = .ok (.bipush 12, 2) := by decide +kernel
theorem dX10_healthy_2 : decode cX10_healthy 2 = .ok (.aload_n 0, 1) := by decide +kernel
theorem dX10_healthy_3 : decode cX10_healthy 3 = .ok (.getfield 13, 3) := by decide +kernel
theorem dX10_healthy_6 : decode cX10_healthy 6 = .ok (.isub, 1) := by decide +kernel
theorem dX10_healthy_7 : decode cX10_healthy 7 = .ok (.ireturn, 1) := by decide +kernel
set_option maxRecDepth 20000 in
theorem ggX11_current_X11_isIn : GoodIn wsX11_current wsX11_isIn := goodIn_r _ [7] (by decide +kernel) (by decide +kernel)
set_option maxRecDepth 20000 in
theorem gX11_current_X11_isIn : GoodIn wsX11_current (va_wsS RX11 30 yX11_isIn wsX11_isIn) := goodIn_app (goodIn_of _ (by decide +kernel)) ggX11_current_X11_isIn
set_option maxRecDepth 20000 in
theorem ggX11_current_X11_keep : GoodIn wsX11_current wsX11_keep := goodIn_r _ [11, 12, 13, 14, 15, 16, 17, 18, 19, 20, 21, 22, 23, 24, 25, 26, 27, 28, 29, 30, 31, 32, 33, 34, 35, 36, 37, 38, 39, 40, 41, 42, 43, 44, 45, 46, 47, 48, 49, 50, 51, 52, 53, 54, 55, 56, 57, 58, 59, 60, 61, 62, 63, 64, 65, 66, 67, 68, 69, 70, 71, 72, 73, 74, 75, 76, 77, 78, 79, 80, 81, 82, 83, 84, 85, 402, 403, 404, 405, 381, 382, 383, 384, 406, 407, 408] (by decide +kernel) (by decide +kernel)
set_option maxRecDepth 20000 in
theorem gX11_current_X11_keep : GoodIn wsX11_current (wsV RX11 44 RX11 yX11_keep wsX11_keep) := goodIn_app (goodIn_of _ (by decide +kernel)) ggX11_current_X11_keep
set_option maxRecDepth 20000 in
theorem ggX11_current_X9_obey : GoodIn wsX11_current wsX9_obey := goodIn_ca (goodIn_ca (goodIn_r _ [90, 91, 92, 93, 94, 95, 96, 97, 98, 99, 100, 101, 102, 89, 103, 104, 105, 106, 107, 108, 109, 110, 111, 112, 113, 114, 115, 116, 117, 118, 119, 120, 121, 122, 20, 21, 123, 124, 125, 126, 127, 128, 129, 130, 131, 132, 133, 134, 135, 136, 137, 27, 28, 29, 30, 31, 138, 33, 34, 35, 36, 37, 38, 39, 40, 41, 42, 43, 44, 45, 46, 47, 48, 49, 50, 51, 52, 53, 54, 55, 56, 57, 58, 59, 60, 61, 62, 63, 64, 65, 66, 67, 68, 69, 70, 71, 72, 73, 74, 75, 76, 77, 78, 79, 80, 81, 82, 83, 84, 85, 139, 140, 141, 142, 143, 144, 145, 146, 147, 148, 149, 150, 151, 152, 153, 154, 155, 156, 157, 158, 159, 160, 161, 162, 163, 164, 165, 166, 167, 168, 169, 170, 171, 172, 173, 174, 175, 176, 177, 178, 179, 180, 181, 182, 183, 184, 185, 186, 187, 188, 189, 190, 191, 192, 193, 194, 195, 196, 197, 198, 199, 200, 201, 202, 203, 204, 205, 206, 207, 208, 209, 210, 211, 212, 213, 214, 215, 216, 217, 218, 219, 220, 221, 222, 223, 224, 225, 226, 227, 228, 229, 230, 231, 232, 233, 234, 235, 236, 237, 238, 239, 240, 241, 242, 243, 244, 245, 246, 247, 248, 249, 250, 251, 252, 253, 254, 255, 256, 257, 258, 259, 260, 261, 262, 263, 264, 265, 266, 267, 268, 269, 270, 271, 272, 273, 274, 275, 276, 277, 278, 279, 280, 281, 282, 283, 284, 285, 286, 287, 288, 289, 290, 291, 292, 293, 294, 295, 296, 297, 298, 299, 300, 301, 302, 303, 304, 305, 306, 307, 308, 309, 310, 311, 312, 313, 314, 315, 316, 317, 318, 319, 320, 321, 322, 323, 324, 325, 326, 327, 328, 329, 330, 331, 332, 333, 334, 335, 336, 337, 338, 339, 340, 341, 342, 343, 344, 345, 346, 347, 348, 349, 350, 351, 352, 353, 354, 355, 356, 357, 358, 359, 360, 361, 362, 363, 364, 365, 366, 367, 368, 369, 370, 371, 372, 373, 374, 375, 376, 377, 378, 379, 380, 402, 403, 404, 405, 385, 386, 387, 388, 389, 390, 391, 392, 393, 394, 395, 396, 397, 398, 399, 400, 401, 409, 410, 411, 412, 413, 414, 415, 416, 417, 418, 419, 420, 421, 422, 423, 424, 425, 426, 427, 428, 429, 430, 431, 432, 433, 434, 435, 436, 437, 438, 406, 407, 408, 439, 440, 441, 442, 443, 444, 445, 446, 447, 448, 449, 450] (by decide +kernel) (by decide +kernel)) (goodIn_sub (fun _ h => List.mem_cons_of_mem _ (List.mem_append_left _ (List.mem_append_right _ h))) (by decide +kernel))) (goodIn_sub (fun _ h => List.mem_cons_of_mem _ (List.mem_append_right _ h)) (by decide +kernel))
set_option maxRecDepth 20000 in
theorem gX11_current_X9_obey : GoodIn wsX11_current (wsV RX11 48 RX9 yX9_obey wsX9_obey) := goodIn_app (goodIn_of _ (by decide +kernel)) ggX11_current_X9_obey
theorem dX11_current_0 : decode cX11_current 0 = .ok (.iload_n 1, 1) := by decide +kernel
theorem dX11_current_1 : decode cX11_current 1 = .ok (.sipush (-9999), 3) := by decide +kernel
theorem dX11_current_4 : decode cX11_current 4 = .ok (.sipush 9999, 3) := by decide +kernel
theorem dX11_current_7 : decode cX11_current 7 = .ok (.invokestatic 30, 3) := by decide +kernel
theorem dX11_current_10 : decode cX11_current 10 = .ok (.ifCond .eq 16, 3) := by decide +kernel
theorem dX11_current_13 : decode cX11_current 13 = .ok (.iload_n 2, 1) := by decide +kernel
theorem dX11_current_14 : decode cX11_current 14 = .ok (.sipush (-9999), 3) := by decide +kernel
theorem dX11_current_17 : decode cX11_current 17 = .ok (.sipush 9999, 3) := by decide +kernel
theorem dX11_current_20 : decode cX11_current 20 = .ok (.invokestatic 30, 3) := by decide +kernel
theorem dX11_current_23 : decode cX11_current 23 = .ok (.ifCond .ne 13, 3) := by decide +kernel
theorem dX11_current_26 : decode cX11_current 26 = .ok (.new 34, 3) := by decide +kernel
theorem dX11_current_29 : decode cX11_current 29 = .ok (.dup, 1) := by decide +kernel
theorem dX11_current_30 : decode cX11_current 30 = .ok (.ldc 52, 2) := by decide +kernel
theorem dX11_current_32 : decode cX11_current 32 = .ok (.invokespecial 38, 3) := by decide +kernel
theorem dX11_current_35 : decode cX11_current 35 = .ok (.athrow, 1) := by decide +kernel
theorem dX11_current_36 : decode cX11_current 36 = .ok (.aload_n 0, 1) := by decide +kernel
theorem dX11_current_37 : decode cX11_current 37 = .ok (.getfield 10, 3) := by decide +kernel
theorem dX11_current_40 : decode cX11_current 40 = .ok (.getfield 54, 3) := by decide +kernel
theorem dX11_current_43 : decode cX11_current 43 = .ok (.ifCond .ne 13, 3) := by decide +kernel
theorem dX11_current_46 : decode cX11_current 46 = .ok (.aload_n 0, 1) := by decide +kernel
theorem dX11_current_47 : decode cX11_current 47 = .ok (.getfield 10, 3) := by decide +kernel
theorem dX11_current_50 : decode cX11_current 50 = .ok (.getfield 57, 3) := by decide +kernel
theorem dX11_current_53 : decode cX11_current 53 = .ok (.ifCond .eq 7, 3) := by decide +kernel
theorem dX11_current_60 : decode cX11_current 60 = .ok (.iconst 0, 1) := by decide +kernel
theorem dX11_current_61 : decode cX11_current 61 = .ok (.istore_n 3, 1) := by decide +kernel
theorem dX11_current_62 : decode cX11_current 62 = .ok (.aload_n 0, 1) := by decide +kernel
theorem dX11_current_63 : decode cX11_current 63 = .ok (.getfield 10, 3) := by decide +kernel
theorem dX11_current_66 : decode cX11_current 66 = .ok (.aload_n 0, 1) := by decide +kernel
theorem dX11_current_67 : decode cX11_current 67 = .ok (.iconst 1, 1) := by decide +kernel
theorem dX11_current_68 : decode cX11_current 68 = .ok (.iload_n 1, 1) := by decide +kernel
theorem dX11_current_69 : decode cX11_current 69 = .ok (.iload_n 2, 1) := by decide +kernel
theorem dX11_current_70 : decode cX11_current 70 = .ok (.iconst 0, 1) := by decide +kernel
theorem dX11_current_71 : decode cX11_current 71 = .ok (.invokevirtual 44, 3) := by decide +kernel
theorem dX11_current_74 : decode cX11_current 74 = .ok (.invokevirtual 48, 3) := by decide +kernel
theorem dX11_current_77 : decode cX11_current 77 = .ok (.iload_n 3, 1) := by decide +kernel
theorem dX11_current_78 : decode cX11_current 78 = .ok (.ireturn, 1) := by decide +kernel
set_option maxRecDepth 20000 in
theorem ggX11_helm_X11_isIn : GoodIn wsX11_helm wsX11_isIn := goodIn_r _ [7] (by decide +kernel) (by decide +kernel)
set_option maxRecDepth 20000 in
theorem gX11_helm_X11_isIn : GoodIn wsX11_helm (va_wsS RX11 30 yX11_isIn wsX11_isIn) := goodIn_app (goodIn_of _ (by decide +kernel)) ggX11_helm_X11_isIn
set_option maxRecDepth 20000 in
theorem ggX11_helm_X11_keep : GoodIn wsX11_helm wsX11_keep := goodIn_r _ [11, 12, 13, 14, 15, 16, 17, 18, 19, 20, 21, 22, 23, 24, 25, 26, 27, 28, 29, 30, 31, 32, 33, 34, 35, 36, 37, 38, 39, 40, 41, 42, 43, 44, 45, 46, 47, 48, 49, 50, 51, 52, 53, 54, 55, 56, 57, 58, 59, 60, 61, 62, 63, 64, 65, 66, 67, 68, 69, 70, 71, 72, 73, 74, 75, 76, 77, 78, 79, 80, 81, 82, 83, 84, 85, 402, 403, 404, 405, 381, 382, 383, 384, 406, 407, 408] (by decide +kernel) (by decide +kernel)
set_option maxRecDepth 20000 in
theorem gX11_helm_X11_keep : GoodIn wsX11_helm (wsV RX11 44 RX11 yX11_keep wsX11_keep) := goodIn_app (goodIn_of _ (by decide +kernel)) ggX11_helm_X11_keep
set_option maxRecDepth 20000 in
theorem ggX11_helm_X9_obey : GoodIn wsX11_helm wsX9_obey := goodIn_ca (goodIn_ca (goodIn_r _ [90, 91, 92, 93, 94, 95, 96, 97, 98, 99, 100, 101, 102, 89, 103, 104, 105, 106, 107, 108, 109, 110, 111, 112, 113, 114, 115, 116, 117, 118, 119, 120, 121, 122, 20, 21, 123, 124, 125, 126, 127, 128, 129, 130, 131, 132, 133, 134, 135, 136, 137, 27, 28, 29, 30, 31, 138, 33, 34, 35, 36, 37, 38, 39, 40, 41, 42, 43, 44, 45, 46, 47, 48, 49, 50, 51, 52, 53, 54, 55, 56, 57, 58, 59, 60, 61, 62, 63, 64, 65, 66, 67, 68, 69, 70, 71, 72, 73, 74, 75, 76, 77, 78, 79, 80, 81, 82, 83, 84, 85, 139, 140, 141, 142, 143, 144, 145, 146, 147, 148, 149, 150, 151, 152, 153, 154, 155, 156, 157, 158, 159, 160, 161, 162, 163, 164, 165, 166, 167, 168, 169, 170, 171, 172, 173, 174, 175, 176, 177, 178, 179, 180, 181, 182, 183, 184, 185, 186, 187, 188, 189, 190, 191, 192, 193, 194, 195, 196, 197, 198, 199, 200, 201, 202, 203, 204, 205, 206, 207, 208, 209, 210, 211, 212, 213, 214, 215, 216, 217, 218, 219, 220, 221, 222, 223, 224, 225, 226, 227, 228, 229, 230, 231, 232, 233, 234, 235, 236, 237, 238, 239, 240, 241, 242, 243, 244, 245, 246, 247, 248, 249, 250, 251, 252, 253, 254, 255, 256, 257, 258, 259, 260, 261, 262, 263, 264, 265, 266, 267, 268, 269, 270, 271, 272, 273, 274, 275, 276, 277, 278, 279, 280, 281, 282, 283, 284, 285, 286, 287, 288, 289, 290, 291, 292, 293, 294, 295, 296, 297, 298, 299, 300, 301, 302, 303, 304, 305, 306, 307, 308, 309, 310, 311, 312, 313, 314, 315, 316, 317, 318, 319, 320, 321, 322, 323, 324, 325, 326, 327, 328, 329, 330, 331, 332, 333, 334, 335, 336, 337, 338, 339, 340, 341, 342, 343, 344, 345, 346, 347, 348, 349, 350, 351, 352, 353, 354, 355, 356, 357, 358, 359, 360, 361, 362, 363, 364, 365, 366, 367, 368, 369, 370, 371, 372, 373, 374, 375, 376, 377, 378, 379, 380, 402, 403, 404, 405, 385, 386, 387, 388, 389, 390, 391, 392, 393, 394, 395, 396, 397, 398, 399, 400, 401, 409, 410, 411, 412, 413, 414, 415, 416, 417, 418, 419, 420, 421, 422, 423, 424, 425, 426, 427, 428, 429, 430, 431, 432, 433, 434, 435, 436, 437, 438, 406, 407, 408, 439, 440, 441, 442, 443, 444, 445, 446, 447, 448, 449, 450] (by decide +kernel) (by decide +kernel)) (goodIn_sub (fun _ h => List.mem_cons_of_mem _ (List.mem_append_left _ (List.mem_append_right _ h))) (by decide +kernel))) (goodIn_sub (fun _ h => List.mem_cons_of_mem _ (List.mem_append_right _ h)) (by decide +kernel))
set_option maxRecDepth 20000 in
theorem gX11_helm_X9_obey : GoodIn wsX11_helm (wsV RX11 48 RX9 yX9_obey wsX9_obey) := goodIn_app (goodIn_of _ (by decide +kernel)) ggX11_helm_X9_obey
theorem dX11_helm_0 : decode cX11_helm 0 = .ok (.iload_n 1, 1) := by decide +kernel
theorem dX11_helm_1 : decode cX11_helm 1 = .ok (.bipush (-3), 2) := by decide +kernel
theorem dX11_helm_3 : decode cX11_helm 3 = .ok (.iconst 3, 1) := by decide +kernel
theorem dX11_helm_4 : decode cX11_helm 4 = .ok (.invokestatic 30, 3) := by decide +kernel
theorem dX11_helm_7 : decode cX11_helm 7 = .ok (.ifCond .ne 13, 3) := by decide +kernel
theorem dX11_helm_10 : decode cX11_helm 10 = .ok (.new 34, 3) := by decide +kernel
theorem dX11_helm_13 : decode cX11_helm 13 = .ok (.dup, 1) := by decide +kernel
theorem dX11_helm_14 : decode cX11_helm 14 = .ok (.ldc 60, 2) := by decide +kernel
theorem dX11_helm_16 : decode cX11_helm 16 = .ok (.invokespecial 38, 3) := by decide +kernel
theorem dX11_helm_19 : decode cX11_helm 19 = .ok (.athrow, 1) := by decide +kernel
theorem dX11_helm_20 : decode cX11_helm 20 = .ok (.aload_n 0, 1) := by decide +kernel
theorem dX11_helm_21 : decode cX11_helm 21 = .ok (.getfield 10, 3) := by decide +kernel
theorem dX11_helm_24 : decode cX11_helm 24 = .ok (.getfield 62, 3) := by decide +kernel
theorem dX11_helm_27 : decode cX11_helm 27 = .ok (.istore_n 2, 1) := by decide +kernel
theorem dX11_helm_28 : decode cX11_helm 28 = .ok (.aload_n 0, 1) := by decide +kernel
theorem dX11_helm_29 : decode cX11_helm 29 = .ok (.getfield 10, 3) := by decide +kernel
theorem dX11_helm_32 : decode cX11_helm 32 = .ok (.aload_n 0, 1) := by decide +kernel
theorem dX11_helm_33 : decode cX11_helm 33 = .ok (.iconst 2, 1) := by decide +kernel
theorem dX11_helm_34 : decode cX11_helm 34 = .ok (.iload_n 1, 1) := by decide +kernel
theorem dX11_helm_35 : decode cX11_helm 35 = .ok (.iconst 0, 1) := by decide +kernel
theorem dX11_helm_36 : decode cX11_helm 36 = .ok (.iconst 0, 1) := by decide +kernel
theorem dX11_helm_37 : decode cX11_helm 37 = .ok (.invokevirtual 44, 3) := by decide +kernel
theorem dX11_helm_40 : decode cX11_helm 40 = .ok (.invokevirtual 48, 3) := by decide +kernel
theorem dX11_helm_43 : decode cX11_helm 43 = .ok (.iload_n 2, 1) := by decide +kernel
theorem dX11_helm_44 : decode cX11_helm 44 = .ok (.ireturn, 1) := by decide +kernel
set_option maxRecDepth 20000 in
theorem ggX11_belay_X0_find : GoodIn wsX11_belay wsX0_find := goodIn_r _ [10, 11, 12, 13, 14, 15, 16, 17, 18, 19, 20, 21, 22, 23, 24, 25, 26, 27, 28, 29, 30, 31, 32, 33, 34, 35, 409, 410, 411, 412, 413, 414, 415, 416, 417, 418] (by decide +kernel) (by decide +kernel)
set_option maxRecDepth 20000 in
theorem gX11_belay_X0_find : GoodIn wsX11_belay (wsV RX11 89 RX0 yX0_find wsX0_find) := goodIn_app (goodIn_of _ (by decide +kernel)) ggX11_belay_X0_find
theorem dX11_belay_0 : decode cX11_belay 0 = .ok (.aload_n 0, 1) := by decide +kernel
theorem dX11_belay_1 : decode cX11_belay 1 = .ok (.getfield 10, 3) := by decide +kernel
theorem dX11_belay_4 : decode cX11_belay 4 = .ok (.getfield 71, 3) := by decide +kernel
theorem dX11_belay_7 : decode cX11_belay 7 = .ok (.iload_n 1, 1) := by decide +kernel
theorem dX11_belay_8 : decode cX11_belay 8 = .ok (.invokevirtual 89, 3) := by decide +kernel
theorem dX11_belay_11 : decode cX11_belay 11 = .ok (.astore_n 2, 1) := by decide +kernel
theorem dX11_belay_12 : decode cX11_belay 12 = .ok (.aload_n 2, 1) := by decide +kernel
theorem dX11_belay_13 : decode cX11_belay 13 = .ok (.ifnonnull 13, 3) := by decide +kernel
theorem dX11_belay_16 : decode cX11_belay 16 = .ok (.new 93, 3) := by decide +kernel
theorem dX11_belay_19 : decode cX11_belay 19 = .ok (.dup, 1) := by decide +kernel
theorem dX11_belay_20 : decode cX11_belay 20 = .ok (.ldc 95, 2) := by decide +kernel
theorem dX11_belay_22 : decode cX11_belay 22 = .ok (.invokespecial 97, 3) := by decide +kernel
theorem dX11_belay_25 : decode cX11_belay 25 = .ok (.athrow, 1) := by decide +kernel
set_option maxRecDepth 20000 in
theorem ggX11_state_X0_find : GoodIn wsX11_state wsX0_find := goodIn_r _ [8, 9, 10, 11, 12, 13, 14, 15, 16, 17, 18, 19, 20, 21, 22, 23, 24, 25, 26, 27, 28, 29, 30, 31, 32, 33, 62, 63, 64, 65, 66, 67, 68, 69, 70, 71] (by decide +kernel) (by decide +kernel)
set_option maxRecDepth 20000 in
theorem gX11_state_X0_find : GoodIn wsX11_state (wsV RX11 89 RX0 yX0_find wsX0_find) := goodIn_app (goodIn_of _ (by decide +kernel)) ggX11_state_X0_find
theorem dX11_state_0 : decode cX11_state 0 = .ok (.aload_n 0, 1) := by decide +kernel
theorem dX11_state_1 : decode cX11_state 1 = .ok (.getfield 10, 3) := by decide +kernel
theorem dX11_state_4 : decode cX11_state 4 = .ok (.getfield 71, 3) := by decide +kernel
theorem dX11_state_7 : decode cX11_state 7 = .ok (.iload_n 1, 1) := by decide +kernel
theorem dX11_state_8 : decode cX11_state 8 = .ok (.invokevirtual 89, 3) := by decide +kernel
theorem dX11_state_11 : decode cX11_state 11 = .ok (.astore_n 2, 1) := by decide +kernel
theorem dX11_state_12 : decode cX11_state 12 = .ok (.aload_n 2, 1) := by decide +kernel
theorem dX11_state_13 : decode cX11_state 13 = .ok (.ifnonnull 13, 3) := by decide +kernel
theorem dX11_state_16 : decode cX11_state 16 = .ok (.new 93, 3) := by decide +kernel
theorem dX11_state_19 : decode cX11_state 19 = .ok (.dup, 1) := by decide +kernel
theorem dX11_state_20 : decode cX11_state 20 = .ok (.ldc 95, 2) := by decide +kernel
theorem dX11_state_22 : decode cX11_state 22 = .ok (.invokespecial 97, 3) := by decide +kernel
theorem dX11_state_25 : decode cX11_state 25 = .ok (.athrow, 1) := by decide +kernel
set_option maxRecDepth 20000 in
theorem ggX11_callAll_X11_keep : GoodIn wsX11_callAll wsX11_keep := goodIn_r _ [6, 7, 8, 9, 10, 11, 12, 13, 14, 15, 16, 17, 18, 19, 20, 21, 22, 23, 24, 25, 26, 27, 28, 29, 30, 31, 32, 33, 34, 35, 36, 37, 38, 39, 40, 41, 42, 43, 44, 45, 46, 47, 48, 49, 50, 51, 52, 53, 54, 55, 56, 57, 58, 59, 60, 61, 62, 63, 64, 65, 66, 67, 68, 69, 70, 71, 72, 73, 74, 75, 76, 77, 78, 79, 80, 404, 405, 406, 407, 376, 377, 378, 379, 408, 409, 410] (by decide +kernel) (by decide +kernel)
set_option maxRecDepth 20000 in
theorem gX11_callAll_X11_keep : GoodIn wsX11_callAll (wsV RX11 44 RX11 yX11_keep wsX11_keep) := goodIn_app (goodIn_of _ (by decide +kernel)) ggX11_callAll_X11_keep
set_option maxRecDepth 20000 in
theorem ggX11_callAll_X9_obey : GoodIn wsX11_callAll wsX9_obey := goodIn_ca (goodIn_ca (goodIn_r _ [85, 86, 87, 88, 89, 90, 91, 92, 93, 94, 95, 96, 97, 84, 98, 99, 100, 101, 102, 103, 104, 105, 106, 107, 108, 109, 110, 111, 112, 113, 114, 115, 116, 117, 15, 16, 118, 119, 120, 121, 122, 123, 124, 125, 126, 127, 128, 129, 130, 131, 132, 22, 23, 24, 25, 26, 133, 28, 29, 30, 31, 32, 33, 34, 35, 36, 37, 38, 39, 40, 41, 42, 43, 44, 45, 46, 47, 48, 49, 50, 51, 52, 53, 54, 55, 56, 57, 58, 59, 60, 61, 62, 63, 64, 65, 66, 67, 68, 69, 70, 71, 72, 73, 74, 75, 76, 77, 78, 79, 80, 134, 135, 136, 137, 138, 139, 140, 141, 142, 143, 144, 145, 146, 147, 148, 149, 150, 151, 152, 153, 154, 155, 156, 157, 158, 159, 160, 161, 162, 163, 164, 165, 166, 167, 168, 169, 170, 171, 172, 173, 174, 175, 176, 177, 178, 179, 180, 181, 182, 183, 184, 185, 186, 187, 188, 189, 190, 191, 192, 193, 194, 195, 196, 197, 198, 199, 200, 201, 202, 203, 204, 205, 206, 207, 208, 209, 210, 211, 212, 213, 214, 215, 216, 217, 218, 219, 220, 221, 222, 223, 224, 225, 226, 227, 228, 229, 230, 231, 232, 233, 234, 235, 236, 237, 238, 239, 240, 241, 242, 243, 244, 245, 246, 247, 248, 249, 250, 251, 252, 253, 254, 255, 256, 257, 258, 259, 260, 261, 262, 263, 264, 265, 266, 267, 268, 269, 270, 271, 272, 273, 274, 275, 276, 277, 278, 279, 280, 281, 282, 283, 284, 285, 286, 287, 288, 289, 290, 291, 292, 293, 294, 295, 296, 297, 298, 299, 300, 301, 302, 303, 304, 305, 306, 307, 308, 309, 310, 311, 312, 313, 314, 315, 316, 317, 318, 319, 320, 321, 322, 323, 324, 325, 326, 327, 328, 329, 330, 331, 332, 333, 334, 335, 336, 337, 338, 339, 340, 341, 342, 343, 344, 345, 346, 347, 348, 349, 350, 351, 352, 353, 354, 355, 356, 357, 358, 359, 360, 361, 362, 363, 364, 365, 366, 367, 368, 369, 370, 371, 372, 373, 374, 375, 404, 405, 406, 407, 380, 381, 382, 383, 384, 385, 386, 387, 388, 389, 390, 391, 392, 393, 394, 395, 396, 397, 398, 399, 400, 401, 402, 403, 411, 412, 413, 414, 415, 416, 417, 418, 419, 420, 421, 422, 423, 424, 425, 426, 427, 428, 429, 430, 431, 432, 433, 408, 409, 410, 434, 435, 436, 437, 438, 439, 440, 441, 442, 443, 444, 445] (by decide +kernel) (by decide +kernel)) (goodIn_sub (fun _ h => List.mem_cons_of_mem _ (List.mem_append_left _ (List.mem_append_right _ h))) (by decide +kernel))) (goodIn_sub (fun _ h => List.mem_cons_of_mem _ (List.mem_append_right _ h)) (by decide +kernel))
set_option maxRecDepth 20000 in
theorem gX11_callAll_X9_obey : GoodIn wsX11_callAll (wsV RX11 48 RX9 yX9_obey wsX9_obey) := goodIn_app (goodIn_of _ (by decide +kernel)) ggX11_callAll_X9_obey
theorem dX11_callAll_0 : decode cX11_callAll 0 = .ok (.aload_n 0, 1) := by decide +kernel
theorem dX11_callAll_1 : decode cX11_callAll 1 = .ok (.getfield 10, 3) := by decide +kernel
theorem dX11_callAll_4 : decode cX11_callAll 4 = .ok (.getfield 71, 3) := by decide +kernel
theorem dX11_callAll_7 : decode cX11_callAll 7 = .ok (.getfield 112, 3) := by decide +kernel
theorem dX11_callAll_10 : decode cX11_callAll 10 = .ok (.istore_n 2, 1) := by decide +kernel
theorem dX11_callAll_11 : decode cX11_callAll 11 = .ok (.aload_n 0, 1) := by decide +kernel
theorem dX11_callAll_12 : decode cX11_callAll 12 = .ok (.getfield 10, 3) := by decide +kernel
theorem dX11_callAll_15 : decode cX11_callAll 15 = .ok (.aload_n 0, 1) := by decide +kernel
theorem dX11_callAll_16 : decode cX11_callAll 16 = .ok (.iconst 5, 1) := by decide +kernel
theorem dX11_callAll_17 : decode cX11_callAll 17 = .ok (.iload_n 1, 1) := by decide +kernel
theorem dX11_callAll_18 : decode cX11_callAll 18 = .ok (.ifCond .eq 7, 3) := by decide +kernel
theorem dX11_callAll_21 : decode cX11_callAll 21 = .ok (.iconst 1, 1) := by decide +kernel
theorem dX11_callAll_22 : decode cX11_callAll 22 = .ok (.goto 4, 3) := by decide +kernel
theorem dX11_callAll_25 : decode cX11_callAll 25 = .ok (.iconst 0, 1) := by decide +kernel
theorem dX11_callAll_26 : decode cX11_callAll 26 = .ok (.iconst 0, 1) := by decide +kernel
theorem dX11_callAll_27 : decode cX11_callAll 27 = .ok (.iconst 0, 1) := by decide +kernel
theorem dX11_callAll_28 : decode cX11_callAll 28 = .ok (.invokevirtual 44, 3) := by decide +kernel
theorem dX11_callAll_31 : decode cX11_callAll 31 = .ok (.invokevirtual 48, 3) := by decide +kernel
theorem dX11_callAll_34 : decode cX11_callAll 34 = .ok (.iload_n 2, 1) := by decide +kernel
theorem dX11_callAll_35 : decode cX11_callAll 35 = .ok (.ireturn, 1) := by decide +kernel
theorem dX11_watch_0 : decode cX11_watch 0 = .ok (.aload_n 0, 1) := by decide +kernel
theorem dX11_watch_1 : decode cX11_watch 1 = .ok (.getfield 10, 3) := by decide +kernel
theorem dX11_watch_4 : decode cX11_watch 4 = .ok (.getfield 71, 3) := by decide +kernel
theorem dX11_watch_7 : decode cX11_watch 7 = .ok (.getfield 116, 3) := by decide +kernel
theorem dX11_watch_10 : decode cX11_watch 10 = .ok (.ireturn, 1) := by decide +kernel
set_option maxRecDepth 20000 in
theorem ggX11_free_X0_freeHands : GoodIn wsX11_free wsX0_freeHands := goodIn_r _ [6, 7, 8, 9, 10, 11, 12, 5, 13, 14, 15, 16, 17, 18, 19, 20, 21, 43, 44, 45, 46, 47, 48, 49, 50, 51] (by decide +kernel) (by decide +kernel)
set_option maxRecDepth 20000 in
theorem gX11_free_X0_freeHands : GoodIn wsX11_free (wsV RX11 119 RX0 yX0_freeHands wsX0_freeHands) := goodIn_app (goodIn_of _ (by decide +kernel)) ggX11_free_X0_freeHands
theorem dX11_free_0 : decode cX11_free 0 = .ok (.aload_n 0, 1) := by decide +kernel
theorem dX11_free_1 : decode cX11_free 1 = .ok (.getfield 10, 3) := by decide +kernel
theorem dX11_free_4 : decode cX11_free 4 = .ok (.getfield 71, 3) := by decide +kernel
theorem dX11_free_7 : decode cX11_free 7 = .ok (.invokevirtual 119, 3) := by decide +kernel
theorem dX11_free_10 : decode cX11_free 10 = .ok (.ireturn, 1) := by decide +kernel
set_option maxRecDepth 20000 in
theorem ggX11_tired_X11_isIn : GoodIn wsX11_tired wsX11_isIn := goodIn_r _ [7] (by decide +kernel) (by decide +kernel)
set_option maxRecDepth 20000 in
theorem gX11_tired_X11_isIn : GoodIn wsX11_tired (va_wsS RX11 30 yX11_isIn wsX11_isIn) := goodIn_app (goodIn_of _ (by decide +kernel)) ggX11_tired_X11_isIn
set_option maxRecDepth 20000 in
theorem ggX11_tired_X0_watchOf : GoodIn wsX11_tired wsX0_watchOf := goodIn_r _ [12, 13, 14, 38, 39, 40, 41, 42, 43, 44] (by decide +kernel) (by decide +kernel)
set_option maxRecDepth 20000 in
theorem gX11_tired_X0_watchOf : GoodIn wsX11_tired (wsV RX11 124 RX0 yX0_watchOf wsX0_watchOf) := goodIn_app (goodIn_of _ (by decide +kernel)) ggX11_tired_X0_watchOf
theorem dX11_tired_0 : decode cX11_tired 0 = .ok (.iload_n 1, 1) := by decide +kernel
theorem dX11_tired_1 : decode cX11_tired 1 = .ok (.iconst 0, 1) := by decide +kernel
theorem dX11_tired_2 : decode cX11_tired 2 = .ok (.iconst 1, 1) := by decide +kernel
theorem dX11_tired_3 : decode cX11_tired 3 = .ok (.invokestatic 30, 3) := by decide +kernel
theorem dX11_tired_6 : decode cX11_tired 6 = .ok (.ifCond .ne 13, 3) := by decide +kernel
theorem dX11_tired_9 : decode cX11_tired 9 = .ok (.new 93, 3) := by decide +kernel
theorem dX11_tired_12 : decode cX11_tired 12 = .ok (.dup, 1) := by decide +kernel
theorem dX11_tired_13 : decode cX11_tired 13 = .ok (.ldc 122, 2) := by decide +kernel
theorem dX11_tired_15 : decode cX11_tired 15 = .ok (.invokespecial 97, 3) := by decide +kernel
theorem dX11_tired_18 : decode cX11_tired 18 = .ok (.athrow, 1) := by decide +kernel
theorem dX11_tired_19 : decode cX11_tired 19 = .ok (.aload_n 0, 1) := by decide +kernel
theorem dX11_tired_20 : decode cX11_tired 20 = .ok (.getfield 10, 3) := by decide +kernel
theorem dX11_tired_23 : decode cX11_tired 23 = .ok (.getfield 71, 3) := by decide +kernel
theorem dX11_tired_26 : decode cX11_tired 26 = .ok (.iload_n 1, 1) := by decide +kernel
theorem dX11_tired_27 : decode cX11_tired 27 = .ok (.invokevirtual 124, 3) := by decide +kernel
theorem dX11_tired_30 : decode cX11_tired 30 = .ok (.getfield 128, 3) := by decide +kernel
theorem dX11_tired_33 : decode cX11_tired 33 = .ok (.ireturn, 1) := by decide +kernel
set_option maxRecDepth 20000 in
theorem ggX11_sick_X11_isIn : GoodIn wsX11_sick wsX11_isIn := goodIn_r _ [7] (by decide +kernel) (by decide +kernel)
set_option maxRecDepth 20000 in
theorem gX11_sick_X11_isIn : GoodIn wsX11_sick (va_wsS RX11 30 yX11_isIn wsX11_isIn) := goodIn_app (goodIn_of _ (by decide +kernel)) ggX11_sick_X11_isIn
set_option maxRecDepth 20000 in
theorem ggX11_sick_X0_watchOf : GoodIn wsX11_sick wsX0_watchOf := goodIn_r _ [12, 13, 14, 38, 39, 40, 41, 42, 43, 44] (by decide +kernel) (by decide +kernel)
set_option maxRecDepth 20000 in
theorem gX11_sick_X0_watchOf : GoodIn wsX11_sick (wsV RX11 124 RX0 yX0_watchOf wsX0_watchOf) := goodIn_app (goodIn_of _ (by decide +kernel)) ggX11_sick_X0_watchOf
theorem dX11_sick_0 : decode cX11_sick 0 = .ok (.iload_n 1, 1) := by decide +kernel
theorem dX11_sick_1 : decode cX11_sick 1 = .ok (.iconst 0, 1) := by decide +kernel
theorem dX11_sick_2 : decode cX11_sick 2 = .ok (.iconst 1, 1) := by decide +kernel
theorem dX11_sick_3 : decode cX11_sick 3 = .ok (.invokestatic 30, 3) := by decide +kernel
theorem dX11_sick_6 : decode cX11_sick 6 = .ok (.ifCond .ne 13, 3) := by decide +kernel
theorem dX11_sick_9 : decode cX11_sick 9 = .ok (.new 93, 3) := by decide +kernel
theorem dX11_sick_12 : decode cX11_sick 12 = .ok (.dup, 1) := by decide +kernel
theorem dX11_sick_13 : decode cX11_sick 13 = .ok (.ldc 122, 2) := by decide +kernel
theorem dX11_sick_15 : decode cX11_sick 15 = .ok (.invokespecial 97, 3) := by decide +kernel
theorem dX11_sick_18 : decode cX11_sick 18 = .ok (.athrow, 1) := by decide +kernel
theorem dX11_sick_19 : decode cX11_sick 19 = .ok (.aload_n 0, 1) := by decide +kernel
theorem dX11_sick_20 : decode cX11_sick 20 = .ok (.getfield 10, 3) := by decide +kernel
theorem dX11_sick_23 : decode cX11_sick 23 = .ok (.getfield 71, 3) := by decide +kernel
theorem dX11_sick_26 : decode cX11_sick 26 = .ok (.iload_n 1, 1) := by decide +kernel
theorem dX11_sick_27 : decode cX11_sick 27 = .ok (.invokevirtual 124, 3) := by decide +kernel
theorem dX11_sick_30 : decode cX11_sick 30 = .ok (.getfield 133, 3) := by decide +kernel
theorem dX11_sick_33 : decode cX11_sick 33 = .ok (.ireturn, 1) := by decide +kernel
set_option maxRecDepth 20000 in
theorem ggX11_left_X11_isIn : GoodIn wsX11_left wsX11_isIn := goodIn_r _ [7] (by decide +kernel) (by decide +kernel)
set_option maxRecDepth 20000 in
theorem gX11_left_X11_isIn : GoodIn wsX11_left (va_wsS RX11 30 yX11_isIn wsX11_isIn) := goodIn_app (goodIn_of _ (by decide +kernel)) ggX11_left_X11_isIn
theorem dX11_left_0 : decode cX11_left 0 = .ok (.iload_n 1, 1) := by decide +kernel
theorem dX11_left_1 : decode cX11_left 1 = .ok (.iconst 0, 1) := by decide +kernel
theorem dX11_left_2 : decode cX11_left 2 = .ok (.aload_n 0, 1) := by decide +kernel
theorem dX11_left_3 : decode cX11_left 3 = .ok (.getfield 10, 3) := by decide +kernel
theorem dX11_left_6 : decode cX11_left 6 = .ok (.getfield 138, 3) := by decide +kernel
theorem dX11_left_9 : decode cX11_left 9 = .ok (.getfield 142, 3) := by decide +kernel
theorem dX11_left_12 : decode cX11_left 12 = .ok (.iconst 1, 1) := by decide +kernel
theorem dX11_left_13 : decode cX11_left 13 = .ok (.isub, 1) := by decide +kernel
theorem dX11_left_14 : decode cX11_left 14 = .ok (.invokestatic 30, 3) := by decide +kernel
theorem dX11_left_17 : decode cX11_left 17 = .ok (.ifCond .ne 13, 3) := by decide +kernel
theorem dX11_left_20 : decode cX11_left 20 = .ok (.new 93, 3) := by decide +kernel
theorem dX11_left_23 : decode cX11_left 23 = .ok (.dup, 1) := by decide +kernel
theorem dX11_left_24 : decode cX11_left 24 = .ok (.ldc 149, 2) := by decide +kernel
theorem dX11_left_26 : decode cX11_left 26 = .ok (.invokespecial 97, 3) := by decide +kernel
theorem dX11_left_29 : decode cX11_left 29 = .ok (.athrow, 1) := by decide +kernel
theorem dX11_minute_0 : decode cX11_minute 0 = .ok (.aload_n 0, 1) := by decide +kernel
theorem dX11_minute_1 : decode cX11_minute 1 = .ok (.getfield 10, 3) := by decide +kernel
theorem dX11_minute_4 : decode cX11_minute 4 = .ok (.getfield 162, 3) := by decide +kernel
theorem dX11_minute_7 : decode cX11_minute 7 = .ok (.ireturn, 1) := by decide +kernel
theorem dX11_heading_0 : decode cX11_heading 0 = .ok (.aload_n 0, 1) := by decide +kernel
theorem dX11_heading_1 : decode cX11_heading 1 = .ok (.getfield 10, 3) := by decide +kernel
theorem dX11_heading_4 : decode cX11_heading 4 = .ok (.getfield 165, 3) := by decide +kernel
theorem dX11_heading_7 : decode cX11_heading 7 = .ok (.ireturn, 1) := by decide +kernel
theorem dX11_speed_0 : decode cX11_speed 0 = .ok (.aload_n 0, 1) := by decide +kernel
theorem dX11_speed_1 : decode cX11_speed 1 = .ok (.getfield 10, 3) := by decide +kernel
theorem dX11_speed_4 : decode cX11_speed 4 = .ok (.getfield 168, 3) := by decide +kernel
theorem dX11_speed_7 : decode cX11_speed 7 = .ok (.ireturn, 1) := by decide +kernel
theorem dX11_east_0 : decode cX11_east 0 = .ok (.aload_n 0, 1) := by decide +kernel
theorem dX11_east_1 : decode cX11_east 1 = .ok (.getfield 10, 3) := by decide +kernel
theorem dX11_east_4 : decode cX11_east 4 = .ok (.getfield 171, 3) := by decide +kernel
theorem dX11_east_7 : decode cX11_east 7 = .ok (.getfield 175, 3) := by decide +kernel
theorem dX11_east_10 : decode cX11_east 10 = .ok (.lreturn, 1) := by decide +kernel
theorem dX11_north_0 : decode cX11_north 0 = .ok (.aload_n 0, 1) := by decide +kernel
theorem dX11_north_1 : decode cX11_north 1 = .ok (.getfield 10, 3) := by decide +kernel
theorem dX11_north_4 : decode cX11_north 4 = .ok (.getfield 171, 3) := by decide +kernel
theorem dX11_north_7 : decode cX11_north 7 = .ok (.getfield 181, 3) := by decide +kernel
theorem dX11_north_10 : decode cX11_north 10 = .ok (.lreturn, 1) := by decide +kernel
set_option maxRecDepth 20000 in
theorem ggX11_off_X9_offBow : GoodIn wsX11_off wsX9_offBow := goodIn_r _ [6, 7, 8, 13, 14, 15, 16, 17, 18, 19, 20, 21, 22, 23, 24, 25, 26, 27, 28, 29] (by decide +kernel) (by decide +kernel)
set_option maxRecDepth 20000 in
theorem gX11_off_X9_offBow : GoodIn wsX11_off (wsV RX11 184 RX9 yX9_offBow wsX9_offBow) := goodIn_app (goodIn_of _ (by decide +kernel)) ggX11_off_X9_offBow
theorem dX11_off_0 : decode cX11_off 0 = .ok (.aload_n 0, 1) := by decide +kernel
theorem dX11_off_1 : decode cX11_off 1 = .ok (.getfield 10, 3) := by decide +kernel
theorem dX11_off_4 : decode cX11_off 4 = .ok (.invokevirtual 184, 3) := by decide +kernel
theorem dX11_off_7 : decode cX11_off 7 = .ok (.ireturn, 1) := by decide +kernel
set_option maxRecDepth 20000 in
theorem ggX11_best_X9_offBow : GoodIn wsX11_best wsX9_offBow := goodIn_r _ [6, 7, 8, 21, 22, 23, 24, 25, 26, 27, 28, 29, 30, 31, 32, 33, 34, 35, 36, 37] (by decide +kernel) (by decide +kernel)
set_option maxRecDepth 20000 in
theorem gX11_best_X9_offBow : GoodIn wsX11_best (wsV RX11 184 RX9 yX9_offBow wsX9_offBow) := goodIn_app (goodIn_of _ (by decide +kernel)) ggX11_best_X9_offBow
set_option maxRecDepth 20000 in
theorem ggX11_best_X7_bestBrace : GoodIn wsX11_best wsX7_bestBrace := goodIn_r _ [12, 13, 14, 15, 16] (by decide +kernel) (by decide +kernel)
set_option maxRecDepth 20000 in
theorem gX11_best_X7_bestBrace : GoodIn wsX11_best (va_wsS RX11 230 yX7_bestBrace wsX7_bestBrace) := goodIn_app (goodIn_of _ (by decide +kernel)) ggX11_best_X7_bestBrace
theorem dX11_best_0 : decode cX11_best 0 = .ok (.aload_n 0, 1) := by decide +kernel
theorem dX11_best_1 : decode cX11_best 1 = .ok (.getfield 10, 3) := by decide +kernel
theorem dX11_best_4 : decode cX11_best 4 = .ok (.invokevirtual 184, 3) := by decide +kernel
theorem dX11_best_7 : decode cX11_best 7 = .ok (.invokestatic 230, 3) := by decide +kernel
theorem dX11_best_10 : decode cX11_best 10 = .ok (.ireturn, 1) := by decide +kernel
set_option maxRecDepth 20000 in
theorem ggX11_noon_X11_keep : GoodIn wsX11_noon wsX11_keep := goodIn_r _ [6, 7, 8, 9, 10, 11, 12, 13, 14, 15, 16, 17, 18, 19, 20, 21, 22, 23, 24, 25, 26, 27, 28, 29, 30, 31, 32, 33, 34, 35, 36, 37, 38, 39, 40, 41, 42, 43, 44, 45, 46, 47, 48, 49, 50, 51, 52, 53, 54, 55, 56, 57, 58, 59, 60, 61, 62, 63, 64, 65, 66, 67, 68, 69, 70, 71, 72, 73, 74, 75, 76, 77, 78, 79, 80, 399, 400, 401, 402, 376, 377, 378, 379, 403, 404, 405] (by decide +kernel) (by decide +kernel)
set_option maxRecDepth 20000 in
theorem gX11_noon_X11_keep : GoodIn wsX11_noon (wsV RX11 44 RX11 yX11_keep wsX11_keep) := goodIn_app (goodIn_of _ (by decide +kernel)) ggX11_noon_X11_keep
set_option maxRecDepth 20000 in
theorem ggX11_noon_X9_obey : GoodIn wsX11_noon wsX9_obey := goodIn_ca (goodIn_ca (goodIn_r _ [85, 86, 87, 88, 89, 90, 91, 92, 93, 94, 95, 96, 97, 84, 98, 99, 100, 101, 102, 103, 104, 105, 106, 107, 108, 109, 110, 111, 112, 113, 114, 115, 116, 117, 15, 16, 118, 119, 120, 121, 122, 123, 124, 125, 126, 127, 128, 129, 130, 131, 132, 22, 23, 24, 25, 26, 133, 28, 29, 30, 31, 32, 33, 34, 35, 36, 37, 38, 39, 40, 41, 42, 43, 44, 45, 46, 47, 48, 49, 50, 51, 52, 53, 54, 55, 56, 57, 58, 59, 60, 61, 62, 63, 64, 65, 66, 67, 68, 69, 70, 71, 72, 73, 74, 75, 76, 77, 78, 79, 80, 134, 135, 136, 137, 138, 139, 140, 141, 142, 143, 144, 145, 146, 147, 148, 149, 150, 151, 152, 153, 154, 155, 156, 157, 158, 159, 160, 161, 162, 163, 164, 165, 166, 167, 168, 169, 170, 171, 172, 173, 174, 175, 176, 177, 178, 179, 180, 181, 182, 183, 184, 185, 186, 187, 188, 189, 190, 191, 192, 193, 194, 195, 196, 197, 198, 199, 200, 201, 202, 203, 204, 205, 206, 207, 208, 209, 210, 211, 212, 213, 214, 215, 216, 217, 218, 219, 220, 221, 222, 223, 224, 225, 226, 227, 228, 229, 230, 231, 232, 233, 234, 235, 236, 237, 238, 239, 240, 241, 242, 243, 244, 245, 246, 247, 248, 249, 250, 251, 252, 253, 254, 255, 256, 257, 258, 259, 260, 261, 262, 263, 264, 265, 266, 267, 268, 269, 270, 271, 272, 273, 274, 275, 276, 277, 278, 279, 280, 281, 282, 283, 284, 285, 286, 287, 288, 289, 290, 291, 292, 293, 294, 295, 296, 297, 298, 299, 300, 301, 302, 303, 304, 305, 306, 307, 308, 309, 310, 311, 312, 313, 314, 315, 316, 317, 318, 319, 320, 321, 322, 323, 324, 325, 326, 327, 328, 329, 330, 331, 332, 333, 334, 335, 336, 337, 338, 339, 340, 341, 342, 343, 344, 345, 346, 347, 348, 349, 350, 351, 352, 353, 354, 355, 356, 357, 358, 359, 360, 361, 362, 363, 364, 365, 366, 367, 368, 369, 370, 371, 372, 373, 374, 375, 399, 400, 401, 402, 380, 381, 382, 383, 384, 385, 386, 387, 388, 389, 390, 391, 392, 393, 394, 395, 396, 406, 407, 408, 409, 410, 411, 412, 397, 398, 413, 414, 415, 416, 417, 418, 419, 420, 421, 422, 423, 424, 425, 426, 427, 428, 429, 430, 431, 432, 433, 403, 404, 405, 434, 435, 436, 437, 438, 439, 440, 441, 442, 443, 444, 445] (by decide +kernel) (by decide +kernel)) (goodIn_sub (fun _ h => List.mem_cons_of_mem _ (List.mem_append_left _ (List.mem_append_right _ h))) (by decide +kernel))) (goodIn_sub (fun _ h => List.mem_cons_of_mem _ (List.mem_append_right _ h)) (by decide +kernel))
set_option maxRecDepth 20000 in
theorem gX11_noon_X9_obey : GoodIn wsX11_noon (wsV RX11 48 RX9 yX9_obey wsX9_obey) := goodIn_app (goodIn_of _ (by decide +kernel)) ggX11_noon_X9_obey
theorem dX11_noon_0 : decode cX11_noon 0 = .ok (.aload_n 0, 1) := by decide +kernel
theorem dX11_noon_1 : decode cX11_noon 1 = .ok (.getfield 10, 3) := by decide +kernel
theorem dX11_noon_4 : decode cX11_noon 4 = .ok (.getfield 171, 3) := by decide +kernel
theorem dX11_noon_7 : decode cX11_noon 7 = .ok (.getfield 181, 3) := by decide +kernel
theorem dX11_noon_10 : decode cX11_noon 10 = .ok (.aload_n 0, 1) := by decide +kernel
theorem dX11_noon_11 : decode cX11_noon 11 = .ok (.getfield 10, 3) := by decide +kernel
theorem dX11_noon_14 : decode cX11_noon 14 = .ok (.getfield 233, 3) := by decide +kernel
theorem dX11_noon_17 : decode cX11_noon 17 = .ok (.getfield 181, 3) := by decide +kernel
theorem dX11_noon_20 : decode cX11_noon 20 = .ok (.lsub, 1) := by decide +kernel
theorem dX11_noon_21 : decode cX11_noon 21 = .ok (.lstore_n 1, 1) := by decide +kernel
theorem dX11_noon_22 : decode cX11_noon 22 = .ok (.aload_n 0, 1) := by decide +kernel
theorem dX11_noon_23 : decode cX11_noon 23 = .ok (.getfield 10, 3) := by decide +kernel
theorem dX11_noon_26 : decode cX11_noon 26 = .ok (.aload_n 0, 1) := by decide +kernel
theorem dX11_noon_27 : decode cX11_noon 27 = .ok (.bipush 9, 2) := by decide +kernel
theorem dX11_noon_29 : decode cX11_noon 29 = .ok (.iconst 0, 1) := by decide +kernel
theorem dX11_noon_30 : decode cX11_noon 30 = .ok (.iconst 0, 1) := by decide +kernel
theorem dX11_noon_31 : decode cX11_noon 31 = .ok (.iconst 0, 1) := by decide +kernel
theorem dX11_noon_32 : decode cX11_noon 32 = .ok (.invokevirtual 44, 3) := by decide +kernel
theorem dX11_noon_35 : decode cX11_noon 35 = .ok (.invokevirtual 48, 3) := by decide +kernel
theorem dX11_noon_38 : decode cX11_noon 38 = .ok (.lload_n 1, 1) := by decide +kernel
theorem dX11_noon_39 : decode cX11_noon 39 = .ok (.lreturn, 1) := by decide +kernel
theorem dX11_reckonedEast_0 : decode cX11_reckonedEast 0 = .ok (.aload_n 0, 1) := by decide +kernel
theorem dX11_reckonedEast_1 : decode cX11_reckonedEast 1 = .ok (.getfield 10, 3) := by decide +kernel
theorem dX11_reckonedEast_4 : decode cX11_reckonedEast 4 = .ok (.getfield 233, 3) := by decide +kernel
theorem dX11_reckonedEast_7 : decode cX11_reckonedEast 7 = .ok (.getfield 175, 3) := by decide +kernel
theorem dX11_reckonedEast_10 : decode cX11_reckonedEast 10 = .ok (.lreturn, 1) := by decide +kernel
theorem dX11_reckonedNorth_0 : decode cX11_reckonedNorth 0 = .ok (.aload_n 0, 1) := by decide +kernel
theorem dX11_reckonedNorth_1 : decode cX11_reckonedNorth 1 = .ok (.getfield 10, 3) := by decide +kernel
theorem dX11_reckonedNorth_4 : decode cX11_reckonedNorth 4 = .ok (.getfield 233, 3) := by decide +kernel
theorem dX11_reckonedNorth_7 : decode cX11_reckonedNorth 7 = .ok (.getfield 181, 3) := by decide +kernel
theorem dX11_reckonedNorth_10 : decode cX11_reckonedNorth 10 = .ok (.lreturn, 1) := by decide +kernel
theorem dX11_lines_0 : decode cX11_lines 0 = .ok (.aload_n 0, 1) := by decide +kernel
theorem dX11_lines_1 : decode cX11_lines 1 = .ok (.getfield 10, 3) := by decide +kernel
theorem dX11_lines_4 : decode cX11_lines 4 = .ok (.getfield 236, 3) := by decide +kernel
theorem dX11_lines_7 : decode cX11_lines 7 = .ok (.getfield 240, 3) := by decide +kernel
theorem dX11_lines_10 : decode cX11_lines 10 = .ok (.ireturn, 1) := by decide +kernel
set_option maxRecDepth 20000 in
theorem ggX11_line_X11_isIn : GoodIn wsX11_line wsX11_isIn := goodIn_r _ [7] (by decide +kernel) (by decide +kernel)
set_option maxRecDepth 20000 in
theorem gX11_line_X11_isIn : GoodIn wsX11_line (va_wsS RX11 30 yX11_isIn wsX11_isIn) := goodIn_app (goodIn_of _ (by decide +kernel)) ggX11_line_X11_isIn
theorem dX11_line_0 : decode cX11_line 0 = .ok (.iload_n 1, 1) := by decide +kernel
theorem dX11_line_1 : decode cX11_line 1 = .ok (.iconst 0, 1) := by decide +kernel
theorem dX11_line_2 : decode cX11_line 2 = .ok (.aload_n 0, 1) := by decide +kernel
theorem dX11_line_3 : decode cX11_line 3 = .ok (.getfield 10, 3) := by decide +kernel
theorem dX11_line_6 : decode cX11_line 6 = .ok (.getfield 236, 3) := by decide +kernel
theorem dX11_line_9 : decode cX11_line 9 = .ok (.getfield 240, 3) := by decide +kernel
theorem dX11_line_12 : decode cX11_line 12 = .ok (.iconst 1, 1) := by decide +kernel
theorem dX11_line_13 : decode cX11_line 13 = .ok (.isub, 1) := by decide +kernel
theorem dX11_line_14 : decode cX11_line 14 = .ok (.invokestatic 30, 3) := by decide +kernel
theorem dX11_line_17 : decode cX11_line 17 = .ok (.ifCond .ne 13, 3) := by decide +kernel
theorem dX11_line_20 : decode cX11_line 20 = .ok (.new 93, 3) := by decide +kernel
theorem dX11_line_23 : decode cX11_line 23 = .ok (.dup, 1) := by decide +kernel
theorem dX11_line_24 : decode cX11_line 24 = .ok (.ldc 245, 2) := by decide +kernel
theorem dX11_line_26 : decode cX11_line 26 = .ok (.invokespecial 97, 3) := by decide +kernel
theorem dX11_line_29 : decode cX11_line 29 = .ok (.athrow, 1) := by decide +kernel
set_option maxRecDepth 20000 in
theorem ggX11_lineMinute_X11_isIn : GoodIn wsX11_lineMinute wsX11_isIn := goodIn_r _ [7] (by decide +kernel) (by decide +kernel)
set_option maxRecDepth 20000 in
theorem gX11_lineMinute_X11_isIn : GoodIn wsX11_lineMinute (va_wsS RX11 30 yX11_isIn wsX11_isIn) := goodIn_app (goodIn_of _ (by decide +kernel)) ggX11_lineMinute_X11_isIn
theorem dX11_lineMinute_0 : decode cX11_lineMinute 0 = .ok (.iload_n 1, 1) := by decide +kernel
theorem dX11_lineMinute_1 : decode cX11_lineMinute 1 = .ok (.iconst 0, 1) := by decide +kernel
theorem dX11_lineMinute_2 : decode cX11_lineMinute 2 = .ok (.aload_n 0, 1) := by decide +kernel
theorem dX11_lineMinute_3 : decode cX11_lineMinute 3 = .ok (.getfield 10, 3) := by decide +kernel
theorem dX11_lineMinute_6 : decode cX11_lineMinute 6 = .ok (.getfield 236, 3) := by decide +kernel
theorem dX11_lineMinute_9 : decode cX11_lineMinute 9 = .ok (.getfield 240, 3) := by decide +kernel
theorem dX11_lineMinute_12 : decode cX11_lineMinute 12 = .ok (.iconst 1, 1) := by decide +kernel
theorem dX11_lineMinute_13 : decode cX11_lineMinute 13 = .ok (.isub, 1) := by decide +kernel
theorem dX11_lineMinute_14 : decode cX11_lineMinute 14 = .ok (.invokestatic 30, 3) := by decide +kernel
theorem dX11_lineMinute_17 : decode cX11_lineMinute 17 = .ok (.ifCond .ne 13, 3) := by decide +kernel
theorem dX11_lineMinute_20 : decode cX11_lineMinute 20 = .ok (.new 93, 3) := by decide +kernel
theorem dX11_lineMinute_23 : decode cX11_lineMinute 23 = .ok (.dup, 1) := by decide +kernel
theorem dX11_lineMinute_24 : decode cX11_lineMinute 24 = .ok (.ldc 245, 2) := by decide +kernel
theorem dX11_lineMinute_26 : decode cX11_lineMinute 26 = .ok (.invokespecial 97, 3) := by decide +kernel
theorem dX11_lineMinute_29 : decode cX11_lineMinute 29 = .ok (.athrow, 1) := by decide +kernel
abbrev wd_k_x_watch (z : Nat → Nat) (sh : Nat) (rg : Nat) (dk : Nat) (w0 : Nat) (w1 : Nat) (ol : Nat) (hd : Nat) (lg : Nat) (pl : Nat) (pr : Nat) (x : Nat) (tl : Nat) (tw : Nat) : va_W := [(x, .inr (15, [.ref sh, .ref tl, .ref tw, .int 0])), (sh, .inr (13, [.ref rg, .ref dk, .ref hd, .ref lg, .ref pl, .ref pr, .int 0, .int 0, .int 0, .int 0, .int 0, .int 0, .int 0, .int 0, .int 0, .int 0, .int 0])), (dk, .inr (4, [.ref w0, .ref w1, .ref ol, .int 0, .int 0, .int 0, .int 0]))]
set_option maxHeartbeats 4000000 in
set_option maxRecDepth 100000 in
theorem k_x_watch (l : Launch) (dC : Nat → ClassId) (dI : Nat → Nat → Nat) (z zK zV : Nat → Nat) (sh : Nat) (rg : Nat) (dk : Nat) (w0 : Nat) (w1 : Nat) (ol : Nat) (hd : Nat) (lg : Nat) (pl : Nat) (pr : Nat) (x : Nat) (tl : Nat) (tw : Nat) (sz : Nat)  : Met l yX11_watch wsX11_watch ({ frames := 0, cells := 0, slots := 0, locals := 0 }) (kP dC dI z zK zV [.ref x] sz (wd_k_x_watch z sh rg dk w0 w1 ol hd lg pl pr x tl tw) []) (va_Qi (fun (r : Int32) (_ : Unit) => 0 = r) (fun _ t => kB (dC, dI) (va_A (wd_k_x_watch z sh rg dk w0 w1 ol hd lg pl pr x tl tw) sz) [] [] t) (va_A (wd_k_x_watch z sh rg dk w0 w1 ol hd lg pl pr x tl tw) sz)) 0 0 (va_A (wd_k_x_watch z sh rg dk w0 w1 ol hd lg pl pr x tl tw) sz) := by
  refine Met.ofW (cc := cX11_watch) (maxL := 1) (ret := (some .int)) (by decide) rfl ?_
  intro p e s m args below meth c s₁ B hml hv
  obtain ⟨rfl, hsz, hP, hK, hD0, hM⟩ := hv
  have hx := B.exec
  have hb := B.bytes
  have hr := B.returns
  have hts := atoms_spec (ws := wsX11_watch) B.pre
  have hown : s.vm.findClass RX11 = some m.cls := findClass_of_methodNamed B.named
  have hlocks := B.notSynchronized
  have hiX11 : ∀ w ∈ u_ws RX11 TX11 4, w ∈ wsX11_watch := by decide +kernel
  have hiX9 : ∀ w ∈ u_ws RX9 TX9 17, w ∈ wsX11_watch := by decide +kernel
  have hiX0 : ∀ w ∈ u_ws RX0 TX0 7, w ∈ wsX11_watch := by decide +kernel
  subst hsz
  have hD := hD0.self (sz := s.heap.size)
  generalize hAe : va_A (wd_k_x_watch z sh rg dk w0 w1 ol hd lg pl pr x tl tw) s.heap.size = A at hD hM ⊢
  have hA : ∀ q : Nat, s.heap.size ≤ q → A q := fun q h => by rw [← hAe]; exact Or.inr h
  have hS : va_S A s.heap s.heap [] := va_S.rf
  have hP : va_P (dC, dI) vwCl [(x, .inr (15, [.ref sh, .ref tl, .ref tw, .int 0])), (sh, .inr (13, [.ref rg, .ref dk, .ref hd, .ref lg, .ref pl, .ref pr, .int 0, .int 0, .int 0, .int 0, .int 0, .int 0, .int 0, .int 0, .int 0, .int 0, .int 0])), (dk, .inr (4, [.ref w0, .ref w1, .ref ol, .int 0, .int 0, .int 0, .int 0]))] s.heap := hP
  have hD : va_D A [(x, .inr (15, [.ref sh, .ref tl, .ref tw, .int 0])), (sh, .inr (13, [.ref rg, .ref dk, .ref hd, .ref lg, .ref pl, .ref pr, .int 0, .int 0, .int 0, .int 0, .int 0, .int 0, .int 0, .int 0, .int 0, .int 0, .int 0])), (dk, .inr (4, [.ref w0, .ref w1, .ref ol, .int 0, .int 0, .int 0, .int 0]))] := hD
  have hl := lv_entry ([.ref x]) (n := 1) (Nat.le_of_ble_eq_true rfl)
  rw [lg_entry_eq]
  generalize (lg_sl ([.ref x]) ++ List.replicate (1 - (lg_sl ([.ref x])).length) Slot.unset).toArray = ls at hl ⊢
  have hl : lv_has ls 1 [(0, .ref x)] := hl
  refine lv_aload_n hx hb dX11_watch_0 rfl (lv_at hl 0 rfl) ?_
  refine va_get (D := (dC, dI)) (ci := 15) (v := .ref sh) (C := RX11) (T := TX11) (N := 4) hx hb hts hiX11 hown hK hP 0 rfl rfl 0 (by decide) (hts (.fieldLink RX11 10 "SquareRig" "ship" "LSquareRig$Ship;") (by decide +kernel)) (fun _ h9 => h9) rfl dX11_watch_1 ?_
  refine va_getN (D := (dC, dI)) (ci := 13) (v := .ref dk) (C := RX9) (T := TX9) (N := 17) hx hb hts hiX9 hown hK hP 1 rfl rfl 1 (by decide) (va_Nw.use rfl (hM.1 _ (List.mem_of_getElem? (i := 37) rfl))) (fun _ h9 => h9) rfl dX11_watch_4 ?_
  refine va_getN (D := (dC, dI)) (ci := 4) (v := .int 0) (C := RX0) (T := TX0) (N := 7) hx hb hts hiX0 hown hK hP 2 rfl rfl 3 (by decide) (va_Nw.use rfl (hM.1 _ (List.mem_of_getElem? (i := 26) rfl))) (fun _ h9 => h9) rfl dX11_watch_7 ?_
  exact W.iret (v := 0) hx hb hr (fun t ht hW => ⟨⟨0, (), rfl, rfl, kB_end (w9 := []) (t9 := []) hP hK hD [] [] rfl (by decide) rfl rfl t ht hW⟩, hS.F ht⟩) hS.2.2 dX11_watch_10
abbrev wd_k_x_minute (z : Nat → Nat) (sh : Nat) (rg : Nat) (dk : Nat) (hd : Nat) (lg : Nat) (pl : Nat) (pr : Nat) (x : Nat) (tl : Nat) (tw : Nat) : va_W := [(x, .inr (15, [.ref sh, .ref tl, .ref tw, .int 0])), (sh, .inr (13, [.ref rg, .ref dk, .ref hd, .ref lg, .ref pl, .ref pr, .int 0, .int 0, .int 0, .int 0, .int 0, .int 0, .int 0, .int 0, .int 0, .int 0, .int 0]))]
set_option maxHeartbeats 4000000 in
set_option maxRecDepth 100000 in
theorem k_x_minute (l : Launch) (dC : Nat → ClassId) (dI : Nat → Nat → Nat) (z zK zV : Nat → Nat) (sh : Nat) (rg : Nat) (dk : Nat) (hd : Nat) (lg : Nat) (pl : Nat) (pr : Nat) (x : Nat) (tl : Nat) (tw : Nat) (sz : Nat)  : Met l yX11_minute wsX11_minute ({ frames := 0, cells := 0, slots := 0, locals := 0 }) (kP dC dI z zK zV [.ref x] sz (wd_k_x_minute z sh rg dk hd lg pl pr x tl tw) []) (va_Qi (fun (r : Int32) (_ : Unit) => 0 = r) (fun _ t => kB (dC, dI) (va_A (wd_k_x_minute z sh rg dk hd lg pl pr x tl tw) sz) [] [] t) (va_A (wd_k_x_minute z sh rg dk hd lg pl pr x tl tw) sz)) 0 0 (va_A (wd_k_x_minute z sh rg dk hd lg pl pr x tl tw) sz) := by
  refine Met.ofW (cc := cX11_minute) (maxL := 1) (ret := (some .int)) (by decide) rfl ?_
  intro p e s m args below meth c s₁ B hml hv
  obtain ⟨rfl, hsz, hP, hK, hD0, hM⟩ := hv
  have hx := B.exec
  have hb := B.bytes
  have hr := B.returns
  have hts := atoms_spec (ws := wsX11_minute) B.pre
  have hown : s.vm.findClass RX11 = some m.cls := findClass_of_methodNamed B.named
  have hlocks := B.notSynchronized
  have hiX11 : ∀ w ∈ u_ws RX11 TX11 4, w ∈ wsX11_minute := by decide +kernel
  have hiX9 : ∀ w ∈ u_ws RX9 TX9 17, w ∈ wsX11_minute := by decide +kernel
  subst hsz
  have hD := hD0.self (sz := s.heap.size)
  generalize hAe : va_A (wd_k_x_minute z sh rg dk hd lg pl pr x tl tw) s.heap.size = A at hD hM ⊢
  have hA : ∀ q : Nat, s.heap.size ≤ q → A q := fun q h => by rw [← hAe]; exact Or.inr h
  have hS : va_S A s.heap s.heap [] := va_S.rf
  have hP : va_P (dC, dI) vwCl [(x, .inr (15, [.ref sh, .ref tl, .ref tw, .int 0])), (sh, .inr (13, [.ref rg, .ref dk, .ref hd, .ref lg, .ref pl, .ref pr, .int 0, .int 0, .int 0, .int 0, .int 0, .int 0, .int 0, .int 0, .int 0, .int 0, .int 0]))] s.heap := hP
  have hD : va_D A [(x, .inr (15, [.ref sh, .ref tl, .ref tw, .int 0])), (sh, .inr (13, [.ref rg, .ref dk, .ref hd, .ref lg, .ref pl, .ref pr, .int 0, .int 0, .int 0, .int 0, .int 0, .int 0, .int 0, .int 0, .int 0, .int 0, .int 0]))] := hD
  have hl := lv_entry ([.ref x]) (n := 1) (Nat.le_of_ble_eq_true rfl)
  rw [lg_entry_eq]
  generalize (lg_sl ([.ref x]) ++ List.replicate (1 - (lg_sl ([.ref x])).length) Slot.unset).toArray = ls at hl ⊢
  have hl : lv_has ls 1 [(0, .ref x)] := hl
  refine lv_aload_n hx hb dX11_minute_0 rfl (lv_at hl 0 rfl) ?_
  refine va_get (D := (dC, dI)) (ci := 15) (v := .ref sh) (C := RX11) (T := TX11) (N := 4) hx hb hts hiX11 hown hK hP 0 rfl rfl 0 (by decide) (hts (.fieldLink RX11 10 "SquareRig" "ship" "LSquareRig$Ship;") (by decide +kernel)) (fun _ h9 => h9) rfl dX11_minute_1 ?_
  refine va_getN (D := (dC, dI)) (ci := 13) (v := .int 0) (C := RX9) (T := TX9) (N := 17) hx hb hts hiX9 hown hK hP 1 rfl rfl 11 (by decide) (va_Nw.use rfl (hM.1 _ (List.mem_of_getElem? (i := 46) rfl))) (fun _ h9 => h9) rfl dX11_minute_4 ?_
  exact W.iret (v := 0) hx hb hr (fun t ht hW => ⟨⟨0, (), rfl, rfl, kB_end (w9 := []) (t9 := []) hP hK hD [] [] rfl (by decide) rfl rfl t ht hW⟩, hS.F ht⟩) hS.2.2 dX11_minute_7
abbrev wd_k_x_heading (z : Nat → Nat) (sh : Nat) (rg : Nat) (dk : Nat) (hd : Nat) (lg : Nat) (pl : Nat) (pr : Nat) (x : Nat) (tl : Nat) (tw : Nat) : va_W := [(x, .inr (15, [.ref sh, .ref tl, .ref tw, .int 0])), (sh, .inr (13, [.ref rg, .ref dk, .ref hd, .ref lg, .ref pl, .ref pr, .int 0, .int 0, .int 0, .int 0, .int 0, .int 0, .int 0, .int 0, .int 0, .int 0, .int 0]))]
set_option maxHeartbeats 4000000 in
set_option maxRecDepth 100000 in
theorem k_x_heading (l : Launch) (dC : Nat → ClassId) (dI : Nat → Nat → Nat) (z zK zV : Nat → Nat) (sh : Nat) (rg : Nat) (dk : Nat) (hd : Nat) (lg : Nat) (pl : Nat) (pr : Nat) (x : Nat) (tl : Nat) (tw : Nat) (sz : Nat)  : Met l yX11_heading wsX11_heading ({ frames := 0, cells := 0, slots := 0, locals := 0 }) (kP dC dI z zK zV [.ref x] sz (wd_k_x_heading z sh rg dk hd lg pl pr x tl tw) []) (va_Qi (fun (r : Int32) (_ : Unit) => 0 = r) (fun _ t => kB (dC, dI) (va_A (wd_k_x_heading z sh rg dk hd lg pl pr x tl tw) sz) [] [] t) (va_A (wd_k_x_heading z sh rg dk hd lg pl pr x tl tw) sz)) 0 0 (va_A (wd_k_x_heading z sh rg dk hd lg pl pr x tl tw) sz) := by
  refine Met.ofW (cc := cX11_heading) (maxL := 1) (ret := (some .int)) (by decide) rfl ?_
  intro p e s m args below meth c s₁ B hml hv
  obtain ⟨rfl, hsz, hP, hK, hD0, hM⟩ := hv
  have hx := B.exec
  have hb := B.bytes
  have hr := B.returns
  have hts := atoms_spec (ws := wsX11_heading) B.pre
  have hown : s.vm.findClass RX11 = some m.cls := findClass_of_methodNamed B.named
  have hlocks := B.notSynchronized
  have hiX11 : ∀ w ∈ u_ws RX11 TX11 4, w ∈ wsX11_heading := by decide +kernel
  have hiX9 : ∀ w ∈ u_ws RX9 TX9 17, w ∈ wsX11_heading := by decide +kernel
  subst hsz
  have hD := hD0.self (sz := s.heap.size)
  generalize hAe : va_A (wd_k_x_heading z sh rg dk hd lg pl pr x tl tw) s.heap.size = A at hD hM ⊢
  have hA : ∀ q : Nat, s.heap.size ≤ q → A q := fun q h => by rw [← hAe]; exact Or.inr h
  have hS : va_S A s.heap s.heap [] := va_S.rf
  have hP : va_P (dC, dI) vwCl [(x, .inr (15, [.ref sh, .ref tl, .ref tw, .int 0])), (sh, .inr (13, [.ref rg, .ref dk, .ref hd, .ref lg, .ref pl, .ref pr, .int 0, .int 0, .int 0, .int 0, .int 0, .int 0, .int 0, .int 0, .int 0, .int 0, .int 0]))] s.heap := hP
  have hD : va_D A [(x, .inr (15, [.ref sh, .ref tl, .ref tw, .int 0])), (sh, .inr (13, [.ref rg, .ref dk, .ref hd, .ref lg, .ref pl, .ref pr, .int 0, .int 0, .int 0, .int 0, .int 0, .int 0, .int 0, .int 0, .int 0, .int 0, .int 0]))] := hD
  have hl := lv_entry ([.ref x]) (n := 1) (Nat.le_of_ble_eq_true rfl)
  rw [lg_entry_eq]
  generalize (lg_sl ([.ref x]) ++ List.replicate (1 - (lg_sl ([.ref x])).length) Slot.unset).toArray = ls at hl ⊢
  have hl : lv_has ls 1 [(0, .ref x)] := hl
  refine lv_aload_n hx hb dX11_heading_0 rfl (lv_at hl 0 rfl) ?_
  refine va_get (D := (dC, dI)) (ci := 15) (v := .ref sh) (C := RX11) (T := TX11) (N := 4) hx hb hts hiX11 hown hK hP 0 rfl rfl 0 (by decide) (hts (.fieldLink RX11 10 "SquareRig" "ship" "LSquareRig$Ship;") (by decide +kernel)) (fun _ h9 => h9) rfl dX11_heading_1 ?_
  refine va_getN (D := (dC, dI)) (ci := 13) (v := .int 0) (C := RX9) (T := TX9) (N := 17) hx hb hts hiX9 hown hK hP 1 rfl rfl 12 (by decide) (va_Nw.use rfl (hM.1 _ (List.mem_of_getElem? (i := 47) rfl))) (fun _ h9 => h9) rfl dX11_heading_4 ?_
  exact W.iret (v := 0) hx hb hr (fun t ht hW => ⟨⟨0, (), rfl, rfl, kB_end (w9 := []) (t9 := []) hP hK hD [] [] rfl (by decide) rfl rfl t ht hW⟩, hS.F ht⟩) hS.2.2 dX11_heading_7
abbrev wd_k_x_speed (z : Nat → Nat) (sh : Nat) (rg : Nat) (dk : Nat) (hd : Nat) (lg : Nat) (pl : Nat) (pr : Nat) (x : Nat) (tl : Nat) (tw : Nat) : va_W := [(x, .inr (15, [.ref sh, .ref tl, .ref tw, .int 0])), (sh, .inr (13, [.ref rg, .ref dk, .ref hd, .ref lg, .ref pl, .ref pr, .int 0, .int 0, .int 0, .int 0, .int 0, .int 0, .int 0, .int 0, .int 0, .int 0, .int 0]))]
set_option maxHeartbeats 4000000 in
set_option maxRecDepth 100000 in
theorem k_x_speed (l : Launch) (dC : Nat → ClassId) (dI : Nat → Nat → Nat) (z zK zV : Nat → Nat) (sh : Nat) (rg : Nat) (dk : Nat) (hd : Nat) (lg : Nat) (pl : Nat) (pr : Nat) (x : Nat) (tl : Nat) (tw : Nat) (sz : Nat)  : Met l yX11_speed wsX11_speed ({ frames := 0, cells := 0, slots := 0, locals := 0 }) (kP dC dI z zK zV [.ref x] sz (wd_k_x_speed z sh rg dk hd lg pl pr x tl tw) []) (va_Qi (fun (r : Int32) (_ : Unit) => 0 = r) (fun _ t => kB (dC, dI) (va_A (wd_k_x_speed z sh rg dk hd lg pl pr x tl tw) sz) [] [] t) (va_A (wd_k_x_speed z sh rg dk hd lg pl pr x tl tw) sz)) 0 0 (va_A (wd_k_x_speed z sh rg dk hd lg pl pr x tl tw) sz) := by
  refine Met.ofW (cc := cX11_speed) (maxL := 1) (ret := (some .int)) (by decide) rfl ?_
  intro p e s m args below meth c s₁ B hml hv
  obtain ⟨rfl, hsz, hP, hK, hD0, hM⟩ := hv
  have hx := B.exec
  have hb := B.bytes
  have hr := B.returns
  have hts := atoms_spec (ws := wsX11_speed) B.pre
  have hown : s.vm.findClass RX11 = some m.cls := findClass_of_methodNamed B.named
  have hlocks := B.notSynchronized
  have hiX11 : ∀ w ∈ u_ws RX11 TX11 4, w ∈ wsX11_speed := by decide +kernel
  have hiX9 : ∀ w ∈ u_ws RX9 TX9 17, w ∈ wsX11_speed := by decide +kernel
  subst hsz
  have hD := hD0.self (sz := s.heap.size)
  generalize hAe : va_A (wd_k_x_speed z sh rg dk hd lg pl pr x tl tw) s.heap.size = A at hD hM ⊢
  have hA : ∀ q : Nat, s.heap.size ≤ q → A q := fun q h => by rw [← hAe]; exact Or.inr h
  have hS : va_S A s.heap s.heap [] := va_S.rf
  have hP : va_P (dC, dI) vwCl [(x, .inr (15, [.ref sh, .ref tl, .ref tw, .int 0])), (sh, .inr (13, [.ref rg, .ref dk, .ref hd, .ref lg, .ref pl, .ref pr, .int 0, .int 0, .int 0, .int 0, .int 0, .int 0, .int 0, .int 0, .int 0, .int 0, .int 0]))] s.heap := hP
  have hD : va_D A [(x, .inr (15, [.ref sh, .ref tl, .ref tw, .int 0])), (sh, .inr (13, [.ref rg, .ref dk, .ref hd, .ref lg, .ref pl, .ref pr, .int 0, .int 0, .int 0, .int 0, .int 0, .int 0, .int 0, .int 0, .int 0, .int 0, .int 0]))] := hD
  have hl := lv_entry ([.ref x]) (n := 1) (Nat.le_of_ble_eq_true rfl)
  rw [lg_entry_eq]
  generalize (lg_sl ([.ref x]) ++ List.replicate (1 - (lg_sl ([.ref x])).length) Slot.unset).toArray = ls at hl ⊢
  have hl : lv_has ls 1 [(0, .ref x)] := hl
  refine lv_aload_n hx hb dX11_speed_0 rfl (lv_at hl 0 rfl) ?_
  refine va_get (D := (dC, dI)) (ci := 15) (v := .ref sh) (C := RX11) (T := TX11) (N := 4) hx hb hts hiX11 hown hK hP 0 rfl rfl 0 (by decide) (hts (.fieldLink RX11 10 "SquareRig" "ship" "LSquareRig$Ship;") (by decide +kernel)) (fun _ h9 => h9) rfl dX11_speed_1 ?_
  refine va_getN (D := (dC, dI)) (ci := 13) (v := .int 0) (C := RX9) (T := TX9) (N := 17) hx hb hts hiX9 hown hK hP 1 rfl rfl 13 (by decide) (va_Nw.use rfl (hM.1 _ (List.mem_of_getElem? (i := 48) rfl))) (fun _ h9 => h9) rfl dX11_speed_4 ?_
  exact W.iret (v := 0) hx hb hr (fun t ht hW => ⟨⟨0, (), rfl, rfl, kB_end (w9 := []) (t9 := []) hP hK hD [] [] rfl (by decide) rfl rfl t ht hW⟩, hS.F ht⟩) hS.2.2 dX11_speed_7
abbrev wd_k_x_east (z : Nat → Nat) (sh : Nat) (rg : Nat) (dk : Nat) (hd : Nat) (lg : Nat) (pl : Nat) (pr : Nat) (x : Nat) (tl : Nat) (tw : Nat) : va_W := [(x, .inr (15, [.ref sh, .ref tl, .ref tw, .int 0])), (sh, .inr (13, [.ref rg, .ref dk, .ref hd, .ref lg, .ref pl, .ref pr, .int 0, .int 0, .int 0, .int 0, .int 0, .int 0, .int 0, .int 0, .int 0, .int 0, .int 0])), (pl, .inr (10, [.long 0, .long 0]))]
set_option maxHeartbeats 4000000 in
set_option maxRecDepth 100000 in
theorem k_x_east (l : Launch) (dC : Nat → ClassId) (dI : Nat → Nat → Nat) (z zK zV : Nat → Nat) (sh : Nat) (rg : Nat) (dk : Nat) (hd : Nat) (lg : Nat) (pl : Nat) (pr : Nat) (x : Nat) (tl : Nat) (tw : Nat) (sz : Nat)  : Met l yX11_east wsX11_east ({ frames := 0, cells := 0, slots := 0, locals := 0 }) (kP dC dI z zK zV [.ref x] sz (wd_k_x_east z sh rg dk hd lg pl pr x tl tw) []) (va_Ql (fun (r : Int64) (_ : Unit) => 0 = r) (fun _ t => kB (dC, dI) (va_A (wd_k_x_east z sh rg dk hd lg pl pr x tl tw) sz) [] [] t) (va_A (wd_k_x_east z sh rg dk hd lg pl pr x tl tw) sz)) 0 0 (va_A (wd_k_x_east z sh rg dk hd lg pl pr x tl tw) sz) := by
  refine Met.ofW (cc := cX11_east) (maxL := 1) (ret := (some .long)) (by decide) rfl ?_
  intro p e s m args below meth c s₁ B hml hv
  obtain ⟨rfl, hsz, hP, hK, hD0, hM⟩ := hv
  have hx := B.exec
  have hb := B.bytes
  have hr := B.returns
  have hts := atoms_spec (ws := wsX11_east) B.pre
  have hown : s.vm.findClass RX11 = some m.cls := findClass_of_methodNamed B.named
  have hlocks := B.notSynchronized
  have hiX11 : ∀ w ∈ u_ws RX11 TX11 4, w ∈ wsX11_east := by decide +kernel
  have hiX9 : ∀ w ∈ u_ws RX9 TX9 17, w ∈ wsX11_east := by decide +kernel
  have hiX6 : ∀ w ∈ u_ws RX6 TX6 2, w ∈ wsX11_east := by decide +kernel
  subst hsz
  have hD := hD0.self (sz := s.heap.size)
  generalize hAe : va_A (wd_k_x_east z sh rg dk hd lg pl pr x tl tw) s.heap.size = A at hD hM ⊢
  have hA : ∀ q : Nat, s.heap.size ≤ q → A q := fun q h => by rw [← hAe]; exact Or.inr h
  have hS : va_S A s.heap s.heap [] := va_S.rf
  have hP : va_P (dC, dI) vwCl [(x, .inr (15, [.ref sh, .ref tl, .ref tw, .int 0])), (sh, .inr (13, [.ref rg, .ref dk, .ref hd, .ref lg, .ref pl, .ref pr, .int 0, .int 0, .int 0, .int 0, .int 0, .int 0, .int 0, .int 0, .int 0, .int 0, .int 0])), (pl, .inr (10, [.long 0, .long 0]))] s.heap := hP
  have hD : va_D A [(x, .inr (15, [.ref sh, .ref tl, .ref tw, .int 0])), (sh, .inr (13, [.ref rg, .ref dk, .ref hd, .ref lg, .ref pl, .ref pr, .int 0, .int 0, .int 0, .int 0, .int 0, .int 0, .int 0, .int 0, .int 0, .int 0, .int 0])), (pl, .inr (10, [.long 0, .long 0]))] := hD
  have hl := lv_entry ([.ref x]) (n := 1) (Nat.le_of_ble_eq_true rfl)
  rw [lg_entry_eq]
  generalize (lg_sl ([.ref x]) ++ List.replicate (1 - (lg_sl ([.ref x])).length) Slot.unset).toArray = ls at hl ⊢
  have hl : lv_has ls 1 [(0, .ref x)] := hl
  refine lv_aload_n hx hb dX11_east_0 rfl (lv_at hl 0 rfl) ?_
  refine va_get (D := (dC, dI)) (ci := 15) (v := .ref sh) (C := RX11) (T := TX11) (N := 4) hx hb hts hiX11 hown hK hP 0 rfl rfl 0 (by decide) (hts (.fieldLink RX11 10 "SquareRig" "ship" "LSquareRig$Ship;") (by decide +kernel)) (fun _ h9 => h9) rfl dX11_east_1 ?_
  refine va_getN (D := (dC, dI)) (ci := 13) (v := .ref pl) (C := RX9) (T := TX9) (N := 17) hx hb hts hiX9 hown hK hP 1 rfl rfl 4 (by decide) (va_Nw.use rfl (hM.1 _ (List.mem_of_getElem? (i := 40) rfl))) (fun _ h9 => h9) rfl dX11_east_4 ?_
  refine va_getN (D := (dC, dI)) (ci := 10) (v := .long 0) (C := RX6) (T := TX6) (N := 2) hx hb hts hiX6 hown hK hP 2 rfl rfl 0 (by decide) (va_Nw.use rfl (hM.1 _ (List.mem_of_getElem? (i := 33) rfl))) (fun _ h9 => h9) rfl dX11_east_7 ?_
  exact W.lret (v := 0) hx hb hr (fun t ht hW => ⟨⟨0, (), rfl, rfl, kB_end (w9 := []) (t9 := []) hP hK hD [] [] rfl (by decide) rfl rfl t ht hW⟩, hS.F ht⟩) hS.2.2 dX11_east_10
abbrev wd_k_x_north (z : Nat → Nat) (sh : Nat) (rg : Nat) (dk : Nat) (hd : Nat) (lg : Nat) (pl : Nat) (pr : Nat) (x : Nat) (tl : Nat) (tw : Nat) : va_W := [(x, .inr (15, [.ref sh, .ref tl, .ref tw, .int 0])), (sh, .inr (13, [.ref rg, .ref dk, .ref hd, .ref lg, .ref pl, .ref pr, .int 0, .int 0, .int 0, .int 0, .int 0, .int 0, .int 0, .int 0, .int 0, .int 0, .int 0])), (pl, .inr (10, [.long 0, .long 0]))]
set_option maxHeartbeats 4000000 in
set_option maxRecDepth 100000 in
theorem k_x_north (l : Launch) (dC : Nat → ClassId) (dI : Nat → Nat → Nat) (z zK zV : Nat → Nat) (sh : Nat) (rg : Nat) (dk : Nat) (hd : Nat) (lg : Nat) (pl : Nat) (pr : Nat) (x : Nat) (tl : Nat) (tw : Nat) (sz : Nat)  : Met l yX11_north wsX11_north ({ frames := 0, cells := 0, slots := 0, locals := 0 }) (kP dC dI z zK zV [.ref x] sz (wd_k_x_north z sh rg dk hd lg pl pr x tl tw) []) (va_Ql (fun (r : Int64) (_ : Unit) => 0 = r) (fun _ t => kB (dC, dI) (va_A (wd_k_x_north z sh rg dk hd lg pl pr x tl tw) sz) [] [] t) (va_A (wd_k_x_north z sh rg dk hd lg pl pr x tl tw) sz)) 0 0 (va_A (wd_k_x_north z sh rg dk hd lg pl pr x tl tw) sz) := by
  refine Met.ofW (cc := cX11_north) (maxL := 1) (ret := (some .long)) (by decide) rfl ?_
  intro p e s m args below meth c s₁ B hml hv
  obtain ⟨rfl, hsz, hP, hK, hD0, hM⟩ := hv
  have hx := B.exec
  have hb := B.bytes
  have hr := B.returns
  have hts := atoms_spec (ws := wsX11_north) B.pre
  have hown : s.vm.findClass RX11 = some m.cls := findClass_of_methodNamed B.named
  have hlocks := B.notSynchronized
  have hiX11 : ∀ w ∈ u_ws RX11 TX11 4, w ∈ wsX11_north := by decide +kernel
  have hiX9 : ∀ w ∈ u_ws RX9 TX9 17, w ∈ wsX11_north := by decide +kernel
  have hiX6 : ∀ w ∈ u_ws RX6 TX6 2, w ∈ wsX11_north := by decide +kernel
  subst hsz
  have hD := hD0.self (sz := s.heap.size)
  generalize hAe : va_A (wd_k_x_north z sh rg dk hd lg pl pr x tl tw) s.heap.size = A at hD hM ⊢
  have hA : ∀ q : Nat, s.heap.size ≤ q → A q := fun q h => by rw [← hAe]; exact Or.inr h
  have hS : va_S A s.heap s.heap [] := va_S.rf
  have hP : va_P (dC, dI) vwCl [(x, .inr (15, [.ref sh, .ref tl, .ref tw, .int 0])), (sh, .inr (13, [.ref rg, .ref dk, .ref hd, .ref lg, .ref pl, .ref pr, .int 0, .int 0, .int 0, .int 0, .int 0, .int 0, .int 0, .int 0, .int 0, .int 0, .int 0])), (pl, .inr (10, [.long 0, .long 0]))] s.heap := hP
  have hD : va_D A [(x, .inr (15, [.ref sh, .ref tl, .ref tw, .int 0])), (sh, .inr (13, [.ref rg, .ref dk, .ref hd, .ref lg, .ref pl, .ref pr, .int 0, .int 0, .int 0, .int 0, .int 0, .int 0, .int 0, .int 0, .int 0, .int 0, .int 0])), (pl, .inr (10, [.long 0, .long 0]))] := hD
  have hl := lv_entry ([.ref x]) (n := 1) (Nat.le_of_ble_eq_true rfl)
  rw [lg_entry_eq]
  generalize (lg_sl ([.ref x]) ++ List.replicate (1 - (lg_sl ([.ref x])).length) Slot.unset).toArray = ls at hl ⊢
  have hl : lv_has ls 1 [(0, .ref x)] := hl
  refine lv_aload_n hx hb dX11_north_0 rfl (lv_at hl 0 rfl) ?_
  refine va_get (D := (dC, dI)) (ci := 15) (v := .ref sh) (C := RX11) (T := TX11) (N := 4) hx hb hts hiX11 hown hK hP 0 rfl rfl 0 (by decide) (hts (.fieldLink RX11 10 "SquareRig" "ship" "LSquareRig$Ship;") (by decide +kernel)) (fun _ h9 => h9) rfl dX11_north_1 ?_
  refine va_getN (D := (dC, dI)) (ci := 13) (v := .ref pl) (C := RX9) (T := TX9) (N := 17) hx hb hts hiX9 hown hK hP 1 rfl rfl 4 (by decide) (va_Nw.use rfl (hM.1 _ (List.mem_of_getElem? (i := 40) rfl))) (fun _ h9 => h9) rfl dX11_north_4 ?_
  refine va_getN (D := (dC, dI)) (ci := 10) (v := .long 0) (C := RX6) (T := TX6) (N := 2) hx hb hts hiX6 hown hK hP 2 rfl rfl 1 (by decide) (va_Nw.use rfl (hM.1 _ (List.mem_of_getElem? (i := 35) rfl))) (fun _ h9 => h9) rfl dX11_north_7 ?_
  exact W.lret (v := 0) hx hb hr (fun t ht hW => ⟨⟨0, (), rfl, rfl, kB_end (w9 := []) (t9 := []) hP hK hD [] [] rfl (by decide) rfl rfl t ht hW⟩, hS.F ht⟩) hS.2.2 dX11_north_10
abbrev wd_k_x_off (z : Nat → Nat) (sh : Nat) (rg : Nat) (dk : Nat) (hd : Nat) (lg : Nat) (pl : Nat) (pr : Nat) (x : Nat) (tl : Nat) (tw : Nat) : va_W := [(x, .inr (15, [.ref sh, .ref tl, .ref tw, .int 0])), (sh, .inr (13, [.ref rg, .ref dk, .ref hd, .ref lg, .ref pl, .ref pr, .int 0, .int 0, .int 0, .int 0, .int 0, .int 0, .int 0, .int 0, .int 0, .int 0, .int 0]))]
set_option maxHeartbeats 4000000 in
set_option maxRecDepth 100000 in
theorem k_x_off (l : Launch) (dC : Nat → ClassId) (dI : Nat → Nat → Nat) (z zK zV : Nat → Nat) (sh : Nat) (rg : Nat) (dk : Nat) (hd : Nat) (lg : Nat) (pl : Nat) (pr : Nat) (x : Nat) (tl : Nat) (tw : Nat) (sz : Nat)  : Met l yX11_off wsX11_off ({ frames := 1, cells := 0, slots := 0, locals := 21 }) (kP dC dI z zK zV [.ref x] sz (wd_k_x_off z sh rg dk hd lg pl pr x tl tw) []) (va_Qi (fun (r : Int32) (_ : Unit) => 0 = r) (fun _ t => kB (dC, dI) (va_A (wd_k_x_off z sh rg dk hd lg pl pr x tl tw) sz) [] [] t) (va_A (wd_k_x_off z sh rg dk hd lg pl pr x tl tw) sz)) 0 0 (va_A (wd_k_x_off z sh rg dk hd lg pl pr x tl tw) sz) := by
  refine Met.ofW (cc := cX11_off) (maxL := 1) (ret := (some .int)) (by decide) rfl ?_
  intro p e s m args below meth c s₁ B hml hv
  obtain ⟨rfl, hsz, hP, hK, hD0, hM⟩ := hv
  have hx := B.exec
  have hb := B.bytes
  have hr := B.returns
  have hts := atoms_spec (ws := wsX11_off) B.pre
  have hown : s.vm.findClass RX11 = some m.cls := findClass_of_methodNamed B.named
  have hlocks := B.notSynchronized
  have hiX11 : ∀ w ∈ u_ws RX11 TX11 4, w ∈ wsX11_off := by decide +kernel
  subst hsz
  have hD := hD0.self (sz := s.heap.size)
  generalize hAe : va_A (wd_k_x_off z sh rg dk hd lg pl pr x tl tw) s.heap.size = A at hD hM ⊢
  have hA : ∀ q : Nat, s.heap.size ≤ q → A q := fun q h => by rw [← hAe]; exact Or.inr h
  have hS : va_S A s.heap s.heap [] := va_S.rf
  have hP : va_P (dC, dI) vwCl [(x, .inr (15, [.ref sh, .ref tl, .ref tw, .int 0])), (sh, .inr (13, [.ref rg, .ref dk, .ref hd, .ref lg, .ref pl, .ref pr, .int 0, .int 0, .int 0, .int 0, .int 0, .int 0, .int 0, .int 0, .int 0, .int 0, .int 0]))] s.heap := hP
  have hD : va_D A [(x, .inr (15, [.ref sh, .ref tl, .ref tw, .int 0])), (sh, .inr (13, [.ref rg, .ref dk, .ref hd, .ref lg, .ref pl, .ref pr, .int 0, .int 0, .int 0, .int 0, .int 0, .int 0, .int 0, .int 0, .int 0, .int 0, .int 0]))] := hD
  have hl := lv_entry ([.ref x]) (n := 1) (Nat.le_of_ble_eq_true rfl)
  rw [lg_entry_eq]
  generalize (lg_sl ([.ref x]) ++ List.replicate (1 - (lg_sl ([.ref x])).length) Slot.unset).toArray = ls at hl ⊢
  have hl : lv_has ls 1 [(0, .ref x)] := hl
  refine lv_aload_n hx hb dX11_off_0 rfl (lv_at hl 0 rfl) ?_
  refine va_get (D := (dC, dI)) (ci := 15) (v := .ref sh) (C := RX11) (T := TX11) (N := 4) hx hb hts hiX11 hown hK hP 0 rfl rfl 0 (by decide) (hts (.fieldLink RX11 10 "SquareRig" "ship" "LSquareRig$Ship;") (by decide +kernel)) (fun _ h9 => h9) rfl dX11_off_1 ?_
  have hPc := hP.sub (ws' := [(sh, .inr (13, [.ref rg, .ref dk, .ref hd, .ref lg, .ref pl, .ref pr, .int 0, .int 0, .int 0, .int 0, .int 0, .int 0, .int 0, .int 0, .int 0, .int 0, .int 0]))]) [1] rfl
  have hDc := hD.sub (ws' := [(sh, .inr (13, [.ref rg, .ref dk, .ref hd, .ref lg, .ref pl, .ref pr, .int 0, .int 0, .int 0, .int 0, .int 0, .int 0, .int 0, .int 0, .int 0, .int 0, .int 0]))]) [1] (by decide) rfl
  have hKc := hK.sub (tys' := []) [] rfl
  have hFc := va_free (wc := [(sh, .inr (13, [.ref rg, .ref dk, .ref hd, .ref lg, .ref pl, .ref pr, .int 0, .int 0, .int 0, .int 0, .int 0, .int 0, .int 0, .int 0, .int 0, .int 0, .int 0]))]) hD hS hA [1] rfl
  refine va_calli (va_runV (As := []) (rest := []) ⟨hx, hb, hml, hown, hts⟩ (k_offBow l dC dI z zK zV sh rg dk hd lg pl pr 0 0 s.heap.size) (cwV 0 hts gX11_off_X9_offBow rfl rfl rfl (by decide +kernel) ⟨Nat.le_of_ble_eq_true rfl, Nat.le_of_ble_eq_true rfl⟩) ⟨kP_blind, va_recv hKc hPc (ci := 13) (q0 := 0) rfl rfl, kP_go hPc hKc hDc hFc hM hS⟩ rfl rfl hl.1 rfl (lv_room (Nat.le_of_ble_eq_true rfl)) dX11_off_4 ⟨Nat.le_of_ble_eq_true rfl, Nat.le_of_ble_eq_true rfl⟩) hS (fun q _ h => hFc q h) hFc (fun r1 u t H1 locs ht hvm hw hB hz1 hk1 hS => ?_)
  obtain ⟨hP, hD, hK⟩ := kJ (wr := [(x, .inr (15, [.ref sh, .ref tl, .ref tw, .int 0]))]) (w1 := [(sh, .inr (13, [.ref rg, .ref dk, .ref hd, .ref lg, .ref pl, .ref pr, .int 0, .int 0, .int 0, .int 0, .int 0, .int 0, .int 0, .int 0, .int 0, .int 0, .int 0]))]) (t1 := []) hP hD hK [1] [0] rfl rfl (by decide) (by decide) hk1 hFc ht hvm hB
  generalize H1 = H at hP hS ⊢
  have hP : va_P (dC, dI) vwCl [(x, .inr (15, [.ref sh, .ref tl, .ref tw, .int 0])), (sh, .inr (13, [.ref rg, .ref dk, .ref hd, .ref lg, .ref pl, .ref pr, .int 0, .int 0, .int 0, .int 0, .int 0, .int 0, .int 0, .int 0, .int 0, .int 0, .int 0]))] H := hP
  have hD : va_D A [(x, .inr (15, [.ref sh, .ref tl, .ref tw, .int 0])), (sh, .inr (13, [.ref rg, .ref dk, .ref hd, .ref lg, .ref pl, .ref pr, .int 0, .int 0, .int 0, .int 0, .int 0, .int 0, .int 0, .int 0, .int 0, .int 0, .int 0]))] := hD
  have hK : va_K (dC, dI) vwCl [] s := hK
  obtain rfl : 0 = r1 := hw
  exact W.iret (v := 0) hx hb hr (fun t ht hW => ⟨⟨0, (), rfl, rfl, kB_end (w9 := []) (t9 := []) hP hK hD [] [] rfl (by decide) rfl rfl t ht hW⟩, hS.F ht⟩) hS.2.2 dX11_off_7
abbrev wd_k_x_reckonedEast (z : Nat → Nat) (sh : Nat) (rg : Nat) (dk : Nat) (hd : Nat) (lg : Nat) (pl : Nat) (pr : Nat) (x : Nat) (tl : Nat) (tw : Nat) : va_W := [(x, .inr (15, [.ref sh, .ref tl, .ref tw, .int 0])), (sh, .inr (13, [.ref rg, .ref dk, .ref hd, .ref lg, .ref pl, .ref pr, .int 0, .int 0, .int 0, .int 0, .int 0, .int 0, .int 0, .int 0, .int 0, .int 0, .int 0])), (pr, .inr (10, [.long 0, .long 0]))]
set_option maxHeartbeats 4000000 in
set_option maxRecDepth 100000 in
theorem k_x_reckonedEast (l : Launch) (dC : Nat → ClassId) (dI : Nat → Nat → Nat) (z zK zV : Nat → Nat) (sh : Nat) (rg : Nat) (dk : Nat) (hd : Nat) (lg : Nat) (pl : Nat) (pr : Nat) (x : Nat) (tl : Nat) (tw : Nat) (sz : Nat)  : Met l yX11_reckonedEast wsX11_reckonedEast ({ frames := 0, cells := 0, slots := 0, locals := 0 }) (kP dC dI z zK zV [.ref x] sz (wd_k_x_reckonedEast z sh rg dk hd lg pl pr x tl tw) []) (va_Ql (fun (r : Int64) (_ : Unit) => 0 = r) (fun _ t => kB (dC, dI) (va_A (wd_k_x_reckonedEast z sh rg dk hd lg pl pr x tl tw) sz) [] [] t) (va_A (wd_k_x_reckonedEast z sh rg dk hd lg pl pr x tl tw) sz)) 0 0 (va_A (wd_k_x_reckonedEast z sh rg dk hd lg pl pr x tl tw) sz) := by
  refine Met.ofW (cc := cX11_reckonedEast) (maxL := 1) (ret := (some .long)) (by decide) rfl ?_
  intro p e s m args below meth c s₁ B hml hv
  obtain ⟨rfl, hsz, hP, hK, hD0, hM⟩ := hv
  have hx := B.exec
  have hb := B.bytes
  have hr := B.returns
  have hts := atoms_spec (ws := wsX11_reckonedEast) B.pre
  have hown : s.vm.findClass RX11 = some m.cls := findClass_of_methodNamed B.named
  have hlocks := B.notSynchronized
  have hiX11 : ∀ w ∈ u_ws RX11 TX11 4, w ∈ wsX11_reckonedEast := by decide +kernel
  have hiX9 : ∀ w ∈ u_ws RX9 TX9 17, w ∈ wsX11_reckonedEast := by decide +kernel
  have hiX6 : ∀ w ∈ u_ws RX6 TX6 2, w ∈ wsX11_reckonedEast := by decide +kernel
  subst hsz
  have hD := hD0.self (sz := s.heap.size)
  generalize hAe : va_A (wd_k_x_reckonedEast z sh rg dk hd lg pl pr x tl tw) s.heap.size = A at hD hM ⊢
  have hA : ∀ q : Nat, s.heap.size ≤ q → A q := fun q h => by rw [← hAe]; exact Or.inr h
  have hS : va_S A s.heap s.heap [] := va_S.rf
  have hP : va_P (dC, dI) vwCl [(x, .inr (15, [.ref sh, .ref tl, .ref tw, .int 0])), (sh, .inr (13, [.ref rg, .ref dk, .ref hd, .ref lg, .ref pl, .ref pr, .int 0, .int 0, .int 0, .int 0, .int 0, .int 0, .int 0, .int 0, .int 0, .int 0, .int 0])), (pr, .inr (10, [.long 0, .long 0]))] s.heap := hP
  have hD : va_D A [(x, .inr (15, [.ref sh, .ref tl, .ref tw, .int 0])), (sh, .inr (13, [.ref rg, .ref dk, .ref hd, .ref lg, .ref pl, .ref pr, .int 0, .int 0, .int 0, .int 0, .int 0, .int 0, .int 0, .int 0, .int 0, .int 0, .int 0])), (pr, .inr (10, [.long 0, .long 0]))] := hD
  have hl := lv_entry ([.ref x]) (n := 1) (Nat.le_of_ble_eq_true rfl)
  rw [lg_entry_eq]
  generalize (lg_sl ([.ref x]) ++ List.replicate (1 - (lg_sl ([.ref x])).length) Slot.unset).toArray = ls at hl ⊢
  have hl : lv_has ls 1 [(0, .ref x)] := hl
  refine lv_aload_n hx hb dX11_reckonedEast_0 rfl (lv_at hl 0 rfl) ?_
  refine va_get (D := (dC, dI)) (ci := 15) (v := .ref sh) (C := RX11) (T := TX11) (N := 4) hx hb hts hiX11 hown hK hP 0 rfl rfl 0 (by decide) (hts (.fieldLink RX11 10 "SquareRig" "ship" "LSquareRig$Ship;") (by decide +kernel)) (fun _ h9 => h9) rfl dX11_reckonedEast_1 ?_
  refine va_getN (D := (dC, dI)) (ci := 13) (v := .ref pr) (C := RX9) (T := TX9) (N := 17) hx hb hts hiX9 hown hK hP 1 rfl rfl 5 (by decide) (va_Nw.use rfl (hM.1 _ (List.mem_of_getElem? (i := 41) rfl))) (fun _ h9 => h9) rfl dX11_reckonedEast_4 ?_
  refine va_getN (D := (dC, dI)) (ci := 10) (v := .long 0) (C := RX6) (T := TX6) (N := 2) hx hb hts hiX6 hown hK hP 2 rfl rfl 0 (by decide) (va_Nw.use rfl (hM.1 _ (List.mem_of_getElem? (i := 33) rfl))) (fun _ h9 => h9) rfl dX11_reckonedEast_7 ?_
  exact W.lret (v := 0) hx hb hr (fun t ht hW => ⟨⟨0, (), rfl, rfl, kB_end (w9 := []) (t9 := []) hP hK hD [] [] rfl (by decide) rfl rfl t ht hW⟩, hS.F ht⟩) hS.2.2 dX11_reckonedEast_10
abbrev wd_k_x_reckonedNorth (z : Nat → Nat) (sh : Nat) (rg : Nat) (dk : Nat) (hd : Nat) (lg : Nat) (pl : Nat) (pr : Nat) (x : Nat) (tl : Nat) (tw : Nat) : va_W := [(x, .inr (15, [.ref sh, .ref tl, .ref tw, .int 0])), (sh, .inr (13, [.ref rg, .ref dk, .ref hd, .ref lg, .ref pl, .ref pr, .int 0, .int 0, .int 0, .int 0, .int 0, .int 0, .int 0, .int 0, .int 0, .int 0, .int 0])), (pr, .inr (10, [.long 0, .long 0]))]
set_option maxHeartbeats 4000000 in
set_option maxRecDepth 100000 in
theorem k_x_reckonedNorth (l : Launch) (dC : Nat → ClassId) (dI : Nat → Nat → Nat) (z zK zV : Nat → Nat) (sh : Nat) (rg : Nat) (dk : Nat) (hd : Nat) (lg : Nat) (pl : Nat) (pr : Nat) (x : Nat) (tl : Nat) (tw : Nat) (sz : Nat)  : Met l yX11_reckonedNorth wsX11_reckonedNorth ({ frames := 0, cells := 0, slots := 0, locals := 0 }) (kP dC dI z zK zV [.ref x] sz (wd_k_x_reckonedNorth z sh rg dk hd lg pl pr x tl tw) []) (va_Ql (fun (r : Int64) (_ : Unit) => 0 = r) (fun _ t => kB (dC, dI) (va_A (wd_k_x_reckonedNorth z sh rg dk hd lg pl pr x tl tw) sz) [] [] t) (va_A (wd_k_x_reckonedNorth z sh rg dk hd lg pl pr x tl tw) sz)) 0 0 (va_A (wd_k_x_reckonedNorth z sh rg dk hd lg pl pr x tl tw) sz) := by
  refine Met.ofW (cc := cX11_reckonedNorth) (maxL := 1) (ret := (some .long)) (by decide) rfl ?_
  intro p e s m args below meth c s₁ B hml hv
  obtain ⟨rfl, hsz, hP, hK, hD0, hM⟩ := hv
  have hx := B.exec
  have hb := B.bytes
  have hr := B.returns
  have hts := atoms_spec (ws := wsX11_reckonedNorth) B.pre
  have hown : s.vm.findClass RX11 = some m.cls := findClass_of_methodNamed B.named
  have hlocks := B.notSynchronized
  have hiX11 : ∀ w ∈ u_ws RX11 TX11 4, w ∈ wsX11_reckonedNorth := by decide +kernel
  have hiX9 : ∀ w ∈ u_ws RX9 TX9 17, w ∈ wsX11_reckonedNorth := by decide +kernel
  have hiX6 : ∀ w ∈ u_ws RX6 TX6 2, w ∈ wsX11_reckonedNorth := by decide +kernel
  subst hsz
  have hD := hD0.self (sz := s.heap.size)
  generalize hAe : va_A (wd_k_x_reckonedNorth z sh rg dk hd lg pl pr x tl tw) s.heap.size = A at hD hM ⊢
  have hA : ∀ q : Nat, s.heap.size ≤ q → A q := fun q h => by rw [← hAe]; exact Or.inr h
  have hS : va_S A s.heap s.heap [] := va_S.rf
  have hP : va_P (dC, dI) vwCl [(x, .inr (15, [.ref sh, .ref tl, .ref tw, .int 0])), (sh, .inr (13, [.ref rg, .ref dk, .ref hd, .ref lg, .ref pl, .ref pr, .int 0, .int 0, .int 0, .int 0, .int 0, .int 0, .int 0, .int 0, .int 0, .int 0, .int 0])), (pr, .inr (10, [.long 0, .long 0]))] s.heap := hP
  have hD : va_D A [(x, .inr (15, [.ref sh, .ref tl, .ref tw, .int 0])), (sh, .inr (13, [.ref rg, .ref dk, .ref hd, .ref lg, .ref pl, .ref pr, .int 0, .int 0, .int 0, .int 0, .int 0, .int 0, .int 0, .int 0, .int 0, .int 0, .int 0])), (pr, .inr (10, [.long 0, .long 0]))] := hD
  have hl := lv_entry ([.ref x]) (n := 1) (Nat.le_of_ble_eq_true rfl)
  rw [lg_entry_eq]
  generalize (lg_sl ([.ref x]) ++ List.replicate (1 - (lg_sl ([.ref x])).length) Slot.unset).toArray = ls at hl ⊢
  have hl : lv_has ls 1 [(0, .ref x)] := hl
  refine lv_aload_n hx hb dX11_reckonedNorth_0 rfl (lv_at hl 0 rfl) ?_
  refine va_get (D := (dC, dI)) (ci := 15) (v := .ref sh) (C := RX11) (T := TX11) (N := 4) hx hb hts hiX11 hown hK hP 0 rfl rfl 0 (by decide) (hts (.fieldLink RX11 10 "SquareRig" "ship" "LSquareRig$Ship;") (by decide +kernel)) (fun _ h9 => h9) rfl dX11_reckonedNorth_1 ?_
  refine va_getN (D := (dC, dI)) (ci := 13) (v := .ref pr) (C := RX9) (T := TX9) (N := 17) hx hb hts hiX9 hown hK hP 1 rfl rfl 5 (by decide) (va_Nw.use rfl (hM.1 _ (List.mem_of_getElem? (i := 41) rfl))) (fun _ h9 => h9) rfl dX11_reckonedNorth_4 ?_
  refine va_getN (D := (dC, dI)) (ci := 10) (v := .long 0) (C := RX6) (T := TX6) (N := 2) hx hb hts hiX6 hown hK hP 2 rfl rfl 1 (by decide) (va_Nw.use rfl (hM.1 _ (List.mem_of_getElem? (i := 35) rfl))) (fun _ h9 => h9) rfl dX11_reckonedNorth_7 ?_
  exact W.lret (v := 0) hx hb hr (fun t ht hW => ⟨⟨0, (), rfl, rfl, kB_end (w9 := []) (t9 := []) hP hK hD [] [] rfl (by decide) rfl rfl t ht hW⟩, hS.F ht⟩) hS.2.2 dX11_reckonedNorth_10
abbrev wd_k_x_lines (z : Nat → Nat) (sh : Nat) (rg : Nat) (dk : Nat) (hd : Nat) (lg : Nat) (ll : Nat) (lm : Nat) (pl : Nat) (pr : Nat) (x : Nat) (tl : Nat) (tw : Nat) : va_W := [(x, .inr (15, [.ref sh, .ref tl, .ref tw, .int 0])), (sh, .inr (13, [.ref rg, .ref dk, .ref hd, .ref lg, .ref pl, .ref pr, .int 0, .int 0, .int 0, .int 0, .int 0, .int 0, .int 0, .int 0, .int 0, .int 0, .int 0])), (lg, .inr (7, [.ref ll, .ref lm, .int 0, .int 0]))]
set_option maxHeartbeats 4000000 in
set_option maxRecDepth 100000 in
theorem k_x_lines (l : Launch) (dC : Nat → ClassId) (dI : Nat → Nat → Nat) (z zK zV : Nat → Nat) (sh : Nat) (rg : Nat) (dk : Nat) (hd : Nat) (lg : Nat) (ll : Nat) (lm : Nat) (pl : Nat) (pr : Nat) (x : Nat) (tl : Nat) (tw : Nat) (sz : Nat)  : Met l yX11_lines wsX11_lines ({ frames := 0, cells := 0, slots := 0, locals := 0 }) (kP dC dI z zK zV [.ref x] sz (wd_k_x_lines z sh rg dk hd lg ll lm pl pr x tl tw) []) (va_Qi (fun (r : Int32) (_ : Unit) => 0 = r) (fun _ t => kB (dC, dI) (va_A (wd_k_x_lines z sh rg dk hd lg ll lm pl pr x tl tw) sz) [] [] t) (va_A (wd_k_x_lines z sh rg dk hd lg ll lm pl pr x tl tw) sz)) 0 0 (va_A (wd_k_x_lines z sh rg dk hd lg ll lm pl pr x tl tw) sz) := by
  refine Met.ofW (cc := cX11_lines) (maxL := 1) (ret := (some .int)) (by decide) rfl ?_
  intro p e s m args below meth c s₁ B hml hv
  obtain ⟨rfl, hsz, hP, hK, hD0, hM⟩ := hv
  have hx := B.exec
  have hb := B.bytes
  have hr := B.returns
  have hts := atoms_spec (ws := wsX11_lines) B.pre
  have hown : s.vm.findClass RX11 = some m.cls := findClass_of_methodNamed B.named
  have hlocks := B.notSynchronized
  have hiX11 : ∀ w ∈ u_ws RX11 TX11 4, w ∈ wsX11_lines := by decide +kernel
  have hiX9 : ∀ w ∈ u_ws RX9 TX9 17, w ∈ wsX11_lines := by decide +kernel
  have hiX3 : ∀ w ∈ u_ws RX3 TX3 4, w ∈ wsX11_lines := by decide +kernel
  subst hsz
  have hD := hD0.self (sz := s.heap.size)
  generalize hAe : va_A (wd_k_x_lines z sh rg dk hd lg ll lm pl pr x tl tw) s.heap.size = A at hD hM ⊢
  have hA : ∀ q : Nat, s.heap.size ≤ q → A q := fun q h => by rw [← hAe]; exact Or.inr h
  have hS : va_S A s.heap s.heap [] := va_S.rf
  have hP : va_P (dC, dI) vwCl [(x, .inr (15, [.ref sh, .ref tl, .ref tw, .int 0])), (sh, .inr (13, [.ref rg, .ref dk, .ref hd, .ref lg, .ref pl, .ref pr, .int 0, .int 0, .int 0, .int 0, .int 0, .int 0, .int 0, .int 0, .int 0, .int 0, .int 0])), (lg, .inr (7, [.ref ll, .ref lm, .int 0, .int 0]))] s.heap := hP
  have hD : va_D A [(x, .inr (15, [.ref sh, .ref tl, .ref tw, .int 0])), (sh, .inr (13, [.ref rg, .ref dk, .ref hd, .ref lg, .ref pl, .ref pr, .int 0, .int 0, .int 0, .int 0, .int 0, .int 0, .int 0, .int 0, .int 0, .int 0, .int 0])), (lg, .inr (7, [.ref ll, .ref lm, .int 0, .int 0]))] := hD
  have hl := lv_entry ([.ref x]) (n := 1) (Nat.le_of_ble_eq_true rfl)
  rw [lg_entry_eq]
  generalize (lg_sl ([.ref x]) ++ List.replicate (1 - (lg_sl ([.ref x])).length) Slot.unset).toArray = ls at hl ⊢
  have hl : lv_has ls 1 [(0, .ref x)] := hl
  refine lv_aload_n hx hb dX11_lines_0 rfl (lv_at hl 0 rfl) ?_
  refine va_get (D := (dC, dI)) (ci := 15) (v := .ref sh) (C := RX11) (T := TX11) (N := 4) hx hb hts hiX11 hown hK hP 0 rfl rfl 0 (by decide) (hts (.fieldLink RX11 10 "SquareRig" "ship" "LSquareRig$Ship;") (by decide +kernel)) (fun _ h9 => h9) rfl dX11_lines_1 ?_
  refine va_getN (D := (dC, dI)) (ci := 13) (v := .ref lg) (C := RX9) (T := TX9) (N := 17) hx hb hts hiX9 hown hK hP 1 rfl rfl 3 (by decide) (va_Nw.use rfl (hM.1 _ (List.mem_of_getElem? (i := 39) rfl))) (fun _ h9 => h9) rfl dX11_lines_4 ?_
  refine va_getN (D := (dC, dI)) (ci := 7) (v := .int 0) (C := RX3) (T := TX3) (N := 4) hx hb hts hiX3 hown hK hP 2 rfl rfl 3 (by decide) (va_Nw.use rfl (hM.1 _ (List.mem_of_getElem? (i := 31) rfl))) (fun _ h9 => h9) rfl dX11_lines_7 ?_
  exact W.iret (v := 0) hx hb hr (fun t ht hW => ⟨⟨0, (), rfl, rfl, kB_end (w9 := []) (t9 := []) hP hK hD [] [] rfl (by decide) rfl rfl t ht hW⟩, hS.F ht⟩) hS.2.2 dX11_lines_10
abbrev wd_k_x_best (z : Nat → Nat) (sh : Nat) (rg : Nat) (dk : Nat) (hd : Nat) (lg : Nat) (pl : Nat) (pr : Nat) (x : Nat) (tl : Nat) (tw : Nat) : va_W := [(x, .inr (15, [.ref sh, .ref tl, .ref tw, .int 0])), (sh, .inr (13, [.ref rg, .ref dk, .ref hd, .ref lg, .ref pl, .ref pr, .int 0, .int 0, .int 0, .int 0, .int 0, .int 0, .int 0, .int 0, .int 0, .int 0, .int 0]))]
set_option maxHeartbeats 4000000 in
set_option maxRecDepth 100000 in
theorem k_x_best (l : Launch) (dC : Nat → ClassId) (dI : Nat → Nat → Nat) (z zK zV : Nat → Nat) (sh : Nat) (rg : Nat) (dk : Nat) (hd : Nat) (lg : Nat) (pl : Nat) (pr : Nat) (x : Nat) (tl : Nat) (tw : Nat) (sz : Nat)  : Met l yX11_best wsX11_best ({ frames := 2, cells := 0, slots := 0, locals := 35 }) (kP dC dI z zK zV [.ref x] sz (wd_k_x_best z sh rg dk hd lg pl pr x tl tw) []) (va_Qi (fun (r : Int32) (_ : Unit) => 4 = r) (fun _ t => kB (dC, dI) (va_A (wd_k_x_best z sh rg dk hd lg pl pr x tl tw) sz) [] [] t) (va_A (wd_k_x_best z sh rg dk hd lg pl pr x tl tw) sz)) 0 0 (va_A (wd_k_x_best z sh rg dk hd lg pl pr x tl tw) sz) := by
  refine Met.ofW (cc := cX11_best) (maxL := 1) (ret := (some .int)) (by decide) rfl ?_
  intro p e s m args below meth c s₁ B hml hv
  obtain ⟨rfl, hsz, hP, hK, hD0, hM⟩ := hv
  have hx := B.exec
  have hb := B.bytes
  have hr := B.returns
  have hts := atoms_spec (ws := wsX11_best) B.pre
  have hown : s.vm.findClass RX11 = some m.cls := findClass_of_methodNamed B.named
  have hlocks := B.notSynchronized
  have hiX11 : ∀ w ∈ u_ws RX11 TX11 4, w ∈ wsX11_best := by decide +kernel
  subst hsz
  have hD := hD0.self (sz := s.heap.size)
  generalize hAe : va_A (wd_k_x_best z sh rg dk hd lg pl pr x tl tw) s.heap.size = A at hD hM ⊢
  have hA : ∀ q : Nat, s.heap.size ≤ q → A q := fun q h => by rw [← hAe]; exact Or.inr h
  have hS : va_S A s.heap s.heap [] := va_S.rf
  have hP : va_P (dC, dI) vwCl [(x, .inr (15, [.ref sh, .ref tl, .ref tw, .int 0])), (sh, .inr (13, [.ref rg, .ref dk, .ref hd, .ref lg, .ref pl, .ref pr, .int 0, .int 0, .int 0, .int 0, .int 0, .int 0, .int 0, .int 0, .int 0, .int 0, .int 0]))] s.heap := hP
  have hD : va_D A [(x, .inr (15, [.ref sh, .ref tl, .ref tw, .int 0])), (sh, .inr (13, [.ref rg, .ref dk, .ref hd, .ref lg, .ref pl, .ref pr, .int 0, .int 0, .int 0, .int 0, .int 0, .int 0, .int 0, .int 0, .int 0, .int 0, .int 0]))] := hD
  have hl := lv_entry ([.ref x]) (n := 1) (Nat.le_of_ble_eq_true rfl)
  rw [lg_entry_eq]
  generalize (lg_sl ([.ref x]) ++ List.replicate (1 - (lg_sl ([.ref x])).length) Slot.unset).toArray = ls at hl ⊢
  have hl : lv_has ls 1 [(0, .ref x)] := hl
  refine lv_aload_n hx hb dX11_best_0 rfl (lv_at hl 0 rfl) ?_
  refine va_get (D := (dC, dI)) (ci := 15) (v := .ref sh) (C := RX11) (T := TX11) (N := 4) hx hb hts hiX11 hown hK hP 0 rfl rfl 0 (by decide) (hts (.fieldLink RX11 10 "SquareRig" "ship" "LSquareRig$Ship;") (by decide +kernel)) (fun _ h9 => h9) rfl dX11_best_1 ?_
  have hPc := hP.sub (ws' := [(sh, .inr (13, [.ref rg, .ref dk, .ref hd, .ref lg, .ref pl, .ref pr, .int 0, .int 0, .int 0, .int 0, .int 0, .int 0, .int 0, .int 0, .int 0, .int 0, .int 0]))]) [1] rfl
  have hDc := hD.sub (ws' := [(sh, .inr (13, [.ref rg, .ref dk, .ref hd, .ref lg, .ref pl, .ref pr, .int 0, .int 0, .int 0, .int 0, .int 0, .int 0, .int 0, .int 0, .int 0, .int 0, .int 0]))]) [1] (by decide) rfl
  have hKc := hK.sub (tys' := []) [] rfl
  have hFc := va_free (wc := [(sh, .inr (13, [.ref rg, .ref dk, .ref hd, .ref lg, .ref pl, .ref pr, .int 0, .int 0, .int 0, .int 0, .int 0, .int 0, .int 0, .int 0, .int 0, .int 0, .int 0]))]) hD hS hA [1] rfl
  refine va_calli (va_runV (As := []) (rest := []) ⟨hx, hb, hml, hown, hts⟩ (k_offBow l dC dI z zK zV sh rg dk hd lg pl pr 0 0 s.heap.size) (cwV 0 hts gX11_best_X9_offBow rfl rfl rfl (by decide +kernel) ⟨Nat.le_of_ble_eq_true rfl, Nat.le_of_ble_eq_true rfl⟩) ⟨kP_blind, va_recv hKc hPc (ci := 13) (q0 := 0) rfl rfl, kP_go hPc hKc hDc hFc hM hS⟩ rfl rfl hl.1 rfl (lv_room (Nat.le_of_ble_eq_true rfl)) dX11_best_4 ⟨Nat.le_of_ble_eq_true rfl, Nat.le_of_ble_eq_true rfl⟩) hS (fun q _ h => hFc q h) hFc (fun r1 u t H1 locs ht hvm hw hB hz1 hk1 hS => ?_)
  obtain ⟨hP, hD, hK⟩ := kJ (wr := [(x, .inr (15, [.ref sh, .ref tl, .ref tw, .int 0]))]) (w1 := [(sh, .inr (13, [.ref rg, .ref dk, .ref hd, .ref lg, .ref pl, .ref pr, .int 0, .int 0, .int 0, .int 0, .int 0, .int 0, .int 0, .int 0, .int 0, .int 0, .int 0]))]) (t1 := []) hP hD hK [1] [0] rfl rfl (by decide) (by decide) hk1 hFc ht hvm hB
  generalize H1 = H at hP hS ⊢
  have hP : va_P (dC, dI) vwCl [(x, .inr (15, [.ref sh, .ref tl, .ref tw, .int 0])), (sh, .inr (13, [.ref rg, .ref dk, .ref hd, .ref lg, .ref pl, .ref pr, .int 0, .int 0, .int 0, .int 0, .int 0, .int 0, .int 0, .int 0, .int 0, .int 0, .int 0]))] H := hP
  have hD : va_D A [(x, .inr (15, [.ref sh, .ref tl, .ref tw, .int 0])), (sh, .inr (13, [.ref rg, .ref dk, .ref hd, .ref lg, .ref pl, .ref pr, .int 0, .int 0, .int 0, .int 0, .int 0, .int 0, .int 0, .int 0, .int 0, .int 0, .int 0]))] := hD
  have hK : va_K (dC, dI) vwCl [] s := hK
  obtain rfl : 0 = r1 := hw
  have hPc := hP.sub (ws' := []) [] rfl
  have hDc := hD.sub (ws' := []) [] (by decide) rfl
  have hKc := hK.sub (tys' := []) [] rfl
  have hFc := va_free (wc := []) hD hS hA [] rfl
  refine va_calli (va_runS (As := [.int 0]) (rest := []) ⟨hx, hb, hml, hown, hts⟩ (k_bestBrace0 l dC dI z zK zV  H.size) (va_cwS 1 hts gX11_best_X7_bestBrace rfl rfl rfl (by decide +kernel) ⟨Nat.le_of_ble_eq_true rfl, Nat.le_of_ble_eq_true rfl⟩) ⟨kP_blind, kP_go hPc hKc hDc hFc hM hS⟩ rfl rfl hl.1 rfl (lv_room (Nat.le_of_ble_eq_true rfl)) dX11_best_7 ⟨Nat.le_of_ble_eq_true rfl, Nat.le_of_ble_eq_true rfl⟩) hS (fun q _ h => hFc q h) hFc (fun r2 u t H1 locs ht hvm hw hB hz1 hk1 hS => ?_)
  obtain ⟨hP, hD, hK⟩ := kJ (wr := [(x, .inr (15, [.ref sh, .ref tl, .ref tw, .int 0])), (sh, .inr (13, [.ref rg, .ref dk, .ref hd, .ref lg, .ref pl, .ref pr, .int 0, .int 0, .int 0, .int 0, .int 0, .int 0, .int 0, .int 0, .int 0, .int 0, .int 0]))]) (w1 := []) (t1 := []) hP hD hK [] [0, 1] rfl rfl (by decide) (by decide) hk1 hFc ht hvm hB
  generalize H1 = H at hP hS ⊢
  have hP : va_P (dC, dI) vwCl [(x, .inr (15, [.ref sh, .ref tl, .ref tw, .int 0])), (sh, .inr (13, [.ref rg, .ref dk, .ref hd, .ref lg, .ref pl, .ref pr, .int 0, .int 0, .int 0, .int 0, .int 0, .int 0, .int 0, .int 0, .int 0, .int 0, .int 0]))] H := hP
  have hD : va_D A [(x, .inr (15, [.ref sh, .ref tl, .ref tw, .int 0])), (sh, .inr (13, [.ref rg, .ref dk, .ref hd, .ref lg, .ref pl, .ref pr, .int 0, .int 0, .int 0, .int 0, .int 0, .int 0, .int 0, .int 0, .int 0, .int 0, .int 0]))] := hD
  have hK : va_K (dC, dI) vwCl [] s := hK
  obtain rfl : 4 = r2 := hw
  exact W.iret (v := 4) hx hb hr (fun t ht hW => ⟨⟨4, (), rfl, rfl, kB_end (w9 := []) (t9 := []) hP hK hD [] [] rfl (by decide) rfl rfl t ht hW⟩, hS.F ht⟩) hS.2.2 dX11_best_10
abbrev wd_k_healthy (z : Nat → Nat) (w0 : Nat) : va_W := [(w0, .inr (14, [.int 0, .int 0]))]
set_option maxHeartbeats 4000000 in
set_option maxRecDepth 100000 in
theorem k_healthy (l : Launch) (dC : Nat → ClassId) (dI : Nat → Nat → Nat) (z zK zV : Nat → Nat) (w0 : Nat) (sz : Nat)  : Met l yX10_healthy wsX10_healthy ({ frames := 0, cells := 0, slots := 0, locals := 0 }) (kP dC dI z zK zV [.ref w0] sz (wd_k_healthy z w0) []) (va_Qi (fun (r : Int32) (_ : Unit) => 12 = r) (fun _ t => kB (dC, dI) (va_A (wd_k_healthy z w0) sz) [(w0, .inr (14, [.int 0, .int 0]))] [] t) (va_A (wd_k_healthy z w0) sz)) 0 0 (va_A (wd_k_healthy z w0) sz) := by
  refine Met.ofW (cc := cX10_healthy) (maxL := 1) (ret := (some .int)) (by decide) rfl ?_
  intro p e s m args below meth c s₁ B hml hv
  obtain ⟨rfl, hsz, hP, hK, hD0, hM⟩ := hv
  have hx := B.exec
  have hb := B.bytes
  have hr := B.returns
  have hts := atoms_spec (ws := wsX10_healthy) B.pre
  have hown : s.vm.findClass RX10 = some m.cls := findClass_of_methodNamed B.named
  have hlocks := B.notSynchronized
  have hiX10 : ∀ w ∈ u_ws RX10 TX10 2, w ∈ wsX10_healthy := by decide +kernel
  subst hsz
  have hD := hD0.self (sz := s.heap.size)
  generalize hAe : va_A (wd_k_healthy z w0) s.heap.size = A at hD hM ⊢
  have hA : ∀ q : Nat, s.heap.size ≤ q → A q := fun q h => by rw [← hAe]; exact Or.inr h
  have hS : va_S A s.heap s.heap [] := va_S.rf
  have hP : va_P (dC, dI) vwCl [(w0, .inr (14, [.int 0, .int 0]))] s.heap := hP
  have hD : va_D A [(w0, .inr (14, [.int 0, .int 0]))] := hD
  have hl := lv_entry ([.ref w0]) (n := 1) (Nat.le_of_ble_eq_true rfl)
  rw [lg_entry_eq]
  generalize (lg_sl ([.ref w0]) ++ List.replicate (1 - (lg_sl ([.ref w0])).length) Slot.unset).toArray = ls at hl ⊢
  have hl : lv_has ls 1 [(0, .ref w0)] := hl
  refine lv_bipush (v := 12) hx hb dX10_healthy_0 (by decide) ?_
  refine lv_aload_n hx hb dX10_healthy_2 rfl (lv_at hl 0 rfl) ?_
  refine va_get (D := (dC, dI)) (ci := 14) (v := .int 0) (C := RX10) (T := TX10) (N := 2) hx hb hts hiX10 hown hK hP 0 rfl rfl 1 (by decide) (hts (.fieldLink RX10 13 "SquareRig$Watch" "sick" "I") (by decide +kernel)) (fun _ h9 => h9) rfl dX10_healthy_3 ?_
  refine lv_isub hx hb dX10_healthy_6 ?_
  refine kc_i (y := 12) (by decide +kernel) ?_
  exact W.iret (v := 12) hx hb hr (fun t ht hW => ⟨⟨12, (), rfl, rfl, kB_end (w9 := [(w0, .inr (14, [.int 0, .int 0]))]) (t9 := []) hP hK hD [0] [] rfl (by decide) rfl rfl t ht hW⟩, hS.F ht⟩) hS.2.2 dX10_healthy_7
abbrev wd_k_freeHands (z : Nat → Nat) (dk : Nat) (w0 : Nat) (w1 : Nat) (ol : Nat) : va_W := [(dk, .inr (4, [.ref w0, .ref w1, .ref ol, .int 0, .int 0, .int 0, .int 0])), (w0, .inr (14, [.int 0, .int 0]))]
set_option maxHeartbeats 4000000 in
set_option maxRecDepth 100000 in
theorem k_freeHands (l : Launch) (dC : Nat → ClassId) (dI : Nat → Nat → Nat) (z zK zV : Nat → Nat) (dk : Nat) (w0 : Nat) (w1 : Nat) (ol : Nat) (sz : Nat)  : Met l yX0_freeHands wsX0_freeHands ({ frames := 1, cells := 0, slots := 0, locals := 21 }) (kP dC dI z zK zV [.ref dk] sz (wd_k_freeHands z dk w0 w1 ol) []) (va_Qi (fun (r : Int32) (_ : Unit) => 12 = r) (fun _ t => kB (dC, dI) (va_A (wd_k_freeHands z dk w0 w1 ol) sz) [(dk, .inr (4, [.ref w0, .ref w1, .ref ol, .int 0, .int 0, .int 0, .int 0])), (w0, .inr (14, [.int 0, .int 0]))] [] t) (va_A (wd_k_freeHands z dk w0 w1 ol) sz)) 0 0 (va_A (wd_k_freeHands z dk w0 w1 ol) sz) := by
  refine Met.ofW (cc := cX0_freeHands) (maxL := 3) (ret := (some .int)) (by decide) rfl ?_
  intro p e s m args below meth c s₁ B hml hv
  obtain ⟨rfl, hsz, hP, hK, hD0, hM⟩ := hv
  have hx := B.exec
  have hb := B.bytes
  have hr := B.returns
  have hts := atoms_spec (ws := wsX0_freeHands) B.pre
  have hown : s.vm.findClass RX0 = some m.cls := findClass_of_methodNamed B.named
  have hlocks := B.notSynchronized
  have hiX0 : ∀ w ∈ u_ws RX0 TX0 7, w ∈ wsX0_freeHands := by decide +kernel
  subst hsz
  have hD := hD0.self (sz := s.heap.size)
  generalize hAe : va_A (wd_k_freeHands z dk w0 w1 ol) s.heap.size = A at hD hM ⊢
  have hA : ∀ q : Nat, s.heap.size ≤ q → A q := fun q h => by rw [← hAe]; exact Or.inr h
  have hS : va_S A s.heap s.heap [] := va_S.rf
  have hP : va_P (dC, dI) vwCl [(dk, .inr (4, [.ref w0, .ref w1, .ref ol, .int 0, .int 0, .int 0, .int 0])), (w0, .inr (14, [.int 0, .int 0]))] s.heap := hP
  have hD : va_D A [(dk, .inr (4, [.ref w0, .ref w1, .ref ol, .int 0, .int 0, .int 0, .int 0])), (w0, .inr (14, [.int 0, .int 0]))] := hD
  have hl := lv_entry ([.ref dk]) (n := 3) (Nat.le_of_ble_eq_true rfl)
  rw [lg_entry_eq]
  generalize (lg_sl ([.ref dk]) ++ List.replicate (3 - (lg_sl ([.ref dk])).length) Slot.unset).toArray = ls at hl ⊢
  have hl : lv_has ls 3 [(0, .ref dk)] := hl
  refine lv_aload_n hx hb dX0_freeHands_0 rfl (lv_at hl 0 rfl) ?_
  refine lv_aload_n hx hb dX0_freeHands_1 rfl (lv_at hl 0 rfl) ?_
  refine va_get (D := (dC, dI)) (ci := 4) (v := .int 0) (C := RX0) (T := TX0) (N := 7) hx hb hts hiX0 hown hK hP 0 rfl rfl 3 (by decide) (hts (.fieldLink RX0 28 "SquareRig$Deck" "turn" "I") (by decide +kernel)) (fun _ h9 => h9) rfl dX0_freeHands_2 ?_
  have hPc := hP.sub (ws' := [(dk, .inr (4, [.ref w0, .ref w1, .ref ol, .int 0, .int 0, .int 0, .int 0]))]) [0] rfl
  have hDc := hD.sub (ws' := [(dk, .inr (4, [.ref w0, .ref w1, .ref ol, .int 0, .int 0, .int 0, .int 0]))]) [0] (by decide) rfl
  have hKc := hK.sub (tys' := []) [] rfl
  have hFc := va_free (wc := [(dk, .inr (4, [.ref w0, .ref w1, .ref ol, .int 0, .int 0, .int 0, .int 0]))]) hD hS hA [0] rfl
  refine va_callr (va_runV (As := [.int 0]) (rest := []) ⟨hx, hb, hml, hown, hts⟩ (k_watchOf0 l dC dI z zK zV dk w0 w1 ol s.heap.size) (cwV 1 hts gX0_freeHands_X0_watchOf rfl rfl rfl (by decide +kernel) ⟨Nat.le_of_ble_eq_true rfl, Nat.le_of_ble_eq_true rfl⟩) ⟨kP_blind, va_recv hKc hPc (ci := 4) (q0 := 0) rfl rfl, kP_go hPc hKc hDc hFc hM hS⟩ rfl rfl hl.1 rfl (lv_room (Nat.le_of_ble_eq_true rfl)) dX0_freeHands_5 ⟨Nat.le_of_ble_eq_true rfl, Nat.le_of_ble_eq_true rfl⟩) hS (fun q _ h => hFc q h) hFc (fun u ra1 t H1 locs ht hvm hw hB hz1 hk1 hS => ?_)
  obtain ⟨rfl, hB⟩ := hB
  obtain ⟨hP, hD, hK⟩ := kJ (wr := [(w0, .inr (14, [.int 0, .int 0]))]) (w1 := [(dk, .inr (4, [.ref w0, .ref w1, .ref ol, .int 0, .int 0, .int 0, .int 0]))]) (t1 := []) hP hD hK [0] [1] rfl rfl (by decide) (by decide) hk1 hFc ht hvm hB
  generalize H1 = H at hP hS ⊢
  have hP : va_P (dC, dI) vwCl [(w0, .inr (14, [.int 0, .int 0])), (dk, .inr (4, [.ref w0, .ref w1, .ref ol, .int 0, .int 0, .int 0, .int 0]))] H := hP
  have hD : va_D A [(w0, .inr (14, [.int 0, .int 0])), (dk, .inr (4, [.ref w0, .ref w1, .ref ol, .int 0, .int 0, .int 0, .int 0]))] := hD
  have hK : va_K (dC, dI) vwCl [] s := hK
  have hPc := hP.sub (ws' := [(w0, .inr (14, [.int 0, .int 0]))]) [0] rfl
  have hDc := hD.sub (ws' := [(w0, .inr (14, [.int 0, .int 0]))]) [0] (by decide) rfl
  have hKc := hK.sub (tys' := []) [] rfl
  have hFc := va_free (wc := [(w0, .inr (14, [.int 0, .int 0]))]) hD hS hA [0] rfl
  refine va_calli (va_runV (As := []) (rest := []) ⟨hx, hb, hml, hown, hts⟩ (k_healthy l dC dI z zK zV w0 H.size) (cwV 0 hts gX0_freeHands_X10_healthy rfl rfl rfl (by decide +kernel) ⟨Nat.le_of_ble_eq_true rfl, Nat.le_of_ble_eq_true rfl⟩) ⟨kP_blind, va_recv hKc hPc (ci := 14) (q0 := 0) rfl rfl, kP_go hPc hKc hDc hFc hM hS⟩ rfl rfl hl.1 rfl (lv_room (Nat.le_of_ble_eq_true rfl)) dX0_freeHands_8 ⟨Nat.le_of_ble_eq_true rfl, Nat.le_of_ble_eq_true rfl⟩) hS (fun q _ h => hFc q h) hFc (fun r2 u t H1 locs ht hvm hw hB hz1 hk1 hS => ?_)
  obtain ⟨hP, hD, hK⟩ := kJ (wr := [(dk, .inr (4, [.ref w0, .ref w1, .ref ol, .int 0, .int 0, .int 0, .int 0]))]) (w1 := [(w0, .inr (14, [.int 0, .int 0]))]) (t1 := []) hP hD hK [0] [1] rfl rfl (by decide) (by decide) hk1 hFc ht hvm hB
  generalize H1 = H at hP hS ⊢
  have hP : va_P (dC, dI) vwCl [(dk, .inr (4, [.ref w0, .ref w1, .ref ol, .int 0, .int 0, .int 0, .int 0])), (w0, .inr (14, [.int 0, .int 0]))] H := hP
  have hD : va_D A [(dk, .inr (4, [.ref w0, .ref w1, .ref ol, .int 0, .int 0, .int 0, .int 0])), (w0, .inr (14, [.int 0, .int 0]))] := hD
  have hK : va_K (dC, dI) vwCl [] s := hK
  obtain rfl : 12 = r2 := hw
  refine lv_istore_n (lv' := [(1, .int 12), (0, .ref dk)]) hx hb dX0_freeHands_11 rfl hl (by decide) rfl (fun ls hl => ?_)
  refine lv_aload_n hx hb dX0_freeHands_12 rfl (lv_at hl 1 rfl) ?_
  refine va_get (D := (dC, dI)) (ci := 4) (v := .int 0) (C := RX0) (T := TX0) (N := 7) hx hb hts hiX0 hown hK hP 0 rfl rfl 4 (by decide) (hts (.fieldLink RX0 32 "SquareRig$Deck" "allCalled" "Z") (by decide +kernel)) (fun _ h9 => h9) rfl dX0_freeHands_13 ?_
  refine lv_if_eq (tgt := 35) hx hb dX0_freeHands_16 (by decide) (fun _ => ?_) (fun c_ => absurd (by decide +kernel) c_)
  refine lv_iload_n hx hb dX0_freeHands_35 rfl (lv_at hl 0 rfl) ?_
  refine lv_aload_n hx hb dX0_freeHands_36 rfl (lv_at hl 1 rfl) ?_
  refine va_get (D := (dC, dI)) (ci := 4) (v := .int 0) (C := RX0) (T := TX0) (N := 7) hx hb hts hiX0 hown hK hP 0 rfl rfl 6 (by decide) (hts (.fieldLink RX0 39 "SquareRig$Deck" "handsAtWork" "I") (by decide +kernel)) (fun _ h9 => h9) rfl dX0_freeHands_37 ?_
  refine lv_isub hx hb dX0_freeHands_40 ?_
  refine kc_i (y := 12) (by decide +kernel) ?_
  refine lv_istore_n (lv' := [(2, .int 12), (1, .int 12), (0, .ref dk)]) hx hb dX0_freeHands_41 rfl hl (by decide) rfl (fun ls hl => ?_)
  refine lv_iload_n hx hb dX0_freeHands_42 rfl (lv_at hl 0 rfl) ?_
  refine lv_if_ge (tgt := 50) hx hb dX0_freeHands_43 (by decide) (fun _ => ?_) (fun c_ => absurd (by decide +kernel) c_)
  refine lv_iload_n hx hb dX0_freeHands_50 rfl (lv_at hl 0 rfl) ?_
  exact W.iret (v := 12) hx hb hr (fun t ht hW => ⟨⟨12, (), rfl, rfl, kB_end (w9 := [(dk, .inr (4, [.ref w0, .ref w1, .ref ol, .int 0, .int 0, .int 0, .int 0])), (w0, .inr (14, [.int 0, .int 0]))]) (t9 := []) hP hK hD [0, 1] [] rfl (by decide) rfl rfl t ht hW⟩, hS.F ht⟩) hS.2.2 dX0_freeHands_51
abbrev wd_k_x_free (z : Nat → Nat) (sh : Nat) (rg : Nat) (dk : Nat) (w0 : Nat) (w1 : Nat) (ol : Nat) (hd : Nat) (lg : Nat) (pl : Nat) (pr : Nat) (x : Nat) (tl : Nat) (tw : Nat) : va_W := [(x, .inr (15, [.ref sh, .ref tl, .ref tw, .int 0])), (sh, .inr (13, [.ref rg, .ref dk, .ref hd, .ref lg, .ref pl, .ref pr, .int 0, .int 0, .int 0, .int 0, .int 0, .int 0, .int 0, .int 0, .int 0, .int 0, .int 0])), (dk, .inr (4, [.ref w0, .ref w1, .ref ol, .int 0, .int 0, .int 0, .int 0])), (w0, .inr (14, [.int 0, .int 0]))]
set_option maxHeartbeats 4000000 in
set_option maxRecDepth 100000 in
theorem k_x_free (l : Launch) (dC : Nat → ClassId) (dI : Nat → Nat → Nat) (z zK zV : Nat → Nat) (sh : Nat) (rg : Nat) (dk : Nat) (w0 : Nat) (w1 : Nat) (ol : Nat) (hd : Nat) (lg : Nat) (pl : Nat) (pr : Nat) (x : Nat) (tl : Nat) (tw : Nat) (sz : Nat)  : Met l yX11_free wsX11_free ({ frames := 2, cells := 0, slots := 0, locals := 43 }) (kP dC dI z zK zV [.ref x] sz (wd_k_x_free z sh rg dk w0 w1 ol hd lg pl pr x tl tw) []) (va_Qi (fun (r : Int32) (_ : Unit) => 12 = r) (fun _ t => kB (dC, dI) (va_A (wd_k_x_free z sh rg dk w0 w1 ol hd lg pl pr x tl tw) sz) [] [] t) (va_A (wd_k_x_free z sh rg dk w0 w1 ol hd lg pl pr x tl tw) sz)) 0 0 (va_A (wd_k_x_free z sh rg dk w0 w1 ol hd lg pl pr x tl tw) sz) := by
  refine Met.ofW (cc := cX11_free) (maxL := 1) (ret := (some .int)) (by decide) rfl ?_
  intro p e s m args below meth c s₁ B hml hv
  obtain ⟨rfl, hsz, hP, hK, hD0, hM⟩ := hv
  have hx := B.exec
  have hb := B.bytes
  have hr := B.returns
  have hts := atoms_spec (ws := wsX11_free) B.pre
  have hown : s.vm.findClass RX11 = some m.cls := findClass_of_methodNamed B.named
  have hlocks := B.notSynchronized
  have hiX11 : ∀ w ∈ u_ws RX11 TX11 4, w ∈ wsX11_free := by decide +kernel
  have hiX9 : ∀ w ∈ u_ws RX9 TX9 17, w ∈ wsX11_free := by decide +kernel
  subst hsz
  have hD := hD0.self (sz := s.heap.size)
  generalize hAe : va_A (wd_k_x_free z sh rg dk w0 w1 ol hd lg pl pr x tl tw) s.heap.size = A at hD hM ⊢
  have hA : ∀ q : Nat, s.heap.size ≤ q → A q := fun q h => by rw [← hAe]; exact Or.inr h
  have hS : va_S A s.heap s.heap [] := va_S.rf
  have hP : va_P (dC, dI) vwCl [(x, .inr (15, [.ref sh, .ref tl, .ref tw, .int 0])), (sh, .inr (13, [.ref rg, .ref dk, .ref hd, .ref lg, .ref pl, .ref pr, .int 0, .int 0, .int 0, .int 0, .int 0, .int 0, .int 0, .int 0, .int 0, .int 0, .int 0])), (dk, .inr (4, [.ref w0, .ref w1, .ref ol, .int 0, .int 0, .int 0, .int 0])), (w0, .inr (14, [.int 0, .int 0]))] s.heap := hP
  have hD : va_D A [(x, .inr (15, [.ref sh, .ref tl, .ref tw, .int 0])), (sh, .inr (13, [.ref rg, .ref dk, .ref hd, .ref lg, .ref pl, .ref pr, .int 0, .int 0, .int 0, .int 0, .int 0, .int 0, .int 0, .int 0, .int 0, .int 0, .int 0])), (dk, .inr (4, [.ref w0, .ref w1, .ref ol, .int 0, .int 0, .int 0, .int 0])), (w0, .inr (14, [.int 0, .int 0]))] := hD
  have hl := lv_entry ([.ref x]) (n := 1) (Nat.le_of_ble_eq_true rfl)
  rw [lg_entry_eq]
  generalize (lg_sl ([.ref x]) ++ List.replicate (1 - (lg_sl ([.ref x])).length) Slot.unset).toArray = ls at hl ⊢
  have hl : lv_has ls 1 [(0, .ref x)] := hl
  refine lv_aload_n hx hb dX11_free_0 rfl (lv_at hl 0 rfl) ?_
  refine va_get (D := (dC, dI)) (ci := 15) (v := .ref sh) (C := RX11) (T := TX11) (N := 4) hx hb hts hiX11 hown hK hP 0 rfl rfl 0 (by decide) (hts (.fieldLink RX11 10 "SquareRig" "ship" "LSquareRig$Ship;") (by decide +kernel)) (fun _ h9 => h9) rfl dX11_free_1 ?_
  refine va_getN (D := (dC, dI)) (ci := 13) (v := .ref dk) (C := RX9) (T := TX9) (N := 17) hx hb hts hiX9 hown hK hP 1 rfl rfl 1 (by decide) (va_Nw.use rfl (hM.1 _ (List.mem_of_getElem? (i := 37) rfl))) (fun _ h9 => h9) rfl dX11_free_4 ?_
  have hPc := hP.sub (ws' := [(dk, .inr (4, [.ref w0, .ref w1, .ref ol, .int 0, .int 0, .int 0, .int 0])), (w0, .inr (14, [.int 0, .int 0]))]) [2, 3] rfl
  have hDc := hD.sub (ws' := [(dk, .inr (4, [.ref w0, .ref w1, .ref ol, .int 0, .int 0, .int 0, .int 0])), (w0, .inr (14, [.int 0, .int 0]))]) [2, 3] (by decide) rfl
  have hKc := hK.sub (tys' := []) [] rfl
  have hFc := va_free (wc := [(dk, .inr (4, [.ref w0, .ref w1, .ref ol, .int 0, .int 0, .int 0, .int 0])), (w0, .inr (14, [.int 0, .int 0]))]) hD hS hA [2, 3] rfl
  refine va_calli (va_runV (As := []) (rest := []) ⟨hx, hb, hml, hown, hts⟩ (k_freeHands l dC dI z zK zV dk w0 w1 ol s.heap.size) (cwV 0 hts gX11_free_X0_freeHands rfl rfl rfl (by decide +kernel) ⟨Nat.le_of_ble_eq_true rfl, Nat.le_of_ble_eq_true rfl⟩) ⟨kP_blind, va_recv hKc hPc (ci := 4) (q0 := 0) rfl rfl, kP_go hPc hKc hDc hFc hM hS⟩ rfl rfl hl.1 rfl (lv_room (Nat.le_of_ble_eq_true rfl)) dX11_free_7 ⟨Nat.le_of_ble_eq_true rfl, Nat.le_of_ble_eq_true rfl⟩) hS (fun q _ h => hFc q h) hFc (fun r1 u t H1 locs ht hvm hw hB hz1 hk1 hS => ?_)
  obtain ⟨hP, hD, hK⟩ := kJ (wr := [(x, .inr (15, [.ref sh, .ref tl, .ref tw, .int 0])), (sh, .inr (13, [.ref rg, .ref dk, .ref hd, .ref lg, .ref pl, .ref pr, .int 0, .int 0, .int 0, .int 0, .int 0, .int 0, .int 0, .int 0, .int 0, .int 0, .int 0]))]) (w1 := [(dk, .inr (4, [.ref w0, .ref w1, .ref ol, .int 0, .int 0, .int 0, .int 0])), (w0, .inr (14, [.int 0, .int 0]))]) (t1 := []) hP hD hK [2, 3] [0, 1] rfl rfl (by decide) (by decide) hk1 hFc ht hvm hB
  generalize H1 = H at hP hS ⊢
  have hP : va_P (dC, dI) vwCl [(x, .inr (15, [.ref sh, .ref tl, .ref tw, .int 0])), (sh, .inr (13, [.ref rg, .ref dk, .ref hd, .ref lg, .ref pl, .ref pr, .int 0, .int 0, .int 0, .int 0, .int 0, .int 0, .int 0, .int 0, .int 0, .int 0, .int 0])), (dk, .inr (4, [.ref w0, .ref w1, .ref ol, .int 0, .int 0, .int 0, .int 0])), (w0, .inr (14, [.int 0, .int 0]))] H := hP
  have hD : va_D A [(x, .inr (15, [.ref sh, .ref tl, .ref tw, .int 0])), (sh, .inr (13, [.ref rg, .ref dk, .ref hd, .ref lg, .ref pl, .ref pr, .int 0, .int 0, .int 0, .int 0, .int 0, .int 0, .int 0, .int 0, .int 0, .int 0, .int 0])), (dk, .inr (4, [.ref w0, .ref w1, .ref ol, .int 0, .int 0, .int 0, .int 0])), (w0, .inr (14, [.int 0, .int 0]))] := hD
  have hK : va_K (dC, dI) vwCl [] s := hK
  obtain rfl : 12 = r1 := hw
  exact W.iret (v := 12) hx hb hr (fun t ht hW => ⟨⟨12, (), rfl, rfl, kB_end (w9 := []) (t9 := []) hP hK hD [] [] rfl (by decide) rfl rfl t ht hW⟩, hS.F ht⟩) hS.2.2 dX11_free_10
abbrev wd_k_x_callAll0 (z : Nat → Nat) (sh : Nat) (rg : Nat) (dk : Nat) (w0 : Nat) (w1 : Nat) (ol : Nat) (hd : Nat) (lg : Nat) (pl : Nat) (pr : Nat) (x : Nat) (tl : Nat) (tw : Nat) : va_W := [(x, .inr (15, [.ref sh, .ref tl, .ref tw, .int 0])), (tl, .inr (3, [.int 0, .ref (z 0), .int 0])), (sh, .inr (13, [.ref rg, .ref dk, .ref hd, .ref lg, .ref pl, .ref pr, .int 0, .int 0, .int 0, .int 0, .int 0, .int 0, .int 0, .int 0, .int 0, .int 0, .int 0])), (dk, .inr (4, [.ref w0, .ref w1, .ref ol, .int 0, .int 0, .int 0, .int 0]))]
set_option maxHeartbeats 4000000 in
set_option maxRecDepth 100000 in
theorem k_x_callAll0 (l : Launch) (dC : Nat → ClassId) (dI : Nat → Nat → Nat) (z zK zV : Nat → Nat) (sh : Nat) (rg : Nat) (dk : Nat) (w0 : Nat) (w1 : Nat) (ol : Nat) (hd : Nat) (lg : Nat) (pl : Nat) (pr : Nat) (x : Nat) (tl : Nat) (tw : Nat) (sz : Nat)  : Met l yX11_callAll wsX11_callAll ({ frames := 6, cells := 2, slots := 14, locals := 126 }) (kP dC dI z zK zV [.ref x, .int 0] sz (wd_k_x_callAll0 z sh rg dk w0 w1 ol hd lg pl pr x tl tw) []) (va_Qi (fun (r : Int32) (_ : Unit) => 0 = r) (fun _ t => kB (dC, dI) (va_A (wd_k_x_callAll0 z sh rg dk w0 w1 ol hd lg pl pr x tl tw) sz) [] [] t) (va_A (wd_k_x_callAll0 z sh rg dk w0 w1 ol hd lg pl pr x tl tw) sz)) 2 14 (va_A (wd_k_x_callAll0 z sh rg dk w0 w1 ol hd lg pl pr x tl tw) sz) := by
  refine Met.ofW (cc := cX11_callAll) (maxL := 3) (ret := (some .boolean)) (by decide) rfl ?_
  intro p e s m args below meth c s₁ B hml hv
  obtain ⟨rfl, hsz, hP, hK, hD0, hM⟩ := hv
  have hx := B.exec
  have hb := B.bytes
  have hr := B.returns
  have hts := atoms_spec (ws := wsX11_callAll) B.pre
  have hown : s.vm.findClass RX11 = some m.cls := findClass_of_methodNamed B.named
  have hlocks := B.notSynchronized
  have hiX11 : ∀ w ∈ u_ws RX11 TX11 4, w ∈ wsX11_callAll := by decide +kernel
  have hiX9 : ∀ w ∈ u_ws RX9 TX9 17, w ∈ wsX11_callAll := by decide +kernel
  have hiX0 : ∀ w ∈ u_ws RX0 TX0 7, w ∈ wsX11_callAll := by decide +kernel
  subst hsz
  have hD := hD0.self (sz := s.heap.size)
  generalize hAe : va_A (wd_k_x_callAll0 z sh rg dk w0 w1 ol hd lg pl pr x tl tw) s.heap.size = A at hD hM ⊢
  have hA : ∀ q : Nat, s.heap.size ≤ q → A q := fun q h => by rw [← hAe]; exact Or.inr h
  have hS : va_S A s.heap s.heap [] := va_S.rf
  have hP : va_P (dC, dI) vwCl [(x, .inr (15, [.ref sh, .ref tl, .ref tw, .int 0])), (tl, .inr (3, [.int 0, .ref (z 0), .int 0])), (sh, .inr (13, [.ref rg, .ref dk, .ref hd, .ref lg, .ref pl, .ref pr, .int 0, .int 0, .int 0, .int 0, .int 0, .int 0, .int 0, .int 0, .int 0, .int 0, .int 0])), (dk, .inr (4, [.ref w0, .ref w1, .ref ol, .int 0, .int 0, .int 0, .int 0]))] s.heap := hP
  have hD : va_D A [(x, .inr (15, [.ref sh, .ref tl, .ref tw, .int 0])), (tl, .inr (3, [.int 0, .ref (z 0), .int 0])), (sh, .inr (13, [.ref rg, .ref dk, .ref hd, .ref lg, .ref pl, .ref pr, .int 0, .int 0, .int 0, .int 0, .int 0, .int 0, .int 0, .int 0, .int 0, .int 0, .int 0])), (dk, .inr (4, [.ref w0, .ref w1, .ref ol, .int 0, .int 0, .int 0, .int 0]))] := hD
  have hl := lv_entry ([.ref x, .int 0]) (n := 3) (Nat.le_of_ble_eq_true rfl)
  rw [lg_entry_eq]
  generalize (lg_sl ([.ref x, .int 0]) ++ List.replicate (3 - (lg_sl ([.ref x, .int 0])).length) Slot.unset).toArray = ls at hl ⊢
  have hl : lv_has ls 3 [(0, .ref x), (1, .int 0)] := hl
  refine lv_aload_n hx hb dX11_callAll_0 rfl (lv_at hl 0 rfl) ?_
  refine va_get (D := (dC, dI)) (ci := 15) (v := .ref sh) (C := RX11) (T := TX11) (N := 4) hx hb hts hiX11 hown hK hP 0 rfl rfl 0 (by decide) (hts (.fieldLink RX11 10 "SquareRig" "ship" "LSquareRig$Ship;") (by decide +kernel)) (fun _ h9 => h9) rfl dX11_callAll_1 ?_
  refine va_getN (D := (dC, dI)) (ci := 13) (v := .ref dk) (C := RX9) (T := TX9) (N := 17) hx hb hts hiX9 hown hK hP 2 rfl rfl 1 (by decide) (va_Nw.use rfl (hM.1 _ (List.mem_of_getElem? (i := 37) rfl))) (fun _ h9 => h9) rfl dX11_callAll_4 ?_
  refine va_getN (D := (dC, dI)) (ci := 4) (v := .int 0) (C := RX0) (T := TX0) (N := 7) hx hb hts hiX0 hown hK hP 3 rfl rfl 4 (by decide) (va_Nw.use rfl (hM.1 _ (List.mem_of_getElem? (i := 28) rfl))) (fun _ h9 => h9) rfl dX11_callAll_7 ?_
  refine lv_istore_n (lv' := [(2, .int 0), (0, .ref x), (1, .int 0)]) hx hb dX11_callAll_10 rfl hl (by decide) rfl (fun ls hl => ?_)
  refine lv_aload_n hx hb dX11_callAll_11 rfl (lv_at hl 1 rfl) ?_
  refine va_get (D := (dC, dI)) (ci := 15) (v := .ref sh) (C := RX11) (T := TX11) (N := 4) hx hb hts hiX11 hown hK hP 0 rfl rfl 0 (by decide) (hts (.fieldLink RX11 10 "SquareRig" "ship" "LSquareRig$Ship;") (by decide +kernel)) (fun _ h9 => h9) rfl dX11_callAll_12 ?_
  refine lv_aload_n hx hb dX11_callAll_15 rfl (lv_at hl 1 rfl) ?_
  refine lv_iconst (v := 5) hx hb dX11_callAll_16 (by decide) ?_
  refine lv_iload_n hx hb dX11_callAll_17 rfl (lv_at hl 2 rfl) ?_
  refine lv_if_eq (tgt := 25) hx hb dX11_callAll_18 (by decide) (fun _ => ?_) (fun c_ => absurd (by decide +kernel) c_)
  refine lv_iconst (v := 0) hx hb dX11_callAll_25 (by decide) ?_
  refine lv_iconst (v := 0) hx hb dX11_callAll_26 (by decide) ?_
  refine lv_iconst (v := 0) hx hb dX11_callAll_27 (by decide) ?_
  have hPc := hP.sub (ws' := [(x, .inr (15, [.ref sh, .ref tl, .ref tw, .int 0])), (tl, .inr (3, [.int 0, .ref (z 0), .int 0]))]) [0, 1] rfl
  have hDc := hD.sub (ws' := [(x, .inr (15, [.ref sh, .ref tl, .ref tw, .int 0])), (tl, .inr (3, [.int 0, .ref (z 0), .int 0]))]) [0, 1] (by decide) rfl
  have hKc := hK.sub (tys' := []) [] rfl
  have hFc := va_free (wc := [(x, .inr (15, [.ref sh, .ref tl, .ref tw, .int 0])), (tl, .inr (3, [.int 0, .ref (z 0), .int 0]))]) hD hS hA [0, 1] rfl
  refine va_callr (va_runV (As := [.int 5, .int 0, .int 0, .int 0]) (rest := [.ref sh]) ⟨hx, hb, hml, hown, hts⟩ (k_keep l dC dI z zK zV sh x tl tw 5 0 0 0 s.heap.size) (cwV 4 hts gX11_callAll_X11_keep rfl rfl rfl (by decide +kernel) ⟨Nat.le_of_ble_eq_true rfl, Nat.le_of_ble_eq_true rfl⟩) ⟨kP_blind, va_recv hKc hPc (ci := 15) (q0 := 0) rfl rfl, kP_go hPc hKc hDc hFc hM hS⟩ rfl rfl hl.1 rfl (lv_room (Nat.le_of_ble_eq_true rfl)) dX11_callAll_28 ⟨Nat.le_of_ble_eq_true rfl, Nat.le_of_ble_eq_true rfl⟩) hS (fun q _ h => hFc q h) hFc (fun u ra1 t H1 locs ht hvm hw hB hz1 hk1 hS => ?_)
  obtain ⟨q2, q3, cA4, rfl, hB⟩ := hB
  obtain ⟨hP, hD, hK⟩ := kJ (wr := [(sh, .inr (13, [.ref rg, .ref dk, .ref hd, .ref lg, .ref pl, .ref pr, .int 0, .int 0, .int 0, .int 0, .int 0, .int 0, .int 0, .int 0, .int 0, .int 0, .int 0])), (dk, .inr (4, [.ref w0, .ref w1, .ref ol, .int 0, .int 0, .int 0, .int 0]))]) (w1 := [(x, .inr (15, [.ref sh, .ref tl, .ref tw, .int 0])), (q2, .inr (5, [.int 5, .int 0, .int 0, .int 0])), (tl, .inr (3, [.int (0 + 1), .ref q3, .int 1])), (q3, .inl (cA4, 10, .inr (.inr (.inr (.inr (va_up (fun _ => none) 0 (some q2)))))))]) (t1 := [(cA4, .object "java/lang/Object")]) hP hD hK [0, 1] [2, 3] rfl rfl (by decide) (by decide) hk1 hFc ht hvm hB
  generalize H1 = H at hP hS ⊢
  have hP : va_P (dC, dI) vwCl [(sh, .inr (13, [.ref rg, .ref dk, .ref hd, .ref lg, .ref pl, .ref pr, .int 0, .int 0, .int 0, .int 0, .int 0, .int 0, .int 0, .int 0, .int 0, .int 0, .int 0])), (dk, .inr (4, [.ref w0, .ref w1, .ref ol, .int 0, .int 0, .int 0, .int 0])), (x, .inr (15, [.ref sh, .ref tl, .ref tw, .int 0])), (q2, .inr (5, [.int 5, .int 0, .int 0, .int 0])), (tl, .inr (3, [.int (0 + 1), .ref q3, .int 1])), (q3, .inl (cA4, 10, .inr (.inr (.inr (.inr (va_up (fun _ => none) 0 (some q2)))))))] H := hP
  have hD : va_D A [(sh, .inr (13, [.ref rg, .ref dk, .ref hd, .ref lg, .ref pl, .ref pr, .int 0, .int 0, .int 0, .int 0, .int 0, .int 0, .int 0, .int 0, .int 0, .int 0, .int 0])), (dk, .inr (4, [.ref w0, .ref w1, .ref ol, .int 0, .int 0, .int 0, .int 0])), (x, .inr (15, [.ref sh, .ref tl, .ref tw, .int 0])), (q2, .inr (5, [.int 5, .int 0, .int 0, .int 0])), (tl, .inr (3, [.int (0 + 1), .ref q3, .int 1])), (q3, .inl (cA4, 10, .inr (.inr (.inr (.inr (va_up (fun _ => none) 0 (some q2)))))))] := hD
  have hK : va_K (dC, dI) vwCl [(cA4, .object "java/lang/Object")] s := hK
  have hPc := hP.sub (ws' := [(sh, .inr (13, [.ref rg, .ref dk, .ref hd, .ref lg, .ref pl, .ref pr, .int 0, .int 0, .int 0, .int 0, .int 0, .int 0, .int 0, .int 0, .int 0, .int 0, .int 0])), (dk, .inr (4, [.ref w0, .ref w1, .ref ol, .int 0, .int 0, .int 0, .int 0])), (q2, .inr (5, [.int 5, .int 0, .int 0, .int 0]))]) [0, 1, 3] rfl
  have hDc := hD.sub (ws' := [(sh, .inr (13, [.ref rg, .ref dk, .ref hd, .ref lg, .ref pl, .ref pr, .int 0, .int 0, .int 0, .int 0, .int 0, .int 0, .int 0, .int 0, .int 0, .int 0, .int 0])), (dk, .inr (4, [.ref w0, .ref w1, .ref ol, .int 0, .int 0, .int 0, .int 0])), (q2, .inr (5, [.int 5, .int 0, .int 0, .int 0]))]) [0, 1, 3] (by decide) rfl
  have hKc := hK.sub (tys' := []) [] rfl
  have hFc := va_free (wc := [(sh, .inr (13, [.ref rg, .ref dk, .ref hd, .ref lg, .ref pl, .ref pr, .int 0, .int 0, .int 0, .int 0, .int 0, .int 0, .int 0, .int 0, .int 0, .int 0, .int 0])), (dk, .inr (4, [.ref w0, .ref w1, .ref ol, .int 0, .int 0, .int 0, .int 0])), (q2, .inr (5, [.int 5, .int 0, .int 0, .int 0]))]) hD hS hA [0, 1, 3] rfl
  refine va_callv (va_runV (As := [.ref q2]) (rest := []) ⟨hx, hb, hml, hown, hts⟩ (k_obey_callAll l dC dI z zK zV sh rg dk w0 w1 ol hd lg pl pr q2 0 0 0 H.size) (cwV 1 hts gX11_callAll_X9_obey rfl rfl rfl (by decide +kernel) ⟨Nat.le_of_ble_eq_true rfl, Nat.le_of_ble_eq_true rfl⟩) ⟨kP_blind, va_recv hKc hPc (ci := 13) (q0 := 0) rfl rfl, kP_go hPc hKc hDc hFc hM hS⟩ rfl rfl hl.1 rfl (lv_room (Nat.le_of_ble_eq_true rfl)) dX11_callAll_31 ⟨Nat.le_of_ble_eq_true rfl, Nat.le_of_ble_eq_true rfl⟩) hS (fun q _ h => hFc q h) hFc (fun u t H1 locs ht hvm hw hB hz1 hk1 hS => ?_)
  obtain ⟨hP, hD, hK⟩ := kJ (wr := [(x, .inr (15, [.ref sh, .ref tl, .ref tw, .int 0])), (tl, .inr (3, [.int (0 + 1), .ref q3, .int 1])), (q3, .inl (cA4, 10, .inr (.inr (.inr (.inr (va_up (fun _ => none) 0 (some q2)))))))]) (w1 := []) (t1 := []) hP hD hK [0, 1, 3] [2, 4, 5] rfl rfl (by decide) (by decide) hk1 hFc ht hvm hB
  generalize H1 = H at hP hS ⊢
  have hP : va_P (dC, dI) vwCl [(x, .inr (15, [.ref sh, .ref tl, .ref tw, .int 0])), (tl, .inr (3, [.int (0 + 1), .ref q3, .int 1])), (q3, .inl (cA4, 10, .inr (.inr (.inr (.inr (va_up (fun _ => none) 0 (some q2)))))))] H := hP
  have hD : va_D A [(x, .inr (15, [.ref sh, .ref tl, .ref tw, .int 0])), (tl, .inr (3, [.int (0 + 1), .ref q3, .int 1])), (q3, .inl (cA4, 10, .inr (.inr (.inr (.inr (va_up (fun _ => none) 0 (some q2)))))))] := hD
  have hK : va_K (dC, dI) vwCl [(cA4, .object "java/lang/Object")] s := hK
  clear hw
  refine lv_iload_n hx hb dX11_callAll_34 rfl (lv_at hl 0 rfl) ?_
  refine W.widen (k := 2) (n := 14) (Nat.le_of_ble_eq_true rfl) (Nat.le_of_ble_eq_true rfl) ?_
  exact W.zret (v := 0) hx hb hr (by decide +kernel) (fun t ht hW => ⟨⟨0, (), rfl, rfl, kB_end (w9 := []) (t9 := []) hP hK hD [] [] rfl (by decide) rfl rfl t ht hW⟩, hS.F ht⟩) hS.2.2 dX11_callAll_35
abbrev wd_k_x_callAll1 (z : Nat → Nat) (sh : Nat) (rg : Nat) (dk : Nat) (w0 : Nat) (w1 : Nat) (ol : Nat) (hd : Nat) (lg : Nat) (pl : Nat) (pr : Nat) (x : Nat) (tl : Nat) (tw : Nat) : va_W := [(x, .inr (15, [.ref sh, .ref tl, .ref tw, .int 0])), (tl, .inr (3, [.int 0, .ref (z 0), .int 0])), (sh, .inr (13, [.ref rg, .ref dk, .ref hd, .ref lg, .ref pl, .ref pr, .int 0, .int 0, .int 0, .int 0, .int 0, .int 0, .int 0, .int 0, .int 0, .int 0, .int 0])), (dk, .inr (4, [.ref w0, .ref w1, .ref ol, .int 0, .int 0, .int 0, .int 0]))]
set_option maxHeartbeats 4000000 in
set_option maxRecDepth 100000 in
theorem k_x_callAll1 (l : Launch) (dC : Nat → ClassId) (dI : Nat → Nat → Nat) (z zK zV : Nat → Nat) (sh : Nat) (rg : Nat) (dk : Nat) (w0 : Nat) (w1 : Nat) (ol : Nat) (hd : Nat) (lg : Nat) (pl : Nat) (pr : Nat) (x : Nat) (tl : Nat) (tw : Nat) (sz : Nat)  : Met l yX11_callAll wsX11_callAll ({ frames := 6, cells := 2, slots := 14, locals := 126 }) (kP dC dI z zK zV [.ref x, .int 1] sz (wd_k_x_callAll1 z sh rg dk w0 w1 ol hd lg pl pr x tl tw) []) (va_Qi (fun (r : Int32) (_ : Unit) => 0 = r) (fun _ t => kB (dC, dI) (va_A (wd_k_x_callAll1 z sh rg dk w0 w1 ol hd lg pl pr x tl tw) sz) [] [] t) (va_A (wd_k_x_callAll1 z sh rg dk w0 w1 ol hd lg pl pr x tl tw) sz)) 2 14 (va_A (wd_k_x_callAll1 z sh rg dk w0 w1 ol hd lg pl pr x tl tw) sz) := by
  refine Met.ofW (cc := cX11_callAll) (maxL := 3) (ret := (some .boolean)) (by decide) rfl ?_
  intro p e s m args below meth c s₁ B hml hv
  obtain ⟨rfl, hsz, hP, hK, hD0, hM⟩ := hv
  have hx := B.exec
  have hb := B.bytes
  have hr := B.returns
  have hts := atoms_spec (ws := wsX11_callAll) B.pre
  have hown : s.vm.findClass RX11 = some m.cls := findClass_of_methodNamed B.named
  have hlocks := B.notSynchronized
  have hiX11 : ∀ w ∈ u_ws RX11 TX11 4, w ∈ wsX11_callAll := by decide +kernel
  have hiX9 : ∀ w ∈ u_ws RX9 TX9 17, w ∈ wsX11_callAll := by decide +kernel
  have hiX0 : ∀ w ∈ u_ws RX0 TX0 7, w ∈ wsX11_callAll := by decide +kernel
  subst hsz
  have hD := hD0.self (sz := s.heap.size)
  generalize hAe : va_A (wd_k_x_callAll1 z sh rg dk w0 w1 ol hd lg pl pr x tl tw) s.heap.size = A at hD hM ⊢
  have hA : ∀ q : Nat, s.heap.size ≤ q → A q := fun q h => by rw [← hAe]; exact Or.inr h
  have hS : va_S A s.heap s.heap [] := va_S.rf
  have hP : va_P (dC, dI) vwCl [(x, .inr (15, [.ref sh, .ref tl, .ref tw, .int 0])), (tl, .inr (3, [.int 0, .ref (z 0), .int 0])), (sh, .inr (13, [.ref rg, .ref dk, .ref hd, .ref lg, .ref pl, .ref pr, .int 0, .int 0, .int 0, .int 0, .int 0, .int 0, .int 0, .int 0, .int 0, .int 0, .int 0])), (dk, .inr (4, [.ref w0, .ref w1, .ref ol, .int 0, .int 0, .int 0, .int 0]))] s.heap := hP
  have hD : va_D A [(x, .inr (15, [.ref sh, .ref tl, .ref tw, .int 0])), (tl, .inr (3, [.int 0, .ref (z 0), .int 0])), (sh, .inr (13, [.ref rg, .ref dk, .ref hd, .ref lg, .ref pl, .ref pr, .int 0, .int 0, .int 0, .int 0, .int 0, .int 0, .int 0, .int 0, .int 0, .int 0, .int 0])), (dk, .inr (4, [.ref w0, .ref w1, .ref ol, .int 0, .int 0, .int 0, .int 0]))] := hD
  have hl := lv_entry ([.ref x, .int 1]) (n := 3) (Nat.le_of_ble_eq_true rfl)
  rw [lg_entry_eq]
  generalize (lg_sl ([.ref x, .int 1]) ++ List.replicate (3 - (lg_sl ([.ref x, .int 1])).length) Slot.unset).toArray = ls at hl ⊢
  have hl : lv_has ls 3 [(0, .ref x), (1, .int 1)] := hl
  refine lv_aload_n hx hb dX11_callAll_0 rfl (lv_at hl 0 rfl) ?_
  refine va_get (D := (dC, dI)) (ci := 15) (v := .ref sh) (C := RX11) (T := TX11) (N := 4) hx hb hts hiX11 hown hK hP 0 rfl rfl 0 (by decide) (hts (.fieldLink RX11 10 "SquareRig" "ship" "LSquareRig$Ship;") (by decide +kernel)) (fun _ h9 => h9) rfl dX11_callAll_1 ?_
  refine va_getN (D := (dC, dI)) (ci := 13) (v := .ref dk) (C := RX9) (T := TX9) (N := 17) hx hb hts hiX9 hown hK hP 2 rfl rfl 1 (by decide) (va_Nw.use rfl (hM.1 _ (List.mem_of_getElem? (i := 37) rfl))) (fun _ h9 => h9) rfl dX11_callAll_4 ?_
  refine va_getN (D := (dC, dI)) (ci := 4) (v := .int 0) (C := RX0) (T := TX0) (N := 7) hx hb hts hiX0 hown hK hP 3 rfl rfl 4 (by decide) (va_Nw.use rfl (hM.1 _ (List.mem_of_getElem? (i := 28) rfl))) (fun _ h9 => h9) rfl dX11_callAll_7 ?_
  refine lv_istore_n (lv' := [(2, .int 0), (0, .ref x), (1, .int 1)]) hx hb dX11_callAll_10 rfl hl (by decide) rfl (fun ls hl => ?_)
  refine lv_aload_n hx hb dX11_callAll_11 rfl (lv_at hl 1 rfl) ?_
  refine va_get (D := (dC, dI)) (ci := 15) (v := .ref sh) (C := RX11) (T := TX11) (N := 4) hx hb hts hiX11 hown hK hP 0 rfl rfl 0 (by decide) (hts (.fieldLink RX11 10 "SquareRig" "ship" "LSquareRig$Ship;") (by decide +kernel)) (fun _ h9 => h9) rfl dX11_callAll_12 ?_
  refine lv_aload_n hx hb dX11_callAll_15 rfl (lv_at hl 1 rfl) ?_
  refine lv_iconst (v := 5) hx hb dX11_callAll_16 (by decide) ?_
  refine lv_iload_n hx hb dX11_callAll_17 rfl (lv_at hl 2 rfl) ?_
  refine lv_if_eq (tgt := 25) hx hb dX11_callAll_18 (by decide) (fun c_ => absurd c_ (by decide +kernel)) (fun _ => ?_)
  refine lv_iconst (v := 1) hx hb dX11_callAll_21 (by decide) ?_
  refine lv_goto (tgt := 26) hx hb dX11_callAll_22 (by decide) ?_
  refine lv_iconst (v := 0) hx hb dX11_callAll_26 (by decide) ?_
  refine lv_iconst (v := 0) hx hb dX11_callAll_27 (by decide) ?_
  have hPc := hP.sub (ws' := [(x, .inr (15, [.ref sh, .ref tl, .ref tw, .int 0])), (tl, .inr (3, [.int 0, .ref (z 0), .int 0]))]) [0, 1] rfl
  have hDc := hD.sub (ws' := [(x, .inr (15, [.ref sh, .ref tl, .ref tw, .int 0])), (tl, .inr (3, [.int 0, .ref (z 0), .int 0]))]) [0, 1] (by decide) rfl
  have hKc := hK.sub (tys' := []) [] rfl
  have hFc := va_free (wc := [(x, .inr (15, [.ref sh, .ref tl, .ref tw, .int 0])), (tl, .inr (3, [.int 0, .ref (z 0), .int 0]))]) hD hS hA [0, 1] rfl
  refine va_callr (va_runV (As := [.int 5, .int 1, .int 0, .int 0]) (rest := [.ref sh]) ⟨hx, hb, hml, hown, hts⟩ (k_keep l dC dI z zK zV sh x tl tw 5 1 0 0 s.heap.size) (cwV 4 hts gX11_callAll_X11_keep rfl rfl rfl (by decide +kernel) ⟨Nat.le_of_ble_eq_true rfl, Nat.le_of_ble_eq_true rfl⟩) ⟨kP_blind, va_recv hKc hPc (ci := 15) (q0 := 0) rfl rfl, kP_go hPc hKc hDc hFc hM hS⟩ rfl rfl hl.1 rfl (lv_room (Nat.le_of_ble_eq_true rfl)) dX11_callAll_28 ⟨Nat.le_of_ble_eq_true rfl, Nat.le_of_ble_eq_true rfl⟩) hS (fun q _ h => hFc q h) hFc (fun u ra1 t H1 locs ht hvm hw hB hz1 hk1 hS => ?_)
  obtain ⟨q2, q3, cA4, rfl, hB⟩ := hB
  obtain ⟨hP, hD, hK⟩ := kJ (wr := [(sh, .inr (13, [.ref rg, .ref dk, .ref hd, .ref lg, .ref pl, .ref pr, .int 0, .int 0, .int 0, .int 0, .int 0, .int 0, .int 0, .int 0, .int 0, .int 0, .int 0])), (dk, .inr (4, [.ref w0, .ref w1, .ref ol, .int 0, .int 0, .int 0, .int 0]))]) (w1 := [(x, .inr (15, [.ref sh, .ref tl, .ref tw, .int 0])), (q2, .inr (5, [.int 5, .int 1, .int 0, .int 0])), (tl, .inr (3, [.int (0 + 1), .ref q3, .int 1])), (q3, .inl (cA4, 10, .inr (.inr (.inr (.inr (va_up (fun _ => none) 0 (some q2)))))))]) (t1 := [(cA4, .object "java/lang/Object")]) hP hD hK [0, 1] [2, 3] rfl rfl (by decide) (by decide) hk1 hFc ht hvm hB
  generalize H1 = H at hP hS ⊢
  have hP : va_P (dC, dI) vwCl [(sh, .inr (13, [.ref rg, .ref dk, .ref hd, .ref lg, .ref pl, .ref pr, .int 0, .int 0, .int 0, .int 0, .int 0, .int 0, .int 0, .int 0, .int 0, .int 0, .int 0])), (dk, .inr (4, [.ref w0, .ref w1, .ref ol, .int 0, .int 0, .int 0, .int 0])), (x, .inr (15, [.ref sh, .ref tl, .ref tw, .int 0])), (q2, .inr (5, [.int 5, .int 1, .int 0, .int 0])), (tl, .inr (3, [.int (0 + 1), .ref q3, .int 1])), (q3, .inl (cA4, 10, .inr (.inr (.inr (.inr (va_up (fun _ => none) 0 (some q2)))))))] H := hP
  have hD : va_D A [(sh, .inr (13, [.ref rg, .ref dk, .ref hd, .ref lg, .ref pl, .ref pr, .int 0, .int 0, .int 0, .int 0, .int 0, .int 0, .int 0, .int 0, .int 0, .int 0, .int 0])), (dk, .inr (4, [.ref w0, .ref w1, .ref ol, .int 0, .int 0, .int 0, .int 0])), (x, .inr (15, [.ref sh, .ref tl, .ref tw, .int 0])), (q2, .inr (5, [.int 5, .int 1, .int 0, .int 0])), (tl, .inr (3, [.int (0 + 1), .ref q3, .int 1])), (q3, .inl (cA4, 10, .inr (.inr (.inr (.inr (va_up (fun _ => none) 0 (some q2)))))))] := hD
  have hK : va_K (dC, dI) vwCl [(cA4, .object "java/lang/Object")] s := hK
  have hPc := hP.sub (ws' := [(sh, .inr (13, [.ref rg, .ref dk, .ref hd, .ref lg, .ref pl, .ref pr, .int 0, .int 0, .int 0, .int 0, .int 0, .int 0, .int 0, .int 0, .int 0, .int 0, .int 0])), (dk, .inr (4, [.ref w0, .ref w1, .ref ol, .int 0, .int 0, .int 0, .int 0])), (q2, .inr (5, [.int 5, .int 1, .int 0, .int 0]))]) [0, 1, 3] rfl
  have hDc := hD.sub (ws' := [(sh, .inr (13, [.ref rg, .ref dk, .ref hd, .ref lg, .ref pl, .ref pr, .int 0, .int 0, .int 0, .int 0, .int 0, .int 0, .int 0, .int 0, .int 0, .int 0, .int 0])), (dk, .inr (4, [.ref w0, .ref w1, .ref ol, .int 0, .int 0, .int 0, .int 0])), (q2, .inr (5, [.int 5, .int 1, .int 0, .int 0]))]) [0, 1, 3] (by decide) rfl
  have hKc := hK.sub (tys' := []) [] rfl
  have hFc := va_free (wc := [(sh, .inr (13, [.ref rg, .ref dk, .ref hd, .ref lg, .ref pl, .ref pr, .int 0, .int 0, .int 0, .int 0, .int 0, .int 0, .int 0, .int 0, .int 0, .int 0, .int 0])), (dk, .inr (4, [.ref w0, .ref w1, .ref ol, .int 0, .int 0, .int 0, .int 0])), (q2, .inr (5, [.int 5, .int 1, .int 0, .int 0]))]) hD hS hA [0, 1, 3] rfl
  refine va_callv (va_runV (As := [.ref q2]) (rest := []) ⟨hx, hb, hml, hown, hts⟩ (k_obey_callAll l dC dI z zK zV sh rg dk w0 w1 ol hd lg pl pr q2 1 0 0 H.size) (cwV 1 hts gX11_callAll_X9_obey rfl rfl rfl (by decide +kernel) ⟨Nat.le_of_ble_eq_true rfl, Nat.le_of_ble_eq_true rfl⟩) ⟨kP_blind, va_recv hKc hPc (ci := 13) (q0 := 0) rfl rfl, kP_go hPc hKc hDc hFc hM hS⟩ rfl rfl hl.1 rfl (lv_room (Nat.le_of_ble_eq_true rfl)) dX11_callAll_31 ⟨Nat.le_of_ble_eq_true rfl, Nat.le_of_ble_eq_true rfl⟩) hS (fun q _ h => hFc q h) hFc (fun u t H1 locs ht hvm hw hB hz1 hk1 hS => ?_)
  obtain ⟨hP, hD, hK⟩ := kJ (wr := [(x, .inr (15, [.ref sh, .ref tl, .ref tw, .int 0])), (tl, .inr (3, [.int (0 + 1), .ref q3, .int 1])), (q3, .inl (cA4, 10, .inr (.inr (.inr (.inr (va_up (fun _ => none) 0 (some q2)))))))]) (w1 := []) (t1 := []) hP hD hK [0, 1, 3] [2, 4, 5] rfl rfl (by decide) (by decide) hk1 hFc ht hvm hB
  generalize H1 = H at hP hS ⊢
  have hP : va_P (dC, dI) vwCl [(x, .inr (15, [.ref sh, .ref tl, .ref tw, .int 0])), (tl, .inr (3, [.int (0 + 1), .ref q3, .int 1])), (q3, .inl (cA4, 10, .inr (.inr (.inr (.inr (va_up (fun _ => none) 0 (some q2)))))))] H := hP
  have hD : va_D A [(x, .inr (15, [.ref sh, .ref tl, .ref tw, .int 0])), (tl, .inr (3, [.int (0 + 1), .ref q3, .int 1])), (q3, .inl (cA4, 10, .inr (.inr (.inr (.inr (va_up (fun _ => none) 0 (some q2)))))))] := hD
  have hK : va_K (dC, dI) vwCl [(cA4, .object "java/lang/Object")] s := hK
  clear hw
  refine lv_iload_n hx hb dX11_callAll_34 rfl (lv_at hl 0 rfl) ?_
  refine W.widen (k := 2) (n := 14) (Nat.le_of_ble_eq_true rfl) (Nat.le_of_ble_eq_true rfl) ?_
  exact W.zret (v := 0) hx hb hr (by decide +kernel) (fun t ht hW => ⟨⟨0, (), rfl, rfl, kB_end (w9 := []) (t9 := []) hP hK hD [] [] rfl (by decide) rfl rfl t ht hW⟩, hS.F ht⟩) hS.2.2 dX11_callAll_35
abbrev wd_k_x_noon (z : Nat → Nat) (sh : Nat) (rg : Nat) (dk : Nat) (hd : Nat) (lg : Nat) (pl : Nat) (pr : Nat) (x : Nat) (tl : Nat) (tw : Nat) : va_W := [(x, .inr (15, [.ref sh, .ref tl, .ref tw, .int 0])), (tl, .inr (3, [.int 0, .ref (z 0), .int 0])), (sh, .inr (13, [.ref rg, .ref dk, .ref hd, .ref lg, .ref pl, .ref pr, .int 0, .int 0, .int 0, .int 0, .int 0, .int 0, .int 0, .int 0, .int 0, .int 0, .int 0])), (pl, .inr (10, [.long 0, .long 0])), (pr, .inr (10, [.long 0, .long 0]))]
set_option maxHeartbeats 4000000 in
set_option maxRecDepth 100000 in
theorem k_x_noon (l : Launch) (dC : Nat → ClassId) (dI : Nat → Nat → Nat) (z zK zV : Nat → Nat) (sh : Nat) (rg : Nat) (dk : Nat) (hd : Nat) (lg : Nat) (pl : Nat) (pr : Nat) (x : Nat) (tl : Nat) (tw : Nat) (sz : Nat)  : Met l yX11_noon wsX11_noon ({ frames := 6, cells := 2, slots := 14, locals := 126 }) (kP dC dI z zK zV [.ref x] sz (wd_k_x_noon z sh rg dk hd lg pl pr x tl tw) []) (va_Ql (fun (r : Int64) (_ : Unit) => 0 = r) (fun _ t => kB (dC, dI) (va_A (wd_k_x_noon z sh rg dk hd lg pl pr x tl tw) sz) [] [] t) (va_A (wd_k_x_noon z sh rg dk hd lg pl pr x tl tw) sz)) 2 14 (va_A (wd_k_x_noon z sh rg dk hd lg pl pr x tl tw) sz) := by
  refine Met.ofW (cc := cX11_noon) (maxL := 3) (ret := (some .long)) (by decide) rfl ?_
  intro p e s m args below meth c s₁ B hml hv
  obtain ⟨rfl, hsz, hP, hK, hD0, hM⟩ := hv
  have hx := B.exec
  have hb := B.bytes
  have hr := B.returns
  have hts := atoms_spec (ws := wsX11_noon) B.pre
  have hown : s.vm.findClass RX11 = some m.cls := findClass_of_methodNamed B.named
  have hlocks := B.notSynchronized
  have hiX11 : ∀ w ∈ u_ws RX11 TX11 4, w ∈ wsX11_noon := by decide +kernel
  have hiX9 : ∀ w ∈ u_ws RX9 TX9 17, w ∈ wsX11_noon := by decide +kernel
  have hiX6 : ∀ w ∈ u_ws RX6 TX6 2, w ∈ wsX11_noon := by decide +kernel
  subst hsz
  have hD := hD0.self (sz := s.heap.size)
  generalize hAe : va_A (wd_k_x_noon z sh rg dk hd lg pl pr x tl tw) s.heap.size = A at hD hM ⊢
  have hA : ∀ q : Nat, s.heap.size ≤ q → A q := fun q h => by rw [← hAe]; exact Or.inr h
  have hS : va_S A s.heap s.heap [] := va_S.rf
  have hP : va_P (dC, dI) vwCl [(x, .inr (15, [.ref sh, .ref tl, .ref tw, .int 0])), (tl, .inr (3, [.int 0, .ref (z 0), .int 0])), (sh, .inr (13, [.ref rg, .ref dk, .ref hd, .ref lg, .ref pl, .ref pr, .int 0, .int 0, .int 0, .int 0, .int 0, .int 0, .int 0, .int 0, .int 0, .int 0, .int 0])), (pl, .inr (10, [.long 0, .long 0])), (pr, .inr (10, [.long 0, .long 0]))] s.heap := hP
  have hD : va_D A [(x, .inr (15, [.ref sh, .ref tl, .ref tw, .int 0])), (tl, .inr (3, [.int 0, .ref (z 0), .int 0])), (sh, .inr (13, [.ref rg, .ref dk, .ref hd, .ref lg, .ref pl, .ref pr, .int 0, .int 0, .int 0, .int 0, .int 0, .int 0, .int 0, .int 0, .int 0, .int 0, .int 0])), (pl, .inr (10, [.long 0, .long 0])), (pr, .inr (10, [.long 0, .long 0]))] := hD
  have hl := lv_entry ([.ref x]) (n := 3) (Nat.le_of_ble_eq_true rfl)
  rw [lg_entry_eq]
  generalize (lg_sl ([.ref x]) ++ List.replicate (3 - (lg_sl ([.ref x])).length) Slot.unset).toArray = ls at hl ⊢
  have hl : lv_has ls 3 [(0, .ref x)] := hl
  refine lv_aload_n hx hb dX11_noon_0 rfl (lv_at hl 0 rfl) ?_
  refine va_get (D := (dC, dI)) (ci := 15) (v := .ref sh) (C := RX11) (T := TX11) (N := 4) hx hb hts hiX11 hown hK hP 0 rfl rfl 0 (by decide) (hts (.fieldLink RX11 10 "SquareRig" "ship" "LSquareRig$Ship;") (by decide +kernel)) (fun _ h9 => h9) rfl dX11_noon_1 ?_
  refine va_getN (D := (dC, dI)) (ci := 13) (v := .ref pl) (C := RX9) (T := TX9) (N := 17) hx hb hts hiX9 hown hK hP 2 rfl rfl 4 (by decide) (va_Nw.use rfl (hM.1 _ (List.mem_of_getElem? (i := 40) rfl))) (fun _ h9 => h9) rfl dX11_noon_4 ?_
  refine va_getN (D := (dC, dI)) (ci := 10) (v := .long 0) (C := RX6) (T := TX6) (N := 2) hx hb hts hiX6 hown hK hP 3 rfl rfl 1 (by decide) (va_Nw.use rfl (hM.1 _ (List.mem_of_getElem? (i := 35) rfl))) (fun _ h9 => h9) rfl dX11_noon_7 ?_
  refine lv_aload_n hx hb dX11_noon_10 rfl (lv_at hl 0 rfl) ?_
  refine va_get (D := (dC, dI)) (ci := 15) (v := .ref sh) (C := RX11) (T := TX11) (N := 4) hx hb hts hiX11 hown hK hP 0 rfl rfl 0 (by decide) (hts (.fieldLink RX11 10 "SquareRig" "ship" "LSquareRig$Ship;") (by decide +kernel)) (fun _ h9 => h9) rfl dX11_noon_11 ?_
  refine va_getN (D := (dC, dI)) (ci := 13) (v := .ref pr) (C := RX9) (T := TX9) (N := 17) hx hb hts hiX9 hown hK hP 2 rfl rfl 5 (by decide) (va_Nw.use rfl (hM.1 _ (List.mem_of_getElem? (i := 41) rfl))) (fun _ h9 => h9) rfl dX11_noon_14 ?_
  refine va_getN (D := (dC, dI)) (ci := 10) (v := .long 0) (C := RX6) (T := TX6) (N := 2) hx hb hts hiX6 hown hK hP 4 rfl rfl 1 (by decide) (va_Nw.use rfl (hM.1 _ (List.mem_of_getElem? (i := 35) rfl))) (fun _ h9 => h9) rfl dX11_noon_17 ?_
  refine lv_lsub hx hb dX11_noon_20 ?_
  refine kc_l (y := 0) (by decide +kernel) ?_
  refine lv_lstore_n (lv' := [(1, .long 0), (0, .ref x)]) hx hb dX11_noon_21 rfl hl (by decide) rfl (fun ls hl => ?_)
  refine lv_aload_n hx hb dX11_noon_22 rfl (lv_at hl 1 rfl) ?_
  refine va_get (D := (dC, dI)) (ci := 15) (v := .ref sh) (C := RX11) (T := TX11) (N := 4) hx hb hts hiX11 hown hK hP 0 rfl rfl 0 (by decide) (hts (.fieldLink RX11 10 "SquareRig" "ship" "LSquareRig$Ship;") (by decide +kernel)) (fun _ h9 => h9) rfl dX11_noon_23 ?_
  refine lv_aload_n hx hb dX11_noon_26 rfl (lv_at hl 1 rfl) ?_
  refine lv_bipush (v := 9) hx hb dX11_noon_27 (by decide) ?_
  refine lv_iconst (v := 0) hx hb dX11_noon_29 (by decide) ?_
  refine lv_iconst (v := 0) hx hb dX11_noon_30 (by decide) ?_
  refine lv_iconst (v := 0) hx hb dX11_noon_31 (by decide) ?_
  have hPc := hP.sub (ws' := [(x, .inr (15, [.ref sh, .ref tl, .ref tw, .int 0])), (tl, .inr (3, [.int 0, .ref (z 0), .int 0]))]) [0, 1] rfl
  have hDc := hD.sub (ws' := [(x, .inr (15, [.ref sh, .ref tl, .ref tw, .int 0])), (tl, .inr (3, [.int 0, .ref (z 0), .int 0]))]) [0, 1] (by decide) rfl
  have hKc := hK.sub (tys' := []) [] rfl
  have hFc := va_free (wc := [(x, .inr (15, [.ref sh, .ref tl, .ref tw, .int 0])), (tl, .inr (3, [.int 0, .ref (z 0), .int 0]))]) hD hS hA [0, 1] rfl
  refine va_callr (va_runV (As := [.int 9, .int 0, .int 0, .int 0]) (rest := [.ref sh]) ⟨hx, hb, hml, hown, hts⟩ (k_keep l dC dI z zK zV sh x tl tw 9 0 0 0 s.heap.size) (cwV 4 hts gX11_noon_X11_keep rfl rfl rfl (by decide +kernel) ⟨Nat.le_of_ble_eq_true rfl, Nat.le_of_ble_eq_true rfl⟩) ⟨kP_blind, va_recv hKc hPc (ci := 15) (q0 := 0) rfl rfl, kP_go hPc hKc hDc hFc hM hS⟩ rfl rfl hl.1 rfl (lv_room (Nat.le_of_ble_eq_true rfl)) dX11_noon_32 ⟨Nat.le_of_ble_eq_true rfl, Nat.le_of_ble_eq_true rfl⟩) hS (fun q _ h => hFc q h) hFc (fun u ra1 t H1 locs ht hvm hw hB hz1 hk1 hS => ?_)
  obtain ⟨q2, q3, cA4, rfl, hB⟩ := hB
  obtain ⟨hP, hD, hK⟩ := kJ (wr := [(sh, .inr (13, [.ref rg, .ref dk, .ref hd, .ref lg, .ref pl, .ref pr, .int 0, .int 0, .int 0, .int 0, .int 0, .int 0, .int 0, .int 0, .int 0, .int 0, .int 0])), (pl, .inr (10, [.long 0, .long 0])), (pr, .inr (10, [.long 0, .long 0]))]) (w1 := [(x, .inr (15, [.ref sh, .ref tl, .ref tw, .int 0])), (q2, .inr (5, [.int 9, .int 0, .int 0, .int 0])), (tl, .inr (3, [.int (0 + 1), .ref q3, .int 1])), (q3, .inl (cA4, 10, .inr (.inr (.inr (.inr (va_up (fun _ => none) 0 (some q2)))))))]) (t1 := [(cA4, .object "java/lang/Object")]) hP hD hK [0, 1] [2, 3, 4] rfl rfl (by decide) (by decide) hk1 hFc ht hvm hB
  generalize H1 = H at hP hS ⊢
  have hP : va_P (dC, dI) vwCl [(sh, .inr (13, [.ref rg, .ref dk, .ref hd, .ref lg, .ref pl, .ref pr, .int 0, .int 0, .int 0, .int 0, .int 0, .int 0, .int 0, .int 0, .int 0, .int 0, .int 0])), (pl, .inr (10, [.long 0, .long 0])), (pr, .inr (10, [.long 0, .long 0])), (x, .inr (15, [.ref sh, .ref tl, .ref tw, .int 0])), (q2, .inr (5, [.int 9, .int 0, .int 0, .int 0])), (tl, .inr (3, [.int (0 + 1), .ref q3, .int 1])), (q3, .inl (cA4, 10, .inr (.inr (.inr (.inr (va_up (fun _ => none) 0 (some q2)))))))] H := hP
  have hD : va_D A [(sh, .inr (13, [.ref rg, .ref dk, .ref hd, .ref lg, .ref pl, .ref pr, .int 0, .int 0, .int 0, .int 0, .int 0, .int 0, .int 0, .int 0, .int 0, .int 0, .int 0])), (pl, .inr (10, [.long 0, .long 0])), (pr, .inr (10, [.long 0, .long 0])), (x, .inr (15, [.ref sh, .ref tl, .ref tw, .int 0])), (q2, .inr (5, [.int 9, .int 0, .int 0, .int 0])), (tl, .inr (3, [.int (0 + 1), .ref q3, .int 1])), (q3, .inl (cA4, 10, .inr (.inr (.inr (.inr (va_up (fun _ => none) 0 (some q2)))))))] := hD
  have hK : va_K (dC, dI) vwCl [(cA4, .object "java/lang/Object")] s := hK
  have hPc := hP.sub (ws' := [(sh, .inr (13, [.ref rg, .ref dk, .ref hd, .ref lg, .ref pl, .ref pr, .int 0, .int 0, .int 0, .int 0, .int 0, .int 0, .int 0, .int 0, .int 0, .int 0, .int 0])), (pl, .inr (10, [.long 0, .long 0])), (pr, .inr (10, [.long 0, .long 0])), (q2, .inr (5, [.int 9, .int 0, .int 0, .int 0]))]) [0, 1, 2, 4] rfl
  have hDc := hD.sub (ws' := [(sh, .inr (13, [.ref rg, .ref dk, .ref hd, .ref lg, .ref pl, .ref pr, .int 0, .int 0, .int 0, .int 0, .int 0, .int 0, .int 0, .int 0, .int 0, .int 0, .int 0])), (pl, .inr (10, [.long 0, .long 0])), (pr, .inr (10, [.long 0, .long 0])), (q2, .inr (5, [.int 9, .int 0, .int 0, .int 0]))]) [0, 1, 2, 4] (by decide) rfl
  have hKc := hK.sub (tys' := []) [] rfl
  have hFc := va_free (wc := [(sh, .inr (13, [.ref rg, .ref dk, .ref hd, .ref lg, .ref pl, .ref pr, .int 0, .int 0, .int 0, .int 0, .int 0, .int 0, .int 0, .int 0, .int 0, .int 0, .int 0])), (pl, .inr (10, [.long 0, .long 0])), (pr, .inr (10, [.long 0, .long 0])), (q2, .inr (5, [.int 9, .int 0, .int 0, .int 0]))]) hD hS hA [0, 1, 2, 4] rfl
  refine va_callv (va_runV (As := [.ref q2]) (rest := []) ⟨hx, hb, hml, hown, hts⟩ (k_obey_noon l dC dI z zK zV sh rg dk hd lg pl pr q2 0 0 0 H.size) (cwV 1 hts gX11_noon_X9_obey rfl rfl rfl (by decide +kernel) ⟨Nat.le_of_ble_eq_true rfl, Nat.le_of_ble_eq_true rfl⟩) ⟨kP_blind, va_recv hKc hPc (ci := 13) (q0 := 0) rfl rfl, kP_go hPc hKc hDc hFc hM hS⟩ rfl rfl hl.1 rfl (lv_room (Nat.le_of_ble_eq_true rfl)) dX11_noon_35 ⟨Nat.le_of_ble_eq_true rfl, Nat.le_of_ble_eq_true rfl⟩) hS (fun q _ h => hFc q h) hFc (fun u t H1 locs ht hvm hw hB hz1 hk1 hS => ?_)
  obtain ⟨hP, hD, hK⟩ := kJ (wr := [(x, .inr (15, [.ref sh, .ref tl, .ref tw, .int 0])), (tl, .inr (3, [.int (0 + 1), .ref q3, .int 1])), (q3, .inl (cA4, 10, .inr (.inr (.inr (.inr (va_up (fun _ => none) 0 (some q2)))))))]) (w1 := []) (t1 := []) hP hD hK [0, 1, 2, 4] [3, 5, 6] rfl rfl (by decide) (by decide) hk1 hFc ht hvm hB
  generalize H1 = H at hP hS ⊢
  have hP : va_P (dC, dI) vwCl [(x, .inr (15, [.ref sh, .ref tl, .ref tw, .int 0])), (tl, .inr (3, [.int (0 + 1), .ref q3, .int 1])), (q3, .inl (cA4, 10, .inr (.inr (.inr (.inr (va_up (fun _ => none) 0 (some q2)))))))] H := hP
  have hD : va_D A [(x, .inr (15, [.ref sh, .ref tl, .ref tw, .int 0])), (tl, .inr (3, [.int (0 + 1), .ref q3, .int 1])), (q3, .inl (cA4, 10, .inr (.inr (.inr (.inr (va_up (fun _ => none) 0 (some q2)))))))] := hD
  have hK : va_K (dC, dI) vwCl [(cA4, .object "java/lang/Object")] s := hK
  clear hw
  refine lv_lload_n hx hb dX11_noon_38 rfl (lv_at hl 0 rfl) ?_
  refine W.widen (k := 2) (n := 14) (Nat.le_of_ble_eq_true rfl) (Nat.le_of_ble_eq_true rfl) ?_
  exact W.lret (v := 0) hx hb hr (fun t ht hW => ⟨⟨0, (), rfl, rfl, kB_end (w9 := []) (t9 := []) hP hK hD [] [] rfl (by decide) rfl rfl t ht hW⟩, hS.F ht⟩) hS.2.2 dX11_noon_39
abbrev wd_k_x_current (z : Nat → Nat) (sh : Nat) (rg : Nat) (dk : Nat) (hd : Nat) (lg : Nat) (pl : Nat) (pr : Nat) (x : Nat) (tl : Nat) (tw : Nat) (p0 : Int32) (p1 : Int32) : va_W := [(x, .inr (15, [.ref sh, .ref tl, .ref tw, .int 0])), (tl, .inr (3, [.int 0, .ref (z 0), .int 0])), (sh, .inr (13, [.ref rg, .ref dk, .ref hd, .ref lg, .ref pl, .ref pr, .int 0, .int 0, .int 0, .int 0, .int 0, .int 0, .int 0, .int 0, .int 0, .int 0, .int 0]))]
set_option maxHeartbeats 4000000 in
set_option maxRecDepth 100000 in
theorem k_x_current (l : Launch) (dC : Nat → ClassId) (dI : Nat → Nat → Nat) (z zK zV : Nat → Nat) (sh : Nat) (rg : Nat) (dk : Nat) (hd : Nat) (lg : Nat) (pl : Nat) (pr : Nat) (x : Nat) (tl : Nat) (tw : Nat) (p0 : Int32) (p1 : Int32) (sz : Nat) (hst : l.stackTraces = false)  : vx_Met l yX11_current wsX11_current ({ frames := 6, cells := 2, slots := 14, locals := 126 }) (kP dC dI z zK zV [.ref x, .int p0, .int p1] sz (wd_k_x_current z sh rg dk hd lg pl pr x tl tw p0 p1) []) (va_Qi (fun (r : Int32) (_ : Unit) => (((-9999 : Int32) ≤ p0 ∧ p0 ≤ 9999) ∧ (-9999 : Int32) ≤ p1 ∧ p1 ≤ 9999) ∧ 0 = r) (fun _ t => kB (dC, dI) (va_A (wd_k_x_current z sh rg dk hd lg pl pr x tl tw p0 p1) sz) [] [] t) (va_A (wd_k_x_current z sh rg dk hd lg pl pr x tl tw p0 p1) sz)) (vx_X (fun _ : Unit => ¬ (((-9999 : Int32) ≤ p0 ∧ p0 ≤ 9999) ∧ (-9999 : Int32) ≤ p1 ∧ p1 ≤ 9999)) (fun E _ _ => "java/lang/IllegalArgumentException" = E) (va_A (wd_k_x_current z sh rg dk hd lg pl pr x tl tw p0 p1) sz)) 2 14 (va_A (wd_k_x_current z sh rg dk hd lg pl pr x tl tw p0 p1) sz) := by
  refine vx_ofW (cc := cX11_current) (maxL := 4) (ret := (some .boolean)) (by decide) rfl ?_
  intro p e s m args below meth c s₁ B hml hnt hv
  obtain ⟨rfl, hsz, hP, hK, hD0, hM⟩ := hv
  have hx := B.exec
  have hb := B.bytes
  have hr := B.returns
  have hts := atoms_spec (ws := wsX11_current) B.pre
  have hown : s.vm.findClass RX11 = some m.cls := findClass_of_methodNamed B.named
  have hlocks := B.notSynchronized
  have hiX11 : ∀ w ∈ u_ws RX11 TX11 4, w ∈ wsX11_current := by decide +kernel
  have hiX9 : ∀ w ∈ u_ws RX9 TX9 17, w ∈ wsX11_current := by decide +kernel
  subst hsz
  have hD := hD0.self (sz := s.heap.size)
  generalize hAe : va_A (wd_k_x_current z sh rg dk hd lg pl pr x tl tw p0 p1) s.heap.size = A at hD hM ⊢
  have hA : ∀ q : Nat, s.heap.size ≤ q → A q := fun q h => by rw [← hAe]; exact Or.inr h
  have hS : va_S A s.heap s.heap [] := va_S.rf
  have hP : va_P (dC, dI) vwCl [(x, .inr (15, [.ref sh, .ref tl, .ref tw, .int 0])), (tl, .inr (3, [.int 0, .ref (z 0), .int 0])), (sh, .inr (13, [.ref rg, .ref dk, .ref hd, .ref lg, .ref pl, .ref pr, .int 0, .int 0, .int 0, .int 0, .int 0, .int 0, .int 0, .int 0, .int 0, .int 0, .int 0]))] s.heap := hP
  have hD : va_D A [(x, .inr (15, [.ref sh, .ref tl, .ref tw, .int 0])), (tl, .inr (3, [.int 0, .ref (z 0), .int 0])), (sh, .inr (13, [.ref rg, .ref dk, .ref hd, .ref lg, .ref pl, .ref pr, .int 0, .int 0, .int 0, .int 0, .int 0, .int 0, .int 0, .int 0, .int 0, .int 0, .int 0]))] := hD
  have hl := lv_entry ([.ref x, .int p0, .int p1]) (n := 4) (Nat.le_of_ble_eq_true rfl)
  rw [lg_entry_eq]
  generalize (lg_sl ([.ref x, .int p0, .int p1]) ++ List.replicate (4 - (lg_sl ([.ref x, .int p0, .int p1])).length) Slot.unset).toArray = ls at hl ⊢
  have hl : lv_has ls 4 [(0, .ref x), (1, .int p0), (2, .int p1)] := hl
  refine lv_iload_n hx hb dX11_current_0 rfl (lv_at hl 1 rfl) ?_
  refine lv_sipush (v := (-9999)) hx hb dX11_current_1 (by decide) ?_
  refine lv_sipush (v := 9999) hx hb dX11_current_4 (by decide) ?_
  have hPc := hP.sub (ws' := []) [] rfl
  have hDc := hD.sub (ws' := []) [] (by decide) rfl
  have hKc := hK.sub (tys' := []) [] rfl
  have hFc := va_free (wc := []) hD hS hA [] rfl
  refine va_calli (va_runS (As := [.int p0, .int (-9999), .int 9999]) (rest := []) ⟨hx, hb, hml, hown, hts⟩ (k_isIn l dC dI z zK zV p0 (-9999) 9999 s.heap.size) (va_cwS 3 hts gX11_current_X11_isIn rfl rfl rfl (by decide +kernel) ⟨Nat.le_of_ble_eq_true rfl, Nat.le_of_ble_eq_true rfl⟩) ⟨kP_blind, kP_go hPc hKc hDc hFc hM hS⟩ rfl rfl hl.1 rfl (lv_room (Nat.le_of_ble_eq_true rfl)) dX11_current_7 ⟨Nat.le_of_ble_eq_true rfl, Nat.le_of_ble_eq_true rfl⟩) hS (fun q _ h => hFc q h) hFc (fun r1 u t H1 locs ht hvm hw hB hz1 hk1 hS => ?_)
  obtain ⟨hP, hD, hK⟩ := kJ (wr := [(x, .inr (15, [.ref sh, .ref tl, .ref tw, .int 0])), (tl, .inr (3, [.int 0, .ref (z 0), .int 0])), (sh, .inr (13, [.ref rg, .ref dk, .ref hd, .ref lg, .ref pl, .ref pr, .int 0, .int 0, .int 0, .int 0, .int 0, .int 0, .int 0, .int 0, .int 0, .int 0, .int 0]))]) (w1 := []) (t1 := []) hP hD hK [] [0, 1, 2] rfl rfl (by decide) (by decide) hk1 hFc ht hvm hB
  generalize H1 = H at hP hS ⊢
  have hP : va_P (dC, dI) vwCl [(x, .inr (15, [.ref sh, .ref tl, .ref tw, .int 0])), (tl, .inr (3, [.int 0, .ref (z 0), .int 0])), (sh, .inr (13, [.ref rg, .ref dk, .ref hd, .ref lg, .ref pl, .ref pr, .int 0, .int 0, .int 0, .int 0, .int 0, .int 0, .int 0, .int 0, .int 0, .int 0, .int 0]))] H := hP
  have hD : va_D A [(x, .inr (15, [.ref sh, .ref tl, .ref tw, .int 0])), (tl, .inr (3, [.int 0, .ref (z 0), .int 0])), (sh, .inr (13, [.ref rg, .ref dk, .ref hd, .ref lg, .ref pl, .ref pr, .int 0, .int 0, .int 0, .int 0, .int 0, .int 0, .int 0, .int 0, .int 0, .int 0, .int 0]))] := hD
  have hK : va_K (dC, dI) vwCl [] s := hK
  obtain rfl : (if (-9999) ≤ p0 ∧ p0 ≤ 9999 then (1 : Int32) else 0) = r1 := hw
  refine lv_if_eq (tgt := 26) hx hb dX11_current_10 (by decide) (fun c2 => ?_) (fun c2 => ?_)
  · skip
    obtain ⟨sa, hsa⟩ := hM.2.1 _ (List.mem_of_getElem? (i := 1) rfl)
    exact vx_throwS (own := RX11) (cls := "java/lang/IllegalArgumentException") (text := "no such current") (names := ["java/lang/RuntimeException", "java/lang/Exception"]) (ik := 34) (is := 52) (ic := 38) (mc := 2) (ms := 14) (sa := sa) hx hb hst hown (by decide) (by decide) (hts (.classLink RX11 34 "java/lang/IllegalArgumentException") (by decide +kernel)) (hts (.initialized "java/lang/IllegalArgumentException") (by decide +kernel)) hsa (vx_hat (fun w h9 => hts w (List.mem_cons_of_mem _ (List.mem_append_left _ (List.mem_append_left _ (List.mem_append_right _ h9))))) (by decide +kernel) (fun w hw => va_Nw.use (List.all_eq_true.mp am_Bt w hw) (hM.2.2.2.2.2.2.2.2.2.1 w hw))) (by decide +kernel) hM.2.2.2.2.2.2.2.1.1 hM.2.2.2.2.2.2.2.1.2 hS (hl.1.trans hml.symm) dX11_current_26 dX11_current_29 dX11_current_30 dX11_current_32 dX11_current_35 (fun x hx => (hnt x hx).elim) (Nat.le_of_ble_eq_true rfl) (Nat.le_of_ble_eq_true rfl) (Nat.le_of_ble_eq_true rfl) (Nat.le_of_ble_eq_true rfl) hlocks (fun t hvm hz hq => ⟨(), (fun h => k_iff c2 h.1), rfl, Nat.le_trans hS.1 hz, fun q h1 h2 => (hq q (Nat.lt_of_lt_of_le h1 hS.1)).trans (hS.2.1 q h1 h2)⟩) hS.2.2 (Nat.le_of_ble_eq_true rfl) (Nat.le_of_ble_eq_true rfl)
  · skip
    refine lv_iload_n hx hb dX11_current_13 rfl (lv_at hl 2 rfl) ?_
    refine lv_sipush (v := (-9999)) hx hb dX11_current_14 (by decide) ?_
    refine lv_sipush (v := 9999) hx hb dX11_current_17 (by decide) ?_
    have hPc := hP.sub (ws' := []) [] rfl
    have hDc := hD.sub (ws' := []) [] (by decide) rfl
    have hKc := hK.sub (tys' := []) [] rfl
    have hFc := va_free (wc := []) hD hS hA [] rfl
    refine va_calli (va_runS (As := [.int p1, .int (-9999), .int 9999]) (rest := []) ⟨hx, hb, hml, hown, hts⟩ (k_isIn l dC dI z zK zV p1 (-9999) 9999 H.size) (va_cwS 3 hts gX11_current_X11_isIn rfl rfl rfl (by decide +kernel) ⟨Nat.le_of_ble_eq_true rfl, Nat.le_of_ble_eq_true rfl⟩) ⟨kP_blind, kP_go hPc hKc hDc hFc hM hS⟩ rfl rfl hl.1 rfl (lv_room (Nat.le_of_ble_eq_true rfl)) dX11_current_20 ⟨Nat.le_of_ble_eq_true rfl, Nat.le_of_ble_eq_true rfl⟩) hS (fun q _ h => hFc q h) hFc (fun r3 u t H1 locs ht hvm hw hB hz1 hk1 hS => ?_)
    obtain ⟨hP, hD, hK⟩ := kJ (wr := [(x, .inr (15, [.ref sh, .ref tl, .ref tw, .int 0])), (tl, .inr (3, [.int 0, .ref (z 0), .int 0])), (sh, .inr (13, [.ref rg, .ref dk, .ref hd, .ref lg, .ref pl, .ref pr, .int 0, .int 0, .int 0, .int 0, .int 0, .int 0, .int 0, .int 0, .int 0, .int 0, .int 0]))]) (w1 := []) (t1 := []) hP hD hK [] [0, 1, 2] rfl rfl (by decide) (by decide) hk1 hFc ht hvm hB
    generalize H1 = H at hP hS ⊢
    have hP : va_P (dC, dI) vwCl [(x, .inr (15, [.ref sh, .ref tl, .ref tw, .int 0])), (tl, .inr (3, [.int 0, .ref (z 0), .int 0])), (sh, .inr (13, [.ref rg, .ref dk, .ref hd, .ref lg, .ref pl, .ref pr, .int 0, .int 0, .int 0, .int 0, .int 0, .int 0, .int 0, .int 0, .int 0, .int 0, .int 0]))] H := hP
    have hD : va_D A [(x, .inr (15, [.ref sh, .ref tl, .ref tw, .int 0])), (tl, .inr (3, [.int 0, .ref (z 0), .int 0])), (sh, .inr (13, [.ref rg, .ref dk, .ref hd, .ref lg, .ref pl, .ref pr, .int 0, .int 0, .int 0, .int 0, .int 0, .int 0, .int 0, .int 0, .int 0, .int 0, .int 0]))] := hD
    have hK : va_K (dC, dI) vwCl [] s := hK
    obtain rfl : (if (-9999) ≤ p1 ∧ p1 ≤ 9999 then (1 : Int32) else 0) = r3 := hw
    refine lv_if_ne (tgt := 36) hx hb dX11_current_23 (by decide) (fun c4 => ?_) (fun c4 => ?_)
    · skip
      refine lv_aload_n hx hb dX11_current_36 rfl (lv_at hl 0 rfl) ?_
      refine va_get (D := (dC, dI)) (ci := 15) (v := .ref sh) (C := RX11) (T := TX11) (N := 4) hx hb hts hiX11 hown hK hP 0 rfl rfl 0 (by decide) (hts (.fieldLink RX11 10 "SquareRig" "ship" "LSquareRig$Ship;") (by decide +kernel)) (fun _ h9 => h9) rfl dX11_current_37 ?_
      refine va_getN (D := (dC, dI)) (ci := 13) (v := .int 0) (C := RX9) (T := TX9) (N := 17) hx hb hts hiX9 hown hK hP 2 rfl rfl 8 (by decide) (va_Nw.use rfl (hM.1 _ (List.mem_of_getElem? (i := 43) rfl))) (fun _ h9 => h9) rfl dX11_current_40 ?_
      refine lv_if_ne (tgt := 56) hx hb dX11_current_43 (by decide) (fun c_ => absurd (by decide +kernel) c_) (fun _ => ?_)
      refine lv_aload_n hx hb dX11_current_46 rfl (lv_at hl 0 rfl) ?_
      refine va_get (D := (dC, dI)) (ci := 15) (v := .ref sh) (C := RX11) (T := TX11) (N := 4) hx hb hts hiX11 hown hK hP 0 rfl rfl 0 (by decide) (hts (.fieldLink RX11 10 "SquareRig" "ship" "LSquareRig$Ship;") (by decide +kernel)) (fun _ h9 => h9) rfl dX11_current_47 ?_
      refine va_getN (D := (dC, dI)) (ci := 13) (v := .int 0) (C := RX9) (T := TX9) (N := 17) hx hb hts hiX9 hown hK hP 2 rfl rfl 9 (by decide) (va_Nw.use rfl (hM.1 _ (List.mem_of_getElem? (i := 44) rfl))) (fun _ h9 => h9) rfl dX11_current_50 ?_
      refine lv_if_eq (tgt := 60) hx hb dX11_current_53 (by decide) (fun _ => ?_) (fun c_ => absurd (by decide +kernel) c_)
      refine lv_iconst (v := 0) hx hb dX11_current_60 (by decide) ?_
      refine lv_istore_n (lv' := [(3, .int 0), (0, .ref x), (1, .int p0), (2, .int p1)]) hx hb dX11_current_61 rfl hl (by decide) rfl (fun ls hl => ?_)
      refine lv_aload_n hx hb dX11_current_62 rfl (lv_at hl 1 rfl) ?_
      refine va_get (D := (dC, dI)) (ci := 15) (v := .ref sh) (C := RX11) (T := TX11) (N := 4) hx hb hts hiX11 hown hK hP 0 rfl rfl 0 (by decide) (hts (.fieldLink RX11 10 "SquareRig" "ship" "LSquareRig$Ship;") (by decide +kernel)) (fun _ h9 => h9) rfl dX11_current_63 ?_
      refine lv_aload_n hx hb dX11_current_66 rfl (lv_at hl 1 rfl) ?_
      refine lv_iconst (v := 1) hx hb dX11_current_67 (by decide) ?_
      refine lv_iload_n hx hb dX11_current_68 rfl (lv_at hl 2 rfl) ?_
      refine lv_iload_n hx hb dX11_current_69 rfl (lv_at hl 3 rfl) ?_
      refine lv_iconst (v := 0) hx hb dX11_current_70 (by decide) ?_
      have hPc := hP.sub (ws' := [(x, .inr (15, [.ref sh, .ref tl, .ref tw, .int 0])), (tl, .inr (3, [.int 0, .ref (z 0), .int 0]))]) [0, 1] rfl
      have hDc := hD.sub (ws' := [(x, .inr (15, [.ref sh, .ref tl, .ref tw, .int 0])), (tl, .inr (3, [.int 0, .ref (z 0), .int 0]))]) [0, 1] (by decide) rfl
      have hKc := hK.sub (tys' := []) [] rfl
      have hFc := va_free (wc := [(x, .inr (15, [.ref sh, .ref tl, .ref tw, .int 0])), (tl, .inr (3, [.int 0, .ref (z 0), .int 0]))]) hD hS hA [0, 1] rfl
      refine va_callr (va_runV (As := [.int 1, .int p0, .int p1, .int 0]) (rest := [.ref sh]) ⟨hx, hb, hml, hown, hts⟩ (k_keep l dC dI z zK zV sh x tl tw 1 p0 p1 0 H.size) (cwV 4 hts gX11_current_X11_keep rfl rfl rfl (by decide +kernel) ⟨Nat.le_of_ble_eq_true rfl, Nat.le_of_ble_eq_true rfl⟩) ⟨kP_blind, va_recv hKc hPc (ci := 15) (q0 := 0) rfl rfl, kP_go hPc hKc hDc hFc hM hS⟩ rfl rfl hl.1 rfl (lv_room (Nat.le_of_ble_eq_true rfl)) dX11_current_71 ⟨Nat.le_of_ble_eq_true rfl, Nat.le_of_ble_eq_true rfl⟩) hS (fun q _ h => hFc q h) hFc (fun u ra5 t H1 locs ht hvm hw hB hz1 hk1 hS => ?_)
      obtain ⟨q6, q7, cA8, rfl, hB⟩ := hB
      obtain ⟨hP, hD, hK⟩ := kJ (wr := [(sh, .inr (13, [.ref rg, .ref dk, .ref hd, .ref lg, .ref pl, .ref pr, .int 0, .int 0, .int 0, .int 0, .int 0, .int 0, .int 0, .int 0, .int 0, .int 0, .int 0]))]) (w1 := [(x, .inr (15, [.ref sh, .ref tl, .ref tw, .int 0])), (q6, .inr (5, [.int 1, .int p0, .int p1, .int 0])), (tl, .inr (3, [.int (0 + 1), .ref q7, .int 1])), (q7, .inl (cA8, 10, .inr (.inr (.inr (.inr (va_up (fun _ => none) 0 (some q6)))))))]) (t1 := [(cA8, .object "java/lang/Object")]) hP hD hK [0, 1] [2] rfl rfl (by decide) (by decide) hk1 hFc ht hvm hB
      generalize H1 = H at hP hS ⊢
      have hP : va_P (dC, dI) vwCl [(sh, .inr (13, [.ref rg, .ref dk, .ref hd, .ref lg, .ref pl, .ref pr, .int 0, .int 0, .int 0, .int 0, .int 0, .int 0, .int 0, .int 0, .int 0, .int 0, .int 0])), (x, .inr (15, [.ref sh, .ref tl, .ref tw, .int 0])), (q6, .inr (5, [.int 1, .int p0, .int p1, .int 0])), (tl, .inr (3, [.int (0 + 1), .ref q7, .int 1])), (q7, .inl (cA8, 10, .inr (.inr (.inr (.inr (va_up (fun _ => none) 0 (some q6)))))))] H := hP
      have hD : va_D A [(sh, .inr (13, [.ref rg, .ref dk, .ref hd, .ref lg, .ref pl, .ref pr, .int 0, .int 0, .int 0, .int 0, .int 0, .int 0, .int 0, .int 0, .int 0, .int 0, .int 0])), (x, .inr (15, [.ref sh, .ref tl, .ref tw, .int 0])), (q6, .inr (5, [.int 1, .int p0, .int p1, .int 0])), (tl, .inr (3, [.int (0 + 1), .ref q7, .int 1])), (q7, .inl (cA8, 10, .inr (.inr (.inr (.inr (va_up (fun _ => none) 0 (some q6)))))))] := hD
      have hK : va_K (dC, dI) vwCl [(cA8, .object "java/lang/Object")] s := hK
      have hPc := hP.sub (ws' := [(sh, .inr (13, [.ref rg, .ref dk, .ref hd, .ref lg, .ref pl, .ref pr, .int 0, .int 0, .int 0, .int 0, .int 0, .int 0, .int 0, .int 0, .int 0, .int 0, .int 0])), (q6, .inr (5, [.int 1, .int p0, .int p1, .int 0]))]) [0, 2] rfl
      have hDc := hD.sub (ws' := [(sh, .inr (13, [.ref rg, .ref dk, .ref hd, .ref lg, .ref pl, .ref pr, .int 0, .int 0, .int 0, .int 0, .int 0, .int 0, .int 0, .int 0, .int 0, .int 0, .int 0])), (q6, .inr (5, [.int 1, .int p0, .int p1, .int 0]))]) [0, 2] (by decide) rfl
      have hKc := hK.sub (tys' := []) [] rfl
      have hFc := va_free (wc := [(sh, .inr (13, [.ref rg, .ref dk, .ref hd, .ref lg, .ref pl, .ref pr, .int 0, .int 0, .int 0, .int 0, .int 0, .int 0, .int 0, .int 0, .int 0, .int 0, .int 0])), (q6, .inr (5, [.int 1, .int p0, .int p1, .int 0]))]) hD hS hA [0, 2] rfl
      refine va_callv (va_runV (As := [.ref q6]) (rest := []) ⟨hx, hb, hml, hown, hts⟩ (k_obey_current l dC dI z zK zV sh rg dk hd lg pl pr q6 p0 p1 0 H.size) (cwV 1 hts gX11_current_X9_obey rfl rfl rfl (by decide +kernel) ⟨Nat.le_of_ble_eq_true rfl, Nat.le_of_ble_eq_true rfl⟩) ⟨kP_blind, va_recv hKc hPc (ci := 13) (q0 := 0) rfl rfl, kP_go hPc hKc hDc hFc hM hS⟩ rfl rfl hl.1 rfl (lv_room (Nat.le_of_ble_eq_true rfl)) dX11_current_74 ⟨Nat.le_of_ble_eq_true rfl, Nat.le_of_ble_eq_true rfl⟩) hS (fun q _ h => hFc q h) hFc (fun u t H1 locs ht hvm hw hB hz1 hk1 hS => ?_)
      obtain ⟨hP, hD, hK⟩ := kJ (wr := [(x, .inr (15, [.ref sh, .ref tl, .ref tw, .int 0])), (tl, .inr (3, [.int (0 + 1), .ref q7, .int 1])), (q7, .inl (cA8, 10, .inr (.inr (.inr (.inr (va_up (fun _ => none) 0 (some q6)))))))]) (w1 := []) (t1 := []) hP hD hK [0, 2] [1, 3, 4] rfl rfl (by decide) (by decide) hk1 hFc ht hvm hB
      generalize H1 = H at hP hS ⊢
      have hP : va_P (dC, dI) vwCl [(x, .inr (15, [.ref sh, .ref tl, .ref tw, .int 0])), (tl, .inr (3, [.int (0 + 1), .ref q7, .int 1])), (q7, .inl (cA8, 10, .inr (.inr (.inr (.inr (va_up (fun _ => none) 0 (some q6)))))))] H := hP
      have hD : va_D A [(x, .inr (15, [.ref sh, .ref tl, .ref tw, .int 0])), (tl, .inr (3, [.int (0 + 1), .ref q7, .int 1])), (q7, .inl (cA8, 10, .inr (.inr (.inr (.inr (va_up (fun _ => none) 0 (some q6)))))))] := hD
      have hK : va_K (dC, dI) vwCl [(cA8, .object "java/lang/Object")] s := hK
      clear hw
      refine lv_iload_n hx hb dX11_current_77 rfl (lv_at hl 0 rfl) ?_
      refine vx_ret ?_
      refine W.widen (k := 2) (n := 14) (Nat.le_of_ble_eq_true rfl) (Nat.le_of_ble_eq_true rfl) ?_
      exact W.zret (v := 0) hx hb hr (by decide +kernel) (fun t ht hW => ⟨⟨0, (), rfl, ⟨⟨k_ift c2, k_ift c4⟩, rfl⟩, kB_end (w9 := []) (t9 := []) hP hK hD [] [] rfl (by decide) rfl rfl t ht hW⟩, hS.F ht⟩) hS.2.2 dX11_current_78
    · skip
      obtain ⟨sa, hsa⟩ := hM.2.1 _ (List.mem_of_getElem? (i := 1) rfl)
      exact vx_throwS (own := RX11) (cls := "java/lang/IllegalArgumentException") (text := "no such current") (names := ["java/lang/RuntimeException", "java/lang/Exception"]) (ik := 34) (is := 52) (ic := 38) (mc := 2) (ms := 14) (sa := sa) hx hb hst hown (by decide) (by decide) (hts (.classLink RX11 34 "java/lang/IllegalArgumentException") (by decide +kernel)) (hts (.initialized "java/lang/IllegalArgumentException") (by decide +kernel)) hsa (vx_hat (fun w h9 => hts w (List.mem_cons_of_mem _ (List.mem_append_left _ (List.mem_append_left _ (List.mem_append_right _ h9))))) (by decide +kernel) (fun w hw => va_Nw.use (List.all_eq_true.mp am_Bt w hw) (hM.2.2.2.2.2.2.2.2.2.1 w hw))) (by decide +kernel) hM.2.2.2.2.2.2.2.1.1 hM.2.2.2.2.2.2.2.1.2 hS (hl.1.trans hml.symm) dX11_current_26 dX11_current_29 dX11_current_30 dX11_current_32 dX11_current_35 (fun x hx => (hnt x hx).elim) (Nat.le_of_ble_eq_true rfl) (Nat.le_of_ble_eq_true rfl) (Nat.le_of_ble_eq_true rfl) (Nat.le_of_ble_eq_true rfl) hlocks (fun t hvm hz hq => ⟨(), (fun h => k_iff c4 h.2), rfl, Nat.le_trans hS.1 hz, fun q h1 h2 => (hq q (Nat.lt_of_lt_of_le h1 hS.1)).trans (hS.2.1 q h1 h2)⟩) hS.2.2 (Nat.le_of_ble_eq_true rfl) (Nat.le_of_ble_eq_true rfl)
abbrev wd_k_x_helm (z : Nat → Nat) (sh : Nat) (rg : Nat) (dk : Nat) (hd : Nat) (lg : Nat) (pl : Nat) (pr : Nat) (x : Nat) (tl : Nat) (tw : Nat) (p0 : Int32) : va_W := [(x, .inr (15, [.ref sh, .ref tl, .ref tw, .int 0])), (tl, .inr (3, [.int 0, .ref (z 0), .int 0])), (sh, .inr (13, [.ref rg, .ref dk, .ref hd, .ref lg, .ref pl, .ref pr, .int 0, .int 0, .int 0, .int 0, .int 0, .int 0, .int 0, .int 0, .int 0, .int 0, .int 0]))]
set_option maxHeartbeats 4000000 in
set_option maxRecDepth 100000 in
theorem k_x_helm (l : Launch) (dC : Nat → ClassId) (dI : Nat → Nat → Nat) (z zK zV : Nat → Nat) (sh : Nat) (rg : Nat) (dk : Nat) (hd : Nat) (lg : Nat) (pl : Nat) (pr : Nat) (x : Nat) (tl : Nat) (tw : Nat) (p0 : Int32) (sz : Nat) (hst : l.stackTraces = false)  : vx_Met l yX11_helm wsX11_helm ({ frames := 6, cells := 2, slots := 14, locals := 126 }) (kP dC dI z zK zV [.ref x, .int p0] sz (wd_k_x_helm z sh rg dk hd lg pl pr x tl tw p0) []) (va_Qi (fun (r : Int32) (_ : Unit) => ((-3 : Int32) ≤ p0 ∧ p0 ≤ 3) ∧ 0 = r) (fun _ t => kB (dC, dI) (va_A (wd_k_x_helm z sh rg dk hd lg pl pr x tl tw p0) sz) [] [] t) (va_A (wd_k_x_helm z sh rg dk hd lg pl pr x tl tw p0) sz)) (vx_X (fun _ : Unit => ¬ ((-3 : Int32) ≤ p0 ∧ p0 ≤ 3)) (fun E _ _ => "java/lang/IllegalArgumentException" = E) (va_A (wd_k_x_helm z sh rg dk hd lg pl pr x tl tw p0) sz)) 2 14 (va_A (wd_k_x_helm z sh rg dk hd lg pl pr x tl tw p0) sz) := by
  refine vx_ofW (cc := cX11_helm) (maxL := 3) (ret := (some .int)) (by decide) rfl ?_
  intro p e s m args below meth c s₁ B hml hnt hv
  obtain ⟨rfl, hsz, hP, hK, hD0, hM⟩ := hv
  have hx := B.exec
  have hb := B.bytes
  have hr := B.returns
  have hts := atoms_spec (ws := wsX11_helm) B.pre
  have hown : s.vm.findClass RX11 = some m.cls := findClass_of_methodNamed B.named
  have hlocks := B.notSynchronized
  have hiX11 : ∀ w ∈ u_ws RX11 TX11 4, w ∈ wsX11_helm := by decide +kernel
  have hiX9 : ∀ w ∈ u_ws RX9 TX9 17, w ∈ wsX11_helm := by decide +kernel
  subst hsz
  have hD := hD0.self (sz := s.heap.size)
  generalize hAe : va_A (wd_k_x_helm z sh rg dk hd lg pl pr x tl tw p0) s.heap.size = A at hD hM ⊢
  have hA : ∀ q : Nat, s.heap.size ≤ q → A q := fun q h => by rw [← hAe]; exact Or.inr h
  have hS : va_S A s.heap s.heap [] := va_S.rf
  have hP : va_P (dC, dI) vwCl [(x, .inr (15, [.ref sh, .ref tl, .ref tw, .int 0])), (tl, .inr (3, [.int 0, .ref (z 0), .int 0])), (sh, .inr (13, [.ref rg, .ref dk, .ref hd, .ref lg, .ref pl, .ref pr, .int 0, .int 0, .int 0, .int 0, .int 0, .int 0, .int 0, .int 0, .int 0, .int 0, .int 0]))] s.heap := hP
  have hD : va_D A [(x, .inr (15, [.ref sh, .ref tl, .ref tw, .int 0])), (tl, .inr (3, [.int 0, .ref (z 0), .int 0])), (sh, .inr (13, [.ref rg, .ref dk, .ref hd, .ref lg, .ref pl, .ref pr, .int 0, .int 0, .int 0, .int 0, .int 0, .int 0, .int 0, .int 0, .int 0, .int 0, .int 0]))] := hD
  have hl := lv_entry ([.ref x, .int p0]) (n := 3) (Nat.le_of_ble_eq_true rfl)
  rw [lg_entry_eq]
  generalize (lg_sl ([.ref x, .int p0]) ++ List.replicate (3 - (lg_sl ([.ref x, .int p0])).length) Slot.unset).toArray = ls at hl ⊢
  have hl : lv_has ls 3 [(0, .ref x), (1, .int p0)] := hl
  refine lv_iload_n hx hb dX11_helm_0 rfl (lv_at hl 1 rfl) ?_
  refine lv_bipush (v := (-3)) hx hb dX11_helm_1 (by decide) ?_
  refine lv_iconst (v := 3) hx hb dX11_helm_3 (by decide) ?_
  have hPc := hP.sub (ws' := []) [] rfl
  have hDc := hD.sub (ws' := []) [] (by decide) rfl
  have hKc := hK.sub (tys' := []) [] rfl
  have hFc := va_free (wc := []) hD hS hA [] rfl
  refine va_calli (va_runS (As := [.int p0, .int (-3), .int 3]) (rest := []) ⟨hx, hb, hml, hown, hts⟩ (k_isIn l dC dI z zK zV p0 (-3) 3 s.heap.size) (va_cwS 3 hts gX11_helm_X11_isIn rfl rfl rfl (by decide +kernel) ⟨Nat.le_of_ble_eq_true rfl, Nat.le_of_ble_eq_true rfl⟩) ⟨kP_blind, kP_go hPc hKc hDc hFc hM hS⟩ rfl rfl hl.1 rfl (lv_room (Nat.le_of_ble_eq_true rfl)) dX11_helm_4 ⟨Nat.le_of_ble_eq_true rfl, Nat.le_of_ble_eq_true rfl⟩) hS (fun q _ h => hFc q h) hFc (fun r1 u t H1 locs ht hvm hw hB hz1 hk1 hS => ?_)
  obtain ⟨hP, hD, hK⟩ := kJ (wr := [(x, .inr (15, [.ref sh, .ref tl, .ref tw, .int 0])), (tl, .inr (3, [.int 0, .ref (z 0), .int 0])), (sh, .inr (13, [.ref rg, .ref dk, .ref hd, .ref lg, .ref pl, .ref pr, .int 0, .int 0, .int 0, .int 0, .int 0, .int 0, .int 0, .int 0, .int 0, .int 0, .int 0]))]) (w1 := []) (t1 := []) hP hD hK [] [0, 1, 2] rfl rfl (by decide) (by decide) hk1 hFc ht hvm hB
  generalize H1 = H at hP hS ⊢
  have hP : va_P (dC, dI) vwCl [(x, .inr (15, [.ref sh, .ref tl, .ref tw, .int 0])), (tl, .inr (3, [.int 0, .ref (z 0), .int 0])), (sh, .inr (13, [.ref rg, .ref dk, .ref hd, .ref lg, .ref pl, .ref pr, .int 0, .int 0, .int 0, .int 0, .int 0, .int 0, .int 0, .int 0, .int 0, .int 0, .int 0]))] H := hP
  have hD : va_D A [(x, .inr (15, [.ref sh, .ref tl, .ref tw, .int 0])), (tl, .inr (3, [.int 0, .ref (z 0), .int 0])), (sh, .inr (13, [.ref rg, .ref dk, .ref hd, .ref lg, .ref pl, .ref pr, .int 0, .int 0, .int 0, .int 0, .int 0, .int 0, .int 0, .int 0, .int 0, .int 0, .int 0]))] := hD
  have hK : va_K (dC, dI) vwCl [] s := hK
  obtain rfl : (if (-3) ≤ p0 ∧ p0 ≤ 3 then (1 : Int32) else 0) = r1 := hw
  refine lv_if_ne (tgt := 20) hx hb dX11_helm_7 (by decide) (fun c2 => ?_) (fun c2 => ?_)
  · skip
    refine lv_aload_n hx hb dX11_helm_20 rfl (lv_at hl 0 rfl) ?_
    refine va_get (D := (dC, dI)) (ci := 15) (v := .ref sh) (C := RX11) (T := TX11) (N := 4) hx hb hts hiX11 hown hK hP 0 rfl rfl 0 (by decide) (hts (.fieldLink RX11 10 "SquareRig" "ship" "LSquareRig$Ship;") (by decide +kernel)) (fun _ h9 => h9) rfl dX11_helm_21 ?_
    refine va_getN (D := (dC, dI)) (ci := 13) (v := .int 0) (C := RX9) (T := TX9) (N := 17) hx hb hts hiX9 hown hK hP 2 rfl rfl 10 (by decide) (va_Nw.use rfl (hM.1 _ (List.mem_of_getElem? (i := 45) rfl))) (fun _ h9 => h9) rfl dX11_helm_24 ?_
    refine lv_istore_n (lv' := [(2, .int 0), (0, .ref x), (1, .int p0)]) hx hb dX11_helm_27 rfl hl (by decide) rfl (fun ls hl => ?_)
    refine lv_aload_n hx hb dX11_helm_28 rfl (lv_at hl 1 rfl) ?_
    refine va_get (D := (dC, dI)) (ci := 15) (v := .ref sh) (C := RX11) (T := TX11) (N := 4) hx hb hts hiX11 hown hK hP 0 rfl rfl 0 (by decide) (hts (.fieldLink RX11 10 "SquareRig" "ship" "LSquareRig$Ship;") (by decide +kernel)) (fun _ h9 => h9) rfl dX11_helm_29 ?_
    refine lv_aload_n hx hb dX11_helm_32 rfl (lv_at hl 1 rfl) ?_
    refine lv_iconst (v := 2) hx hb dX11_helm_33 (by decide) ?_
    refine lv_iload_n hx hb dX11_helm_34 rfl (lv_at hl 2 rfl) ?_
    refine lv_iconst (v := 0) hx hb dX11_helm_35 (by decide) ?_
    refine lv_iconst (v := 0) hx hb dX11_helm_36 (by decide) ?_
    have hPc := hP.sub (ws' := [(x, .inr (15, [.ref sh, .ref tl, .ref tw, .int 0])), (tl, .inr (3, [.int 0, .ref (z 0), .int 0]))]) [0, 1] rfl
    have hDc := hD.sub (ws' := [(x, .inr (15, [.ref sh, .ref tl, .ref tw, .int 0])), (tl, .inr (3, [.int 0, .ref (z 0), .int 0]))]) [0, 1] (by decide) rfl
    have hKc := hK.sub (tys' := []) [] rfl
    have hFc := va_free (wc := [(x, .inr (15, [.ref sh, .ref tl, .ref tw, .int 0])), (tl, .inr (3, [.int 0, .ref (z 0), .int 0]))]) hD hS hA [0, 1] rfl
    refine va_callr (va_runV (As := [.int 2, .int p0, .int 0, .int 0]) (rest := [.ref sh]) ⟨hx, hb, hml, hown, hts⟩ (k_keep l dC dI z zK zV sh x tl tw 2 p0 0 0 H.size) (cwV 4 hts gX11_helm_X11_keep rfl rfl rfl (by decide +kernel) ⟨Nat.le_of_ble_eq_true rfl, Nat.le_of_ble_eq_true rfl⟩) ⟨kP_blind, va_recv hKc hPc (ci := 15) (q0 := 0) rfl rfl, kP_go hPc hKc hDc hFc hM hS⟩ rfl rfl hl.1 rfl (lv_room (Nat.le_of_ble_eq_true rfl)) dX11_helm_37 ⟨Nat.le_of_ble_eq_true rfl, Nat.le_of_ble_eq_true rfl⟩) hS (fun q _ h => hFc q h) hFc (fun u ra3 t H1 locs ht hvm hw hB hz1 hk1 hS => ?_)
    obtain ⟨q4, q5, cA6, rfl, hB⟩ := hB
    obtain ⟨hP, hD, hK⟩ := kJ (wr := [(sh, .inr (13, [.ref rg, .ref dk, .ref hd, .ref lg, .ref pl, .ref pr, .int 0, .int 0, .int 0, .int 0, .int 0, .int 0, .int 0, .int 0, .int 0, .int 0, .int 0]))]) (w1 := [(x, .inr (15, [.ref sh, .ref tl, .ref tw, .int 0])), (q4, .inr (5, [.int 2, .int p0, .int 0, .int 0])), (tl, .inr (3, [.int (0 + 1), .ref q5, .int 1])), (q5, .inl (cA6, 10, .inr (.inr (.inr (.inr (va_up (fun _ => none) 0 (some q4)))))))]) (t1 := [(cA6, .object "java/lang/Object")]) hP hD hK [0, 1] [2] rfl rfl (by decide) (by decide) hk1 hFc ht hvm hB
    generalize H1 = H at hP hS ⊢
    have hP : va_P (dC, dI) vwCl [(sh, .inr (13, [.ref rg, .ref dk, .ref hd, .ref lg, .ref pl, .ref pr, .int 0, .int 0, .int 0, .int 0, .int 0, .int 0, .int 0, .int 0, .int 0, .int 0, .int 0])), (x, .inr (15, [.ref sh, .ref tl, .ref tw, .int 0])), (q4, .inr (5, [.int 2, .int p0, .int 0, .int 0])), (tl, .inr (3, [.int (0 + 1), .ref q5, .int 1])), (q5, .inl (cA6, 10, .inr (.inr (.inr (.inr (va_up (fun _ => none) 0 (some q4)))))))] H := hP
    have hD : va_D A [(sh, .inr (13, [.ref rg, .ref dk, .ref hd, .ref lg, .ref pl, .ref pr, .int 0, .int 0, .int 0, .int 0, .int 0, .int 0, .int 0, .int 0, .int 0, .int 0, .int 0])), (x, .inr (15, [.ref sh, .ref tl, .ref tw, .int 0])), (q4, .inr (5, [.int 2, .int p0, .int 0, .int 0])), (tl, .inr (3, [.int (0 + 1), .ref q5, .int 1])), (q5, .inl (cA6, 10, .inr (.inr (.inr (.inr (va_up (fun _ => none) 0 (some q4)))))))] := hD
    have hK : va_K (dC, dI) vwCl [(cA6, .object "java/lang/Object")] s := hK
    have hPc := hP.sub (ws' := [(sh, .inr (13, [.ref rg, .ref dk, .ref hd, .ref lg, .ref pl, .ref pr, .int 0, .int 0, .int 0, .int 0, .int 0, .int 0, .int 0, .int 0, .int 0, .int 0, .int 0])), (q4, .inr (5, [.int 2, .int p0, .int 0, .int 0]))]) [0, 2] rfl
    have hDc := hD.sub (ws' := [(sh, .inr (13, [.ref rg, .ref dk, .ref hd, .ref lg, .ref pl, .ref pr, .int 0, .int 0, .int 0, .int 0, .int 0, .int 0, .int 0, .int 0, .int 0, .int 0, .int 0])), (q4, .inr (5, [.int 2, .int p0, .int 0, .int 0]))]) [0, 2] (by decide) rfl
    have hKc := hK.sub (tys' := []) [] rfl
    have hFc := va_free (wc := [(sh, .inr (13, [.ref rg, .ref dk, .ref hd, .ref lg, .ref pl, .ref pr, .int 0, .int 0, .int 0, .int 0, .int 0, .int 0, .int 0, .int 0, .int 0, .int 0, .int 0])), (q4, .inr (5, [.int 2, .int p0, .int 0, .int 0]))]) hD hS hA [0, 2] rfl
    refine va_callv (va_runV (As := [.ref q4]) (rest := []) ⟨hx, hb, hml, hown, hts⟩ (k_obey_helm l dC dI z zK zV sh rg dk hd lg pl pr q4 p0 0 0 H.size) (cwV 1 hts gX11_helm_X9_obey rfl rfl rfl (by decide +kernel) ⟨Nat.le_of_ble_eq_true rfl, Nat.le_of_ble_eq_true rfl⟩) ⟨kP_blind, va_recv hKc hPc (ci := 13) (q0 := 0) rfl rfl, kP_go hPc hKc hDc hFc hM hS⟩ rfl rfl hl.1 rfl (lv_room (Nat.le_of_ble_eq_true rfl)) dX11_helm_40 ⟨Nat.le_of_ble_eq_true rfl, Nat.le_of_ble_eq_true rfl⟩) hS (fun q _ h => hFc q h) hFc (fun u t H1 locs ht hvm hw hB hz1 hk1 hS => ?_)
    obtain ⟨hP, hD, hK⟩ := kJ (wr := [(x, .inr (15, [.ref sh, .ref tl, .ref tw, .int 0])), (tl, .inr (3, [.int (0 + 1), .ref q5, .int 1])), (q5, .inl (cA6, 10, .inr (.inr (.inr (.inr (va_up (fun _ => none) 0 (some q4)))))))]) (w1 := []) (t1 := []) hP hD hK [0, 2] [1, 3, 4] rfl rfl (by decide) (by decide) hk1 hFc ht hvm hB
    generalize H1 = H at hP hS ⊢
    have hP : va_P (dC, dI) vwCl [(x, .inr (15, [.ref sh, .ref tl, .ref tw, .int 0])), (tl, .inr (3, [.int (0 + 1), .ref q5, .int 1])), (q5, .inl (cA6, 10, .inr (.inr (.inr (.inr (va_up (fun _ => none) 0 (some q4)))))))] H := hP
    have hD : va_D A [(x, .inr (15, [.ref sh, .ref tl, .ref tw, .int 0])), (tl, .inr (3, [.int (0 + 1), .ref q5, .int 1])), (q5, .inl (cA6, 10, .inr (.inr (.inr (.inr (va_up (fun _ => none) 0 (some q4)))))))] := hD
    have hK : va_K (dC, dI) vwCl [(cA6, .object "java/lang/Object")] s := hK
    clear hw
    refine lv_iload_n hx hb dX11_helm_43 rfl (lv_at hl 0 rfl) ?_
    refine vx_ret ?_
    refine W.widen (k := 2) (n := 14) (Nat.le_of_ble_eq_true rfl) (Nat.le_of_ble_eq_true rfl) ?_
    exact W.iret (v := 0) hx hb hr (fun t ht hW => ⟨⟨0, (), rfl, ⟨(k_ift c2), rfl⟩, kB_end (w9 := []) (t9 := []) hP hK hD [] [] rfl (by decide) rfl rfl t ht hW⟩, hS.F ht⟩) hS.2.2 dX11_helm_44
  · skip
    obtain ⟨sa, hsa⟩ := hM.2.1 _ (List.mem_of_getElem? (i := 2) rfl)
    exact vx_throwS (own := RX11) (cls := "java/lang/IllegalArgumentException") (text := "the helm does not go so far") (names := ["java/lang/RuntimeException", "java/lang/Exception"]) (ik := 34) (is := 60) (ic := 38) (mc := 2) (ms := 14) (sa := sa) hx hb hst hown (by decide) (by decide) (hts (.classLink RX11 34 "java/lang/IllegalArgumentException") (by decide +kernel)) (hts (.initialized "java/lang/IllegalArgumentException") (by decide +kernel)) hsa (vx_hat (fun w h9 => hts w (List.mem_cons_of_mem _ (List.mem_append_left _ (List.mem_append_left _ (List.mem_append_right _ h9))))) (by decide +kernel) (fun w hw => va_Nw.use (List.all_eq_true.mp am_Bt w hw) (hM.2.2.2.2.2.2.2.2.2.1 w hw))) (by decide +kernel) hM.2.2.2.2.2.2.2.1.1 hM.2.2.2.2.2.2.2.1.2 hS (hl.1.trans hml.symm) dX11_helm_10 dX11_helm_13 dX11_helm_14 dX11_helm_16 dX11_helm_19 (fun x hx => (hnt x hx).elim) (Nat.le_of_ble_eq_true rfl) (Nat.le_of_ble_eq_true rfl) (Nat.le_of_ble_eq_true rfl) (Nat.le_of_ble_eq_true rfl) hlocks (fun t hvm hz hq => ⟨(), (k_iff c2), rfl, Nat.le_trans hS.1 hz, fun q h1 h2 => (hq q (Nat.lt_of_lt_of_le h1 hS.1)).trans (hS.2.1 q h1 h2)⟩) hS.2.2 (Nat.le_of_ble_eq_true rfl) (Nat.le_of_ble_eq_true rfl)
abbrev wd_k_find (z : Nat → Nat) (dk : Nat) (w0 : Nat) (w1 : Nat) (ol : Nat) (p0 : Int32) : va_W := [(dk, .inr (4, [.ref w0, .ref w1, .ref ol, .int 0, .int 0, .int 0, .int 0])), (ol, .inr (3, [.int 0, .ref (z 0), .int 0]))]
set_option maxHeartbeats 4000000 in
set_option maxRecDepth 100000 in
theorem k_find (l : Launch) (dC : Nat → ClassId) (dI : Nat → Nat → Nat) (z zK zV : Nat → Nat) (dk : Nat) (w0 : Nat) (w1 : Nat) (ol : Nat) (p0 : Int32) (sz : Nat)  : Met l yX0_find wsX0_find ({ frames := 1, cells := 0, slots := 0, locals := 20 }) (kP dC dI z zK zV [.ref dk, .int p0] sz (wd_k_find z dk w0 w1 ol p0) []) (va_Qq (fun (r : Option Nat) (_ : Unit) => none = r) (fun _ t => kB (dC, dI) (va_A (wd_k_find z dk w0 w1 ol p0) sz) [] [] t) (va_A (wd_k_find z dk w0 w1 ol p0) sz)) 0 0 (va_A (wd_k_find z dk w0 w1 ol p0) sz) := by
  refine Met.ofW (cc := cX0_find) (maxL := 2) (ret := (some (.object "SquareRig$Order"))) (by decide) rfl ?_
  intro p e s m args below meth c s₁ B hml hv
  obtain ⟨rfl, hsz, hP, hK, hD0, hM⟩ := hv
  have hx := B.exec
  have hb := B.bytes
  have hr := B.returns
  have hts := atoms_spec (ws := wsX0_find) B.pre
  have hown : s.vm.findClass RX0 = some m.cls := findClass_of_methodNamed B.named
  have hlocks := B.notSynchronized
  have hiX0 : ∀ w ∈ u_ws RX0 TX0 7, w ∈ wsX0_find := by decide +kernel
  subst hsz
  have hD := hD0.self (sz := s.heap.size)
  generalize hAe : va_A (wd_k_find z dk w0 w1 ol p0) s.heap.size = A at hD hM ⊢
  have hA : ∀ q : Nat, s.heap.size ≤ q → A q := fun q h => by rw [← hAe]; exact Or.inr h
  have hS : va_S A s.heap s.heap [] := va_S.rf
  have hP : va_P (dC, dI) vwCl [(dk, .inr (4, [.ref w0, .ref w1, .ref ol, .int 0, .int 0, .int 0, .int 0])), (ol, .inr (3, [.int 0, .ref (z 0), .int 0]))] s.heap := hP
  have hD : va_D A [(dk, .inr (4, [.ref w0, .ref w1, .ref ol, .int 0, .int 0, .int 0, .int 0])), (ol, .inr (3, [.int 0, .ref (z 0), .int 0]))] := hD
  have hl := lv_entry ([.ref dk, .int p0]) (n := 2) (Nat.le_of_ble_eq_true rfl)
  rw [lg_entry_eq]
  generalize (lg_sl ([.ref dk, .int p0]) ++ List.replicate (2 - (lg_sl ([.ref dk, .int p0])).length) Slot.unset).toArray = ls at hl ⊢
  have hl : lv_has ls 2 [(0, .ref dk), (1, .int p0)] := hl
  refine lv_iload_n hx hb dX0_find_0 rfl (lv_at hl 1 rfl) ?_
  refine lv_if_lt (tgt := 29) hx hb dX0_find_1 (by decide) (fun c1 => ?_) (fun c1 => ?_)
  · skip
    refine lv_null hx hb dX0_find_29 ?_
    exact W.aret (v := .null) hx hb hr (Or.inl ⟨_, rfl⟩) (Or.inl rfl) (fun t ht hW => ⟨⟨none, (), rfl, rfl, kB_end (w9 := []) (t9 := []) hP hK hD [] [] rfl (by decide) rfl rfl t ht hW⟩, hS.F ht⟩) hS.2.2 dX0_find_30
  · skip
    refine lv_iload_n hx hb dX0_find_4 rfl (lv_at hl 1 rfl) ?_
    refine lv_aload_n hx hb dX0_find_5 rfl (lv_at hl 0 rfl) ?_
    refine va_get (D := (dC, dI)) (ci := 4) (v := .ref ol) (C := RX0) (T := TX0) (N := 7) hx hb hts hiX0 hown hK hP 0 rfl rfl 2 (by decide) (hts (.fieldLink RX0 24 "SquareRig$Deck" "orders" "Ljava/util/ArrayList;") (by decide +kernel)) (fun _ h9 => h9) rfl dX0_find_6 ?_
    have hPc := hP.sub (ws' := [(ol, .inr (3, [.int 0, .ref (z 0), .int 0]))]) [1] rfl
    have hDc := hD.sub (ws' := [(ol, .inr (3, [.int 0, .ref (z 0), .int 0]))]) [1] (by decide) rfl
    have hKc := hK.sub (tys' := []) [] rfl
    have hFc := va_free (wc := [(ol, .inr (3, [.int 0, .ref (z 0), .int 0]))]) hD hS hA [1] rfl
    refine va_calli (va_runV (As := []) (rest := [.int p0]) ⟨hx, hb, hml, hown, hts⟩ (k_size0 l dC dI z zK zV ol s.heap.size) (cwV 0 hts gX0_find_Jx4a65c_size_8abf5 rfl rfl rfl (by decide +kernel) ⟨Nat.le_of_ble_eq_true rfl, Nat.le_of_ble_eq_true rfl⟩) ⟨kP_blind, va_recv hKc hPc (ci := 3) (q0 := 0) rfl rfl, kP_go hPc hKc hDc hFc hM hS⟩ rfl rfl hl.1 rfl (lv_room (Nat.le_of_ble_eq_true rfl)) dX0_find_9 ⟨Nat.le_of_ble_eq_true rfl, Nat.le_of_ble_eq_true rfl⟩) hS (fun q _ h => hFc q h) hFc (fun r2 u t H1 locs ht hvm hw hB hz1 hk1 hS => ?_)
    obtain ⟨hP, hD, hK⟩ := kJ (wr := [(dk, .inr (4, [.ref w0, .ref w1, .ref ol, .int 0, .int 0, .int 0, .int 0]))]) (w1 := [(ol, .inr (3, [.int 0, .ref (z 0), .int 0]))]) (t1 := []) hP hD hK [1] [0] rfl rfl (by decide) (by decide) hk1 hFc ht hvm hB
    generalize H1 = H at hP hS ⊢
    have hP : va_P (dC, dI) vwCl [(dk, .inr (4, [.ref w0, .ref w1, .ref ol, .int 0, .int 0, .int 0, .int 0])), (ol, .inr (3, [.int 0, .ref (z 0), .int 0]))] H := hP
    have hD : va_D A [(dk, .inr (4, [.ref w0, .ref w1, .ref ol, .int 0, .int 0, .int 0, .int 0])), (ol, .inr (3, [.int 0, .ref (z 0), .int 0]))] := hD
    have hK : va_K (dC, dI) vwCl [] s := hK
    obtain rfl : 0 = r2 := hw
    refine lv_icmp_ge (tgt := 29) hx hb dX0_find_12 (by decide) (fun _ => ?_) (fun c_ => absurd (k_nlt c1) c_)
    refine lv_null hx hb dX0_find_29 ?_
    exact W.aret (v := .null) hx hb hr (Or.inl ⟨_, rfl⟩) (Or.inl rfl) (fun t ht hW => ⟨⟨none, (), rfl, rfl, kB_end (w9 := []) (t9 := []) hP hK hD [] [] rfl (by decide) rfl rfl t ht hW⟩, hS.F ht⟩) hS.2.2 dX0_find_30
abbrev wd_k_x_belay (z : Nat → Nat) (sh : Nat) (rg : Nat) (dk : Nat) (w0 : Nat) (w1 : Nat) (ol : Nat) (hd : Nat) (lg : Nat) (pl : Nat) (pr : Nat) (x : Nat) (tl : Nat) (tw : Nat) (p0 : Int32) : va_W := [(x, .inr (15, [.ref sh, .ref tl, .ref tw, .int 0])), (sh, .inr (13, [.ref rg, .ref dk, .ref hd, .ref lg, .ref pl, .ref pr, .int 0, .int 0, .int 0, .int 0, .int 0, .int 0, .int 0, .int 0, .int 0, .int 0, .int 0])), (dk, .inr (4, [.ref w0, .ref w1, .ref ol, .int 0, .int 0, .int 0, .int 0])), (ol, .inr (3, [.int 0, .ref (z 0), .int 0]))]
set_option maxHeartbeats 4000000 in
set_option maxRecDepth 100000 in
theorem k_x_belay (l : Launch) (dC : Nat → ClassId) (dI : Nat → Nat → Nat) (z zK zV : Nat → Nat) (sh : Nat) (rg : Nat) (dk : Nat) (w0 : Nat) (w1 : Nat) (ol : Nat) (hd : Nat) (lg : Nat) (pl : Nat) (pr : Nat) (x : Nat) (tl : Nat) (tw : Nat) (p0 : Int32) (sz : Nat) (hst : l.stackTraces = false)  : vx_Met l yX11_belay wsX11_belay ({ frames := 6, cells := 1, slots := 6, locals := 82 }) (kP dC dI z zK zV [.ref x, .int p0] sz (wd_k_x_belay z sh rg dk w0 w1 ol hd lg pl pr x tl tw p0) []) (va_Qi (fun (r : Int32) (_ : Unit) => False) (fun _ t => kB (dC, dI) (va_A (wd_k_x_belay z sh rg dk w0 w1 ol hd lg pl pr x tl tw p0) sz) [] [] t) (va_A (wd_k_x_belay z sh rg dk w0 w1 ol hd lg pl pr x tl tw p0) sz)) (vx_X (fun _ : Unit => True) (fun E _ _ => "java/lang/IndexOutOfBoundsException" = E) (va_A (wd_k_x_belay z sh rg dk w0 w1 ol hd lg pl pr x tl tw p0) sz)) 1 6 (va_A (wd_k_x_belay z sh rg dk w0 w1 ol hd lg pl pr x tl tw p0) sz) := by
  refine vx_ofW (cc := cX11_belay) (maxL := 3) (ret := (some .int)) (by decide) rfl ?_
  intro p e s m args below meth c s₁ B hml hnt hv
  obtain ⟨rfl, hsz, hP, hK, hD0, hM⟩ := hv
  have hx := B.exec
  have hb := B.bytes
  have hr := B.returns
  have hts := atoms_spec (ws := wsX11_belay) B.pre
  have hown : s.vm.findClass RX11 = some m.cls := findClass_of_methodNamed B.named
  have hlocks := B.notSynchronized
  have hiX11 : ∀ w ∈ u_ws RX11 TX11 4, w ∈ wsX11_belay := by decide +kernel
  have hiX9 : ∀ w ∈ u_ws RX9 TX9 17, w ∈ wsX11_belay := by decide +kernel
  subst hsz
  have hD := hD0.self (sz := s.heap.size)
  generalize hAe : va_A (wd_k_x_belay z sh rg dk w0 w1 ol hd lg pl pr x tl tw p0) s.heap.size = A at hD hM ⊢
  have hA : ∀ q : Nat, s.heap.size ≤ q → A q := fun q h => by rw [← hAe]; exact Or.inr h
  have hS : va_S A s.heap s.heap [] := va_S.rf
  have hP : va_P (dC, dI) vwCl [(x, .inr (15, [.ref sh, .ref tl, .ref tw, .int 0])), (sh, .inr (13, [.ref rg, .ref dk, .ref hd, .ref lg, .ref pl, .ref pr, .int 0, .int 0, .int 0, .int 0, .int 0, .int 0, .int 0, .int 0, .int 0, .int 0, .int 0])), (dk, .inr (4, [.ref w0, .ref w1, .ref ol, .int 0, .int 0, .int 0, .int 0])), (ol, .inr (3, [.int 0, .ref (z 0), .int 0]))] s.heap := hP
  have hD : va_D A [(x, .inr (15, [.ref sh, .ref tl, .ref tw, .int 0])), (sh, .inr (13, [.ref rg, .ref dk, .ref hd, .ref lg, .ref pl, .ref pr, .int 0, .int 0, .int 0, .int 0, .int 0, .int 0, .int 0, .int 0, .int 0, .int 0, .int 0])), (dk, .inr (4, [.ref w0, .ref w1, .ref ol, .int 0, .int 0, .int 0, .int 0])), (ol, .inr (3, [.int 0, .ref (z 0), .int 0]))] := hD
  have hl := lv_entry ([.ref x, .int p0]) (n := 3) (Nat.le_of_ble_eq_true rfl)
  rw [lg_entry_eq]
  generalize (lg_sl ([.ref x, .int p0]) ++ List.replicate (3 - (lg_sl ([.ref x, .int p0])).length) Slot.unset).toArray = ls at hl ⊢
  have hl : lv_has ls 3 [(0, .ref x), (1, .int p0)] := hl
  refine lv_aload_n hx hb dX11_belay_0 rfl (lv_at hl 0 rfl) ?_
  refine va_get (D := (dC, dI)) (ci := 15) (v := .ref sh) (C := RX11) (T := TX11) (N := 4) hx hb hts hiX11 hown hK hP 0 rfl rfl 0 (by decide) (hts (.fieldLink RX11 10 "SquareRig" "ship" "LSquareRig$Ship;") (by decide +kernel)) (fun _ h9 => h9) rfl dX11_belay_1 ?_
  refine va_getN (D := (dC, dI)) (ci := 13) (v := .ref dk) (C := RX9) (T := TX9) (N := 17) hx hb hts hiX9 hown hK hP 1 rfl rfl 1 (by decide) (va_Nw.use rfl (hM.1 _ (List.mem_of_getElem? (i := 37) rfl))) (fun _ h9 => h9) rfl dX11_belay_4 ?_
  refine lv_iload_n hx hb dX11_belay_7 rfl (lv_at hl 1 rfl) ?_
  have hPc := hP.sub (ws' := [(dk, .inr (4, [.ref w0, .ref w1, .ref ol, .int 0, .int 0, .int 0, .int 0])), (ol, .inr (3, [.int 0, .ref (z 0), .int 0]))]) [2, 3] rfl
  have hDc := hD.sub (ws' := [(dk, .inr (4, [.ref w0, .ref w1, .ref ol, .int 0, .int 0, .int 0, .int 0])), (ol, .inr (3, [.int 0, .ref (z 0), .int 0]))]) [2, 3] (by decide) rfl
  have hKc := hK.sub (tys' := []) [] rfl
  have hFc := va_free (wc := [(dk, .inr (4, [.ref w0, .ref w1, .ref ol, .int 0, .int 0, .int 0, .int 0])), (ol, .inr (3, [.int 0, .ref (z 0), .int 0]))]) hD hS hA [2, 3] rfl
  refine va_callq (va_runV (As := [.int p0]) (rest := []) ⟨hx, hb, hml, hown, hts⟩ (k_find l dC dI z zK zV dk w0 w1 ol p0 s.heap.size) (cwV 1 hts gX11_belay_X0_find rfl rfl rfl (by decide +kernel) ⟨Nat.le_of_ble_eq_true rfl, Nat.le_of_ble_eq_true rfl⟩) ⟨kP_blind, va_recv hKc hPc (ci := 4) (q0 := 0) rfl rfl, kP_go hPc hKc hDc hFc hM hS⟩ rfl rfl hl.1 rfl (lv_room (Nat.le_of_ble_eq_true rfl)) dX11_belay_8 ⟨Nat.le_of_ble_eq_true rfl, Nat.le_of_ble_eq_true rfl⟩) hS (fun q _ h => hFc q h) hFc (fun r1 u t H1 locs ht hvm hw hB hz1 hk1 hS => ?_)
  obtain ⟨hP, hD, hK⟩ := kJ (wr := [(x, .inr (15, [.ref sh, .ref tl, .ref tw, .int 0])), (sh, .inr (13, [.ref rg, .ref dk, .ref hd, .ref lg, .ref pl, .ref pr, .int 0, .int 0, .int 0, .int 0, .int 0, .int 0, .int 0, .int 0, .int 0, .int 0, .int 0]))]) (w1 := []) (t1 := []) hP hD hK [2, 3] [0, 1] rfl rfl (by decide) (by decide) hk1 hFc ht hvm hB
  generalize H1 = H at hP hS ⊢
  have hP : va_P (dC, dI) vwCl [(x, .inr (15, [.ref sh, .ref tl, .ref tw, .int 0])), (sh, .inr (13, [.ref rg, .ref dk, .ref hd, .ref lg, .ref pl, .ref pr, .int 0, .int 0, .int 0, .int 0, .int 0, .int 0, .int 0, .int 0, .int 0, .int 0, .int 0]))] H := hP
  have hD : va_D A [(x, .inr (15, [.ref sh, .ref tl, .ref tw, .int 0])), (sh, .inr (13, [.ref rg, .ref dk, .ref hd, .ref lg, .ref pl, .ref pr, .int 0, .int 0, .int 0, .int 0, .int 0, .int 0, .int 0, .int 0, .int 0, .int 0, .int 0]))] := hD
  have hK : va_K (dC, dI) vwCl [] s := hK
  obtain rfl : none = r1 := hw
  refine kc_v (y := .null) rfl ?_
  refine lv_astore_nN (lv' := [(2, .null), (0, .ref x), (1, .int p0)]) hx hb dX11_belay_11 rfl hl (by decide) rfl (fun ls hl => ?_)
  refine lv_aload_nN hx hb dX11_belay_12 rfl (lv_at hl 0 rfl) ?_
  refine lv_ifnonnullN hx hb dX11_belay_13 ?_
  obtain ⟨sa, hsa⟩ := hM.2.1 _ (List.mem_of_getElem? (i := 5) rfl)
  exact vx_throwS (own := RX11) (cls := "java/lang/IndexOutOfBoundsException") (text := "no such order") (names := ["java/lang/RuntimeException", "java/lang/Exception"]) (ik := 93) (is := 95) (ic := 97) (mc := 1) (ms := 6) (sa := sa) hx hb hst hown (by decide) (by decide) (hts (.classLink RX11 93 "java/lang/IndexOutOfBoundsException") (by decide +kernel)) (hts (.initialized "java/lang/IndexOutOfBoundsException") (by decide +kernel)) hsa (vx_hat (fun w h9 => hts w (List.mem_cons_of_mem _ (List.mem_append_left _ (List.mem_append_left _ (List.mem_append_left _ (List.mem_append_right _ h9)))))) (by decide +kernel) (fun w hw => va_Nw.use (List.all_eq_true.mp am_Bt w hw) (hM.2.2.2.2.2.2.2.2.2.1 w hw))) (by decide +kernel) hM.2.2.2.2.2.2.2.1.1 hM.2.2.2.2.2.2.2.1.2 hS (hl.1.trans hml.symm) dX11_belay_16 dX11_belay_19 dX11_belay_20 dX11_belay_22 dX11_belay_25 (fun x hx => (hnt x hx).elim) (Nat.le_of_ble_eq_true rfl) (Nat.le_of_ble_eq_true rfl) (Nat.le_of_ble_eq_true rfl) (Nat.le_of_ble_eq_true rfl) hlocks (fun t hvm hz hq => ⟨(), trivial, rfl, Nat.le_trans hS.1 hz, fun q h1 h2 => (hq q (Nat.lt_of_lt_of_le h1 hS.1)).trans (hS.2.1 q h1 h2)⟩) hS.2.2 (Nat.le_of_ble_eq_true rfl) (Nat.le_of_ble_eq_true rfl)
abbrev wd_k_x_state (z : Nat → Nat) (sh : Nat) (rg : Nat) (dk : Nat) (w0 : Nat) (w1 : Nat) (ol : Nat) (hd : Nat) (lg : Nat) (pl : Nat) (pr : Nat) (x : Nat) (tl : Nat) (tw : Nat) (p0 : Int32) : va_W := [(x, .inr (15, [.ref sh, .ref tl, .ref tw, .int 0])), (sh, .inr (13, [.ref rg, .ref dk, .ref hd, .ref lg, .ref pl, .ref pr, .int 0, .int 0, .int 0, .int 0, .int 0, .int 0, .int 0, .int 0, .int 0, .int 0, .int 0])), (dk, .inr (4, [.ref w0, .ref w1, .ref ol, .int 0, .int 0, .int 0, .int 0])), (ol, .inr (3, [.int 0, .ref (z 0), .int 0]))]
set_option maxHeartbeats 4000000 in
set_option maxRecDepth 100000 in
theorem k_x_state (l : Launch) (dC : Nat → ClassId) (dI : Nat → Nat → Nat) (z zK zV : Nat → Nat) (sh : Nat) (rg : Nat) (dk : Nat) (w0 : Nat) (w1 : Nat) (ol : Nat) (hd : Nat) (lg : Nat) (pl : Nat) (pr : Nat) (x : Nat) (tl : Nat) (tw : Nat) (p0 : Int32) (sz : Nat) (hst : l.stackTraces = false)  : vx_Met l yX11_state wsX11_state ({ frames := 6, cells := 1, slots := 6, locals := 82 }) (kP dC dI z zK zV [.ref x, .int p0] sz (wd_k_x_state z sh rg dk w0 w1 ol hd lg pl pr x tl tw p0) []) (va_Qi (fun (r : Int32) (_ : Unit) => False) (fun _ t => kB (dC, dI) (va_A (wd_k_x_state z sh rg dk w0 w1 ol hd lg pl pr x tl tw p0) sz) [] [] t) (va_A (wd_k_x_state z sh rg dk w0 w1 ol hd lg pl pr x tl tw p0) sz)) (vx_X (fun _ : Unit => True) (fun E _ _ => "java/lang/IndexOutOfBoundsException" = E) (va_A (wd_k_x_state z sh rg dk w0 w1 ol hd lg pl pr x tl tw p0) sz)) 1 6 (va_A (wd_k_x_state z sh rg dk w0 w1 ol hd lg pl pr x tl tw p0) sz) := by
  refine vx_ofW (cc := cX11_state) (maxL := 3) (ret := (some .char)) (by decide) rfl ?_
  intro p e s m args below meth c s₁ B hml hnt hv
  obtain ⟨rfl, hsz, hP, hK, hD0, hM⟩ := hv
  have hx := B.exec
  have hb := B.bytes
  have hr := B.returns
  have hts := atoms_spec (ws := wsX11_state) B.pre
  have hown : s.vm.findClass RX11 = some m.cls := findClass_of_methodNamed B.named
  have hlocks := B.notSynchronized
  have hiX11 : ∀ w ∈ u_ws RX11 TX11 4, w ∈ wsX11_state := by decide +kernel
  have hiX9 : ∀ w ∈ u_ws RX9 TX9 17, w ∈ wsX11_state := by decide +kernel
  subst hsz
  have hD := hD0.self (sz := s.heap.size)
  generalize hAe : va_A (wd_k_x_state z sh rg dk w0 w1 ol hd lg pl pr x tl tw p0) s.heap.size = A at hD hM ⊢
  have hA : ∀ q : Nat, s.heap.size ≤ q → A q := fun q h => by rw [← hAe]; exact Or.inr h
  have hS : va_S A s.heap s.heap [] := va_S.rf
  have hP : va_P (dC, dI) vwCl [(x, .inr (15, [.ref sh, .ref tl, .ref tw, .int 0])), (sh, .inr (13, [.ref rg, .ref dk, .ref hd, .ref lg, .ref pl, .ref pr, .int 0, .int 0, .int 0, .int 0, .int 0, .int 0, .int 0, .int 0, .int 0, .int 0, .int 0])), (dk, .inr (4, [.ref w0, .ref w1, .ref ol, .int 0, .int 0, .int 0, .int 0])), (ol, .inr (3, [.int 0, .ref (z 0), .int 0]))] s.heap := hP
  have hD : va_D A [(x, .inr (15, [.ref sh, .ref tl, .ref tw, .int 0])), (sh, .inr (13, [.ref rg, .ref dk, .ref hd, .ref lg, .ref pl, .ref pr, .int 0, .int 0, .int 0, .int 0, .int 0, .int 0, .int 0, .int 0, .int 0, .int 0, .int 0])), (dk, .inr (4, [.ref w0, .ref w1, .ref ol, .int 0, .int 0, .int 0, .int 0])), (ol, .inr (3, [.int 0, .ref (z 0), .int 0]))] := hD
  have hl := lv_entry ([.ref x, .int p0]) (n := 3) (Nat.le_of_ble_eq_true rfl)
  rw [lg_entry_eq]
  generalize (lg_sl ([.ref x, .int p0]) ++ List.replicate (3 - (lg_sl ([.ref x, .int p0])).length) Slot.unset).toArray = ls at hl ⊢
  have hl : lv_has ls 3 [(0, .ref x), (1, .int p0)] := hl
  refine lv_aload_n hx hb dX11_state_0 rfl (lv_at hl 0 rfl) ?_
  refine va_get (D := (dC, dI)) (ci := 15) (v := .ref sh) (C := RX11) (T := TX11) (N := 4) hx hb hts hiX11 hown hK hP 0 rfl rfl 0 (by decide) (hts (.fieldLink RX11 10 "SquareRig" "ship" "LSquareRig$Ship;") (by decide +kernel)) (fun _ h9 => h9) rfl dX11_state_1 ?_
  refine va_getN (D := (dC, dI)) (ci := 13) (v := .ref dk) (C := RX9) (T := TX9) (N := 17) hx hb hts hiX9 hown hK hP 1 rfl rfl 1 (by decide) (va_Nw.use rfl (hM.1 _ (List.mem_of_getElem? (i := 37) rfl))) (fun _ h9 => h9) rfl dX11_state_4 ?_
  refine lv_iload_n hx hb dX11_state_7 rfl (lv_at hl 1 rfl) ?_
  have hPc := hP.sub (ws' := [(dk, .inr (4, [.ref w0, .ref w1, .ref ol, .int 0, .int 0, .int 0, .int 0])), (ol, .inr (3, [.int 0, .ref (z 0), .int 0]))]) [2, 3] rfl
  have hDc := hD.sub (ws' := [(dk, .inr (4, [.ref w0, .ref w1, .ref ol, .int 0, .int 0, .int 0, .int 0])), (ol, .inr (3, [.int 0, .ref (z 0), .int 0]))]) [2, 3] (by decide) rfl
  have hKc := hK.sub (tys' := []) [] rfl
  have hFc := va_free (wc := [(dk, .inr (4, [.ref w0, .ref w1, .ref ol, .int 0, .int 0, .int 0, .int 0])), (ol, .inr (3, [.int 0, .ref (z 0), .int 0]))]) hD hS hA [2, 3] rfl
  refine va_callq (va_runV (As := [.int p0]) (rest := []) ⟨hx, hb, hml, hown, hts⟩ (k_find l dC dI z zK zV dk w0 w1 ol p0 s.heap.size) (cwV 1 hts gX11_state_X0_find rfl rfl rfl (by decide +kernel) ⟨Nat.le_of_ble_eq_true rfl, Nat.le_of_ble_eq_true rfl⟩) ⟨kP_blind, va_recv hKc hPc (ci := 4) (q0 := 0) rfl rfl, kP_go hPc hKc hDc hFc hM hS⟩ rfl rfl hl.1 rfl (lv_room (Nat.le_of_ble_eq_true rfl)) dX11_state_8 ⟨Nat.le_of_ble_eq_true rfl, Nat.le_of_ble_eq_true rfl⟩) hS (fun q _ h => hFc q h) hFc (fun r1 u t H1 locs ht hvm hw hB hz1 hk1 hS => ?_)
  obtain ⟨hP, hD, hK⟩ := kJ (wr := [(x, .inr (15, [.ref sh, .ref tl, .ref tw, .int 0])), (sh, .inr (13, [.ref rg, .ref dk, .ref hd, .ref lg, .ref pl, .ref pr, .int 0, .int 0, .int 0, .int 0, .int 0, .int 0, .int 0, .int 0, .int 0, .int 0, .int 0]))]) (w1 := []) (t1 := []) hP hD hK [2, 3] [0, 1] rfl rfl (by decide) (by decide) hk1 hFc ht hvm hB
  generalize H1 = H at hP hS ⊢
  have hP : va_P (dC, dI) vwCl [(x, .inr (15, [.ref sh, .ref tl, .ref tw, .int 0])), (sh, .inr (13, [.ref rg, .ref dk, .ref hd, .ref lg, .ref pl, .ref pr, .int 0, .int 0, .int 0, .int 0, .int 0, .int 0, .int 0, .int 0, .int 0, .int 0, .int 0]))] H := hP
  have hD : va_D A [(x, .inr (15, [.ref sh, .ref tl, .ref tw, .int 0])), (sh, .inr (13, [.ref rg, .ref dk, .ref hd, .ref lg, .ref pl, .ref pr, .int 0, .int 0, .int 0, .int 0, .int 0, .int 0, .int 0, .int 0, .int 0, .int 0, .int 0]))] := hD
  have hK : va_K (dC, dI) vwCl [] s := hK
  obtain rfl : none = r1 := hw
  refine kc_v (y := .null) rfl ?_
  refine lv_astore_nN (lv' := [(2, .null), (0, .ref x), (1, .int p0)]) hx hb dX11_state_11 rfl hl (by decide) rfl (fun ls hl => ?_)
  refine lv_aload_nN hx hb dX11_state_12 rfl (lv_at hl 0 rfl) ?_
  refine lv_ifnonnullN hx hb dX11_state_13 ?_
  obtain ⟨sa, hsa⟩ := hM.2.1 _ (List.mem_of_getElem? (i := 5) rfl)
  exact vx_throwS (own := RX11) (cls := "java/lang/IndexOutOfBoundsException") (text := "no such order") (names := ["java/lang/RuntimeException", "java/lang/Exception"]) (ik := 93) (is := 95) (ic := 97) (mc := 1) (ms := 6) (sa := sa) hx hb hst hown (by decide) (by decide) (hts (.classLink RX11 93 "java/lang/IndexOutOfBoundsException") (by decide +kernel)) (hts (.initialized "java/lang/IndexOutOfBoundsException") (by decide +kernel)) hsa (vx_hat (fun w h9 => hts w (List.mem_cons_of_mem _ (List.mem_append_right _ h9))) (by decide +kernel) (fun w hw => va_Nw.use (List.all_eq_true.mp am_Bt w hw) (hM.2.2.2.2.2.2.2.2.2.1 w hw))) (by decide +kernel) hM.2.2.2.2.2.2.2.1.1 hM.2.2.2.2.2.2.2.1.2 hS (hl.1.trans hml.symm) dX11_state_16 dX11_state_19 dX11_state_20 dX11_state_22 dX11_state_25 (fun x hx => (hnt x hx).elim) (Nat.le_of_ble_eq_true rfl) (Nat.le_of_ble_eq_true rfl) (Nat.le_of_ble_eq_true rfl) (Nat.le_of_ble_eq_true rfl) hlocks (fun t hvm hz hq => ⟨(), trivial, rfl, Nat.le_trans hS.1 hz, fun q h1 h2 => (hq q (Nat.lt_of_lt_of_le h1 hS.1)).trans (hS.2.1 q h1 h2)⟩) hS.2.2 (Nat.le_of_ble_eq_true rfl) (Nat.le_of_ble_eq_true rfl)
abbrev wd_k_x_tired0 (z : Nat → Nat) (sh : Nat) (rg : Nat) (dk : Nat) (w0 : Nat) (w1 : Nat) (ol : Nat) (hd : Nat) (lg : Nat) (pl : Nat) (pr : Nat) (x : Nat) (tl : Nat) (tw : Nat) : va_W := [(x, .inr (15, [.ref sh, .ref tl, .ref tw, .int 0])), (sh, .inr (13, [.ref rg, .ref dk, .ref hd, .ref lg, .ref pl, .ref pr, .int 0, .int 0, .int 0, .int 0, .int 0, .int 0, .int 0, .int 0, .int 0, .int 0, .int 0])), (dk, .inr (4, [.ref w0, .ref w1, .ref ol, .int 0, .int 0, .int 0, .int 0])), (w0, .inr (14, [.int 0, .int 0])), (w1, .inr (14, [.int 0, .int 0]))]
set_option maxHeartbeats 4000000 in
set_option maxRecDepth 100000 in
theorem k_x_tired0 (l : Launch) (dC : Nat → ClassId) (dI : Nat → Nat → Nat) (z zK zV : Nat → Nat) (sh : Nat) (rg : Nat) (dk : Nat) (w0 : Nat) (w1 : Nat) (ol : Nat) (hd : Nat) (lg : Nat) (pl : Nat) (pr : Nat) (x : Nat) (tl : Nat) (tw : Nat) (sz : Nat)  : Met l yX11_tired wsX11_tired ({ frames := 1, cells := 0, slots := 0, locals := 22 }) (kP dC dI z zK zV [.ref x, .int 0] sz (wd_k_x_tired0 z sh rg dk w0 w1 ol hd lg pl pr x tl tw) []) (va_Qi (fun (r : Int32) (_ : Unit) => 0 = r) (fun _ t => kB (dC, dI) (va_A (wd_k_x_tired0 z sh rg dk w0 w1 ol hd lg pl pr x tl tw) sz) [] [] t) (va_A (wd_k_x_tired0 z sh rg dk w0 w1 ol hd lg pl pr x tl tw) sz)) 0 0 (va_A (wd_k_x_tired0 z sh rg dk w0 w1 ol hd lg pl pr x tl tw) sz) := by
  refine Met.ofW (cc := cX11_tired) (maxL := 2) (ret := (some .int)) (by decide) rfl ?_
  intro p e s m args below meth c s₁ B hml hv
  obtain ⟨rfl, hsz, hP, hK, hD0, hM⟩ := hv
  have hx := B.exec
  have hb := B.bytes
  have hr := B.returns
  have hts := atoms_spec (ws := wsX11_tired) B.pre
  have hown : s.vm.findClass RX11 = some m.cls := findClass_of_methodNamed B.named
  have hlocks := B.notSynchronized
  have hiX11 : ∀ w ∈ u_ws RX11 TX11 4, w ∈ wsX11_tired := by decide +kernel
  have hiX9 : ∀ w ∈ u_ws RX9 TX9 17, w ∈ wsX11_tired := by decide +kernel
  have hiX10 : ∀ w ∈ u_ws RX10 TX10 2, w ∈ wsX11_tired := by decide +kernel
  subst hsz
  have hD := hD0.self (sz := s.heap.size)
  generalize hAe : va_A (wd_k_x_tired0 z sh rg dk w0 w1 ol hd lg pl pr x tl tw) s.heap.size = A at hD hM ⊢
  have hA : ∀ q : Nat, s.heap.size ≤ q → A q := fun q h => by rw [← hAe]; exact Or.inr h
  have hS : va_S A s.heap s.heap [] := va_S.rf
  have hP : va_P (dC, dI) vwCl [(x, .inr (15, [.ref sh, .ref tl, .ref tw, .int 0])), (sh, .inr (13, [.ref rg, .ref dk, .ref hd, .ref lg, .ref pl, .ref pr, .int 0, .int 0, .int 0, .int 0, .int 0, .int 0, .int 0, .int 0, .int 0, .int 0, .int 0])), (dk, .inr (4, [.ref w0, .ref w1, .ref ol, .int 0, .int 0, .int 0, .int 0])), (w0, .inr (14, [.int 0, .int 0])), (w1, .inr (14, [.int 0, .int 0]))] s.heap := hP
  have hD : va_D A [(x, .inr (15, [.ref sh, .ref tl, .ref tw, .int 0])), (sh, .inr (13, [.ref rg, .ref dk, .ref hd, .ref lg, .ref pl, .ref pr, .int 0, .int 0, .int 0, .int 0, .int 0, .int 0, .int 0, .int 0, .int 0, .int 0, .int 0])), (dk, .inr (4, [.ref w0, .ref w1, .ref ol, .int 0, .int 0, .int 0, .int 0])), (w0, .inr (14, [.int 0, .int 0])), (w1, .inr (14, [.int 0, .int 0]))] := hD
  have hl := lv_entry ([.ref x, .int 0]) (n := 2) (Nat.le_of_ble_eq_true rfl)
  rw [lg_entry_eq]
  generalize (lg_sl ([.ref x, .int 0]) ++ List.replicate (2 - (lg_sl ([.ref x, .int 0])).length) Slot.unset).toArray = ls at hl ⊢
  have hl : lv_has ls 2 [(0, .ref x), (1, .int 0)] := hl
  refine lv_iload_n hx hb dX11_tired_0 rfl (lv_at hl 1 rfl) ?_
  refine lv_iconst (v := 0) hx hb dX11_tired_1 (by decide) ?_
  refine lv_iconst (v := 1) hx hb dX11_tired_2 (by decide) ?_
  have hPc := hP.sub (ws' := []) [] rfl
  have hDc := hD.sub (ws' := []) [] (by decide) rfl
  have hKc := hK.sub (tys' := []) [] rfl
  have hFc := va_free (wc := []) hD hS hA [] rfl
  refine va_calli (va_runS (As := [.int 0, .int 0, .int 1]) (rest := []) ⟨hx, hb, hml, hown, hts⟩ (k_isIn l dC dI z zK zV 0 0 1 s.heap.size) (va_cwS 3 hts gX11_tired_X11_isIn rfl rfl rfl (by decide +kernel) ⟨Nat.le_of_ble_eq_true rfl, Nat.le_of_ble_eq_true rfl⟩) ⟨kP_blind, kP_go hPc hKc hDc hFc hM hS⟩ rfl rfl hl.1 rfl (lv_room (Nat.le_of_ble_eq_true rfl)) dX11_tired_3 ⟨Nat.le_of_ble_eq_true rfl, Nat.le_of_ble_eq_true rfl⟩) hS (fun q _ h => hFc q h) hFc (fun r1 u t H1 locs ht hvm hw hB hz1 hk1 hS => ?_)
  obtain ⟨hP, hD, hK⟩ := kJ (wr := [(x, .inr (15, [.ref sh, .ref tl, .ref tw, .int 0])), (sh, .inr (13, [.ref rg, .ref dk, .ref hd, .ref lg, .ref pl, .ref pr, .int 0, .int 0, .int 0, .int 0, .int 0, .int 0, .int 0, .int 0, .int 0, .int 0, .int 0])), (dk, .inr (4, [.ref w0, .ref w1, .ref ol, .int 0, .int 0, .int 0, .int 0])), (w0, .inr (14, [.int 0, .int 0])), (w1, .inr (14, [.int 0, .int 0]))]) (w1 := []) (t1 := []) hP hD hK [] [0, 1, 2, 3, 4] rfl rfl (by decide) (by decide) hk1 hFc ht hvm hB
  generalize H1 = H at hP hS ⊢
  have hP : va_P (dC, dI) vwCl [(x, .inr (15, [.ref sh, .ref tl, .ref tw, .int 0])), (sh, .inr (13, [.ref rg, .ref dk, .ref hd, .ref lg, .ref pl, .ref pr, .int 0, .int 0, .int 0, .int 0, .int 0, .int 0, .int 0, .int 0, .int 0, .int 0, .int 0])), (dk, .inr (4, [.ref w0, .ref w1, .ref ol, .int 0, .int 0, .int 0, .int 0])), (w0, .inr (14, [.int 0, .int 0])), (w1, .inr (14, [.int 0, .int 0]))] H := hP
  have hD : va_D A [(x, .inr (15, [.ref sh, .ref tl, .ref tw, .int 0])), (sh, .inr (13, [.ref rg, .ref dk, .ref hd, .ref lg, .ref pl, .ref pr, .int 0, .int 0, .int 0, .int 0, .int 0, .int 0, .int 0, .int 0, .int 0, .int 0, .int 0])), (dk, .inr (4, [.ref w0, .ref w1, .ref ol, .int 0, .int 0, .int 0, .int 0])), (w0, .inr (14, [.int 0, .int 0])), (w1, .inr (14, [.int 0, .int 0]))] := hD
  have hK : va_K (dC, dI) vwCl [] s := hK
  obtain rfl : (if 0 ≤ 0 ∧ 0 ≤ 1 then (1 : Int32) else 0) = r1 := hw
  refine kc_i (y := 1) (by decide +kernel) ?_
  refine lv_if_ne (tgt := 19) hx hb dX11_tired_6 (by decide) (fun _ => ?_) (fun c_ => absurd c_ (by decide +kernel))
  refine lv_aload_n hx hb dX11_tired_19 rfl (lv_at hl 0 rfl) ?_
  refine va_get (D := (dC, dI)) (ci := 15) (v := .ref sh) (C := RX11) (T := TX11) (N := 4) hx hb hts hiX11 hown hK hP 0 rfl rfl 0 (by decide) (hts (.fieldLink RX11 10 "SquareRig" "ship" "LSquareRig$Ship;") (by decide +kernel)) (fun _ h9 => h9) rfl dX11_tired_20 ?_
  refine va_getN (D := (dC, dI)) (ci := 13) (v := .ref dk) (C := RX9) (T := TX9) (N := 17) hx hb hts hiX9 hown hK hP 1 rfl rfl 1 (by decide) (va_Nw.use rfl (hM.1 _ (List.mem_of_getElem? (i := 37) rfl))) (fun _ h9 => h9) rfl dX11_tired_23 ?_
  refine lv_iload_n hx hb dX11_tired_26 rfl (lv_at hl 1 rfl) ?_
  have hPc := hP.sub (ws' := [(dk, .inr (4, [.ref w0, .ref w1, .ref ol, .int 0, .int 0, .int 0, .int 0]))]) [2] rfl
  have hDc := hD.sub (ws' := [(dk, .inr (4, [.ref w0, .ref w1, .ref ol, .int 0, .int 0, .int 0, .int 0]))]) [2] (by decide) rfl
  have hKc := hK.sub (tys' := []) [] rfl
  have hFc := va_free (wc := [(dk, .inr (4, [.ref w0, .ref w1, .ref ol, .int 0, .int 0, .int 0, .int 0]))]) hD hS hA [2] rfl
  refine va_callr (va_runV (As := [.int 0]) (rest := []) ⟨hx, hb, hml, hown, hts⟩ (k_watchOf0 l dC dI z zK zV dk w0 w1 ol H.size) (cwV 1 hts gX11_tired_X0_watchOf rfl rfl rfl (by decide +kernel) ⟨Nat.le_of_ble_eq_true rfl, Nat.le_of_ble_eq_true rfl⟩) ⟨kP_blind, va_recv hKc hPc (ci := 4) (q0 := 0) rfl rfl, kP_go hPc hKc hDc hFc hM hS⟩ rfl rfl hl.1 rfl (lv_room (Nat.le_of_ble_eq_true rfl)) dX11_tired_27 ⟨Nat.le_of_ble_eq_true rfl, Nat.le_of_ble_eq_true rfl⟩) hS (fun q _ h => hFc q h) hFc (fun u ra2 t H1 locs ht hvm hw hB hz1 hk1 hS => ?_)
  obtain ⟨rfl, hB⟩ := hB
  obtain ⟨hP, hD, hK⟩ := kJ (wr := [(x, .inr (15, [.ref sh, .ref tl, .ref tw, .int 0])), (sh, .inr (13, [.ref rg, .ref dk, .ref hd, .ref lg, .ref pl, .ref pr, .int 0, .int 0, .int 0, .int 0, .int 0, .int 0, .int 0, .int 0, .int 0, .int 0, .int 0])), (w0, .inr (14, [.int 0, .int 0])), (w1, .inr (14, [.int 0, .int 0]))]) (w1 := [(dk, .inr (4, [.ref w0, .ref w1, .ref ol, .int 0, .int 0, .int 0, .int 0]))]) (t1 := []) hP hD hK [2] [0, 1, 3, 4] rfl rfl (by decide) (by decide) hk1 hFc ht hvm hB
  generalize H1 = H at hP hS ⊢
  have hP : va_P (dC, dI) vwCl [(x, .inr (15, [.ref sh, .ref tl, .ref tw, .int 0])), (sh, .inr (13, [.ref rg, .ref dk, .ref hd, .ref lg, .ref pl, .ref pr, .int 0, .int 0, .int 0, .int 0, .int 0, .int 0, .int 0, .int 0, .int 0, .int 0, .int 0])), (w0, .inr (14, [.int 0, .int 0])), (w1, .inr (14, [.int 0, .int 0])), (dk, .inr (4, [.ref w0, .ref w1, .ref ol, .int 0, .int 0, .int 0, .int 0]))] H := hP
  have hD : va_D A [(x, .inr (15, [.ref sh, .ref tl, .ref tw, .int 0])), (sh, .inr (13, [.ref rg, .ref dk, .ref hd, .ref lg, .ref pl, .ref pr, .int 0, .int 0, .int 0, .int 0, .int 0, .int 0, .int 0, .int 0, .int 0, .int 0, .int 0])), (w0, .inr (14, [.int 0, .int 0])), (w1, .inr (14, [.int 0, .int 0])), (dk, .inr (4, [.ref w0, .ref w1, .ref ol, .int 0, .int 0, .int 0, .int 0]))] := hD
  have hK : va_K (dC, dI) vwCl [] s := hK
  refine va_getN (D := (dC, dI)) (ci := 14) (v := .int 0) (C := RX10) (T := TX10) (N := 2) hx hb hts hiX10 hown hK hP 2 rfl rfl 0 (by decide) (va_Nw.use rfl (hM.1 _ (List.mem_of_getElem? (i := 22) rfl))) (fun _ h9 => h9) rfl dX11_tired_30 ?_
  exact W.iret (v := 0) hx hb hr (fun t ht hW => ⟨⟨0, (), rfl, rfl, kB_end (w9 := []) (t9 := []) hP hK hD [] [] rfl (by decide) rfl rfl t ht hW⟩, hS.F ht⟩) hS.2.2 dX11_tired_33
abbrev wd_k_x_tired1 (z : Nat → Nat) (sh : Nat) (rg : Nat) (dk : Nat) (w0 : Nat) (w1 : Nat) (ol : Nat) (hd : Nat) (lg : Nat) (pl : Nat) (pr : Nat) (x : Nat) (tl : Nat) (tw : Nat) : va_W := [(x, .inr (15, [.ref sh, .ref tl, .ref tw, .int 0])), (sh, .inr (13, [.ref rg, .ref dk, .ref hd, .ref lg, .ref pl, .ref pr, .int 0, .int 0, .int 0, .int 0, .int 0, .int 0, .int 0, .int 0, .int 0, .int 0, .int 0])), (dk, .inr (4, [.ref w0, .ref w1, .ref ol, .int 0, .int 0, .int 0, .int 0])), (w0, .inr (14, [.int 0, .int 0])), (w1, .inr (14, [.int 0, .int 0]))]
set_option maxHeartbeats 4000000 in
set_option maxRecDepth 100000 in
theorem k_x_tired1 (l : Launch) (dC : Nat → ClassId) (dI : Nat → Nat → Nat) (z zK zV : Nat → Nat) (sh : Nat) (rg : Nat) (dk : Nat) (w0 : Nat) (w1 : Nat) (ol : Nat) (hd : Nat) (lg : Nat) (pl : Nat) (pr : Nat) (x : Nat) (tl : Nat) (tw : Nat) (sz : Nat)  : Met l yX11_tired wsX11_tired ({ frames := 1, cells := 0, slots := 0, locals := 22 }) (kP dC dI z zK zV [.ref x, .int 1] sz (wd_k_x_tired1 z sh rg dk w0 w1 ol hd lg pl pr x tl tw) []) (va_Qi (fun (r : Int32) (_ : Unit) => 0 = r) (fun _ t => kB (dC, dI) (va_A (wd_k_x_tired1 z sh rg dk w0 w1 ol hd lg pl pr x tl tw) sz) [] [] t) (va_A (wd_k_x_tired1 z sh rg dk w0 w1 ol hd lg pl pr x tl tw) sz)) 0 0 (va_A (wd_k_x_tired1 z sh rg dk w0 w1 ol hd lg pl pr x tl tw) sz) := by
  refine Met.ofW (cc := cX11_tired) (maxL := 2) (ret := (some .int)) (by decide) rfl ?_
  intro p e s m args below meth c s₁ B hml hv
  obtain ⟨rfl, hsz, hP, hK, hD0, hM⟩ := hv
  have hx := B.exec
  have hb := B.bytes
  have hr := B.returns
  have hts := atoms_spec (ws := wsX11_tired) B.pre
  have hown : s.vm.findClass RX11 = some m.cls := findClass_of_methodNamed B.named
  have hlocks := B.notSynchronized
  have hiX11 : ∀ w ∈ u_ws RX11 TX11 4, w ∈ wsX11_tired := by decide +kernel
  have hiX9 : ∀ w ∈ u_ws RX9 TX9 17, w ∈ wsX11_tired := by decide +kernel
  have hiX10 : ∀ w ∈ u_ws RX10 TX10 2, w ∈ wsX11_tired := by decide +kernel
  subst hsz
  have hD := hD0.self (sz := s.heap.size)
  generalize hAe : va_A (wd_k_x_tired1 z sh rg dk w0 w1 ol hd lg pl pr x tl tw) s.heap.size = A at hD hM ⊢
  have hA : ∀ q : Nat, s.heap.size ≤ q → A q := fun q h => by rw [← hAe]; exact Or.inr h
  have hS : va_S A s.heap s.heap [] := va_S.rf
  have hP : va_P (dC, dI) vwCl [(x, .inr (15, [.ref sh, .ref tl, .ref tw, .int 0])), (sh, .inr (13, [.ref rg, .ref dk, .ref hd, .ref lg, .ref pl, .ref pr, .int 0, .int 0, .int 0, .int 0, .int 0, .int 0, .int 0, .int 0, .int 0, .int 0, .int 0])), (dk, .inr (4, [.ref w0, .ref w1, .ref ol, .int 0, .int 0, .int 0, .int 0])), (w0, .inr (14, [.int 0, .int 0])), (w1, .inr (14, [.int 0, .int 0]))] s.heap := hP
  have hD : va_D A [(x, .inr (15, [.ref sh, .ref tl, .ref tw, .int 0])), (sh, .inr (13, [.ref rg, .ref dk, .ref hd, .ref lg, .ref pl, .ref pr, .int 0, .int 0, .int 0, .int 0, .int 0, .int 0, .int 0, .int 0, .int 0, .int 0, .int 0])), (dk, .inr (4, [.ref w0, .ref w1, .ref ol, .int 0, .int 0, .int 0, .int 0])), (w0, .inr (14, [.int 0, .int 0])), (w1, .inr (14, [.int 0, .int 0]))] := hD
  have hl := lv_entry ([.ref x, .int 1]) (n := 2) (Nat.le_of_ble_eq_true rfl)
  rw [lg_entry_eq]
  generalize (lg_sl ([.ref x, .int 1]) ++ List.replicate (2 - (lg_sl ([.ref x, .int 1])).length) Slot.unset).toArray = ls at hl ⊢
  have hl : lv_has ls 2 [(0, .ref x), (1, .int 1)] := hl
  refine lv_iload_n hx hb dX11_tired_0 rfl (lv_at hl 1 rfl) ?_
  refine lv_iconst (v := 0) hx hb dX11_tired_1 (by decide) ?_
  refine lv_iconst (v := 1) hx hb dX11_tired_2 (by decide) ?_
  have hPc := hP.sub (ws' := []) [] rfl
  have hDc := hD.sub (ws' := []) [] (by decide) rfl
  have hKc := hK.sub (tys' := []) [] rfl
  have hFc := va_free (wc := []) hD hS hA [] rfl
  refine va_calli (va_runS (As := [.int 1, .int 0, .int 1]) (rest := []) ⟨hx, hb, hml, hown, hts⟩ (k_isIn l dC dI z zK zV 1 0 1 s.heap.size) (va_cwS 3 hts gX11_tired_X11_isIn rfl rfl rfl (by decide +kernel) ⟨Nat.le_of_ble_eq_true rfl, Nat.le_of_ble_eq_true rfl⟩) ⟨kP_blind, kP_go hPc hKc hDc hFc hM hS⟩ rfl rfl hl.1 rfl (lv_room (Nat.le_of_ble_eq_true rfl)) dX11_tired_3 ⟨Nat.le_of_ble_eq_true rfl, Nat.le_of_ble_eq_true rfl⟩) hS (fun q _ h => hFc q h) hFc (fun r1 u t H1 locs ht hvm hw hB hz1 hk1 hS => ?_)
  obtain ⟨hP, hD, hK⟩ := kJ (wr := [(x, .inr (15, [.ref sh, .ref tl, .ref tw, .int 0])), (sh, .inr (13, [.ref rg, .ref dk, .ref hd, .ref lg, .ref pl, .ref pr, .int 0, .int 0, .int 0, .int 0, .int 0, .int 0, .int 0, .int 0, .int 0, .int 0, .int 0])), (dk, .inr (4, [.ref w0, .ref w1, .ref ol, .int 0, .int 0, .int 0, .int 0])), (w0, .inr (14, [.int 0, .int 0])), (w1, .inr (14, [.int 0, .int 0]))]) (w1 := []) (t1 := []) hP hD hK [] [0, 1, 2, 3, 4] rfl rfl (by decide) (by decide) hk1 hFc ht hvm hB
  generalize H1 = H at hP hS ⊢
  have hP : va_P (dC, dI) vwCl [(x, .inr (15, [.ref sh, .ref tl, .ref tw, .int 0])), (sh, .inr (13, [.ref rg, .ref dk, .ref hd, .ref lg, .ref pl, .ref pr, .int 0, .int 0, .int 0, .int 0, .int 0, .int 0, .int 0, .int 0, .int 0, .int 0, .int 0])), (dk, .inr (4, [.ref w0, .ref w1, .ref ol, .int 0, .int 0, .int 0, .int 0])), (w0, .inr (14, [.int 0, .int 0])), (w1, .inr (14, [.int 0, .int 0]))] H := hP
  have hD : va_D A [(x, .inr (15, [.ref sh, .ref tl, .ref tw, .int 0])), (sh, .inr (13, [.ref rg, .ref dk, .ref hd, .ref lg, .ref pl, .ref pr, .int 0, .int 0, .int 0, .int 0, .int 0, .int 0, .int 0, .int 0, .int 0, .int 0, .int 0])), (dk, .inr (4, [.ref w0, .ref w1, .ref ol, .int 0, .int 0, .int 0, .int 0])), (w0, .inr (14, [.int 0, .int 0])), (w1, .inr (14, [.int 0, .int 0]))] := hD
  have hK : va_K (dC, dI) vwCl [] s := hK
  obtain rfl : (if 0 ≤ 1 ∧ 1 ≤ 1 then (1 : Int32) else 0) = r1 := hw
  refine kc_i (y := 1) (by decide +kernel) ?_
  refine lv_if_ne (tgt := 19) hx hb dX11_tired_6 (by decide) (fun _ => ?_) (fun c_ => absurd c_ (by decide +kernel))
  refine lv_aload_n hx hb dX11_tired_19 rfl (lv_at hl 0 rfl) ?_
  refine va_get (D := (dC, dI)) (ci := 15) (v := .ref sh) (C := RX11) (T := TX11) (N := 4) hx hb hts hiX11 hown hK hP 0 rfl rfl 0 (by decide) (hts (.fieldLink RX11 10 "SquareRig" "ship" "LSquareRig$Ship;") (by decide +kernel)) (fun _ h9 => h9) rfl dX11_tired_20 ?_
  refine va_getN (D := (dC, dI)) (ci := 13) (v := .ref dk) (C := RX9) (T := TX9) (N := 17) hx hb hts hiX9 hown hK hP 1 rfl rfl 1 (by decide) (va_Nw.use rfl (hM.1 _ (List.mem_of_getElem? (i := 37) rfl))) (fun _ h9 => h9) rfl dX11_tired_23 ?_
  refine lv_iload_n hx hb dX11_tired_26 rfl (lv_at hl 1 rfl) ?_
  have hPc := hP.sub (ws' := [(dk, .inr (4, [.ref w0, .ref w1, .ref ol, .int 0, .int 0, .int 0, .int 0]))]) [2] rfl
  have hDc := hD.sub (ws' := [(dk, .inr (4, [.ref w0, .ref w1, .ref ol, .int 0, .int 0, .int 0, .int 0]))]) [2] (by decide) rfl
  have hKc := hK.sub (tys' := []) [] rfl
  have hFc := va_free (wc := [(dk, .inr (4, [.ref w0, .ref w1, .ref ol, .int 0, .int 0, .int 0, .int 0]))]) hD hS hA [2] rfl
  refine va_callr (va_runV (As := [.int 1]) (rest := []) ⟨hx, hb, hml, hown, hts⟩ (k_watchOf1 l dC dI z zK zV dk w0 w1 ol H.size) (cwV 1 hts gX11_tired_X0_watchOf rfl rfl rfl (by decide +kernel) ⟨Nat.le_of_ble_eq_true rfl, Nat.le_of_ble_eq_true rfl⟩) ⟨kP_blind, va_recv hKc hPc (ci := 4) (q0 := 0) rfl rfl, kP_go hPc hKc hDc hFc hM hS⟩ rfl rfl hl.1 rfl (lv_room (Nat.le_of_ble_eq_true rfl)) dX11_tired_27 ⟨Nat.le_of_ble_eq_true rfl, Nat.le_of_ble_eq_true rfl⟩) hS (fun q _ h => hFc q h) hFc (fun u ra2 t H1 locs ht hvm hw hB hz1 hk1 hS => ?_)
  obtain ⟨rfl, hB⟩ := hB
  obtain ⟨hP, hD, hK⟩ := kJ (wr := [(x, .inr (15, [.ref sh, .ref tl, .ref tw, .int 0])), (sh, .inr (13, [.ref rg, .ref dk, .ref hd, .ref lg, .ref pl, .ref pr, .int 0, .int 0, .int 0, .int 0, .int 0, .int 0, .int 0, .int 0, .int 0, .int 0, .int 0])), (w0, .inr (14, [.int 0, .int 0])), (w1, .inr (14, [.int 0, .int 0]))]) (w1 := [(dk, .inr (4, [.ref w0, .ref w1, .ref ol, .int 0, .int 0, .int 0, .int 0]))]) (t1 := []) hP hD hK [2] [0, 1, 3, 4] rfl rfl (by decide) (by decide) hk1 hFc ht hvm hB
  generalize H1 = H at hP hS ⊢
  have hP : va_P (dC, dI) vwCl [(x, .inr (15, [.ref sh, .ref tl, .ref tw, .int 0])), (sh, .inr (13, [.ref rg, .ref dk, .ref hd, .ref lg, .ref pl, .ref pr, .int 0, .int 0, .int 0, .int 0, .int 0, .int 0, .int 0, .int 0, .int 0, .int 0, .int 0])), (w0, .inr (14, [.int 0, .int 0])), (w1, .inr (14, [.int 0, .int 0])), (dk, .inr (4, [.ref w0, .ref w1, .ref ol, .int 0, .int 0, .int 0, .int 0]))] H := hP
  have hD : va_D A [(x, .inr (15, [.ref sh, .ref tl, .ref tw, .int 0])), (sh, .inr (13, [.ref rg, .ref dk, .ref hd, .ref lg, .ref pl, .ref pr, .int 0, .int 0, .int 0, .int 0, .int 0, .int 0, .int 0, .int 0, .int 0, .int 0, .int 0])), (w0, .inr (14, [.int 0, .int 0])), (w1, .inr (14, [.int 0, .int 0])), (dk, .inr (4, [.ref w0, .ref w1, .ref ol, .int 0, .int 0, .int 0, .int 0]))] := hD
  have hK : va_K (dC, dI) vwCl [] s := hK
  refine va_getN (D := (dC, dI)) (ci := 14) (v := .int 0) (C := RX10) (T := TX10) (N := 2) hx hb hts hiX10 hown hK hP 3 rfl rfl 0 (by decide) (va_Nw.use rfl (hM.1 _ (List.mem_of_getElem? (i := 22) rfl))) (fun _ h9 => h9) rfl dX11_tired_30 ?_
  exact W.iret (v := 0) hx hb hr (fun t ht hW => ⟨⟨0, (), rfl, rfl, kB_end (w9 := []) (t9 := []) hP hK hD [] [] rfl (by decide) rfl rfl t ht hW⟩, hS.F ht⟩) hS.2.2 dX11_tired_33
abbrev wd_k_x_tired_bad (z : Nat → Nat) (sh : Nat) (rg : Nat) (dk : Nat) (w0 : Nat) (w1 : Nat) (ol : Nat) (hd : Nat) (lg : Nat) (pl : Nat) (pr : Nat) (x : Nat) (tl : Nat) (tw : Nat) (p0 : Int32) : va_W := [(x, .inr (15, [.ref sh, .ref tl, .ref tw, .int 0])), (sh, .inr (13, [.ref rg, .ref dk, .ref hd, .ref lg, .ref pl, .ref pr, .int 0, .int 0, .int 0, .int 0, .int 0, .int 0, .int 0, .int 0, .int 0, .int 0, .int 0])), (dk, .inr (4, [.ref w0, .ref w1, .ref ol, .int 0, .int 0, .int 0, .int 0])), (w0, .inr (14, [.int 0, .int 0])), (w1, .inr (14, [.int 0, .int 0]))]
set_option maxHeartbeats 4000000 in
set_option maxRecDepth 100000 in
theorem k_x_tired_bad (l : Launch) (dC : Nat → ClassId) (dI : Nat → Nat → Nat) (z zK zV : Nat → Nat) (sh : Nat) (rg : Nat) (dk : Nat) (w0 : Nat) (w1 : Nat) (ol : Nat) (hd : Nat) (lg : Nat) (pl : Nat) (pr : Nat) (x : Nat) (tl : Nat) (tw : Nat) (p0 : Int32) (sz : Nat) (hst : l.stackTraces = false) (hb0 : ¬ ((0 : Int32) ≤ p0 ∧ p0 ≤ 1)) : vx_Met l yX11_tired wsX11_tired ({ frames := 6, cells := 1, slots := 6, locals := 82 }) (kP dC dI z zK zV [.ref x, .int p0] sz (wd_k_x_tired_bad z sh rg dk w0 w1 ol hd lg pl pr x tl tw p0) []) (va_Qi (fun (r : Int32) (_ : Unit) => False) (fun _ t => kB (dC, dI) (va_A (wd_k_x_tired_bad z sh rg dk w0 w1 ol hd lg pl pr x tl tw p0) sz) [] [] t) (va_A (wd_k_x_tired_bad z sh rg dk w0 w1 ol hd lg pl pr x tl tw p0) sz)) (vx_X (fun _ : Unit => True) (fun E _ _ => "java/lang/IndexOutOfBoundsException" = E) (va_A (wd_k_x_tired_bad z sh rg dk w0 w1 ol hd lg pl pr x tl tw p0) sz)) 1 6 (va_A (wd_k_x_tired_bad z sh rg dk w0 w1 ol hd lg pl pr x tl tw p0) sz) := by
  refine vx_ofW (cc := cX11_tired) (maxL := 2) (ret := (some .int)) (by decide) rfl ?_
  intro p e s m args below meth c s₁ B hml hnt hv
  obtain ⟨rfl, hsz, hP, hK, hD0, hM⟩ := hv
  have hx := B.exec
  have hb := B.bytes
  have hr := B.returns
  have hts := atoms_spec (ws := wsX11_tired) B.pre
  have hown : s.vm.findClass RX11 = some m.cls := findClass_of_methodNamed B.named
  have hlocks := B.notSynchronized
  subst hsz
  have hD := hD0.self (sz := s.heap.size)
  generalize hAe : va_A (wd_k_x_tired_bad z sh rg dk w0 w1 ol hd lg pl pr x tl tw p0) s.heap.size = A at hD hM ⊢
  have hA : ∀ q : Nat, s.heap.size ≤ q → A q := fun q h => by rw [← hAe]; exact Or.inr h
  have hS : va_S A s.heap s.heap [] := va_S.rf
  have hP : va_P (dC, dI) vwCl [(x, .inr (15, [.ref sh, .ref tl, .ref tw, .int 0])), (sh, .inr (13, [.ref rg, .ref dk, .ref hd, .ref lg, .ref pl, .ref pr, .int 0, .int 0, .int 0, .int 0, .int 0, .int 0, .int 0, .int 0, .int 0, .int 0, .int 0])), (dk, .inr (4, [.ref w0, .ref w1, .ref ol, .int 0, .int 0, .int 0, .int 0])), (w0, .inr (14, [.int 0, .int 0])), (w1, .inr (14, [.int 0, .int 0]))] s.heap := hP
  have hD : va_D A [(x, .inr (15, [.ref sh, .ref tl, .ref tw, .int 0])), (sh, .inr (13, [.ref rg, .ref dk, .ref hd, .ref lg, .ref pl, .ref pr, .int 0, .int 0, .int 0, .int 0, .int 0, .int 0, .int 0, .int 0, .int 0, .int 0, .int 0])), (dk, .inr (4, [.ref w0, .ref w1, .ref ol, .int 0, .int 0, .int 0, .int 0])), (w0, .inr (14, [.int 0, .int 0])), (w1, .inr (14, [.int 0, .int 0]))] := hD
  have hl := lv_entry ([.ref x, .int p0]) (n := 2) (Nat.le_of_ble_eq_true rfl)
  rw [lg_entry_eq]
  generalize (lg_sl ([.ref x, .int p0]) ++ List.replicate (2 - (lg_sl ([.ref x, .int p0])).length) Slot.unset).toArray = ls at hl ⊢
  have hl : lv_has ls 2 [(0, .ref x), (1, .int p0)] := hl
  refine lv_iload_n hx hb dX11_tired_0 rfl (lv_at hl 1 rfl) ?_
  refine lv_iconst (v := 0) hx hb dX11_tired_1 (by decide) ?_
  refine lv_iconst (v := 1) hx hb dX11_tired_2 (by decide) ?_
  have hPc := hP.sub (ws' := []) [] rfl
  have hDc := hD.sub (ws' := []) [] (by decide) rfl
  have hKc := hK.sub (tys' := []) [] rfl
  have hFc := va_free (wc := []) hD hS hA [] rfl
  refine va_calli (va_runS (As := [.int p0, .int 0, .int 1]) (rest := []) ⟨hx, hb, hml, hown, hts⟩ (k_isIn l dC dI z zK zV p0 0 1 s.heap.size) (va_cwS 3 hts gX11_tired_X11_isIn rfl rfl rfl (by decide +kernel) ⟨Nat.le_of_ble_eq_true rfl, Nat.le_of_ble_eq_true rfl⟩) ⟨kP_blind, kP_go hPc hKc hDc hFc hM hS⟩ rfl rfl hl.1 rfl (lv_room (Nat.le_of_ble_eq_true rfl)) dX11_tired_3 ⟨Nat.le_of_ble_eq_true rfl, Nat.le_of_ble_eq_true rfl⟩) hS (fun q _ h => hFc q h) hFc (fun r1 u t H1 locs ht hvm hw hB hz1 hk1 hS => ?_)
  obtain ⟨hP, hD, hK⟩ := kJ (wr := [(x, .inr (15, [.ref sh, .ref tl, .ref tw, .int 0])), (sh, .inr (13, [.ref rg, .ref dk, .ref hd, .ref lg, .ref pl, .ref pr, .int 0, .int 0, .int 0, .int 0, .int 0, .int 0, .int 0, .int 0, .int 0, .int 0, .int 0])), (dk, .inr (4, [.ref w0, .ref w1, .ref ol, .int 0, .int 0, .int 0, .int 0])), (w0, .inr (14, [.int 0, .int 0])), (w1, .inr (14, [.int 0, .int 0]))]) (w1 := []) (t1 := []) hP hD hK [] [0, 1, 2, 3, 4] rfl rfl (by decide) (by decide) hk1 hFc ht hvm hB
  generalize H1 = H at hP hS ⊢
  have hP : va_P (dC, dI) vwCl [(x, .inr (15, [.ref sh, .ref tl, .ref tw, .int 0])), (sh, .inr (13, [.ref rg, .ref dk, .ref hd, .ref lg, .ref pl, .ref pr, .int 0, .int 0, .int 0, .int 0, .int 0, .int 0, .int 0, .int 0, .int 0, .int 0, .int 0])), (dk, .inr (4, [.ref w0, .ref w1, .ref ol, .int 0, .int 0, .int 0, .int 0])), (w0, .inr (14, [.int 0, .int 0])), (w1, .inr (14, [.int 0, .int 0]))] H := hP
  have hD : va_D A [(x, .inr (15, [.ref sh, .ref tl, .ref tw, .int 0])), (sh, .inr (13, [.ref rg, .ref dk, .ref hd, .ref lg, .ref pl, .ref pr, .int 0, .int 0, .int 0, .int 0, .int 0, .int 0, .int 0, .int 0, .int 0, .int 0, .int 0])), (dk, .inr (4, [.ref w0, .ref w1, .ref ol, .int 0, .int 0, .int 0, .int 0])), (w0, .inr (14, [.int 0, .int 0])), (w1, .inr (14, [.int 0, .int 0]))] := hD
  have hK : va_K (dC, dI) vwCl [] s := hK
  obtain rfl : (if 0 ≤ p0 ∧ p0 ≤ 1 then (1 : Int32) else 0) = r1 := hw
  refine lv_if_ne (tgt := 19) hx hb dX11_tired_6 (by decide) (fun c_ => absurd (if_neg hb0) c_) (fun _ => ?_)
  obtain ⟨sa, hsa⟩ := hM.2.1 _ (List.mem_of_getElem? (i := 7) rfl)
  exact vx_throwS (own := RX11) (cls := "java/lang/IndexOutOfBoundsException") (text := "no such watch") (names := ["java/lang/RuntimeException", "java/lang/Exception"]) (ik := 93) (is := 122) (ic := 97) (mc := 1) (ms := 6) (sa := sa) hx hb hst hown (by decide) (by decide) (hts (.classLink RX11 93 "java/lang/IndexOutOfBoundsException") (by decide +kernel)) (hts (.initialized "java/lang/IndexOutOfBoundsException") (by decide +kernel)) hsa (vx_hat (fun w h9 => hts w (List.mem_cons_of_mem _ (List.mem_append_right _ h9))) (by decide +kernel) (fun w hw => va_Nw.use (List.all_eq_true.mp am_Bt w hw) (hM.2.2.2.2.2.2.2.2.2.1 w hw))) (by decide +kernel) hM.2.2.2.2.2.2.2.1.1 hM.2.2.2.2.2.2.2.1.2 hS (hl.1.trans hml.symm) dX11_tired_9 dX11_tired_12 dX11_tired_13 dX11_tired_15 dX11_tired_18 (fun x hx => (hnt x hx).elim) (Nat.le_of_ble_eq_true rfl) (Nat.le_of_ble_eq_true rfl) (Nat.le_of_ble_eq_true rfl) (Nat.le_of_ble_eq_true rfl) hlocks (fun t hvm hz hq => ⟨(), trivial, rfl, Nat.le_trans hS.1 hz, fun q h1 h2 => (hq q (Nat.lt_of_lt_of_le h1 hS.1)).trans (hS.2.1 q h1 h2)⟩) hS.2.2 (Nat.le_of_ble_eq_true rfl) (Nat.le_of_ble_eq_true rfl)
abbrev wd_k_x_sick0 (z : Nat → Nat) (sh : Nat) (rg : Nat) (dk : Nat) (w0 : Nat) (w1 : Nat) (ol : Nat) (hd : Nat) (lg : Nat) (pl : Nat) (pr : Nat) (x : Nat) (tl : Nat) (tw : Nat) : va_W := [(x, .inr (15, [.ref sh, .ref tl, .ref tw, .int 0])), (sh, .inr (13, [.ref rg, .ref dk, .ref hd, .ref lg, .ref pl, .ref pr, .int 0, .int 0, .int 0, .int 0, .int 0, .int 0, .int 0, .int 0, .int 0, .int 0, .int 0])), (dk, .inr (4, [.ref w0, .ref w1, .ref ol, .int 0, .int 0, .int 0, .int 0])), (w0, .inr (14, [.int 0, .int 0])), (w1, .inr (14, [.int 0, .int 0]))]
set_option maxHeartbeats 4000000 in
set_option maxRecDepth 100000 in
theorem k_x_sick0 (l : Launch) (dC : Nat → ClassId) (dI : Nat → Nat → Nat) (z zK zV : Nat → Nat) (sh : Nat) (rg : Nat) (dk : Nat) (w0 : Nat) (w1 : Nat) (ol : Nat) (hd : Nat) (lg : Nat) (pl : Nat) (pr : Nat) (x : Nat) (tl : Nat) (tw : Nat) (sz : Nat)  : Met l yX11_sick wsX11_sick ({ frames := 1, cells := 0, slots := 0, locals := 22 }) (kP dC dI z zK zV [.ref x, .int 0] sz (wd_k_x_sick0 z sh rg dk w0 w1 ol hd lg pl pr x tl tw) []) (va_Qi (fun (r : Int32) (_ : Unit) => 0 = r) (fun _ t => kB (dC, dI) (va_A (wd_k_x_sick0 z sh rg dk w0 w1 ol hd lg pl pr x tl tw) sz) [] [] t) (va_A (wd_k_x_sick0 z sh rg dk w0 w1 ol hd lg pl pr x tl tw) sz)) 0 0 (va_A (wd_k_x_sick0 z sh rg dk w0 w1 ol hd lg pl pr x tl tw) sz) := by
  refine Met.ofW (cc := cX11_sick) (maxL := 2) (ret := (some .int)) (by decide) rfl ?_
  intro p e s m args below meth c s₁ B hml hv
  obtain ⟨rfl, hsz, hP, hK, hD0, hM⟩ := hv
  have hx := B.exec
  have hb := B.bytes
  have hr := B.returns
  have hts := atoms_spec (ws := wsX11_sick) B.pre
  have hown : s.vm.findClass RX11 = some m.cls := findClass_of_methodNamed B.named
  have hlocks := B.notSynchronized
  have hiX11 : ∀ w ∈ u_ws RX11 TX11 4, w ∈ wsX11_sick := by decide +kernel
  have hiX9 : ∀ w ∈ u_ws RX9 TX9 17, w ∈ wsX11_sick := by decide +kernel
  have hiX10 : ∀ w ∈ u_ws RX10 TX10 2, w ∈ wsX11_sick := by decide +kernel
  subst hsz
  have hD := hD0.self (sz := s.heap.size)
  generalize hAe : va_A (wd_k_x_sick0 z sh rg dk w0 w1 ol hd lg pl pr x tl tw) s.heap.size = A at hD hM ⊢
  have hA : ∀ q : Nat, s.heap.size ≤ q → A q := fun q h => by rw [← hAe]; exact Or.inr h
  have hS : va_S A s.heap s.heap [] := va_S.rf
  have hP : va_P (dC, dI) vwCl [(x, .inr (15, [.ref sh, .ref tl, .ref tw, .int 0])), (sh, .inr (13, [.ref rg, .ref dk, .ref hd, .ref lg, .ref pl, .ref pr, .int 0, .int 0, .int 0, .int 0, .int 0, .int 0, .int 0, .int 0, .int 0, .int 0, .int 0])), (dk, .inr (4, [.ref w0, .ref w1, .ref ol, .int 0, .int 0, .int 0, .int 0])), (w0, .inr (14, [.int 0, .int 0])), (w1, .inr (14, [.int 0, .int 0]))] s.heap := hP
  have hD : va_D A [(x, .inr (15, [.ref sh, .ref tl, .ref tw, .int 0])), (sh, .inr (13, [.ref rg, .ref dk, .ref hd, .ref lg, .ref pl, .ref pr, .int 0, .int 0, .int 0, .int 0, .int 0, .int 0, .int 0, .int 0, .int 0, .int 0, .int 0])), (dk, .inr (4, [.ref w0, .ref w1, .ref ol, .int 0, .int 0, .int 0, .int 0])), (w0, .inr (14, [.int 0, .int 0])), (w1, .inr (14, [.int 0, .int 0]))] := hD
  have hl := lv_entry ([.ref x, .int 0]) (n := 2) (Nat.le_of_ble_eq_true rfl)
  rw [lg_entry_eq]
  generalize (lg_sl ([.ref x, .int 0]) ++ List.replicate (2 - (lg_sl ([.ref x, .int 0])).length) Slot.unset).toArray = ls at hl ⊢
  have hl : lv_has ls 2 [(0, .ref x), (1, .int 0)] := hl
  refine lv_iload_n hx hb dX11_sick_0 rfl (lv_at hl 1 rfl) ?_
  refine lv_iconst (v := 0) hx hb dX11_sick_1 (by decide) ?_
  refine lv_iconst (v := 1) hx hb dX11_sick_2 (by decide) ?_
  have hPc := hP.sub (ws' := []) [] rfl
  have hDc := hD.sub (ws' := []) [] (by decide) rfl
  have hKc := hK.sub (tys' := []) [] rfl
  have hFc := va_free (wc := []) hD hS hA [] rfl
  refine va_calli (va_runS (As := [.int 0, .int 0, .int 1]) (rest := []) ⟨hx, hb, hml, hown, hts⟩ (k_isIn l dC dI z zK zV 0 0 1 s.heap.size) (va_cwS 3 hts gX11_sick_X11_isIn rfl rfl rfl (by decide +kernel) ⟨Nat.le_of_ble_eq_true rfl, Nat.le_of_ble_eq_true rfl⟩) ⟨kP_blind, kP_go hPc hKc hDc hFc hM hS⟩ rfl rfl hl.1 rfl (lv_room (Nat.le_of_ble_eq_true rfl)) dX11_sick_3 ⟨Nat.le_of_ble_eq_true rfl, Nat.le_of_ble_eq_true rfl⟩) hS (fun q _ h => hFc q h) hFc (fun r1 u t H1 locs ht hvm hw hB hz1 hk1 hS => ?_)
  obtain ⟨hP, hD, hK⟩ := kJ (wr := [(x, .inr (15, [.ref sh, .ref tl, .ref tw, .int 0])), (sh, .inr (13, [.ref rg, .ref dk, .ref hd, .ref lg, .ref pl, .ref pr, .int 0, .int 0, .int 0, .int 0, .int 0, .int 0, .int 0, .int 0, .int 0, .int 0, .int 0])), (dk, .inr (4, [.ref w0, .ref w1, .ref ol, .int 0, .int 0, .int 0, .int 0])), (w0, .inr (14, [.int 0, .int 0])), (w1, .inr (14, [.int 0, .int 0]))]) (w1 := []) (t1 := []) hP hD hK [] [0, 1, 2, 3, 4] rfl rfl (by decide) (by decide) hk1 hFc ht hvm hB
  generalize H1 = H at hP hS ⊢
  have hP : va_P (dC, dI) vwCl [(x, .inr (15, [.ref sh, .ref tl, .ref tw, .int 0])), (sh, .inr (13, [.ref rg, .ref dk, .ref hd, .ref lg, .ref pl, .ref pr, .int 0, .int 0, .int 0, .int 0, .int 0, .int 0, .int 0, .int 0, .int 0, .int 0, .int 0])), (dk, .inr (4, [.ref w0, .ref w1, .ref ol, .int 0, .int 0, .int 0, .int 0])), (w0, .inr (14, [.int 0, .int 0])), (w1, .inr (14, [.int 0, .int 0]))] H := hP
  have hD : va_D A [(x, .inr (15, [.ref sh, .ref tl, .ref tw, .int 0])), (sh, .inr (13, [.ref rg, .ref dk, .ref hd, .ref lg, .ref pl, .ref pr, .int 0, .int 0, .int 0, .int 0, .int 0, .int 0, .int 0, .int 0, .int 0, .int 0, .int 0])), (dk, .inr (4, [.ref w0, .ref w1, .ref ol, .int 0, .int 0, .int 0, .int 0])), (w0, .inr (14, [.int 0, .int 0])), (w1, .inr (14, [.int 0, .int 0]))] := hD
  have hK : va_K (dC, dI) vwCl [] s := hK
  obtain rfl : (if 0 ≤ 0 ∧ 0 ≤ 1 then (1 : Int32) else 0) = r1 := hw
  refine kc_i (y := 1) (by decide +kernel) ?_
  refine lv_if_ne (tgt := 19) hx hb dX11_sick_6 (by decide) (fun _ => ?_) (fun c_ => absurd c_ (by decide +kernel))
  refine lv_aload_n hx hb dX11_sick_19 rfl (lv_at hl 0 rfl) ?_
  refine va_get (D := (dC, dI)) (ci := 15) (v := .ref sh) (C := RX11) (T := TX11) (N := 4) hx hb hts hiX11 hown hK hP 0 rfl rfl 0 (by decide) (hts (.fieldLink RX11 10 "SquareRig" "ship" "LSquareRig$Ship;") (by decide +kernel)) (fun _ h9 => h9) rfl dX11_sick_20 ?_
  refine va_getN (D := (dC, dI)) (ci := 13) (v := .ref dk) (C := RX9) (T := TX9) (N := 17) hx hb hts hiX9 hown hK hP 1 rfl rfl 1 (by decide) (va_Nw.use rfl (hM.1 _ (List.mem_of_getElem? (i := 37) rfl))) (fun _ h9 => h9) rfl dX11_sick_23 ?_
  refine lv_iload_n hx hb dX11_sick_26 rfl (lv_at hl 1 rfl) ?_
  have hPc := hP.sub (ws' := [(dk, .inr (4, [.ref w0, .ref w1, .ref ol, .int 0, .int 0, .int 0, .int 0]))]) [2] rfl
  have hDc := hD.sub (ws' := [(dk, .inr (4, [.ref w0, .ref w1, .ref ol, .int 0, .int 0, .int 0, .int 0]))]) [2] (by decide) rfl
  have hKc := hK.sub (tys' := []) [] rfl
  have hFc := va_free (wc := [(dk, .inr (4, [.ref w0, .ref w1, .ref ol, .int 0, .int 0, .int 0, .int 0]))]) hD hS hA [2] rfl
  refine va_callr (va_runV (As := [.int 0]) (rest := []) ⟨hx, hb, hml, hown, hts⟩ (k_watchOf0 l dC dI z zK zV dk w0 w1 ol H.size) (cwV 1 hts gX11_sick_X0_watchOf rfl rfl rfl (by decide +kernel) ⟨Nat.le_of_ble_eq_true rfl, Nat.le_of_ble_eq_true rfl⟩) ⟨kP_blind, va_recv hKc hPc (ci := 4) (q0 := 0) rfl rfl, kP_go hPc hKc hDc hFc hM hS⟩ rfl rfl hl.1 rfl (lv_room (Nat.le_of_ble_eq_true rfl)) dX11_sick_27 ⟨Nat.le_of_ble_eq_true rfl, Nat.le_of_ble_eq_true rfl⟩) hS (fun q _ h => hFc q h) hFc (fun u ra2 t H1 locs ht hvm hw hB hz1 hk1 hS => ?_)
  obtain ⟨rfl, hB⟩ := hB
  obtain ⟨hP, hD, hK⟩ := kJ (wr := [(x, .inr (15, [.ref sh, .ref tl, .ref tw, .int 0])), (sh, .inr (13, [.ref rg, .ref dk, .ref hd, .ref lg, .ref pl, .ref pr, .int 0, .int 0, .int 0, .int 0, .int 0, .int 0, .int 0, .int 0, .int 0, .int 0, .int 0])), (w0, .inr (14, [.int 0, .int 0])), (w1, .inr (14, [.int 0, .int 0]))]) (w1 := [(dk, .inr (4, [.ref w0, .ref w1, .ref ol, .int 0, .int 0, .int 0, .int 0]))]) (t1 := []) hP hD hK [2] [0, 1, 3, 4] rfl rfl (by decide) (by decide) hk1 hFc ht hvm hB
  generalize H1 = H at hP hS ⊢
  have hP : va_P (dC, dI) vwCl [(x, .inr (15, [.ref sh, .ref tl, .ref tw, .int 0])), (sh, .inr (13, [.ref rg, .ref dk, .ref hd, .ref lg, .ref pl, .ref pr, .int 0, .int 0, .int 0, .int 0, .int 0, .int 0, .int 0, .int 0, .int 0, .int 0, .int 0])), (w0, .inr (14, [.int 0, .int 0])), (w1, .inr (14, [.int 0, .int 0])), (dk, .inr (4, [.ref w0, .ref w1, .ref ol, .int 0, .int 0, .int 0, .int 0]))] H := hP
  have hD : va_D A [(x, .inr (15, [.ref sh, .ref tl, .ref tw, .int 0])), (sh, .inr (13, [.ref rg, .ref dk, .ref hd, .ref lg, .ref pl, .ref pr, .int 0, .int 0, .int 0, .int 0, .int 0, .int 0, .int 0, .int 0, .int 0, .int 0, .int 0])), (w0, .inr (14, [.int 0, .int 0])), (w1, .inr (14, [.int 0, .int 0])), (dk, .inr (4, [.ref w0, .ref w1, .ref ol, .int 0, .int 0, .int 0, .int 0]))] := hD
  have hK : va_K (dC, dI) vwCl [] s := hK
  refine va_getN (D := (dC, dI)) (ci := 14) (v := .int 0) (C := RX10) (T := TX10) (N := 2) hx hb hts hiX10 hown hK hP 2 rfl rfl 1 (by decide) (va_Nw.use rfl (hM.1 _ (List.mem_of_getElem? (i := 23) rfl))) (fun _ h9 => h9) rfl dX11_sick_30 ?_
  exact W.iret (v := 0) hx hb hr (fun t ht hW => ⟨⟨0, (), rfl, rfl, kB_end (w9 := []) (t9 := []) hP hK hD [] [] rfl (by decide) rfl rfl t ht hW⟩, hS.F ht⟩) hS.2.2 dX11_sick_33
abbrev wd_k_x_sick1 (z : Nat → Nat) (sh : Nat) (rg : Nat) (dk : Nat) (w0 : Nat) (w1 : Nat) (ol : Nat) (hd : Nat) (lg : Nat) (pl : Nat) (pr : Nat) (x : Nat) (tl : Nat) (tw : Nat) : va_W := [(x, .inr (15, [.ref sh, .ref tl, .ref tw, .int 0])), (sh, .inr (13, [.ref rg, .ref dk, .ref hd, .ref lg, .ref pl, .ref pr, .int 0, .int 0, .int 0, .int 0, .int 0, .int 0, .int 0, .int 0, .int 0, .int 0, .int 0])), (dk, .inr (4, [.ref w0, .ref w1, .ref ol, .int 0, .int 0, .int 0, .int 0])), (w0, .inr (14, [.int 0, .int 0])), (w1, .inr (14, [.int 0, .int 0]))]
set_option maxHeartbeats 4000000 in
set_option maxRecDepth 100000 in
theorem k_x_sick1 (l : Launch) (dC : Nat → ClassId) (dI : Nat → Nat → Nat) (z zK zV : Nat → Nat) (sh : Nat) (rg : Nat) (dk : Nat) (w0 : Nat) (w1 : Nat) (ol : Nat) (hd : Nat) (lg : Nat) (pl : Nat) (pr : Nat) (x : Nat) (tl : Nat) (tw : Nat) (sz : Nat)  : Met l yX11_sick wsX11_sick ({ frames := 1, cells := 0, slots := 0, locals := 22 }) (kP dC dI z zK zV [.ref x, .int 1] sz (wd_k_x_sick1 z sh rg dk w0 w1 ol hd lg pl pr x tl tw) []) (va_Qi (fun (r : Int32) (_ : Unit) => 0 = r) (fun _ t => kB (dC, dI) (va_A (wd_k_x_sick1 z sh rg dk w0 w1 ol hd lg pl pr x tl tw) sz) [] [] t) (va_A (wd_k_x_sick1 z sh rg dk w0 w1 ol hd lg pl pr x tl tw) sz)) 0 0 (va_A (wd_k_x_sick1 z sh rg dk w0 w1 ol hd lg pl pr x tl tw) sz) := by
  refine Met.ofW (cc := cX11_sick) (maxL := 2) (ret := (some .int)) (by decide) rfl ?_
  intro p e s m args below meth c s₁ B hml hv
  obtain ⟨rfl, hsz, hP, hK, hD0, hM⟩ := hv
  have hx := B.exec
  have hb := B.bytes
  have hr := B.returns
  have hts := atoms_spec (ws := wsX11_sick) B.pre
  have hown : s.vm.findClass RX11 = some m.cls := findClass_of_methodNamed B.named
  have hlocks := B.notSynchronized
  have hiX11 : ∀ w ∈ u_ws RX11 TX11 4, w ∈ wsX11_sick := by decide +kernel
  have hiX9 : ∀ w ∈ u_ws RX9 TX9 17, w ∈ wsX11_sick := by decide +kernel
  have hiX10 : ∀ w ∈ u_ws RX10 TX10 2, w ∈ wsX11_sick := by decide +kernel
  subst hsz
  have hD := hD0.self (sz := s.heap.size)
  generalize hAe : va_A (wd_k_x_sick1 z sh rg dk w0 w1 ol hd lg pl pr x tl tw) s.heap.size = A at hD hM ⊢
  have hA : ∀ q : Nat, s.heap.size ≤ q → A q := fun q h => by rw [← hAe]; exact Or.inr h
  have hS : va_S A s.heap s.heap [] := va_S.rf
  have hP : va_P (dC, dI) vwCl [(x, .inr (15, [.ref sh, .ref tl, .ref tw, .int 0])), (sh, .inr (13, [.ref rg, .ref dk, .ref hd, .ref lg, .ref pl, .ref pr, .int 0, .int 0, .int 0, .int 0, .int 0, .int 0, .int 0, .int 0, .int 0, .int 0, .int 0])), (dk, .inr (4, [.ref w0, .ref w1, .ref ol, .int 0, .int 0, .int 0, .int 0])), (w0, .inr (14, [.int 0, .int 0])), (w1, .inr (14, [.int 0, .int 0]))] s.heap := hP
  have hD : va_D A [(x, .inr (15, [.ref sh, .ref tl, .ref tw, .int 0])), (sh, .inr (13, [.ref rg, .ref dk, .ref hd, .ref lg, .ref pl, .ref pr, .int 0, .int 0, .int 0, .int 0, .int 0, .int 0, .int 0, .int 0, .int 0, .int 0, .int 0])), (dk, .inr (4, [.ref w0, .ref w1, .ref ol, .int 0, .int 0, .int 0, .int 0])), (w0, .inr (14, [.int 0, .int 0])), (w1, .inr (14, [.int 0, .int 0]))] := hD
  have hl := lv_entry ([.ref x, .int 1]) (n := 2) (Nat.le_of_ble_eq_true rfl)
  rw [lg_entry_eq]
  generalize (lg_sl ([.ref x, .int 1]) ++ List.replicate (2 - (lg_sl ([.ref x, .int 1])).length) Slot.unset).toArray = ls at hl ⊢
  have hl : lv_has ls 2 [(0, .ref x), (1, .int 1)] := hl
  refine lv_iload_n hx hb dX11_sick_0 rfl (lv_at hl 1 rfl) ?_
  refine lv_iconst (v := 0) hx hb dX11_sick_1 (by decide) ?_
  refine lv_iconst (v := 1) hx hb dX11_sick_2 (by decide) ?_
  have hPc := hP.sub (ws' := []) [] rfl
  have hDc := hD.sub (ws' := []) [] (by decide) rfl
  have hKc := hK.sub (tys' := []) [] rfl
  have hFc := va_free (wc := []) hD hS hA [] rfl
  refine va_calli (va_runS (As := [.int 1, .int 0, .int 1]) (rest := []) ⟨hx, hb, hml, hown, hts⟩ (k_isIn l dC dI z zK zV 1 0 1 s.heap.size) (va_cwS 3 hts gX11_sick_X11_isIn rfl rfl rfl (by decide +kernel) ⟨Nat.le_of_ble_eq_true rfl, Nat.le_of_ble_eq_true rfl⟩) ⟨kP_blind, kP_go hPc hKc hDc hFc hM hS⟩ rfl rfl hl.1 rfl (lv_room (Nat.le_of_ble_eq_true rfl)) dX11_sick_3 ⟨Nat.le_of_ble_eq_true rfl, Nat.le_of_ble_eq_true rfl⟩) hS (fun q _ h => hFc q h) hFc (fun r1 u t H1 locs ht hvm hw hB hz1 hk1 hS => ?_)
  obtain ⟨hP, hD, hK⟩ := kJ (wr := [(x, .inr (15, [.ref sh, .ref tl, .ref tw, .int 0])), (sh, .inr (13, [.ref rg, .ref dk, .ref hd, .ref lg, .ref pl, .ref pr, .int 0, .int 0, .int 0, .int 0, .int 0, .int 0, .int 0, .int 0, .int 0, .int 0, .int 0])), (dk, .inr (4, [.ref w0, .ref w1, .ref ol, .int 0, .int 0, .int 0, .int 0])), (w0, .inr (14, [.int 0, .int 0])), (w1, .inr (14, [.int 0, .int 0]))]) (w1 := []) (t1 := []) hP hD hK [] [0, 1, 2, 3, 4] rfl rfl (by decide) (by decide) hk1 hFc ht hvm hB
  generalize H1 = H at hP hS ⊢
  have hP : va_P (dC, dI) vwCl [(x, .inr (15, [.ref sh, .ref tl, .ref tw, .int 0])), (sh, .inr (13, [.ref rg, .ref dk, .ref hd, .ref lg, .ref pl, .ref pr, .int 0, .int 0, .int 0, .int 0, .int 0, .int 0, .int 0, .int 0, .int 0, .int 0, .int 0])), (dk, .inr (4, [.ref w0, .ref w1, .ref ol, .int 0, .int 0, .int 0, .int 0])), (w0, .inr (14, [.int 0, .int 0])), (w1, .inr (14, [.int 0, .int 0]))] H := hP
  have hD : va_D A [(x, .inr (15, [.ref sh, .ref tl, .ref tw, .int 0])), (sh, .inr (13, [.ref rg, .ref dk, .ref hd, .ref lg, .ref pl, .ref pr, .int 0, .int 0, .int 0, .int 0, .int 0, .int 0, .int 0, .int 0, .int 0, .int 0, .int 0])), (dk, .inr (4, [.ref w0, .ref w1, .ref ol, .int 0, .int 0, .int 0, .int 0])), (w0, .inr (14, [.int 0, .int 0])), (w1, .inr (14, [.int 0, .int 0]))] := hD
  have hK : va_K (dC, dI) vwCl [] s := hK
  obtain rfl : (if 0 ≤ 1 ∧ 1 ≤ 1 then (1 : Int32) else 0) = r1 := hw
  refine kc_i (y := 1) (by decide +kernel) ?_
  refine lv_if_ne (tgt := 19) hx hb dX11_sick_6 (by decide) (fun _ => ?_) (fun c_ => absurd c_ (by decide +kernel))
  refine lv_aload_n hx hb dX11_sick_19 rfl (lv_at hl 0 rfl) ?_
  refine va_get (D := (dC, dI)) (ci := 15) (v := .ref sh) (C := RX11) (T := TX11) (N := 4) hx hb hts hiX11 hown hK hP 0 rfl rfl 0 (by decide) (hts (.fieldLink RX11 10 "SquareRig" "ship" "LSquareRig$Ship;") (by decide +kernel)) (fun _ h9 => h9) rfl dX11_sick_20 ?_
  refine va_getN (D := (dC, dI)) (ci := 13) (v := .ref dk) (C := RX9) (T := TX9) (N := 17) hx hb hts hiX9 hown hK hP 1 rfl rfl 1 (by decide) (va_Nw.use rfl (hM.1 _ (List.mem_of_getElem? (i := 37) rfl))) (fun _ h9 => h9) rfl dX11_sick_23 ?_
  refine lv_iload_n hx hb dX11_sick_26 rfl (lv_at hl 1 rfl) ?_
  have hPc := hP.sub (ws' := [(dk, .inr (4, [.ref w0, .ref w1, .ref ol, .int 0, .int 0, .int 0, .int 0]))]) [2] rfl
  have hDc := hD.sub (ws' := [(dk, .inr (4, [.ref w0, .ref w1, .ref ol, .int 0, .int 0, .int 0, .int 0]))]) [2] (by decide) rfl
  have hKc := hK.sub (tys' := []) [] rfl
  have hFc := va_free (wc := [(dk, .inr (4, [.ref w0, .ref w1, .ref ol, .int 0, .int 0, .int 0, .int 0]))]) hD hS hA [2] rfl
  refine va_callr (va_runV (As := [.int 1]) (rest := []) ⟨hx, hb, hml, hown, hts⟩ (k_watchOf1 l dC dI z zK zV dk w0 w1 ol H.size) (cwV 1 hts gX11_sick_X0_watchOf rfl rfl rfl (by decide +kernel) ⟨Nat.le_of_ble_eq_true rfl, Nat.le_of_ble_eq_true rfl⟩) ⟨kP_blind, va_recv hKc hPc (ci := 4) (q0 := 0) rfl rfl, kP_go hPc hKc hDc hFc hM hS⟩ rfl rfl hl.1 rfl (lv_room (Nat.le_of_ble_eq_true rfl)) dX11_sick_27 ⟨Nat.le_of_ble_eq_true rfl, Nat.le_of_ble_eq_true rfl⟩) hS (fun q _ h => hFc q h) hFc (fun u ra2 t H1 locs ht hvm hw hB hz1 hk1 hS => ?_)
  obtain ⟨rfl, hB⟩ := hB
  obtain ⟨hP, hD, hK⟩ := kJ (wr := [(x, .inr (15, [.ref sh, .ref tl, .ref tw, .int 0])), (sh, .inr (13, [.ref rg, .ref dk, .ref hd, .ref lg, .ref pl, .ref pr, .int 0, .int 0, .int 0, .int 0, .int 0, .int 0, .int 0, .int 0, .int 0, .int 0, .int 0])), (w0, .inr (14, [.int 0, .int 0])), (w1, .inr (14, [.int 0, .int 0]))]) (w1 := [(dk, .inr (4, [.ref w0, .ref w1, .ref ol, .int 0, .int 0, .int 0, .int 0]))]) (t1 := []) hP hD hK [2] [0, 1, 3, 4] rfl rfl (by decide) (by decide) hk1 hFc ht hvm hB
  generalize H1 = H at hP hS ⊢
  have hP : va_P (dC, dI) vwCl [(x, .inr (15, [.ref sh, .ref tl, .ref tw, .int 0])), (sh, .inr (13, [.ref rg, .ref dk, .ref hd, .ref lg, .ref pl, .ref pr, .int 0, .int 0, .int 0, .int 0, .int 0, .int 0, .int 0, .int 0, .int 0, .int 0, .int 0])), (w0, .inr (14, [.int 0, .int 0])), (w1, .inr (14, [.int 0, .int 0])), (dk, .inr (4, [.ref w0, .ref w1, .ref ol, .int 0, .int 0, .int 0, .int 0]))] H := hP
  have hD : va_D A [(x, .inr (15, [.ref sh, .ref tl, .ref tw, .int 0])), (sh, .inr (13, [.ref rg, .ref dk, .ref hd, .ref lg, .ref pl, .ref pr, .int 0, .int 0, .int 0, .int 0, .int 0, .int 0, .int 0, .int 0, .int 0, .int 0, .int 0])), (w0, .inr (14, [.int 0, .int 0])), (w1, .inr (14, [.int 0, .int 0])), (dk, .inr (4, [.ref w0, .ref w1, .ref ol, .int 0, .int 0, .int 0, .int 0]))] := hD
  have hK : va_K (dC, dI) vwCl [] s := hK
  refine va_getN (D := (dC, dI)) (ci := 14) (v := .int 0) (C := RX10) (T := TX10) (N := 2) hx hb hts hiX10 hown hK hP 3 rfl rfl 1 (by decide) (va_Nw.use rfl (hM.1 _ (List.mem_of_getElem? (i := 23) rfl))) (fun _ h9 => h9) rfl dX11_sick_30 ?_
  exact W.iret (v := 0) hx hb hr (fun t ht hW => ⟨⟨0, (), rfl, rfl, kB_end (w9 := []) (t9 := []) hP hK hD [] [] rfl (by decide) rfl rfl t ht hW⟩, hS.F ht⟩) hS.2.2 dX11_sick_33
abbrev wd_k_x_sick_bad (z : Nat → Nat) (sh : Nat) (rg : Nat) (dk : Nat) (w0 : Nat) (w1 : Nat) (ol : Nat) (hd : Nat) (lg : Nat) (pl : Nat) (pr : Nat) (x : Nat) (tl : Nat) (tw : Nat) (p0 : Int32) : va_W := [(x, .inr (15, [.ref sh, .ref tl, .ref tw, .int 0])), (sh, .inr (13, [.ref rg, .ref dk, .ref hd, .ref lg, .ref pl, .ref pr, .int 0, .int 0, .int 0, .int 0, .int 0, .int 0, .int 0, .int 0, .int 0, .int 0, .int 0])), (dk, .inr (4, [.ref w0, .ref w1, .ref ol, .int 0, .int 0, .int 0, .int 0])), (w0, .inr (14, [.int 0, .int 0])), (w1, .inr (14, [.int 0, .int 0]))]
set_option maxHeartbeats 4000000 in
set_option maxRecDepth 100000 in
theorem k_x_sick_bad (l : Launch) (dC : Nat → ClassId) (dI : Nat → Nat → Nat) (z zK zV : Nat → Nat) (sh : Nat) (rg : Nat) (dk : Nat) (w0 : Nat) (w1 : Nat) (ol : Nat) (hd : Nat) (lg : Nat) (pl : Nat) (pr : Nat) (x : Nat) (tl : Nat) (tw : Nat) (p0 : Int32) (sz : Nat) (hst : l.stackTraces = false) (hb0 : ¬ ((0 : Int32) ≤ p0 ∧ p0 ≤ 1)) : vx_Met l yX11_sick wsX11_sick ({ frames := 6, cells := 1, slots := 6, locals := 82 }) (kP dC dI z zK zV [.ref x, .int p0] sz (wd_k_x_sick_bad z sh rg dk w0 w1 ol hd lg pl pr x tl tw p0) []) (va_Qi (fun (r : Int32) (_ : Unit) => False) (fun _ t => kB (dC, dI) (va_A (wd_k_x_sick_bad z sh rg dk w0 w1 ol hd lg pl pr x tl tw p0) sz) [] [] t) (va_A (wd_k_x_sick_bad z sh rg dk w0 w1 ol hd lg pl pr x tl tw p0) sz)) (vx_X (fun _ : Unit => True) (fun E _ _ => "java/lang/IndexOutOfBoundsException" = E) (va_A (wd_k_x_sick_bad z sh rg dk w0 w1 ol hd lg pl pr x tl tw p0) sz)) 1 6 (va_A (wd_k_x_sick_bad z sh rg dk w0 w1 ol hd lg pl pr x tl tw p0) sz) := by
  refine vx_ofW (cc := cX11_sick) (maxL := 2) (ret := (some .int)) (by decide) rfl ?_
  intro p e s m args below meth c s₁ B hml hnt hv
  obtain ⟨rfl, hsz, hP, hK, hD0, hM⟩ := hv
  have hx := B.exec
  have hb := B.bytes
  have hr := B.returns
  have hts := atoms_spec (ws := wsX11_sick) B.pre
  have hown : s.vm.findClass RX11 = some m.cls := findClass_of_methodNamed B.named
  have hlocks := B.notSynchronized
  subst hsz
  have hD := hD0.self (sz := s.heap.size)
  generalize hAe : va_A (wd_k_x_sick_bad z sh rg dk w0 w1 ol hd lg pl pr x tl tw p0) s.heap.size = A at hD hM ⊢
  have hA : ∀ q : Nat, s.heap.size ≤ q → A q := fun q h => by rw [← hAe]; exact Or.inr h
  have hS : va_S A s.heap s.heap [] := va_S.rf
  have hP : va_P (dC, dI) vwCl [(x, .inr (15, [.ref sh, .ref tl, .ref tw, .int 0])), (sh, .inr (13, [.ref rg, .ref dk, .ref hd, .ref lg, .ref pl, .ref pr, .int 0, .int 0, .int 0, .int 0, .int 0, .int 0, .int 0, .int 0, .int 0, .int 0, .int 0])), (dk, .inr (4, [.ref w0, .ref w1, .ref ol, .int 0, .int 0, .int 0, .int 0])), (w0, .inr (14, [.int 0, .int 0])), (w1, .inr (14, [.int 0, .int 0]))] s.heap := hP
  have hD : va_D A [(x, .inr (15, [.ref sh, .ref tl, .ref tw, .int 0])), (sh, .inr (13, [.ref rg, .ref dk, .ref hd, .ref lg, .ref pl, .ref pr, .int 0, .int 0, .int 0, .int 0, .int 0, .int 0, .int 0, .int 0, .int 0, .int 0, .int 0])), (dk, .inr (4, [.ref w0, .ref w1, .ref ol, .int 0, .int 0, .int 0, .int 0])), (w0, .inr (14, [.int 0, .int 0])), (w1, .inr (14, [.int 0, .int 0]))] := hD
  have hl := lv_entry ([.ref x, .int p0]) (n := 2) (Nat.le_of_ble_eq_true rfl)
  rw [lg_entry_eq]
  generalize (lg_sl ([.ref x, .int p0]) ++ List.replicate (2 - (lg_sl ([.ref x, .int p0])).length) Slot.unset).toArray = ls at hl ⊢
  have hl : lv_has ls 2 [(0, .ref x), (1, .int p0)] := hl
  refine lv_iload_n hx hb dX11_sick_0 rfl (lv_at hl 1 rfl) ?_
  refine lv_iconst (v := 0) hx hb dX11_sick_1 (by decide) ?_
  refine lv_iconst (v := 1) hx hb dX11_sick_2 (by decide) ?_
  have hPc := hP.sub (ws' := []) [] rfl
  have hDc := hD.sub (ws' := []) [] (by decide) rfl
  have hKc := hK.sub (tys' := []) [] rfl
  have hFc := va_free (wc := []) hD hS hA [] rfl
  refine va_calli (va_runS (As := [.int p0, .int 0, .int 1]) (rest := []) ⟨hx, hb, hml, hown, hts⟩ (k_isIn l dC dI z zK zV p0 0 1 s.heap.size) (va_cwS 3 hts gX11_sick_X11_isIn rfl rfl rfl (by decide +kernel) ⟨Nat.le_of_ble_eq_true rfl, Nat.le_of_ble_eq_true rfl⟩) ⟨kP_blind, kP_go hPc hKc hDc hFc hM hS⟩ rfl rfl hl.1 rfl (lv_room (Nat.le_of_ble_eq_true rfl)) dX11_sick_3 ⟨Nat.le_of_ble_eq_true rfl, Nat.le_of_ble_eq_true rfl⟩) hS (fun q _ h => hFc q h) hFc (fun r1 u t H1 locs ht hvm hw hB hz1 hk1 hS => ?_)
  obtain ⟨hP, hD, hK⟩ := kJ (wr := [(x, .inr (15, [.ref sh, .ref tl, .ref tw, .int 0])), (sh, .inr (13, [.ref rg, .ref dk, .ref hd, .ref lg, .ref pl, .ref pr, .int 0, .int 0, .int 0, .int 0, .int 0, .int 0, .int 0, .int 0, .int 0, .int 0, .int 0])), (dk, .inr (4, [.ref w0, .ref w1, .ref ol, .int 0, .int 0, .int 0, .int 0])), (w0, .inr (14, [.int 0, .int 0])), (w1, .inr (14, [.int 0, .int 0]))]) (w1 := []) (t1 := []) hP hD hK [] [0, 1, 2, 3, 4] rfl rfl (by decide) (by decide) hk1 hFc ht hvm hB
  generalize H1 = H at hP hS ⊢
  have hP : va_P (dC, dI) vwCl [(x, .inr (15, [.ref sh, .ref tl, .ref tw, .int 0])), (sh, .inr (13, [.ref rg, .ref dk, .ref hd, .ref lg, .ref pl, .ref pr, .int 0, .int 0, .int 0, .int 0, .int 0, .int 0, .int 0, .int 0, .int 0, .int 0, .int 0])), (dk, .inr (4, [.ref w0, .ref w1, .ref ol, .int 0, .int 0, .int 0, .int 0])), (w0, .inr (14, [.int 0, .int 0])), (w1, .inr (14, [.int 0, .int 0]))] H := hP
  have hD : va_D A [(x, .inr (15, [.ref sh, .ref tl, .ref tw, .int 0])), (sh, .inr (13, [.ref rg, .ref dk, .ref hd, .ref lg, .ref pl, .ref pr, .int 0, .int 0, .int 0, .int 0, .int 0, .int 0, .int 0, .int 0, .int 0, .int 0, .int 0])), (dk, .inr (4, [.ref w0, .ref w1, .ref ol, .int 0, .int 0, .int 0, .int 0])), (w0, .inr (14, [.int 0, .int 0])), (w1, .inr (14, [.int 0, .int 0]))] := hD
  have hK : va_K (dC, dI) vwCl [] s := hK
  obtain rfl : (if 0 ≤ p0 ∧ p0 ≤ 1 then (1 : Int32) else 0) = r1 := hw
  refine lv_if_ne (tgt := 19) hx hb dX11_sick_6 (by decide) (fun c_ => absurd (if_neg hb0) c_) (fun _ => ?_)
  obtain ⟨sa, hsa⟩ := hM.2.1 _ (List.mem_of_getElem? (i := 7) rfl)
  exact vx_throwS (own := RX11) (cls := "java/lang/IndexOutOfBoundsException") (text := "no such watch") (names := ["java/lang/RuntimeException", "java/lang/Exception"]) (ik := 93) (is := 122) (ic := 97) (mc := 1) (ms := 6) (sa := sa) hx hb hst hown (by decide) (by decide) (hts (.classLink RX11 93 "java/lang/IndexOutOfBoundsException") (by decide +kernel)) (hts (.initialized "java/lang/IndexOutOfBoundsException") (by decide +kernel)) hsa (vx_hat (fun w h9 => hts w (List.mem_cons_of_mem _ (List.mem_append_right _ h9))) (by decide +kernel) (fun w hw => va_Nw.use (List.all_eq_true.mp am_Bt w hw) (hM.2.2.2.2.2.2.2.2.2.1 w hw))) (by decide +kernel) hM.2.2.2.2.2.2.2.1.1 hM.2.2.2.2.2.2.2.1.2 hS (hl.1.trans hml.symm) dX11_sick_9 dX11_sick_12 dX11_sick_13 dX11_sick_15 dX11_sick_18 (fun x hx => (hnt x hx).elim) (Nat.le_of_ble_eq_true rfl) (Nat.le_of_ble_eq_true rfl) (Nat.le_of_ble_eq_true rfl) (Nat.le_of_ble_eq_true rfl) hlocks (fun t hvm hz hq => ⟨(), trivial, rfl, Nat.le_trans hS.1 hz, fun q h1 h2 => (hq q (Nat.lt_of_lt_of_le h1 hS.1)).trans (hS.2.1 q h1 h2)⟩) hS.2.2 (Nat.le_of_ble_eq_true rfl) (Nat.le_of_ble_eq_true rfl)
abbrev wd_k_x_left (z : Nat → Nat) (sh : Nat) (rg : Nat) (dk : Nat) (hd : Nat) (hu : Nat) (hy : Nat) (lg : Nat) (pl : Nat) (pr : Nat) (x : Nat) (tl : Nat) (tw : Nat) (p0 : Int32) : va_W := [(x, .inr (15, [.ref sh, .ref tl, .ref tw, .int 0])), (sh, .inr (13, [.ref rg, .ref dk, .ref hd, .ref lg, .ref pl, .ref pr, .int 0, .int 0, .int 0, .int 0, .int 0, .int 0, .int 0, .int 0, .int 0, .int 0, .int 0])), (hd, .inr (6, [.ref hu, .ref hy, .int 0]))]
set_option maxHeartbeats 4000000 in
set_option maxRecDepth 100000 in
theorem k_x_left (l : Launch) (dC : Nat → ClassId) (dI : Nat → Nat → Nat) (z zK zV : Nat → Nat) (sh : Nat) (rg : Nat) (dk : Nat) (hd : Nat) (hu : Nat) (hy : Nat) (lg : Nat) (pl : Nat) (pr : Nat) (x : Nat) (tl : Nat) (tw : Nat) (p0 : Int32) (sz : Nat) (hst : l.stackTraces = false)  : vx_Met l yX11_left wsX11_left ({ frames := 6, cells := 1, slots := 6, locals := 82 }) (kP dC dI z zK zV [.ref x, .int p0] sz (wd_k_x_left z sh rg dk hd hu hy lg pl pr x tl tw p0) []) (va_Qi (fun (r : Int32) (_ : Unit) => False) (fun _ t => kB (dC, dI) (va_A (wd_k_x_left z sh rg dk hd hu hy lg pl pr x tl tw p0) sz) [] [] t) (va_A (wd_k_x_left z sh rg dk hd hu hy lg pl pr x tl tw p0) sz)) (vx_X (fun _ : Unit => True) (fun E _ _ => "java/lang/IndexOutOfBoundsException" = E) (va_A (wd_k_x_left z sh rg dk hd hu hy lg pl pr x tl tw p0) sz)) 1 6 (va_A (wd_k_x_left z sh rg dk hd hu hy lg pl pr x tl tw p0) sz) := by
  refine vx_ofW (cc := cX11_left) (maxL := 2) (ret := (some .int)) (by decide) rfl ?_
  intro p e s m args below meth c s₁ B hml hnt hv
  obtain ⟨rfl, hsz, hP, hK, hD0, hM⟩ := hv
  have hx := B.exec
  have hb := B.bytes
  have hr := B.returns
  have hts := atoms_spec (ws := wsX11_left) B.pre
  have hown : s.vm.findClass RX11 = some m.cls := findClass_of_methodNamed B.named
  have hlocks := B.notSynchronized
  have hiX11 : ∀ w ∈ u_ws RX11 TX11 4, w ∈ wsX11_left := by decide +kernel
  have hiX9 : ∀ w ∈ u_ws RX9 TX9 17, w ∈ wsX11_left := by decide +kernel
  have hiX2 : ∀ w ∈ u_ws RX2 TX2 3, w ∈ wsX11_left := by decide +kernel
  subst hsz
  have hD := hD0.self (sz := s.heap.size)
  generalize hAe : va_A (wd_k_x_left z sh rg dk hd hu hy lg pl pr x tl tw p0) s.heap.size = A at hD hM ⊢
  have hA : ∀ q : Nat, s.heap.size ≤ q → A q := fun q h => by rw [← hAe]; exact Or.inr h
  have hS : va_S A s.heap s.heap [] := va_S.rf
  have hP : va_P (dC, dI) vwCl [(x, .inr (15, [.ref sh, .ref tl, .ref tw, .int 0])), (sh, .inr (13, [.ref rg, .ref dk, .ref hd, .ref lg, .ref pl, .ref pr, .int 0, .int 0, .int 0, .int 0, .int 0, .int 0, .int 0, .int 0, .int 0, .int 0, .int 0])), (hd, .inr (6, [.ref hu, .ref hy, .int 0]))] s.heap := hP
  have hD : va_D A [(x, .inr (15, [.ref sh, .ref tl, .ref tw, .int 0])), (sh, .inr (13, [.ref rg, .ref dk, .ref hd, .ref lg, .ref pl, .ref pr, .int 0, .int 0, .int 0, .int 0, .int 0, .int 0, .int 0, .int 0, .int 0, .int 0, .int 0])), (hd, .inr (6, [.ref hu, .ref hy, .int 0]))] := hD
  have hl := lv_entry ([.ref x, .int p0]) (n := 2) (Nat.le_of_ble_eq_true rfl)
  rw [lg_entry_eq]
  generalize (lg_sl ([.ref x, .int p0]) ++ List.replicate (2 - (lg_sl ([.ref x, .int p0])).length) Slot.unset).toArray = ls at hl ⊢
  have hl : lv_has ls 2 [(0, .ref x), (1, .int p0)] := hl
  refine lv_iload_n hx hb dX11_left_0 rfl (lv_at hl 1 rfl) ?_
  refine lv_iconst (v := 0) hx hb dX11_left_1 (by decide) ?_
  refine lv_aload_n hx hb dX11_left_2 rfl (lv_at hl 0 rfl) ?_
  refine va_get (D := (dC, dI)) (ci := 15) (v := .ref sh) (C := RX11) (T := TX11) (N := 4) hx hb hts hiX11 hown hK hP 0 rfl rfl 0 (by decide) (hts (.fieldLink RX11 10 "SquareRig" "ship" "LSquareRig$Ship;") (by decide +kernel)) (fun _ h9 => h9) rfl dX11_left_3 ?_
  refine va_getN (D := (dC, dI)) (ci := 13) (v := .ref hd) (C := RX9) (T := TX9) (N := 17) hx hb hts hiX9 hown hK hP 1 rfl rfl 2 (by decide) (va_Nw.use rfl (hM.1 _ (List.mem_of_getElem? (i := 38) rfl))) (fun _ h9 => h9) rfl dX11_left_6 ?_
  refine va_getN (D := (dC, dI)) (ci := 6) (v := .int 0) (C := RX2) (T := TX2) (N := 3) hx hb hts hiX2 hown hK hP 2 rfl rfl 2 (by decide) (va_Nw.use rfl (hM.1 _ (List.mem_of_getElem? (i := 30) rfl))) (fun _ h9 => h9) rfl dX11_left_9 ?_
  refine lv_iconst (v := 1) hx hb dX11_left_12 (by decide) ?_
  refine lv_isub hx hb dX11_left_13 ?_
  refine kc_i (y := (-1)) (by decide +kernel) ?_
  have hPc := hP.sub (ws' := []) [] rfl
  have hDc := hD.sub (ws' := []) [] (by decide) rfl
  have hKc := hK.sub (tys' := []) [] rfl
  have hFc := va_free (wc := []) hD hS hA [] rfl
  refine va_calli (va_runS (As := [.int p0, .int 0, .int (-1)]) (rest := []) ⟨hx, hb, hml, hown, hts⟩ (k_isIn l dC dI z zK zV p0 0 (-1) s.heap.size) (va_cwS 3 hts gX11_left_X11_isIn rfl rfl rfl (by decide +kernel) ⟨Nat.le_of_ble_eq_true rfl, Nat.le_of_ble_eq_true rfl⟩) ⟨kP_blind, kP_go hPc hKc hDc hFc hM hS⟩ rfl rfl hl.1 rfl (lv_room (Nat.le_of_ble_eq_true rfl)) dX11_left_14 ⟨Nat.le_of_ble_eq_true rfl, Nat.le_of_ble_eq_true rfl⟩) hS (fun q _ h => hFc q h) hFc (fun r1 u t H1 locs ht hvm hw hB hz1 hk1 hS => ?_)
  obtain ⟨hP, hD, hK⟩ := kJ (wr := [(x, .inr (15, [.ref sh, .ref tl, .ref tw, .int 0])), (sh, .inr (13, [.ref rg, .ref dk, .ref hd, .ref lg, .ref pl, .ref pr, .int 0, .int 0, .int 0, .int 0, .int 0, .int 0, .int 0, .int 0, .int 0, .int 0, .int 0])), (hd, .inr (6, [.ref hu, .ref hy, .int 0]))]) (w1 := []) (t1 := []) hP hD hK [] [0, 1, 2] rfl rfl (by decide) (by decide) hk1 hFc ht hvm hB
  generalize H1 = H at hP hS ⊢
  have hP : va_P (dC, dI) vwCl [(x, .inr (15, [.ref sh, .ref tl, .ref tw, .int 0])), (sh, .inr (13, [.ref rg, .ref dk, .ref hd, .ref lg, .ref pl, .ref pr, .int 0, .int 0, .int 0, .int 0, .int 0, .int 0, .int 0, .int 0, .int 0, .int 0, .int 0])), (hd, .inr (6, [.ref hu, .ref hy, .int 0]))] H := hP
  have hD : va_D A [(x, .inr (15, [.ref sh, .ref tl, .ref tw, .int 0])), (sh, .inr (13, [.ref rg, .ref dk, .ref hd, .ref lg, .ref pl, .ref pr, .int 0, .int 0, .int 0, .int 0, .int 0, .int 0, .int 0, .int 0, .int 0, .int 0, .int 0])), (hd, .inr (6, [.ref hu, .ref hy, .int 0]))] := hD
  have hK : va_K (dC, dI) vwCl [] s := hK
  obtain rfl : (if 0 ≤ p0 ∧ p0 ≤ (-1) then (1 : Int32) else 0) = r1 := hw
  refine lv_if_ne (tgt := 30) hx hb dX11_left_17 (by decide) (fun c_ => absurd (if_neg (k_none p0)) c_) (fun _ => ?_)
  obtain ⟨sa, hsa⟩ := hM.2.1 _ (List.mem_of_getElem? (i := 10) rfl)
  exact vx_throwS (own := RX11) (cls := "java/lang/IndexOutOfBoundsException") (text := "no such cask") (names := ["java/lang/RuntimeException", "java/lang/Exception"]) (ik := 93) (is := 149) (ic := 97) (mc := 1) (ms := 6) (sa := sa) hx hb hst hown (by decide) (by decide) (hts (.classLink RX11 93 "java/lang/IndexOutOfBoundsException") (by decide +kernel)) (hts (.initialized "java/lang/IndexOutOfBoundsException") (by decide +kernel)) hsa (vx_hat (fun w h9 => hts w (List.mem_cons_of_mem _ (List.mem_append_left _ (List.mem_append_right _ h9)))) (by decide +kernel) (fun w hw => va_Nw.use (List.all_eq_true.mp am_Bt w hw) (hM.2.2.2.2.2.2.2.2.2.1 w hw))) (by decide +kernel) hM.2.2.2.2.2.2.2.1.1 hM.2.2.2.2.2.2.2.1.2 hS (hl.1.trans hml.symm) dX11_left_20 dX11_left_23 dX11_left_24 dX11_left_26 dX11_left_29 (fun x hx => (hnt x hx).elim) (Nat.le_of_ble_eq_true rfl) (Nat.le_of_ble_eq_true rfl) (Nat.le_of_ble_eq_true rfl) (Nat.le_of_ble_eq_true rfl) hlocks (fun t hvm hz hq => ⟨(), trivial, rfl, Nat.le_trans hS.1 hz, fun q h1 h2 => (hq q (Nat.lt_of_lt_of_le h1 hS.1)).trans (hS.2.1 q h1 h2)⟩) hS.2.2 (Nat.le_of_ble_eq_true rfl) (Nat.le_of_ble_eq_true rfl)
abbrev wd_k_x_line (z : Nat → Nat) (sh : Nat) (rg : Nat) (dk : Nat) (hd : Nat) (lg : Nat) (ll : Nat) (lm : Nat) (pl : Nat) (pr : Nat) (x : Nat) (tl : Nat) (tw : Nat) (p0 : Int32) : va_W := [(x, .inr (15, [.ref sh, .ref tl, .ref tw, .int 0])), (sh, .inr (13, [.ref rg, .ref dk, .ref hd, .ref lg, .ref pl, .ref pr, .int 0, .int 0, .int 0, .int 0, .int 0, .int 0, .int 0, .int 0, .int 0, .int 0, .int 0])), (lg, .inr (7, [.ref ll, .ref lm, .int 0, .int 0]))]
set_option maxHeartbeats 4000000 in
set_option maxRecDepth 100000 in
theorem k_x_line (l : Launch) (dC : Nat → ClassId) (dI : Nat → Nat → Nat) (z zK zV : Nat → Nat) (sh : Nat) (rg : Nat) (dk : Nat) (hd : Nat) (lg : Nat) (ll : Nat) (lm : Nat) (pl : Nat) (pr : Nat) (x : Nat) (tl : Nat) (tw : Nat) (p0 : Int32) (sz : Nat) (hst : l.stackTraces = false)  : vx_Met l yX11_line wsX11_line ({ frames := 6, cells := 1, slots := 6, locals := 82 }) (kP dC dI z zK zV [.ref x, .int p0] sz (wd_k_x_line z sh rg dk hd lg ll lm pl pr x tl tw p0) []) (va_Qi (fun (r : Int32) (_ : Unit) => False) (fun _ t => kB (dC, dI) (va_A (wd_k_x_line z sh rg dk hd lg ll lm pl pr x tl tw p0) sz) [] [] t) (va_A (wd_k_x_line z sh rg dk hd lg ll lm pl pr x tl tw p0) sz)) (vx_X (fun _ : Unit => True) (fun E _ _ => "java/lang/IndexOutOfBoundsException" = E) (va_A (wd_k_x_line z sh rg dk hd lg ll lm pl pr x tl tw p0) sz)) 1 6 (va_A (wd_k_x_line z sh rg dk hd lg ll lm pl pr x tl tw p0) sz) := by
  refine vx_ofW (cc := cX11_line) (maxL := 2) (ret := (some .char)) (by decide) rfl ?_
  intro p e s m args below meth c s₁ B hml hnt hv
  obtain ⟨rfl, hsz, hP, hK, hD0, hM⟩ := hv
  have hx := B.exec
  have hb := B.bytes
  have hr := B.returns
  have hts := atoms_spec (ws := wsX11_line) B.pre
  have hown : s.vm.findClass RX11 = some m.cls := findClass_of_methodNamed B.named
  have hlocks := B.notSynchronized
  have hiX11 : ∀ w ∈ u_ws RX11 TX11 4, w ∈ wsX11_line := by decide +kernel
  have hiX9 : ∀ w ∈ u_ws RX9 TX9 17, w ∈ wsX11_line := by decide +kernel
  have hiX3 : ∀ w ∈ u_ws RX3 TX3 4, w ∈ wsX11_line := by decide +kernel
  subst hsz
  have hD := hD0.self (sz := s.heap.size)
  generalize hAe : va_A (wd_k_x_line z sh rg dk hd lg ll lm pl pr x tl tw p0) s.heap.size = A at hD hM ⊢
  have hA : ∀ q : Nat, s.heap.size ≤ q → A q := fun q h => by rw [← hAe]; exact Or.inr h
  have hS : va_S A s.heap s.heap [] := va_S.rf
  have hP : va_P (dC, dI) vwCl [(x, .inr (15, [.ref sh, .ref tl, .ref tw, .int 0])), (sh, .inr (13, [.ref rg, .ref dk, .ref hd, .ref lg, .ref pl, .ref pr, .int 0, .int 0, .int 0, .int 0, .int 0, .int 0, .int 0, .int 0, .int 0, .int 0, .int 0])), (lg, .inr (7, [.ref ll, .ref lm, .int 0, .int 0]))] s.heap := hP
  have hD : va_D A [(x, .inr (15, [.ref sh, .ref tl, .ref tw, .int 0])), (sh, .inr (13, [.ref rg, .ref dk, .ref hd, .ref lg, .ref pl, .ref pr, .int 0, .int 0, .int 0, .int 0, .int 0, .int 0, .int 0, .int 0, .int 0, .int 0, .int 0])), (lg, .inr (7, [.ref ll, .ref lm, .int 0, .int 0]))] := hD
  have hl := lv_entry ([.ref x, .int p0]) (n := 2) (Nat.le_of_ble_eq_true rfl)
  rw [lg_entry_eq]
  generalize (lg_sl ([.ref x, .int p0]) ++ List.replicate (2 - (lg_sl ([.ref x, .int p0])).length) Slot.unset).toArray = ls at hl ⊢
  have hl : lv_has ls 2 [(0, .ref x), (1, .int p0)] := hl
  refine lv_iload_n hx hb dX11_line_0 rfl (lv_at hl 1 rfl) ?_
  refine lv_iconst (v := 0) hx hb dX11_line_1 (by decide) ?_
  refine lv_aload_n hx hb dX11_line_2 rfl (lv_at hl 0 rfl) ?_
  refine va_get (D := (dC, dI)) (ci := 15) (v := .ref sh) (C := RX11) (T := TX11) (N := 4) hx hb hts hiX11 hown hK hP 0 rfl rfl 0 (by decide) (hts (.fieldLink RX11 10 "SquareRig" "ship" "LSquareRig$Ship;") (by decide +kernel)) (fun _ h9 => h9) rfl dX11_line_3 ?_
  refine va_getN (D := (dC, dI)) (ci := 13) (v := .ref lg) (C := RX9) (T := TX9) (N := 17) hx hb hts hiX9 hown hK hP 1 rfl rfl 3 (by decide) (va_Nw.use rfl (hM.1 _ (List.mem_of_getElem? (i := 39) rfl))) (fun _ h9 => h9) rfl dX11_line_6 ?_
  refine va_getN (D := (dC, dI)) (ci := 7) (v := .int 0) (C := RX3) (T := TX3) (N := 4) hx hb hts hiX3 hown hK hP 2 rfl rfl 3 (by decide) (va_Nw.use rfl (hM.1 _ (List.mem_of_getElem? (i := 31) rfl))) (fun _ h9 => h9) rfl dX11_line_9 ?_
  refine lv_iconst (v := 1) hx hb dX11_line_12 (by decide) ?_
  refine lv_isub hx hb dX11_line_13 ?_
  refine kc_i (y := (-1)) (by decide +kernel) ?_
  have hPc := hP.sub (ws' := []) [] rfl
  have hDc := hD.sub (ws' := []) [] (by decide) rfl
  have hKc := hK.sub (tys' := []) [] rfl
  have hFc := va_free (wc := []) hD hS hA [] rfl
  refine va_calli (va_runS (As := [.int p0, .int 0, .int (-1)]) (rest := []) ⟨hx, hb, hml, hown, hts⟩ (k_isIn l dC dI z zK zV p0 0 (-1) s.heap.size) (va_cwS 3 hts gX11_line_X11_isIn rfl rfl rfl (by decide +kernel) ⟨Nat.le_of_ble_eq_true rfl, Nat.le_of_ble_eq_true rfl⟩) ⟨kP_blind, kP_go hPc hKc hDc hFc hM hS⟩ rfl rfl hl.1 rfl (lv_room (Nat.le_of_ble_eq_true rfl)) dX11_line_14 ⟨Nat.le_of_ble_eq_true rfl, Nat.le_of_ble_eq_true rfl⟩) hS (fun q _ h => hFc q h) hFc (fun r1 u t H1 locs ht hvm hw hB hz1 hk1 hS => ?_)
  obtain ⟨hP, hD, hK⟩ := kJ (wr := [(x, .inr (15, [.ref sh, .ref tl, .ref tw, .int 0])), (sh, .inr (13, [.ref rg, .ref dk, .ref hd, .ref lg, .ref pl, .ref pr, .int 0, .int 0, .int 0, .int 0, .int 0, .int 0, .int 0, .int 0, .int 0, .int 0, .int 0])), (lg, .inr (7, [.ref ll, .ref lm, .int 0, .int 0]))]) (w1 := []) (t1 := []) hP hD hK [] [0, 1, 2] rfl rfl (by decide) (by decide) hk1 hFc ht hvm hB
  generalize H1 = H at hP hS ⊢
  have hP : va_P (dC, dI) vwCl [(x, .inr (15, [.ref sh, .ref tl, .ref tw, .int 0])), (sh, .inr (13, [.ref rg, .ref dk, .ref hd, .ref lg, .ref pl, .ref pr, .int 0, .int 0, .int 0, .int 0, .int 0, .int 0, .int 0, .int 0, .int 0, .int 0, .int 0])), (lg, .inr (7, [.ref ll, .ref lm, .int 0, .int 0]))] H := hP
  have hD : va_D A [(x, .inr (15, [.ref sh, .ref tl, .ref tw, .int 0])), (sh, .inr (13, [.ref rg, .ref dk, .ref hd, .ref lg, .ref pl, .ref pr, .int 0, .int 0, .int 0, .int 0, .int 0, .int 0, .int 0, .int 0, .int 0, .int 0, .int 0])), (lg, .inr (7, [.ref ll, .ref lm, .int 0, .int 0]))] := hD
  have hK : va_K (dC, dI) vwCl [] s := hK
  obtain rfl : (if 0 ≤ p0 ∧ p0 ≤ (-1) then (1 : Int32) else 0) = r1 := hw
  refine lv_if_ne (tgt := 30) hx hb dX11_line_17 (by decide) (fun c_ => absurd (if_neg (k_none p0)) c_) (fun _ => ?_)
  obtain ⟨sa, hsa⟩ := hM.2.1 _ (List.mem_of_getElem? (i := 15) rfl)
  exact vx_throwS (own := RX11) (cls := "java/lang/IndexOutOfBoundsException") (text := "no such line") (names := ["java/lang/RuntimeException", "java/lang/Exception"]) (ik := 93) (is := 245) (ic := 97) (mc := 1) (ms := 6) (sa := sa) hx hb hst hown (by decide) (by decide) (hts (.classLink RX11 93 "java/lang/IndexOutOfBoundsException") (by decide +kernel)) (hts (.initialized "java/lang/IndexOutOfBoundsException") (by decide +kernel)) hsa (vx_hat (fun w h9 => hts w (List.mem_cons_of_mem _ (List.mem_append_left _ (List.mem_append_right _ h9)))) (by decide +kernel) (fun w hw => va_Nw.use (List.all_eq_true.mp am_Bt w hw) (hM.2.2.2.2.2.2.2.2.2.1 w hw))) (by decide +kernel) hM.2.2.2.2.2.2.2.1.1 hM.2.2.2.2.2.2.2.1.2 hS (hl.1.trans hml.symm) dX11_line_20 dX11_line_23 dX11_line_24 dX11_line_26 dX11_line_29 (fun x hx => (hnt x hx).elim) (Nat.le_of_ble_eq_true rfl) (Nat.le_of_ble_eq_true rfl) (Nat.le_of_ble_eq_true rfl) (Nat.le_of_ble_eq_true rfl) hlocks (fun t hvm hz hq => ⟨(), trivial, rfl, Nat.le_trans hS.1 hz, fun q h1 h2 => (hq q (Nat.lt_of_lt_of_le h1 hS.1)).trans (hS.2.1 q h1 h2)⟩) hS.2.2 (Nat.le_of_ble_eq_true rfl) (Nat.le_of_ble_eq_true rfl)
abbrev wd_k_x_lineMinute (z : Nat → Nat) (sh : Nat) (rg : Nat) (dk : Nat) (hd : Nat) (lg : Nat) (ll : Nat) (lm : Nat) (pl : Nat) (pr : Nat) (x : Nat) (tl : Nat) (tw : Nat) (p0 : Int32) : va_W := [(x, .inr (15, [.ref sh, .ref tl, .ref tw, .int 0])), (sh, .inr (13, [.ref rg, .ref dk, .ref hd, .ref lg, .ref pl, .ref pr, .int 0, .int 0, .int 0, .int 0, .int 0, .int 0, .int 0, .int 0, .int 0, .int 0, .int 0])), (lg, .inr (7, [.ref ll, .ref lm, .int 0, .int 0]))]
set_option maxHeartbeats 4000000 in
set_option maxRecDepth 100000 in
theorem k_x_lineMinute (l : Launch) (dC : Nat → ClassId) (dI : Nat → Nat → Nat) (z zK zV : Nat → Nat) (sh : Nat) (rg : Nat) (dk : Nat) (hd : Nat) (lg : Nat) (ll : Nat) (lm : Nat) (pl : Nat) (pr : Nat) (x : Nat) (tl : Nat) (tw : Nat) (p0 : Int32) (sz : Nat) (hst : l.stackTraces = false)  : vx_Met l yX11_lineMinute wsX11_lineMinute ({ frames := 6, cells := 1, slots := 6, locals := 82 }) (kP dC dI z zK zV [.ref x, .int p0] sz (wd_k_x_lineMinute z sh rg dk hd lg ll lm pl pr x tl tw p0) []) (va_Qi (fun (r : Int32) (_ : Unit) => False) (fun _ t => kB (dC, dI) (va_A (wd_k_x_lineMinute z sh rg dk hd lg ll lm pl pr x tl tw p0) sz) [] [] t) (va_A (wd_k_x_lineMinute z sh rg dk hd lg ll lm pl pr x tl tw p0) sz)) (vx_X (fun _ : Unit => True) (fun E _ _ => "java/lang/IndexOutOfBoundsException" = E) (va_A (wd_k_x_lineMinute z sh rg dk hd lg ll lm pl pr x tl tw p0) sz)) 1 6 (va_A (wd_k_x_lineMinute z sh rg dk hd lg ll lm pl pr x tl tw p0) sz) := by
  refine vx_ofW (cc := cX11_lineMinute) (maxL := 2) (ret := (some .int)) (by decide) rfl ?_
  intro p e s m args below meth c s₁ B hml hnt hv
  obtain ⟨rfl, hsz, hP, hK, hD0, hM⟩ := hv
  have hx := B.exec
  have hb := B.bytes
  have hr := B.returns
  have hts := atoms_spec (ws := wsX11_lineMinute) B.pre
  have hown : s.vm.findClass RX11 = some m.cls := findClass_of_methodNamed B.named
  have hlocks := B.notSynchronized
  have hiX11 : ∀ w ∈ u_ws RX11 TX11 4, w ∈ wsX11_lineMinute := by decide +kernel
  have hiX9 : ∀ w ∈ u_ws RX9 TX9 17, w ∈ wsX11_lineMinute := by decide +kernel
  have hiX3 : ∀ w ∈ u_ws RX3 TX3 4, w ∈ wsX11_lineMinute := by decide +kernel
  subst hsz
  have hD := hD0.self (sz := s.heap.size)
  generalize hAe : va_A (wd_k_x_lineMinute z sh rg dk hd lg ll lm pl pr x tl tw p0) s.heap.size = A at hD hM ⊢
  have hA : ∀ q : Nat, s.heap.size ≤ q → A q := fun q h => by rw [← hAe]; exact Or.inr h
  have hS : va_S A s.heap s.heap [] := va_S.rf
  have hP : va_P (dC, dI) vwCl [(x, .inr (15, [.ref sh, .ref tl, .ref tw, .int 0])), (sh, .inr (13, [.ref rg, .ref dk, .ref hd, .ref lg, .ref pl, .ref pr, .int 0, .int 0, .int 0, .int 0, .int 0, .int 0, .int 0, .int 0, .int 0, .int 0, .int 0])), (lg, .inr (7, [.ref ll, .ref lm, .int 0, .int 0]))] s.heap := hP
  have hD : va_D A [(x, .inr (15, [.ref sh, .ref tl, .ref tw, .int 0])), (sh, .inr (13, [.ref rg, .ref dk, .ref hd, .ref lg, .ref pl, .ref pr, .int 0, .int 0, .int 0, .int 0, .int 0, .int 0, .int 0, .int 0, .int 0, .int 0, .int 0])), (lg, .inr (7, [.ref ll, .ref lm, .int 0, .int 0]))] := hD
  have hl := lv_entry ([.ref x, .int p0]) (n := 2) (Nat.le_of_ble_eq_true rfl)
  rw [lg_entry_eq]
  generalize (lg_sl ([.ref x, .int p0]) ++ List.replicate (2 - (lg_sl ([.ref x, .int p0])).length) Slot.unset).toArray = ls at hl ⊢
  have hl : lv_has ls 2 [(0, .ref x), (1, .int p0)] := hl
  refine lv_iload_n hx hb dX11_lineMinute_0 rfl (lv_at hl 1 rfl) ?_
  refine lv_iconst (v := 0) hx hb dX11_lineMinute_1 (by decide) ?_
  refine lv_aload_n hx hb dX11_lineMinute_2 rfl (lv_at hl 0 rfl) ?_
  refine va_get (D := (dC, dI)) (ci := 15) (v := .ref sh) (C := RX11) (T := TX11) (N := 4) hx hb hts hiX11 hown hK hP 0 rfl rfl 0 (by decide) (hts (.fieldLink RX11 10 "SquareRig" "ship" "LSquareRig$Ship;") (by decide +kernel)) (fun _ h9 => h9) rfl dX11_lineMinute_3 ?_
  refine va_getN (D := (dC, dI)) (ci := 13) (v := .ref lg) (C := RX9) (T := TX9) (N := 17) hx hb hts hiX9 hown hK hP 1 rfl rfl 3 (by decide) (va_Nw.use rfl (hM.1 _ (List.mem_of_getElem? (i := 39) rfl))) (fun _ h9 => h9) rfl dX11_lineMinute_6 ?_
  refine va_getN (D := (dC, dI)) (ci := 7) (v := .int 0) (C := RX3) (T := TX3) (N := 4) hx hb hts hiX3 hown hK hP 2 rfl rfl 3 (by decide) (va_Nw.use rfl (hM.1 _ (List.mem_of_getElem? (i := 31) rfl))) (fun _ h9 => h9) rfl dX11_lineMinute_9 ?_
  refine lv_iconst (v := 1) hx hb dX11_lineMinute_12 (by decide) ?_
  refine lv_isub hx hb dX11_lineMinute_13 ?_
  refine kc_i (y := (-1)) (by decide +kernel) ?_
  have hPc := hP.sub (ws' := []) [] rfl
  have hDc := hD.sub (ws' := []) [] (by decide) rfl
  have hKc := hK.sub (tys' := []) [] rfl
  have hFc := va_free (wc := []) hD hS hA [] rfl
  refine va_calli (va_runS (As := [.int p0, .int 0, .int (-1)]) (rest := []) ⟨hx, hb, hml, hown, hts⟩ (k_isIn l dC dI z zK zV p0 0 (-1) s.heap.size) (va_cwS 3 hts gX11_lineMinute_X11_isIn rfl rfl rfl (by decide +kernel) ⟨Nat.le_of_ble_eq_true rfl, Nat.le_of_ble_eq_true rfl⟩) ⟨kP_blind, kP_go hPc hKc hDc hFc hM hS⟩ rfl rfl hl.1 rfl (lv_room (Nat.le_of_ble_eq_true rfl)) dX11_lineMinute_14 ⟨Nat.le_of_ble_eq_true rfl, Nat.le_of_ble_eq_true rfl⟩) hS (fun q _ h => hFc q h) hFc (fun r1 u t H1 locs ht hvm hw hB hz1 hk1 hS => ?_)
  obtain ⟨hP, hD, hK⟩ := kJ (wr := [(x, .inr (15, [.ref sh, .ref tl, .ref tw, .int 0])), (sh, .inr (13, [.ref rg, .ref dk, .ref hd, .ref lg, .ref pl, .ref pr, .int 0, .int 0, .int 0, .int 0, .int 0, .int 0, .int 0, .int 0, .int 0, .int 0, .int 0])), (lg, .inr (7, [.ref ll, .ref lm, .int 0, .int 0]))]) (w1 := []) (t1 := []) hP hD hK [] [0, 1, 2] rfl rfl (by decide) (by decide) hk1 hFc ht hvm hB
  generalize H1 = H at hP hS ⊢
  have hP : va_P (dC, dI) vwCl [(x, .inr (15, [.ref sh, .ref tl, .ref tw, .int 0])), (sh, .inr (13, [.ref rg, .ref dk, .ref hd, .ref lg, .ref pl, .ref pr, .int 0, .int 0, .int 0, .int 0, .int 0, .int 0, .int 0, .int 0, .int 0, .int 0, .int 0])), (lg, .inr (7, [.ref ll, .ref lm, .int 0, .int 0]))] H := hP
  have hD : va_D A [(x, .inr (15, [.ref sh, .ref tl, .ref tw, .int 0])), (sh, .inr (13, [.ref rg, .ref dk, .ref hd, .ref lg, .ref pl, .ref pr, .int 0, .int 0, .int 0, .int 0, .int 0, .int 0, .int 0, .int 0, .int 0, .int 0, .int 0])), (lg, .inr (7, [.ref ll, .ref lm, .int 0, .int 0]))] := hD
  have hK : va_K (dC, dI) vwCl [] s := hK
  obtain rfl : (if 0 ≤ p0 ∧ p0 ≤ (-1) then (1 : Int32) else 0) = r1 := hw
  refine lv_if_ne (tgt := 30) hx hb dX11_lineMinute_17 (by decide) (fun c_ => absurd (if_neg (k_none p0)) c_) (fun _ => ?_)
  obtain ⟨sa, hsa⟩ := hM.2.1 _ (List.mem_of_getElem? (i := 15) rfl)
  exact vx_throwS (own := RX11) (cls := "java/lang/IndexOutOfBoundsException") (text := "no such line") (names := ["java/lang/RuntimeException", "java/lang/Exception"]) (ik := 93) (is := 245) (ic := 97) (mc := 1) (ms := 6) (sa := sa) hx hb hst hown (by decide) (by decide) (hts (.classLink RX11 93 "java/lang/IndexOutOfBoundsException") (by decide +kernel)) (hts (.initialized "java/lang/IndexOutOfBoundsException") (by decide +kernel)) hsa (vx_hat (fun w h9 => hts w (List.mem_cons_of_mem _ (List.mem_append_left _ (List.mem_append_right _ h9)))) (by decide +kernel) (fun w hw => va_Nw.use (List.all_eq_true.mp am_Bt w hw) (hM.2.2.2.2.2.2.2.2.2.1 w hw))) (by decide +kernel) hM.2.2.2.2.2.2.2.1.1 hM.2.2.2.2.2.2.2.1.2 hS (hl.1.trans hml.symm) dX11_lineMinute_20 dX11_lineMinute_23 dX11_lineMinute_24 dX11_lineMinute_26 dX11_lineMinute_29 (fun x hx => (hnt x hx).elim) (Nat.le_of_ble_eq_true rfl) (Nat.le_of_ble_eq_true rfl) (Nat.le_of_ble_eq_true rfl) (Nat.le_of_ble_eq_true rfl) hlocks (fun t hvm hz hq => ⟨(), trivial, rfl, Nat.le_trans hS.1 hz, fun q h1 h2 => (hq q (Nat.lt_of_lt_of_le h1 hS.1)).trans (hS.2.1 q h1 h2)⟩) hS.2.2 (Nat.le_of_ble_eq_true rfl) (Nat.le_of_ble_eq_true rfl)
