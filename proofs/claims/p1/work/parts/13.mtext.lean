set_option maxRecDepth 20000 in
theorem ggX15_init_Jx4a65c_init_da8c8 : GoodIn wsX15_init wsJx4a65c_init_da8c8 := goodIn_r _ [21, 22, 23, 24, 25, 26, 27, 28, 29, 30, 31, 32, 33, 2, 3, 62, 63, 64] (by decide +kernel) (by decide +kernel)
set_option maxRecDepth 20000 in
theorem gX15_init_Jx4a65c_init_da8c8 : GoodIn wsX15_init (wsJx4a65c_init_da8c8) := ggX15_init_Jx4a65c_init_da8c8
theorem dX15_init_0 : decode cX15_init 0 = .ok (.aload_n 0, 1) := by decide +kernel
theorem dX15_init_1 : decode cX15_init 1 = .ok (.invokespecial 1, 3) := by decide +kernel
theorem dX15_init_4 : decode cX15_init 4 = .ok (.aload_n 0, 1) := by decide +kernel
theorem dX15_init_5 : decode cX15_init 5 = .ok (.iconst 2, 1) := by decide +kernel
theorem dX15_init_6 : decode cX15_init 6 = .ok (.newarray .int, 2) := by decide +kernel
theorem dX15_init_8 : decode cX15_init 8 = .ok (.putfield 7, 3) := by decide +kernel
theorem dX15_init_11 : decode cX15_init 11 = .ok (.aload_n 0, 1) := by decide +kernel
theorem dX15_init_12 : decode cX15_init 12 = .ok (.iconst 2, 1) := by decide +kernel
theorem dX15_init_13 : decode cX15_init 13 = .ok (.newarray .int, 2) := by decide +kernel
theorem dX15_init_15 : decode cX15_init 15 = .ok (.putfield 13, 3) := by decide +kernel
theorem dX15_init_18 : decode cX15_init 18 = .ok (.aload_n 0, 1) := by decide +kernel
theorem dX15_init_19 : decode cX15_init 19 = .ok (.new 16, 3) := by decide +kernel
theorem dX15_init_22 : decode cX15_init 22 = .ok (.dup, 1) := by decide +kernel
theorem dX15_init_23 : decode cX15_init 23 = .ok (.invokespecial 18, 3) := by decide +kernel
theorem dX15_init_26 : decode cX15_init 26 = .ok (.putfield 19, 3) := by decide +kernel
theorem dX15_init_29 : decode cX15_init 29 = .ok (.aload_n 0, 1) := by decide +kernel
theorem dX15_init_30 : decode cX15_init 30 = .ok (.new 16, 3) := by decide +kernel
theorem dX15_init_33 : decode cX15_init 33 = .ok (.dup, 1) := by decide +kernel
theorem dX15_init_34 : decode cX15_init 34 = .ok (.invokespecial 18, 3) := by decide +kernel
theorem dX15_init_37 : decode cX15_init 37 = .ok (.putfield 23, 3) := by decide +kernel
theorem dX15_init_40 : decode cX15_init 40 = .ok (.aload_n 0, 1) := by decide +kernel
theorem dX15_init_41 : decode cX15_init 41 = .ok (.new 16, 3) := by decide +kernel
theorem dX15_init_44 : decode cX15_init 44 = .ok (.dup, 1) := by decide +kernel
theorem dX15_init_45 : decode cX15_init 45 = .ok (.invokespecial 18, 3) := by decide +kernel
theorem dX15_init_48 : decode cX15_init 48 = .ok (.putfield 26, 3) := by decide +kernel
theorem dX15_init_51 : decode cX15_init 51 = .ok (.aload_n 0, 1) := by decide +kernel
theorem dX15_init_52 : decode cX15_init 52 = .ok (.bipush 9, 2) := by decide +kernel
theorem dX15_init_54 : decode cX15_init 54 = .ok (.newarray .int, 2) := by decide +kernel
theorem dX15_init_56 : decode cX15_init 56 = .ok (.putfield 29, 3) := by decide +kernel
theorem dX15_init_59 : decode cX15_init 59 = .ok (.aload_n 0, 1) := by decide +kernel
theorem dX15_init_60 : decode cX15_init 60 = .ok (.bipush 9, 2) := by decide +kernel
theorem dX15_init_62 : decode cX15_init 62 = .ok (.newarray .int, 2) := by decide +kernel
theorem dX15_init_64 : decode cX15_init 64 = .ok (.putfield 32, 3) := by decide +kernel
theorem dX15_init_67 : decode cX15_init 67 = .ok (.aload_n 0, 1) := by decide +kernel
theorem dX15_init_68 : decode cX15_init 68 = .ok (.bipush 9, 2) := by decide +kernel
theorem dX15_init_70 : decode cX15_init 70 = .ok (.newarray .boolean, 2) := by decide +kernel
theorem dX15_init_72 : decode cX15_init 72 = .ok (.putfield 35, 3) := by decide +kernel
theorem dX15_init_75 : decode cX15_init 75 = .ok (.aload_n 0, 1) := by decide +kernel
theorem dX15_init_76 : decode cX15_init 76 = .ok (.iconst 3, 1) := by decide +kernel
theorem dX15_init_77 : decode cX15_init 77 = .ok (.newarray .int, 2) := by decide +kernel
theorem dX15_init_79 : decode cX15_init 79 = .ok (.putfield 39, 3) := by decide +kernel
theorem dX15_init_82 : decode cX15_init 82 = .ok (.aload_n 0, 1) := by decide +kernel
theorem dX15_init_83 : decode cX15_init 83 = .ok (.iconst 3, 1) := by decide +kernel
theorem dX15_init_84 : decode cX15_init 84 = .ok (.newarray .boolean, 2) := by decide +kernel
theorem dX15_init_86 : decode cX15_init 86 = .ok (.putfield 42, 3) := by decide +kernel
theorem dX15_init_89 : decode cX15_init 89 = .ok (.iconst 0, 1) := by decide +kernel
theorem dX15_init_90 : decode cX15_init 90 = .ok (.istore_n 1, 1) := by decide +kernel
theorem dX15_init_91 : decode cX15_init 91 = .ok (.iload_n 1, 1) := by decide +kernel
theorem dX15_init_92 : decode cX15_init 92 = .ok (.bipush 9, 2) := by decide +kernel
theorem dX15_init_94 : decode cX15_init 94 = .ok (.if_icmp .ge 18, 3) := by decide +kernel
theorem dX15_init_97 : decode cX15_init 97 = .ok (.aload_n 0, 1) := by decide +kernel
theorem dX15_init_98 : decode cX15_init 98 = .ok (.getfield 32, 3) := by decide +kernel
theorem dX15_init_101 : decode cX15_init 101 = .ok (.iload_n 1, 1) := by decide +kernel
theorem dX15_init_102 : decode cX15_init 102 = .ok (.sipush 900, 3) := by decide +kernel
theorem dX15_init_105 : decode cX15_init 105 = .ok (.iastore, 1) := by decide +kernel
theorem dX15_init_106 : decode cX15_init 106 = .ok (.iinc 1 1, 3) := by decide +kernel
theorem dX15_init_109 : decode cX15_init 109 = .ok (.goto (-18), 3) := by decide +kernel
theorem dX15_init_112 : decode cX15_init 112 = .ok (.return_, 1) := by decide +kernel
set_option maxRecDepth 20000 in
theorem ggX15_digit_J0_charAt_5068e : GoodIn wsX15_digit wsJ0_charAt_5068e := goodIn_r _ [5, 6, 7, 8, 9, 4, 10, 11, 12, 13, 14, 15, 16, 17, 18, 19, 20, 21, 22, 23, 24, 25, 26, 27, 28, 29, 30, 31, 32, 33, 34, 35, 36, 37, 38, 39, 40, 41, 42, 43] (by decide +kernel) (by decide +kernel)
set_option maxRecDepth 20000 in
theorem gX15_digit_J0_charAt_5068e : GoodIn wsX15_digit (wsV RX15 49 RJ0 yJ0_charAt_5068e wsJ0_charAt_5068e) := goodIn_app (goodIn_of _ (by decide +kernel)) ggX15_digit_J0_charAt_5068e
theorem dX15_digit_0 : decode cX15_digit 0 = .ok (.aload_n 0, 1) := by decide +kernel
theorem dX15_digit_1 : decode cX15_digit 1 = .ok (.iload_n 1, 1) := by decide +kernel
theorem dX15_digit_2 : decode cX15_digit 2 = .ok (.invokevirtual 49, 3) := by decide +kernel
theorem dX15_digit_5 : decode cX15_digit 5 = .ok (.istore_n 2, 1) := by decide +kernel
theorem dX15_digit_6 : decode cX15_digit 6 = .ok (.iload_n 2, 1) := by decide +kernel
theorem dX15_digit_7 : decode cX15_digit 7 = .ok (.bipush 65, 2) := by decide +kernel
theorem dX15_digit_9 : decode cX15_digit 9 = .ok (.if_icmp .ne 8, 3) := by decide +kernel
theorem dX15_digit_12 : decode cX15_digit 12 = .ok (.bipush 10, 2) := by decide +kernel
theorem dX15_digit_14 : decode cX15_digit 14 = .ok (.goto 7, 3) := by decide +kernel
theorem dX15_digit_17 : decode cX15_digit 17 = .ok (.iload_n 2, 1) := by decide +kernel
theorem dX15_digit_18 : decode cX15_digit 18 = .ok (.bipush 48, 2) := by decide +kernel
theorem dX15_digit_20 : decode cX15_digit 20 = .ok (.isub, 1) := by decide +kernel
theorem dX15_digit_21 : decode cX15_digit 21 = .ok (.ireturn, 1) := by decide +kernel
set_option maxRecDepth 20000 in
theorem ggX15_mast_X15_digit : GoodIn wsX15_mast wsX15_digit := goodIn_r _ [4, 5, 6, 7, 8, 9, 10, 11, 12, 13, 14, 15, 16, 17, 18, 19, 20, 21, 22, 23, 24, 25, 26, 27, 28, 29, 30, 31, 32, 33, 34, 35, 36, 37, 38, 39, 40, 41, 42, 43, 44, 45, 46, 47] (by decide +kernel) (by decide +kernel)
set_option maxRecDepth 20000 in
theorem gX15_mast_X15_digit : GoodIn wsX15_mast (va_wsS RX15 86 yX15_digit wsX15_digit) := goodIn_app (goodIn_of _ (by decide +kernel)) ggX15_mast_X15_digit
theorem dX15_mast_0 : decode cX15_mast 0 = .ok (.ldc 105, 2) := by decide +kernel
theorem dX15_mast_2 : decode cX15_mast 2 = .ok (.iload_n 0, 1) := by decide +kernel
theorem dX15_mast_3 : decode cX15_mast 3 = .ok (.invokestatic 86, 3) := by decide +kernel
theorem dX15_mast_6 : decode cX15_mast 6 = .ok (.ireturn, 1) := by decide +kernel
set_option maxRecDepth 20000 in
theorem ggJ0_charAt_5068e_J0_isLatin1_aae02 : GoodIn wsJ0_charAt_5068e wsJ0_isLatin1_aae02 := goodIn_r _ [6, 7, 8, 38, 39] (by decide +kernel) (by decide +kernel)
set_option maxRecDepth 20000 in
theorem gJ0_charAt_5068e_J0_isLatin1_aae02 : GoodIn wsJ0_charAt_5068e (wsV RJ0 492 RJ0 yJ0_isLatin1_aae02 wsJ0_isLatin1_aae02) := goodIn_app (goodIn_of _ (by decide +kernel)) ggJ0_charAt_5068e_J0_isLatin1_aae02
set_option maxRecDepth 20000 in
theorem ggJ0_charAt_5068e_J1_charAt_3b067 : GoodIn wsJ0_charAt_5068e wsJ1_charAt_3b067 := goodIn_r _ [12, 13, 14, 5, 15, 16, 17, 18, 19, 20] (by decide +kernel) (by decide +kernel)
set_option maxRecDepth 20000 in
theorem gJ0_charAt_5068e_J1_charAt_3b067 : GoodIn wsJ0_charAt_5068e (va_wsS RJ0 495 yJ1_charAt_3b067 wsJ1_charAt_3b067) := goodIn_app (goodIn_of _ (by decide +kernel)) ggJ0_charAt_5068e_J1_charAt_3b067
theorem dJ0_charAt_5068e_0 : decode cJ0_charAt_5068e 0 = .ok (.aload_n 0, 1) := by decide +kernel
theorem dJ0_charAt_5068e_1 : decode cJ0_charAt_5068e 1 = .ok (.invokevirtual 492, 3) := by decide +kernel
theorem dJ0_charAt_5068e_4 : decode cJ0_charAt_5068e 4 = .ok (.ifCond .eq 12, 3) := by decide +kernel
theorem dJ0_charAt_5068e_7 : decode cJ0_charAt_5068e 7 = .ok (.aload_n 0, 1) := by decide +kernel
theorem dJ0_charAt_5068e_8 : decode cJ0_charAt_5068e 8 = .ok (.getfield 9, 3) := by decide +kernel
theorem dJ0_charAt_5068e_11 : decode cJ0_charAt_5068e 11 = .ok (.iload_n 1, 1) := by decide +kernel
theorem dJ0_charAt_5068e_12 : decode cJ0_charAt_5068e 12 = .ok (.invokestatic 495, 3) := by decide +kernel
theorem dJ0_charAt_5068e_15 : decode cJ0_charAt_5068e 15 = .ok (.ireturn, 1) := by decide +kernel
theorem dJ0_isLatin1_aae02_0 : decode cJ0_isLatin1_aae02 0 = .ok (.getstatic 38, 3) := by decide +kernel
theorem dJ0_isLatin1_aae02_3 : decode cJ0_isLatin1_aae02 3 = .ok (.ifCond .eq 14, 3) := by decide +kernel
theorem dJ0_isLatin1_aae02_6 : decode cJ0_isLatin1_aae02 6 = .ok (.aload_n 0, 1) := by decide +kernel
theorem dJ0_isLatin1_aae02_7 : decode cJ0_isLatin1_aae02 7 = .ok (.getfield 15, 3) := by decide +kernel
theorem dJ0_isLatin1_aae02_10 : decode cJ0_isLatin1_aae02 10 = .ok (.ifCond .ne 7, 3) := by decide +kernel
theorem dJ0_isLatin1_aae02_13 : decode cJ0_isLatin1_aae02 13 = .ok (.iconst 1, 1) := by decide +kernel
theorem dJ0_isLatin1_aae02_14 : decode cJ0_isLatin1_aae02 14 = .ok (.goto 4, 3) := by decide +kernel
theorem dJ0_isLatin1_aae02_18 : decode cJ0_isLatin1_aae02 18 = .ok (.ireturn, 1) := by decide +kernel
set_option maxRecDepth 20000 in
theorem ggJ0_checkIndex_df160_J3_checkIndex_8e157 : GoodIn wsJ0_checkIndex_df160 wsJ3_checkIndex_8e157 := goodIn_r _ [5] (by decide +kernel) (by decide +kernel)
set_option maxRecDepth 20000 in
theorem gJ0_checkIndex_df160_J3_checkIndex_8e157 : GoodIn wsJ0_checkIndex_df160 (va_wsS RJ0 1059 yJ3_checkIndex_8e157 wsJ3_checkIndex_8e157) := goodIn_app (goodIn_of _ (by decide +kernel)) ggJ0_checkIndex_df160_J3_checkIndex_8e157
theorem dJ0_checkIndex_df160_0 : decode cJ0_checkIndex_df160 0 = .ok (.iload_n 0, 1) := by decide +kernel
theorem dJ0_checkIndex_df160_1 : decode cJ0_checkIndex_df160 1 = .ok (.iload_n 1, 1) := by decide +kernel
theorem dJ0_checkIndex_df160_2 : decode cJ0_checkIndex_df160 2 = .ok (.getstatic 1053, 3) := by decide +kernel
theorem dJ0_checkIndex_df160_5 : decode cJ0_checkIndex_df160 5 = .ok (.invokestatic 1059, 3) := by decide +kernel
theorem dJ0_checkIndex_df160_8 : decode cJ0_checkIndex_df160 8 = .ok (.pop, 1) := by decide +kernel
theorem dJ0_checkIndex_df160_9 : decode cJ0_checkIndex_df160 9 = .ok (.return_, 1) := by decide +kernel
set_option maxRecDepth 20000 in
theorem ggJ1_charAt_3b067_J0_checkIndex_df160 : GoodIn wsJ1_charAt_3b067 wsJ0_checkIndex_df160 := goodIn_r _ [4, 5, 6, 7, 8, 9] (by decide +kernel) (by decide +kernel)
set_option maxRecDepth 20000 in
theorem gJ1_charAt_3b067_J0_checkIndex_df160 : GoodIn wsJ1_charAt_3b067 (va_wsS RJ1 9 yJ0_checkIndex_df160 wsJ0_checkIndex_df160) := goodIn_app (goodIn_of _ (by decide +kernel)) ggJ1_charAt_3b067_J0_checkIndex_df160
theorem dJ1_charAt_3b067_0 : decode cJ1_charAt_3b067 0 = .ok (.iload_n 1, 1) := by decide +kernel
theorem dJ1_charAt_3b067_1 : decode cJ1_charAt_3b067 1 = .ok (.aload_n 0, 1) := by decide +kernel
theorem dJ1_charAt_3b067_2 : decode cJ1_charAt_3b067 2 = .ok (.arraylength, 1) := by decide +kernel
theorem dJ1_charAt_3b067_3 : decode cJ1_charAt_3b067 3 = .ok (.invokestatic 9, 3) := by decide +kernel
theorem dJ1_charAt_3b067_6 : decode cJ1_charAt_3b067 6 = .ok (.aload_n 0, 1) := by decide +kernel
theorem dJ1_charAt_3b067_7 : decode cJ1_charAt_3b067 7 = .ok (.iload_n 1, 1) := by decide +kernel
theorem dJ1_charAt_3b067_8 : decode cJ1_charAt_3b067 8 = .ok (.baload, 1) := by decide +kernel
theorem dJ1_charAt_3b067_9 : decode cJ1_charAt_3b067 9 = .ok (.sipush 255, 3) := by decide +kernel
theorem dJ1_charAt_3b067_12 : decode cJ1_charAt_3b067 12 = .ok (.iand, 1) := by decide +kernel
theorem dJ1_charAt_3b067_13 : decode cJ1_charAt_3b067 13 = .ok (.i2c, 1) := by decide +kernel
theorem dJ1_charAt_3b067_14 : decode cJ1_charAt_3b067 14 = .ok (.ireturn, 1) := by decide +kernel
theorem dJ3_checkIndex_8e157_0 : decode cJ3_checkIndex_8e157 0 = .ok (.iload_n 0, 1) := by decide +kernel
theorem dJ3_checkIndex_8e157_1 : decode cJ3_checkIndex_8e157 1 = .ok (.ifCond .lt 8, 3) := by decide +kernel
theorem dJ3_checkIndex_8e157_4 : decode cJ3_checkIndex_8e157 4 = .ok (.iload_n 0, 1) := by decide +kernel
theorem dJ3_checkIndex_8e157_5 : decode cJ3_checkIndex_8e157 5 = .ok (.iload_n 1, 1) := by decide +kernel
theorem dJ3_checkIndex_8e157_6 : decode cJ3_checkIndex_8e157 6 = .ok (.if_icmp .lt 10, 3) := by decide +kernel
theorem dJ3_checkIndex_8e157_16 : decode cJ3_checkIndex_8e157 16 = .ok (.iload_n 0, 1) := by decide +kernel
theorem dJ3_checkIndex_8e157_17 : decode cJ3_checkIndex_8e157 17 = .ok (.ireturn, 1) := by decide +kernel
abbrev wd_k_Model_init (z : Nat → Nat) (h0 : Nat) : va_W := [(h0, .inr (19, [.int 0, .int 0, .int 0, .int 0, .int 0, .int 0, .int 0, .null, .null, .null, .null, .null, .null, .null, .null, .null, .null, .int 0, .int 0, .int 0, .int 0, .int 0, .int 0, .long 0, .long 0, .long 0, .long 0, .int 0]))]
set_option maxHeartbeats 4000000 in
set_option maxRecDepth 100000 in
theorem k_Model_init (l : Launch) (dC : Nat → ClassId) (dI : Nat → Nat → Nat) (z zK zV : Nat → Nat) (h0 : Nat) (sz : Nat)  : Met l yX15_init wsX15_init ({ frames := 4, cells := 10, slots := 46, locals := 72 }) (kP dC dI z zK zV [.ref h0] sz (wd_k_Model_init z h0) []) (va_Qv (fun _ : Unit => True) (fun _ t => ∃ (q1 : Nat) (q3 : Nat) (q5 : Nat) (q6 : Nat) (q7 : Nat) (q8 : Nat) (q10 : Nat) (q12 : Nat) (q14 : Nat) (q16 : Nat) (cA2 : ClassId) (cA4 : ClassId) (cA9 : ClassId) (cA11 : ClassId) (cA13 : ClassId) (cA15 : ClassId) (cA17 : ClassId), kB (dC, dI) (va_A (wd_k_Model_init z h0) sz) [(h0, .inr (19, [.int 0, .int 0, .int 0, .int 0, .int 0, .int 0, .int 0, .ref q1, .ref q3, .ref q5, .ref q6, .ref q7, .ref q8, .ref q10, .ref q12, .ref q14, .ref q16, .int 0, .int 0, .int 0, .int 0, .int 0, .int 0, .long 0, .long 0, .long 0, .long 0, .int 0])), (q1, .inl (cA2, 2, .inl (fun _ => 0))), (q3, .inl (cA4, 2, .inl (fun _ => 0))), (q5, .inr (3, [.int 0, .ref (z 0), .int 0])), (q6, .inr (3, [.int 0, .ref (z 0), .int 0])), (q7, .inr (3, [.int 0, .ref (z 0), .int 0])), (q8, .inl (cA9, 9, .inl (fun _ => 0))), (q10, .inl (cA11, 9, .inl (upd (upd (upd (upd (upd (upd (upd (upd (upd (fun _ => 0) 0 900) 1 900) 2 900) 3 900) 4 900) 5 900) 6 900) 7 900) 8 900))), (q12, .inl (cA13, 9, .inl (fun _ => 0))), (q14, .inl (cA15, 3, .inl (fun _ => 0))), (q16, .inl (cA17, 3, .inl (fun _ => 0)))] [(cA2, .int), (cA4, .int), (cA9, .int), (cA11, .int), (cA13, .boolean), (cA15, .int), (cA17, .boolean)] t) (va_A (wd_k_Model_init z h0) sz)) 10 46 (va_A (wd_k_Model_init z h0) sz) := by
  refine Met.ofW (cc := cX15_init) (maxL := 2) (ret := none) (by decide) rfl ?_
  intro p e s m args below meth c s₁ B hml hv
  obtain ⟨rfl, hsz, hP, hK, hD0, hM⟩ := hv
  have hx := B.exec
  have hb := B.bytes
  have hr := B.returns
  have hts := atoms_spec (ws := wsX15_init) B.pre
  have hown : s.vm.findClass RX15 = some m.cls := findClass_of_methodNamed B.named
  have hlocks := B.notSynchronized
  have hin : meth.name = "<init>" := (name_of_methodNamed B.named B.method).1
  have hiX15 : ∀ w ∈ u_ws RX15 TX15 28, w ∈ wsX15_init := by decide +kernel
  have hiJx4a65c : ∀ w ∈ u_ws RJx4a65c TJx4a65c 3, w ∈ wsX15_init := by decide +kernel
  have hobj : Cond.code objectInit ⟨#[0xb1]⟩ 1 none ∈ wsX15_init := by decide +kernel
  subst hsz
  have hD := hD0.self (sz := s.heap.size)
  generalize hAe : va_A (wd_k_Model_init z h0) s.heap.size = A at hD hM ⊢
  have hA : ∀ q : Nat, s.heap.size ≤ q → A q := fun q h => by rw [← hAe]; exact Or.inr h
  have hS : va_S A s.heap s.heap [] := va_S.rf
  have hP : va_P (dC, dI) vwCl [(h0, .inr (19, [.int 0, .int 0, .int 0, .int 0, .int 0, .int 0, .int 0, .null, .null, .null, .null, .null, .null, .null, .null, .null, .null, .int 0, .int 0, .int 0, .int 0, .int 0, .int 0, .long 0, .long 0, .long 0, .long 0, .int 0]))] s.heap := hP
  have hD : va_D A [(h0, .inr (19, [.int 0, .int 0, .int 0, .int 0, .int 0, .int 0, .int 0, .null, .null, .null, .null, .null, .null, .null, .null, .null, .null, .int 0, .int 0, .int 0, .int 0, .int 0, .int 0, .long 0, .long 0, .long 0, .long 0, .int 0]))] := hD
  have hl := lv_entry ([.ref h0]) (n := 2) (Nat.le_of_ble_eq_true rfl)
  rw [lg_entry_eq]
  generalize (lg_sl ([.ref h0]) ++ List.replicate (2 - (lg_sl ([.ref h0])).length) Slot.unset).toArray = ls at hl ⊢
  have hl : lv_has ls 2 [(0, .ref h0)] := hl
  refine lv_aload_n hx hb dX15_init_0 rfl (lv_at hl 0 rfl) ?_
  refine W.objInit hx hb hown (hts (.methodLink RX15 1 objectInit) (by decide +kernel)) (hts (.instanceMethod objectInit) (by decide +kernel)) (hts _ hobj) rfl (by rw [hml]; exact hl.1) rfl dX15_init_1 (Nat.le_of_ble_eq_true rfl) (Nat.le_of_ble_eq_true rfl) ?_
  refine W.eq (g2 := F0 m 4 ls []) rfl ?_
  refine lv_aload_n hx hb dX15_init_4 rfl (lv_at hl 0 rfl) ?_
  refine lv_iconst (v := 2) hx hb dX15_init_5 (by decide) ?_
  refine va_newa (atype := .int) (a0 := (2, .inl (fun _ => 0))) (N' := 2) hx hb (hts (.arrayClass .int) (by decide +kernel)) rfl hK hP hD hS hA (fun _ => rfl) (by decide +kernel) (by decide +kernel) (Nat.le_of_ble_eq_true rfl) (Nat.le_of_ble_eq_true rfl) (Nat.le_of_ble_eq_true rfl) dX15_init_6 (fun q1 cA2 H hK hP hD hS => ?_)
  have hP : va_P (dC, dI) vwCl [(h0, .inr (19, [.int 0, .int 0, .int 0, .int 0, .int 0, .int 0, .int 0, .null, .null, .null, .null, .null, .null, .null, .null, .null, .null, .int 0, .int 0, .int 0, .int 0, .int 0, .int 0, .long 0, .long 0, .long 0, .long 0, .int 0])), (q1, .inl (cA2, 2, .inl (fun _ => 0)))] H := hP
  have hD : va_D A [(h0, .inr (19, [.int 0, .int 0, .int 0, .int 0, .int 0, .int 0, .int 0, .null, .null, .null, .null, .null, .null, .null, .null, .null, .null, .int 0, .int 0, .int 0, .int 0, .int 0, .int 0, .long 0, .long 0, .long 0, .long 0, .int 0])), (q1, .inl (cA2, 2, .inl (fun _ => 0)))] := hD
  have hK : va_K (dC, dI) vwCl [(cA2, .int)] s := hK
  refine va_putF (D := (dC, dI)) (ci := 19) (v := .ref q1) (ty := .array (.int)) (C := RX15) (T := TX15) (N := 28) hx hb hts hiX15 tyX15 tyX15_ok nmX15 hown hK hP hD hS 0 rfl rfl 7 (by decide) (hts (.fieldLink RX15 7 "SquareRigModel" "tired" "[I") (by decide +kernel)) (fun _ h9 => h9) rfl hin rfl (by decide +kernel) rfl rfl (Nat.le_of_ble_eq_true rfl) dX15_init_8 (fun H locs hP hD hS => ?_)
  have hP : va_P (dC, dI) vwCl [(h0, .inr (19, [.int 0, .int 0, .int 0, .int 0, .int 0, .int 0, .int 0, .ref q1, .null, .null, .null, .null, .null, .null, .null, .null, .null, .int 0, .int 0, .int 0, .int 0, .int 0, .int 0, .long 0, .long 0, .long 0, .long 0, .int 0])), (q1, .inl (cA2, 2, .inl (fun _ => 0)))] H := hP
  have hD : va_D A [(h0, .inr (19, [.int 0, .int 0, .int 0, .int 0, .int 0, .int 0, .int 0, .ref q1, .null, .null, .null, .null, .null, .null, .null, .null, .null, .int 0, .int 0, .int 0, .int 0, .int 0, .int 0, .long 0, .long 0, .long 0, .long 0, .int 0])), (q1, .inl (cA2, 2, .inl (fun _ => 0)))] := hD
  refine lv_aload_n hx hb dX15_init_11 rfl (lv_at hl 0 rfl) ?_
  refine lv_iconst (v := 2) hx hb dX15_init_12 (by decide) ?_
  refine va_newa (atype := .int) (a0 := (2, .inl (fun _ => 0))) (N' := 2) hx hb (hts (.arrayClass .int) (by decide +kernel)) rfl hK hP hD hS hA (fun _ => rfl) (by decide +kernel) (by decide +kernel) (Nat.le_of_ble_eq_true rfl) (Nat.le_of_ble_eq_true rfl) (Nat.le_of_ble_eq_true rfl) dX15_init_13 (fun q3 cA4 H hK hP hD hS => ?_)
  have hP : va_P (dC, dI) vwCl [(h0, .inr (19, [.int 0, .int 0, .int 0, .int 0, .int 0, .int 0, .int 0, .ref q1, .null, .null, .null, .null, .null, .null, .null, .null, .null, .int 0, .int 0, .int 0, .int 0, .int 0, .int 0, .long 0, .long 0, .long 0, .long 0, .int 0])), (q1, .inl (cA2, 2, .inl (fun _ => 0))), (q3, .inl (cA4, 2, .inl (fun _ => 0)))] H := hP
  have hD : va_D A [(h0, .inr (19, [.int 0, .int 0, .int 0, .int 0, .int 0, .int 0, .int 0, .ref q1, .null, .null, .null, .null, .null, .null, .null, .null, .null, .int 0, .int 0, .int 0, .int 0, .int 0, .int 0, .long 0, .long 0, .long 0, .long 0, .int 0])), (q1, .inl (cA2, 2, .inl (fun _ => 0))), (q3, .inl (cA4, 2, .inl (fun _ => 0)))] := hD
  have hK : va_K (dC, dI) vwCl [(cA2, .int), (cA4, .int)] s := hK
  refine va_putF (D := (dC, dI)) (ci := 19) (v := .ref q3) (ty := .array (.int)) (C := RX15) (T := TX15) (N := 28) hx hb hts hiX15 tyX15 tyX15_ok nmX15 hown hK hP hD hS 0 rfl rfl 8 (by decide) (hts (.fieldLink RX15 13 "SquareRigModel" "sick" "[I") (by decide +kernel)) (fun _ h9 => h9) rfl hin rfl (by decide +kernel) rfl rfl (Nat.le_of_ble_eq_true rfl) dX15_init_15 (fun H locs hP hD hS => ?_)
  have hP : va_P (dC, dI) vwCl [(h0, .inr (19, [.int 0, .int 0, .int 0, .int 0, .int 0, .int 0, .int 0, .ref q1, .ref q3, .null, .null, .null, .null, .null, .null, .null, .null, .int 0, .int 0, .int 0, .int 0, .int 0, .int 0, .long 0, .long 0, .long 0, .long 0, .int 0])), (q1, .inl (cA2, 2, .inl (fun _ => 0))), (q3, .inl (cA4, 2, .inl (fun _ => 0)))] H := hP
  have hD : va_D A [(h0, .inr (19, [.int 0, .int 0, .int 0, .int 0, .int 0, .int 0, .int 0, .ref q1, .ref q3, .null, .null, .null, .null, .null, .null, .null, .null, .int 0, .int 0, .int 0, .int 0, .int 0, .int 0, .long 0, .long 0, .long 0, .long 0, .int 0])), (q1, .inl (cA2, 2, .inl (fun _ => 0))), (q3, .inl (cA4, 2, .inl (fun _ => 0)))] := hD
  refine lv_aload_n hx hb dX15_init_18 rfl (lv_at hl 0 rfl) ?_
  refine va_new (ci := 3) (fs := [.int 0, .null, .int 0]) (C := RJx4a65c) (T := TJx4a65c) (N := 3) hx hb hts hiJx4a65c tyJx4a65c tyJx4a65c_ok hown (hts (.classLink RX15 16 RJx4a65c) (by decide +kernel)) (hts (.instantiable RJx4a65c 3) (by decide +kernel)) (hts (.initialized RJx4a65c) (by decide +kernel)) hK hP hD hS hA rfl (fun j hj => by rcases (show j = 0 ∨ j = 1 ∨ j = 2 by omega) with rfl | rfl | rfl <;> rfl) (Nat.le_of_ble_eq_true rfl) (Nat.le_of_ble_eq_true rfl) dX15_init_19 (fun q5 H hP hD hS => ?_)
  have hP : va_P (dC, dI) vwCl [(h0, .inr (19, [.int 0, .int 0, .int 0, .int 0, .int 0, .int 0, .int 0, .ref q1, .ref q3, .null, .null, .null, .null, .null, .null, .null, .null, .int 0, .int 0, .int 0, .int 0, .int 0, .int 0, .long 0, .long 0, .long 0, .long 0, .int 0])), (q1, .inl (cA2, 2, .inl (fun _ => 0))), (q3, .inl (cA4, 2, .inl (fun _ => 0))), (q5, .inr (3, [.int 0, .null, .int 0]))] H := hP
  have hD : va_D A [(h0, .inr (19, [.int 0, .int 0, .int 0, .int 0, .int 0, .int 0, .int 0, .ref q1, .ref q3, .null, .null, .null, .null, .null, .null, .null, .null, .int 0, .int 0, .int 0, .int 0, .int 0, .int 0, .long 0, .long 0, .long 0, .long 0, .int 0])), (q1, .inl (cA2, 2, .inl (fun _ => 0))), (q3, .inl (cA4, 2, .inl (fun _ => 0))), (q5, .inr (3, [.int 0, .null, .int 0]))] := hD
  refine lv_dup hx hb dX15_init_22 rfl ?_
  have hPc := hP.sub (ws' := [(q5, .inr (3, [.int 0, .null, .int 0]))]) [3] rfl
  have hDc := hD.sub (ws' := [(q5, .inr (3, [.int 0, .null, .int 0]))]) [3] (by decide) rfl
  have hKc := hK.sub (tys' := []) [] rfl
  have hFc := va_free (wc := [(q5, .inr (3, [.int 0, .null, .int 0]))]) hD hS hA [3] rfl
  refine va_callv (va_runI (As := []) (rest := [.ref q5, .ref h0]) ⟨hx, hb, hml, hown, hts⟩ (k_List_init l dC dI z zK zV q5 H.size) (cwI 0 hts gX15_init_Jx4a65c_init_da8c8 rfl rfl rfl (hts (.initialized RJx4a65c) (by decide +kernel)) (hts (.methodLink RX15 18 yJx4a65c_init_da8c8) (by decide +kernel)) (hts (.instanceMethod yJx4a65c_init_da8c8) (by decide +kernel)) rfl (by decide +kernel) ⟨Nat.le_of_ble_eq_true rfl, Nat.le_of_ble_eq_true rfl⟩) ⟨kP_blind, kP_go hPc hKc hDc hFc hM hS⟩ rfl rfl hl.1 rfl (lv_room (Nat.le_of_ble_eq_true rfl)) dX15_init_23 ⟨Nat.le_of_ble_eq_true rfl, Nat.le_of_ble_eq_true rfl⟩) hS (fun q _ h => hFc q h) hFc (fun u t H1 locs ht hvm hw hB hz1 hk1 hS => ?_)
  obtain ⟨hP, hD, hK⟩ := kJ (wr := [(h0, .inr (19, [.int 0, .int 0, .int 0, .int 0, .int 0, .int 0, .int 0, .ref q1, .ref q3, .null, .null, .null, .null, .null, .null, .null, .null, .int 0, .int 0, .int 0, .int 0, .int 0, .int 0, .long 0, .long 0, .long 0, .long 0, .int 0])), (q1, .inl (cA2, 2, .inl (fun _ => 0))), (q3, .inl (cA4, 2, .inl (fun _ => 0)))]) (w1 := [(q5, .inr (3, [.int 0, .ref (z 0), .int 0]))]) (t1 := []) hP hD hK [3] [0, 1, 2] rfl rfl (by decide) (by decide) hk1 hFc ht hvm hB
  generalize H1 = H at hP hS ⊢
  have hP : va_P (dC, dI) vwCl [(h0, .inr (19, [.int 0, .int 0, .int 0, .int 0, .int 0, .int 0, .int 0, .ref q1, .ref q3, .null, .null, .null, .null, .null, .null, .null, .null, .int 0, .int 0, .int 0, .int 0, .int 0, .int 0, .long 0, .long 0, .long 0, .long 0, .int 0])), (q1, .inl (cA2, 2, .inl (fun _ => 0))), (q3, .inl (cA4, 2, .inl (fun _ => 0))), (q5, .inr (3, [.int 0, .ref (z 0), .int 0]))] H := hP
  have hD : va_D A [(h0, .inr (19, [.int 0, .int 0, .int 0, .int 0, .int 0, .int 0, .int 0, .ref q1, .ref q3, .null, .null, .null, .null, .null, .null, .null, .null, .int 0, .int 0, .int 0, .int 0, .int 0, .int 0, .long 0, .long 0, .long 0, .long 0, .int 0])), (q1, .inl (cA2, 2, .inl (fun _ => 0))), (q3, .inl (cA4, 2, .inl (fun _ => 0))), (q5, .inr (3, [.int 0, .ref (z 0), .int 0]))] := hD
  have hK : va_K (dC, dI) vwCl [(cA2, .int), (cA4, .int)] s := hK
  clear hw
  refine va_putF (D := (dC, dI)) (ci := 19) (v := .ref q5) (ty := .object "java/util/List") (C := RX15) (T := TX15) (N := 28) hx hb hts hiX15 tyX15 tyX15_ok nmX15 hown hK hP hD hS 0 rfl rfl 9 (by decide) (hts (.fieldLink RX15 19 "SquareRigModel" "orders" "Ljava/util/List;") (by decide +kernel)) (fun _ h9 => h9) rfl hin rfl (by decide +kernel) rfl rfl (Nat.le_of_ble_eq_true rfl) dX15_init_26 (fun H locs hP hD hS => ?_)
  have hP : va_P (dC, dI) vwCl [(h0, .inr (19, [.int 0, .int 0, .int 0, .int 0, .int 0, .int 0, .int 0, .ref q1, .ref q3, .ref q5, .null, .null, .null, .null, .null, .null, .null, .int 0, .int 0, .int 0, .int 0, .int 0, .int 0, .long 0, .long 0, .long 0, .long 0, .int 0])), (q1, .inl (cA2, 2, .inl (fun _ => 0))), (q3, .inl (cA4, 2, .inl (fun _ => 0))), (q5, .inr (3, [.int 0, .ref (z 0), .int 0]))] H := hP
  have hD : va_D A [(h0, .inr (19, [.int 0, .int 0, .int 0, .int 0, .int 0, .int 0, .int 0, .ref q1, .ref q3, .ref q5, .null, .null, .null, .null, .null, .null, .null, .int 0, .int 0, .int 0, .int 0, .int 0, .int 0, .long 0, .long 0, .long 0, .long 0, .int 0])), (q1, .inl (cA2, 2, .inl (fun _ => 0))), (q3, .inl (cA4, 2, .inl (fun _ => 0))), (q5, .inr (3, [.int 0, .ref (z 0), .int 0]))] := hD
  refine lv_aload_n hx hb dX15_init_29 rfl (lv_at hl 0 rfl) ?_
  refine va_new (ci := 3) (fs := [.int 0, .null, .int 0]) (C := RJx4a65c) (T := TJx4a65c) (N := 3) hx hb hts hiJx4a65c tyJx4a65c tyJx4a65c_ok hown (hts (.classLink RX15 16 RJx4a65c) (by decide +kernel)) (hts (.instantiable RJx4a65c 3) (by decide +kernel)) (hts (.initialized RJx4a65c) (by decide +kernel)) hK hP hD hS hA rfl (fun j hj => by rcases (show j = 0 ∨ j = 1 ∨ j = 2 by omega) with rfl | rfl | rfl <;> rfl) (Nat.le_of_ble_eq_true rfl) (Nat.le_of_ble_eq_true rfl) dX15_init_30 (fun q6 H hP hD hS => ?_)
  have hP : va_P (dC, dI) vwCl [(h0, .inr (19, [.int 0, .int 0, .int 0, .int 0, .int 0, .int 0, .int 0, .ref q1, .ref q3, .ref q5, .null, .null, .null, .null, .null, .null, .null, .int 0, .int 0, .int 0, .int 0, .int 0, .int 0, .long 0, .long 0, .long 0, .long 0, .int 0])), (q1, .inl (cA2, 2, .inl (fun _ => 0))), (q3, .inl (cA4, 2, .inl (fun _ => 0))), (q5, .inr (3, [.int 0, .ref (z 0), .int 0])), (q6, .inr (3, [.int 0, .null, .int 0]))] H := hP
  have hD : va_D A [(h0, .inr (19, [.int 0, .int 0, .int 0, .int 0, .int 0, .int 0, .int 0, .ref q1, .ref q3, .ref q5, .null, .null, .null, .null, .null, .null, .null, .int 0, .int 0, .int 0, .int 0, .int 0, .int 0, .long 0, .long 0, .long 0, .long 0, .int 0])), (q1, .inl (cA2, 2, .inl (fun _ => 0))), (q3, .inl (cA4, 2, .inl (fun _ => 0))), (q5, .inr (3, [.int 0, .ref (z 0), .int 0])), (q6, .inr (3, [.int 0, .null, .int 0]))] := hD
  refine lv_dup hx hb dX15_init_33 rfl ?_
  have hPc := hP.sub (ws' := [(q6, .inr (3, [.int 0, .null, .int 0]))]) [4] rfl
  have hDc := hD.sub (ws' := [(q6, .inr (3, [.int 0, .null, .int 0]))]) [4] (by decide) rfl
  have hKc := hK.sub (tys' := []) [] rfl
  have hFc := va_free (wc := [(q6, .inr (3, [.int 0, .null, .int 0]))]) hD hS hA [4] rfl
  refine va_callv (va_runI (As := []) (rest := [.ref q6, .ref h0]) ⟨hx, hb, hml, hown, hts⟩ (k_List_init l dC dI z zK zV q6 H.size) (cwI 0 hts gX15_init_Jx4a65c_init_da8c8 rfl rfl rfl (hts (.initialized RJx4a65c) (by decide +kernel)) (hts (.methodLink RX15 18 yJx4a65c_init_da8c8) (by decide +kernel)) (hts (.instanceMethod yJx4a65c_init_da8c8) (by decide +kernel)) rfl (by decide +kernel) ⟨Nat.le_of_ble_eq_true rfl, Nat.le_of_ble_eq_true rfl⟩) ⟨kP_blind, kP_go hPc hKc hDc hFc hM hS⟩ rfl rfl hl.1 rfl (lv_room (Nat.le_of_ble_eq_true rfl)) dX15_init_34 ⟨Nat.le_of_ble_eq_true rfl, Nat.le_of_ble_eq_true rfl⟩) hS (fun q _ h => hFc q h) hFc (fun u t H1 locs ht hvm hw hB hz1 hk1 hS => ?_)
  obtain ⟨hP, hD, hK⟩ := kJ (wr := [(h0, .inr (19, [.int 0, .int 0, .int 0, .int 0, .int 0, .int 0, .int 0, .ref q1, .ref q3, .ref q5, .null, .null, .null, .null, .null, .null, .null, .int 0, .int 0, .int 0, .int 0, .int 0, .int 0, .long 0, .long 0, .long 0, .long 0, .int 0])), (q1, .inl (cA2, 2, .inl (fun _ => 0))), (q3, .inl (cA4, 2, .inl (fun _ => 0))), (q5, .inr (3, [.int 0, .ref (z 0), .int 0]))]) (w1 := [(q6, .inr (3, [.int 0, .ref (z 0), .int 0]))]) (t1 := []) hP hD hK [4] [0, 1, 2, 3] rfl rfl (by decide) (by decide) hk1 hFc ht hvm hB
  generalize H1 = H at hP hS ⊢
  have hP : va_P (dC, dI) vwCl [(h0, .inr (19, [.int 0, .int 0, .int 0, .int 0, .int 0, .int 0, .int 0, .ref q1, .ref q3, .ref q5, .null, .null, .null, .null, .null, .null, .null, .int 0, .int 0, .int 0, .int 0, .int 0, .int 0, .long 0, .long 0, .long 0, .long 0, .int 0])), (q1, .inl (cA2, 2, .inl (fun _ => 0))), (q3, .inl (cA4, 2, .inl (fun _ => 0))), (q5, .inr (3, [.int 0, .ref (z 0), .int 0])), (q6, .inr (3, [.int 0, .ref (z 0), .int 0]))] H := hP
  have hD : va_D A [(h0, .inr (19, [.int 0, .int 0, .int 0, .int 0, .int 0, .int 0, .int 0, .ref q1, .ref q3, .ref q5, .null, .null, .null, .null, .null, .null, .null, .int 0, .int 0, .int 0, .int 0, .int 0, .int 0, .long 0, .long 0, .long 0, .long 0, .int 0])), (q1, .inl (cA2, 2, .inl (fun _ => 0))), (q3, .inl (cA4, 2, .inl (fun _ => 0))), (q5, .inr (3, [.int 0, .ref (z 0), .int 0])), (q6, .inr (3, [.int 0, .ref (z 0), .int 0]))] := hD
  have hK : va_K (dC, dI) vwCl [(cA2, .int), (cA4, .int)] s := hK
  clear hw
  refine va_putF (D := (dC, dI)) (ci := 19) (v := .ref q6) (ty := .object "java/util/List") (C := RX15) (T := TX15) (N := 28) hx hb hts hiX15 tyX15 tyX15_ok nmX15 hown hK hP hD hS 0 rfl rfl 10 (by decide) (hts (.fieldLink RX15 23 "SquareRigModel" "hold" "Ljava/util/List;") (by decide +kernel)) (fun _ h9 => h9) rfl hin rfl (by decide +kernel) rfl rfl (Nat.le_of_ble_eq_true rfl) dX15_init_37 (fun H locs hP hD hS => ?_)
  have hP : va_P (dC, dI) vwCl [(h0, .inr (19, [.int 0, .int 0, .int 0, .int 0, .int 0, .int 0, .int 0, .ref q1, .ref q3, .ref q5, .ref q6, .null, .null, .null, .null, .null, .null, .int 0, .int 0, .int 0, .int 0, .int 0, .int 0, .long 0, .long 0, .long 0, .long 0, .int 0])), (q1, .inl (cA2, 2, .inl (fun _ => 0))), (q3, .inl (cA4, 2, .inl (fun _ => 0))), (q5, .inr (3, [.int 0, .ref (z 0), .int 0])), (q6, .inr (3, [.int 0, .ref (z 0), .int 0]))] H := hP
  have hD : va_D A [(h0, .inr (19, [.int 0, .int 0, .int 0, .int 0, .int 0, .int 0, .int 0, .ref q1, .ref q3, .ref q5, .ref q6, .null, .null, .null, .null, .null, .null, .int 0, .int 0, .int 0, .int 0, .int 0, .int 0, .long 0, .long 0, .long 0, .long 0, .int 0])), (q1, .inl (cA2, 2, .inl (fun _ => 0))), (q3, .inl (cA4, 2, .inl (fun _ => 0))), (q5, .inr (3, [.int 0, .ref (z 0), .int 0])), (q6, .inr (3, [.int 0, .ref (z 0), .int 0]))] := hD
  refine lv_aload_n hx hb dX15_init_40 rfl (lv_at hl 0 rfl) ?_
  refine va_new (ci := 3) (fs := [.int 0, .null, .int 0]) (C := RJx4a65c) (T := TJx4a65c) (N := 3) hx hb hts hiJx4a65c tyJx4a65c tyJx4a65c_ok hown (hts (.classLink RX15 16 RJx4a65c) (by decide +kernel)) (hts (.instantiable RJx4a65c 3) (by decide +kernel)) (hts (.initialized RJx4a65c) (by decide +kernel)) hK hP hD hS hA rfl (fun j hj => by rcases (show j = 0 ∨ j = 1 ∨ j = 2 by omega) with rfl | rfl | rfl <;> rfl) (Nat.le_of_ble_eq_true rfl) (Nat.le_of_ble_eq_true rfl) dX15_init_41 (fun q7 H hP hD hS => ?_)
  have hP : va_P (dC, dI) vwCl [(h0, .inr (19, [.int 0, .int 0, .int 0, .int 0, .int 0, .int 0, .int 0, .ref q1, .ref q3, .ref q5, .ref q6, .null, .null, .null, .null, .null, .null, .int 0, .int 0, .int 0, .int 0, .int 0, .int 0, .long 0, .long 0, .long 0, .long 0, .int 0])), (q1, .inl (cA2, 2, .inl (fun _ => 0))), (q3, .inl (cA4, 2, .inl (fun _ => 0))), (q5, .inr (3, [.int 0, .ref (z 0), .int 0])), (q6, .inr (3, [.int 0, .ref (z 0), .int 0])), (q7, .inr (3, [.int 0, .null, .int 0]))] H := hP
  have hD : va_D A [(h0, .inr (19, [.int 0, .int 0, .int 0, .int 0, .int 0, .int 0, .int 0, .ref q1, .ref q3, .ref q5, .ref q6, .null, .null, .null, .null, .null, .null, .int 0, .int 0, .int 0, .int 0, .int 0, .int 0, .long 0, .long 0, .long 0, .long 0, .int 0])), (q1, .inl (cA2, 2, .inl (fun _ => 0))), (q3, .inl (cA4, 2, .inl (fun _ => 0))), (q5, .inr (3, [.int 0, .ref (z 0), .int 0])), (q6, .inr (3, [.int 0, .ref (z 0), .int 0])), (q7, .inr (3, [.int 0, .null, .int 0]))] := hD
  refine lv_dup hx hb dX15_init_44 rfl ?_
  have hPc := hP.sub (ws' := [(q7, .inr (3, [.int 0, .null, .int 0]))]) [5] rfl
  have hDc := hD.sub (ws' := [(q7, .inr (3, [.int 0, .null, .int 0]))]) [5] (by decide) rfl
  have hKc := hK.sub (tys' := []) [] rfl
  have hFc := va_free (wc := [(q7, .inr (3, [.int 0, .null, .int 0]))]) hD hS hA [5] rfl
  refine va_callv (va_runI (As := []) (rest := [.ref q7, .ref h0]) ⟨hx, hb, hml, hown, hts⟩ (k_List_init l dC dI z zK zV q7 H.size) (cwI 0 hts gX15_init_Jx4a65c_init_da8c8 rfl rfl rfl (hts (.initialized RJx4a65c) (by decide +kernel)) (hts (.methodLink RX15 18 yJx4a65c_init_da8c8) (by decide +kernel)) (hts (.instanceMethod yJx4a65c_init_da8c8) (by decide +kernel)) rfl (by decide +kernel) ⟨Nat.le_of_ble_eq_true rfl, Nat.le_of_ble_eq_true rfl⟩) ⟨kP_blind, kP_go hPc hKc hDc hFc hM hS⟩ rfl rfl hl.1 rfl (lv_room (Nat.le_of_ble_eq_true rfl)) dX15_init_45 ⟨Nat.le_of_ble_eq_true rfl, Nat.le_of_ble_eq_true rfl⟩) hS (fun q _ h => hFc q h) hFc (fun u t H1 locs ht hvm hw hB hz1 hk1 hS => ?_)
  obtain ⟨hP, hD, hK⟩ := kJ (wr := [(h0, .inr (19, [.int 0, .int 0, .int 0, .int 0, .int 0, .int 0, .int 0, .ref q1, .ref q3, .ref q5, .ref q6, .null, .null, .null, .null, .null, .null, .int 0, .int 0, .int 0, .int 0, .int 0, .int 0, .long 0, .long 0, .long 0, .long 0, .int 0])), (q1, .inl (cA2, 2, .inl (fun _ => 0))), (q3, .inl (cA4, 2, .inl (fun _ => 0))), (q5, .inr (3, [.int 0, .ref (z 0), .int 0])), (q6, .inr (3, [.int 0, .ref (z 0), .int 0]))]) (w1 := [(q7, .inr (3, [.int 0, .ref (z 0), .int 0]))]) (t1 := []) hP hD hK [5] [0, 1, 2, 3, 4] rfl rfl (by decide) (by decide) hk1 hFc ht hvm hB
  generalize H1 = H at hP hS ⊢
  have hP : va_P (dC, dI) vwCl [(h0, .inr (19, [.int 0, .int 0, .int 0, .int 0, .int 0, .int 0, .int 0, .ref q1, .ref q3, .ref q5, .ref q6, .null, .null, .null, .null, .null, .null, .int 0, .int 0, .int 0, .int 0, .int 0, .int 0, .long 0, .long 0, .long 0, .long 0, .int 0])), (q1, .inl (cA2, 2, .inl (fun _ => 0))), (q3, .inl (cA4, 2, .inl (fun _ => 0))), (q5, .inr (3, [.int 0, .ref (z 0), .int 0])), (q6, .inr (3, [.int 0, .ref (z 0), .int 0])), (q7, .inr (3, [.int 0, .ref (z 0), .int 0]))] H := hP
  have hD : va_D A [(h0, .inr (19, [.int 0, .int 0, .int 0, .int 0, .int 0, .int 0, .int 0, .ref q1, .ref q3, .ref q5, .ref q6, .null, .null, .null, .null, .null, .null, .int 0, .int 0, .int 0, .int 0, .int 0, .int 0, .long 0, .long 0, .long 0, .long 0, .int 0])), (q1, .inl (cA2, 2, .inl (fun _ => 0))), (q3, .inl (cA4, 2, .inl (fun _ => 0))), (q5, .inr (3, [.int 0, .ref (z 0), .int 0])), (q6, .inr (3, [.int 0, .ref (z 0), .int 0])), (q7, .inr (3, [.int 0, .ref (z 0), .int 0]))] := hD
  have hK : va_K (dC, dI) vwCl [(cA2, .int), (cA4, .int)] s := hK
  clear hw
  refine va_putF (D := (dC, dI)) (ci := 19) (v := .ref q7) (ty := .object "java/util/List") (C := RX15) (T := TX15) (N := 28) hx hb hts hiX15 tyX15 tyX15_ok nmX15 hown hK hP hD hS 0 rfl rfl 11 (by decide) (hts (.fieldLink RX15 26 "SquareRigModel" "log" "Ljava/util/List;") (by decide +kernel)) (fun _ h9 => h9) rfl hin rfl (by decide +kernel) rfl rfl (Nat.le_of_ble_eq_true rfl) dX15_init_48 (fun H locs hP hD hS => ?_)
  have hP : va_P (dC, dI) vwCl [(h0, .inr (19, [.int 0, .int 0, .int 0, .int 0, .int 0, .int 0, .int 0, .ref q1, .ref q3, .ref q5, .ref q6, .ref q7, .null, .null, .null, .null, .null, .int 0, .int 0, .int 0, .int 0, .int 0, .int 0, .long 0, .long 0, .long 0, .long 0, .int 0])), (q1, .inl (cA2, 2, .inl (fun _ => 0))), (q3, .inl (cA4, 2, .inl (fun _ => 0))), (q5, .inr (3, [.int 0, .ref (z 0), .int 0])), (q6, .inr (3, [.int 0, .ref (z 0), .int 0])), (q7, .inr (3, [.int 0, .ref (z 0), .int 0]))] H := hP
  have hD : va_D A [(h0, .inr (19, [.int 0, .int 0, .int 0, .int 0, .int 0, .int 0, .int 0, .ref q1, .ref q3, .ref q5, .ref q6, .ref q7, .null, .null, .null, .null, .null, .int 0, .int 0, .int 0, .int 0, .int 0, .int 0, .long 0, .long 0, .long 0, .long 0, .int 0])), (q1, .inl (cA2, 2, .inl (fun _ => 0))), (q3, .inl (cA4, 2, .inl (fun _ => 0))), (q5, .inr (3, [.int 0, .ref (z 0), .int 0])), (q6, .inr (3, [.int 0, .ref (z 0), .int 0])), (q7, .inr (3, [.int 0, .ref (z 0), .int 0]))] := hD
  refine lv_aload_n hx hb dX15_init_51 rfl (lv_at hl 0 rfl) ?_
  refine lv_bipush (v := 9) hx hb dX15_init_52 (by decide) ?_
  refine va_newa (atype := .int) (a0 := (9, .inl (fun _ => 0))) (N' := 9) hx hb (hts (.arrayClass .int) (by decide +kernel)) rfl hK hP hD hS hA (fun _ => rfl) (by decide +kernel) (by decide +kernel) (Nat.le_of_ble_eq_true rfl) (Nat.le_of_ble_eq_true rfl) (Nat.le_of_ble_eq_true rfl) dX15_init_54 (fun q8 cA9 H hK hP hD hS => ?_)
  have hP : va_P (dC, dI) vwCl [(h0, .inr (19, [.int 0, .int 0, .int 0, .int 0, .int 0, .int 0, .int 0, .ref q1, .ref q3, .ref q5, .ref q6, .ref q7, .null, .null, .null, .null, .null, .int 0, .int 0, .int 0, .int 0, .int 0, .int 0, .long 0, .long 0, .long 0, .long 0, .int 0])), (q1, .inl (cA2, 2, .inl (fun _ => 0))), (q3, .inl (cA4, 2, .inl (fun _ => 0))), (q5, .inr (3, [.int 0, .ref (z 0), .int 0])), (q6, .inr (3, [.int 0, .ref (z 0), .int 0])), (q7, .inr (3, [.int 0, .ref (z 0), .int 0])), (q8, .inl (cA9, 9, .inl (fun _ => 0)))] H := hP
  have hD : va_D A [(h0, .inr (19, [.int 0, .int 0, .int 0, .int 0, .int 0, .int 0, .int 0, .ref q1, .ref q3, .ref q5, .ref q6, .ref q7, .null, .null, .null, .null, .null, .int 0, .int 0, .int 0, .int 0, .int 0, .int 0, .long 0, .long 0, .long 0, .long 0, .int 0])), (q1, .inl (cA2, 2, .inl (fun _ => 0))), (q3, .inl (cA4, 2, .inl (fun _ => 0))), (q5, .inr (3, [.int 0, .ref (z 0), .int 0])), (q6, .inr (3, [.int 0, .ref (z 0), .int 0])), (q7, .inr (3, [.int 0, .ref (z 0), .int 0])), (q8, .inl (cA9, 9, .inl (fun _ => 0)))] := hD
  have hK : va_K (dC, dI) vwCl [(cA2, .int), (cA4, .int), (cA9, .int)] s := hK
  refine va_putF (D := (dC, dI)) (ci := 19) (v := .ref q8) (ty := .array (.int)) (C := RX15) (T := TX15) (N := 28) hx hb hts hiX15 tyX15 tyX15_ok nmX15 hown hK hP hD hS 0 rfl rfl 12 (by decide) (hts (.fieldLink RX15 29 "SquareRigModel" "spread" "[I") (by decide +kernel)) (fun _ h9 => h9) rfl hin rfl (by decide +kernel) rfl rfl (Nat.le_of_ble_eq_true rfl) dX15_init_56 (fun H locs hP hD hS => ?_)
  have hP : va_P (dC, dI) vwCl [(h0, .inr (19, [.int 0, .int 0, .int 0, .int 0, .int 0, .int 0, .int 0, .ref q1, .ref q3, .ref q5, .ref q6, .ref q7, .ref q8, .null, .null, .null, .null, .int 0, .int 0, .int 0, .int 0, .int 0, .int 0, .long 0, .long 0, .long 0, .long 0, .int 0])), (q1, .inl (cA2, 2, .inl (fun _ => 0))), (q3, .inl (cA4, 2, .inl (fun _ => 0))), (q5, .inr (3, [.int 0, .ref (z 0), .int 0])), (q6, .inr (3, [.int 0, .ref (z 0), .int 0])), (q7, .inr (3, [.int 0, .ref (z 0), .int 0])), (q8, .inl (cA9, 9, .inl (fun _ => 0)))] H := hP
  have hD : va_D A [(h0, .inr (19, [.int 0, .int 0, .int 0, .int 0, .int 0, .int 0, .int 0, .ref q1, .ref q3, .ref q5, .ref q6, .ref q7, .ref q8, .null, .null, .null, .null, .int 0, .int 0, .int 0, .int 0, .int 0, .int 0, .long 0, .long 0, .long 0, .long 0, .int 0])), (q1, .inl (cA2, 2, .inl (fun _ => 0))), (q3, .inl (cA4, 2, .inl (fun _ => 0))), (q5, .inr (3, [.int 0, .ref (z 0), .int 0])), (q6, .inr (3, [.int 0, .ref (z 0), .int 0])), (q7, .inr (3, [.int 0, .ref (z 0), .int 0])), (q8, .inl (cA9, 9, .inl (fun _ => 0)))] := hD
  refine lv_aload_n hx hb dX15_init_59 rfl (lv_at hl 0 rfl) ?_
  refine lv_bipush (v := 9) hx hb dX15_init_60 (by decide) ?_
  refine va_newa (atype := .int) (a0 := (9, .inl (fun _ => 0))) (N' := 9) hx hb (hts (.arrayClass .int) (by decide +kernel)) rfl hK hP hD hS hA (fun _ => rfl) (by decide +kernel) (by decide +kernel) (Nat.le_of_ble_eq_true rfl) (Nat.le_of_ble_eq_true rfl) (Nat.le_of_ble_eq_true rfl) dX15_init_62 (fun q10 cA11 H hK hP hD hS => ?_)
  have hP : va_P (dC, dI) vwCl [(h0, .inr (19, [.int 0, .int 0, .int 0, .int 0, .int 0, .int 0, .int 0, .ref q1, .ref q3, .ref q5, .ref q6, .ref q7, .ref q8, .null, .null, .null, .null, .int 0, .int 0, .int 0, .int 0, .int 0, .int 0, .long 0, .long 0, .long 0, .long 0, .int 0])), (q1, .inl (cA2, 2, .inl (fun _ => 0))), (q3, .inl (cA4, 2, .inl (fun _ => 0))), (q5, .inr (3, [.int 0, .ref (z 0), .int 0])), (q6, .inr (3, [.int 0, .ref (z 0), .int 0])), (q7, .inr (3, [.int 0, .ref (z 0), .int 0])), (q8, .inl (cA9, 9, .inl (fun _ => 0))), (q10, .inl (cA11, 9, .inl (fun _ => 0)))] H := hP
  have hD : va_D A [(h0, .inr (19, [.int 0, .int 0, .int 0, .int 0, .int 0, .int 0, .int 0, .ref q1, .ref q3, .ref q5, .ref q6, .ref q7, .ref q8, .null, .null, .null, .null, .int 0, .int 0, .int 0, .int 0, .int 0, .int 0, .long 0, .long 0, .long 0, .long 0, .int 0])), (q1, .inl (cA2, 2, .inl (fun _ => 0))), (q3, .inl (cA4, 2, .inl (fun _ => 0))), (q5, .inr (3, [.int 0, .ref (z 0), .int 0])), (q6, .inr (3, [.int 0, .ref (z 0), .int 0])), (q7, .inr (3, [.int 0, .ref (z 0), .int 0])), (q8, .inl (cA9, 9, .inl (fun _ => 0))), (q10, .inl (cA11, 9, .inl (fun _ => 0)))] := hD
  have hK : va_K (dC, dI) vwCl [(cA2, .int), (cA4, .int), (cA9, .int), (cA11, .int)] s := hK
  refine va_putF (D := (dC, dI)) (ci := 19) (v := .ref q10) (ty := .array (.int)) (C := RX15) (T := TX15) (N := 28) hx hb hts hiX15 tyX15 tyX15_ok nmX15 hown hK hP hD hS 0 rfl rfl 13 (by decide) (hts (.fieldLink RX15 32 "SquareRigModel" "strength" "[I") (by decide +kernel)) (fun _ h9 => h9) rfl hin rfl (by decide +kernel) rfl rfl (Nat.le_of_ble_eq_true rfl) dX15_init_64 (fun H locs hP hD hS => ?_)
  have hP : va_P (dC, dI) vwCl [(h0, .inr (19, [.int 0, .int 0, .int 0, .int 0, .int 0, .int 0, .int 0, .ref q1, .ref q3, .ref q5, .ref q6, .ref q7, .ref q8, .ref q10, .null, .null, .null, .int 0, .int 0, .int 0, .int 0, .int 0, .int 0, .long 0, .long 0, .long 0, .long 0, .int 0])), (q1, .inl (cA2, 2, .inl (fun _ => 0))), (q3, .inl (cA4, 2, .inl (fun _ => 0))), (q5, .inr (3, [.int 0, .ref (z 0), .int 0])), (q6, .inr (3, [.int 0, .ref (z 0), .int 0])), (q7, .inr (3, [.int 0, .ref (z 0), .int 0])), (q8, .inl (cA9, 9, .inl (fun _ => 0))), (q10, .inl (cA11, 9, .inl (fun _ => 0)))] H := hP
  have hD : va_D A [(h0, .inr (19, [.int 0, .int 0, .int 0, .int 0, .int 0, .int 0, .int 0, .ref q1, .ref q3, .ref q5, .ref q6, .ref q7, .ref q8, .ref q10, .null, .null, .null, .int 0, .int 0, .int 0, .int 0, .int 0, .int 0, .long 0, .long 0, .long 0, .long 0, .int 0])), (q1, .inl (cA2, 2, .inl (fun _ => 0))), (q3, .inl (cA4, 2, .inl (fun _ => 0))), (q5, .inr (3, [.int 0, .ref (z 0), .int 0])), (q6, .inr (3, [.int 0, .ref (z 0), .int 0])), (q7, .inr (3, [.int 0, .ref (z 0), .int 0])), (q8, .inl (cA9, 9, .inl (fun _ => 0))), (q10, .inl (cA11, 9, .inl (fun _ => 0)))] := hD
  refine lv_aload_n hx hb dX15_init_67 rfl (lv_at hl 0 rfl) ?_
  refine lv_bipush (v := 9) hx hb dX15_init_68 (by decide) ?_
  refine va_newa (atype := .boolean) (a0 := (9, .inl (fun _ => 0))) (N' := 9) hx hb (hts (.arrayClass .boolean) (by decide +kernel)) rfl hK hP hD hS hA (fun _ => rfl) (by decide +kernel) (by decide +kernel) (Nat.le_of_ble_eq_true rfl) (Nat.le_of_ble_eq_true rfl) (Nat.le_of_ble_eq_true rfl) dX15_init_70 (fun q12 cA13 H hK hP hD hS => ?_)
  have hP : va_P (dC, dI) vwCl [(h0, .inr (19, [.int 0, .int 0, .int 0, .int 0, .int 0, .int 0, .int 0, .ref q1, .ref q3, .ref q5, .ref q6, .ref q7, .ref q8, .ref q10, .null, .null, .null, .int 0, .int 0, .int 0, .int 0, .int 0, .int 0, .long 0, .long 0, .long 0, .long 0, .int 0])), (q1, .inl (cA2, 2, .inl (fun _ => 0))), (q3, .inl (cA4, 2, .inl (fun _ => 0))), (q5, .inr (3, [.int 0, .ref (z 0), .int 0])), (q6, .inr (3, [.int 0, .ref (z 0), .int 0])), (q7, .inr (3, [.int 0, .ref (z 0), .int 0])), (q8, .inl (cA9, 9, .inl (fun _ => 0))), (q10, .inl (cA11, 9, .inl (fun _ => 0))), (q12, .inl (cA13, 9, .inl (fun _ => 0)))] H := hP
  have hD : va_D A [(h0, .inr (19, [.int 0, .int 0, .int 0, .int 0, .int 0, .int 0, .int 0, .ref q1, .ref q3, .ref q5, .ref q6, .ref q7, .ref q8, .ref q10, .null, .null, .null, .int 0, .int 0, .int 0, .int 0, .int 0, .int 0, .long 0, .long 0, .long 0, .long 0, .int 0])), (q1, .inl (cA2, 2, .inl (fun _ => 0))), (q3, .inl (cA4, 2, .inl (fun _ => 0))), (q5, .inr (3, [.int 0, .ref (z 0), .int 0])), (q6, .inr (3, [.int 0, .ref (z 0), .int 0])), (q7, .inr (3, [.int 0, .ref (z 0), .int 0])), (q8, .inl (cA9, 9, .inl (fun _ => 0))), (q10, .inl (cA11, 9, .inl (fun _ => 0))), (q12, .inl (cA13, 9, .inl (fun _ => 0)))] := hD
  have hK : va_K (dC, dI) vwCl [(cA2, .int), (cA4, .int), (cA9, .int), (cA11, .int), (cA13, .boolean)] s := hK
  refine va_putF (D := (dC, dI)) (ci := 19) (v := .ref q12) (ty := .array (.boolean)) (C := RX15) (T := TX15) (N := 28) hx hb hts hiX15 tyX15 tyX15_ok nmX15 hown hK hP hD hS 0 rfl rfl 14 (by decide) (hts (.fieldLink RX15 35 "SquareRigModel" "parted" "[Z") (by decide +kernel)) (fun _ h9 => h9) rfl hin rfl (by decide +kernel) rfl rfl (Nat.le_of_ble_eq_true rfl) dX15_init_72 (fun H locs hP hD hS => ?_)
  have hP : va_P (dC, dI) vwCl [(h0, .inr (19, [.int 0, .int 0, .int 0, .int 0, .int 0, .int 0, .int 0, .ref q1, .ref q3, .ref q5, .ref q6, .ref q7, .ref q8, .ref q10, .ref q12, .null, .null, .int 0, .int 0, .int 0, .int 0, .int 0, .int 0, .long 0, .long 0, .long 0, .long 0, .int 0])), (q1, .inl (cA2, 2, .inl (fun _ => 0))), (q3, .inl (cA4, 2, .inl (fun _ => 0))), (q5, .inr (3, [.int 0, .ref (z 0), .int 0])), (q6, .inr (3, [.int 0, .ref (z 0), .int 0])), (q7, .inr (3, [.int 0, .ref (z 0), .int 0])), (q8, .inl (cA9, 9, .inl (fun _ => 0))), (q10, .inl (cA11, 9, .inl (fun _ => 0))), (q12, .inl (cA13, 9, .inl (fun _ => 0)))] H := hP
  have hD : va_D A [(h0, .inr (19, [.int 0, .int 0, .int 0, .int 0, .int 0, .int 0, .int 0, .ref q1, .ref q3, .ref q5, .ref q6, .ref q7, .ref q8, .ref q10, .ref q12, .null, .null, .int 0, .int 0, .int 0, .int 0, .int 0, .int 0, .long 0, .long 0, .long 0, .long 0, .int 0])), (q1, .inl (cA2, 2, .inl (fun _ => 0))), (q3, .inl (cA4, 2, .inl (fun _ => 0))), (q5, .inr (3, [.int 0, .ref (z 0), .int 0])), (q6, .inr (3, [.int 0, .ref (z 0), .int 0])), (q7, .inr (3, [.int 0, .ref (z 0), .int 0])), (q8, .inl (cA9, 9, .inl (fun _ => 0))), (q10, .inl (cA11, 9, .inl (fun _ => 0))), (q12, .inl (cA13, 9, .inl (fun _ => 0)))] := hD
  refine lv_aload_n hx hb dX15_init_75 rfl (lv_at hl 0 rfl) ?_
  refine lv_iconst (v := 3) hx hb dX15_init_76 (by decide) ?_
  refine va_newa (atype := .int) (a0 := (3, .inl (fun _ => 0))) (N' := 3) hx hb (hts (.arrayClass .int) (by decide +kernel)) rfl hK hP hD hS hA (fun _ => rfl) (by decide +kernel) (by decide +kernel) (Nat.le_of_ble_eq_true rfl) (Nat.le_of_ble_eq_true rfl) (Nat.le_of_ble_eq_true rfl) dX15_init_77 (fun q14 cA15 H hK hP hD hS => ?_)
  have hP : va_P (dC, dI) vwCl [(h0, .inr (19, [.int 0, .int 0, .int 0, .int 0, .int 0, .int 0, .int 0, .ref q1, .ref q3, .ref q5, .ref q6, .ref q7, .ref q8, .ref q10, .ref q12, .null, .null, .int 0, .int 0, .int 0, .int 0, .int 0, .int 0, .long 0, .long 0, .long 0, .long 0, .int 0])), (q1, .inl (cA2, 2, .inl (fun _ => 0))), (q3, .inl (cA4, 2, .inl (fun _ => 0))), (q5, .inr (3, [.int 0, .ref (z 0), .int 0])), (q6, .inr (3, [.int 0, .ref (z 0), .int 0])), (q7, .inr (3, [.int 0, .ref (z 0), .int 0])), (q8, .inl (cA9, 9, .inl (fun _ => 0))), (q10, .inl (cA11, 9, .inl (fun _ => 0))), (q12, .inl (cA13, 9, .inl (fun _ => 0))), (q14, .inl (cA15, 3, .inl (fun _ => 0)))] H := hP
  have hD : va_D A [(h0, .inr (19, [.int 0, .int 0, .int 0, .int 0, .int 0, .int 0, .int 0, .ref q1, .ref q3, .ref q5, .ref q6, .ref q7, .ref q8, .ref q10, .ref q12, .null, .null, .int 0, .int 0, .int 0, .int 0, .int 0, .int 0, .long 0, .long 0, .long 0, .long 0, .int 0])), (q1, .inl (cA2, 2, .inl (fun _ => 0))), (q3, .inl (cA4, 2, .inl (fun _ => 0))), (q5, .inr (3, [.int 0, .ref (z 0), .int 0])), (q6, .inr (3, [.int 0, .ref (z 0), .int 0])), (q7, .inr (3, [.int 0, .ref (z 0), .int 0])), (q8, .inl (cA9, 9, .inl (fun _ => 0))), (q10, .inl (cA11, 9, .inl (fun _ => 0))), (q12, .inl (cA13, 9, .inl (fun _ => 0))), (q14, .inl (cA15, 3, .inl (fun _ => 0)))] := hD
  have hK : va_K (dC, dI) vwCl [(cA2, .int), (cA4, .int), (cA9, .int), (cA11, .int), (cA13, .boolean), (cA15, .int)] s := hK
  refine va_putF (D := (dC, dI)) (ci := 19) (v := .ref q14) (ty := .array (.int)) (C := RX15) (T := TX15) (N := 28) hx hb hts hiX15 tyX15 tyX15_ok nmX15 hown hK hP hD hS 0 rfl rfl 15 (by decide) (hts (.fieldLink RX15 39 "SquareRigModel" "braced" "[I") (by decide +kernel)) (fun _ h9 => h9) rfl hin rfl (by decide +kernel) rfl rfl (Nat.le_of_ble_eq_true rfl) dX15_init_79 (fun H locs hP hD hS => ?_)
  have hP : va_P (dC, dI) vwCl [(h0, .inr (19, [.int 0, .int 0, .int 0, .int 0, .int 0, .int 0, .int 0, .ref q1, .ref q3, .ref q5, .ref q6, .ref q7, .ref q8, .ref q10, .ref q12, .ref q14, .null, .int 0, .int 0, .int 0, .int 0, .int 0, .int 0, .long 0, .long 0, .long 0, .long 0, .int 0])), (q1, .inl (cA2, 2, .inl (fun _ => 0))), (q3, .inl (cA4, 2, .inl (fun _ => 0))), (q5, .inr (3, [.int 0, .ref (z 0), .int 0])), (q6, .inr (3, [.int 0, .ref (z 0), .int 0])), (q7, .inr (3, [.int 0, .ref (z 0), .int 0])), (q8, .inl (cA9, 9, .inl (fun _ => 0))), (q10, .inl (cA11, 9, .inl (fun _ => 0))), (q12, .inl (cA13, 9, .inl (fun _ => 0))), (q14, .inl (cA15, 3, .inl (fun _ => 0)))] H := hP
  have hD : va_D A [(h0, .inr (19, [.int 0, .int 0, .int 0, .int 0, .int 0, .int 0, .int 0, .ref q1, .ref q3, .ref q5, .ref q6, .ref q7, .ref q8, .ref q10, .ref q12, .ref q14, .null, .int 0, .int 0, .int 0, .int 0, .int 0, .int 0, .long 0, .long 0, .long 0, .long 0, .int 0])), (q1, .inl (cA2, 2, .inl (fun _ => 0))), (q3, .inl (cA4, 2, .inl (fun _ => 0))), (q5, .inr (3, [.int 0, .ref (z 0), .int 0])), (q6, .inr (3, [.int 0, .ref (z 0), .int 0])), (q7, .inr (3, [.int 0, .ref (z 0), .int 0])), (q8, .inl (cA9, 9, .inl (fun _ => 0))), (q10, .inl (cA11, 9, .inl (fun _ => 0))), (q12, .inl (cA13, 9, .inl (fun _ => 0))), (q14, .inl (cA15, 3, .inl (fun _ => 0)))] := hD
  refine lv_aload_n hx hb dX15_init_82 rfl (lv_at hl 0 rfl) ?_
  refine lv_iconst (v := 3) hx hb dX15_init_83 (by decide) ?_
  refine va_newa (atype := .boolean) (a0 := (3, .inl (fun _ => 0))) (N' := 3) hx hb (hts (.arrayClass .boolean) (by decide +kernel)) rfl hK hP hD hS hA (fun _ => rfl) (by decide +kernel) (by decide +kernel) (Nat.le_of_ble_eq_true rfl) (Nat.le_of_ble_eq_true rfl) (Nat.le_of_ble_eq_true rfl) dX15_init_84 (fun q16 cA17 H hK hP hD hS => ?_)
  have hP : va_P (dC, dI) vwCl [(h0, .inr (19, [.int 0, .int 0, .int 0, .int 0, .int 0, .int 0, .int 0, .ref q1, .ref q3, .ref q5, .ref q6, .ref q7, .ref q8, .ref q10, .ref q12, .ref q14, .null, .int 0, .int 0, .int 0, .int 0, .int 0, .int 0, .long 0, .long 0, .long 0, .long 0, .int 0])), (q1, .inl (cA2, 2, .inl (fun _ => 0))), (q3, .inl (cA4, 2, .inl (fun _ => 0))), (q5, .inr (3, [.int 0, .ref (z 0), .int 0])), (q6, .inr (3, [.int 0, .ref (z 0), .int 0])), (q7, .inr (3, [.int 0, .ref (z 0), .int 0])), (q8, .inl (cA9, 9, .inl (fun _ => 0))), (q10, .inl (cA11, 9, .inl (fun _ => 0))), (q12, .inl (cA13, 9, .inl (fun _ => 0))), (q14, .inl (cA15, 3, .inl (fun _ => 0))), (q16, .inl (cA17, 3, .inl (fun _ => 0)))] H := hP
  have hD : va_D A [(h0, .inr (19, [.int 0, .int 0, .int 0, .int 0, .int 0, .int 0, .int 0, .ref q1, .ref q3, .ref q5, .ref q6, .ref q7, .ref q8, .ref q10, .ref q12, .ref q14, .null, .int 0, .int 0, .int 0, .int 0, .int 0, .int 0, .long 0, .long 0, .long 0, .long 0, .int 0])), (q1, .inl (cA2, 2, .inl (fun _ => 0))), (q3, .inl (cA4, 2, .inl (fun _ => 0))), (q5, .inr (3, [.int 0, .ref (z 0), .int 0])), (q6, .inr (3, [.int 0, .ref (z 0), .int 0])), (q7, .inr (3, [.int 0, .ref (z 0), .int 0])), (q8, .inl (cA9, 9, .inl (fun _ => 0))), (q10, .inl (cA11, 9, .inl (fun _ => 0))), (q12, .inl (cA13, 9, .inl (fun _ => 0))), (q14, .inl (cA15, 3, .inl (fun _ => 0))), (q16, .inl (cA17, 3, .inl (fun _ => 0)))] := hD
  have hK : va_K (dC, dI) vwCl [(cA2, .int), (cA4, .int), (cA9, .int), (cA11, .int), (cA13, .boolean), (cA15, .int), (cA17, .boolean)] s := hK
  refine va_putF (D := (dC, dI)) (ci := 19) (v := .ref q16) (ty := .array (.boolean)) (C := RX15) (T := TX15) (N := 28) hx hb hts hiX15 tyX15 tyX15_ok nmX15 hown hK hP hD hS 0 rfl rfl 16 (by decide) (hts (.fieldLink RX15 42 "SquareRigModel" "sprung" "[Z") (by decide +kernel)) (fun _ h9 => h9) rfl hin rfl (by decide +kernel) rfl rfl (Nat.le_of_ble_eq_true rfl) dX15_init_86 (fun H locs hP hD hS => ?_)
  have hP : va_P (dC, dI) vwCl [(h0, .inr (19, [.int 0, .int 0, .int 0, .int 0, .int 0, .int 0, .int 0, .ref q1, .ref q3, .ref q5, .ref q6, .ref q7, .ref q8, .ref q10, .ref q12, .ref q14, .ref q16, .int 0, .int 0, .int 0, .int 0, .int 0, .int 0, .long 0, .long 0, .long 0, .long 0, .int 0])), (q1, .inl (cA2, 2, .inl (fun _ => 0))), (q3, .inl (cA4, 2, .inl (fun _ => 0))), (q5, .inr (3, [.int 0, .ref (z 0), .int 0])), (q6, .inr (3, [.int 0, .ref (z 0), .int 0])), (q7, .inr (3, [.int 0, .ref (z 0), .int 0])), (q8, .inl (cA9, 9, .inl (fun _ => 0))), (q10, .inl (cA11, 9, .inl (fun _ => 0))), (q12, .inl (cA13, 9, .inl (fun _ => 0))), (q14, .inl (cA15, 3, .inl (fun _ => 0))), (q16, .inl (cA17, 3, .inl (fun _ => 0)))] H := hP
  have hD : va_D A [(h0, .inr (19, [.int 0, .int 0, .int 0, .int 0, .int 0, .int 0, .int 0, .ref q1, .ref q3, .ref q5, .ref q6, .ref q7, .ref q8, .ref q10, .ref q12, .ref q14, .ref q16, .int 0, .int 0, .int 0, .int 0, .int 0, .int 0, .long 0, .long 0, .long 0, .long 0, .int 0])), (q1, .inl (cA2, 2, .inl (fun _ => 0))), (q3, .inl (cA4, 2, .inl (fun _ => 0))), (q5, .inr (3, [.int 0, .ref (z 0), .int 0])), (q6, .inr (3, [.int 0, .ref (z 0), .int 0])), (q7, .inr (3, [.int 0, .ref (z 0), .int 0])), (q8, .inl (cA9, 9, .inl (fun _ => 0))), (q10, .inl (cA11, 9, .inl (fun _ => 0))), (q12, .inl (cA13, 9, .inl (fun _ => 0))), (q14, .inl (cA15, 3, .inl (fun _ => 0))), (q16, .inl (cA17, 3, .inl (fun _ => 0)))] := hD
  refine lv_iconst (v := 0) hx hb dX15_init_89 (by decide) ?_
  refine lv_istore_n (lv' := [(1, .int 0), (0, .ref h0)]) hx hb dX15_init_90 rfl hl (by decide) rfl (fun ls hl => ?_)
  refine lv_iload_n hx hb dX15_init_91 rfl (lv_at hl 0 rfl) ?_
  refine lv_bipush (v := 9) hx hb dX15_init_92 (by decide) ?_
  refine lv_icmp_ge (tgt := 112) hx hb dX15_init_94 (by decide) (fun c_ => absurd c_ (by decide +kernel)) (fun _ => ?_)
  refine lv_aload_n hx hb dX15_init_97 rfl (lv_at hl 1 rfl) ?_
  refine va_get (D := (dC, dI)) (ci := 19) (v := .ref q10) (C := RX15) (T := TX15) (N := 28) hx hb hts hiX15 hown hK hP 0 rfl rfl 13 (by decide) (hts (.fieldLink RX15 32 "SquareRigModel" "strength" "[I") (by decide +kernel)) (fun _ h9 => h9) rfl dX15_init_98 ?_
  refine lv_iload_n hx hb dX15_init_101 rfl (lv_at hl 0 rfl) ?_
  refine lv_sipush (v := 900) hx hb dX15_init_102 (by decide) ?_
  refine va_iast hx hb hK hP hD hS 7 3 rfl rfl (pk_in 0 9 (by decide) rfl) dX15_init_105 (fun H locs hP hD hS => ?_)
  have hP : va_P (dC, dI) vwCl [(h0, .inr (19, [.int 0, .int 0, .int 0, .int 0, .int 0, .int 0, .int 0, .ref q1, .ref q3, .ref q5, .ref q6, .ref q7, .ref q8, .ref q10, .ref q12, .ref q14, .ref q16, .int 0, .int 0, .int 0, .int 0, .int 0, .int 0, .long 0, .long 0, .long 0, .long 0, .int 0])), (q1, .inl (cA2, 2, .inl (fun _ => 0))), (q3, .inl (cA4, 2, .inl (fun _ => 0))), (q5, .inr (3, [.int 0, .ref (z 0), .int 0])), (q6, .inr (3, [.int 0, .ref (z 0), .int 0])), (q7, .inr (3, [.int 0, .ref (z 0), .int 0])), (q8, .inl (cA9, 9, .inl (fun _ => 0))), (q10, .inl (cA11, 9, .inl (upd (fun _ => 0) 0 900))), (q12, .inl (cA13, 9, .inl (fun _ => 0))), (q14, .inl (cA15, 3, .inl (fun _ => 0))), (q16, .inl (cA17, 3, .inl (fun _ => 0)))] H := hP
  have hD : va_D A [(h0, .inr (19, [.int 0, .int 0, .int 0, .int 0, .int 0, .int 0, .int 0, .ref q1, .ref q3, .ref q5, .ref q6, .ref q7, .ref q8, .ref q10, .ref q12, .ref q14, .ref q16, .int 0, .int 0, .int 0, .int 0, .int 0, .int 0, .long 0, .long 0, .long 0, .long 0, .int 0])), (q1, .inl (cA2, 2, .inl (fun _ => 0))), (q3, .inl (cA4, 2, .inl (fun _ => 0))), (q5, .inr (3, [.int 0, .ref (z 0), .int 0])), (q6, .inr (3, [.int 0, .ref (z 0), .int 0])), (q7, .inr (3, [.int 0, .ref (z 0), .int 0])), (q8, .inl (cA9, 9, .inl (fun _ => 0))), (q10, .inl (cA11, 9, .inl (upd (fun _ => 0) 0 900))), (q12, .inl (cA13, 9, .inl (fun _ => 0))), (q14, .inl (cA15, 3, .inl (fun _ => 0))), (q16, .inl (cA17, 3, .inl (fun _ => 0)))] := hD
  refine lv_iinc (v := 1) (lv' := [(1, .int 1), (0, .ref h0)]) hx hb dX15_init_106 hl (k := 0) rfl (by decide +kernel) (by decide) rfl (fun ls hl => ?_)
  refine lv_goto (tgt := 91) hx hb dX15_init_109 (by decide) ?_
  refine lv_iload_n hx hb dX15_init_91 rfl (lv_at hl 0 rfl) ?_
  refine lv_bipush (v := 9) hx hb dX15_init_92 (by decide) ?_
  refine lv_icmp_ge (tgt := 112) hx hb dX15_init_94 (by decide) (fun c_ => absurd c_ (by decide +kernel)) (fun _ => ?_)
  refine lv_aload_n hx hb dX15_init_97 rfl (lv_at hl 1 rfl) ?_
  refine va_get (D := (dC, dI)) (ci := 19) (v := .ref q10) (C := RX15) (T := TX15) (N := 28) hx hb hts hiX15 hown hK hP 0 rfl rfl 13 (by decide) (hts (.fieldLink RX15 32 "SquareRigModel" "strength" "[I") (by decide +kernel)) (fun _ h9 => h9) rfl dX15_init_98 ?_
  refine lv_iload_n hx hb dX15_init_101 rfl (lv_at hl 0 rfl) ?_
  refine lv_sipush (v := 900) hx hb dX15_init_102 (by decide) ?_
  refine va_iast hx hb hK hP hD hS 7 3 rfl rfl (pk_in 1 9 (by decide) rfl) dX15_init_105 (fun H locs hP hD hS => ?_)
  have hP : va_P (dC, dI) vwCl [(h0, .inr (19, [.int 0, .int 0, .int 0, .int 0, .int 0, .int 0, .int 0, .ref q1, .ref q3, .ref q5, .ref q6, .ref q7, .ref q8, .ref q10, .ref q12, .ref q14, .ref q16, .int 0, .int 0, .int 0, .int 0, .int 0, .int 0, .long 0, .long 0, .long 0, .long 0, .int 0])), (q1, .inl (cA2, 2, .inl (fun _ => 0))), (q3, .inl (cA4, 2, .inl (fun _ => 0))), (q5, .inr (3, [.int 0, .ref (z 0), .int 0])), (q6, .inr (3, [.int 0, .ref (z 0), .int 0])), (q7, .inr (3, [.int 0, .ref (z 0), .int 0])), (q8, .inl (cA9, 9, .inl (fun _ => 0))), (q10, .inl (cA11, 9, .inl (upd (upd (fun _ => 0) 0 900) 1 900))), (q12, .inl (cA13, 9, .inl (fun _ => 0))), (q14, .inl (cA15, 3, .inl (fun _ => 0))), (q16, .inl (cA17, 3, .inl (fun _ => 0)))] H := hP
  have hD : va_D A [(h0, .inr (19, [.int 0, .int 0, .int 0, .int 0, .int 0, .int 0, .int 0, .ref q1, .ref q3, .ref q5, .ref q6, .ref q7, .ref q8, .ref q10, .ref q12, .ref q14, .ref q16, .int 0, .int 0, .int 0, .int 0, .int 0, .int 0, .long 0, .long 0, .long 0, .long 0, .int 0])), (q1, .inl (cA2, 2, .inl (fun _ => 0))), (q3, .inl (cA4, 2, .inl (fun _ => 0))), (q5, .inr (3, [.int 0, .ref (z 0), .int 0])), (q6, .inr (3, [.int 0, .ref (z 0), .int 0])), (q7, .inr (3, [.int 0, .ref (z 0), .int 0])), (q8, .inl (cA9, 9, .inl (fun _ => 0))), (q10, .inl (cA11, 9, .inl (upd (upd (fun _ => 0) 0 900) 1 900))), (q12, .inl (cA13, 9, .inl (fun _ => 0))), (q14, .inl (cA15, 3, .inl (fun _ => 0))), (q16, .inl (cA17, 3, .inl (fun _ => 0)))] := hD
  refine lv_iinc (v := 2) (lv' := [(1, .int 2), (0, .ref h0)]) hx hb dX15_init_106 hl (k := 0) rfl (by decide +kernel) (by decide) rfl (fun ls hl => ?_)
  refine lv_goto (tgt := 91) hx hb dX15_init_109 (by decide) ?_
  refine lv_iload_n hx hb dX15_init_91 rfl (lv_at hl 0 rfl) ?_
  refine lv_bipush (v := 9) hx hb dX15_init_92 (by decide) ?_
  refine lv_icmp_ge (tgt := 112) hx hb dX15_init_94 (by decide) (fun c_ => absurd c_ (by decide +kernel)) (fun _ => ?_)
  refine lv_aload_n hx hb dX15_init_97 rfl (lv_at hl 1 rfl) ?_
  refine va_get (D := (dC, dI)) (ci := 19) (v := .ref q10) (C := RX15) (T := TX15) (N := 28) hx hb hts hiX15 hown hK hP 0 rfl rfl 13 (by decide) (hts (.fieldLink RX15 32 "SquareRigModel" "strength" "[I") (by decide +kernel)) (fun _ h9 => h9) rfl dX15_init_98 ?_
  refine lv_iload_n hx hb dX15_init_101 rfl (lv_at hl 0 rfl) ?_
  refine lv_sipush (v := 900) hx hb dX15_init_102 (by decide) ?_
  refine va_iast hx hb hK hP hD hS 7 3 rfl rfl (pk_in 2 9 (by decide) rfl) dX15_init_105 (fun H locs hP hD hS => ?_)
  have hP : va_P (dC, dI) vwCl [(h0, .inr (19, [.int 0, .int 0, .int 0, .int 0, .int 0, .int 0, .int 0, .ref q1, .ref q3, .ref q5, .ref q6, .ref q7, .ref q8, .ref q10, .ref q12, .ref q14, .ref q16, .int 0, .int 0, .int 0, .int 0, .int 0, .int 0, .long 0, .long 0, .long 0, .long 0, .int 0])), (q1, .inl (cA2, 2, .inl (fun _ => 0))), (q3, .inl (cA4, 2, .inl (fun _ => 0))), (q5, .inr (3, [.int 0, .ref (z 0), .int 0])), (q6, .inr (3, [.int 0, .ref (z 0), .int 0])), (q7, .inr (3, [.int 0, .ref (z 0), .int 0])), (q8, .inl (cA9, 9, .inl (fun _ => 0))), (q10, .inl (cA11, 9, .inl (upd (upd (upd (fun _ => 0) 0 900) 1 900) 2 900))), (q12, .inl (cA13, 9, .inl (fun _ => 0))), (q14, .inl (cA15, 3, .inl (fun _ => 0))), (q16, .inl (cA17, 3, .inl (fun _ => 0)))] H := hP
  have hD : va_D A [(h0, .inr (19, [.int 0, .int 0, .int 0, .int 0, .int 0, .int 0, .int 0, .ref q1, .ref q3, .ref q5, .ref q6, .ref q7, .ref q8, .ref q10, .ref q12, .ref q14, .ref q16, .int 0, .int 0, .int 0, .int 0, .int 0, .int 0, .long 0, .long 0, .long 0, .long 0, .int 0])), (q1, .inl (cA2, 2, .inl (fun _ => 0))), (q3, .inl (cA4, 2, .inl (fun _ => 0))), (q5, .inr (3, [.int 0, .ref (z 0), .int 0])), (q6, .inr (3, [.int 0, .ref (z 0), .int 0])), (q7, .inr (3, [.int 0, .ref (z 0), .int 0])), (q8, .inl (cA9, 9, .inl (fun _ => 0))), (q10, .inl (cA11, 9, .inl (upd (upd (upd (fun _ => 0) 0 900) 1 900) 2 900))), (q12, .inl (cA13, 9, .inl (fun _ => 0))), (q14, .inl (cA15, 3, .inl (fun _ => 0))), (q16, .inl (cA17, 3, .inl (fun _ => 0)))] := hD
  refine lv_iinc (v := 3) (lv' := [(1, .int 3), (0, .ref h0)]) hx hb dX15_init_106 hl (k := 0) rfl (by decide +kernel) (by decide) rfl (fun ls hl => ?_)
  refine lv_goto (tgt := 91) hx hb dX15_init_109 (by decide) ?_
  refine lv_iload_n hx hb dX15_init_91 rfl (lv_at hl 0 rfl) ?_
  refine lv_bipush (v := 9) hx hb dX15_init_92 (by decide) ?_
  refine lv_icmp_ge (tgt := 112) hx hb dX15_init_94 (by decide) (fun c_ => absurd c_ (by decide +kernel)) (fun _ => ?_)
  refine lv_aload_n hx hb dX15_init_97 rfl (lv_at hl 1 rfl) ?_
  refine va_get (D := (dC, dI)) (ci := 19) (v := .ref q10) (C := RX15) (T := TX15) (N := 28) hx hb hts hiX15 hown hK hP 0 rfl rfl 13 (by decide) (hts (.fieldLink RX15 32 "SquareRigModel" "strength" "[I") (by decide +kernel)) (fun _ h9 => h9) rfl dX15_init_98 ?_
  refine lv_iload_n hx hb dX15_init_101 rfl (lv_at hl 0 rfl) ?_
  refine lv_sipush (v := 900) hx hb dX15_init_102 (by decide) ?_
  refine va_iast hx hb hK hP hD hS 7 3 rfl rfl (pk_in 3 9 (by decide) rfl) dX15_init_105 (fun H locs hP hD hS => ?_)
  have hP : va_P (dC, dI) vwCl [(h0, .inr (19, [.int 0, .int 0, .int 0, .int 0, .int 0, .int 0, .int 0, .ref q1, .ref q3, .ref q5, .ref q6, .ref q7, .ref q8, .ref q10, .ref q12, .ref q14, .ref q16, .int 0, .int 0, .int 0, .int 0, .int 0, .int 0, .long 0, .long 0, .long 0, .long 0, .int 0])), (q1, .inl (cA2, 2, .inl (fun _ => 0))), (q3, .inl (cA4, 2, .inl (fun _ => 0))), (q5, .inr (3, [.int 0, .ref (z 0), .int 0])), (q6, .inr (3, [.int 0, .ref (z 0), .int 0])), (q7, .inr (3, [.int 0, .ref (z 0), .int 0])), (q8, .inl (cA9, 9, .inl (fun _ => 0))), (q10, .inl (cA11, 9, .inl (upd (upd (upd (upd (fun _ => 0) 0 900) 1 900) 2 900) 3 900))), (q12, .inl (cA13, 9, .inl (fun _ => 0))), (q14, .inl (cA15, 3, .inl (fun _ => 0))), (q16, .inl (cA17, 3, .inl (fun _ => 0)))] H := hP
  have hD : va_D A [(h0, .inr (19, [.int 0, .int 0, .int 0, .int 0, .int 0, .int 0, .int 0, .ref q1, .ref q3, .ref q5, .ref q6, .ref q7, .ref q8, .ref q10, .ref q12, .ref q14, .ref q16, .int 0, .int 0, .int 0, .int 0, .int 0, .int 0, .long 0, .long 0, .long 0, .long 0, .int 0])), (q1, .inl (cA2, 2, .inl (fun _ => 0))), (q3, .inl (cA4, 2, .inl (fun _ => 0))), (q5, .inr (3, [.int 0, .ref (z 0), .int 0])), (q6, .inr (3, [.int 0, .ref (z 0), .int 0])), (q7, .inr (3, [.int 0, .ref (z 0), .int 0])), (q8, .inl (cA9, 9, .inl (fun _ => 0))), (q10, .inl (cA11, 9, .inl (upd (upd (upd (upd (fun _ => 0) 0 900) 1 900) 2 900) 3 900))), (q12, .inl (cA13, 9, .inl (fun _ => 0))), (q14, .inl (cA15, 3, .inl (fun _ => 0))), (q16, .inl (cA17, 3, .inl (fun _ => 0)))] := hD
  refine lv_iinc (v := 4) (lv' := [(1, .int 4), (0, .ref h0)]) hx hb dX15_init_106 hl (k := 0) rfl (by decide +kernel) (by decide) rfl (fun ls hl => ?_)
  refine lv_goto (tgt := 91) hx hb dX15_init_109 (by decide) ?_
  refine lv_iload_n hx hb dX15_init_91 rfl (lv_at hl 0 rfl) ?_
  refine lv_bipush (v := 9) hx hb dX15_init_92 (by decide) ?_
  refine lv_icmp_ge (tgt := 112) hx hb dX15_init_94 (by decide) (fun c_ => absurd c_ (by decide +kernel)) (fun _ => ?_)
  refine lv_aload_n hx hb dX15_init_97 rfl (lv_at hl 1 rfl) ?_
  refine va_get (D := (dC, dI)) (ci := 19) (v := .ref q10) (C := RX15) (T := TX15) (N := 28) hx hb hts hiX15 hown hK hP 0 rfl rfl 13 (by decide) (hts (.fieldLink RX15 32 "SquareRigModel" "strength" "[I") (by decide +kernel)) (fun _ h9 => h9) rfl dX15_init_98 ?_
  refine lv_iload_n hx hb dX15_init_101 rfl (lv_at hl 0 rfl) ?_
  refine lv_sipush (v := 900) hx hb dX15_init_102 (by decide) ?_
  refine va_iast hx hb hK hP hD hS 7 3 rfl rfl (pk_in 4 9 (by decide) rfl) dX15_init_105 (fun H locs hP hD hS => ?_)
  have hP : va_P (dC, dI) vwCl [(h0, .inr (19, [.int 0, .int 0, .int 0, .int 0, .int 0, .int 0, .int 0, .ref q1, .ref q3, .ref q5, .ref q6, .ref q7, .ref q8, .ref q10, .ref q12, .ref q14, .ref q16, .int 0, .int 0, .int 0, .int 0, .int 0, .int 0, .long 0, .long 0, .long 0, .long 0, .int 0])), (q1, .inl (cA2, 2, .inl (fun _ => 0))), (q3, .inl (cA4, 2, .inl (fun _ => 0))), (q5, .inr (3, [.int 0, .ref (z 0), .int 0])), (q6, .inr (3, [.int 0, .ref (z 0), .int 0])), (q7, .inr (3, [.int 0, .ref (z 0), .int 0])), (q8, .inl (cA9, 9, .inl (fun _ => 0))), (q10, .inl (cA11, 9, .inl (upd (upd (upd (upd (upd (fun _ => 0) 0 900) 1 900) 2 900) 3 900) 4 900))), (q12, .inl (cA13, 9, .inl (fun _ => 0))), (q14, .inl (cA15, 3, .inl (fun _ => 0))), (q16, .inl (cA17, 3, .inl (fun _ => 0)))] H := hP
  have hD : va_D A [(h0, .inr (19, [.int 0, .int 0, .int 0, .int 0, .int 0, .int 0, .int 0, .ref q1, .ref q3, .ref q5, .ref q6, .ref q7, .ref q8, .ref q10, .ref q12, .ref q14, .ref q16, .int 0, .int 0, .int 0, .int 0, .int 0, .int 0, .long 0, .long 0, .long 0, .long 0, .int 0])), (q1, .inl (cA2, 2, .inl (fun _ => 0))), (q3, .inl (cA4, 2, .inl (fun _ => 0))), (q5, .inr (3, [.int 0, .ref (z 0), .int 0])), (q6, .inr (3, [.int 0, .ref (z 0), .int 0])), (q7, .inr (3, [.int 0, .ref (z 0), .int 0])), (q8, .inl (cA9, 9, .inl (fun _ => 0))), (q10, .inl (cA11, 9, .inl (upd (upd (upd (upd (upd (fun _ => 0) 0 900) 1 900) 2 900) 3 900) 4 900))), (q12, .inl (cA13, 9, .inl (fun _ => 0))), (q14, .inl (cA15, 3, .inl (fun _ => 0))), (q16, .inl (cA17, 3, .inl (fun _ => 0)))] := hD
  refine lv_iinc (v := 5) (lv' := [(1, .int 5), (0, .ref h0)]) hx hb dX15_init_106 hl (k := 0) rfl (by decide +kernel) (by decide) rfl (fun ls hl => ?_)
  refine lv_goto (tgt := 91) hx hb dX15_init_109 (by decide) ?_
  refine lv_iload_n hx hb dX15_init_91 rfl (lv_at hl 0 rfl) ?_
  refine lv_bipush (v := 9) hx hb dX15_init_92 (by decide) ?_
  refine lv_icmp_ge (tgt := 112) hx hb dX15_init_94 (by decide) (fun c_ => absurd c_ (by decide +kernel)) (fun _ => ?_)
  refine lv_aload_n hx hb dX15_init_97 rfl (lv_at hl 1 rfl) ?_
  refine va_get (D := (dC, dI)) (ci := 19) (v := .ref q10) (C := RX15) (T := TX15) (N := 28) hx hb hts hiX15 hown hK hP 0 rfl rfl 13 (by decide) (hts (.fieldLink RX15 32 "SquareRigModel" "strength" "[I") (by decide +kernel)) (fun _ h9 => h9) rfl dX15_init_98 ?_
  refine lv_iload_n hx hb dX15_init_101 rfl (lv_at hl 0 rfl) ?_
  refine lv_sipush (v := 900) hx hb dX15_init_102 (by decide) ?_
  refine va_iast hx hb hK hP hD hS 7 3 rfl rfl (pk_in 5 9 (by decide) rfl) dX15_init_105 (fun H locs hP hD hS => ?_)
  have hP : va_P (dC, dI) vwCl [(h0, .inr (19, [.int 0, .int 0, .int 0, .int 0, .int 0, .int 0, .int 0, .ref q1, .ref q3, .ref q5, .ref q6, .ref q7, .ref q8, .ref q10, .ref q12, .ref q14, .ref q16, .int 0, .int 0, .int 0, .int 0, .int 0, .int 0, .long 0, .long 0, .long 0, .long 0, .int 0])), (q1, .inl (cA2, 2, .inl (fun _ => 0))), (q3, .inl (cA4, 2, .inl (fun _ => 0))), (q5, .inr (3, [.int 0, .ref (z 0), .int 0])), (q6, .inr (3, [.int 0, .ref (z 0), .int 0])), (q7, .inr (3, [.int 0, .ref (z 0), .int 0])), (q8, .inl (cA9, 9, .inl (fun _ => 0))), (q10, .inl (cA11, 9, .inl (upd (upd (upd (upd (upd (upd (fun _ => 0) 0 900) 1 900) 2 900) 3 900) 4 900) 5 900))), (q12, .inl (cA13, 9, .inl (fun _ => 0))), (q14, .inl (cA15, 3, .inl (fun _ => 0))), (q16, .inl (cA17, 3, .inl (fun _ => 0)))] H := hP
  have hD : va_D A [(h0, .inr (19, [.int 0, .int 0, .int 0, .int 0, .int 0, .int 0, .int 0, .ref q1, .ref q3, .ref q5, .ref q6, .ref q7, .ref q8, .ref q10, .ref q12, .ref q14, .ref q16, .int 0, .int 0, .int 0, .int 0, .int 0, .int 0, .long 0, .long 0, .long 0, .long 0, .int 0])), (q1, .inl (cA2, 2, .inl (fun _ => 0))), (q3, .inl (cA4, 2, .inl (fun _ => 0))), (q5, .inr (3, [.int 0, .ref (z 0), .int 0])), (q6, .inr (3, [.int 0, .ref (z 0), .int 0])), (q7, .inr (3, [.int 0, .ref (z 0), .int 0])), (q8, .inl (cA9, 9, .inl (fun _ => 0))), (q10, .inl (cA11, 9, .inl (upd (upd (upd (upd (upd (upd (fun _ => 0) 0 900) 1 900) 2 900) 3 900) 4 900) 5 900))), (q12, .inl (cA13, 9, .inl (fun _ => 0))), (q14, .inl (cA15, 3, .inl (fun _ => 0))), (q16, .inl (cA17, 3, .inl (fun _ => 0)))] := hD
  refine lv_iinc (v := 6) (lv' := [(1, .int 6), (0, .ref h0)]) hx hb dX15_init_106 hl (k := 0) rfl (by decide +kernel) (by decide) rfl (fun ls hl => ?_)
  refine lv_goto (tgt := 91) hx hb dX15_init_109 (by decide) ?_
  refine lv_iload_n hx hb dX15_init_91 rfl (lv_at hl 0 rfl) ?_
  refine lv_bipush (v := 9) hx hb dX15_init_92 (by decide) ?_
  refine lv_icmp_ge (tgt := 112) hx hb dX15_init_94 (by decide) (fun c_ => absurd c_ (by decide +kernel)) (fun _ => ?_)
  refine lv_aload_n hx hb dX15_init_97 rfl (lv_at hl 1 rfl) ?_
  refine va_get (D := (dC, dI)) (ci := 19) (v := .ref q10) (C := RX15) (T := TX15) (N := 28) hx hb hts hiX15 hown hK hP 0 rfl rfl 13 (by decide) (hts (.fieldLink RX15 32 "SquareRigModel" "strength" "[I") (by decide +kernel)) (fun _ h9 => h9) rfl dX15_init_98 ?_
  refine lv_iload_n hx hb dX15_init_101 rfl (lv_at hl 0 rfl) ?_
  refine lv_sipush (v := 900) hx hb dX15_init_102 (by decide) ?_
  refine va_iast hx hb hK hP hD hS 7 3 rfl rfl (pk_in 6 9 (by decide) rfl) dX15_init_105 (fun H locs hP hD hS => ?_)
  have hP : va_P (dC, dI) vwCl [(h0, .inr (19, [.int 0, .int 0, .int 0, .int 0, .int 0, .int 0, .int 0, .ref q1, .ref q3, .ref q5, .ref q6, .ref q7, .ref q8, .ref q10, .ref q12, .ref q14, .ref q16, .int 0, .int 0, .int 0, .int 0, .int 0, .int 0, .long 0, .long 0, .long 0, .long 0, .int 0])), (q1, .inl (cA2, 2, .inl (fun _ => 0))), (q3, .inl (cA4, 2, .inl (fun _ => 0))), (q5, .inr (3, [.int 0, .ref (z 0), .int 0])), (q6, .inr (3, [.int 0, .ref (z 0), .int 0])), (q7, .inr (3, [.int 0, .ref (z 0), .int 0])), (q8, .inl (cA9, 9, .inl (fun _ => 0))), (q10, .inl (cA11, 9, .inl (upd (upd (upd (upd (upd (upd (upd (fun _ => 0) 0 900) 1 900) 2 900) 3 900) 4 900) 5 900) 6 900))), (q12, .inl (cA13, 9, .inl (fun _ => 0))), (q14, .inl (cA15, 3, .inl (fun _ => 0))), (q16, .inl (cA17, 3, .inl (fun _ => 0)))] H := hP
  have hD : va_D A [(h0, .inr (19, [.int 0, .int 0, .int 0, .int 0, .int 0, .int 0, .int 0, .ref q1, .ref q3, .ref q5, .ref q6, .ref q7, .ref q8, .ref q10, .ref q12, .ref q14, .ref q16, .int 0, .int 0, .int 0, .int 0, .int 0, .int 0, .long 0, .long 0, .long 0, .long 0, .int 0])), (q1, .inl (cA2, 2, .inl (fun _ => 0))), (q3, .inl (cA4, 2, .inl (fun _ => 0))), (q5, .inr (3, [.int 0, .ref (z 0), .int 0])), (q6, .inr (3, [.int 0, .ref (z 0), .int 0])), (q7, .inr (3, [.int 0, .ref (z 0), .int 0])), (q8, .inl (cA9, 9, .inl (fun _ => 0))), (q10, .inl (cA11, 9, .inl (upd (upd (upd (upd (upd (upd (upd (fun _ => 0) 0 900) 1 900) 2 900) 3 900) 4 900) 5 900) 6 900))), (q12, .inl (cA13, 9, .inl (fun _ => 0))), (q14, .inl (cA15, 3, .inl (fun _ => 0))), (q16, .inl (cA17, 3, .inl (fun _ => 0)))] := hD
  refine lv_iinc (v := 7) (lv' := [(1, .int 7), (0, .ref h0)]) hx hb dX15_init_106 hl (k := 0) rfl (by decide +kernel) (by decide) rfl (fun ls hl => ?_)
  refine lv_goto (tgt := 91) hx hb dX15_init_109 (by decide) ?_
  refine lv_iload_n hx hb dX15_init_91 rfl (lv_at hl 0 rfl) ?_
  refine lv_bipush (v := 9) hx hb dX15_init_92 (by decide) ?_
  refine lv_icmp_ge (tgt := 112) hx hb dX15_init_94 (by decide) (fun c_ => absurd c_ (by decide +kernel)) (fun _ => ?_)
  refine lv_aload_n hx hb dX15_init_97 rfl (lv_at hl 1 rfl) ?_
  refine va_get (D := (dC, dI)) (ci := 19) (v := .ref q10) (C := RX15) (T := TX15) (N := 28) hx hb hts hiX15 hown hK hP 0 rfl rfl 13 (by decide) (hts (.fieldLink RX15 32 "SquareRigModel" "strength" "[I") (by decide +kernel)) (fun _ h9 => h9) rfl dX15_init_98 ?_
  refine lv_iload_n hx hb dX15_init_101 rfl (lv_at hl 0 rfl) ?_
  refine lv_sipush (v := 900) hx hb dX15_init_102 (by decide) ?_
  refine va_iast hx hb hK hP hD hS 7 3 rfl rfl (pk_in 7 9 (by decide) rfl) dX15_init_105 (fun H locs hP hD hS => ?_)
  have hP : va_P (dC, dI) vwCl [(h0, .inr (19, [.int 0, .int 0, .int 0, .int 0, .int 0, .int 0, .int 0, .ref q1, .ref q3, .ref q5, .ref q6, .ref q7, .ref q8, .ref q10, .ref q12, .ref q14, .ref q16, .int 0, .int 0, .int 0, .int 0, .int 0, .int 0, .long 0, .long 0, .long 0, .long 0, .int 0])), (q1, .inl (cA2, 2, .inl (fun _ => 0))), (q3, .inl (cA4, 2, .inl (fun _ => 0))), (q5, .inr (3, [.int 0, .ref (z 0), .int 0])), (q6, .inr (3, [.int 0, .ref (z 0), .int 0])), (q7, .inr (3, [.int 0, .ref (z 0), .int 0])), (q8, .inl (cA9, 9, .inl (fun _ => 0))), (q10, .inl (cA11, 9, .inl (upd (upd (upd (upd (upd (upd (upd (upd (fun _ => 0) 0 900) 1 900) 2 900) 3 900) 4 900) 5 900) 6 900) 7 900))), (q12, .inl (cA13, 9, .inl (fun _ => 0))), (q14, .inl (cA15, 3, .inl (fun _ => 0))), (q16, .inl (cA17, 3, .inl (fun _ => 0)))] H := hP
  have hD : va_D A [(h0, .inr (19, [.int 0, .int 0, .int 0, .int 0, .int 0, .int 0, .int 0, .ref q1, .ref q3, .ref q5, .ref q6, .ref q7, .ref q8, .ref q10, .ref q12, .ref q14, .ref q16, .int 0, .int 0, .int 0, .int 0, .int 0, .int 0, .long 0, .long 0, .long 0, .long 0, .int 0])), (q1, .inl (cA2, 2, .inl (fun _ => 0))), (q3, .inl (cA4, 2, .inl (fun _ => 0))), (q5, .inr (3, [.int 0, .ref (z 0), .int 0])), (q6, .inr (3, [.int 0, .ref (z 0), .int 0])), (q7, .inr (3, [.int 0, .ref (z 0), .int 0])), (q8, .inl (cA9, 9, .inl (fun _ => 0))), (q10, .inl (cA11, 9, .inl (upd (upd (upd (upd (upd (upd (upd (upd (fun _ => 0) 0 900) 1 900) 2 900) 3 900) 4 900) 5 900) 6 900) 7 900))), (q12, .inl (cA13, 9, .inl (fun _ => 0))), (q14, .inl (cA15, 3, .inl (fun _ => 0))), (q16, .inl (cA17, 3, .inl (fun _ => 0)))] := hD
  refine lv_iinc (v := 8) (lv' := [(1, .int 8), (0, .ref h0)]) hx hb dX15_init_106 hl (k := 0) rfl (by decide +kernel) (by decide) rfl (fun ls hl => ?_)
  refine lv_goto (tgt := 91) hx hb dX15_init_109 (by decide) ?_
  refine lv_iload_n hx hb dX15_init_91 rfl (lv_at hl 0 rfl) ?_
  refine lv_bipush (v := 9) hx hb dX15_init_92 (by decide) ?_
  refine lv_icmp_ge (tgt := 112) hx hb dX15_init_94 (by decide) (fun c_ => absurd c_ (by decide +kernel)) (fun _ => ?_)
  refine lv_aload_n hx hb dX15_init_97 rfl (lv_at hl 1 rfl) ?_
  refine va_get (D := (dC, dI)) (ci := 19) (v := .ref q10) (C := RX15) (T := TX15) (N := 28) hx hb hts hiX15 hown hK hP 0 rfl rfl 13 (by decide) (hts (.fieldLink RX15 32 "SquareRigModel" "strength" "[I") (by decide +kernel)) (fun _ h9 => h9) rfl dX15_init_98 ?_
  refine lv_iload_n hx hb dX15_init_101 rfl (lv_at hl 0 rfl) ?_
  refine lv_sipush (v := 900) hx hb dX15_init_102 (by decide) ?_
  refine va_iast hx hb hK hP hD hS 7 3 rfl rfl (pk_in 8 9 (by decide) rfl) dX15_init_105 (fun H locs hP hD hS => ?_)
  have hP : va_P (dC, dI) vwCl [(h0, .inr (19, [.int 0, .int 0, .int 0, .int 0, .int 0, .int 0, .int 0, .ref q1, .ref q3, .ref q5, .ref q6, .ref q7, .ref q8, .ref q10, .ref q12, .ref q14, .ref q16, .int 0, .int 0, .int 0, .int 0, .int 0, .int 0, .long 0, .long 0, .long 0, .long 0, .int 0])), (q1, .inl (cA2, 2, .inl (fun _ => 0))), (q3, .inl (cA4, 2, .inl (fun _ => 0))), (q5, .inr (3, [.int 0, .ref (z 0), .int 0])), (q6, .inr (3, [.int 0, .ref (z 0), .int 0])), (q7, .inr (3, [.int 0, .ref (z 0), .int 0])), (q8, .inl (cA9, 9, .inl (fun _ => 0))), (q10, .inl (cA11, 9, .inl (upd (upd (upd (upd (upd (upd (upd (upd (upd (fun _ => 0) 0 900) 1 900) 2 900) 3 900) 4 900) 5 900) 6 900) 7 900) 8 900))), (q12, .inl (cA13, 9, .inl (fun _ => 0))), (q14, .inl (cA15, 3, .inl (fun _ => 0))), (q16, .inl (cA17, 3, .inl (fun _ => 0)))] H := hP
  have hD : va_D A [(h0, .inr (19, [.int 0, .int 0, .int 0, .int 0, .int 0, .int 0, .int 0, .ref q1, .ref q3, .ref q5, .ref q6, .ref q7, .ref q8, .ref q10, .ref q12, .ref q14, .ref q16, .int 0, .int 0, .int 0, .int 0, .int 0, .int 0, .long 0, .long 0, .long 0, .long 0, .int 0])), (q1, .inl (cA2, 2, .inl (fun _ => 0))), (q3, .inl (cA4, 2, .inl (fun _ => 0))), (q5, .inr (3, [.int 0, .ref (z 0), .int 0])), (q6, .inr (3, [.int 0, .ref (z 0), .int 0])), (q7, .inr (3, [.int 0, .ref (z 0), .int 0])), (q8, .inl (cA9, 9, .inl (fun _ => 0))), (q10, .inl (cA11, 9, .inl (upd (upd (upd (upd (upd (upd (upd (upd (upd (fun _ => 0) 0 900) 1 900) 2 900) 3 900) 4 900) 5 900) 6 900) 7 900) 8 900))), (q12, .inl (cA13, 9, .inl (fun _ => 0))), (q14, .inl (cA15, 3, .inl (fun _ => 0))), (q16, .inl (cA17, 3, .inl (fun _ => 0)))] := hD
  refine lv_iinc (v := 9) (lv' := [(1, .int 9), (0, .ref h0)]) hx hb dX15_init_106 hl (k := 0) rfl (by decide +kernel) (by decide) rfl (fun ls hl => ?_)
  refine lv_goto (tgt := 91) hx hb dX15_init_109 (by decide) ?_
  refine lv_iload_n hx hb dX15_init_91 rfl (lv_at hl 0 rfl) ?_
  refine lv_bipush (v := 9) hx hb dX15_init_92 (by decide) ?_
  refine lv_icmp_ge (tgt := 112) hx hb dX15_init_94 (by decide) (fun _ => ?_) (fun c_ => absurd (by decide +kernel) c_)
  refine W.widen (k := 10) (n := 46) (Nat.le_of_ble_eq_true rfl) (Nat.le_of_ble_eq_true rfl) ?_
  exact W.vret hx hb hr (fun t ht hW => ⟨⟨(), rfl, trivial, ⟨q1, q3, q5, q6, q7, q8, q10, q12, q14, q16, cA2, cA4, cA9, cA11, cA13, cA15, cA17, kB_end (w9 := [(h0, .inr (19, [.int 0, .int 0, .int 0, .int 0, .int 0, .int 0, .int 0, .ref q1, .ref q3, .ref q5, .ref q6, .ref q7, .ref q8, .ref q10, .ref q12, .ref q14, .ref q16, .int 0, .int 0, .int 0, .int 0, .int 0, .int 0, .long 0, .long 0, .long 0, .long 0, .int 0])), (q1, .inl (cA2, 2, .inl (fun _ => 0))), (q3, .inl (cA4, 2, .inl (fun _ => 0))), (q5, .inr (3, [.int 0, .ref (z 0), .int 0])), (q6, .inr (3, [.int 0, .ref (z 0), .int 0])), (q7, .inr (3, [.int 0, .ref (z 0), .int 0])), (q8, .inl (cA9, 9, .inl (fun _ => 0))), (q10, .inl (cA11, 9, .inl (upd (upd (upd (upd (upd (upd (upd (upd (upd (fun _ => 0) 0 900) 1 900) 2 900) 3 900) 4 900) 5 900) 6 900) 7 900) 8 900))), (q12, .inl (cA13, 9, .inl (fun _ => 0))), (q14, .inl (cA15, 3, .inl (fun _ => 0))), (q16, .inl (cA17, 3, .inl (fun _ => 0)))]) (t9 := [(cA2, .int), (cA4, .int), (cA9, .int), (cA11, .int), (cA13, .boolean), (cA15, .int), (cA17, .boolean)]) hP hK hD [0, 1, 2, 3, 4, 5, 6, 7, 8, 9, 10] [0, 1, 2, 3, 4, 5, 6] rfl (by decide) rfl rfl t ht hW⟩⟩, hS.F ht⟩) hS.2.2 dX15_init_112
abbrev wd_k_lchk3_0 (_z : Nat → Nat) : va_W := []
set_option maxHeartbeats 4000000 in
set_option maxRecDepth 100000 in
theorem k_lchk3_0 (l : Launch) (dC : Nat → ClassId) (dI : Nat → Nat → Nat) (z zK zV : Nat → Nat)  (sz : Nat)  : Met l yJ3_checkIndex_8e157 wsJ3_checkIndex_8e157 ({ frames := 0, cells := 0, slots := 0, locals := 0 }) (kP dC dI z zK zV [.int 0, .int 9, .null] sz (wd_k_lchk3_0 z) []) (va_Qi (fun (r : Int32) (_ : Unit) => 0 = r) (fun _ t => kB (dC, dI) (va_A (wd_k_lchk3_0 z) sz) [] [] t) (va_A (wd_k_lchk3_0 z) sz)) 0 0 (va_A (wd_k_lchk3_0 z) sz) := by
  refine Met.ofW (cc := cJ3_checkIndex_8e157) (maxL := 3) (ret := (some .int)) (by decide) rfl ?_
  intro p e s m args below meth c s₁ B hml hv
  obtain ⟨rfl, hsz, hP, hK, hD0, hM⟩ := hv
  have hx := B.exec
  have hb := B.bytes
  have hr := B.returns
  have hts := atoms_spec (ws := wsJ3_checkIndex_8e157) B.pre
  have hown : s.vm.findClass RJ3 = some m.cls := findClass_of_methodNamed B.named
  have hlocks := B.notSynchronized
  subst hsz
  have hD := hD0.self (sz := s.heap.size)
  generalize hAe : va_A (wd_k_lchk3_0 z) s.heap.size = A at hD hM ⊢
  have hA : ∀ q : Nat, s.heap.size ≤ q → A q := fun q h => by rw [← hAe]; exact Or.inr h
  have hS : va_S A s.heap s.heap [] := va_S.rf
  have hP : va_P (dC, dI) vwCl [] s.heap := hP
  have hD : va_D A [] := hD
  have hl := lv_entry ([.int 0, .int 9, .null]) (n := 3) (Nat.le_of_ble_eq_true rfl)
  rw [lg_entry_eq]
  generalize (lg_sl ([.int 0, .int 9, .null]) ++ List.replicate (3 - (lg_sl ([.int 0, .int 9, .null])).length) Slot.unset).toArray = ls at hl ⊢
  have hl : lv_has ls 3 [(0, .int 0), (1, .int 9), (2, .null)] := hl
  refine lv_iload_n hx hb dJ3_checkIndex_8e157_0 rfl (lv_at hl 0 rfl) ?_
  refine lv_if_lt (tgt := 9) hx hb dJ3_checkIndex_8e157_1 (by decide) (fun c_ => absurd c_ (by decide +kernel)) (fun _ => ?_)
  refine lv_iload_n hx hb dJ3_checkIndex_8e157_4 rfl (lv_at hl 0 rfl) ?_
  refine lv_iload_n hx hb dJ3_checkIndex_8e157_5 rfl (lv_at hl 1 rfl) ?_
  refine lv_icmp_lt (tgt := 16) hx hb dJ3_checkIndex_8e157_6 (by decide) (fun _ => ?_) (fun c_ => absurd (by decide +kernel) c_)
  refine lv_iload_n hx hb dJ3_checkIndex_8e157_16 rfl (lv_at hl 0 rfl) ?_
  exact W.iret (v := 0) hx hb hr (fun t ht hW => ⟨⟨0, (), rfl, rfl, kB_end (w9 := []) (t9 := []) hP hK hD [] [] rfl (by decide) rfl rfl t ht hW⟩, hS.F ht⟩) hS.2.2 dJ3_checkIndex_8e157_17
abbrev wd_k_lchkR_0 (z : Nat → Nat) (f0 : Nat) : va_W := []
set_option maxHeartbeats 4000000 in
set_option maxRecDepth 100000 in
theorem k_lchkR_0 (l : Launch) (dC : Nat → ClassId) (dI : Nat → Nat → Nat) (z zK zV : Nat → Nat) (f0 : Nat) (sz : Nat)  : Met l yJ3_checkIndex_8e157 wsJ3_checkIndex_8e157 ({ frames := 0, cells := 0, slots := 0, locals := 0 }) (kP dC dI z zK zV [.int 0, .int 9, .ref f0] sz (wd_k_lchkR_0 z f0) []) (va_Qi (fun (r : Int32) (_ : Unit) => 0 = r) (fun _ t => kB (dC, dI) (va_A (wd_k_lchkR_0 z f0) sz) [] [] t) (va_A (wd_k_lchkR_0 z f0) sz)) 0 0 (va_A (wd_k_lchkR_0 z f0) sz) := by
  refine Met.ofW (cc := cJ3_checkIndex_8e157) (maxL := 3) (ret := (some .int)) (by decide) rfl ?_
  intro p e s m args below meth c s₁ B hml hv
  obtain ⟨rfl, hsz, hP, hK, hD0, hM⟩ := hv
  have hx := B.exec
  have hb := B.bytes
  have hr := B.returns
  have hts := atoms_spec (ws := wsJ3_checkIndex_8e157) B.pre
  have hown : s.vm.findClass RJ3 = some m.cls := findClass_of_methodNamed B.named
  have hlocks := B.notSynchronized
  subst hsz
  have hD := hD0.self (sz := s.heap.size)
  generalize hAe : va_A (wd_k_lchkR_0 z f0) s.heap.size = A at hD hM ⊢
  have hA : ∀ q : Nat, s.heap.size ≤ q → A q := fun q h => by rw [← hAe]; exact Or.inr h
  have hS : va_S A s.heap s.heap [] := va_S.rf
  have hP : va_P (dC, dI) vwCl [] s.heap := hP
  have hD : va_D A [] := hD
  have hl := lv_entry ([.int 0, .int 9, .ref f0]) (n := 3) (Nat.le_of_ble_eq_true rfl)
  rw [lg_entry_eq]
  generalize (lg_sl ([.int 0, .int 9, .ref f0]) ++ List.replicate (3 - (lg_sl ([.int 0, .int 9, .ref f0])).length) Slot.unset).toArray = ls at hl ⊢
  have hl : lv_has ls 3 [(0, .int 0), (1, .int 9), (2, .ref f0)] := hl
  refine lv_iload_n hx hb dJ3_checkIndex_8e157_0 rfl (lv_at hl 0 rfl) ?_
  refine lv_if_lt (tgt := 9) hx hb dJ3_checkIndex_8e157_1 (by decide) (fun c_ => absurd c_ (by decide +kernel)) (fun _ => ?_)
  refine lv_iload_n hx hb dJ3_checkIndex_8e157_4 rfl (lv_at hl 0 rfl) ?_
  refine lv_iload_n hx hb dJ3_checkIndex_8e157_5 rfl (lv_at hl 1 rfl) ?_
  refine lv_icmp_lt (tgt := 16) hx hb dJ3_checkIndex_8e157_6 (by decide) (fun _ => ?_) (fun c_ => absurd (by decide +kernel) c_)
  refine lv_iload_n hx hb dJ3_checkIndex_8e157_16 rfl (lv_at hl 0 rfl) ?_
  exact W.iret (v := 0) hx hb hr (fun t ht hW => ⟨⟨0, (), rfl, rfl, kB_end (w9 := []) (t9 := []) hP hK hD [] [] rfl (by decide) rfl rfl t ht hW⟩, hS.F ht⟩) hS.2.2 dJ3_checkIndex_8e157_17
abbrev wd_k_schk_0 (_z : Nat → Nat) : va_W := []
set_option maxHeartbeats 4000000 in
set_option maxRecDepth 100000 in
theorem k_schk_0 (l : Launch) (dC : Nat → ClassId) (dI : Nat → Nat → Nat) (z zK zV : Nat → Nat)  (sz : Nat)  : Met l yJ0_checkIndex_df160 wsJ0_checkIndex_df160 ({ frames := 1, cells := 0, slots := 0, locals := 22 }) (kP dC dI z zK zV [.int 0, .int 9] sz (wd_k_schk_0 z) []) (va_Qv (fun _ : Unit => True) (fun _ t => kB (dC, dI) (va_A (wd_k_schk_0 z) sz) [] [] t) (va_A (wd_k_schk_0 z) sz)) 0 0 (va_A (wd_k_schk_0 z) sz) := by
  refine Met.ofW (cc := cJ0_checkIndex_df160) (maxL := 2) (ret := none) (by decide) rfl ?_
  intro p e s m args below meth c s₁ B hml hv
  obtain ⟨rfl, hsz, hP, hK, hD0, hM⟩ := hv
  have hx := B.exec
  have hb := B.bytes
  have hr := B.returns
  have hts := atoms_spec (ws := wsJ0_checkIndex_df160) B.pre
  have hown : s.vm.findClass RJ0 = some m.cls := findClass_of_methodNamed B.named
  have hlocks := B.notSynchronized
  subst hsz
  have hD := hD0.self (sz := s.heap.size)
  generalize hAe : va_A (wd_k_schk_0 z) s.heap.size = A at hD hM ⊢
  have hA : ∀ q : Nat, s.heap.size ≤ q → A q := fun q h => by rw [← hAe]; exact Or.inr h
  have hS : va_S A s.heap s.heap [] := va_S.rf
  have hP : va_P (dC, dI) vwCl [] s.heap := hP
  have hD : va_D A [] := hD
  have hl := lv_entry ([.int 0, .int 9]) (n := 2) (Nat.le_of_ble_eq_true rfl)
  rw [lg_entry_eq]
  generalize (lg_sl ([.int 0, .int 9]) ++ List.replicate (2 - (lg_sl ([.int 0, .int 9])).length) Slot.unset).toArray = ls at hl ⊢
  have hl : lv_has ls 2 [(0, .int 0), (1, .int 9)] := hl
  refine lv_iload_n hx hb dJ0_checkIndex_df160_0 rfl (lv_at hl 0 rfl) ?_
  refine lv_iload_n hx hb dJ0_checkIndex_df160_1 rfl (lv_at hl 1 rfl) ?_
  rcases hM.2.2.2.2.2.2.2.2.2.2.2 with hZ | ⟨tZ, hZ⟩
  · skip
    refine va_gets (v := .null) hx hb hZ hS hown (hts (.fieldLink RJ0 1053 "jdk/internal/util/Preconditions" "SIOOBE_FORMATTER" "Ljava/util/function/BiFunction;") (by decide +kernel)) (fun _ h9 => h9) dJ0_checkIndex_df160_2 ?_
    have hPc := hP.sub (ws' := []) [] rfl
    have hDc := hD.sub (ws' := []) [] (by decide) rfl
    have hKc := hK.sub (tys' := []) [] rfl
    have hFc := va_free (wc := []) hD hS hA [] rfl
    refine va_calli (va_runS (As := [.int 0, .int 9, .null]) (rest := []) ⟨hx, hb, hml, hown, hts⟩ (k_lchk3_0 l dC dI z zK zV  s.heap.size) (va_cwS 3 hts gJ0_checkIndex_df160_J3_checkIndex_8e157 rfl rfl rfl (by decide +kernel) ⟨Nat.le_of_ble_eq_true rfl, Nat.le_of_ble_eq_true rfl⟩) ⟨kP_blind, kP_go hPc hKc hDc hFc hM hS⟩ rfl rfl hl.1 rfl (lv_room (Nat.le_of_ble_eq_true rfl)) dJ0_checkIndex_df160_5 ⟨Nat.le_of_ble_eq_true rfl, Nat.le_of_ble_eq_true rfl⟩) hS (fun q _ h => hFc q h) hFc (fun r1 u t H1 locs ht hvm hw hB hz1 hk1 hS => ?_)
    obtain ⟨hP, hD, hK⟩ := kJ (wr := []) (w1 := []) (t1 := []) hP hD hK [] [] rfl rfl (by decide) (by decide) hk1 hFc ht hvm hB
    generalize H1 = H at hP hS ⊢
    have hP : va_P (dC, dI) vwCl [] H := hP
    have hD : va_D A [] := hD
    have hK : va_K (dC, dI) vwCl [] s := hK
    obtain rfl : 0 = r1 := hw
    refine lv_pop hx hb dJ0_checkIndex_df160_8 rfl ?_
    exact W.vret hx hb hr (fun t ht hW => ⟨⟨(), rfl, trivial, kB_end (w9 := []) (t9 := []) hP hK hD [] [] rfl (by decide) rfl rfl t ht hW⟩, hS.F ht⟩) hS.2.2 dJ0_checkIndex_df160_9
  · skip
    refine va_gets (v := .ref tZ) hx hb hZ hS hown (hts (.fieldLink RJ0 1053 "jdk/internal/util/Preconditions" "SIOOBE_FORMATTER" "Ljava/util/function/BiFunction;") (by decide +kernel)) (fun _ h9 => h9) dJ0_checkIndex_df160_2 ?_
    have hPc := hP.sub (ws' := []) [] rfl
    have hDc := hD.sub (ws' := []) [] (by decide) rfl
    have hKc := hK.sub (tys' := []) [] rfl
    have hFc := va_free (wc := []) hD hS hA [] rfl
    refine va_calli (va_runS (As := [.int 0, .int 9, .ref tZ]) (rest := []) ⟨hx, hb, hml, hown, hts⟩ (k_lchkR_0 l dC dI z zK zV tZ s.heap.size) (va_cwS 3 hts gJ0_checkIndex_df160_J3_checkIndex_8e157 rfl rfl rfl (by decide +kernel) ⟨Nat.le_of_ble_eq_true rfl, Nat.le_of_ble_eq_true rfl⟩) ⟨kP_blind, kP_go hPc hKc hDc hFc hM hS⟩ rfl rfl hl.1 rfl (lv_room (Nat.le_of_ble_eq_true rfl)) dJ0_checkIndex_df160_5 ⟨Nat.le_of_ble_eq_true rfl, Nat.le_of_ble_eq_true rfl⟩) hS (fun q _ h => hFc q h) hFc (fun r2 u t H1 locs ht hvm hw hB hz1 hk1 hS => ?_)
    obtain ⟨hP, hD, hK⟩ := kJ (wr := []) (w1 := []) (t1 := []) hP hD hK [] [] rfl rfl (by decide) (by decide) hk1 hFc ht hvm hB
    generalize H1 = H at hP hS ⊢
    have hP : va_P (dC, dI) vwCl [] H := hP
    have hD : va_D A [] := hD
    have hK : va_K (dC, dI) vwCl [] s := hK
    obtain rfl : 0 = r2 := hw
    refine lv_pop hx hb dJ0_checkIndex_df160_8 rfl ?_
    exact W.vret hx hb hr (fun t ht hW => ⟨⟨(), rfl, trivial, kB_end (w9 := []) (t9 := []) hP hK hD [] [] rfl (by decide) rfl rfl t ht hW⟩, hS.F ht⟩) hS.2.2 dJ0_checkIndex_df160_9
abbrev wd_k_lchk3_1 (_z : Nat → Nat) : va_W := []
set_option maxHeartbeats 4000000 in
set_option maxRecDepth 100000 in
theorem k_lchk3_1 (l : Launch) (dC : Nat → ClassId) (dI : Nat → Nat → Nat) (z zK zV : Nat → Nat)  (sz : Nat)  : Met l yJ3_checkIndex_8e157 wsJ3_checkIndex_8e157 ({ frames := 0, cells := 0, slots := 0, locals := 0 }) (kP dC dI z zK zV [.int 1, .int 9, .null] sz (wd_k_lchk3_1 z) []) (va_Qi (fun (r : Int32) (_ : Unit) => 1 = r) (fun _ t => kB (dC, dI) (va_A (wd_k_lchk3_1 z) sz) [] [] t) (va_A (wd_k_lchk3_1 z) sz)) 0 0 (va_A (wd_k_lchk3_1 z) sz) := by
  refine Met.ofW (cc := cJ3_checkIndex_8e157) (maxL := 3) (ret := (some .int)) (by decide) rfl ?_
  intro p e s m args below meth c s₁ B hml hv
  obtain ⟨rfl, hsz, hP, hK, hD0, hM⟩ := hv
  have hx := B.exec
  have hb := B.bytes
  have hr := B.returns
  have hts := atoms_spec (ws := wsJ3_checkIndex_8e157) B.pre
  have hown : s.vm.findClass RJ3 = some m.cls := findClass_of_methodNamed B.named
  have hlocks := B.notSynchronized
  subst hsz
  have hD := hD0.self (sz := s.heap.size)
  generalize hAe : va_A (wd_k_lchk3_1 z) s.heap.size = A at hD hM ⊢
  have hA : ∀ q : Nat, s.heap.size ≤ q → A q := fun q h => by rw [← hAe]; exact Or.inr h
  have hS : va_S A s.heap s.heap [] := va_S.rf
  have hP : va_P (dC, dI) vwCl [] s.heap := hP
  have hD : va_D A [] := hD
  have hl := lv_entry ([.int 1, .int 9, .null]) (n := 3) (Nat.le_of_ble_eq_true rfl)
  rw [lg_entry_eq]
  generalize (lg_sl ([.int 1, .int 9, .null]) ++ List.replicate (3 - (lg_sl ([.int 1, .int 9, .null])).length) Slot.unset).toArray = ls at hl ⊢
  have hl : lv_has ls 3 [(0, .int 1), (1, .int 9), (2, .null)] := hl
  refine lv_iload_n hx hb dJ3_checkIndex_8e157_0 rfl (lv_at hl 0 rfl) ?_
  refine lv_if_lt (tgt := 9) hx hb dJ3_checkIndex_8e157_1 (by decide) (fun c_ => absurd c_ (by decide +kernel)) (fun _ => ?_)
  refine lv_iload_n hx hb dJ3_checkIndex_8e157_4 rfl (lv_at hl 0 rfl) ?_
  refine lv_iload_n hx hb dJ3_checkIndex_8e157_5 rfl (lv_at hl 1 rfl) ?_
  refine lv_icmp_lt (tgt := 16) hx hb dJ3_checkIndex_8e157_6 (by decide) (fun _ => ?_) (fun c_ => absurd (by decide +kernel) c_)
  refine lv_iload_n hx hb dJ3_checkIndex_8e157_16 rfl (lv_at hl 0 rfl) ?_
  exact W.iret (v := 1) hx hb hr (fun t ht hW => ⟨⟨1, (), rfl, rfl, kB_end (w9 := []) (t9 := []) hP hK hD [] [] rfl (by decide) rfl rfl t ht hW⟩, hS.F ht⟩) hS.2.2 dJ3_checkIndex_8e157_17
abbrev wd_k_lchkR_1 (z : Nat → Nat) (f0 : Nat) : va_W := []
set_option maxHeartbeats 4000000 in
set_option maxRecDepth 100000 in
theorem k_lchkR_1 (l : Launch) (dC : Nat → ClassId) (dI : Nat → Nat → Nat) (z zK zV : Nat → Nat) (f0 : Nat) (sz : Nat)  : Met l yJ3_checkIndex_8e157 wsJ3_checkIndex_8e157 ({ frames := 0, cells := 0, slots := 0, locals := 0 }) (kP dC dI z zK zV [.int 1, .int 9, .ref f0] sz (wd_k_lchkR_1 z f0) []) (va_Qi (fun (r : Int32) (_ : Unit) => 1 = r) (fun _ t => kB (dC, dI) (va_A (wd_k_lchkR_1 z f0) sz) [] [] t) (va_A (wd_k_lchkR_1 z f0) sz)) 0 0 (va_A (wd_k_lchkR_1 z f0) sz) := by
  refine Met.ofW (cc := cJ3_checkIndex_8e157) (maxL := 3) (ret := (some .int)) (by decide) rfl ?_
  intro p e s m args below meth c s₁ B hml hv
  obtain ⟨rfl, hsz, hP, hK, hD0, hM⟩ := hv
  have hx := B.exec
  have hb := B.bytes
  have hr := B.returns
  have hts := atoms_spec (ws := wsJ3_checkIndex_8e157) B.pre
  have hown : s.vm.findClass RJ3 = some m.cls := findClass_of_methodNamed B.named
  have hlocks := B.notSynchronized
  subst hsz
  have hD := hD0.self (sz := s.heap.size)
  generalize hAe : va_A (wd_k_lchkR_1 z f0) s.heap.size = A at hD hM ⊢
  have hA : ∀ q : Nat, s.heap.size ≤ q → A q := fun q h => by rw [← hAe]; exact Or.inr h
  have hS : va_S A s.heap s.heap [] := va_S.rf
  have hP : va_P (dC, dI) vwCl [] s.heap := hP
  have hD : va_D A [] := hD
  have hl := lv_entry ([.int 1, .int 9, .ref f0]) (n := 3) (Nat.le_of_ble_eq_true rfl)
  rw [lg_entry_eq]
  generalize (lg_sl ([.int 1, .int 9, .ref f0]) ++ List.replicate (3 - (lg_sl ([.int 1, .int 9, .ref f0])).length) Slot.unset).toArray = ls at hl ⊢
  have hl : lv_has ls 3 [(0, .int 1), (1, .int 9), (2, .ref f0)] := hl
  refine lv_iload_n hx hb dJ3_checkIndex_8e157_0 rfl (lv_at hl 0 rfl) ?_
  refine lv_if_lt (tgt := 9) hx hb dJ3_checkIndex_8e157_1 (by decide) (fun c_ => absurd c_ (by decide +kernel)) (fun _ => ?_)
  refine lv_iload_n hx hb dJ3_checkIndex_8e157_4 rfl (lv_at hl 0 rfl) ?_
  refine lv_iload_n hx hb dJ3_checkIndex_8e157_5 rfl (lv_at hl 1 rfl) ?_
  refine lv_icmp_lt (tgt := 16) hx hb dJ3_checkIndex_8e157_6 (by decide) (fun _ => ?_) (fun c_ => absurd (by decide +kernel) c_)
  refine lv_iload_n hx hb dJ3_checkIndex_8e157_16 rfl (lv_at hl 0 rfl) ?_
  exact W.iret (v := 1) hx hb hr (fun t ht hW => ⟨⟨1, (), rfl, rfl, kB_end (w9 := []) (t9 := []) hP hK hD [] [] rfl (by decide) rfl rfl t ht hW⟩, hS.F ht⟩) hS.2.2 dJ3_checkIndex_8e157_17
abbrev wd_k_schk_1 (_z : Nat → Nat) : va_W := []
set_option maxHeartbeats 4000000 in
set_option maxRecDepth 100000 in
theorem k_schk_1 (l : Launch) (dC : Nat → ClassId) (dI : Nat → Nat → Nat) (z zK zV : Nat → Nat)  (sz : Nat)  : Met l yJ0_checkIndex_df160 wsJ0_checkIndex_df160 ({ frames := 1, cells := 0, slots := 0, locals := 22 }) (kP dC dI z zK zV [.int 1, .int 9] sz (wd_k_schk_1 z) []) (va_Qv (fun _ : Unit => True) (fun _ t => kB (dC, dI) (va_A (wd_k_schk_1 z) sz) [] [] t) (va_A (wd_k_schk_1 z) sz)) 0 0 (va_A (wd_k_schk_1 z) sz) := by
  refine Met.ofW (cc := cJ0_checkIndex_df160) (maxL := 2) (ret := none) (by decide) rfl ?_
  intro p e s m args below meth c s₁ B hml hv
  obtain ⟨rfl, hsz, hP, hK, hD0, hM⟩ := hv
  have hx := B.exec
  have hb := B.bytes
  have hr := B.returns
  have hts := atoms_spec (ws := wsJ0_checkIndex_df160) B.pre
  have hown : s.vm.findClass RJ0 = some m.cls := findClass_of_methodNamed B.named
  have hlocks := B.notSynchronized
  subst hsz
  have hD := hD0.self (sz := s.heap.size)
  generalize hAe : va_A (wd_k_schk_1 z) s.heap.size = A at hD hM ⊢
  have hA : ∀ q : Nat, s.heap.size ≤ q → A q := fun q h => by rw [← hAe]; exact Or.inr h
  have hS : va_S A s.heap s.heap [] := va_S.rf
  have hP : va_P (dC, dI) vwCl [] s.heap := hP
  have hD : va_D A [] := hD
  have hl := lv_entry ([.int 1, .int 9]) (n := 2) (Nat.le_of_ble_eq_true rfl)
  rw [lg_entry_eq]
  generalize (lg_sl ([.int 1, .int 9]) ++ List.replicate (2 - (lg_sl ([.int 1, .int 9])).length) Slot.unset).toArray = ls at hl ⊢
  have hl : lv_has ls 2 [(0, .int 1), (1, .int 9)] := hl
  refine lv_iload_n hx hb dJ0_checkIndex_df160_0 rfl (lv_at hl 0 rfl) ?_
  refine lv_iload_n hx hb dJ0_checkIndex_df160_1 rfl (lv_at hl 1 rfl) ?_
  rcases hM.2.2.2.2.2.2.2.2.2.2.2 with hZ | ⟨tZ, hZ⟩
  · skip
    refine va_gets (v := .null) hx hb hZ hS hown (hts (.fieldLink RJ0 1053 "jdk/internal/util/Preconditions" "SIOOBE_FORMATTER" "Ljava/util/function/BiFunction;") (by decide +kernel)) (fun _ h9 => h9) dJ0_checkIndex_df160_2 ?_
    have hPc := hP.sub (ws' := []) [] rfl
    have hDc := hD.sub (ws' := []) [] (by decide) rfl
    have hKc := hK.sub (tys' := []) [] rfl
    have hFc := va_free (wc := []) hD hS hA [] rfl
    refine va_calli (va_runS (As := [.int 1, .int 9, .null]) (rest := []) ⟨hx, hb, hml, hown, hts⟩ (k_lchk3_1 l dC dI z zK zV  s.heap.size) (va_cwS 3 hts gJ0_checkIndex_df160_J3_checkIndex_8e157 rfl rfl rfl (by decide +kernel) ⟨Nat.le_of_ble_eq_true rfl, Nat.le_of_ble_eq_true rfl⟩) ⟨kP_blind, kP_go hPc hKc hDc hFc hM hS⟩ rfl rfl hl.1 rfl (lv_room (Nat.le_of_ble_eq_true rfl)) dJ0_checkIndex_df160_5 ⟨Nat.le_of_ble_eq_true rfl, Nat.le_of_ble_eq_true rfl⟩) hS (fun q _ h => hFc q h) hFc (fun r1 u t H1 locs ht hvm hw hB hz1 hk1 hS => ?_)
    obtain ⟨hP, hD, hK⟩ := kJ (wr := []) (w1 := []) (t1 := []) hP hD hK [] [] rfl rfl (by decide) (by decide) hk1 hFc ht hvm hB
    generalize H1 = H at hP hS ⊢
    have hP : va_P (dC, dI) vwCl [] H := hP
    have hD : va_D A [] := hD
    have hK : va_K (dC, dI) vwCl [] s := hK
    obtain rfl : 1 = r1 := hw
    refine lv_pop hx hb dJ0_checkIndex_df160_8 rfl ?_
    exact W.vret hx hb hr (fun t ht hW => ⟨⟨(), rfl, trivial, kB_end (w9 := []) (t9 := []) hP hK hD [] [] rfl (by decide) rfl rfl t ht hW⟩, hS.F ht⟩) hS.2.2 dJ0_checkIndex_df160_9
  · skip
    refine va_gets (v := .ref tZ) hx hb hZ hS hown (hts (.fieldLink RJ0 1053 "jdk/internal/util/Preconditions" "SIOOBE_FORMATTER" "Ljava/util/function/BiFunction;") (by decide +kernel)) (fun _ h9 => h9) dJ0_checkIndex_df160_2 ?_
    have hPc := hP.sub (ws' := []) [] rfl
    have hDc := hD.sub (ws' := []) [] (by decide) rfl
    have hKc := hK.sub (tys' := []) [] rfl
    have hFc := va_free (wc := []) hD hS hA [] rfl
    refine va_calli (va_runS (As := [.int 1, .int 9, .ref tZ]) (rest := []) ⟨hx, hb, hml, hown, hts⟩ (k_lchkR_1 l dC dI z zK zV tZ s.heap.size) (va_cwS 3 hts gJ0_checkIndex_df160_J3_checkIndex_8e157 rfl rfl rfl (by decide +kernel) ⟨Nat.le_of_ble_eq_true rfl, Nat.le_of_ble_eq_true rfl⟩) ⟨kP_blind, kP_go hPc hKc hDc hFc hM hS⟩ rfl rfl hl.1 rfl (lv_room (Nat.le_of_ble_eq_true rfl)) dJ0_checkIndex_df160_5 ⟨Nat.le_of_ble_eq_true rfl, Nat.le_of_ble_eq_true rfl⟩) hS (fun q _ h => hFc q h) hFc (fun r2 u t H1 locs ht hvm hw hB hz1 hk1 hS => ?_)
    obtain ⟨hP, hD, hK⟩ := kJ (wr := []) (w1 := []) (t1 := []) hP hD hK [] [] rfl rfl (by decide) (by decide) hk1 hFc ht hvm hB
    generalize H1 = H at hP hS ⊢
    have hP : va_P (dC, dI) vwCl [] H := hP
    have hD : va_D A [] := hD
    have hK : va_K (dC, dI) vwCl [] s := hK
    obtain rfl : 1 = r2 := hw
    refine lv_pop hx hb dJ0_checkIndex_df160_8 rfl ?_
    exact W.vret hx hb hr (fun t ht hW => ⟨⟨(), rfl, trivial, kB_end (w9 := []) (t9 := []) hP hK hD [] [] rfl (by decide) rfl rfl t ht hW⟩, hS.F ht⟩) hS.2.2 dJ0_checkIndex_df160_9
abbrev wd_k_lchk3_2 (_z : Nat → Nat) : va_W := []
set_option maxHeartbeats 4000000 in
set_option maxRecDepth 100000 in
theorem k_lchk3_2 (l : Launch) (dC : Nat → ClassId) (dI : Nat → Nat → Nat) (z zK zV : Nat → Nat)  (sz : Nat)  : Met l yJ3_checkIndex_8e157 wsJ3_checkIndex_8e157 ({ frames := 0, cells := 0, slots := 0, locals := 0 }) (kP dC dI z zK zV [.int 2, .int 9, .null] sz (wd_k_lchk3_2 z) []) (va_Qi (fun (r : Int32) (_ : Unit) => 2 = r) (fun _ t => kB (dC, dI) (va_A (wd_k_lchk3_2 z) sz) [] [] t) (va_A (wd_k_lchk3_2 z) sz)) 0 0 (va_A (wd_k_lchk3_2 z) sz) := by
  refine Met.ofW (cc := cJ3_checkIndex_8e157) (maxL := 3) (ret := (some .int)) (by decide) rfl ?_
  intro p e s m args below meth c s₁ B hml hv
  obtain ⟨rfl, hsz, hP, hK, hD0, hM⟩ := hv
  have hx := B.exec
  have hb := B.bytes
  have hr := B.returns
  have hts := atoms_spec (ws := wsJ3_checkIndex_8e157) B.pre
  have hown : s.vm.findClass RJ3 = some m.cls := findClass_of_methodNamed B.named
  have hlocks := B.notSynchronized
  subst hsz
  have hD := hD0.self (sz := s.heap.size)
  generalize hAe : va_A (wd_k_lchk3_2 z) s.heap.size = A at hD hM ⊢
  have hA : ∀ q : Nat, s.heap.size ≤ q → A q := fun q h => by rw [← hAe]; exact Or.inr h
  have hS : va_S A s.heap s.heap [] := va_S.rf
  have hP : va_P (dC, dI) vwCl [] s.heap := hP
  have hD : va_D A [] := hD
  have hl := lv_entry ([.int 2, .int 9, .null]) (n := 3) (Nat.le_of_ble_eq_true rfl)
  rw [lg_entry_eq]
  generalize (lg_sl ([.int 2, .int 9, .null]) ++ List.replicate (3 - (lg_sl ([.int 2, .int 9, .null])).length) Slot.unset).toArray = ls at hl ⊢
  have hl : lv_has ls 3 [(0, .int 2), (1, .int 9), (2, .null)] := hl
  refine lv_iload_n hx hb dJ3_checkIndex_8e157_0 rfl (lv_at hl 0 rfl) ?_
  refine lv_if_lt (tgt := 9) hx hb dJ3_checkIndex_8e157_1 (by decide) (fun c_ => absurd c_ (by decide +kernel)) (fun _ => ?_)
  refine lv_iload_n hx hb dJ3_checkIndex_8e157_4 rfl (lv_at hl 0 rfl) ?_
  refine lv_iload_n hx hb dJ3_checkIndex_8e157_5 rfl (lv_at hl 1 rfl) ?_
  refine lv_icmp_lt (tgt := 16) hx hb dJ3_checkIndex_8e157_6 (by decide) (fun _ => ?_) (fun c_ => absurd (by decide +kernel) c_)
  refine lv_iload_n hx hb dJ3_checkIndex_8e157_16 rfl (lv_at hl 0 rfl) ?_
  exact W.iret (v := 2) hx hb hr (fun t ht hW => ⟨⟨2, (), rfl, rfl, kB_end (w9 := []) (t9 := []) hP hK hD [] [] rfl (by decide) rfl rfl t ht hW⟩, hS.F ht⟩) hS.2.2 dJ3_checkIndex_8e157_17
abbrev wd_k_lchkR_2 (z : Nat → Nat) (f0 : Nat) : va_W := []
set_option maxHeartbeats 4000000 in
set_option maxRecDepth 100000 in
theorem k_lchkR_2 (l : Launch) (dC : Nat → ClassId) (dI : Nat → Nat → Nat) (z zK zV : Nat → Nat) (f0 : Nat) (sz : Nat)  : Met l yJ3_checkIndex_8e157 wsJ3_checkIndex_8e157 ({ frames := 0, cells := 0, slots := 0, locals := 0 }) (kP dC dI z zK zV [.int 2, .int 9, .ref f0] sz (wd_k_lchkR_2 z f0) []) (va_Qi (fun (r : Int32) (_ : Unit) => 2 = r) (fun _ t => kB (dC, dI) (va_A (wd_k_lchkR_2 z f0) sz) [] [] t) (va_A (wd_k_lchkR_2 z f0) sz)) 0 0 (va_A (wd_k_lchkR_2 z f0) sz) := by
  refine Met.ofW (cc := cJ3_checkIndex_8e157) (maxL := 3) (ret := (some .int)) (by decide) rfl ?_
  intro p e s m args below meth c s₁ B hml hv
  obtain ⟨rfl, hsz, hP, hK, hD0, hM⟩ := hv
  have hx := B.exec
  have hb := B.bytes
  have hr := B.returns
  have hts := atoms_spec (ws := wsJ3_checkIndex_8e157) B.pre
  have hown : s.vm.findClass RJ3 = some m.cls := findClass_of_methodNamed B.named
  have hlocks := B.notSynchronized
  subst hsz
  have hD := hD0.self (sz := s.heap.size)
  generalize hAe : va_A (wd_k_lchkR_2 z f0) s.heap.size = A at hD hM ⊢
  have hA : ∀ q : Nat, s.heap.size ≤ q → A q := fun q h => by rw [← hAe]; exact Or.inr h
  have hS : va_S A s.heap s.heap [] := va_S.rf
  have hP : va_P (dC, dI) vwCl [] s.heap := hP
  have hD : va_D A [] := hD
  have hl := lv_entry ([.int 2, .int 9, .ref f0]) (n := 3) (Nat.le_of_ble_eq_true rfl)
  rw [lg_entry_eq]
  generalize (lg_sl ([.int 2, .int 9, .ref f0]) ++ List.replicate (3 - (lg_sl ([.int 2, .int 9, .ref f0])).length) Slot.unset).toArray = ls at hl ⊢
  have hl : lv_has ls 3 [(0, .int 2), (1, .int 9), (2, .ref f0)] := hl
  refine lv_iload_n hx hb dJ3_checkIndex_8e157_0 rfl (lv_at hl 0 rfl) ?_
  refine lv_if_lt (tgt := 9) hx hb dJ3_checkIndex_8e157_1 (by decide) (fun c_ => absurd c_ (by decide +kernel)) (fun _ => ?_)
  refine lv_iload_n hx hb dJ3_checkIndex_8e157_4 rfl (lv_at hl 0 rfl) ?_
  refine lv_iload_n hx hb dJ3_checkIndex_8e157_5 rfl (lv_at hl 1 rfl) ?_
  refine lv_icmp_lt (tgt := 16) hx hb dJ3_checkIndex_8e157_6 (by decide) (fun _ => ?_) (fun c_ => absurd (by decide +kernel) c_)
  refine lv_iload_n hx hb dJ3_checkIndex_8e157_16 rfl (lv_at hl 0 rfl) ?_
  exact W.iret (v := 2) hx hb hr (fun t ht hW => ⟨⟨2, (), rfl, rfl, kB_end (w9 := []) (t9 := []) hP hK hD [] [] rfl (by decide) rfl rfl t ht hW⟩, hS.F ht⟩) hS.2.2 dJ3_checkIndex_8e157_17
abbrev wd_k_schk_2 (_z : Nat → Nat) : va_W := []
set_option maxHeartbeats 4000000 in
set_option maxRecDepth 100000 in
theorem k_schk_2 (l : Launch) (dC : Nat → ClassId) (dI : Nat → Nat → Nat) (z zK zV : Nat → Nat)  (sz : Nat)  : Met l yJ0_checkIndex_df160 wsJ0_checkIndex_df160 ({ frames := 1, cells := 0, slots := 0, locals := 22 }) (kP dC dI z zK zV [.int 2, .int 9] sz (wd_k_schk_2 z) []) (va_Qv (fun _ : Unit => True) (fun _ t => kB (dC, dI) (va_A (wd_k_schk_2 z) sz) [] [] t) (va_A (wd_k_schk_2 z) sz)) 0 0 (va_A (wd_k_schk_2 z) sz) := by
  refine Met.ofW (cc := cJ0_checkIndex_df160) (maxL := 2) (ret := none) (by decide) rfl ?_
  intro p e s m args below meth c s₁ B hml hv
  obtain ⟨rfl, hsz, hP, hK, hD0, hM⟩ := hv
  have hx := B.exec
  have hb := B.bytes
  have hr := B.returns
  have hts := atoms_spec (ws := wsJ0_checkIndex_df160) B.pre
  have hown : s.vm.findClass RJ0 = some m.cls := findClass_of_methodNamed B.named
  have hlocks := B.notSynchronized
  subst hsz
  have hD := hD0.self (sz := s.heap.size)
  generalize hAe : va_A (wd_k_schk_2 z) s.heap.size = A at hD hM ⊢
  have hA : ∀ q : Nat, s.heap.size ≤ q → A q := fun q h => by rw [← hAe]; exact Or.inr h
  have hS : va_S A s.heap s.heap [] := va_S.rf
  have hP : va_P (dC, dI) vwCl [] s.heap := hP
  have hD : va_D A [] := hD
  have hl := lv_entry ([.int 2, .int 9]) (n := 2) (Nat.le_of_ble_eq_true rfl)
  rw [lg_entry_eq]
  generalize (lg_sl ([.int 2, .int 9]) ++ List.replicate (2 - (lg_sl ([.int 2, .int 9])).length) Slot.unset).toArray = ls at hl ⊢
  have hl : lv_has ls 2 [(0, .int 2), (1, .int 9)] := hl
  refine lv_iload_n hx hb dJ0_checkIndex_df160_0 rfl (lv_at hl 0 rfl) ?_
  refine lv_iload_n hx hb dJ0_checkIndex_df160_1 rfl (lv_at hl 1 rfl) ?_
  rcases hM.2.2.2.2.2.2.2.2.2.2.2 with hZ | ⟨tZ, hZ⟩
  · skip
    refine va_gets (v := .null) hx hb hZ hS hown (hts (.fieldLink RJ0 1053 "jdk/internal/util/Preconditions" "SIOOBE_FORMATTER" "Ljava/util/function/BiFunction;") (by decide +kernel)) (fun _ h9 => h9) dJ0_checkIndex_df160_2 ?_
    have hPc := hP.sub (ws' := []) [] rfl
    have hDc := hD.sub (ws' := []) [] (by decide) rfl
    have hKc := hK.sub (tys' := []) [] rfl
    have hFc := va_free (wc := []) hD hS hA [] rfl
    refine va_calli (va_runS (As := [.int 2, .int 9, .null]) (rest := []) ⟨hx, hb, hml, hown, hts⟩ (k_lchk3_2 l dC dI z zK zV  s.heap.size) (va_cwS 3 hts gJ0_checkIndex_df160_J3_checkIndex_8e157 rfl rfl rfl (by decide +kernel) ⟨Nat.le_of_ble_eq_true rfl, Nat.le_of_ble_eq_true rfl⟩) ⟨kP_blind, kP_go hPc hKc hDc hFc hM hS⟩ rfl rfl hl.1 rfl (lv_room (Nat.le_of_ble_eq_true rfl)) dJ0_checkIndex_df160_5 ⟨Nat.le_of_ble_eq_true rfl, Nat.le_of_ble_eq_true rfl⟩) hS (fun q _ h => hFc q h) hFc (fun r1 u t H1 locs ht hvm hw hB hz1 hk1 hS => ?_)
    obtain ⟨hP, hD, hK⟩ := kJ (wr := []) (w1 := []) (t1 := []) hP hD hK [] [] rfl rfl (by decide) (by decide) hk1 hFc ht hvm hB
    generalize H1 = H at hP hS ⊢
    have hP : va_P (dC, dI) vwCl [] H := hP
    have hD : va_D A [] := hD
    have hK : va_K (dC, dI) vwCl [] s := hK
    obtain rfl : 2 = r1 := hw
    refine lv_pop hx hb dJ0_checkIndex_df160_8 rfl ?_
    exact W.vret hx hb hr (fun t ht hW => ⟨⟨(), rfl, trivial, kB_end (w9 := []) (t9 := []) hP hK hD [] [] rfl (by decide) rfl rfl t ht hW⟩, hS.F ht⟩) hS.2.2 dJ0_checkIndex_df160_9
  · skip
    refine va_gets (v := .ref tZ) hx hb hZ hS hown (hts (.fieldLink RJ0 1053 "jdk/internal/util/Preconditions" "SIOOBE_FORMATTER" "Ljava/util/function/BiFunction;") (by decide +kernel)) (fun _ h9 => h9) dJ0_checkIndex_df160_2 ?_
    have hPc := hP.sub (ws' := []) [] rfl
    have hDc := hD.sub (ws' := []) [] (by decide) rfl
    have hKc := hK.sub (tys' := []) [] rfl
    have hFc := va_free (wc := []) hD hS hA [] rfl
    refine va_calli (va_runS (As := [.int 2, .int 9, .ref tZ]) (rest := []) ⟨hx, hb, hml, hown, hts⟩ (k_lchkR_2 l dC dI z zK zV tZ s.heap.size) (va_cwS 3 hts gJ0_checkIndex_df160_J3_checkIndex_8e157 rfl rfl rfl (by decide +kernel) ⟨Nat.le_of_ble_eq_true rfl, Nat.le_of_ble_eq_true rfl⟩) ⟨kP_blind, kP_go hPc hKc hDc hFc hM hS⟩ rfl rfl hl.1 rfl (lv_room (Nat.le_of_ble_eq_true rfl)) dJ0_checkIndex_df160_5 ⟨Nat.le_of_ble_eq_true rfl, Nat.le_of_ble_eq_true rfl⟩) hS (fun q _ h => hFc q h) hFc (fun r2 u t H1 locs ht hvm hw hB hz1 hk1 hS => ?_)
    obtain ⟨hP, hD, hK⟩ := kJ (wr := []) (w1 := []) (t1 := []) hP hD hK [] [] rfl rfl (by decide) (by decide) hk1 hFc ht hvm hB
    generalize H1 = H at hP hS ⊢
    have hP : va_P (dC, dI) vwCl [] H := hP
    have hD : va_D A [] := hD
    have hK : va_K (dC, dI) vwCl [] s := hK
    obtain rfl : 2 = r2 := hw
    refine lv_pop hx hb dJ0_checkIndex_df160_8 rfl ?_
    exact W.vret hx hb hr (fun t ht hW => ⟨⟨(), rfl, trivial, kB_end (w9 := []) (t9 := []) hP hK hD [] [] rfl (by decide) rfl rfl t ht hW⟩, hS.F ht⟩) hS.2.2 dJ0_checkIndex_df160_9
abbrev wd_k_lchk3_3 (_z : Nat → Nat) : va_W := []
set_option maxHeartbeats 4000000 in
set_option maxRecDepth 100000 in
theorem k_lchk3_3 (l : Launch) (dC : Nat → ClassId) (dI : Nat → Nat → Nat) (z zK zV : Nat → Nat)  (sz : Nat)  : Met l yJ3_checkIndex_8e157 wsJ3_checkIndex_8e157 ({ frames := 0, cells := 0, slots := 0, locals := 0 }) (kP dC dI z zK zV [.int 3, .int 9, .null] sz (wd_k_lchk3_3 z) []) (va_Qi (fun (r : Int32) (_ : Unit) => 3 = r) (fun _ t => kB (dC, dI) (va_A (wd_k_lchk3_3 z) sz) [] [] t) (va_A (wd_k_lchk3_3 z) sz)) 0 0 (va_A (wd_k_lchk3_3 z) sz) := by
  refine Met.ofW (cc := cJ3_checkIndex_8e157) (maxL := 3) (ret := (some .int)) (by decide) rfl ?_
  intro p e s m args below meth c s₁ B hml hv
  obtain ⟨rfl, hsz, hP, hK, hD0, hM⟩ := hv
  have hx := B.exec
  have hb := B.bytes
  have hr := B.returns
  have hts := atoms_spec (ws := wsJ3_checkIndex_8e157) B.pre
  have hown : s.vm.findClass RJ3 = some m.cls := findClass_of_methodNamed B.named
  have hlocks := B.notSynchronized
  subst hsz
  have hD := hD0.self (sz := s.heap.size)
  generalize hAe : va_A (wd_k_lchk3_3 z) s.heap.size = A at hD hM ⊢
  have hA : ∀ q : Nat, s.heap.size ≤ q → A q := fun q h => by rw [← hAe]; exact Or.inr h
  have hS : va_S A s.heap s.heap [] := va_S.rf
  have hP : va_P (dC, dI) vwCl [] s.heap := hP
  have hD : va_D A [] := hD
  have hl := lv_entry ([.int 3, .int 9, .null]) (n := 3) (Nat.le_of_ble_eq_true rfl)
  rw [lg_entry_eq]
  generalize (lg_sl ([.int 3, .int 9, .null]) ++ List.replicate (3 - (lg_sl ([.int 3, .int 9, .null])).length) Slot.unset).toArray = ls at hl ⊢
  have hl : lv_has ls 3 [(0, .int 3), (1, .int 9), (2, .null)] := hl
  refine lv_iload_n hx hb dJ3_checkIndex_8e157_0 rfl (lv_at hl 0 rfl) ?_
  refine lv_if_lt (tgt := 9) hx hb dJ3_checkIndex_8e157_1 (by decide) (fun c_ => absurd c_ (by decide +kernel)) (fun _ => ?_)
  refine lv_iload_n hx hb dJ3_checkIndex_8e157_4 rfl (lv_at hl 0 rfl) ?_
  refine lv_iload_n hx hb dJ3_checkIndex_8e157_5 rfl (lv_at hl 1 rfl) ?_
  refine lv_icmp_lt (tgt := 16) hx hb dJ3_checkIndex_8e157_6 (by decide) (fun _ => ?_) (fun c_ => absurd (by decide +kernel) c_)
  refine lv_iload_n hx hb dJ3_checkIndex_8e157_16 rfl (lv_at hl 0 rfl) ?_
  exact W.iret (v := 3) hx hb hr (fun t ht hW => ⟨⟨3, (), rfl, rfl, kB_end (w9 := []) (t9 := []) hP hK hD [] [] rfl (by decide) rfl rfl t ht hW⟩, hS.F ht⟩) hS.2.2 dJ3_checkIndex_8e157_17
abbrev wd_k_lchkR_3 (z : Nat → Nat) (f0 : Nat) : va_W := []
set_option maxHeartbeats 4000000 in
set_option maxRecDepth 100000 in
theorem k_lchkR_3 (l : Launch) (dC : Nat → ClassId) (dI : Nat → Nat → Nat) (z zK zV : Nat → Nat) (f0 : Nat) (sz : Nat)  : Met l yJ3_checkIndex_8e157 wsJ3_checkIndex_8e157 ({ frames := 0, cells := 0, slots := 0, locals := 0 }) (kP dC dI z zK zV [.int 3, .int 9, .ref f0] sz (wd_k_lchkR_3 z f0) []) (va_Qi (fun (r : Int32) (_ : Unit) => 3 = r) (fun _ t => kB (dC, dI) (va_A (wd_k_lchkR_3 z f0) sz) [] [] t) (va_A (wd_k_lchkR_3 z f0) sz)) 0 0 (va_A (wd_k_lchkR_3 z f0) sz) := by
  refine Met.ofW (cc := cJ3_checkIndex_8e157) (maxL := 3) (ret := (some .int)) (by decide) rfl ?_
  intro p e s m args below meth c s₁ B hml hv
  obtain ⟨rfl, hsz, hP, hK, hD0, hM⟩ := hv
  have hx := B.exec
  have hb := B.bytes
  have hr := B.returns
  have hts := atoms_spec (ws := wsJ3_checkIndex_8e157) B.pre
  have hown : s.vm.findClass RJ3 = some m.cls := findClass_of_methodNamed B.named
  have hlocks := B.notSynchronized
  subst hsz
  have hD := hD0.self (sz := s.heap.size)
  generalize hAe : va_A (wd_k_lchkR_3 z f0) s.heap.size = A at hD hM ⊢
  have hA : ∀ q : Nat, s.heap.size ≤ q → A q := fun q h => by rw [← hAe]; exact Or.inr h
  have hS : va_S A s.heap s.heap [] := va_S.rf
  have hP : va_P (dC, dI) vwCl [] s.heap := hP
  have hD : va_D A [] := hD
  have hl := lv_entry ([.int 3, .int 9, .ref f0]) (n := 3) (Nat.le_of_ble_eq_true rfl)
  rw [lg_entry_eq]
  generalize (lg_sl ([.int 3, .int 9, .ref f0]) ++ List.replicate (3 - (lg_sl ([.int 3, .int 9, .ref f0])).length) Slot.unset).toArray = ls at hl ⊢
  have hl : lv_has ls 3 [(0, .int 3), (1, .int 9), (2, .ref f0)] := hl
  refine lv_iload_n hx hb dJ3_checkIndex_8e157_0 rfl (lv_at hl 0 rfl) ?_
  refine lv_if_lt (tgt := 9) hx hb dJ3_checkIndex_8e157_1 (by decide) (fun c_ => absurd c_ (by decide +kernel)) (fun _ => ?_)
  refine lv_iload_n hx hb dJ3_checkIndex_8e157_4 rfl (lv_at hl 0 rfl) ?_
  refine lv_iload_n hx hb dJ3_checkIndex_8e157_5 rfl (lv_at hl 1 rfl) ?_
  refine lv_icmp_lt (tgt := 16) hx hb dJ3_checkIndex_8e157_6 (by decide) (fun _ => ?_) (fun c_ => absurd (by decide +kernel) c_)
  refine lv_iload_n hx hb dJ3_checkIndex_8e157_16 rfl (lv_at hl 0 rfl) ?_
  exact W.iret (v := 3) hx hb hr (fun t ht hW => ⟨⟨3, (), rfl, rfl, kB_end (w9 := []) (t9 := []) hP hK hD [] [] rfl (by decide) rfl rfl t ht hW⟩, hS.F ht⟩) hS.2.2 dJ3_checkIndex_8e157_17
abbrev wd_k_schk_3 (_z : Nat → Nat) : va_W := []
set_option maxHeartbeats 4000000 in
set_option maxRecDepth 100000 in
theorem k_schk_3 (l : Launch) (dC : Nat → ClassId) (dI : Nat → Nat → Nat) (z zK zV : Nat → Nat)  (sz : Nat)  : Met l yJ0_checkIndex_df160 wsJ0_checkIndex_df160 ({ frames := 1, cells := 0, slots := 0, locals := 22 }) (kP dC dI z zK zV [.int 3, .int 9] sz (wd_k_schk_3 z) []) (va_Qv (fun _ : Unit => True) (fun _ t => kB (dC, dI) (va_A (wd_k_schk_3 z) sz) [] [] t) (va_A (wd_k_schk_3 z) sz)) 0 0 (va_A (wd_k_schk_3 z) sz) := by
  refine Met.ofW (cc := cJ0_checkIndex_df160) (maxL := 2) (ret := none) (by decide) rfl ?_
  intro p e s m args below meth c s₁ B hml hv
  obtain ⟨rfl, hsz, hP, hK, hD0, hM⟩ := hv
  have hx := B.exec
  have hb := B.bytes
  have hr := B.returns
  have hts := atoms_spec (ws := wsJ0_checkIndex_df160) B.pre
  have hown : s.vm.findClass RJ0 = some m.cls := findClass_of_methodNamed B.named
  have hlocks := B.notSynchronized
  subst hsz
  have hD := hD0.self (sz := s.heap.size)
  generalize hAe : va_A (wd_k_schk_3 z) s.heap.size = A at hD hM ⊢
  have hA : ∀ q : Nat, s.heap.size ≤ q → A q := fun q h => by rw [← hAe]; exact Or.inr h
  have hS : va_S A s.heap s.heap [] := va_S.rf
  have hP : va_P (dC, dI) vwCl [] s.heap := hP
  have hD : va_D A [] := hD
  have hl := lv_entry ([.int 3, .int 9]) (n := 2) (Nat.le_of_ble_eq_true rfl)
  rw [lg_entry_eq]
  generalize (lg_sl ([.int 3, .int 9]) ++ List.replicate (2 - (lg_sl ([.int 3, .int 9])).length) Slot.unset).toArray = ls at hl ⊢
  have hl : lv_has ls 2 [(0, .int 3), (1, .int 9)] := hl
  refine lv_iload_n hx hb dJ0_checkIndex_df160_0 rfl (lv_at hl 0 rfl) ?_
  refine lv_iload_n hx hb dJ0_checkIndex_df160_1 rfl (lv_at hl 1 rfl) ?_
  rcases hM.2.2.2.2.2.2.2.2.2.2.2 with hZ | ⟨tZ, hZ⟩
  · skip
    refine va_gets (v := .null) hx hb hZ hS hown (hts (.fieldLink RJ0 1053 "jdk/internal/util/Preconditions" "SIOOBE_FORMATTER" "Ljava/util/function/BiFunction;") (by decide +kernel)) (fun _ h9 => h9) dJ0_checkIndex_df160_2 ?_
    have hPc := hP.sub (ws' := []) [] rfl
    have hDc := hD.sub (ws' := []) [] (by decide) rfl
    have hKc := hK.sub (tys' := []) [] rfl
    have hFc := va_free (wc := []) hD hS hA [] rfl
    refine va_calli (va_runS (As := [.int 3, .int 9, .null]) (rest := []) ⟨hx, hb, hml, hown, hts⟩ (k_lchk3_3 l dC dI z zK zV  s.heap.size) (va_cwS 3 hts gJ0_checkIndex_df160_J3_checkIndex_8e157 rfl rfl rfl (by decide +kernel) ⟨Nat.le_of_ble_eq_true rfl, Nat.le_of_ble_eq_true rfl⟩) ⟨kP_blind, kP_go hPc hKc hDc hFc hM hS⟩ rfl rfl hl.1 rfl (lv_room (Nat.le_of_ble_eq_true rfl)) dJ0_checkIndex_df160_5 ⟨Nat.le_of_ble_eq_true rfl, Nat.le_of_ble_eq_true rfl⟩) hS (fun q _ h => hFc q h) hFc (fun r1 u t H1 locs ht hvm hw hB hz1 hk1 hS => ?_)
    obtain ⟨hP, hD, hK⟩ := kJ (wr := []) (w1 := []) (t1 := []) hP hD hK [] [] rfl rfl (by decide) (by decide) hk1 hFc ht hvm hB
    generalize H1 = H at hP hS ⊢
    have hP : va_P (dC, dI) vwCl [] H := hP
    have hD : va_D A [] := hD
    have hK : va_K (dC, dI) vwCl [] s := hK
    obtain rfl : 3 = r1 := hw
    refine lv_pop hx hb dJ0_checkIndex_df160_8 rfl ?_
    exact W.vret hx hb hr (fun t ht hW => ⟨⟨(), rfl, trivial, kB_end (w9 := []) (t9 := []) hP hK hD [] [] rfl (by decide) rfl rfl t ht hW⟩, hS.F ht⟩) hS.2.2 dJ0_checkIndex_df160_9
  · skip
    refine va_gets (v := .ref tZ) hx hb hZ hS hown (hts (.fieldLink RJ0 1053 "jdk/internal/util/Preconditions" "SIOOBE_FORMATTER" "Ljava/util/function/BiFunction;") (by decide +kernel)) (fun _ h9 => h9) dJ0_checkIndex_df160_2 ?_
    have hPc := hP.sub (ws' := []) [] rfl
    have hDc := hD.sub (ws' := []) [] (by decide) rfl
    have hKc := hK.sub (tys' := []) [] rfl
    have hFc := va_free (wc := []) hD hS hA [] rfl
    refine va_calli (va_runS (As := [.int 3, .int 9, .ref tZ]) (rest := []) ⟨hx, hb, hml, hown, hts⟩ (k_lchkR_3 l dC dI z zK zV tZ s.heap.size) (va_cwS 3 hts gJ0_checkIndex_df160_J3_checkIndex_8e157 rfl rfl rfl (by decide +kernel) ⟨Nat.le_of_ble_eq_true rfl, Nat.le_of_ble_eq_true rfl⟩) ⟨kP_blind, kP_go hPc hKc hDc hFc hM hS⟩ rfl rfl hl.1 rfl (lv_room (Nat.le_of_ble_eq_true rfl)) dJ0_checkIndex_df160_5 ⟨Nat.le_of_ble_eq_true rfl, Nat.le_of_ble_eq_true rfl⟩) hS (fun q _ h => hFc q h) hFc (fun r2 u t H1 locs ht hvm hw hB hz1 hk1 hS => ?_)
    obtain ⟨hP, hD, hK⟩ := kJ (wr := []) (w1 := []) (t1 := []) hP hD hK [] [] rfl rfl (by decide) (by decide) hk1 hFc ht hvm hB
    generalize H1 = H at hP hS ⊢
    have hP : va_P (dC, dI) vwCl [] H := hP
    have hD : va_D A [] := hD
    have hK : va_K (dC, dI) vwCl [] s := hK
    obtain rfl : 3 = r2 := hw
    refine lv_pop hx hb dJ0_checkIndex_df160_8 rfl ?_
    exact W.vret hx hb hr (fun t ht hW => ⟨⟨(), rfl, trivial, kB_end (w9 := []) (t9 := []) hP hK hD [] [] rfl (by decide) rfl rfl t ht hW⟩, hS.F ht⟩) hS.2.2 dJ0_checkIndex_df160_9
abbrev wd_k_lchk3_4 (_z : Nat → Nat) : va_W := []
set_option maxHeartbeats 4000000 in
set_option maxRecDepth 100000 in
theorem k_lchk3_4 (l : Launch) (dC : Nat → ClassId) (dI : Nat → Nat → Nat) (z zK zV : Nat → Nat)  (sz : Nat)  : Met l yJ3_checkIndex_8e157 wsJ3_checkIndex_8e157 ({ frames := 0, cells := 0, slots := 0, locals := 0 }) (kP dC dI z zK zV [.int 4, .int 9, .null] sz (wd_k_lchk3_4 z) []) (va_Qi (fun (r : Int32) (_ : Unit) => 4 = r) (fun _ t => kB (dC, dI) (va_A (wd_k_lchk3_4 z) sz) [] [] t) (va_A (wd_k_lchk3_4 z) sz)) 0 0 (va_A (wd_k_lchk3_4 z) sz) := by
  refine Met.ofW (cc := cJ3_checkIndex_8e157) (maxL := 3) (ret := (some .int)) (by decide) rfl ?_
  intro p e s m args below meth c s₁ B hml hv
  obtain ⟨rfl, hsz, hP, hK, hD0, hM⟩ := hv
  have hx := B.exec
  have hb := B.bytes
  have hr := B.returns
  have hts := atoms_spec (ws := wsJ3_checkIndex_8e157) B.pre
  have hown : s.vm.findClass RJ3 = some m.cls := findClass_of_methodNamed B.named
  have hlocks := B.notSynchronized
  subst hsz
  have hD := hD0.self (sz := s.heap.size)
  generalize hAe : va_A (wd_k_lchk3_4 z) s.heap.size = A at hD hM ⊢
  have hA : ∀ q : Nat, s.heap.size ≤ q → A q := fun q h => by rw [← hAe]; exact Or.inr h
  have hS : va_S A s.heap s.heap [] := va_S.rf
  have hP : va_P (dC, dI) vwCl [] s.heap := hP
  have hD : va_D A [] := hD
  have hl := lv_entry ([.int 4, .int 9, .null]) (n := 3) (Nat.le_of_ble_eq_true rfl)
  rw [lg_entry_eq]
  generalize (lg_sl ([.int 4, .int 9, .null]) ++ List.replicate (3 - (lg_sl ([.int 4, .int 9, .null])).length) Slot.unset).toArray = ls at hl ⊢
  have hl : lv_has ls 3 [(0, .int 4), (1, .int 9), (2, .null)] := hl
  refine lv_iload_n hx hb dJ3_checkIndex_8e157_0 rfl (lv_at hl 0 rfl) ?_
  refine lv_if_lt (tgt := 9) hx hb dJ3_checkIndex_8e157_1 (by decide) (fun c_ => absurd c_ (by decide +kernel)) (fun _ => ?_)
  refine lv_iload_n hx hb dJ3_checkIndex_8e157_4 rfl (lv_at hl 0 rfl) ?_
  refine lv_iload_n hx hb dJ3_checkIndex_8e157_5 rfl (lv_at hl 1 rfl) ?_
  refine lv_icmp_lt (tgt := 16) hx hb dJ3_checkIndex_8e157_6 (by decide) (fun _ => ?_) (fun c_ => absurd (by decide +kernel) c_)
  refine lv_iload_n hx hb dJ3_checkIndex_8e157_16 rfl (lv_at hl 0 rfl) ?_
  exact W.iret (v := 4) hx hb hr (fun t ht hW => ⟨⟨4, (), rfl, rfl, kB_end (w9 := []) (t9 := []) hP hK hD [] [] rfl (by decide) rfl rfl t ht hW⟩, hS.F ht⟩) hS.2.2 dJ3_checkIndex_8e157_17
abbrev wd_k_lchkR_4 (z : Nat → Nat) (f0 : Nat) : va_W := []
set_option maxHeartbeats 4000000 in
set_option maxRecDepth 100000 in
theorem k_lchkR_4 (l : Launch) (dC : Nat → ClassId) (dI : Nat → Nat → Nat) (z zK zV : Nat → Nat) (f0 : Nat) (sz : Nat)  : Met l yJ3_checkIndex_8e157 wsJ3_checkIndex_8e157 ({ frames := 0, cells := 0, slots := 0, locals := 0 }) (kP dC dI z zK zV [.int 4, .int 9, .ref f0] sz (wd_k_lchkR_4 z f0) []) (va_Qi (fun (r : Int32) (_ : Unit) => 4 = r) (fun _ t => kB (dC, dI) (va_A (wd_k_lchkR_4 z f0) sz) [] [] t) (va_A (wd_k_lchkR_4 z f0) sz)) 0 0 (va_A (wd_k_lchkR_4 z f0) sz) := by
  refine Met.ofW (cc := cJ3_checkIndex_8e157) (maxL := 3) (ret := (some .int)) (by decide) rfl ?_
  intro p e s m args below meth c s₁ B hml hv
  obtain ⟨rfl, hsz, hP, hK, hD0, hM⟩ := hv
  have hx := B.exec
  have hb := B.bytes
  have hr := B.returns
  have hts := atoms_spec (ws := wsJ3_checkIndex_8e157) B.pre
  have hown : s.vm.findClass RJ3 = some m.cls := findClass_of_methodNamed B.named
  have hlocks := B.notSynchronized
  subst hsz
  have hD := hD0.self (sz := s.heap.size)
  generalize hAe : va_A (wd_k_lchkR_4 z f0) s.heap.size = A at hD hM ⊢
  have hA : ∀ q : Nat, s.heap.size ≤ q → A q := fun q h => by rw [← hAe]; exact Or.inr h
  have hS : va_S A s.heap s.heap [] := va_S.rf
  have hP : va_P (dC, dI) vwCl [] s.heap := hP
  have hD : va_D A [] := hD
  have hl := lv_entry ([.int 4, .int 9, .ref f0]) (n := 3) (Nat.le_of_ble_eq_true rfl)
  rw [lg_entry_eq]
  generalize (lg_sl ([.int 4, .int 9, .ref f0]) ++ List.replicate (3 - (lg_sl ([.int 4, .int 9, .ref f0])).length) Slot.unset).toArray = ls at hl ⊢
  have hl : lv_has ls 3 [(0, .int 4), (1, .int 9), (2, .ref f0)] := hl
  refine lv_iload_n hx hb dJ3_checkIndex_8e157_0 rfl (lv_at hl 0 rfl) ?_
  refine lv_if_lt (tgt := 9) hx hb dJ3_checkIndex_8e157_1 (by decide) (fun c_ => absurd c_ (by decide +kernel)) (fun _ => ?_)
  refine lv_iload_n hx hb dJ3_checkIndex_8e157_4 rfl (lv_at hl 0 rfl) ?_
  refine lv_iload_n hx hb dJ3_checkIndex_8e157_5 rfl (lv_at hl 1 rfl) ?_
  refine lv_icmp_lt (tgt := 16) hx hb dJ3_checkIndex_8e157_6 (by decide) (fun _ => ?_) (fun c_ => absurd (by decide +kernel) c_)
  refine lv_iload_n hx hb dJ3_checkIndex_8e157_16 rfl (lv_at hl 0 rfl) ?_
  exact W.iret (v := 4) hx hb hr (fun t ht hW => ⟨⟨4, (), rfl, rfl, kB_end (w9 := []) (t9 := []) hP hK hD [] [] rfl (by decide) rfl rfl t ht hW⟩, hS.F ht⟩) hS.2.2 dJ3_checkIndex_8e157_17
abbrev wd_k_schk_4 (_z : Nat → Nat) : va_W := []
set_option maxHeartbeats 4000000 in
set_option maxRecDepth 100000 in
theorem k_schk_4 (l : Launch) (dC : Nat → ClassId) (dI : Nat → Nat → Nat) (z zK zV : Nat → Nat)  (sz : Nat)  : Met l yJ0_checkIndex_df160 wsJ0_checkIndex_df160 ({ frames := 1, cells := 0, slots := 0, locals := 22 }) (kP dC dI z zK zV [.int 4, .int 9] sz (wd_k_schk_4 z) []) (va_Qv (fun _ : Unit => True) (fun _ t => kB (dC, dI) (va_A (wd_k_schk_4 z) sz) [] [] t) (va_A (wd_k_schk_4 z) sz)) 0 0 (va_A (wd_k_schk_4 z) sz) := by
  refine Met.ofW (cc := cJ0_checkIndex_df160) (maxL := 2) (ret := none) (by decide) rfl ?_
  intro p e s m args below meth c s₁ B hml hv
  obtain ⟨rfl, hsz, hP, hK, hD0, hM⟩ := hv
  have hx := B.exec
  have hb := B.bytes
  have hr := B.returns
  have hts := atoms_spec (ws := wsJ0_checkIndex_df160) B.pre
  have hown : s.vm.findClass RJ0 = some m.cls := findClass_of_methodNamed B.named
  have hlocks := B.notSynchronized
  subst hsz
  have hD := hD0.self (sz := s.heap.size)
  generalize hAe : va_A (wd_k_schk_4 z) s.heap.size = A at hD hM ⊢
  have hA : ∀ q : Nat, s.heap.size ≤ q → A q := fun q h => by rw [← hAe]; exact Or.inr h
  have hS : va_S A s.heap s.heap [] := va_S.rf
  have hP : va_P (dC, dI) vwCl [] s.heap := hP
  have hD : va_D A [] := hD
  have hl := lv_entry ([.int 4, .int 9]) (n := 2) (Nat.le_of_ble_eq_true rfl)
  rw [lg_entry_eq]
  generalize (lg_sl ([.int 4, .int 9]) ++ List.replicate (2 - (lg_sl ([.int 4, .int 9])).length) Slot.unset).toArray = ls at hl ⊢
  have hl : lv_has ls 2 [(0, .int 4), (1, .int 9)] := hl
  refine lv_iload_n hx hb dJ0_checkIndex_df160_0 rfl (lv_at hl 0 rfl) ?_
  refine lv_iload_n hx hb dJ0_checkIndex_df160_1 rfl (lv_at hl 1 rfl) ?_
  rcases hM.2.2.2.2.2.2.2.2.2.2.2 with hZ | ⟨tZ, hZ⟩
  · skip
    refine va_gets (v := .null) hx hb hZ hS hown (hts (.fieldLink RJ0 1053 "jdk/internal/util/Preconditions" "SIOOBE_FORMATTER" "Ljava/util/function/BiFunction;") (by decide +kernel)) (fun _ h9 => h9) dJ0_checkIndex_df160_2 ?_
    have hPc := hP.sub (ws' := []) [] rfl
    have hDc := hD.sub (ws' := []) [] (by decide) rfl
    have hKc := hK.sub (tys' := []) [] rfl
    have hFc := va_free (wc := []) hD hS hA [] rfl
    refine va_calli (va_runS (As := [.int 4, .int 9, .null]) (rest := []) ⟨hx, hb, hml, hown, hts⟩ (k_lchk3_4 l dC dI z zK zV  s.heap.size) (va_cwS 3 hts gJ0_checkIndex_df160_J3_checkIndex_8e157 rfl rfl rfl (by decide +kernel) ⟨Nat.le_of_ble_eq_true rfl, Nat.le_of_ble_eq_true rfl⟩) ⟨kP_blind, kP_go hPc hKc hDc hFc hM hS⟩ rfl rfl hl.1 rfl (lv_room (Nat.le_of_ble_eq_true rfl)) dJ0_checkIndex_df160_5 ⟨Nat.le_of_ble_eq_true rfl, Nat.le_of_ble_eq_true rfl⟩) hS (fun q _ h => hFc q h) hFc (fun r1 u t H1 locs ht hvm hw hB hz1 hk1 hS => ?_)
    obtain ⟨hP, hD, hK⟩ := kJ (wr := []) (w1 := []) (t1 := []) hP hD hK [] [] rfl rfl (by decide) (by decide) hk1 hFc ht hvm hB
    generalize H1 = H at hP hS ⊢
    have hP : va_P (dC, dI) vwCl [] H := hP
    have hD : va_D A [] := hD
    have hK : va_K (dC, dI) vwCl [] s := hK
    obtain rfl : 4 = r1 := hw
    refine lv_pop hx hb dJ0_checkIndex_df160_8 rfl ?_
    exact W.vret hx hb hr (fun t ht hW => ⟨⟨(), rfl, trivial, kB_end (w9 := []) (t9 := []) hP hK hD [] [] rfl (by decide) rfl rfl t ht hW⟩, hS.F ht⟩) hS.2.2 dJ0_checkIndex_df160_9
  · skip
    refine va_gets (v := .ref tZ) hx hb hZ hS hown (hts (.fieldLink RJ0 1053 "jdk/internal/util/Preconditions" "SIOOBE_FORMATTER" "Ljava/util/function/BiFunction;") (by decide +kernel)) (fun _ h9 => h9) dJ0_checkIndex_df160_2 ?_
    have hPc := hP.sub (ws' := []) [] rfl
    have hDc := hD.sub (ws' := []) [] (by decide) rfl
    have hKc := hK.sub (tys' := []) [] rfl
    have hFc := va_free (wc := []) hD hS hA [] rfl
    refine va_calli (va_runS (As := [.int 4, .int 9, .ref tZ]) (rest := []) ⟨hx, hb, hml, hown, hts⟩ (k_lchkR_4 l dC dI z zK zV tZ s.heap.size) (va_cwS 3 hts gJ0_checkIndex_df160_J3_checkIndex_8e157 rfl rfl rfl (by decide +kernel) ⟨Nat.le_of_ble_eq_true rfl, Nat.le_of_ble_eq_true rfl⟩) ⟨kP_blind, kP_go hPc hKc hDc hFc hM hS⟩ rfl rfl hl.1 rfl (lv_room (Nat.le_of_ble_eq_true rfl)) dJ0_checkIndex_df160_5 ⟨Nat.le_of_ble_eq_true rfl, Nat.le_of_ble_eq_true rfl⟩) hS (fun q _ h => hFc q h) hFc (fun r2 u t H1 locs ht hvm hw hB hz1 hk1 hS => ?_)
    obtain ⟨hP, hD, hK⟩ := kJ (wr := []) (w1 := []) (t1 := []) hP hD hK [] [] rfl rfl (by decide) (by decide) hk1 hFc ht hvm hB
    generalize H1 = H at hP hS ⊢
    have hP : va_P (dC, dI) vwCl [] H := hP
    have hD : va_D A [] := hD
    have hK : va_K (dC, dI) vwCl [] s := hK
    obtain rfl : 4 = r2 := hw
    refine lv_pop hx hb dJ0_checkIndex_df160_8 rfl ?_
    exact W.vret hx hb hr (fun t ht hW => ⟨⟨(), rfl, trivial, kB_end (w9 := []) (t9 := []) hP hK hD [] [] rfl (by decide) rfl rfl t ht hW⟩, hS.F ht⟩) hS.2.2 dJ0_checkIndex_df160_9
abbrev wd_k_lchk3_5 (_z : Nat → Nat) : va_W := []
set_option maxHeartbeats 4000000 in
set_option maxRecDepth 100000 in
theorem k_lchk3_5 (l : Launch) (dC : Nat → ClassId) (dI : Nat → Nat → Nat) (z zK zV : Nat → Nat)  (sz : Nat)  : Met l yJ3_checkIndex_8e157 wsJ3_checkIndex_8e157 ({ frames := 0, cells := 0, slots := 0, locals := 0 }) (kP dC dI z zK zV [.int 5, .int 9, .null] sz (wd_k_lchk3_5 z) []) (va_Qi (fun (r : Int32) (_ : Unit) => 5 = r) (fun _ t => kB (dC, dI) (va_A (wd_k_lchk3_5 z) sz) [] [] t) (va_A (wd_k_lchk3_5 z) sz)) 0 0 (va_A (wd_k_lchk3_5 z) sz) := by
  refine Met.ofW (cc := cJ3_checkIndex_8e157) (maxL := 3) (ret := (some .int)) (by decide) rfl ?_
  intro p e s m args below meth c s₁ B hml hv
  obtain ⟨rfl, hsz, hP, hK, hD0, hM⟩ := hv
  have hx := B.exec
  have hb := B.bytes
  have hr := B.returns
  have hts := atoms_spec (ws := wsJ3_checkIndex_8e157) B.pre
  have hown : s.vm.findClass RJ3 = some m.cls := findClass_of_methodNamed B.named
  have hlocks := B.notSynchronized
  subst hsz
  have hD := hD0.self (sz := s.heap.size)
  generalize hAe : va_A (wd_k_lchk3_5 z) s.heap.size = A at hD hM ⊢
  have hA : ∀ q : Nat, s.heap.size ≤ q → A q := fun q h => by rw [← hAe]; exact Or.inr h
  have hS : va_S A s.heap s.heap [] := va_S.rf
  have hP : va_P (dC, dI) vwCl [] s.heap := hP
  have hD : va_D A [] := hD
  have hl := lv_entry ([.int 5, .int 9, .null]) (n := 3) (Nat.le_of_ble_eq_true rfl)
  rw [lg_entry_eq]
  generalize (lg_sl ([.int 5, .int 9, .null]) ++ List.replicate (3 - (lg_sl ([.int 5, .int 9, .null])).length) Slot.unset).toArray = ls at hl ⊢
  have hl : lv_has ls 3 [(0, .int 5), (1, .int 9), (2, .null)] := hl
  refine lv_iload_n hx hb dJ3_checkIndex_8e157_0 rfl (lv_at hl 0 rfl) ?_
  refine lv_if_lt (tgt := 9) hx hb dJ3_checkIndex_8e157_1 (by decide) (fun c_ => absurd c_ (by decide +kernel)) (fun _ => ?_)
  refine lv_iload_n hx hb dJ3_checkIndex_8e157_4 rfl (lv_at hl 0 rfl) ?_
  refine lv_iload_n hx hb dJ3_checkIndex_8e157_5 rfl (lv_at hl 1 rfl) ?_
  refine lv_icmp_lt (tgt := 16) hx hb dJ3_checkIndex_8e157_6 (by decide) (fun _ => ?_) (fun c_ => absurd (by decide +kernel) c_)
  refine lv_iload_n hx hb dJ3_checkIndex_8e157_16 rfl (lv_at hl 0 rfl) ?_
  exact W.iret (v := 5) hx hb hr (fun t ht hW => ⟨⟨5, (), rfl, rfl, kB_end (w9 := []) (t9 := []) hP hK hD [] [] rfl (by decide) rfl rfl t ht hW⟩, hS.F ht⟩) hS.2.2 dJ3_checkIndex_8e157_17
abbrev wd_k_lchkR_5 (z : Nat → Nat) (f0 : Nat) : va_W := []
set_option maxHeartbeats 4000000 in
set_option maxRecDepth 100000 in
theorem k_lchkR_5 (l : Launch) (dC : Nat → ClassId) (dI : Nat → Nat → Nat) (z zK zV : Nat → Nat) (f0 : Nat) (sz : Nat)  : Met l yJ3_checkIndex_8e157 wsJ3_checkIndex_8e157 ({ frames := 0, cells := 0, slots := 0, locals := 0 }) (kP dC dI z zK zV [.int 5, .int 9, .ref f0] sz (wd_k_lchkR_5 z f0) []) (va_Qi (fun (r : Int32) (_ : Unit) => 5 = r) (fun _ t => kB (dC, dI) (va_A (wd_k_lchkR_5 z f0) sz) [] [] t) (va_A (wd_k_lchkR_5 z f0) sz)) 0 0 (va_A (wd_k_lchkR_5 z f0) sz) := by
  refine Met.ofW (cc := cJ3_checkIndex_8e157) (maxL := 3) (ret := (some .int)) (by decide) rfl ?_
  intro p e s m args below meth c s₁ B hml hv
  obtain ⟨rfl, hsz, hP, hK, hD0, hM⟩ := hv
  have hx := B.exec
  have hb := B.bytes
  have hr := B.returns
  have hts := atoms_spec (ws := wsJ3_checkIndex_8e157) B.pre
  have hown : s.vm.findClass RJ3 = some m.cls := findClass_of_methodNamed B.named
  have hlocks := B.notSynchronized
  subst hsz
  have hD := hD0.self (sz := s.heap.size)
  generalize hAe : va_A (wd_k_lchkR_5 z f0) s.heap.size = A at hD hM ⊢
  have hA : ∀ q : Nat, s.heap.size ≤ q → A q := fun q h => by rw [← hAe]; exact Or.inr h
  have hS : va_S A s.heap s.heap [] := va_S.rf
  have hP : va_P (dC, dI) vwCl [] s.heap := hP
  have hD : va_D A [] := hD
  have hl := lv_entry ([.int 5, .int 9, .ref f0]) (n := 3) (Nat.le_of_ble_eq_true rfl)
  rw [lg_entry_eq]
  generalize (lg_sl ([.int 5, .int 9, .ref f0]) ++ List.replicate (3 - (lg_sl ([.int 5, .int 9, .ref f0])).length) Slot.unset).toArray = ls at hl ⊢
  have hl : lv_has ls 3 [(0, .int 5), (1, .int 9), (2, .ref f0)] := hl
  refine lv_iload_n hx hb dJ3_checkIndex_8e157_0 rfl (lv_at hl 0 rfl) ?_
  refine lv_if_lt (tgt := 9) hx hb dJ3_checkIndex_8e157_1 (by decide) (fun c_ => absurd c_ (by decide +kernel)) (fun _ => ?_)
  refine lv_iload_n hx hb dJ3_checkIndex_8e157_4 rfl (lv_at hl 0 rfl) ?_
  refine lv_iload_n hx hb dJ3_checkIndex_8e157_5 rfl (lv_at hl 1 rfl) ?_
  refine lv_icmp_lt (tgt := 16) hx hb dJ3_checkIndex_8e157_6 (by decide) (fun _ => ?_) (fun c_ => absurd (by decide +kernel) c_)
  refine lv_iload_n hx hb dJ3_checkIndex_8e157_16 rfl (lv_at hl 0 rfl) ?_
  exact W.iret (v := 5) hx hb hr (fun t ht hW => ⟨⟨5, (), rfl, rfl, kB_end (w9 := []) (t9 := []) hP hK hD [] [] rfl (by decide) rfl rfl t ht hW⟩, hS.F ht⟩) hS.2.2 dJ3_checkIndex_8e157_17
abbrev wd_k_schk_5 (_z : Nat → Nat) : va_W := []
set_option maxHeartbeats 4000000 in
set_option maxRecDepth 100000 in
theorem k_schk_5 (l : Launch) (dC : Nat → ClassId) (dI : Nat → Nat → Nat) (z zK zV : Nat → Nat)  (sz : Nat)  : Met l yJ0_checkIndex_df160 wsJ0_checkIndex_df160 ({ frames := 1, cells := 0, slots := 0, locals := 22 }) (kP dC dI z zK zV [.int 5, .int 9] sz (wd_k_schk_5 z) []) (va_Qv (fun _ : Unit => True) (fun _ t => kB (dC, dI) (va_A (wd_k_schk_5 z) sz) [] [] t) (va_A (wd_k_schk_5 z) sz)) 0 0 (va_A (wd_k_schk_5 z) sz) := by
  refine Met.ofW (cc := cJ0_checkIndex_df160) (maxL := 2) (ret := none) (by decide) rfl ?_
  intro p e s m args below meth c s₁ B hml hv
  obtain ⟨rfl, hsz, hP, hK, hD0, hM⟩ := hv
  have hx := B.exec
  have hb := B.bytes
  have hr := B.returns
  have hts := atoms_spec (ws := wsJ0_checkIndex_df160) B.pre
  have hown : s.vm.findClass RJ0 = some m.cls := findClass_of_methodNamed B.named
  have hlocks := B.notSynchronized
  subst hsz
  have hD := hD0.self (sz := s.heap.size)
  generalize hAe : va_A (wd_k_schk_5 z) s.heap.size = A at hD hM ⊢
  have hA : ∀ q : Nat, s.heap.size ≤ q → A q := fun q h => by rw [← hAe]; exact Or.inr h
  have hS : va_S A s.heap s.heap [] := va_S.rf
  have hP : va_P (dC, dI) vwCl [] s.heap := hP
  have hD : va_D A [] := hD
  have hl := lv_entry ([.int 5, .int 9]) (n := 2) (Nat.le_of_ble_eq_true rfl)
  rw [lg_entry_eq]
  generalize (lg_sl ([.int 5, .int 9]) ++ List.replicate (2 - (lg_sl ([.int 5, .int 9])).length) Slot.unset).toArray = ls at hl ⊢
  have hl : lv_has ls 2 [(0, .int 5), (1, .int 9)] := hl
  refine lv_iload_n hx hb dJ0_checkIndex_df160_0 rfl (lv_at hl 0 rfl) ?_
  refine lv_iload_n hx hb dJ0_checkIndex_df160_1 rfl (lv_at hl 1 rfl) ?_
  rcases hM.2.2.2.2.2.2.2.2.2.2.2 with hZ | ⟨tZ, hZ⟩
  · skip
    refine va_gets (v := .null) hx hb hZ hS hown (hts (.fieldLink RJ0 1053 "jdk/internal/util/Preconditions" "SIOOBE_FORMATTER" "Ljava/util/function/BiFunction;") (by decide +kernel)) (fun _ h9 => h9) dJ0_checkIndex_df160_2 ?_
    have hPc := hP.sub (ws' := []) [] rfl
    have hDc := hD.sub (ws' := []) [] (by decide) rfl
    have hKc := hK.sub (tys' := []) [] rfl
    have hFc := va_free (wc := []) hD hS hA [] rfl
    refine va_calli (va_runS (As := [.int 5, .int 9, .null]) (rest := []) ⟨hx, hb, hml, hown, hts⟩ (k_lchk3_5 l dC dI z zK zV  s.heap.size) (va_cwS 3 hts gJ0_checkIndex_df160_J3_checkIndex_8e157 rfl rfl rfl (by decide +kernel) ⟨Nat.le_of_ble_eq_true rfl, Nat.le_of_ble_eq_true rfl⟩) ⟨kP_blind, kP_go hPc hKc hDc hFc hM hS⟩ rfl rfl hl.1 rfl (lv_room (Nat.le_of_ble_eq_true rfl)) dJ0_checkIndex_df160_5 ⟨Nat.le_of_ble_eq_true rfl, Nat.le_of_ble_eq_true rfl⟩) hS (fun q _ h => hFc q h) hFc (fun r1 u t H1 locs ht hvm hw hB hz1 hk1 hS => ?_)
    obtain ⟨hP, hD, hK⟩ := kJ (wr := []) (w1 := []) (t1 := []) hP hD hK [] [] rfl rfl (by decide) (by decide) hk1 hFc ht hvm hB
    generalize H1 = H at hP hS ⊢
    have hP : va_P (dC, dI) vwCl [] H := hP
    have hD : va_D A [] := hD
    have hK : va_K (dC, dI) vwCl [] s := hK
    obtain rfl : 5 = r1 := hw
    refine lv_pop hx hb dJ0_checkIndex_df160_8 rfl ?_
    exact W.vret hx hb hr (fun t ht hW => ⟨⟨(), rfl, trivial, kB_end (w9 := []) (t9 := []) hP hK hD [] [] rfl (by decide) rfl rfl t ht hW⟩, hS.F ht⟩) hS.2.2 dJ0_checkIndex_df160_9
  · skip
    refine va_gets (v := .ref tZ) hx hb hZ hS hown (hts (.fieldLink RJ0 1053 "jdk/internal/util/Preconditions" "SIOOBE_FORMATTER" "Ljava/util/function/BiFunction;") (by decide +kernel)) (fun _ h9 => h9) dJ0_checkIndex_df160_2 ?_
    have hPc := hP.sub (ws' := []) [] rfl
    have hDc := hD.sub (ws' := []) [] (by decide) rfl
    have hKc := hK.sub (tys' := []) [] rfl
    have hFc := va_free (wc := []) hD hS hA [] rfl
    refine va_calli (va_runS (As := [.int 5, .int 9, .ref tZ]) (rest := []) ⟨hx, hb, hml, hown, hts⟩ (k_lchkR_5 l dC dI z zK zV tZ s.heap.size) (va_cwS 3 hts gJ0_checkIndex_df160_J3_checkIndex_8e157 rfl rfl rfl (by decide +kernel) ⟨Nat.le_of_ble_eq_true rfl, Nat.le_of_ble_eq_true rfl⟩) ⟨kP_blind, kP_go hPc hKc hDc hFc hM hS⟩ rfl rfl hl.1 rfl (lv_room (Nat.le_of_ble_eq_true rfl)) dJ0_checkIndex_df160_5 ⟨Nat.le_of_ble_eq_true rfl, Nat.le_of_ble_eq_true rfl⟩) hS (fun q _ h => hFc q h) hFc (fun r2 u t H1 locs ht hvm hw hB hz1 hk1 hS => ?_)
    obtain ⟨hP, hD, hK⟩ := kJ (wr := []) (w1 := []) (t1 := []) hP hD hK [] [] rfl rfl (by decide) (by decide) hk1 hFc ht hvm hB
    generalize H1 = H at hP hS ⊢
    have hP : va_P (dC, dI) vwCl [] H := hP
    have hD : va_D A [] := hD
    have hK : va_K (dC, dI) vwCl [] s := hK
    obtain rfl : 5 = r2 := hw
    refine lv_pop hx hb dJ0_checkIndex_df160_8 rfl ?_
    exact W.vret hx hb hr (fun t ht hW => ⟨⟨(), rfl, trivial, kB_end (w9 := []) (t9 := []) hP hK hD [] [] rfl (by decide) rfl rfl t ht hW⟩, hS.F ht⟩) hS.2.2 dJ0_checkIndex_df160_9
abbrev wd_k_lchk3_6 (_z : Nat → Nat) : va_W := []
set_option maxHeartbeats 4000000 in
set_option maxRecDepth 100000 in
theorem k_lchk3_6 (l : Launch) (dC : Nat → ClassId) (dI : Nat → Nat → Nat) (z zK zV : Nat → Nat)  (sz : Nat)  : Met l yJ3_checkIndex_8e157 wsJ3_checkIndex_8e157 ({ frames := 0, cells := 0, slots := 0, locals := 0 }) (kP dC dI z zK zV [.int 6, .int 9, .null] sz (wd_k_lchk3_6 z) []) (va_Qi (fun (r : Int32) (_ : Unit) => 6 = r) (fun _ t => kB (dC, dI) (va_A (wd_k_lchk3_6 z) sz) [] [] t) (va_A (wd_k_lchk3_6 z) sz)) 0 0 (va_A (wd_k_lchk3_6 z) sz) := by
  refine Met.ofW (cc := cJ3_checkIndex_8e157) (maxL := 3) (ret := (some .int)) (by decide) rfl ?_
  intro p e s m args below meth c s₁ B hml hv
  obtain ⟨rfl, hsz, hP, hK, hD0, hM⟩ := hv
  have hx := B.exec
  have hb := B.bytes
  have hr := B.returns
  have hts := atoms_spec (ws := wsJ3_checkIndex_8e157) B.pre
  have hown : s.vm.findClass RJ3 = some m.cls := findClass_of_methodNamed B.named
  have hlocks := B.notSynchronized
  subst hsz
  have hD := hD0.self (sz := s.heap.size)
  generalize hAe : va_A (wd_k_lchk3_6 z) s.heap.size = A at hD hM ⊢
  have hA : ∀ q : Nat, s.heap.size ≤ q → A q := fun q h => by rw [← hAe]; exact Or.inr h
  have hS : va_S A s.heap s.heap [] := va_S.rf
  have hP : va_P (dC, dI) vwCl [] s.heap := hP
  have hD : va_D A [] := hD
  have hl := lv_entry ([.int 6, .int 9, .null]) (n := 3) (Nat.le_of_ble_eq_true rfl)
  rw [lg_entry_eq]
  generalize (lg_sl ([.int 6, .int 9, .null]) ++ List.replicate (3 - (lg_sl ([.int 6, .int 9, .null])).length) Slot.unset).toArray = ls at hl ⊢
  have hl : lv_has ls 3 [(0, .int 6), (1, .int 9), (2, .null)] := hl
  refine lv_iload_n hx hb dJ3_checkIndex_8e157_0 rfl (lv_at hl 0 rfl) ?_
  refine lv_if_lt (tgt := 9) hx hb dJ3_checkIndex_8e157_1 (by decide) (fun c_ => absurd c_ (by decide +kernel)) (fun _ => ?_)
  refine lv_iload_n hx hb dJ3_checkIndex_8e157_4 rfl (lv_at hl 0 rfl) ?_
  refine lv_iload_n hx hb dJ3_checkIndex_8e157_5 rfl (lv_at hl 1 rfl) ?_
  refine lv_icmp_lt (tgt := 16) hx hb dJ3_checkIndex_8e157_6 (by decide) (fun _ => ?_) (fun c_ => absurd (by decide +kernel) c_)
  refine lv_iload_n hx hb dJ3_checkIndex_8e157_16 rfl (lv_at hl 0 rfl) ?_
  exact W.iret (v := 6) hx hb hr (fun t ht hW => ⟨⟨6, (), rfl, rfl, kB_end (w9 := []) (t9 := []) hP hK hD [] [] rfl (by decide) rfl rfl t ht hW⟩, hS.F ht⟩) hS.2.2 dJ3_checkIndex_8e157_17
abbrev wd_k_lchkR_6 (z : Nat → Nat) (f0 : Nat) : va_W := []
set_option maxHeartbeats 4000000 in
set_option maxRecDepth 100000 in
theorem k_lchkR_6 (l : Launch) (dC : Nat → ClassId) (dI : Nat → Nat → Nat) (z zK zV : Nat → Nat) (f0 : Nat) (sz : Nat)  : Met l yJ3_checkIndex_8e157 wsJ3_checkIndex_8e157 ({ frames := 0, cells := 0, slots := 0, locals := 0 }) (kP dC dI z zK zV [.int 6, .int 9, .ref f0] sz (wd_k_lchkR_6 z f0) []) (va_Qi (fun (r : Int32) (_ : Unit) => 6 = r) (fun _ t => kB (dC, dI) (va_A (wd_k_lchkR_6 z f0) sz) [] [] t) (va_A (wd_k_lchkR_6 z f0) sz)) 0 0 (va_A (wd_k_lchkR_6 z f0) sz) := by
  refine Met.ofW (cc := cJ3_checkIndex_8e157) (maxL := 3) (ret := (some .int)) (by decide) rfl ?_
  intro p e s m args below meth c s₁ B hml hv
  obtain ⟨rfl, hsz, hP, hK, hD0, hM⟩ := hv
  have hx := B.exec
  have hb := B.bytes
  have hr := B.returns
  have hts := atoms_spec (ws := wsJ3_checkIndex_8e157) B.pre
  have hown : s.vm.findClass RJ3 = some m.cls := findClass_of_methodNamed B.named
  have hlocks := B.notSynchronized
  subst hsz
  have hD := hD0.self (sz := s.heap.size)
  generalize hAe : va_A (wd_k_lchkR_6 z f0) s.heap.size = A at hD hM ⊢
  have hA : ∀ q : Nat, s.heap.size ≤ q → A q := fun q h => by rw [← hAe]; exact Or.inr h
  have hS : va_S A s.heap s.heap [] := va_S.rf
  have hP : va_P (dC, dI) vwCl [] s.heap := hP
  have hD : va_D A [] := hD
  have hl := lv_entry ([.int 6, .int 9, .ref f0]) (n := 3) (Nat.le_of_ble_eq_true rfl)
  rw [lg_entry_eq]
  generalize (lg_sl ([.int 6, .int 9, .ref f0]) ++ List.replicate (3 - (lg_sl ([.int 6, .int 9, .ref f0])).length) Slot.unset).toArray = ls at hl ⊢
  have hl : lv_has ls 3 [(0, .int 6), (1, .int 9), (2, .ref f0)] := hl
  refine lv_iload_n hx hb dJ3_checkIndex_8e157_0 rfl (lv_at hl 0 rfl) ?_
  refine lv_if_lt (tgt := 9) hx hb dJ3_checkIndex_8e157_1 (by decide) (fun c_ => absurd c_ (by decide +kernel)) (fun _ => ?_)
  refine lv_iload_n hx hb dJ3_checkIndex_8e157_4 rfl (lv_at hl 0 rfl) ?_
  refine lv_iload_n hx hb dJ3_checkIndex_8e157_5 rfl (lv_at hl 1 rfl) ?_
  refine lv_icmp_lt (tgt := 16) hx hb dJ3_checkIndex_8e157_6 (by decide) (fun _ => ?_) (fun c_ => absurd (by decide +kernel) c_)
  refine lv_iload_n hx hb dJ3_checkIndex_8e157_16 rfl (lv_at hl 0 rfl) ?_
  exact W.iret (v := 6) hx hb hr (fun t ht hW => ⟨⟨6, (), rfl, rfl, kB_end (w9 := []) (t9 := []) hP hK hD [] [] rfl (by decide) rfl rfl t ht hW⟩, hS.F ht⟩) hS.2.2 dJ3_checkIndex_8e157_17
abbrev wd_k_schk_6 (_z : Nat → Nat) : va_W := []
set_option maxHeartbeats 4000000 in
set_option maxRecDepth 100000 in
theorem k_schk_6 (l : Launch) (dC : Nat → ClassId) (dI : Nat → Nat → Nat) (z zK zV : Nat → Nat)  (sz : Nat)  : Met l yJ0_checkIndex_df160 wsJ0_checkIndex_df160 ({ frames := 1, cells := 0, slots := 0, locals := 22 }) (kP dC dI z zK zV [.int 6, .int 9] sz (wd_k_schk_6 z) []) (va_Qv (fun _ : Unit => True) (fun _ t => kB (dC, dI) (va_A (wd_k_schk_6 z) sz) [] [] t) (va_A (wd_k_schk_6 z) sz)) 0 0 (va_A (wd_k_schk_6 z) sz) := by
  refine Met.ofW (cc := cJ0_checkIndex_df160) (maxL := 2) (ret := none) (by decide) rfl ?_
  intro p e s m args below meth c s₁ B hml hv
  obtain ⟨rfl, hsz, hP, hK, hD0, hM⟩ := hv
  have hx := B.exec
  have hb := B.bytes
  have hr := B.returns
  have hts := atoms_spec (ws := wsJ0_checkIndex_df160) B.pre
  have hown : s.vm.findClass RJ0 = some m.cls := findClass_of_methodNamed B.named
  have hlocks := B.notSynchronized
  subst hsz
  have hD := hD0.self (sz := s.heap.size)
  generalize hAe : va_A (wd_k_schk_6 z) s.heap.size = A at hD hM ⊢
  have hA : ∀ q : Nat, s.heap.size ≤ q → A q := fun q h => by rw [← hAe]; exact Or.inr h
  have hS : va_S A s.heap s.heap [] := va_S.rf
  have hP : va_P (dC, dI) vwCl [] s.heap := hP
  have hD : va_D A [] := hD
  have hl := lv_entry ([.int 6, .int 9]) (n := 2) (Nat.le_of_ble_eq_true rfl)
  rw [lg_entry_eq]
  generalize (lg_sl ([.int 6, .int 9]) ++ List.replicate (2 - (lg_sl ([.int 6, .int 9])).length) Slot.unset).toArray = ls at hl ⊢
  have hl : lv_has ls 2 [(0, .int 6), (1, .int 9)] := hl
  refine lv_iload_n hx hb dJ0_checkIndex_df160_0 rfl (lv_at hl 0 rfl) ?_
  refine lv_iload_n hx hb dJ0_checkIndex_df160_1 rfl (lv_at hl 1 rfl) ?_
  rcases hM.2.2.2.2.2.2.2.2.2.2.2 with hZ | ⟨tZ, hZ⟩
  · skip
    refine va_gets (v := .null) hx hb hZ hS hown (hts (.fieldLink RJ0 1053 "jdk/internal/util/Preconditions" "SIOOBE_FORMATTER" "Ljava/util/function/BiFunction;") (by decide +kernel)) (fun _ h9 => h9) dJ0_checkIndex_df160_2 ?_
    have hPc := hP.sub (ws' := []) [] rfl
    have hDc := hD.sub (ws' := []) [] (by decide) rfl
    have hKc := hK.sub (tys' := []) [] rfl
    have hFc := va_free (wc := []) hD hS hA [] rfl
    refine va_calli (va_runS (As := [.int 6, .int 9, .null]) (rest := []) ⟨hx, hb, hml, hown, hts⟩ (k_lchk3_6 l dC dI z zK zV  s.heap.size) (va_cwS 3 hts gJ0_checkIndex_df160_J3_checkIndex_8e157 rfl rfl rfl (by decide +kernel) ⟨Nat.le_of_ble_eq_true rfl, Nat.le_of_ble_eq_true rfl⟩) ⟨kP_blind, kP_go hPc hKc hDc hFc hM hS⟩ rfl rfl hl.1 rfl (lv_room (Nat.le_of_ble_eq_true rfl)) dJ0_checkIndex_df160_5 ⟨Nat.le_of_ble_eq_true rfl, Nat.le_of_ble_eq_true rfl⟩) hS (fun q _ h => hFc q h) hFc (fun r1 u t H1 locs ht hvm hw hB hz1 hk1 hS => ?_)
    obtain ⟨hP, hD, hK⟩ := kJ (wr := []) (w1 := []) (t1 := []) hP hD hK [] [] rfl rfl (by decide) (by decide) hk1 hFc ht hvm hB
    generalize H1 = H at hP hS ⊢
    have hP : va_P (dC, dI) vwCl [] H := hP
    have hD : va_D A [] := hD
    have hK : va_K (dC, dI) vwCl [] s := hK
    obtain rfl : 6 = r1 := hw
    refine lv_pop hx hb dJ0_checkIndex_df160_8 rfl ?_
    exact W.vret hx hb hr (fun t ht hW => ⟨⟨(), rfl, trivial, kB_end (w9 := []) (t9 := []) hP hK hD [] [] rfl (by decide) rfl rfl t ht hW⟩, hS.F ht⟩) hS.2.2 dJ0_checkIndex_df160_9
  · skip
    refine va_gets (v := .ref tZ) hx hb hZ hS hown (hts (.fieldLink RJ0 1053 "jdk/internal/util/Preconditions" "SIOOBE_FORMATTER" "Ljava/util/function/BiFunction;") (by decide +kernel)) (fun _ h9 => h9) dJ0_checkIndex_df160_2 ?_
    have hPc := hP.sub (ws' := []) [] rfl
    have hDc := hD.sub (ws' := []) [] (by decide) rfl
    have hKc := hK.sub (tys' := []) [] rfl
    have hFc := va_free (wc := []) hD hS hA [] rfl
    refine va_calli (va_runS (As := [.int 6, .int 9, .ref tZ]) (rest := []) ⟨hx, hb, hml, hown, hts⟩ (k_lchkR_6 l dC dI z zK zV tZ s.heap.size) (va_cwS 3 hts gJ0_checkIndex_df160_J3_checkIndex_8e157 rfl rfl rfl (by decide +kernel) ⟨Nat.le_of_ble_eq_true rfl, Nat.le_of_ble_eq_true rfl⟩) ⟨kP_blind, kP_go hPc hKc hDc hFc hM hS⟩ rfl rfl hl.1 rfl (lv_room (Nat.le_of_ble_eq_true rfl)) dJ0_checkIndex_df160_5 ⟨Nat.le_of_ble_eq_true rfl, Nat.le_of_ble_eq_true rfl⟩) hS (fun q _ h => hFc q h) hFc (fun r2 u t H1 locs ht hvm hw hB hz1 hk1 hS => ?_)
    obtain ⟨hP, hD, hK⟩ := kJ (wr := []) (w1 := []) (t1 := []) hP hD hK [] [] rfl rfl (by decide) (by decide) hk1 hFc ht hvm hB
    generalize H1 = H at hP hS ⊢
    have hP : va_P (dC, dI) vwCl [] H := hP
    have hD : va_D A [] := hD
    have hK : va_K (dC, dI) vwCl [] s := hK
    obtain rfl : 6 = r2 := hw
    refine lv_pop hx hb dJ0_checkIndex_df160_8 rfl ?_
    exact W.vret hx hb hr (fun t ht hW => ⟨⟨(), rfl, trivial, kB_end (w9 := []) (t9 := []) hP hK hD [] [] rfl (by decide) rfl rfl t ht hW⟩, hS.F ht⟩) hS.2.2 dJ0_checkIndex_df160_9
abbrev wd_k_lchk3_7 (_z : Nat → Nat) : va_W := []
set_option maxHeartbeats 4000000 in
set_option maxRecDepth 100000 in
theorem k_lchk3_7 (l : Launch) (dC : Nat → ClassId) (dI : Nat → Nat → Nat) (z zK zV : Nat → Nat)  (sz : Nat)  : Met l yJ3_checkIndex_8e157 wsJ3_checkIndex_8e157 ({ frames := 0, cells := 0, slots := 0, locals := 0 }) (kP dC dI z zK zV [.int 7, .int 9, .null] sz (wd_k_lchk3_7 z) []) (va_Qi (fun (r : Int32) (_ : Unit) => 7 = r) (fun _ t => kB (dC, dI) (va_A (wd_k_lchk3_7 z) sz) [] [] t) (va_A (wd_k_lchk3_7 z) sz)) 0 0 (va_A (wd_k_lchk3_7 z) sz) := by
  refine Met.ofW (cc := cJ3_checkIndex_8e157) (maxL := 3) (ret := (some .int)) (by decide) rfl ?_
  intro p e s m args below meth c s₁ B hml hv
  obtain ⟨rfl, hsz, hP, hK, hD0, hM⟩ := hv
  have hx := B.exec
  have hb := B.bytes
  have hr := B.returns
  have hts := atoms_spec (ws := wsJ3_checkIndex_8e157) B.pre
  have hown : s.vm.findClass RJ3 = some m.cls := findClass_of_methodNamed B.named
  have hlocks := B.notSynchronized
  subst hsz
  have hD := hD0.self (sz := s.heap.size)
  generalize hAe : va_A (wd_k_lchk3_7 z) s.heap.size = A at hD hM ⊢
  have hA : ∀ q : Nat, s.heap.size ≤ q → A q := fun q h => by rw [← hAe]; exact Or.inr h
  have hS : va_S A s.heap s.heap [] := va_S.rf
  have hP : va_P (dC, dI) vwCl [] s.heap := hP
  have hD : va_D A [] := hD
  have hl := lv_entry ([.int 7, .int 9, .null]) (n := 3) (Nat.le_of_ble_eq_true rfl)
  rw [lg_entry_eq]
  generalize (lg_sl ([.int 7, .int 9, .null]) ++ List.replicate (3 - (lg_sl ([.int 7, .int 9, .null])).length) Slot.unset).toArray = ls at hl ⊢
  have hl : lv_has ls 3 [(0, .int 7), (1, .int 9), (2, .null)] := hl
  refine lv_iload_n hx hb dJ3_checkIndex_8e157_0 rfl (lv_at hl 0 rfl) ?_
  refine lv_if_lt (tgt := 9) hx hb dJ3_checkIndex_8e157_1 (by decide) (fun c_ => absurd c_ (by decide +kernel)) (fun _ => ?_)
  refine lv_iload_n hx hb dJ3_checkIndex_8e157_4 rfl (lv_at hl 0 rfl) ?_
  refine lv_iload_n hx hb dJ3_checkIndex_8e157_5 rfl (lv_at hl 1 rfl) ?_
  refine lv_icmp_lt (tgt := 16) hx hb dJ3_checkIndex_8e157_6 (by decide) (fun _ => ?_) (fun c_ => absurd (by decide +kernel) c_)
  refine lv_iload_n hx hb dJ3_checkIndex_8e157_16 rfl (lv_at hl 0 rfl) ?_
  exact W.iret (v := 7) hx hb hr (fun t ht hW => ⟨⟨7, (), rfl, rfl, kB_end (w9 := []) (t9 := []) hP hK hD [] [] rfl (by decide) rfl rfl t ht hW⟩, hS.F ht⟩) hS.2.2 dJ3_checkIndex_8e157_17
abbrev wd_k_lchkR_7 (z : Nat → Nat) (f0 : Nat) : va_W := []
set_option maxHeartbeats 4000000 in
set_option maxRecDepth 100000 in
theorem k_lchkR_7 (l : Launch) (dC : Nat → ClassId) (dI : Nat → Nat → Nat) (z zK zV : Nat → Nat) (f0 : Nat) (sz : Nat)  : Met l yJ3_checkIndex_8e157 wsJ3_checkIndex_8e157 ({ frames := 0, cells := 0, slots := 0, locals := 0 }) (kP dC dI z zK zV [.int 7, .int 9, .ref f0] sz (wd_k_lchkR_7 z f0) []) (va_Qi (fun (r : Int32) (_ : Unit) => 7 = r) (fun _ t => kB (dC, dI) (va_A (wd_k_lchkR_7 z f0) sz) [] [] t) (va_A (wd_k_lchkR_7 z f0) sz)) 0 0 (va_A (wd_k_lchkR_7 z f0) sz) := by
  refine Met.ofW (cc := cJ3_checkIndex_8e157) (maxL := 3) (ret := (some .int)) (by decide) rfl ?_
  intro p e s m args below meth c s₁ B hml hv
  obtain ⟨rfl, hsz, hP, hK, hD0, hM⟩ := hv
  have hx := B.exec
  have hb := B.bytes
  have hr := B.returns
  have hts := atoms_spec (ws := wsJ3_checkIndex_8e157) B.pre
  have hown : s.vm.findClass RJ3 = some m.cls := findClass_of_methodNamed B.named
  have hlocks := B.notSynchronized
  subst hsz
  have hD := hD0.self (sz := s.heap.size)
  generalize hAe : va_A (wd_k_lchkR_7 z f0) s.heap.size = A at hD hM ⊢
  have hA : ∀ q : Nat, s.heap.size ≤ q → A q := fun q h => by rw [← hAe]; exact Or.inr h
  have hS : va_S A s.heap s.heap [] := va_S.rf
  have hP : va_P (dC, dI) vwCl [] s.heap := hP
  have hD : va_D A [] := hD
  have hl := lv_entry ([.int 7, .int 9, .ref f0]) (n := 3) (Nat.le_of_ble_eq_true rfl)
  rw [lg_entry_eq]
  generalize (lg_sl ([.int 7, .int 9, .ref f0]) ++ List.replicate (3 - (lg_sl ([.int 7, .int 9, .ref f0])).length) Slot.unset).toArray = ls at hl ⊢
  have hl : lv_has ls 3 [(0, .int 7), (1, .int 9), (2, .ref f0)] := hl
  refine lv_iload_n hx hb dJ3_checkIndex_8e157_0 rfl (lv_at hl 0 rfl) ?_
  refine lv_if_lt (tgt := 9) hx hb dJ3_checkIndex_8e157_1 (by decide) (fun c_ => absurd c_ (by decide +kernel)) (fun _ => ?_)
  refine lv_iload_n hx hb dJ3_checkIndex_8e157_4 rfl (lv_at hl 0 rfl) ?_
  refine lv_iload_n hx hb dJ3_checkIndex_8e157_5 rfl (lv_at hl 1 rfl) ?_
  refine lv_icmp_lt (tgt := 16) hx hb dJ3_checkIndex_8e157_6 (by decide) (fun _ => ?_) (fun c_ => absurd (by decide +kernel) c_)
  refine lv_iload_n hx hb dJ3_checkIndex_8e157_16 rfl (lv_at hl 0 rfl) ?_
  exact W.iret (v := 7) hx hb hr (fun t ht hW => ⟨⟨7, (), rfl, rfl, kB_end (w9 := []) (t9 := []) hP hK hD [] [] rfl (by decide) rfl rfl t ht hW⟩, hS.F ht⟩) hS.2.2 dJ3_checkIndex_8e157_17
abbrev wd_k_schk_7 (_z : Nat → Nat) : va_W := []
set_option maxHeartbeats 4000000 in
set_option maxRecDepth 100000 in
theorem k_schk_7 (l : Launch) (dC : Nat → ClassId) (dI : Nat → Nat → Nat) (z zK zV : Nat → Nat)  (sz : Nat)  : Met l yJ0_checkIndex_df160 wsJ0_checkIndex_df160 ({ frames := 1, cells := 0, slots := 0, locals := 22 }) (kP dC dI z zK zV [.int 7, .int 9] sz (wd_k_schk_7 z) []) (va_Qv (fun _ : Unit => True) (fun _ t => kB (dC, dI) (va_A (wd_k_schk_7 z) sz) [] [] t) (va_A (wd_k_schk_7 z) sz)) 0 0 (va_A (wd_k_schk_7 z) sz) := by
  refine Met.ofW (cc := cJ0_checkIndex_df160) (maxL := 2) (ret := none) (by decide) rfl ?_
  intro p e s m args below meth c s₁ B hml hv
  obtain ⟨rfl, hsz, hP, hK, hD0, hM⟩ := hv
  have hx := B.exec
  have hb := B.bytes
  have hr := B.returns
  have hts := atoms_spec (ws := wsJ0_checkIndex_df160) B.pre
  have hown : s.vm.findClass RJ0 = some m.cls := findClass_of_methodNamed B.named
  have hlocks := B.notSynchronized
  subst hsz
  have hD := hD0.self (sz := s.heap.size)
  generalize hAe : va_A (wd_k_schk_7 z) s.heap.size = A at hD hM ⊢
  have hA : ∀ q : Nat, s.heap.size ≤ q → A q := fun q h => by rw [← hAe]; exact Or.inr h
  have hS : va_S A s.heap s.heap [] := va_S.rf
  have hP : va_P (dC, dI) vwCl [] s.heap := hP
  have hD : va_D A [] := hD
  have hl := lv_entry ([.int 7, .int 9]) (n := 2) (Nat.le_of_ble_eq_true rfl)
  rw [lg_entry_eq]
  generalize (lg_sl ([.int 7, .int 9]) ++ List.replicate (2 - (lg_sl ([.int 7, .int 9])).length) Slot.unset).toArray = ls at hl ⊢
  have hl : lv_has ls 2 [(0, .int 7), (1, .int 9)] := hl
  refine lv_iload_n hx hb dJ0_checkIndex_df160_0 rfl (lv_at hl 0 rfl) ?_
  refine lv_iload_n hx hb dJ0_checkIndex_df160_1 rfl (lv_at hl 1 rfl) ?_
  rcases hM.2.2.2.2.2.2.2.2.2.2.2 with hZ | ⟨tZ, hZ⟩
  · skip
    refine va_gets (v := .null) hx hb hZ hS hown (hts (.fieldLink RJ0 1053 "jdk/internal/util/Preconditions" "SIOOBE_FORMATTER" "Ljava/util/function/BiFunction;") (by decide +kernel)) (fun _ h9 => h9) dJ0_checkIndex_df160_2 ?_
    have hPc := hP.sub (ws' := []) [] rfl
    have hDc := hD.sub (ws' := []) [] (by decide) rfl
    have hKc := hK.sub (tys' := []) [] rfl
    have hFc := va_free (wc := []) hD hS hA [] rfl
    refine va_calli (va_runS (As := [.int 7, .int 9, .null]) (rest := []) ⟨hx, hb, hml, hown, hts⟩ (k_lchk3_7 l dC dI z zK zV  s.heap.size) (va_cwS 3 hts gJ0_checkIndex_df160_J3_checkIndex_8e157 rfl rfl rfl (by decide +kernel) ⟨Nat.le_of_ble_eq_true rfl, Nat.le_of_ble_eq_true rfl⟩) ⟨kP_blind, kP_go hPc hKc hDc hFc hM hS⟩ rfl rfl hl.1 rfl (lv_room (Nat.le_of_ble_eq_true rfl)) dJ0_checkIndex_df160_5 ⟨Nat.le_of_ble_eq_true rfl, Nat.le_of_ble_eq_true rfl⟩) hS (fun q _ h => hFc q h) hFc (fun r1 u t H1 locs ht hvm hw hB hz1 hk1 hS => ?_)
    obtain ⟨hP, hD, hK⟩ := kJ (wr := []) (w1 := []) (t1 := []) hP hD hK [] [] rfl rfl (by decide) (by decide) hk1 hFc ht hvm hB
    generalize H1 = H at hP hS ⊢
    have hP : va_P (dC, dI) vwCl [] H := hP
    have hD : va_D A [] := hD
    have hK : va_K (dC, dI) vwCl [] s := hK
    obtain rfl : 7 = r1 := hw
    refine lv_pop hx hb dJ0_checkIndex_df160_8 rfl ?_
    exact W.vret hx hb hr (fun t ht hW => ⟨⟨(), rfl, trivial, kB_end (w9 := []) (t9 := []) hP hK hD [] [] rfl (by decide) rfl rfl t ht hW⟩, hS.F ht⟩) hS.2.2 dJ0_checkIndex_df160_9
  · skip
    refine va_gets (v := .ref tZ) hx hb hZ hS hown (hts (.fieldLink RJ0 1053 "jdk/internal/util/Preconditions" "SIOOBE_FORMATTER" "Ljava/util/function/BiFunction;") (by decide +kernel)) (fun _ h9 => h9) dJ0_checkIndex_df160_2 ?_
    have hPc := hP.sub (ws' := []) [] rfl
    have hDc := hD.sub (ws' := []) [] (by decide) rfl
    have hKc := hK.sub (tys' := []) [] rfl
    have hFc := va_free (wc := []) hD hS hA [] rfl
    refine va_calli (va_runS (As := [.int 7, .int 9, .ref tZ]) (rest := []) ⟨hx, hb, hml, hown, hts⟩ (k_lchkR_7 l dC dI z zK zV tZ s.heap.size) (va_cwS 3 hts gJ0_checkIndex_df160_J3_checkIndex_8e157 rfl rfl rfl (by decide +kernel) ⟨Nat.le_of_ble_eq_true rfl, Nat.le_of_ble_eq_true rfl⟩) ⟨kP_blind, kP_go hPc hKc hDc hFc hM hS⟩ rfl rfl hl.1 rfl (lv_room (Nat.le_of_ble_eq_true rfl)) dJ0_checkIndex_df160_5 ⟨Nat.le_of_ble_eq_true rfl, Nat.le_of_ble_eq_true rfl⟩) hS (fun q _ h => hFc q h) hFc (fun r2 u t H1 locs ht hvm hw hB hz1 hk1 hS => ?_)
    obtain ⟨hP, hD, hK⟩ := kJ (wr := []) (w1 := []) (t1 := []) hP hD hK [] [] rfl rfl (by decide) (by decide) hk1 hFc ht hvm hB
    generalize H1 = H at hP hS ⊢
    have hP : va_P (dC, dI) vwCl [] H := hP
    have hD : va_D A [] := hD
    have hK : va_K (dC, dI) vwCl [] s := hK
    obtain rfl : 7 = r2 := hw
    refine lv_pop hx hb dJ0_checkIndex_df160_8 rfl ?_
    exact W.vret hx hb hr (fun t ht hW => ⟨⟨(), rfl, trivial, kB_end (w9 := []) (t9 := []) hP hK hD [] [] rfl (by decide) rfl rfl t ht hW⟩, hS.F ht⟩) hS.2.2 dJ0_checkIndex_df160_9
abbrev wd_k_lchk3_8 (_z : Nat → Nat) : va_W := []
set_option maxHeartbeats 4000000 in
set_option maxRecDepth 100000 in
theorem k_lchk3_8 (l : Launch) (dC : Nat → ClassId) (dI : Nat → Nat → Nat) (z zK zV : Nat → Nat)  (sz : Nat)  : Met l yJ3_checkIndex_8e157 wsJ3_checkIndex_8e157 ({ frames := 0, cells := 0, slots := 0, locals := 0 }) (kP dC dI z zK zV [.int 8, .int 9, .null] sz (wd_k_lchk3_8 z) []) (va_Qi (fun (r : Int32) (_ : Unit) => 8 = r) (fun _ t => kB (dC, dI) (va_A (wd_k_lchk3_8 z) sz) [] [] t) (va_A (wd_k_lchk3_8 z) sz)) 0 0 (va_A (wd_k_lchk3_8 z) sz) := by
  refine Met.ofW (cc := cJ3_checkIndex_8e157) (maxL := 3) (ret := (some .int)) (by decide) rfl ?_
  intro p e s m args below meth c s₁ B hml hv
  obtain ⟨rfl, hsz, hP, hK, hD0, hM⟩ := hv
  have hx := B.exec
  have hb := B.bytes
  have hr := B.returns
  have hts := atoms_spec (ws := wsJ3_checkIndex_8e157) B.pre
  have hown : s.vm.findClass RJ3 = some m.cls := findClass_of_methodNamed B.named
  have hlocks := B.notSynchronized
  subst hsz
  have hD := hD0.self (sz := s.heap.size)
  generalize hAe : va_A (wd_k_lchk3_8 z) s.heap.size = A at hD hM ⊢
  have hA : ∀ q : Nat, s.heap.size ≤ q → A q := fun q h => by rw [← hAe]; exact Or.inr h
  have hS : va_S A s.heap s.heap [] := va_S.rf
  have hP : va_P (dC, dI) vwCl [] s.heap := hP
  have hD : va_D A [] := hD
  have hl := lv_entry ([.int 8, .int 9, .null]) (n := 3) (Nat.le_of_ble_eq_true rfl)
  rw [lg_entry_eq]
  generalize (lg_sl ([.int 8, .int 9, .null]) ++ List.replicate (3 - (lg_sl ([.int 8, .int 9, .null])).length) Slot.unset).toArray = ls at hl ⊢
  have hl : lv_has ls 3 [(0, .int 8), (1, .int 9), (2, .null)] := hl
  refine lv_iload_n hx hb dJ3_checkIndex_8e157_0 rfl (lv_at hl 0 rfl) ?_
  refine lv_if_lt (tgt := 9) hx hb dJ3_checkIndex_8e157_1 (by decide) (fun c_ => absurd c_ (by decide +kernel)) (fun _ => ?_)
  refine lv_iload_n hx hb dJ3_checkIndex_8e157_4 rfl (lv_at hl 0 rfl) ?_
  refine lv_iload_n hx hb dJ3_checkIndex_8e157_5 rfl (lv_at hl 1 rfl) ?_
  refine lv_icmp_lt (tgt := 16) hx hb dJ3_checkIndex_8e157_6 (by decide) (fun _ => ?_) (fun c_ => absurd (by decide +kernel) c_)
  refine lv_iload_n hx hb dJ3_checkIndex_8e157_16 rfl (lv_at hl 0 rfl) ?_
  exact W.iret (v := 8) hx hb hr (fun t ht hW => ⟨⟨8, (), rfl, rfl, kB_end (w9 := []) (t9 := []) hP hK hD [] [] rfl (by decide) rfl rfl t ht hW⟩, hS.F ht⟩) hS.2.2 dJ3_checkIndex_8e157_17
abbrev wd_k_lchkR_8 (z : Nat → Nat) (f0 : Nat) : va_W := []
set_option maxHeartbeats 4000000 in
set_option maxRecDepth 100000 in
theorem k_lchkR_8 (l : Launch) (dC : Nat → ClassId) (dI : Nat → Nat → Nat) (z zK zV : Nat → Nat) (f0 : Nat) (sz : Nat)  : Met l yJ3_checkIndex_8e157 wsJ3_checkIndex_8e157 ({ frames := 0, cells := 0, slots := 0, locals := 0 }) (kP dC dI z zK zV [.int 8, .int 9, .ref f0] sz (wd_k_lchkR_8 z f0) []) (va_Qi (fun (r : Int32) (_ : Unit) => 8 = r) (fun _ t => kB (dC, dI) (va_A (wd_k_lchkR_8 z f0) sz) [] [] t) (va_A (wd_k_lchkR_8 z f0) sz)) 0 0 (va_A (wd_k_lchkR_8 z f0) sz) := by
  refine Met.ofW (cc := cJ3_checkIndex_8e157) (maxL := 3) (ret := (some .int)) (by decide) rfl ?_
  intro p e s m args below meth c s₁ B hml hv
  obtain ⟨rfl, hsz, hP, hK, hD0, hM⟩ := hv
  have hx := B.exec
  have hb := B.bytes
  have hr := B.returns
  have hts := atoms_spec (ws := wsJ3_checkIndex_8e157) B.pre
  have hown : s.vm.findClass RJ3 = some m.cls := findClass_of_methodNamed B.named
  have hlocks := B.notSynchronized
  subst hsz
  have hD := hD0.self (sz := s.heap.size)
  generalize hAe : va_A (wd_k_lchkR_8 z f0) s.heap.size = A at hD hM ⊢
  have hA : ∀ q : Nat, s.heap.size ≤ q → A q := fun q h => by rw [← hAe]; exact Or.inr h
  have hS : va_S A s.heap s.heap [] := va_S.rf
  have hP : va_P (dC, dI) vwCl [] s.heap := hP
  have hD : va_D A [] := hD
  have hl := lv_entry ([.int 8, .int 9, .ref f0]) (n := 3) (Nat.le_of_ble_eq_true rfl)
  rw [lg_entry_eq]
  generalize (lg_sl ([.int 8, .int 9, .ref f0]) ++ List.replicate (3 - (lg_sl ([.int 8, .int 9, .ref f0])).length) Slot.unset).toArray = ls at hl ⊢
  have hl : lv_has ls 3 [(0, .int 8), (1, .int 9), (2, .ref f0)] := hl
  refine lv_iload_n hx hb dJ3_checkIndex_8e157_0 rfl (lv_at hl 0 rfl) ?_
  refine lv_if_lt (tgt := 9) hx hb dJ3_checkIndex_8e157_1 (by decide) (fun c_ => absurd c_ (by decide +kernel)) (fun _ => ?_)
  refine lv_iload_n hx hb dJ3_checkIndex_8e157_4 rfl (lv_at hl 0 rfl) ?_
  refine lv_iload_n hx hb dJ3_checkIndex_8e157_5 rfl (lv_at hl 1 rfl) ?_
  refine lv_icmp_lt (tgt := 16) hx hb dJ3_checkIndex_8e157_6 (by decide) (fun _ => ?_) (fun c_ => absurd (by decide +kernel) c_)
  refine lv_iload_n hx hb dJ3_checkIndex_8e157_16 rfl (lv_at hl 0 rfl) ?_
  exact W.iret (v := 8) hx hb hr (fun t ht hW => ⟨⟨8, (), rfl, rfl, kB_end (w9 := []) (t9 := []) hP hK hD [] [] rfl (by decide) rfl rfl t ht hW⟩, hS.F ht⟩) hS.2.2 dJ3_checkIndex_8e157_17
abbrev wd_k_schk_8 (_z : Nat → Nat) : va_W := []
set_option maxHeartbeats 4000000 in
set_option maxRecDepth 100000 in
theorem k_schk_8 (l : Launch) (dC : Nat → ClassId) (dI : Nat → Nat → Nat) (z zK zV : Nat → Nat)  (sz : Nat)  : Met l yJ0_checkIndex_df160 wsJ0_checkIndex_df160 ({ frames := 1, cells := 0, slots := 0, locals := 22 }) (kP dC dI z zK zV [.int 8, .int 9] sz (wd_k_schk_8 z) []) (va_Qv (fun _ : Unit => True) (fun _ t => kB (dC, dI) (va_A (wd_k_schk_8 z) sz) [] [] t) (va_A (wd_k_schk_8 z) sz)) 0 0 (va_A (wd_k_schk_8 z) sz) := by
  refine Met.ofW (cc := cJ0_checkIndex_df160) (maxL := 2) (ret := none) (by decide) rfl ?_
  intro p e s m args below meth c s₁ B hml hv
  obtain ⟨rfl, hsz, hP, hK, hD0, hM⟩ := hv
  have hx := B.exec
  have hb := B.bytes
  have hr := B.returns
  have hts := atoms_spec (ws := wsJ0_checkIndex_df160) B.pre
  have hown : s.vm.findClass RJ0 = some m.cls := findClass_of_methodNamed B.named
  have hlocks := B.notSynchronized
  subst hsz
  have hD := hD0.self (sz := s.heap.size)
  generalize hAe : va_A (wd_k_schk_8 z) s.heap.size = A at hD hM ⊢
  have hA : ∀ q : Nat, s.heap.size ≤ q → A q := fun q h => by rw [← hAe]; exact Or.inr h
  have hS : va_S A s.heap s.heap [] := va_S.rf
  have hP : va_P (dC, dI) vwCl [] s.heap := hP
  have hD : va_D A [] := hD
  have hl := lv_entry ([.int 8, .int 9]) (n := 2) (Nat.le_of_ble_eq_true rfl)
  rw [lg_entry_eq]
  generalize (lg_sl ([.int 8, .int 9]) ++ List.replicate (2 - (lg_sl ([.int 8, .int 9])).length) Slot.unset).toArray = ls at hl ⊢
  have hl : lv_has ls 2 [(0, .int 8), (1, .int 9)] := hl
  refine lv_iload_n hx hb dJ0_checkIndex_df160_0 rfl (lv_at hl 0 rfl) ?_
  refine lv_iload_n hx hb dJ0_checkIndex_df160_1 rfl (lv_at hl 1 rfl) ?_
  rcases hM.2.2.2.2.2.2.2.2.2.2.2 with hZ | ⟨tZ, hZ⟩
  · skip
    refine va_gets (v := .null) hx hb hZ hS hown (hts (.fieldLink RJ0 1053 "jdk/internal/util/Preconditions" "SIOOBE_FORMATTER" "Ljava/util/function/BiFunction;") (by decide +kernel)) (fun _ h9 => h9) dJ0_checkIndex_df160_2 ?_
    have hPc := hP.sub (ws' := []) [] rfl
    have hDc := hD.sub (ws' := []) [] (by decide) rfl
    have hKc := hK.sub (tys' := []) [] rfl
    have hFc := va_free (wc := []) hD hS hA [] rfl
    refine va_calli (va_runS (As := [.int 8, .int 9, .null]) (rest := []) ⟨hx, hb, hml, hown, hts⟩ (k_lchk3_8 l dC dI z zK zV  s.heap.size) (va_cwS 3 hts gJ0_checkIndex_df160_J3_checkIndex_8e157 rfl rfl rfl (by decide +kernel) ⟨Nat.le_of_ble_eq_true rfl, Nat.le_of_ble_eq_true rfl⟩) ⟨kP_blind, kP_go hPc hKc hDc hFc hM hS⟩ rfl rfl hl.1 rfl (lv_room (Nat.le_of_ble_eq_true rfl)) dJ0_checkIndex_df160_5 ⟨Nat.le_of_ble_eq_true rfl, Nat.le_of_ble_eq_true rfl⟩) hS (fun q _ h => hFc q h) hFc (fun r1 u t H1 locs ht hvm hw hB hz1 hk1 hS => ?_)
    obtain ⟨hP, hD, hK⟩ := kJ (wr := []) (w1 := []) (t1 := []) hP hD hK [] [] rfl rfl (by decide) (by decide) hk1 hFc ht hvm hB
    generalize H1 = H at hP hS ⊢
    have hP : va_P (dC, dI) vwCl [] H := hP
    have hD : va_D A [] := hD
    have hK : va_K (dC, dI) vwCl [] s := hK
    obtain rfl : 8 = r1 := hw
    refine lv_pop hx hb dJ0_checkIndex_df160_8 rfl ?_
    exact W.vret hx hb hr (fun t ht hW => ⟨⟨(), rfl, trivial, kB_end (w9 := []) (t9 := []) hP hK hD [] [] rfl (by decide) rfl rfl t ht hW⟩, hS.F ht⟩) hS.2.2 dJ0_checkIndex_df160_9
  · skip
    refine va_gets (v := .ref tZ) hx hb hZ hS hown (hts (.fieldLink RJ0 1053 "jdk/internal/util/Preconditions" "SIOOBE_FORMATTER" "Ljava/util/function/BiFunction;") (by decide +kernel)) (fun _ h9 => h9) dJ0_checkIndex_df160_2 ?_
    have hPc := hP.sub (ws' := []) [] rfl
    have hDc := hD.sub (ws' := []) [] (by decide) rfl
    have hKc := hK.sub (tys' := []) [] rfl
    have hFc := va_free (wc := []) hD hS hA [] rfl
    refine va_calli (va_runS (As := [.int 8, .int 9, .ref tZ]) (rest := []) ⟨hx, hb, hml, hown, hts⟩ (k_lchkR_8 l dC dI z zK zV tZ s.heap.size) (va_cwS 3 hts gJ0_checkIndex_df160_J3_checkIndex_8e157 rfl rfl rfl (by decide +kernel) ⟨Nat.le_of_ble_eq_true rfl, Nat.le_of_ble_eq_true rfl⟩) ⟨kP_blind, kP_go hPc hKc hDc hFc hM hS⟩ rfl rfl hl.1 rfl (lv_room (Nat.le_of_ble_eq_true rfl)) dJ0_checkIndex_df160_5 ⟨Nat.le_of_ble_eq_true rfl, Nat.le_of_ble_eq_true rfl⟩) hS (fun q _ h => hFc q h) hFc (fun r2 u t H1 locs ht hvm hw hB hz1 hk1 hS => ?_)
    obtain ⟨hP, hD, hK⟩ := kJ (wr := []) (w1 := []) (t1 := []) hP hD hK [] [] rfl rfl (by decide) (by decide) hk1 hFc ht hvm hB
    generalize H1 = H at hP hS ⊢
    have hP : va_P (dC, dI) vwCl [] H := hP
    have hD : va_D A [] := hD
    have hK : va_K (dC, dI) vwCl [] s := hK
    obtain rfl : 8 = r2 := hw
    refine lv_pop hx hb dJ0_checkIndex_df160_8 rfl ?_
    exact W.vret hx hb hr (fun t ht hW => ⟨⟨(), rfl, trivial, kB_end (w9 := []) (t9 := []) hP hK hD [] [] rfl (by decide) rfl rfl t ht hW⟩, hS.F ht⟩) hS.2.2 dJ0_checkIndex_df160_9
abbrev wd_k_isLatin3 (_z : Nat → Nat) : va_W := []
set_option maxHeartbeats 4000000 in
set_option maxRecDepth 100000 in
theorem k_isLatin3 (l : Launch) (dC : Nat → ClassId) (dI : Nat → Nat → Nat) (z zK zV : Nat → Nat)  (sz : Nat)  : Met l yJ0_isLatin1_aae02 wsJ0_isLatin1_aae02 ({ frames := 0, cells := 0, slots := 0, locals := 0 }) (kP dC dI z zK zV [.ref (zK 3)] sz (wd_k_isLatin3 z) []) (va_Qi (fun (r : Int32) (_ : Unit) => 1 = r) (fun _ t => kB (dC, dI) (va_A (wd_k_isLatin3 z) sz) [] [] t) (va_A (wd_k_isLatin3 z) sz)) 0 0 (va_A (wd_k_isLatin3 z) sz) := by
  refine Met.ofW (cc := cJ0_isLatin1_aae02) (maxL := 1) (ret := (some .boolean)) (by decide) rfl ?_
  intro p e s m args below meth c s₁ B hml hv
  obtain ⟨rfl, hsz, hP, hK, hD0, hM⟩ := hv
  have hx := B.exec
  have hb := B.bytes
  have hr := B.returns
  have hts := atoms_spec (ws := wsJ0_isLatin1_aae02) B.pre
  have hown : s.vm.findClass RJ0 = some m.cls := findClass_of_methodNamed B.named
  have hlocks := B.notSynchronized
  subst hsz
  have hD := hD0.self (sz := s.heap.size)
  generalize hAe : va_A (wd_k_isLatin3 z) s.heap.size = A at hD hM ⊢
  have hA : ∀ q : Nat, s.heap.size ≤ q → A q := fun q h => by rw [← hAe]; exact Or.inr h
  have hS : va_S A s.heap s.heap [] := va_S.rf
  have hP : va_P (dC, dI) vwCl [] s.heap := hP
  have hD : va_D A [] := hD
  have hl := lv_entry ([.ref (zK 3)]) (n := 1) (Nat.le_of_ble_eq_true rfl)
  rw [lg_entry_eq]
  generalize (lg_sl ([.ref (zK 3)]) ++ List.replicate (1 - (lg_sl ([.ref (zK 3)])).length) Slot.unset).toArray = ls at hl ⊢
  have hl : lv_has ls 1 [(0, .ref (zK 3))] := hl
  refine va_gets (v := .int 1) hx hb hM.2.2.2.2.2.2.1 hS hown (hts (.fieldLink RJ0 38 "java/lang/String" "COMPACT_STRINGS" "Z") (by decide +kernel)) (fun _ h9 => h9) dJ0_isLatin1_aae02_0 ?_
  refine lv_if_eq (tgt := 17) hx hb dJ0_isLatin1_aae02_3 (by decide) (fun c_ => absurd c_ (by decide +kernel)) (fun _ => ?_)
  refine lv_aload_n hx hb dJ0_isLatin1_aae02_6 rfl (lv_at hl 0 rfl) ?_
  refine vk_getf (v := .int 0) hx hb (hM.2.2.2.1.1 3 (by decide)).2.1 hS hown (hts (.fieldLink RJ0 15 "java/lang/String" "coder" "B") (by decide +kernel)) (fun _ h9 => h9) dJ0_isLatin1_aae02_7 ?_
  refine lv_if_ne (tgt := 17) hx hb dJ0_isLatin1_aae02_10 (by decide) (fun c_ => absurd (by decide +kernel) c_) (fun _ => ?_)
  refine lv_iconst (v := 1) hx hb dJ0_isLatin1_aae02_13 (by decide) ?_
  refine lv_goto (tgt := 18) hx hb dJ0_isLatin1_aae02_14 (by decide) ?_
  exact W.zret (v := 1) hx hb hr (by decide +kernel) (fun t ht hW => ⟨⟨1, (), rfl, rfl, kB_end (w9 := []) (t9 := []) hP hK hD [] [] rfl (by decide) rfl rfl t ht hW⟩, hS.F ht⟩) hS.2.2 dJ0_isLatin1_aae02_18
abbrev wd_k_isLatin2 (_z : Nat → Nat) : va_W := []
set_option maxHeartbeats 4000000 in
set_option maxRecDepth 100000 in
theorem k_isLatin2 (l : Launch) (dC : Nat → ClassId) (dI : Nat → Nat → Nat) (z zK zV : Nat → Nat)  (sz : Nat)  : Met l yJ0_isLatin1_aae02 wsJ0_isLatin1_aae02 ({ frames := 0, cells := 0, slots := 0, locals := 0 }) (kP dC dI z zK zV [.ref (zK 2)] sz (wd_k_isLatin2 z) []) (va_Qi (fun (r : Int32) (_ : Unit) => 1 = r) (fun _ t => kB (dC, dI) (va_A (wd_k_isLatin2 z) sz) [] [] t) (va_A (wd_k_isLatin2 z) sz)) 0 0 (va_A (wd_k_isLatin2 z) sz) := by
  refine Met.ofW (cc := cJ0_isLatin1_aae02) (maxL := 1) (ret := (some .boolean)) (by decide) rfl ?_
  intro p e s m args below meth c s₁ B hml hv
  obtain ⟨rfl, hsz, hP, hK, hD0, hM⟩ := hv
  have hx := B.exec
  have hb := B.bytes
  have hr := B.returns
  have hts := atoms_spec (ws := wsJ0_isLatin1_aae02) B.pre
  have hown : s.vm.findClass RJ0 = some m.cls := findClass_of_methodNamed B.named
  have hlocks := B.notSynchronized
  subst hsz
  have hD := hD0.self (sz := s.heap.size)
  generalize hAe : va_A (wd_k_isLatin2 z) s.heap.size = A at hD hM ⊢
  have hA : ∀ q : Nat, s.heap.size ≤ q → A q := fun q h => by rw [← hAe]; exact Or.inr h
  have hS : va_S A s.heap s.heap [] := va_S.rf
  have hP : va_P (dC, dI) vwCl [] s.heap := hP
  have hD : va_D A [] := hD
  have hl := lv_entry ([.ref (zK 2)]) (n := 1) (Nat.le_of_ble_eq_true rfl)
  rw [lg_entry_eq]
  generalize (lg_sl ([.ref (zK 2)]) ++ List.replicate (1 - (lg_sl ([.ref (zK 2)])).length) Slot.unset).toArray = ls at hl ⊢
  have hl : lv_has ls 1 [(0, .ref (zK 2))] := hl
  refine va_gets (v := .int 1) hx hb hM.2.2.2.2.2.2.1 hS hown (hts (.fieldLink RJ0 38 "java/lang/String" "COMPACT_STRINGS" "Z") (by decide +kernel)) (fun _ h9 => h9) dJ0_isLatin1_aae02_0 ?_
  refine lv_if_eq (tgt := 17) hx hb dJ0_isLatin1_aae02_3 (by decide) (fun c_ => absurd c_ (by decide +kernel)) (fun _ => ?_)
  refine lv_aload_n hx hb dJ0_isLatin1_aae02_6 rfl (lv_at hl 0 rfl) ?_
  refine vk_getf (v := .int 0) hx hb (hM.2.2.2.1.1 2 (by decide)).2.1 hS hown (hts (.fieldLink RJ0 15 "java/lang/String" "coder" "B") (by decide +kernel)) (fun _ h9 => h9) dJ0_isLatin1_aae02_7 ?_
  refine lv_if_ne (tgt := 17) hx hb dJ0_isLatin1_aae02_10 (by decide) (fun c_ => absurd (by decide +kernel) c_) (fun _ => ?_)
  refine lv_iconst (v := 1) hx hb dJ0_isLatin1_aae02_13 (by decide) ?_
  refine lv_goto (tgt := 18) hx hb dJ0_isLatin1_aae02_14 (by decide) ?_
  exact W.zret (v := 1) hx hb hr (by decide +kernel) (fun t ht hW => ⟨⟨1, (), rfl, rfl, kB_end (w9 := []) (t9 := []) hP hK hD [] [] rfl (by decide) rfl rfl t ht hW⟩, hS.F ht⟩) hS.2.2 dJ0_isLatin1_aae02_18
abbrev wd_k_lchar3_0 (_z : Nat → Nat) : va_W := []
set_option maxHeartbeats 4000000 in
set_option maxRecDepth 100000 in
theorem k_lchar3_0 (l : Launch) (dC : Nat → ClassId) (dI : Nat → Nat → Nat) (z zK zV : Nat → Nat)  (sz : Nat)  : Met l yJ1_charAt_3b067 wsJ1_charAt_3b067 ({ frames := 2, cells := 0, slots := 0, locals := 43 }) (kP dC dI z zK zV [.ref (zV 3), .int 0] sz (wd_k_lchar3_0 z) []) (va_Qi (fun (r : Int32) (_ : Unit) => 56 = r) (fun _ t => kB (dC, dI) (va_A (wd_k_lchar3_0 z) sz) [] [] t) (va_A (wd_k_lchar3_0 z) sz)) 0 0 (va_A (wd_k_lchar3_0 z) sz) := by
  refine Met.ofW (cc := cJ1_charAt_3b067) (maxL := 2) (ret := (some .char)) (by decide) rfl ?_
  intro p e s m args below meth c s₁ B hml hv
  obtain ⟨rfl, hsz, hP, hK, hD0, hM⟩ := hv
  have hx := B.exec
  have hb := B.bytes
  have hr := B.returns
  have hts := atoms_spec (ws := wsJ1_charAt_3b067) B.pre
  have hown : s.vm.findClass RJ1 = some m.cls := findClass_of_methodNamed B.named
  have hlocks := B.notSynchronized
  subst hsz
  have hD := hD0.self (sz := s.heap.size)
  generalize hAe : va_A (wd_k_lchar3_0 z) s.heap.size = A at hD hM ⊢
  have hA : ∀ q : Nat, s.heap.size ≤ q → A q := fun q h => by rw [← hAe]; exact Or.inr h
  have hS : va_S A s.heap s.heap [] := va_S.rf
  have hP : va_P (dC, dI) vwCl [] s.heap := hP
  have hD : va_D A [] := hD
  have hl := lv_entry ([.ref (zV 3), .int 0]) (n := 2) (Nat.le_of_ble_eq_true rfl)
  rw [lg_entry_eq]
  generalize (lg_sl ([.ref (zV 3), .int 0]) ++ List.replicate (2 - (lg_sl ([.ref (zV 3), .int 0])).length) Slot.unset).toArray = ls at hl ⊢
  have hl : lv_has ls 2 [(0, .ref (zV 3)), (1, .int 0)] := hl
  refine lv_iload_n hx hb dJ1_charAt_3b067_0 rfl (lv_at hl 1 rfl) ?_
  refine lv_aload_n hx hb dJ1_charAt_3b067_1 rfl (lv_at hl 0 rfl) ?_
  refine va_tlen (v := 9) hx hb ((hM.2.2.2.1.1 3 (by decide)).2.2.2) hS rfl dJ1_charAt_3b067_2 ?_
  have hPc := hP.sub (ws' := []) [] rfl
  have hDc := hD.sub (ws' := []) [] (by decide) rfl
  have hKc := hK.sub (tys' := []) [] rfl
  have hFc := va_free (wc := []) hD hS hA [] rfl
  refine va_callv (va_runS (As := [.int 0, .int 9]) (rest := []) ⟨hx, hb, hml, hown, hts⟩ (k_schk_0 l dC dI z zK zV  s.heap.size) (va_cwS 2 hts gJ1_charAt_3b067_J0_checkIndex_df160 rfl rfl rfl (by decide +kernel) ⟨Nat.le_of_ble_eq_true rfl, Nat.le_of_ble_eq_true rfl⟩) ⟨kP_blind, kP_go hPc hKc hDc hFc hM hS⟩ rfl rfl hl.1 rfl (lv_room (Nat.le_of_ble_eq_true rfl)) dJ1_charAt_3b067_3 ⟨Nat.le_of_ble_eq_true rfl, Nat.le_of_ble_eq_true rfl⟩) hS (fun q _ h => hFc q h) hFc (fun u t H1 locs ht hvm hw hB hz1 hk1 hS => ?_)
  obtain ⟨hP, hD, hK⟩ := kJ (wr := []) (w1 := []) (t1 := []) hP hD hK [] [] rfl rfl (by decide) (by decide) hk1 hFc ht hvm hB
  generalize H1 = H at hP hS ⊢
  have hP : va_P (dC, dI) vwCl [] H := hP
  have hD : va_D A [] := hD
  have hK : va_K (dC, dI) vwCl [] s := hK
  clear hw
  refine lv_aload_n hx hb dJ1_charAt_3b067_6 rfl (lv_at hl 0 rfl) ?_
  refine lv_iload_n hx hb dJ1_charAt_3b067_7 rfl (lv_at hl 1 rfl) ?_
  refine va_tb (v := .int 56) hx hb ((hM.2.2.2.1.1 3 (by decide)).2.2.2) hS (pk_in 0 9 (by decide) rfl) rfl dJ1_charAt_3b067_8 ?_
  refine lv_sipush (v := 255) hx hb dJ1_charAt_3b067_9 (by decide) ?_
  refine lv_iand hx hb dJ1_charAt_3b067_12 ?_
  refine kc_i (y := 56) (by decide +kernel) ?_
  refine lv_i2c (v := 56) hx hb dJ1_charAt_3b067_13 (by decide +kernel) ?_
  exact W.zret (v := 56) hx hb hr (by decide +kernel) (fun t ht hW => ⟨⟨56, (), rfl, rfl, kB_end (w9 := []) (t9 := []) hP hK hD [] [] rfl (by decide) rfl rfl t ht hW⟩, hS.F ht⟩) hS.2.2 dJ1_charAt_3b067_14
abbrev wd_k_char3_0 (_z : Nat → Nat) : va_W := []
set_option maxHeartbeats 4000000 in
set_option maxRecDepth 100000 in
theorem k_char3_0 (l : Launch) (dC : Nat → ClassId) (dI : Nat → Nat → Nat) (z zK zV : Nat → Nat)  (sz : Nat)  : Met l yJ0_charAt_5068e wsJ0_charAt_5068e ({ frames := 3, cells := 0, slots := 0, locals := 64 }) (kP dC dI z zK zV [.ref (zK 3), .int 0] sz (wd_k_char3_0 z) []) (va_Qi (fun (r : Int32) (_ : Unit) => 56 = r) (fun _ t => kB (dC, dI) (va_A (wd_k_char3_0 z) sz) [] [] t) (va_A (wd_k_char3_0 z) sz)) 0 0 (va_A (wd_k_char3_0 z) sz) := by
  refine Met.ofW (cc := cJ0_charAt_5068e) (maxL := 2) (ret := (some .char)) (by decide) rfl ?_
  intro p e s m args below meth c s₁ B hml hv
  obtain ⟨rfl, hsz, hP, hK, hD0, hM⟩ := hv
  have hx := B.exec
  have hb := B.bytes
  have hr := B.returns
  have hts := atoms_spec (ws := wsJ0_charAt_5068e) B.pre
  have hown : s.vm.findClass RJ0 = some m.cls := findClass_of_methodNamed B.named
  have hlocks := B.notSynchronized
  subst hsz
  have hD := hD0.self (sz := s.heap.size)
  generalize hAe : va_A (wd_k_char3_0 z) s.heap.size = A at hD hM ⊢
  have hA : ∀ q : Nat, s.heap.size ≤ q → A q := fun q h => by rw [← hAe]; exact Or.inr h
  have hS : va_S A s.heap s.heap [] := va_S.rf
  have hP : va_P (dC, dI) vwCl [] s.heap := hP
  have hD : va_D A [] := hD
  have hl := lv_entry ([.ref (zK 3), .int 0]) (n := 2) (Nat.le_of_ble_eq_true rfl)
  rw [lg_entry_eq]
  generalize (lg_sl ([.ref (zK 3), .int 0]) ++ List.replicate (2 - (lg_sl ([.ref (zK 3), .int 0])).length) Slot.unset).toArray = ls at hl ⊢
  have hl : lv_has ls 2 [(0, .ref (zK 3)), (1, .int 0)] := hl
  refine lv_aload_n hx hb dJ0_charAt_5068e_0 rfl (lv_at hl 0 rfl) ?_
  have hPc := hP.sub (ws' := []) [] rfl
  have hDc := hD.sub (ws' := []) [] (by decide) rfl
  have hKc := hK.sub (tys' := []) [] rfl
  have hFc := va_free (wc := []) hD hS hA [] rfl
  refine va_calli (va_runV (As := []) (rest := []) ⟨hx, hb, hml, hown, hts⟩ (k_isLatin3 l dC dI z zK zV  s.heap.size) (cwV 0 hts gJ0_charAt_5068e_J0_isLatin1_aae02 rfl rfl rfl (by decide +kernel) ⟨Nat.le_of_ble_eq_true rfl, Nat.le_of_ble_eq_true rfl⟩) ⟨kP_blind, vk_recv (i := 3) hM.2.2.2.1 (by decide) hS, kP_go hPc hKc hDc hFc hM hS⟩ rfl rfl hl.1 rfl (lv_room (Nat.le_of_ble_eq_true rfl)) dJ0_charAt_5068e_1 ⟨Nat.le_of_ble_eq_true rfl, Nat.le_of_ble_eq_true rfl⟩) hS (fun q _ h => hFc q h) hFc (fun r1 u t H1 locs ht hvm hw hB hz1 hk1 hS => ?_)
  obtain ⟨hP, hD, hK⟩ := kJ (wr := []) (w1 := []) (t1 := []) hP hD hK [] [] rfl rfl (by decide) (by decide) hk1 hFc ht hvm hB
  generalize H1 = H at hP hS ⊢
  have hP : va_P (dC, dI) vwCl [] H := hP
  have hD : va_D A [] := hD
  have hK : va_K (dC, dI) vwCl [] s := hK
  obtain rfl : 1 = r1 := hw
  refine lv_if_eq (tgt := 16) hx hb dJ0_charAt_5068e_4 (by decide) (fun c_ => absurd c_ (by decide +kernel)) (fun _ => ?_)
  refine lv_aload_n hx hb dJ0_charAt_5068e_7 rfl (lv_at hl 0 rfl) ?_
  refine vk_getf (v := .ref (zV 3)) hx hb (hM.2.2.2.1.1 3 (by decide)).2.2.1 hS hown (hts (.fieldLink RJ0 9 "java/lang/String" "value" "[B") (by decide +kernel)) (fun _ h9 => h9) dJ0_charAt_5068e_8 ?_
  refine lv_iload_n hx hb dJ0_charAt_5068e_11 rfl (lv_at hl 1 rfl) ?_
  have hPc := hP.sub (ws' := []) [] rfl
  have hDc := hD.sub (ws' := []) [] (by decide) rfl
  have hKc := hK.sub (tys' := []) [] rfl
  have hFc := va_free (wc := []) hD hS hA [] rfl
  refine va_calli (va_runS (As := [.ref (zV 3), .int 0]) (rest := []) ⟨hx, hb, hml, hown, hts⟩ (k_lchar3_0 l dC dI z zK zV  H.size) (va_cwS 2 hts gJ0_charAt_5068e_J1_charAt_3b067 rfl rfl rfl (by decide +kernel) ⟨Nat.le_of_ble_eq_true rfl, Nat.le_of_ble_eq_true rfl⟩) ⟨kP_blind, kP_go hPc hKc hDc hFc hM hS⟩ rfl rfl hl.1 rfl (lv_room (Nat.le_of_ble_eq_true rfl)) dJ0_charAt_5068e_12 ⟨Nat.le_of_ble_eq_true rfl, Nat.le_of_ble_eq_true rfl⟩) hS (fun q _ h => hFc q h) hFc (fun r2 u t H1 locs ht hvm hw hB hz1 hk1 hS => ?_)
  obtain ⟨hP, hD, hK⟩ := kJ (wr := []) (w1 := []) (t1 := []) hP hD hK [] [] rfl rfl (by decide) (by decide) hk1 hFc ht hvm hB
  generalize H1 = H at hP hS ⊢
  have hP : va_P (dC, dI) vwCl [] H := hP
  have hD : va_D A [] := hD
  have hK : va_K (dC, dI) vwCl [] s := hK
  obtain rfl : 56 = r2 := hw
  exact W.zret (v := 56) hx hb hr (by decide +kernel) (fun t ht hW => ⟨⟨56, (), rfl, rfl, kB_end (w9 := []) (t9 := []) hP hK hD [] [] rfl (by decide) rfl rfl t ht hW⟩, hS.F ht⟩) hS.2.2 dJ0_charAt_5068e_15
abbrev wd_k_digit3_0 (_z : Nat → Nat) : va_W := []
set_option maxHeartbeats 4000000 in
set_option maxRecDepth 100000 in
theorem k_digit3_0 (l : Launch) (dC : Nat → ClassId) (dI : Nat → Nat → Nat) (z zK zV : Nat → Nat)  (sz : Nat)  : Met l yX15_digit wsX15_digit ({ frames := 4, cells := 0, slots := 0, locals := 85 }) (kP dC dI z zK zV [.ref (zK 3), .int 0] sz (wd_k_digit3_0 z) []) (va_Qi (fun (r : Int32) (_ : Unit) => 8 = r) (fun _ t => kB (dC, dI) (va_A (wd_k_digit3_0 z) sz) [] [] t) (va_A (wd_k_digit3_0 z) sz)) 0 0 (va_A (wd_k_digit3_0 z) sz) := by
  refine Met.ofW (cc := cX15_digit) (maxL := 3) (ret := (some .int)) (by decide) rfl ?_
  intro p e s m args below meth c s₁ B hml hv
  obtain ⟨rfl, hsz, hP, hK, hD0, hM⟩ := hv
  have hx := B.exec
  have hb := B.bytes
  have hr := B.returns
  have hts := atoms_spec (ws := wsX15_digit) B.pre
  have hown : s.vm.findClass RX15 = some m.cls := findClass_of_methodNamed B.named
  have hlocks := B.notSynchronized
  subst hsz
  have hD := hD0.self (sz := s.heap.size)
  generalize hAe : va_A (wd_k_digit3_0 z) s.heap.size = A at hD hM ⊢
  have hA : ∀ q : Nat, s.heap.size ≤ q → A q := fun q h => by rw [← hAe]; exact Or.inr h
  have hS : va_S A s.heap s.heap [] := va_S.rf
  have hP : va_P (dC, dI) vwCl [] s.heap := hP
  have hD : va_D A [] := hD
  have hl := lv_entry ([.ref (zK 3), .int 0]) (n := 3) (Nat.le_of_ble_eq_true rfl)
  rw [lg_entry_eq]
  generalize (lg_sl ([.ref (zK 3), .int 0]) ++ List.replicate (3 - (lg_sl ([.ref (zK 3), .int 0])).length) Slot.unset).toArray = ls at hl ⊢
  have hl : lv_has ls 3 [(0, .ref (zK 3)), (1, .int 0)] := hl
  refine lv_aload_n hx hb dX15_digit_0 rfl (lv_at hl 0 rfl) ?_
  refine lv_iload_n hx hb dX15_digit_1 rfl (lv_at hl 1 rfl) ?_
  have hPc := hP.sub (ws' := []) [] rfl
  have hDc := hD.sub (ws' := []) [] (by decide) rfl
  have hKc := hK.sub (tys' := []) [] rfl
  have hFc := va_free (wc := []) hD hS hA [] rfl
  refine va_calli (va_runV (As := [.int 0]) (rest := []) ⟨hx, hb, hml, hown, hts⟩ (k_char3_0 l dC dI z zK zV  s.heap.size) (cwV 1 hts gX15_digit_J0_charAt_5068e rfl rfl rfl (by decide +kernel) ⟨Nat.le_of_ble_eq_true rfl, Nat.le_of_ble_eq_true rfl⟩) ⟨kP_blind, vk_recv (i := 3) hM.2.2.2.1 (by decide) hS, kP_go hPc hKc hDc hFc hM hS⟩ rfl rfl hl.1 rfl (lv_room (Nat.le_of_ble_eq_true rfl)) dX15_digit_2 ⟨Nat.le_of_ble_eq_true rfl, Nat.le_of_ble_eq_true rfl⟩) hS (fun q _ h => hFc q h) hFc (fun r1 u t H1 locs ht hvm hw hB hz1 hk1 hS => ?_)
  obtain ⟨hP, hD, hK⟩ := kJ (wr := []) (w1 := []) (t1 := []) hP hD hK [] [] rfl rfl (by decide) (by decide) hk1 hFc ht hvm hB
  generalize H1 = H at hP hS ⊢
  have hP : va_P (dC, dI) vwCl [] H := hP
  have hD : va_D A [] := hD
  have hK : va_K (dC, dI) vwCl [] s := hK
  obtain rfl : 56 = r1 := hw
  refine lv_istore_n (lv' := [(2, .int 56), (0, .ref (zK 3)), (1, .int 0)]) hx hb dX15_digit_5 rfl hl (by decide) rfl (fun ls hl => ?_)
  refine lv_iload_n hx hb dX15_digit_6 rfl (lv_at hl 0 rfl) ?_
  refine lv_bipush (v := 65) hx hb dX15_digit_7 (by decide) ?_
  refine lv_icmp_ne (tgt := 17) hx hb dX15_digit_9 (by decide) (fun _ => ?_) (fun c_ => absurd c_ (by decide +kernel))
  refine lv_iload_n hx hb dX15_digit_17 rfl (lv_at hl 0 rfl) ?_
  refine lv_bipush (v := 48) hx hb dX15_digit_18 (by decide) ?_
  refine lv_isub hx hb dX15_digit_20 ?_
  refine kc_i (y := 8) (by decide +kernel) ?_
  exact W.iret (v := 8) hx hb hr (fun t ht hW => ⟨⟨8, (), rfl, rfl, kB_end (w9 := []) (t9 := []) hP hK hD [] [] rfl (by decide) rfl rfl t ht hW⟩, hS.F ht⟩) hS.2.2 dX15_digit_21
abbrev wd_k_lchar3_1 (_z : Nat → Nat) : va_W := []
set_option maxHeartbeats 4000000 in
set_option maxRecDepth 100000 in
theorem k_lchar3_1 (l : Launch) (dC : Nat → ClassId) (dI : Nat → Nat → Nat) (z zK zV : Nat → Nat)  (sz : Nat)  : Met l yJ1_charAt_3b067 wsJ1_charAt_3b067 ({ frames := 2, cells := 0, slots := 0, locals := 43 }) (kP dC dI z zK zV [.ref (zV 3), .int 1] sz (wd_k_lchar3_1 z) []) (va_Qi (fun (r : Int32) (_ : Unit) => 55 = r) (fun _ t => kB (dC, dI) (va_A (wd_k_lchar3_1 z) sz) [] [] t) (va_A (wd_k_lchar3_1 z) sz)) 0 0 (va_A (wd_k_lchar3_1 z) sz) := by
  refine Met.ofW (cc := cJ1_charAt_3b067) (maxL := 2) (ret := (some .char)) (by decide) rfl ?_
  intro p e s m args below meth c s₁ B hml hv
  obtain ⟨rfl, hsz, hP, hK, hD0, hM⟩ := hv
  have hx := B.exec
  have hb := B.bytes
  have hr := B.returns
  have hts := atoms_spec (ws := wsJ1_charAt_3b067) B.pre
  have hown : s.vm.findClass RJ1 = some m.cls := findClass_of_methodNamed B.named
  have hlocks := B.notSynchronized
  subst hsz
  have hD := hD0.self (sz := s.heap.size)
  generalize hAe : va_A (wd_k_lchar3_1 z) s.heap.size = A at hD hM ⊢
  have hA : ∀ q : Nat, s.heap.size ≤ q → A q := fun q h => by rw [← hAe]; exact Or.inr h
  have hS : va_S A s.heap s.heap [] := va_S.rf
  have hP : va_P (dC, dI) vwCl [] s.heap := hP
  have hD : va_D A [] := hD
  have hl := lv_entry ([.ref (zV 3), .int 1]) (n := 2) (Nat.le_of_ble_eq_true rfl)
  rw [lg_entry_eq]
  generalize (lg_sl ([.ref (zV 3), .int 1]) ++ List.replicate (2 - (lg_sl ([.ref (zV 3), .int 1])).length) Slot.unset).toArray = ls at hl ⊢
  have hl : lv_has ls 2 [(0, .ref (zV 3)), (1, .int 1)] := hl
  refine lv_iload_n hx hb dJ1_charAt_3b067_0 rfl (lv_at hl 1 rfl) ?_
  refine lv_aload_n hx hb dJ1_charAt_3b067_1 rfl (lv_at hl 0 rfl) ?_
  refine va_tlen (v := 9) hx hb ((hM.2.2.2.1.1 3 (by decide)).2.2.2) hS rfl dJ1_charAt_3b067_2 ?_
  have hPc := hP.sub (ws' := []) [] rfl
  have hDc := hD.sub (ws' := []) [] (by decide) rfl
  have hKc := hK.sub (tys' := []) [] rfl
  have hFc := va_free (wc := []) hD hS hA [] rfl
  refine va_callv (va_runS (As := [.int 1, .int 9]) (rest := []) ⟨hx, hb, hml, hown, hts⟩ (k_schk_1 l dC dI z zK zV  s.heap.size) (va_cwS 2 hts gJ1_charAt_3b067_J0_checkIndex_df160 rfl rfl rfl (by decide +kernel) ⟨Nat.le_of_ble_eq_true rfl, Nat.le_of_ble_eq_true rfl⟩) ⟨kP_blind, kP_go hPc hKc hDc hFc hM hS⟩ rfl rfl hl.1 rfl (lv_room (Nat.le_of_ble_eq_true rfl)) dJ1_charAt_3b067_3 ⟨Nat.le_of_ble_eq_true rfl, Nat.le_of_ble_eq_true rfl⟩) hS (fun q _ h => hFc q h) hFc (fun u t H1 locs ht hvm hw hB hz1 hk1 hS => ?_)
  obtain ⟨hP, hD, hK⟩ := kJ (wr := []) (w1 := []) (t1 := []) hP hD hK [] [] rfl rfl (by decide) (by decide) hk1 hFc ht hvm hB
  generalize H1 = H at hP hS ⊢
  have hP : va_P (dC, dI) vwCl [] H := hP
  have hD : va_D A [] := hD
  have hK : va_K (dC, dI) vwCl [] s := hK
  clear hw
  refine lv_aload_n hx hb dJ1_charAt_3b067_6 rfl (lv_at hl 0 rfl) ?_
  refine lv_iload_n hx hb dJ1_charAt_3b067_7 rfl (lv_at hl 1 rfl) ?_
  refine va_tb (v := .int 55) hx hb ((hM.2.2.2.1.1 3 (by decide)).2.2.2) hS (pk_in 1 9 (by decide) rfl) rfl dJ1_charAt_3b067_8 ?_
  refine lv_sipush (v := 255) hx hb dJ1_charAt_3b067_9 (by decide) ?_
  refine lv_iand hx hb dJ1_charAt_3b067_12 ?_
  refine kc_i (y := 55) (by decide +kernel) ?_
  refine lv_i2c (v := 55) hx hb dJ1_charAt_3b067_13 (by decide +kernel) ?_
  exact W.zret (v := 55) hx hb hr (by decide +kernel) (fun t ht hW => ⟨⟨55, (), rfl, rfl, kB_end (w9 := []) (t9 := []) hP hK hD [] [] rfl (by decide) rfl rfl t ht hW⟩, hS.F ht⟩) hS.2.2 dJ1_charAt_3b067_14
abbrev wd_k_char3_1 (_z : Nat → Nat) : va_W := []
set_option maxHeartbeats 4000000 in
set_option maxRecDepth 100000 in
theorem k_char3_1 (l : Launch) (dC : Nat → ClassId) (dI : Nat → Nat → Nat) (z zK zV : Nat → Nat)  (sz : Nat)  : Met l yJ0_charAt_5068e wsJ0_charAt_5068e ({ frames := 3, cells := 0, slots := 0, locals := 64 }) (kP dC dI z zK zV [.ref (zK 3), .int 1] sz (wd_k_char3_1 z) []) (va_Qi (fun (r : Int32) (_ : Unit) => 55 = r) (fun _ t => kB (dC, dI) (va_A (wd_k_char3_1 z) sz) [] [] t) (va_A (wd_k_char3_1 z) sz)) 0 0 (va_A (wd_k_char3_1 z) sz) := by
  refine Met.ofW (cc := cJ0_charAt_5068e) (maxL := 2) (ret := (some .char)) (by decide) rfl ?_
  intro p e s m args below meth c s₁ B hml hv
  obtain ⟨rfl, hsz, hP, hK, hD0, hM⟩ := hv
  have hx := B.exec
  have hb := B.bytes
  have hr := B.returns
  have hts := atoms_spec (ws := wsJ0_charAt_5068e) B.pre
  have hown : s.vm.findClass RJ0 = some m.cls := findClass_of_methodNamed B.named
  have hlocks := B.notSynchronized
  subst hsz
  have hD := hD0.self (sz := s.heap.size)
  generalize hAe : va_A (wd_k_char3_1 z) s.heap.size = A at hD hM ⊢
  have hA : ∀ q : Nat, s.heap.size ≤ q → A q := fun q h => by rw [← hAe]; exact Or.inr h
  have hS : va_S A s.heap s.heap [] := va_S.rf
  have hP : va_P (dC, dI) vwCl [] s.heap := hP
  have hD : va_D A [] := hD
  have hl := lv_entry ([.ref (zK 3), .int 1]) (n := 2) (Nat.le_of_ble_eq_true rfl)
  rw [lg_entry_eq]
  generalize (lg_sl ([.ref (zK 3), .int 1]) ++ List.replicate (2 - (lg_sl ([.ref (zK 3), .int 1])).length) Slot.unset).toArray = ls at hl ⊢
  have hl : lv_has ls 2 [(0, .ref (zK 3)), (1, .int 1)] := hl
  refine lv_aload_n hx hb dJ0_charAt_5068e_0 rfl (lv_at hl 0 rfl) ?_
  have hPc := hP.sub (ws' := []) [] rfl
  have hDc := hD.sub (ws' := []) [] (by decide) rfl
  have hKc := hK.sub (tys' := []) [] rfl
  have hFc := va_free (wc := []) hD hS hA [] rfl
  refine va_calli (va_runV (As := []) (rest := []) ⟨hx, hb, hml, hown, hts⟩ (k_isLatin3 l dC dI z zK zV  s.heap.size) (cwV 0 hts gJ0_charAt_5068e_J0_isLatin1_aae02 rfl rfl rfl (by decide +kernel) ⟨Nat.le_of_ble_eq_true rfl, Nat.le_of_ble_eq_true rfl⟩) ⟨kP_blind, vk_recv (i := 3) hM.2.2.2.1 (by decide) hS, kP_go hPc hKc hDc hFc hM hS⟩ rfl rfl hl.1 rfl (lv_room (Nat.le_of_ble_eq_true rfl)) dJ0_charAt_5068e_1 ⟨Nat.le_of_ble_eq_true rfl, Nat.le_of_ble_eq_true rfl⟩) hS (fun q _ h => hFc q h) hFc (fun r1 u t H1 locs ht hvm hw hB hz1 hk1 hS => ?_)
  obtain ⟨hP, hD, hK⟩ := kJ (wr := []) (w1 := []) (t1 := []) hP hD hK [] [] rfl rfl (by decide) (by decide) hk1 hFc ht hvm hB
  generalize H1 = H at hP hS ⊢
  have hP : va_P (dC, dI) vwCl [] H := hP
  have hD : va_D A [] := hD
  have hK : va_K (dC, dI) vwCl [] s := hK
  obtain rfl : 1 = r1 := hw
  refine lv_if_eq (tgt := 16) hx hb dJ0_charAt_5068e_4 (by decide) (fun c_ => absurd c_ (by decide +kernel)) (fun _ => ?_)
  refine lv_aload_n hx hb dJ0_charAt_5068e_7 rfl (lv_at hl 0 rfl) ?_
  refine vk_getf (v := .ref (zV 3)) hx hb (hM.2.2.2.1.1 3 (by decide)).2.2.1 hS hown (hts (.fieldLink RJ0 9 "java/lang/String" "value" "[B") (by decide +kernel)) (fun _ h9 => h9) dJ0_charAt_5068e_8 ?_
  refine lv_iload_n hx hb dJ0_charAt_5068e_11 rfl (lv_at hl 1 rfl) ?_
  have hPc := hP.sub (ws' := []) [] rfl
  have hDc := hD.sub (ws' := []) [] (by decide) rfl
  have hKc := hK.sub (tys' := []) [] rfl
  have hFc := va_free (wc := []) hD hS hA [] rfl
  refine va_calli (va_runS (As := [.ref (zV 3), .int 1]) (rest := []) ⟨hx, hb, hml, hown, hts⟩ (k_lchar3_1 l dC dI z zK zV  H.size) (va_cwS 2 hts gJ0_charAt_5068e_J1_charAt_3b067 rfl rfl rfl (by decide +kernel) ⟨Nat.le_of_ble_eq_true rfl, Nat.le_of_ble_eq_true rfl⟩) ⟨kP_blind, kP_go hPc hKc hDc hFc hM hS⟩ rfl rfl hl.1 rfl (lv_room (Nat.le_of_ble_eq_true rfl)) dJ0_charAt_5068e_12 ⟨Nat.le_of_ble_eq_true rfl, Nat.le_of_ble_eq_true rfl⟩) hS (fun q _ h => hFc q h) hFc (fun r2 u t H1 locs ht hvm hw hB hz1 hk1 hS => ?_)
  obtain ⟨hP, hD, hK⟩ := kJ (wr := []) (w1 := []) (t1 := []) hP hD hK [] [] rfl rfl (by decide) (by decide) hk1 hFc ht hvm hB
  generalize H1 = H at hP hS ⊢
  have hP : va_P (dC, dI) vwCl [] H := hP
  have hD : va_D A [] := hD
  have hK : va_K (dC, dI) vwCl [] s := hK
  obtain rfl : 55 = r2 := hw
  exact W.zret (v := 55) hx hb hr (by decide +kernel) (fun t ht hW => ⟨⟨55, (), rfl, rfl, kB_end (w9 := []) (t9 := []) hP hK hD [] [] rfl (by decide) rfl rfl t ht hW⟩, hS.F ht⟩) hS.2.2 dJ0_charAt_5068e_15
abbrev wd_k_digit3_1 (_z : Nat → Nat) : va_W := []
set_option maxHeartbeats 4000000 in
set_option maxRecDepth 100000 in
theorem k_digit3_1 (l : Launch) (dC : Nat → ClassId) (dI : Nat → Nat → Nat) (z zK zV : Nat → Nat)  (sz : Nat)  : Met l yX15_digit wsX15_digit ({ frames := 4, cells := 0, slots := 0, locals := 85 }) (kP dC dI z zK zV [.ref (zK 3), .int 1] sz (wd_k_digit3_1 z) []) (va_Qi (fun (r : Int32) (_ : Unit) => 7 = r) (fun _ t => kB (dC, dI) (va_A (wd_k_digit3_1 z) sz) [] [] t) (va_A (wd_k_digit3_1 z) sz)) 0 0 (va_A (wd_k_digit3_1 z) sz) := by
  refine Met.ofW (cc := cX15_digit) (maxL := 3) (ret := (some .int)) (by decide) rfl ?_
  intro p e s m args below meth c s₁ B hml hv
  obtain ⟨rfl, hsz, hP, hK, hD0, hM⟩ := hv
  have hx := B.exec
  have hb := B.bytes
  have hr := B.returns
  have hts := atoms_spec (ws := wsX15_digit) B.pre
  have hown : s.vm.findClass RX15 = some m.cls := findClass_of_methodNamed B.named
  have hlocks := B.notSynchronized
  subst hsz
  have hD := hD0.self (sz := s.heap.size)
  generalize hAe : va_A (wd_k_digit3_1 z) s.heap.size = A at hD hM ⊢
  have hA : ∀ q : Nat, s.heap.size ≤ q → A q := fun q h => by rw [← hAe]; exact Or.inr h
  have hS : va_S A s.heap s.heap [] := va_S.rf
  have hP : va_P (dC, dI) vwCl [] s.heap := hP
  have hD : va_D A [] := hD
  have hl := lv_entry ([.ref (zK 3), .int 1]) (n := 3) (Nat.le_of_ble_eq_true rfl)
  rw [lg_entry_eq]
  generalize (lg_sl ([.ref (zK 3), .int 1]) ++ List.replicate (3 - (lg_sl ([.ref (zK 3), .int 1])).length) Slot.unset).toArray = ls at hl ⊢
  have hl : lv_has ls 3 [(0, .ref (zK 3)), (1, .int 1)] := hl
  refine lv_aload_n hx hb dX15_digit_0 rfl (lv_at hl 0 rfl) ?_
  refine lv_iload_n hx hb dX15_digit_1 rfl (lv_at hl 1 rfl) ?_
  have hPc := hP.sub (ws' := []) [] rfl
  have hDc := hD.sub (ws' := []) [] (by decide) rfl
  have hKc := hK.sub (tys' := []) [] rfl
  have hFc := va_free (wc := []) hD hS hA [] rfl
  refine va_calli (va_runV (As := [.int 1]) (rest := []) ⟨hx, hb, hml, hown, hts⟩ (k_char3_1 l dC dI z zK zV  s.heap.size) (cwV 1 hts gX15_digit_J0_charAt_5068e rfl rfl rfl (by decide +kernel) ⟨Nat.le_of_ble_eq_true rfl, Nat.le_of_ble_eq_true rfl⟩) ⟨kP_blind, vk_recv (i := 3) hM.2.2.2.1 (by decide) hS, kP_go hPc hKc hDc hFc hM hS⟩ rfl rfl hl.1 rfl (lv_room (Nat.le_of_ble_eq_true rfl)) dX15_digit_2 ⟨Nat.le_of_ble_eq_true rfl, Nat.le_of_ble_eq_true rfl⟩) hS (fun q _ h => hFc q h) hFc (fun r1 u t H1 locs ht hvm hw hB hz1 hk1 hS => ?_)
  obtain ⟨hP, hD, hK⟩ := kJ (wr := []) (w1 := []) (t1 := []) hP hD hK [] [] rfl rfl (by decide) (by decide) hk1 hFc ht hvm hB
  generalize H1 = H at hP hS ⊢
  have hP : va_P (dC, dI) vwCl [] H := hP
  have hD : va_D A [] := hD
  have hK : va_K (dC, dI) vwCl [] s := hK
  obtain rfl : 55 = r1 := hw
  refine lv_istore_n (lv' := [(2, .int 55), (0, .ref (zK 3)), (1, .int 1)]) hx hb dX15_digit_5 rfl hl (by decide) rfl (fun ls hl => ?_)
  refine lv_iload_n hx hb dX15_digit_6 rfl (lv_at hl 0 rfl) ?_
  refine lv_bipush (v := 65) hx hb dX15_digit_7 (by decide) ?_
  refine lv_icmp_ne (tgt := 17) hx hb dX15_digit_9 (by decide) (fun _ => ?_) (fun c_ => absurd c_ (by decide +kernel))
  refine lv_iload_n hx hb dX15_digit_17 rfl (lv_at hl 0 rfl) ?_
  refine lv_bipush (v := 48) hx hb dX15_digit_18 (by decide) ?_
  refine lv_isub hx hb dX15_digit_20 ?_
  refine kc_i (y := 7) (by decide +kernel) ?_
  exact W.iret (v := 7) hx hb hr (fun t ht hW => ⟨⟨7, (), rfl, rfl, kB_end (w9 := []) (t9 := []) hP hK hD [] [] rfl (by decide) rfl rfl t ht hW⟩, hS.F ht⟩) hS.2.2 dX15_digit_21
abbrev wd_k_lchar3_2 (_z : Nat → Nat) : va_W := []
set_option maxHeartbeats 4000000 in
set_option maxRecDepth 100000 in
theorem k_lchar3_2 (l : Launch) (dC : Nat → ClassId) (dI : Nat → Nat → Nat) (z zK zV : Nat → Nat)  (sz : Nat)  : Met l yJ1_charAt_3b067 wsJ1_charAt_3b067 ({ frames := 2, cells := 0, slots := 0, locals := 43 }) (kP dC dI z zK zV [.ref (zV 3), .int 2] sz (wd_k_lchar3_2 z) []) (va_Qi (fun (r : Int32) (_ : Unit) => 51 = r) (fun _ t => kB (dC, dI) (va_A (wd_k_lchar3_2 z) sz) [] [] t) (va_A (wd_k_lchar3_2 z) sz)) 0 0 (va_A (wd_k_lchar3_2 z) sz) := by
  refine Met.ofW (cc := cJ1_charAt_3b067) (maxL := 2) (ret := (some .char)) (by decide) rfl ?_
  intro p e s m args below meth c s₁ B hml hv
  obtain ⟨rfl, hsz, hP, hK, hD0, hM⟩ := hv
  have hx := B.exec
  have hb := B.bytes
  have hr := B.returns
  have hts := atoms_spec (ws := wsJ1_charAt_3b067) B.pre
  have hown : s.vm.findClass RJ1 = some m.cls := findClass_of_methodNamed B.named
  have hlocks := B.notSynchronized
  subst hsz
  have hD := hD0.self (sz := s.heap.size)
  generalize hAe : va_A (wd_k_lchar3_2 z) s.heap.size = A at hD hM ⊢
  have hA : ∀ q : Nat, s.heap.size ≤ q → A q := fun q h => by rw [← hAe]; exact Or.inr h
  have hS : va_S A s.heap s.heap [] := va_S.rf
  have hP : va_P (dC, dI) vwCl [] s.heap := hP
  have hD : va_D A [] := hD
  have hl := lv_entry ([.ref (zV 3), .int 2]) (n := 2) (Nat.le_of_ble_eq_true rfl)
  rw [lg_entry_eq]
  generalize (lg_sl ([.ref (zV 3), .int 2]) ++ List.replicate (2 - (lg_sl ([.ref (zV 3), .int 2])).length) Slot.unset).toArray = ls at hl ⊢
  have hl : lv_has ls 2 [(0, .ref (zV 3)), (1, .int 2)] := hl
  refine lv_iload_n hx hb dJ1_charAt_3b067_0 rfl (lv_at hl 1 rfl) ?_
  refine lv_aload_n hx hb dJ1_charAt_3b067_1 rfl (lv_at hl 0 rfl) ?_
  refine va_tlen (v := 9) hx hb ((hM.2.2.2.1.1 3 (by decide)).2.2.2) hS rfl dJ1_charAt_3b067_2 ?_
  have hPc := hP.sub (ws' := []) [] rfl
  have hDc := hD.sub (ws' := []) [] (by decide) rfl
  have hKc := hK.sub (tys' := []) [] rfl
  have hFc := va_free (wc := []) hD hS hA [] rfl
  refine va_callv (va_runS (As := [.int 2, .int 9]) (rest := []) ⟨hx, hb, hml, hown, hts⟩ (k_schk_2 l dC dI z zK zV  s.heap.size) (va_cwS 2 hts gJ1_charAt_3b067_J0_checkIndex_df160 rfl rfl rfl (by decide +kernel) ⟨Nat.le_of_ble_eq_true rfl, Nat.le_of_ble_eq_true rfl⟩) ⟨kP_blind, kP_go hPc hKc hDc hFc hM hS⟩ rfl rfl hl.1 rfl (lv_room (Nat.le_of_ble_eq_true rfl)) dJ1_charAt_3b067_3 ⟨Nat.le_of_ble_eq_true rfl, Nat.le_of_ble_eq_true rfl⟩) hS (fun q _ h => hFc q h) hFc (fun u t H1 locs ht hvm hw hB hz1 hk1 hS => ?_)
  obtain ⟨hP, hD, hK⟩ := kJ (wr := []) (w1 := []) (t1 := []) hP hD hK [] [] rfl rfl (by decide) (by decide) hk1 hFc ht hvm hB
  generalize H1 = H at hP hS ⊢
  have hP : va_P (dC, dI) vwCl [] H := hP
  have hD : va_D A [] := hD
  have hK : va_K (dC, dI) vwCl [] s := hK
  clear hw
  refine lv_aload_n hx hb dJ1_charAt_3b067_6 rfl (lv_at hl 0 rfl) ?_
  refine lv_iload_n hx hb dJ1_charAt_3b067_7 rfl (lv_at hl 1 rfl) ?_
  refine va_tb (v := .int 51) hx hb ((hM.2.2.2.1.1 3 (by decide)).2.2.2) hS (pk_in 2 9 (by decide) rfl) rfl dJ1_charAt_3b067_8 ?_
  refine lv_sipush (v := 255) hx hb dJ1_charAt_3b067_9 (by decide) ?_
  refine lv_iand hx hb dJ1_charAt_3b067_12 ?_
  refine kc_i (y := 51) (by decide +kernel) ?_
  refine lv_i2c (v := 51) hx hb dJ1_charAt_3b067_13 (by decide +kernel) ?_
  exact W.zret (v := 51) hx hb hr (by decide +kernel) (fun t ht hW => ⟨⟨51, (), rfl, rfl, kB_end (w9 := []) (t9 := []) hP hK hD [] [] rfl (by decide) rfl rfl t ht hW⟩, hS.F ht⟩) hS.2.2 dJ1_charAt_3b067_14
abbrev wd_k_char3_2 (_z : Nat → Nat) : va_W := []
set_option maxHeartbeats 4000000 in
set_option maxRecDepth 100000 in
theorem k_char3_2 (l : Launch) (dC : Nat → ClassId) (dI : Nat → Nat → Nat) (z zK zV : Nat → Nat)  (sz : Nat)  : Met l yJ0_charAt_5068e wsJ0_charAt_5068e ({ frames := 3, cells := 0, slots := 0, locals := 64 }) (kP dC dI z zK zV [.ref (zK 3), .int 2] sz (wd_k_char3_2 z) []) (va_Qi (fun (r : Int32) (_ : Unit) => 51 = r) (fun _ t => kB (dC, dI) (va_A (wd_k_char3_2 z) sz) [] [] t) (va_A (wd_k_char3_2 z) sz)) 0 0 (va_A (wd_k_char3_2 z) sz) := by
  refine Met.ofW (cc := cJ0_charAt_5068e) (maxL := 2) (ret := (some .char)) (by decide) rfl ?_
  intro p e s m args below meth c s₁ B hml hv
  obtain ⟨rfl, hsz, hP, hK, hD0, hM⟩ := hv
  have hx := B.exec
  have hb := B.bytes
  have hr := B.returns
  have hts := atoms_spec (ws := wsJ0_charAt_5068e) B.pre
  have hown : s.vm.findClass RJ0 = some m.cls := findClass_of_methodNamed B.named
  have hlocks := B.notSynchronized
  subst hsz
  have hD := hD0.self (sz := s.heap.size)
  generalize hAe : va_A (wd_k_char3_2 z) s.heap.size = A at hD hM ⊢
  have hA : ∀ q : Nat, s.heap.size ≤ q → A q := fun q h => by rw [← hAe]; exact Or.inr h
  have hS : va_S A s.heap s.heap [] := va_S.rf
  have hP : va_P (dC, dI) vwCl [] s.heap := hP
  have hD : va_D A [] := hD
  have hl := lv_entry ([.ref (zK 3), .int 2]) (n := 2) (Nat.le_of_ble_eq_true rfl)
  rw [lg_entry_eq]
  generalize (lg_sl ([.ref (zK 3), .int 2]) ++ List.replicate (2 - (lg_sl ([.ref (zK 3), .int 2])).length) Slot.unset).toArray = ls at hl ⊢
  have hl : lv_has ls 2 [(0, .ref (zK 3)), (1, .int 2)] := hl
  refine lv_aload_n hx hb dJ0_charAt_5068e_0 rfl (lv_at hl 0 rfl) ?_
  have hPc := hP.sub (ws' := []) [] rfl
  have hDc := hD.sub (ws' := []) [] (by decide) rfl
  have hKc := hK.sub (tys' := []) [] rfl
  have hFc := va_free (wc := []) hD hS hA [] rfl
  refine va_calli (va_runV (As := []) (rest := []) ⟨hx, hb, hml, hown, hts⟩ (k_isLatin3 l dC dI z zK zV  s.heap.size) (cwV 0 hts gJ0_charAt_5068e_J0_isLatin1_aae02 rfl rfl rfl (by decide +kernel) ⟨Nat.le_of_ble_eq_true rfl, Nat.le_of_ble_eq_true rfl⟩) ⟨kP_blind, vk_recv (i := 3) hM.2.2.2.1 (by decide) hS, kP_go hPc hKc hDc hFc hM hS⟩ rfl rfl hl.1 rfl (lv_room (Nat.le_of_ble_eq_true rfl)) dJ0_charAt_5068e_1 ⟨Nat.le_of_ble_eq_true rfl, Nat.le_of_ble_eq_true rfl⟩) hS (fun q _ h => hFc q h) hFc (fun r1 u t H1 locs ht hvm hw hB hz1 hk1 hS => ?_)
  obtain ⟨hP, hD, hK⟩ := kJ (wr := []) (w1 := []) (t1 := []) hP hD hK [] [] rfl rfl (by decide) (by decide) hk1 hFc ht hvm hB
  generalize H1 = H at hP hS ⊢
  have hP : va_P (dC, dI) vwCl [] H := hP
  have hD : va_D A [] := hD
  have hK : va_K (dC, dI) vwCl [] s := hK
  obtain rfl : 1 = r1 := hw
  refine lv_if_eq (tgt := 16) hx hb dJ0_charAt_5068e_4 (by decide) (fun c_ => absurd c_ (by decide +kernel)) (fun _ => ?_)
  refine lv_aload_n hx hb dJ0_charAt_5068e_7 rfl (lv_at hl 0 rfl) ?_
  refine vk_getf (v := .ref (zV 3)) hx hb (hM.2.2.2.1.1 3 (by decide)).2.2.1 hS hown (hts (.fieldLink RJ0 9 "java/lang/String" "value" "[B") (by decide +kernel)) (fun _ h9 => h9) dJ0_charAt_5068e_8 ?_
  refine lv_iload_n hx hb dJ0_charAt_5068e_11 rfl (lv_at hl 1 rfl) ?_
  have hPc := hP.sub (ws' := []) [] rfl
  have hDc := hD.sub (ws' := []) [] (by decide) rfl
  have hKc := hK.sub (tys' := []) [] rfl
  have hFc := va_free (wc := []) hD hS hA [] rfl
  refine va_calli (va_runS (As := [.ref (zV 3), .int 2]) (rest := []) ⟨hx, hb, hml, hown, hts⟩ (k_lchar3_2 l dC dI z zK zV  H.size) (va_cwS 2 hts gJ0_charAt_5068e_J1_charAt_3b067 rfl rfl rfl (by decide +kernel) ⟨Nat.le_of_ble_eq_true rfl, Nat.le_of_ble_eq_true rfl⟩) ⟨kP_blind, kP_go hPc hKc hDc hFc hM hS⟩ rfl rfl hl.1 rfl (lv_room (Nat.le_of_ble_eq_true rfl)) dJ0_charAt_5068e_12 ⟨Nat.le_of_ble_eq_true rfl, Nat.le_of_ble_eq_true rfl⟩) hS (fun q _ h => hFc q h) hFc (fun r2 u t H1 locs ht hvm hw hB hz1 hk1 hS => ?_)
  obtain ⟨hP, hD, hK⟩ := kJ (wr := []) (w1 := []) (t1 := []) hP hD hK [] [] rfl rfl (by decide) (by decide) hk1 hFc ht hvm hB
  generalize H1 = H at hP hS ⊢
  have hP : va_P (dC, dI) vwCl [] H := hP
  have hD : va_D A [] := hD
  have hK : va_K (dC, dI) vwCl [] s := hK
  obtain rfl : 51 = r2 := hw
  exact W.zret (v := 51) hx hb hr (by decide +kernel) (fun t ht hW => ⟨⟨51, (), rfl, rfl, kB_end (w9 := []) (t9 := []) hP hK hD [] [] rfl (by decide) rfl rfl t ht hW⟩, hS.F ht⟩) hS.2.2 dJ0_charAt_5068e_15
abbrev wd_k_digit3_2 (_z : Nat → Nat) : va_W := []
set_option maxHeartbeats 4000000 in
set_option maxRecDepth 100000 in
theorem k_digit3_2 (l : Launch) (dC : Nat → ClassId) (dI : Nat → Nat → Nat) (z zK zV : Nat → Nat)  (sz : Nat)  : Met l yX15_digit wsX15_digit ({ frames := 4, cells := 0, slots := 0, locals := 85 }) (kP dC dI z zK zV [.ref (zK 3), .int 2] sz (wd_k_digit3_2 z) []) (va_Qi (fun (r : Int32) (_ : Unit) => 3 = r) (fun _ t => kB (dC, dI) (va_A (wd_k_digit3_2 z) sz) [] [] t) (va_A (wd_k_digit3_2 z) sz)) 0 0 (va_A (wd_k_digit3_2 z) sz) := by
  refine Met.ofW (cc := cX15_digit) (maxL := 3) (ret := (some .int)) (by decide) rfl ?_
  intro p e s m args below meth c s₁ B hml hv
  obtain ⟨rfl, hsz, hP, hK, hD0, hM⟩ := hv
  have hx := B.exec
  have hb := B.bytes
  have hr := B.returns
  have hts := atoms_spec (ws := wsX15_digit) B.pre
  have hown : s.vm.findClass RX15 = some m.cls := findClass_of_methodNamed B.named
  have hlocks := B.notSynchronized
  subst hsz
  have hD := hD0.self (sz := s.heap.size)
  generalize hAe : va_A (wd_k_digit3_2 z) s.heap.size = A at hD hM ⊢
  have hA : ∀ q : Nat, s.heap.size ≤ q → A q := fun q h => by rw [← hAe]; exact Or.inr h
  have hS : va_S A s.heap s.heap [] := va_S.rf
  have hP : va_P (dC, dI) vwCl [] s.heap := hP
  have hD : va_D A [] := hD
  have hl := lv_entry ([.ref (zK 3), .int 2]) (n := 3) (Nat.le_of_ble_eq_true rfl)
  rw [lg_entry_eq]
  generalize (lg_sl ([.ref (zK 3), .int 2]) ++ List.replicate (3 - (lg_sl ([.ref (zK 3), .int 2])).length) Slot.unset).toArray = ls at hl ⊢
  have hl : lv_has ls 3 [(0, .ref (zK 3)), (1, .int 2)] := hl
  refine lv_aload_n hx hb dX15_digit_0 rfl (lv_at hl 0 rfl) ?_
  refine lv_iload_n hx hb dX15_digit_1 rfl (lv_at hl 1 rfl) ?_
  have hPc := hP.sub (ws' := []) [] rfl
  have hDc := hD.sub (ws' := []) [] (by decide) rfl
  have hKc := hK.sub (tys' := []) [] rfl
  have hFc := va_free (wc := []) hD hS hA [] rfl
  refine va_calli (va_runV (As := [.int 2]) (rest := []) ⟨hx, hb, hml, hown, hts⟩ (k_char3_2 l dC dI z zK zV  s.heap.size) (cwV 1 hts gX15_digit_J0_charAt_5068e rfl rfl rfl (by decide +kernel) ⟨Nat.le_of_ble_eq_true rfl, Nat.le_of_ble_eq_true rfl⟩) ⟨kP_blind, vk_recv (i := 3) hM.2.2.2.1 (by decide) hS, kP_go hPc hKc hDc hFc hM hS⟩ rfl rfl hl.1 rfl (lv_room (Nat.le_of_ble_eq_true rfl)) dX15_digit_2 ⟨Nat.le_of_ble_eq_true rfl, Nat.le_of_ble_eq_true rfl⟩) hS (fun q _ h => hFc q h) hFc (fun r1 u t H1 locs ht hvm hw hB hz1 hk1 hS => ?_)
  obtain ⟨hP, hD, hK⟩ := kJ (wr := []) (w1 := []) (t1 := []) hP hD hK [] [] rfl rfl (by decide) (by decide) hk1 hFc ht hvm hB
  generalize H1 = H at hP hS ⊢
  have hP : va_P (dC, dI) vwCl [] H := hP
  have hD : va_D A [] := hD
  have hK : va_K (dC, dI) vwCl [] s := hK
  obtain rfl : 51 = r1 := hw
  refine lv_istore_n (lv' := [(2, .int 51), (0, .ref (zK 3)), (1, .int 2)]) hx hb dX15_digit_5 rfl hl (by decide) rfl (fun ls hl => ?_)
  refine lv_iload_n hx hb dX15_digit_6 rfl (lv_at hl 0 rfl) ?_
  refine lv_bipush (v := 65) hx hb dX15_digit_7 (by decide) ?_
  refine lv_icmp_ne (tgt := 17) hx hb dX15_digit_9 (by decide) (fun _ => ?_) (fun c_ => absurd c_ (by decide +kernel))
  refine lv_iload_n hx hb dX15_digit_17 rfl (lv_at hl 0 rfl) ?_
  refine lv_bipush (v := 48) hx hb dX15_digit_18 (by decide) ?_
  refine lv_isub hx hb dX15_digit_20 ?_
  refine kc_i (y := 3) (by decide +kernel) ?_
  exact W.iret (v := 3) hx hb hr (fun t ht hW => ⟨⟨3, (), rfl, rfl, kB_end (w9 := []) (t9 := []) hP hK hD [] [] rfl (by decide) rfl rfl t ht hW⟩, hS.F ht⟩) hS.2.2 dX15_digit_21
abbrev wd_k_lchar3_3 (_z : Nat → Nat) : va_W := []
set_option maxHeartbeats 4000000 in
set_option maxRecDepth 100000 in
theorem k_lchar3_3 (l : Launch) (dC : Nat → ClassId) (dI : Nat → Nat → Nat) (z zK zV : Nat → Nat)  (sz : Nat)  : Met l yJ1_charAt_3b067 wsJ1_charAt_3b067 ({ frames := 2, cells := 0, slots := 0, locals := 43 }) (kP dC dI z zK zV [.ref (zV 3), .int 3] sz (wd_k_lchar3_3 z) []) (va_Qi (fun (r : Int32) (_ : Unit) => 65 = r) (fun _ t => kB (dC, dI) (va_A (wd_k_lchar3_3 z) sz) [] [] t) (va_A (wd_k_lchar3_3 z) sz)) 0 0 (va_A (wd_k_lchar3_3 z) sz) := by
  refine Met.ofW (cc := cJ1_charAt_3b067) (maxL := 2) (ret := (some .char)) (by decide) rfl ?_
  intro p e s m args below meth c s₁ B hml hv
  obtain ⟨rfl, hsz, hP, hK, hD0, hM⟩ := hv
  have hx := B.exec
  have hb := B.bytes
  have hr := B.returns
  have hts := atoms_spec (ws := wsJ1_charAt_3b067) B.pre
  have hown : s.vm.findClass RJ1 = some m.cls := findClass_of_methodNamed B.named
  have hlocks := B.notSynchronized
  subst hsz
  have hD := hD0.self (sz := s.heap.size)
  generalize hAe : va_A (wd_k_lchar3_3 z) s.heap.size = A at hD hM ⊢
  have hA : ∀ q : Nat, s.heap.size ≤ q → A q := fun q h => by rw [← hAe]; exact Or.inr h
  have hS : va_S A s.heap s.heap [] := va_S.rf
  have hP : va_P (dC, dI) vwCl [] s.heap := hP
  have hD : va_D A [] := hD
  have hl := lv_entry ([.ref (zV 3), .int 3]) (n := 2) (Nat.le_of_ble_eq_true rfl)
  rw [lg_entry_eq]
  generalize (lg_sl ([.ref (zV 3), .int 3]) ++ List.replicate (2 - (lg_sl ([.ref (zV 3), .int 3])).length) Slot.unset).toArray = ls at hl ⊢
  have hl : lv_has ls 2 [(0, .ref (zV 3)), (1, .int 3)] := hl
  refine lv_iload_n hx hb dJ1_charAt_3b067_0 rfl (lv_at hl 1 rfl) ?_
  refine lv_aload_n hx hb dJ1_charAt_3b067_1 rfl (lv_at hl 0 rfl) ?_
  refine va_tlen (v := 9) hx hb ((hM.2.2.2.1.1 3 (by decide)).2.2.2) hS rfl dJ1_charAt_3b067_2 ?_
  have hPc := hP.sub (ws' := []) [] rfl
  have hDc := hD.sub (ws' := []) [] (by decide) rfl
  have hKc := hK.sub (tys' := []) [] rfl
  have hFc := va_free (wc := []) hD hS hA [] rfl
  refine va_callv (va_runS (As := [.int 3, .int 9]) (rest := []) ⟨hx, hb, hml, hown, hts⟩ (k_schk_3 l dC dI z zK zV  s.heap.size) (va_cwS 2 hts gJ1_charAt_3b067_J0_checkIndex_df160 rfl rfl rfl (by decide +kernel) ⟨Nat.le_of_ble_eq_true rfl, Nat.le_of_ble_eq_true rfl⟩) ⟨kP_blind, kP_go hPc hKc hDc hFc hM hS⟩ rfl rfl hl.1 rfl (lv_room (Nat.le_of_ble_eq_true rfl)) dJ1_charAt_3b067_3 ⟨Nat.le_of_ble_eq_true rfl, Nat.le_of_ble_eq_true rfl⟩) hS (fun q _ h => hFc q h) hFc (fun u t H1 locs ht hvm hw hB hz1 hk1 hS => ?_)
  obtain ⟨hP, hD, hK⟩ := kJ (wr := []) (w1 := []) (t1 := []) hP hD hK [] [] rfl rfl (by decide) (by decide) hk1 hFc ht hvm hB
  generalize H1 = H at hP hS ⊢
  have hP : va_P (dC, dI) vwCl [] H := hP
  have hD : va_D A [] := hD
  have hK : va_K (dC, dI) vwCl [] s := hK
  clear hw
  refine lv_aload_n hx hb dJ1_charAt_3b067_6 rfl (lv_at hl 0 rfl) ?_
  refine lv_iload_n hx hb dJ1_charAt_3b067_7 rfl (lv_at hl 1 rfl) ?_
  refine va_tb (v := .int 65) hx hb ((hM.2.2.2.1.1 3 (by decide)).2.2.2) hS (pk_in 3 9 (by decide) rfl) rfl dJ1_charAt_3b067_8 ?_
  refine lv_sipush (v := 255) hx hb dJ1_charAt_3b067_9 (by decide) ?_
  refine lv_iand hx hb dJ1_charAt_3b067_12 ?_
  refine kc_i (y := 65) (by decide +kernel) ?_
  refine lv_i2c (v := 65) hx hb dJ1_charAt_3b067_13 (by decide +kernel) ?_
  exact W.zret (v := 65) hx hb hr (by decide +kernel) (fun t ht hW => ⟨⟨65, (), rfl, rfl, kB_end (w9 := []) (t9 := []) hP hK hD [] [] rfl (by decide) rfl rfl t ht hW⟩, hS.F ht⟩) hS.2.2 dJ1_charAt_3b067_14
abbrev wd_k_char3_3 (_z : Nat → Nat) : va_W := []
set_option maxHeartbeats 4000000 in
set_option maxRecDepth 100000 in
theorem k_char3_3 (l : Launch) (dC : Nat → ClassId) (dI : Nat → Nat → Nat) (z zK zV : Nat → Nat)  (sz : Nat)  : Met l yJ0_charAt_5068e wsJ0_charAt_5068e ({ frames := 3, cells := 0, slots := 0, locals := 64 }) (kP dC dI z zK zV [.ref (zK 3), .int 3] sz (wd_k_char3_3 z) []) (va_Qi (fun (r : Int32) (_ : Unit) => 65 = r) (fun _ t => kB (dC, dI) (va_A (wd_k_char3_3 z) sz) [] [] t) (va_A (wd_k_char3_3 z) sz)) 0 0 (va_A (wd_k_char3_3 z) sz) := by
  refine Met.ofW (cc := cJ0_charAt_5068e) (maxL := 2) (ret := (some .char)) (by decide) rfl ?_
  intro p e s m args below meth c s₁ B hml hv
  obtain ⟨rfl, hsz, hP, hK, hD0, hM⟩ := hv
  have hx := B.exec
  have hb := B.bytes
  have hr := B.returns
  have hts := atoms_spec (ws := wsJ0_charAt_5068e) B.pre
  have hown : s.vm.findClass RJ0 = some m.cls := findClass_of_methodNamed B.named
  have hlocks := B.notSynchronized
  subst hsz
  have hD := hD0.self (sz := s.heap.size)
  generalize hAe : va_A (wd_k_char3_3 z) s.heap.size = A at hD hM ⊢
  have hA : ∀ q : Nat, s.heap.size ≤ q → A q := fun q h => by rw [← hAe]; exact Or.inr h
  have hS : va_S A s.heap s.heap [] := va_S.rf
  have hP : va_P (dC, dI) vwCl [] s.heap := hP
  have hD : va_D A [] := hD
  have hl := lv_entry ([.ref (zK 3), .int 3]) (n := 2) (Nat.le_of_ble_eq_true rfl)
  rw [lg_entry_eq]
  generalize (lg_sl ([.ref (zK 3), .int 3]) ++ List.replicate (2 - (lg_sl ([.ref (zK 3), .int 3])).length) Slot.unset).toArray = ls at hl ⊢
  have hl : lv_has ls 2 [(0, .ref (zK 3)), (1, .int 3)] := hl
  refine lv_aload_n hx hb dJ0_charAt_5068e_0 rfl (lv_at hl 0 rfl) ?_
  have hPc := hP.sub (ws' := []) [] rfl
  have hDc := hD.sub (ws' := []) [] (by decide) rfl
  have hKc := hK.sub (tys' := []) [] rfl
  have hFc := va_free (wc := []) hD hS hA [] rfl
  refine va_calli (va_runV (As := []) (rest := []) ⟨hx, hb, hml, hown, hts⟩ (k_isLatin3 l dC dI z zK zV  s.heap.size) (cwV 0 hts gJ0_charAt_5068e_J0_isLatin1_aae02 rfl rfl rfl (by decide +kernel) ⟨Nat.le_of_ble_eq_true rfl, Nat.le_of_ble_eq_true rfl⟩) ⟨kP_blind, vk_recv (i := 3) hM.2.2.2.1 (by decide) hS, kP_go hPc hKc hDc hFc hM hS⟩ rfl rfl hl.1 rfl (lv_room (Nat.le_of_ble_eq_true rfl)) dJ0_charAt_5068e_1 ⟨Nat.le_of_ble_eq_true rfl, Nat.le_of_ble_eq_true rfl⟩) hS (fun q _ h => hFc q h) hFc (fun r1 u t H1 locs ht hvm hw hB hz1 hk1 hS => ?_)
  obtain ⟨hP, hD, hK⟩ := kJ (wr := []) (w1 := []) (t1 := []) hP hD hK [] [] rfl rfl (by decide) (by decide) hk1 hFc ht hvm hB
  generalize H1 = H at hP hS ⊢
  have hP : va_P (dC, dI) vwCl [] H := hP
  have hD : va_D A [] := hD
  have hK : va_K (dC, dI) vwCl [] s := hK
  obtain rfl : 1 = r1 := hw
  refine lv_if_eq (tgt := 16) hx hb dJ0_charAt_5068e_4 (by decide) (fun c_ => absurd c_ (by decide +kernel)) (fun _ => ?_)
  refine lv_aload_n hx hb dJ0_charAt_5068e_7 rfl (lv_at hl 0 rfl) ?_
  refine vk_getf (v := .ref (zV 3)) hx hb (hM.2.2.2.1.1 3 (by decide)).2.2.1 hS hown (hts (.fieldLink RJ0 9 "java/lang/String" "value" "[B") (by decide +kernel)) (fun _ h9 => h9) dJ0_charAt_5068e_8 ?_
  refine lv_iload_n hx hb dJ0_charAt_5068e_11 rfl (lv_at hl 1 rfl) ?_
  have hPc := hP.sub (ws' := []) [] rfl
  have hDc := hD.sub (ws' := []) [] (by decide) rfl
  have hKc := hK.sub (tys' := []) [] rfl
  have hFc := va_free (wc := []) hD hS hA [] rfl
  refine va_calli (va_runS (As := [.ref (zV 3), .int 3]) (rest := []) ⟨hx, hb, hml, hown, hts⟩ (k_lchar3_3 l dC dI z zK zV  H.size) (va_cwS 2 hts gJ0_charAt_5068e_J1_charAt_3b067 rfl rfl rfl (by decide +kernel) ⟨Nat.le_of_ble_eq_true rfl, Nat.le_of_ble_eq_true rfl⟩) ⟨kP_blind, kP_go hPc hKc hDc hFc hM hS⟩ rfl rfl hl.1 rfl (lv_room (Nat.le_of_ble_eq_true rfl)) dJ0_charAt_5068e_12 ⟨Nat.le_of_ble_eq_true rfl, Nat.le_of_ble_eq_true rfl⟩) hS (fun q _ h => hFc q h) hFc (fun r2 u t H1 locs ht hvm hw hB hz1 hk1 hS => ?_)
  obtain ⟨hP, hD, hK⟩ := kJ (wr := []) (w1 := []) (t1 := []) hP hD hK [] [] rfl rfl (by decide) (by decide) hk1 hFc ht hvm hB
  generalize H1 = H at hP hS ⊢
  have hP : va_P (dC, dI) vwCl [] H := hP
  have hD : va_D A [] := hD
  have hK : va_K (dC, dI) vwCl [] s := hK
  obtain rfl : 65 = r2 := hw
  exact W.zret (v := 65) hx hb hr (by decide +kernel) (fun t ht hW => ⟨⟨65, (), rfl, rfl, kB_end (w9 := []) (t9 := []) hP hK hD [] [] rfl (by decide) rfl rfl t ht hW⟩, hS.F ht⟩) hS.2.2 dJ0_charAt_5068e_15
abbrev wd_k_digit3_3 (_z : Nat → Nat) : va_W := []
set_option maxHeartbeats 4000000 in
set_option maxRecDepth 100000 in
theorem k_digit3_3 (l : Launch) (dC : Nat → ClassId) (dI : Nat → Nat → Nat) (z zK zV : Nat → Nat)  (sz : Nat)  : Met l yX15_digit wsX15_digit ({ frames := 4, cells := 0, slots := 0, locals := 85 }) (kP dC dI z zK zV [.ref (zK 3), .int 3] sz (wd_k_digit3_3 z) []) (va_Qi (fun (r : Int32) (_ : Unit) => 10 = r) (fun _ t => kB (dC, dI) (va_A (wd_k_digit3_3 z) sz) [] [] t) (va_A (wd_k_digit3_3 z) sz)) 0 0 (va_A (wd_k_digit3_3 z) sz) := by
  refine Met.ofW (cc := cX15_digit) (maxL := 3) (ret := (some .int)) (by decide) rfl ?_
  intro p e s m args below meth c s₁ B hml hv
  obtain ⟨rfl, hsz, hP, hK, hD0, hM⟩ := hv
  have hx := B.exec
  have hb := B.bytes
  have hr := B.returns
  have hts := atoms_spec (ws := wsX15_digit) B.pre
  have hown : s.vm.findClass RX15 = some m.cls := findClass_of_methodNamed B.named
  have hlocks := B.notSynchronized
  subst hsz
  have hD := hD0.self (sz := s.heap.size)
  generalize hAe : va_A (wd_k_digit3_3 z) s.heap.size = A at hD hM ⊢
  have hA : ∀ q : Nat, s.heap.size ≤ q → A q := fun q h => by rw [← hAe]; exact Or.inr h
  have hS : va_S A s.heap s.heap [] := va_S.rf
  have hP : va_P (dC, dI) vwCl [] s.heap := hP
  have hD : va_D A [] := hD
  have hl := lv_entry ([.ref (zK 3), .int 3]) (n := 3) (Nat.le_of_ble_eq_true rfl)
  rw [lg_entry_eq]
  generalize (lg_sl ([.ref (zK 3), .int 3]) ++ List.replicate (3 - (lg_sl ([.ref (zK 3), .int 3])).length) Slot.unset).toArray = ls at hl ⊢
  have hl : lv_has ls 3 [(0, .ref (zK 3)), (1, .int 3)] := hl
  refine lv_aload_n hx hb dX15_digit_0 rfl (lv_at hl 0 rfl) ?_
  refine lv_iload_n hx hb dX15_digit_1 rfl (lv_at hl 1 rfl) ?_
  have hPc := hP.sub (ws' := []) [] rfl
  have hDc := hD.sub (ws' := []) [] (by decide) rfl
  have hKc := hK.sub (tys' := []) [] rfl
  have hFc := va_free (wc := []) hD hS hA [] rfl
  refine va_calli (va_runV (As := [.int 3]) (rest := []) ⟨hx, hb, hml, hown, hts⟩ (k_char3_3 l dC dI z zK zV  s.heap.size) (cwV 1 hts gX15_digit_J0_charAt_5068e rfl rfl rfl (by decide +kernel) ⟨Nat.le_of_ble_eq_true rfl, Nat.le_of_ble_eq_true rfl⟩) ⟨kP_blind, vk_recv (i := 3) hM.2.2.2.1 (by decide) hS, kP_go hPc hKc hDc hFc hM hS⟩ rfl rfl hl.1 rfl (lv_room (Nat.le_of_ble_eq_true rfl)) dX15_digit_2 ⟨Nat.le_of_ble_eq_true rfl, Nat.le_of_ble_eq_true rfl⟩) hS (fun q _ h => hFc q h) hFc (fun r1 u t H1 locs ht hvm hw hB hz1 hk1 hS => ?_)
  obtain ⟨hP, hD, hK⟩ := kJ (wr := []) (w1 := []) (t1 := []) hP hD hK [] [] rfl rfl (by decide) (by decide) hk1 hFc ht hvm hB
  generalize H1 = H at hP hS ⊢
  have hP : va_P (dC, dI) vwCl [] H := hP
  have hD : va_D A [] := hD
  have hK : va_K (dC, dI) vwCl [] s := hK
  obtain rfl : 65 = r1 := hw
  refine lv_istore_n (lv' := [(2, .int 65), (0, .ref (zK 3)), (1, .int 3)]) hx hb dX15_digit_5 rfl hl (by decide) rfl (fun ls hl => ?_)
  refine lv_iload_n hx hb dX15_digit_6 rfl (lv_at hl 0 rfl) ?_
  refine lv_bipush (v := 65) hx hb dX15_digit_7 (by decide) ?_
  refine lv_icmp_ne (tgt := 17) hx hb dX15_digit_9 (by decide) (fun c_ => absurd (by decide +kernel) c_) (fun _ => ?_)
  refine lv_bipush (v := 10) hx hb dX15_digit_12 (by decide) ?_
  refine lv_goto (tgt := 21) hx hb dX15_digit_14 (by decide) ?_
  exact W.iret (v := 10) hx hb hr (fun t ht hW => ⟨⟨10, (), rfl, rfl, kB_end (w9 := []) (t9 := []) hP hK hD [] [] rfl (by decide) rfl rfl t ht hW⟩, hS.F ht⟩) hS.2.2 dX15_digit_21
abbrev wd_k_lchar3_4 (_z : Nat → Nat) : va_W := []
set_option maxHeartbeats 4000000 in
set_option maxRecDepth 100000 in
theorem k_lchar3_4 (l : Launch) (dC : Nat → ClassId) (dI : Nat → Nat → Nat) (z zK zV : Nat → Nat)  (sz : Nat)  : Met l yJ1_charAt_3b067 wsJ1_charAt_3b067 ({ frames := 2, cells := 0, slots := 0, locals := 43 }) (kP dC dI z zK zV [.ref (zV 3), .int 4] sz (wd_k_lchar3_4 z) []) (va_Qi (fun (r : Int32) (_ : Unit) => 57 = r) (fun _ t => kB (dC, dI) (va_A (wd_k_lchar3_4 z) sz) [] [] t) (va_A (wd_k_lchar3_4 z) sz)) 0 0 (va_A (wd_k_lchar3_4 z) sz) := by
  refine Met.ofW (cc := cJ1_charAt_3b067) (maxL := 2) (ret := (some .char)) (by decide) rfl ?_
  intro p e s m args below meth c s₁ B hml hv
  obtain ⟨rfl, hsz, hP, hK, hD0, hM⟩ := hv
  have hx := B.exec
  have hb := B.bytes
  have hr := B.returns
  have hts := atoms_spec (ws := wsJ1_charAt_3b067) B.pre
  have hown : s.vm.findClass RJ1 = some m.cls := findClass_of_methodNamed B.named
  have hlocks := B.notSynchronized
  subst hsz
  have hD := hD0.self (sz := s.heap.size)
  generalize hAe : va_A (wd_k_lchar3_4 z) s.heap.size = A at hD hM ⊢
  have hA : ∀ q : Nat, s.heap.size ≤ q → A q := fun q h => by rw [← hAe]; exact Or.inr h
  have hS : va_S A s.heap s.heap [] := va_S.rf
  have hP : va_P (dC, dI) vwCl [] s.heap := hP
  have hD : va_D A [] := hD
  have hl := lv_entry ([.ref (zV 3), .int 4]) (n := 2) (Nat.le_of_ble_eq_true rfl)
  rw [lg_entry_eq]
  generalize (lg_sl ([.ref (zV 3), .int 4]) ++ List.replicate (2 - (lg_sl ([.ref (zV 3), .int 4])).length) Slot.unset).toArray = ls at hl ⊢
  have hl : lv_has ls 2 [(0, .ref (zV 3)), (1, .int 4)] := hl
  refine lv_iload_n hx hb dJ1_charAt_3b067_0 rfl (lv_at hl 1 rfl) ?_
  refine lv_aload_n hx hb dJ1_charAt_3b067_1 rfl (lv_at hl 0 rfl) ?_
  refine va_tlen (v := 9) hx hb ((hM.2.2.2.1.1 3 (by decide)).2.2.2) hS rfl dJ1_charAt_3b067_2 ?_
  have hPc := hP.sub (ws' := []) [] rfl
  have hDc := hD.sub (ws' := []) [] (by decide) rfl
  have hKc := hK.sub (tys' := []) [] rfl
  have hFc := va_free (wc := []) hD hS hA [] rfl
  refine va_callv (va_runS (As := [.int 4, .int 9]) (rest := []) ⟨hx, hb, hml, hown, hts⟩ (k_schk_4 l dC dI z zK zV  s.heap.size) (va_cwS 2 hts gJ1_charAt_3b067_J0_checkIndex_df160 rfl rfl rfl (by decide +kernel) ⟨Nat.le_of_ble_eq_true rfl, Nat.le_of_ble_eq_true rfl⟩) ⟨kP_blind, kP_go hPc hKc hDc hFc hM hS⟩ rfl rfl hl.1 rfl (lv_room (Nat.le_of_ble_eq_true rfl)) dJ1_charAt_3b067_3 ⟨Nat.le_of_ble_eq_true rfl, Nat.le_of_ble_eq_true rfl⟩) hS (fun q _ h => hFc q h) hFc (fun u t H1 locs ht hvm hw hB hz1 hk1 hS => ?_)
  obtain ⟨hP, hD, hK⟩ := kJ (wr := []) (w1 := []) (t1 := []) hP hD hK [] [] rfl rfl (by decide) (by decide) hk1 hFc ht hvm hB
  generalize H1 = H at hP hS ⊢
  have hP : va_P (dC, dI) vwCl [] H := hP
  have hD : va_D A [] := hD
  have hK : va_K (dC, dI) vwCl [] s := hK
  clear hw
  refine lv_aload_n hx hb dJ1_charAt_3b067_6 rfl (lv_at hl 0 rfl) ?_
  refine lv_iload_n hx hb dJ1_charAt_3b067_7 rfl (lv_at hl 1 rfl) ?_
  refine va_tb (v := .int 57) hx hb ((hM.2.2.2.1.1 3 (by decide)).2.2.2) hS (pk_in 4 9 (by decide) rfl) rfl dJ1_charAt_3b067_8 ?_
  refine lv_sipush (v := 255) hx hb dJ1_charAt_3b067_9 (by decide) ?_
  refine lv_iand hx hb dJ1_charAt_3b067_12 ?_
  refine kc_i (y := 57) (by decide +kernel) ?_
  refine lv_i2c (v := 57) hx hb dJ1_charAt_3b067_13 (by decide +kernel) ?_
  exact W.zret (v := 57) hx hb hr (by decide +kernel) (fun t ht hW => ⟨⟨57, (), rfl, rfl, kB_end (w9 := []) (t9 := []) hP hK hD [] [] rfl (by decide) rfl rfl t ht hW⟩, hS.F ht⟩) hS.2.2 dJ1_charAt_3b067_14
abbrev wd_k_char3_4 (_z : Nat → Nat) : va_W := []
set_option maxHeartbeats 4000000 in
set_option maxRecDepth 100000 in
theorem k_char3_4 (l : Launch) (dC : Nat → ClassId) (dI : Nat → Nat → Nat) (z zK zV : Nat → Nat)  (sz : Nat)  : Met l yJ0_charAt_5068e wsJ0_charAt_5068e ({ frames := 3, cells := 0, slots := 0, locals := 64 }) (kP dC dI z zK zV [.ref (zK 3), .int 4] sz (wd_k_char3_4 z) []) (va_Qi (fun (r : Int32) (_ : Unit) => 57 = r) (fun _ t => kB (dC, dI) (va_A (wd_k_char3_4 z) sz) [] [] t) (va_A (wd_k_char3_4 z) sz)) 0 0 (va_A (wd_k_char3_4 z) sz) := by
  refine Met.ofW (cc := cJ0_charAt_5068e) (maxL := 2) (ret := (some .char)) (by decide) rfl ?_
  intro p e s m args below meth c s₁ B hml hv
  obtain ⟨rfl, hsz, hP, hK, hD0, hM⟩ := hv
  have hx := B.exec
  have hb := B.bytes
  have hr := B.returns
  have hts := atoms_spec (ws := wsJ0_charAt_5068e) B.pre
  have hown : s.vm.findClass RJ0 = some m.cls := findClass_of_methodNamed B.named
  have hlocks := B.notSynchronized
  subst hsz
  have hD := hD0.self (sz := s.heap.size)
  generalize hAe : va_A (wd_k_char3_4 z) s.heap.size = A at hD hM ⊢
  have hA : ∀ q : Nat, s.heap.size ≤ q → A q := fun q h => by rw [← hAe]; exact Or.inr h
  have hS : va_S A s.heap s.heap [] := va_S.rf
  have hP : va_P (dC, dI) vwCl [] s.heap := hP
  have hD : va_D A [] := hD
  have hl := lv_entry ([.ref (zK 3), .int 4]) (n := 2) (Nat.le_of_ble_eq_true rfl)
  rw [lg_entry_eq]
  generalize (lg_sl ([.ref (zK 3), .int 4]) ++ List.replicate (2 - (lg_sl ([.ref (zK 3), .int 4])).length) Slot.unset).toArray = ls at hl ⊢
  have hl : lv_has ls 2 [(0, .ref (zK 3)), (1, .int 4)] := hl
  refine lv_aload_n hx hb dJ0_charAt_5068e_0 rfl (lv_at hl 0 rfl) ?_
  have hPc := hP.sub (ws' := []) [] rfl
  have hDc := hD.sub (ws' := []) [] (by decide) rfl
  have hKc := hK.sub (tys' := []) [] rfl
  have hFc := va_free (wc := []) hD hS hA [] rfl
  refine va_calli (va_runV (As := []) (rest := []) ⟨hx, hb, hml, hown, hts⟩ (k_isLatin3 l dC dI z zK zV  s.heap.size) (cwV 0 hts gJ0_charAt_5068e_J0_isLatin1_aae02 rfl rfl rfl (by decide +kernel) ⟨Nat.le_of_ble_eq_true rfl, Nat.le_of_ble_eq_true rfl⟩) ⟨kP_blind, vk_recv (i := 3) hM.2.2.2.1 (by decide) hS, kP_go hPc hKc hDc hFc hM hS⟩ rfl rfl hl.1 rfl (lv_room (Nat.le_of_ble_eq_true rfl)) dJ0_charAt_5068e_1 ⟨Nat.le_of_ble_eq_true rfl, Nat.le_of_ble_eq_true rfl⟩) hS (fun q _ h => hFc q h) hFc (fun r1 u t H1 locs ht hvm hw hB hz1 hk1 hS => ?_)
  obtain ⟨hP, hD, hK⟩ := kJ (wr := []) (w1 := []) (t1 := []) hP hD hK [] [] rfl rfl (by decide) (by decide) hk1 hFc ht hvm hB
  generalize H1 = H at hP hS ⊢
  have hP : va_P (dC, dI) vwCl [] H := hP
  have hD : va_D A [] := hD
  have hK : va_K (dC, dI) vwCl [] s := hK
  obtain rfl : 1 = r1 := hw
  refine lv_if_eq (tgt := 16) hx hb dJ0_charAt_5068e_4 (by decide) (fun c_ => absurd c_ (by decide +kernel)) (fun _ => ?_)
  refine lv_aload_n hx hb dJ0_charAt_5068e_7 rfl (lv_at hl 0 rfl) ?_
  refine vk_getf (v := .ref (zV 3)) hx hb (hM.2.2.2.1.1 3 (by decide)).2.2.1 hS hown (hts (.fieldLink RJ0 9 "java/lang/String" "value" "[B") (by decide +kernel)) (fun _ h9 => h9) dJ0_charAt_5068e_8 ?_
  refine lv_iload_n hx hb dJ0_charAt_5068e_11 rfl (lv_at hl 1 rfl) ?_
  have hPc := hP.sub (ws' := []) [] rfl
  have hDc := hD.sub (ws' := []) [] (by decide) rfl
  have hKc := hK.sub (tys' := []) [] rfl
  have hFc := va_free (wc := []) hD hS hA [] rfl
  refine va_calli (va_runS (As := [.ref (zV 3), .int 4]) (rest := []) ⟨hx, hb, hml, hown, hts⟩ (k_lchar3_4 l dC dI z zK zV  H.size) (va_cwS 2 hts gJ0_charAt_5068e_J1_charAt_3b067 rfl rfl rfl (by decide +kernel) ⟨Nat.le_of_ble_eq_true rfl, Nat.le_of_ble_eq_true rfl⟩) ⟨kP_blind, kP_go hPc hKc hDc hFc hM hS⟩ rfl rfl hl.1 rfl (lv_room (Nat.le_of_ble_eq_true rfl)) dJ0_charAt_5068e_12 ⟨Nat.le_of_ble_eq_true rfl, Nat.le_of_ble_eq_true rfl⟩) hS (fun q _ h => hFc q h) hFc (fun r2 u t H1 locs ht hvm hw hB hz1 hk1 hS => ?_)
  obtain ⟨hP, hD, hK⟩ := kJ (wr := []) (w1 := []) (t1 := []) hP hD hK [] [] rfl rfl (by decide) (by decide) hk1 hFc ht hvm hB
  generalize H1 = H at hP hS ⊢
  have hP : va_P (dC, dI) vwCl [] H := hP
  have hD : va_D A [] := hD
  have hK : va_K (dC, dI) vwCl [] s := hK
  obtain rfl : 57 = r2 := hw
  exact W.zret (v := 57) hx hb hr (by decide +kernel) (fun t ht hW => ⟨⟨57, (), rfl, rfl, kB_end (w9 := []) (t9 := []) hP hK hD [] [] rfl (by decide) rfl rfl t ht hW⟩, hS.F ht⟩) hS.2.2 dJ0_charAt_5068e_15
abbrev wd_k_digit3_4 (_z : Nat → Nat) : va_W := []
set_option maxHeartbeats 4000000 in
set_option maxRecDepth 100000 in
theorem k_digit3_4 (l : Launch) (dC : Nat → ClassId) (dI : Nat → Nat → Nat) (z zK zV : Nat → Nat)  (sz : Nat)  : Met l yX15_digit wsX15_digit ({ frames := 4, cells := 0, slots := 0, locals := 85 }) (kP dC dI z zK zV [.ref (zK 3), .int 4] sz (wd_k_digit3_4 z) []) (va_Qi (fun (r : Int32) (_ : Unit) => 9 = r) (fun _ t => kB (dC, dI) (va_A (wd_k_digit3_4 z) sz) [] [] t) (va_A (wd_k_digit3_4 z) sz)) 0 0 (va_A (wd_k_digit3_4 z) sz) := by
  refine Met.ofW (cc := cX15_digit) (maxL := 3) (ret := (some .int)) (by decide) rfl ?_
  intro p e s m args below meth c s₁ B hml hv
  obtain ⟨rfl, hsz, hP, hK, hD0, hM⟩ := hv
  have hx := B.exec
  have hb := B.bytes
  have hr := B.returns
  have hts := atoms_spec (ws := wsX15_digit) B.pre
  have hown : s.vm.findClass RX15 = some m.cls := findClass_of_methodNamed B.named
  have hlocks := B.notSynchronized
  subst hsz
  have hD := hD0.self (sz := s.heap.size)
  generalize hAe : va_A (wd_k_digit3_4 z) s.heap.size = A at hD hM ⊢
  have hA : ∀ q : Nat, s.heap.size ≤ q → A q := fun q h => by rw [← hAe]; exact Or.inr h
  have hS : va_S A s.heap s.heap [] := va_S.rf
  have hP : va_P (dC, dI) vwCl [] s.heap := hP
  have hD : va_D A [] := hD
  have hl := lv_entry ([.ref (zK 3), .int 4]) (n := 3) (Nat.le_of_ble_eq_true rfl)
  rw [lg_entry_eq]
  generalize (lg_sl ([.ref (zK 3), .int 4]) ++ List.replicate (3 - (lg_sl ([.ref (zK 3), .int 4])).length) Slot.unset).toArray = ls at hl ⊢
  have hl : lv_has ls 3 [(0, .ref (zK 3)), (1, .int 4)] := hl
  refine lv_aload_n hx hb dX15_digit_0 rfl (lv_at hl 0 rfl) ?_
  refine lv_iload_n hx hb dX15_digit_1 rfl (lv_at hl 1 rfl) ?_
  have hPc := hP.sub (ws' := []) [] rfl
  have hDc := hD.sub (ws' := []) [] (by decide) rfl
  have hKc := hK.sub (tys' := []) [] rfl
  have hFc := va_free (wc := []) hD hS hA [] rfl
  refine va_calli (va_runV (As := [.int 4]) (rest := []) ⟨hx, hb, hml, hown, hts⟩ (k_char3_4 l dC dI z zK zV  s.heap.size) (cwV 1 hts gX15_digit_J0_charAt_5068e rfl rfl rfl (by decide +kernel) ⟨Nat.le_of_ble_eq_true rfl, Nat.le_of_ble_eq_true rfl⟩) ⟨kP_blind, vk_recv (i := 3) hM.2.2.2.1 (by decide) hS, kP_go hPc hKc hDc hFc hM hS⟩ rfl rfl hl.1 rfl (lv_room (Nat.le_of_ble_eq_true rfl)) dX15_digit_2 ⟨Nat.le_of_ble_eq_true rfl, Nat.le_of_ble_eq_true rfl⟩) hS (fun q _ h => hFc q h) hFc (fun r1 u t H1 locs ht hvm hw hB hz1 hk1 hS => ?_)
  obtain ⟨hP, hD, hK⟩ := kJ (wr := []) (w1 := []) (t1 := []) hP hD hK [] [] rfl rfl (by decide) (by decide) hk1 hFc ht hvm hB
  generalize H1 = H at hP hS ⊢
  have hP : va_P (dC, dI) vwCl [] H := hP
  have hD : va_D A [] := hD
  have hK : va_K (dC, dI) vwCl [] s := hK
  obtain rfl : 57 = r1 := hw
  refine lv_istore_n (lv' := [(2, .int 57), (0, .ref (zK 3)), (1, .int 4)]) hx hb dX15_digit_5 rfl hl (by decide) rfl (fun ls hl => ?_)
  refine lv_iload_n hx hb dX15_digit_6 rfl (lv_at hl 0 rfl) ?_
  refine lv_bipush (v := 65) hx hb dX15_digit_7 (by decide) ?_
  refine lv_icmp_ne (tgt := 17) hx hb dX15_digit_9 (by decide) (fun _ => ?_) (fun c_ => absurd c_ (by decide +kernel))
  refine lv_iload_n hx hb dX15_digit_17 rfl (lv_at hl 0 rfl) ?_
  refine lv_bipush (v := 48) hx hb dX15_digit_18 (by decide) ?_
  refine lv_isub hx hb dX15_digit_20 ?_
  refine kc_i (y := 9) (by decide +kernel) ?_
  exact W.iret (v := 9) hx hb hr (fun t ht hW => ⟨⟨9, (), rfl, rfl, kB_end (w9 := []) (t9 := []) hP hK hD [] [] rfl (by decide) rfl rfl t ht hW⟩, hS.F ht⟩) hS.2.2 dX15_digit_21
abbrev wd_k_lchar3_5 (_z : Nat → Nat) : va_W := []
set_option maxHeartbeats 4000000 in
set_option maxRecDepth 100000 in
theorem k_lchar3_5 (l : Launch) (dC : Nat → ClassId) (dI : Nat → Nat → Nat) (z zK zV : Nat → Nat)  (sz : Nat)  : Met l yJ1_charAt_3b067 wsJ1_charAt_3b067 ({ frames := 2, cells := 0, slots := 0, locals := 43 }) (kP dC dI z zK zV [.ref (zV 3), .int 5] sz (wd_k_lchar3_5 z) []) (va_Qi (fun (r : Int32) (_ : Unit) => 52 = r) (fun _ t => kB (dC, dI) (va_A (wd_k_lchar3_5 z) sz) [] [] t) (va_A (wd_k_lchar3_5 z) sz)) 0 0 (va_A (wd_k_lchar3_5 z) sz) := by
  refine Met.ofW (cc := cJ1_charAt_3b067) (maxL := 2) (ret := (some .char)) (by decide) rfl ?_
  intro p e s m args below meth c s₁ B hml hv
  obtain ⟨rfl, hsz, hP, hK, hD0, hM⟩ := hv
  have hx := B.exec
  have hb := B.bytes
  have hr := B.returns
  have hts := atoms_spec (ws := wsJ1_charAt_3b067) B.pre
  have hown : s.vm.findClass RJ1 = some m.cls := findClass_of_methodNamed B.named
  have hlocks := B.notSynchronized
  subst hsz
  have hD := hD0.self (sz := s.heap.size)
  generalize hAe : va_A (wd_k_lchar3_5 z) s.heap.size = A at hD hM ⊢
  have hA : ∀ q : Nat, s.heap.size ≤ q → A q := fun q h => by rw [← hAe]; exact Or.inr h
  have hS : va_S A s.heap s.heap [] := va_S.rf
  have hP : va_P (dC, dI) vwCl [] s.heap := hP
  have hD : va_D A [] := hD
  have hl := lv_entry ([.ref (zV 3), .int 5]) (n := 2) (Nat.le_of_ble_eq_true rfl)
  rw [lg_entry_eq]
  generalize (lg_sl ([.ref (zV 3), .int 5]) ++ List.replicate (2 - (lg_sl ([.ref (zV 3), .int 5])).length) Slot.unset).toArray = ls at hl ⊢
  have hl : lv_has ls 2 [(0, .ref (zV 3)), (1, .int 5)] := hl
  refine lv_iload_n hx hb dJ1_charAt_3b067_0 rfl (lv_at hl 1 rfl) ?_
  refine lv_aload_n hx hb dJ1_charAt_3b067_1 rfl (lv_at hl 0 rfl) ?_
  refine va_tlen (v := 9) hx hb ((hM.2.2.2.1.1 3 (by decide)).2.2.2) hS rfl dJ1_charAt_3b067_2 ?_
  have hPc := hP.sub (ws' := []) [] rfl
  have hDc := hD.sub (ws' := []) [] (by decide) rfl
  have hKc := hK.sub (tys' := []) [] rfl
  have hFc := va_free (wc := []) hD hS hA [] rfl
  refine va_callv (va_runS (As := [.int 5, .int 9]) (rest := []) ⟨hx, hb, hml, hown, hts⟩ (k_schk_5 l dC dI z zK zV  s.heap.size) (va_cwS 2 hts gJ1_charAt_3b067_J0_checkIndex_df160 rfl rfl rfl (by decide +kernel) ⟨Nat.le_of_ble_eq_true rfl, Nat.le_of_ble_eq_true rfl⟩) ⟨kP_blind, kP_go hPc hKc hDc hFc hM hS⟩ rfl rfl hl.1 rfl (lv_room (Nat.le_of_ble_eq_true rfl)) dJ1_charAt_3b067_3 ⟨Nat.le_of_ble_eq_true rfl, Nat.le_of_ble_eq_true rfl⟩) hS (fun q _ h => hFc q h) hFc (fun u t H1 locs ht hvm hw hB hz1 hk1 hS => ?_)
  obtain ⟨hP, hD, hK⟩ := kJ (wr := []) (w1 := []) (t1 := []) hP hD hK [] [] rfl rfl (by decide) (by decide) hk1 hFc ht hvm hB
  generalize H1 = H at hP hS ⊢
  have hP : va_P (dC, dI) vwCl [] H := hP
  have hD : va_D A [] := hD
  have hK : va_K (dC, dI) vwCl [] s := hK
  clear hw
  refine lv_aload_n hx hb dJ1_charAt_3b067_6 rfl (lv_at hl 0 rfl) ?_
  refine lv_iload_n hx hb dJ1_charAt_3b067_7 rfl (lv_at hl 1 rfl) ?_
  refine va_tb (v := .int 52) hx hb ((hM.2.2.2.1.1 3 (by decide)).2.2.2) hS (pk_in 5 9 (by decide) rfl) rfl dJ1_charAt_3b067_8 ?_
  refine lv_sipush (v := 255) hx hb dJ1_charAt_3b067_9 (by decide) ?_
  refine lv_iand hx hb dJ1_charAt_3b067_12 ?_
  refine kc_i (y := 52) (by decide +kernel) ?_
  refine lv_i2c (v := 52) hx hb dJ1_charAt_3b067_13 (by decide +kernel) ?_
  exact W.zret (v := 52) hx hb hr (by decide +kernel) (fun t ht hW => ⟨⟨52, (), rfl, rfl, kB_end (w9 := []) (t9 := []) hP hK hD [] [] rfl (by decide) rfl rfl t ht hW⟩, hS.F ht⟩) hS.2.2 dJ1_charAt_3b067_14
abbrev wd_k_char3_5 (_z : Nat → Nat) : va_W := []
set_option maxHeartbeats 4000000 in
set_option maxRecDepth 100000 in
theorem k_char3_5 (l : Launch) (dC : Nat → ClassId) (dI : Nat → Nat → Nat) (z zK zV : Nat → Nat)  (sz : Nat)  : Met l yJ0_charAt_5068e wsJ0_charAt_5068e ({ frames := 3, cells := 0, slots := 0, locals := 64 }) (kP dC dI z zK zV [.ref (zK 3), .int 5] sz (wd_k_char3_5 z) []) (va_Qi (fun (r : Int32) (_ : Unit) => 52 = r) (fun _ t => kB (dC, dI) (va_A (wd_k_char3_5 z) sz) [] [] t) (va_A (wd_k_char3_5 z) sz)) 0 0 (va_A (wd_k_char3_5 z) sz) := by
  refine Met.ofW (cc := cJ0_charAt_5068e) (maxL := 2) (ret := (some .char)) (by decide) rfl ?_
  intro p e s m args below meth c s₁ B hml hv
  obtain ⟨rfl, hsz, hP, hK, hD0, hM⟩ := hv
  have hx := B.exec
  have hb := B.bytes
  have hr := B.returns
  have hts := atoms_spec (ws := wsJ0_charAt_5068e) B.pre
  have hown : s.vm.findClass RJ0 = some m.cls := findClass_of_methodNamed B.named
  have hlocks := B.notSynchronized
  subst hsz
  have hD := hD0.self (sz := s.heap.size)
  generalize hAe : va_A (wd_k_char3_5 z) s.heap.size = A at hD hM ⊢
  have hA : ∀ q : Nat, s.heap.size ≤ q → A q := fun q h => by rw [← hAe]; exact Or.inr h
  have hS : va_S A s.heap s.heap [] := va_S.rf
  have hP : va_P (dC, dI) vwCl [] s.heap := hP
  have hD : va_D A [] := hD
  have hl := lv_entry ([.ref (zK 3), .int 5]) (n := 2) (Nat.le_of_ble_eq_true rfl)
  rw [lg_entry_eq]
  generalize (lg_sl ([.ref (zK 3), .int 5]) ++ List.replicate (2 - (lg_sl ([.ref (zK 3), .int 5])).length) Slot.unset).toArray = ls at hl ⊢
  have hl : lv_has ls 2 [(0, .ref (zK 3)), (1, .int 5)] := hl
  refine lv_aload_n hx hb dJ0_charAt_5068e_0 rfl (lv_at hl 0 rfl) ?_
  have hPc := hP.sub (ws' := []) [] rfl
  have hDc := hD.sub (ws' := []) [] (by decide) rfl
  have hKc := hK.sub (tys' := []) [] rfl
  have hFc := va_free (wc := []) hD hS hA [] rfl
  refine va_calli (va_runV (As := []) (rest := []) ⟨hx, hb, hml, hown, hts⟩ (k_isLatin3 l dC dI z zK zV  s.heap.size) (cwV 0 hts gJ0_charAt_5068e_J0_isLatin1_aae02 rfl rfl rfl (by decide +kernel) ⟨Nat.le_of_ble_eq_true rfl, Nat.le_of_ble_eq_true rfl⟩) ⟨kP_blind, vk_recv (i := 3) hM.2.2.2.1 (by decide) hS, kP_go hPc hKc hDc hFc hM hS⟩ rfl rfl hl.1 rfl (lv_room (Nat.le_of_ble_eq_true rfl)) dJ0_charAt_5068e_1 ⟨Nat.le_of_ble_eq_true rfl, Nat.le_of_ble_eq_true rfl⟩) hS (fun q _ h => hFc q h) hFc (fun r1 u t H1 locs ht hvm hw hB hz1 hk1 hS => ?_)
  obtain ⟨hP, hD, hK⟩ := kJ (wr := []) (w1 := []) (t1 := []) hP hD hK [] [] rfl rfl (by decide) (by decide) hk1 hFc ht hvm hB
  generalize H1 = H at hP hS ⊢
  have hP : va_P (dC, dI) vwCl [] H := hP
  have hD : va_D A [] := hD
  have hK : va_K (dC, dI) vwCl [] s := hK
  obtain rfl : 1 = r1 := hw
  refine lv_if_eq (tgt := 16) hx hb dJ0_charAt_5068e_4 (by decide) (fun c_ => absurd c_ (by decide +kernel)) (fun _ => ?_)
  refine lv_aload_n hx hb dJ0_charAt_5068e_7 rfl (lv_at hl 0 rfl) ?_
  refine vk_getf (v := .ref (zV 3)) hx hb (hM.2.2.2.1.1 3 (by decide)).2.2.1 hS hown (hts (.fieldLink RJ0 9 "java/lang/String" "value" "[B") (by decide +kernel)) (fun _ h9 => h9) dJ0_charAt_5068e_8 ?_
  refine lv_iload_n hx hb dJ0_charAt_5068e_11 rfl (lv_at hl 1 rfl) ?_
  have hPc := hP.sub (ws' := []) [] rfl
  have hDc := hD.sub (ws' := []) [] (by decide) rfl
  have hKc := hK.sub (tys' := []) [] rfl
  have hFc := va_free (wc := []) hD hS hA [] rfl
  refine va_calli (va_runS (As := [.ref (zV 3), .int 5]) (rest := []) ⟨hx, hb, hml, hown, hts⟩ (k_lchar3_5 l dC dI z zK zV  H.size) (va_cwS 2 hts gJ0_charAt_5068e_J1_charAt_3b067 rfl rfl rfl (by decide +kernel) ⟨Nat.le_of_ble_eq_true rfl, Nat.le_of_ble_eq_true rfl⟩) ⟨kP_blind, kP_go hPc hKc hDc hFc hM hS⟩ rfl rfl hl.1 rfl (lv_room (Nat.le_of_ble_eq_true rfl)) dJ0_charAt_5068e_12 ⟨Nat.le_of_ble_eq_true rfl, Nat.le_of_ble_eq_true rfl⟩) hS (fun q _ h => hFc q h) hFc (fun r2 u t H1 locs ht hvm hw hB hz1 hk1 hS => ?_)
  obtain ⟨hP, hD, hK⟩ := kJ (wr := []) (w1 := []) (t1 := []) hP hD hK [] [] rfl rfl (by decide) (by decide) hk1 hFc ht hvm hB
  generalize H1 = H at hP hS ⊢
  have hP : va_P (dC, dI) vwCl [] H := hP
  have hD : va_D A [] := hD
  have hK : va_K (dC, dI) vwCl [] s := hK
  obtain rfl : 52 = r2 := hw
  exact W.zret (v := 52) hx hb hr (by decide +kernel) (fun t ht hW => ⟨⟨52, (), rfl, rfl, kB_end (w9 := []) (t9 := []) hP hK hD [] [] rfl (by decide) rfl rfl t ht hW⟩, hS.F ht⟩) hS.2.2 dJ0_charAt_5068e_15
abbrev wd_k_digit3_5 (_z : Nat → Nat) : va_W := []
set_option maxHeartbeats 4000000 in
set_option maxRecDepth 100000 in
theorem k_digit3_5 (l : Launch) (dC : Nat → ClassId) (dI : Nat → Nat → Nat) (z zK zV : Nat → Nat)  (sz : Nat)  : Met l yX15_digit wsX15_digit ({ frames := 4, cells := 0, slots := 0, locals := 85 }) (kP dC dI z zK zV [.ref (zK 3), .int 5] sz (wd_k_digit3_5 z) []) (va_Qi (fun (r : Int32) (_ : Unit) => 4 = r) (fun _ t => kB (dC, dI) (va_A (wd_k_digit3_5 z) sz) [] [] t) (va_A (wd_k_digit3_5 z) sz)) 0 0 (va_A (wd_k_digit3_5 z) sz) := by
  refine Met.ofW (cc := cX15_digit) (maxL := 3) (ret := (some .int)) (by decide) rfl ?_
  intro p e s m args below meth c s₁ B hml hv
  obtain ⟨rfl, hsz, hP, hK, hD0, hM⟩ := hv
  have hx := B.exec
  have hb := B.bytes
  have hr := B.returns
  have hts := atoms_spec (ws := wsX15_digit) B.pre
  have hown : s.vm.findClass RX15 = some m.cls := findClass_of_methodNamed B.named
  have hlocks := B.notSynchronized
  subst hsz
  have hD := hD0.self (sz := s.heap.size)
  generalize hAe : va_A (wd_k_digit3_5 z) s.heap.size = A at hD hM ⊢
  have hA : ∀ q : Nat, s.heap.size ≤ q → A q := fun q h => by rw [← hAe]; exact Or.inr h
  have hS : va_S A s.heap s.heap [] := va_S.rf
  have hP : va_P (dC, dI) vwCl [] s.heap := hP
  have hD : va_D A [] := hD
  have hl := lv_entry ([.ref (zK 3), .int 5]) (n := 3) (Nat.le_of_ble_eq_true rfl)
  rw [lg_entry_eq]
  generalize (lg_sl ([.ref (zK 3), .int 5]) ++ List.replicate (3 - (lg_sl ([.ref (zK 3), .int 5])).length) Slot.unset).toArray = ls at hl ⊢
  have hl : lv_has ls 3 [(0, .ref (zK 3)), (1, .int 5)] := hl
  refine lv_aload_n hx hb dX15_digit_0 rfl (lv_at hl 0 rfl) ?_
  refine lv_iload_n hx hb dX15_digit_1 rfl (lv_at hl 1 rfl) ?_
  have hPc := hP.sub (ws' := []) [] rfl
  have hDc := hD.sub (ws' := []) [] (by decide) rfl
  have hKc := hK.sub (tys' := []) [] rfl
  have hFc := va_free (wc := []) hD hS hA [] rfl
  refine va_calli (va_runV (As := [.int 5]) (rest := []) ⟨hx, hb, hml, hown, hts⟩ (k_char3_5 l dC dI z zK zV  s.heap.size) (cwV 1 hts gX15_digit_J0_charAt_5068e rfl rfl rfl (by decide +kernel) ⟨Nat.le_of_ble_eq_true rfl, Nat.le_of_ble_eq_true rfl⟩) ⟨kP_blind, vk_recv (i := 3) hM.2.2.2.1 (by decide) hS, kP_go hPc hKc hDc hFc hM hS⟩ rfl rfl hl.1 rfl (lv_room (Nat.le_of_ble_eq_true rfl)) dX15_digit_2 ⟨Nat.le_of_ble_eq_true rfl, Nat.le_of_ble_eq_true rfl⟩) hS (fun q _ h => hFc q h) hFc (fun r1 u t H1 locs ht hvm hw hB hz1 hk1 hS => ?_)
  obtain ⟨hP, hD, hK⟩ := kJ (wr := []) (w1 := []) (t1 := []) hP hD hK [] [] rfl rfl (by decide) (by decide) hk1 hFc ht hvm hB
  generalize H1 = H at hP hS ⊢
  have hP : va_P (dC, dI) vwCl [] H := hP
  have hD : va_D A [] := hD
  have hK : va_K (dC, dI) vwCl [] s := hK
  obtain rfl : 52 = r1 := hw
  refine lv_istore_n (lv' := [(2, .int 52), (0, .ref (zK 3)), (1, .int 5)]) hx hb dX15_digit_5 rfl hl (by decide) rfl (fun ls hl => ?_)
  refine lv_iload_n hx hb dX15_digit_6 rfl (lv_at hl 0 rfl) ?_
  refine lv_bipush (v := 65) hx hb dX15_digit_7 (by decide) ?_
  refine lv_icmp_ne (tgt := 17) hx hb dX15_digit_9 (by decide) (fun _ => ?_) (fun c_ => absurd c_ (by decide +kernel))
  refine lv_iload_n hx hb dX15_digit_17 rfl (lv_at hl 0 rfl) ?_
  refine lv_bipush (v := 48) hx hb dX15_digit_18 (by decide) ?_
  refine lv_isub hx hb dX15_digit_20 ?_
  refine kc_i (y := 4) (by decide +kernel) ?_
  exact W.iret (v := 4) hx hb hr (fun t ht hW => ⟨⟨4, (), rfl, rfl, kB_end (w9 := []) (t9 := []) hP hK hD [] [] rfl (by decide) rfl rfl t ht hW⟩, hS.F ht⟩) hS.2.2 dX15_digit_21
abbrev wd_k_lchar3_6 (_z : Nat → Nat) : va_W := []
set_option maxHeartbeats 4000000 in
set_option maxRecDepth 100000 in
theorem k_lchar3_6 (l : Launch) (dC : Nat → ClassId) (dI : Nat → Nat → Nat) (z zK zV : Nat → Nat)  (sz : Nat)  : Met l yJ1_charAt_3b067 wsJ1_charAt_3b067 ({ frames := 2, cells := 0, slots := 0, locals := 43 }) (kP dC dI z zK zV [.ref (zV 3), .int 6] sz (wd_k_lchar3_6 z) []) (va_Qi (fun (r : Int32) (_ : Unit) => 53 = r) (fun _ t => kB (dC, dI) (va_A (wd_k_lchar3_6 z) sz) [] [] t) (va_A (wd_k_lchar3_6 z) sz)) 0 0 (va_A (wd_k_lchar3_6 z) sz) := by
  refine Met.ofW (cc := cJ1_charAt_3b067) (maxL := 2) (ret := (some .char)) (by decide) rfl ?_
  intro p e s m args below meth c s₁ B hml hv
  obtain ⟨rfl, hsz, hP, hK, hD0, hM⟩ := hv
  have hx := B.exec
  have hb := B.bytes
  have hr := B.returns
  have hts := atoms_spec (ws := wsJ1_charAt_3b067) B.pre
  have hown : s.vm.findClass RJ1 = some m.cls := findClass_of_methodNamed B.named
  have hlocks := B.notSynchronized
  subst hsz
  have hD := hD0.self (sz := s.heap.size)
  generalize hAe : va_A (wd_k_lchar3_6 z) s.heap.size = A at hD hM ⊢
  have hA : ∀ q : Nat, s.heap.size ≤ q → A q := fun q h => by rw [← hAe]; exact Or.inr h
  have hS : va_S A s.heap s.heap [] := va_S.rf
  have hP : va_P (dC, dI) vwCl [] s.heap := hP
  have hD : va_D A [] := hD
  have hl := lv_entry ([.ref (zV 3), .int 6]) (n := 2) (Nat.le_of_ble_eq_true rfl)
  rw [lg_entry_eq]
  generalize (lg_sl ([.ref (zV 3), .int 6]) ++ List.replicate (2 - (lg_sl ([.ref (zV 3), .int 6])).length) Slot.unset).toArray = ls at hl ⊢
  have hl : lv_has ls 2 [(0, .ref (zV 3)), (1, .int 6)] := hl
  refine lv_iload_n hx hb dJ1_charAt_3b067_0 rfl (lv_at hl 1 rfl) ?_
  refine lv_aload_n hx hb dJ1_charAt_3b067_1 rfl (lv_at hl 0 rfl) ?_
  refine va_tlen (v := 9) hx hb ((hM.2.2.2.1.1 3 (by decide)).2.2.2) hS rfl dJ1_charAt_3b067_2 ?_
  have hPc := hP.sub (ws' := []) [] rfl
  have hDc := hD.sub (ws' := []) [] (by decide) rfl
  have hKc := hK.sub (tys' := []) [] rfl
  have hFc := va_free (wc := []) hD hS hA [] rfl
  refine va_callv (va_runS (As := [.int 6, .int 9]) (rest := []) ⟨hx, hb, hml, hown, hts⟩ (k_schk_6 l dC dI z zK zV  s.heap.size) (va_cwS 2 hts gJ1_charAt_3b067_J0_checkIndex_df160 rfl rfl rfl (by decide +kernel) ⟨Nat.le_of_ble_eq_true rfl, Nat.le_of_ble_eq_true rfl⟩) ⟨kP_blind, kP_go hPc hKc hDc hFc hM hS⟩ rfl rfl hl.1 rfl (lv_room (Nat.le_of_ble_eq_true rfl)) dJ1_charAt_3b067_3 ⟨Nat.le_of_ble_eq_true rfl, Nat.le_of_ble_eq_true rfl⟩) hS (fun q _ h => hFc q h) hFc (fun u t H1 locs ht hvm hw hB hz1 hk1 hS => ?_)
  obtain ⟨hP, hD, hK⟩ := kJ (wr := []) (w1 := []) (t1 := []) hP hD hK [] [] rfl rfl (by decide) (by decide) hk1 hFc ht hvm hB
  generalize H1 = H at hP hS ⊢
  have hP : va_P (dC, dI) vwCl [] H := hP
  have hD : va_D A [] := hD
  have hK : va_K (dC, dI) vwCl [] s := hK
  clear hw
  refine lv_aload_n hx hb dJ1_charAt_3b067_6 rfl (lv_at hl 0 rfl) ?_
  refine lv_iload_n hx hb dJ1_charAt_3b067_7 rfl (lv_at hl 1 rfl) ?_
  refine va_tb (v := .int 53) hx hb ((hM.2.2.2.1.1 3 (by decide)).2.2.2) hS (pk_in 6 9 (by decide) rfl) rfl dJ1_charAt_3b067_8 ?_
  refine lv_sipush (v := 255) hx hb dJ1_charAt_3b067_9 (by decide) ?_
  refine lv_iand hx hb dJ1_charAt_3b067_12 ?_
  refine kc_i (y := 53) (by decide +kernel) ?_
  refine lv_i2c (v := 53) hx hb dJ1_charAt_3b067_13 (by decide +kernel) ?_
  exact W.zret (v := 53) hx hb hr (by decide +kernel) (fun t ht hW => ⟨⟨53, (), rfl, rfl, kB_end (w9 := []) (t9 := []) hP hK hD [] [] rfl (by decide) rfl rfl t ht hW⟩, hS.F ht⟩) hS.2.2 dJ1_charAt_3b067_14
abbrev wd_k_char3_6 (_z : Nat → Nat) : va_W := []
set_option maxHeartbeats 4000000 in
set_option maxRecDepth 100000 in
theorem k_char3_6 (l : Launch) (dC : Nat → ClassId) (dI : Nat → Nat → Nat) (z zK zV : Nat → Nat)  (sz : Nat)  : Met l yJ0_charAt_5068e wsJ0_charAt_5068e ({ frames := 3, cells := 0, slots := 0, locals := 64 }) (kP dC dI z zK zV [.ref (zK 3), .int 6] sz (wd_k_char3_6 z) []) (va_Qi (fun (r : Int32) (_ : Unit) => 53 = r) (fun _ t => kB (dC, dI) (va_A (wd_k_char3_6 z) sz) [] [] t) (va_A (wd_k_char3_6 z) sz)) 0 0 (va_A (wd_k_char3_6 z) sz) := by
  refine Met.ofW (cc := cJ0_charAt_5068e) (maxL := 2) (ret := (some .char)) (by decide) rfl ?_
  intro p e s m args below meth c s₁ B hml hv
  obtain ⟨rfl, hsz, hP, hK, hD0, hM⟩ := hv
  have hx := B.exec
  have hb := B.bytes
  have hr := B.returns
  have hts := atoms_spec (ws := wsJ0_charAt_5068e) B.pre
  have hown : s.vm.findClass RJ0 = some m.cls := findClass_of_methodNamed B.named
  have hlocks := B.notSynchronized
  subst hsz
  have hD := hD0.self (sz := s.heap.size)
  generalize hAe : va_A (wd_k_char3_6 z) s.heap.size = A at hD hM ⊢
  have hA : ∀ q : Nat, s.heap.size ≤ q → A q := fun q h => by rw [← hAe]; exact Or.inr h
  have hS : va_S A s.heap s.heap [] := va_S.rf
  have hP : va_P (dC, dI) vwCl [] s.heap := hP
  have hD : va_D A [] := hD
  have hl := lv_entry ([.ref (zK 3), .int 6]) (n := 2) (Nat.le_of_ble_eq_true rfl)
  rw [lg_entry_eq]
  generalize (lg_sl ([.ref (zK 3), .int 6]) ++ List.replicate (2 - (lg_sl ([.ref (zK 3), .int 6])).length) Slot.unset).toArray = ls at hl ⊢
  have hl : lv_has ls 2 [(0, .ref (zK 3)), (1, .int 6)] := hl
  refine lv_aload_n hx hb dJ0_charAt_5068e_0 rfl (lv_at hl 0 rfl) ?_
  have hPc := hP.sub (ws' := []) [] rfl
  have hDc := hD.sub (ws' := []) [] (by decide) rfl
  have hKc := hK.sub (tys' := []) [] rfl
  have hFc := va_free (wc := []) hD hS hA [] rfl
  refine va_calli (va_runV (As := []) (rest := []) ⟨hx, hb, hml, hown, hts⟩ (k_isLatin3 l dC dI z zK zV  s.heap.size) (cwV 0 hts gJ0_charAt_5068e_J0_isLatin1_aae02 rfl rfl rfl (by decide +kernel) ⟨Nat.le_of_ble_eq_true rfl, Nat.le_of_ble_eq_true rfl⟩) ⟨kP_blind, vk_recv (i := 3) hM.2.2.2.1 (by decide) hS, kP_go hPc hKc hDc hFc hM hS⟩ rfl rfl hl.1 rfl (lv_room (Nat.le_of_ble_eq_true rfl)) dJ0_charAt_5068e_1 ⟨Nat.le_of_ble_eq_true rfl, Nat.le_of_ble_eq_true rfl⟩) hS (fun q _ h => hFc q h) hFc (fun r1 u t H1 locs ht hvm hw hB hz1 hk1 hS => ?_)
  obtain ⟨hP, hD, hK⟩ := kJ (wr := []) (w1 := []) (t1 := []) hP hD hK [] [] rfl rfl (by decide) (by decide) hk1 hFc ht hvm hB
  generalize H1 = H at hP hS ⊢
  have hP : va_P (dC, dI) vwCl [] H := hP
  have hD : va_D A [] := hD
  have hK : va_K (dC, dI) vwCl [] s := hK
  obtain rfl : 1 = r1 := hw
  refine lv_if_eq (tgt := 16) hx hb dJ0_charAt_5068e_4 (by decide) (fun c_ => absurd c_ (by decide +kernel)) (fun _ => ?_)
  refine lv_aload_n hx hb dJ0_charAt_5068e_7 rfl (lv_at hl 0 rfl) ?_
  refine vk_getf (v := .ref (zV 3)) hx hb (hM.2.2.2.1.1 3 (by decide)).2.2.1 hS hown (hts (.fieldLink RJ0 9 "java/lang/String" "value" "[B") (by decide +kernel)) (fun _ h9 => h9) dJ0_charAt_5068e_8 ?_
  refine lv_iload_n hx hb dJ0_charAt_5068e_11 rfl (lv_at hl 1 rfl) ?_
  have hPc := hP.sub (ws' := []) [] rfl
  have hDc := hD.sub (ws' := []) [] (by decide) rfl
  have hKc := hK.sub (tys' := []) [] rfl
  have hFc := va_free (wc := []) hD hS hA [] rfl
  refine va_calli (va_runS (As := [.ref (zV 3), .int 6]) (rest := []) ⟨hx, hb, hml, hown, hts⟩ (k_lchar3_6 l dC dI z zK zV  H.size) (va_cwS 2 hts gJ0_charAt_5068e_J1_charAt_3b067 rfl rfl rfl (by decide +kernel) ⟨Nat.le_of_ble_eq_true rfl, Nat.le_of_ble_eq_true rfl⟩) ⟨kP_blind, kP_go hPc hKc hDc hFc hM hS⟩ rfl rfl hl.1 rfl (lv_room (Nat.le_of_ble_eq_true rfl)) dJ0_charAt_5068e_12 ⟨Nat.le_of_ble_eq_true rfl, Nat.le_of_ble_eq_true rfl⟩) hS (fun q _ h => hFc q h) hFc (fun r2 u t H1 locs ht hvm hw hB hz1 hk1 hS => ?_)
  obtain ⟨hP, hD, hK⟩ := kJ (wr := []) (w1 := []) (t1 := []) hP hD hK [] [] rfl rfl (by decide) (by decide) hk1 hFc ht hvm hB
  generalize H1 = H at hP hS ⊢
  have hP : va_P (dC, dI) vwCl [] H := hP
  have hD : va_D A [] := hD
  have hK : va_K (dC, dI) vwCl [] s := hK
  obtain rfl : 53 = r2 := hw
  exact W.zret (v := 53) hx hb hr (by decide +kernel) (fun t ht hW => ⟨⟨53, (), rfl, rfl, kB_end (w9 := []) (t9 := []) hP hK hD [] [] rfl (by decide) rfl rfl t ht hW⟩, hS.F ht⟩) hS.2.2 dJ0_charAt_5068e_15
abbrev wd_k_digit3_6 (_z : Nat → Nat) : va_W := []
set_option maxHeartbeats 4000000 in
set_option maxRecDepth 100000 in
theorem k_digit3_6 (l : Launch) (dC : Nat → ClassId) (dI : Nat → Nat → Nat) (z zK zV : Nat → Nat)  (sz : Nat)  : Met l yX15_digit wsX15_digit ({ frames := 4, cells := 0, slots := 0, locals := 85 }) (kP dC dI z zK zV [.ref (zK 3), .int 6] sz (wd_k_digit3_6 z) []) (va_Qi (fun (r : Int32) (_ : Unit) => 5 = r) (fun _ t => kB (dC, dI) (va_A (wd_k_digit3_6 z) sz) [] [] t) (va_A (wd_k_digit3_6 z) sz)) 0 0 (va_A (wd_k_digit3_6 z) sz) := by
  refine Met.ofW (cc := cX15_digit) (maxL := 3) (ret := (some .int)) (by decide) rfl ?_
  intro p e s m args below meth c s₁ B hml hv
  obtain ⟨rfl, hsz, hP, hK, hD0, hM⟩ := hv
  have hx := B.exec
  have hb := B.bytes
  have hr := B.returns
  have hts := atoms_spec (ws := wsX15_digit) B.pre
  have hown : s.vm.findClass RX15 = some m.cls := findClass_of_methodNamed B.named
  have hlocks := B.notSynchronized
  subst hsz
  have hD := hD0.self (sz := s.heap.size)
  generalize hAe : va_A (wd_k_digit3_6 z) s.heap.size = A at hD hM ⊢
  have hA : ∀ q : Nat, s.heap.size ≤ q → A q := fun q h => by rw [← hAe]; exact Or.inr h
  have hS : va_S A s.heap s.heap [] := va_S.rf
  have hP : va_P (dC, dI) vwCl [] s.heap := hP
  have hD : va_D A [] := hD
  have hl := lv_entry ([.ref (zK 3), .int 6]) (n := 3) (Nat.le_of_ble_eq_true rfl)
  rw [lg_entry_eq]
  generalize (lg_sl ([.ref (zK 3), .int 6]) ++ List.replicate (3 - (lg_sl ([.ref (zK 3), .int 6])).length) Slot.unset).toArray = ls at hl ⊢
  have hl : lv_has ls 3 [(0, .ref (zK 3)), (1, .int 6)] := hl
  refine lv_aload_n hx hb dX15_digit_0 rfl (lv_at hl 0 rfl) ?_
  refine lv_iload_n hx hb dX15_digit_1 rfl (lv_at hl 1 rfl) ?_
  have hPc := hP.sub (ws' := []) [] rfl
  have hDc := hD.sub (ws' := []) [] (by decide) rfl
  have hKc := hK.sub (tys' := []) [] rfl
  have hFc := va_free (wc := []) hD hS hA [] rfl
  refine va_calli (va_runV (As := [.int 6]) (rest := []) ⟨hx, hb, hml, hown, hts⟩ (k_char3_6 l dC dI z zK zV  s.heap.size) (cwV 1 hts gX15_digit_J0_charAt_5068e rfl rfl rfl (by decide +kernel) ⟨Nat.le_of_ble_eq_true rfl, Nat.le_of_ble_eq_true rfl⟩) ⟨kP_blind, vk_recv (i := 3) hM.2.2.2.1 (by decide) hS, kP_go hPc hKc hDc hFc hM hS⟩ rfl rfl hl.1 rfl (lv_room (Nat.le_of_ble_eq_true rfl)) dX15_digit_2 ⟨Nat.le_of_ble_eq_true rfl, Nat.le_of_ble_eq_true rfl⟩) hS (fun q _ h => hFc q h) hFc (fun r1 u t H1 locs ht hvm hw hB hz1 hk1 hS => ?_)
  obtain ⟨hP, hD, hK⟩ := kJ (wr := []) (w1 := []) (t1 := []) hP hD hK [] [] rfl rfl (by decide) (by decide) hk1 hFc ht hvm hB
  generalize H1 = H at hP hS ⊢
  have hP : va_P (dC, dI) vwCl [] H := hP
  have hD : va_D A [] := hD
  have hK : va_K (dC, dI) vwCl [] s := hK
  obtain rfl : 53 = r1 := hw
  refine lv_istore_n (lv' := [(2, .int 53), (0, .ref (zK 3)), (1, .int 6)]) hx hb dX15_digit_5 rfl hl (by decide) rfl (fun ls hl => ?_)
  refine lv_iload_n hx hb dX15_digit_6 rfl (lv_at hl 0 rfl) ?_
  refine lv_bipush (v := 65) hx hb dX15_digit_7 (by decide) ?_
  refine lv_icmp_ne (tgt := 17) hx hb dX15_digit_9 (by decide) (fun _ => ?_) (fun c_ => absurd c_ (by decide +kernel))
  refine lv_iload_n hx hb dX15_digit_17 rfl (lv_at hl 0 rfl) ?_
  refine lv_bipush (v := 48) hx hb dX15_digit_18 (by decide) ?_
  refine lv_isub hx hb dX15_digit_20 ?_
  refine kc_i (y := 5) (by decide +kernel) ?_
  exact W.iret (v := 5) hx hb hr (fun t ht hW => ⟨⟨5, (), rfl, rfl, kB_end (w9 := []) (t9 := []) hP hK hD [] [] rfl (by decide) rfl rfl t ht hW⟩, hS.F ht⟩) hS.2.2 dX15_digit_21
abbrev wd_k_lchar3_7 (_z : Nat → Nat) : va_W := []
set_option maxHeartbeats 4000000 in
set_option maxRecDepth 100000 in
theorem k_lchar3_7 (l : Launch) (dC : Nat → ClassId) (dI : Nat → Nat → Nat) (z zK zV : Nat → Nat)  (sz : Nat)  : Met l yJ1_charAt_3b067 wsJ1_charAt_3b067 ({ frames := 2, cells := 0, slots := 0, locals := 43 }) (kP dC dI z zK zV [.ref (zV 3), .int 7] sz (wd_k_lchar3_7 z) []) (va_Qi (fun (r : Int32) (_ : Unit) => 52 = r) (fun _ t => kB (dC, dI) (va_A (wd_k_lchar3_7 z) sz) [] [] t) (va_A (wd_k_lchar3_7 z) sz)) 0 0 (va_A (wd_k_lchar3_7 z) sz) := by
  refine Met.ofW (cc := cJ1_charAt_3b067) (maxL := 2) (ret := (some .char)) (by decide) rfl ?_
  intro p e s m args below meth c s₁ B hml hv
  obtain ⟨rfl, hsz, hP, hK, hD0, hM⟩ := hv
  have hx := B.exec
  have hb := B.bytes
  have hr := B.returns
  have hts := atoms_spec (ws := wsJ1_charAt_3b067) B.pre
  have hown : s.vm.findClass RJ1 = some m.cls := findClass_of_methodNamed B.named
  have hlocks := B.notSynchronized
  subst hsz
  have hD := hD0.self (sz := s.heap.size)
  generalize hAe : va_A (wd_k_lchar3_7 z) s.heap.size = A at hD hM ⊢
  have hA : ∀ q : Nat, s.heap.size ≤ q → A q := fun q h => by rw [← hAe]; exact Or.inr h
  have hS : va_S A s.heap s.heap [] := va_S.rf
  have hP : va_P (dC, dI) vwCl [] s.heap := hP
  have hD : va_D A [] := hD
  have hl := lv_entry ([.ref (zV 3), .int 7]) (n := 2) (Nat.le_of_ble_eq_true rfl)
  rw [lg_entry_eq]
  generalize (lg_sl ([.ref (zV 3), .int 7]) ++ List.replicate (2 - (lg_sl ([.ref (zV 3), .int 7])).length) Slot.unset).toArray = ls at hl ⊢
  have hl : lv_has ls 2 [(0, .ref (zV 3)), (1, .int 7)] := hl
  refine lv_iload_n hx hb dJ1_charAt_3b067_0 rfl (lv_at hl 1 rfl) ?_
  refine lv_aload_n hx hb dJ1_charAt_3b067_1 rfl (lv_at hl 0 rfl) ?_
  refine va_tlen (v := 9) hx hb ((hM.2.2.2.1.1 3 (by decide)).2.2.2) hS rfl dJ1_charAt_3b067_2 ?_
  have hPc := hP.sub (ws' := []) [] rfl
  have hDc := hD.sub (ws' := []) [] (by decide) rfl
  have hKc := hK.sub (tys' := []) [] rfl
  have hFc := va_free (wc := []) hD hS hA [] rfl
  refine va_callv (va_runS (As := [.int 7, .int 9]) (rest := []) ⟨hx, hb, hml, hown, hts⟩ (k_schk_7 l dC dI z zK zV  s.heap.size) (va_cwS 2 hts gJ1_charAt_3b067_J0_checkIndex_df160 rfl rfl rfl (by decide +kernel) ⟨Nat.le_of_ble_eq_true rfl, Nat.le_of_ble_eq_true rfl⟩) ⟨kP_blind, kP_go hPc hKc hDc hFc hM hS⟩ rfl rfl hl.1 rfl (lv_room (Nat.le_of_ble_eq_true rfl)) dJ1_charAt_3b067_3 ⟨Nat.le_of_ble_eq_true rfl, Nat.le_of_ble_eq_true rfl⟩) hS (fun q _ h => hFc q h) hFc (fun u t H1 locs ht hvm hw hB hz1 hk1 hS => ?_)
  obtain ⟨hP, hD, hK⟩ := kJ (wr := []) (w1 := []) (t1 := []) hP hD hK [] [] rfl rfl (by decide) (by decide) hk1 hFc ht hvm hB
  generalize H1 = H at hP hS ⊢
  have hP : va_P (dC, dI) vwCl [] H := hP
  have hD : va_D A [] := hD
  have hK : va_K (dC, dI) vwCl [] s := hK
  clear hw
  refine lv_aload_n hx hb dJ1_charAt_3b067_6 rfl (lv_at hl 0 rfl) ?_
  refine lv_iload_n hx hb dJ1_charAt_3b067_7 rfl (lv_at hl 1 rfl) ?_
  refine va_tb (v := .int 52) hx hb ((hM.2.2.2.1.1 3 (by decide)).2.2.2) hS (pk_in 7 9 (by decide) rfl) rfl dJ1_charAt_3b067_8 ?_
  refine lv_sipush (v := 255) hx hb dJ1_charAt_3b067_9 (by decide) ?_
  refine lv_iand hx hb dJ1_charAt_3b067_12 ?_
  refine kc_i (y := 52) (by decide +kernel) ?_
  refine lv_i2c (v := 52) hx hb dJ1_charAt_3b067_13 (by decide +kernel) ?_
  exact W.zret (v := 52) hx hb hr (by decide +kernel) (fun t ht hW => ⟨⟨52, (), rfl, rfl, kB_end (w9 := []) (t9 := []) hP hK hD [] [] rfl (by decide) rfl rfl t ht hW⟩, hS.F ht⟩) hS.2.2 dJ1_charAt_3b067_14
abbrev wd_k_char3_7 (_z : Nat → Nat) : va_W := []
set_option maxHeartbeats 4000000 in
set_option maxRecDepth 100000 in
theorem k_char3_7 (l : Launch) (dC : Nat → ClassId) (dI : Nat → Nat → Nat) (z zK zV : Nat → Nat)  (sz : Nat)  : Met l yJ0_charAt_5068e wsJ0_charAt_5068e ({ frames := 3, cells := 0, slots := 0, locals := 64 }) (kP dC dI z zK zV [.ref (zK 3), .int 7] sz (wd_k_char3_7 z) []) (va_Qi (fun (r : Int32) (_ : Unit) => 52 = r) (fun _ t => kB (dC, dI) (va_A (wd_k_char3_7 z) sz) [] [] t) (va_A (wd_k_char3_7 z) sz)) 0 0 (va_A (wd_k_char3_7 z) sz) := by
  refine Met.ofW (cc := cJ0_charAt_5068e) (maxL := 2) (ret := (some .char)) (by decide) rfl ?_
  intro p e s m args below meth c s₁ B hml hv
  obtain ⟨rfl, hsz, hP, hK, hD0, hM⟩ := hv
  have hx := B.exec
  have hb := B.bytes
  have hr := B.returns
  have hts := atoms_spec (ws := wsJ0_charAt_5068e) B.pre
  have hown : s.vm.findClass RJ0 = some m.cls := findClass_of_methodNamed B.named
  have hlocks := B.notSynchronized
  subst hsz
  have hD := hD0.self (sz := s.heap.size)
  generalize hAe : va_A (wd_k_char3_7 z) s.heap.size = A at hD hM ⊢
  have hA : ∀ q : Nat, s.heap.size ≤ q → A q := fun q h => by rw [← hAe]; exact Or.inr h
  have hS : va_S A s.heap s.heap [] := va_S.rf
  have hP : va_P (dC, dI) vwCl [] s.heap := hP
  have hD : va_D A [] := hD
  have hl := lv_entry ([.ref (zK 3), .int 7]) (n := 2) (Nat.le_of_ble_eq_true rfl)
  rw [lg_entry_eq]
  generalize (lg_sl ([.ref (zK 3), .int 7]) ++ List.replicate (2 - (lg_sl ([.ref (zK 3), .int 7])).length) Slot.unset).toArray = ls at hl ⊢
  have hl : lv_has ls 2 [(0, .ref (zK 3)), (1, .int 7)] := hl
  refine lv_aload_n hx hb dJ0_charAt_5068e_0 rfl (lv_at hl 0 rfl) ?_
  have hPc := hP.sub (ws' := []) [] rfl
  have hDc := hD.sub (ws' := []) [] (by decide) rfl
  have hKc := hK.sub (tys' := []) [] rfl
  have hFc := va_free (wc := []) hD hS hA [] rfl
  refine va_calli (va_runV (As := []) (rest := []) ⟨hx, hb, hml, hown, hts⟩ (k_isLatin3 l dC dI z zK zV  s.heap.size) (cwV 0 hts gJ0_charAt_5068e_J0_isLatin1_aae02 rfl rfl rfl (by decide +kernel) ⟨Nat.le_of_ble_eq_true rfl, Nat.le_of_ble_eq_true rfl⟩) ⟨kP_blind, vk_recv (i := 3) hM.2.2.2.1 (by decide) hS, kP_go hPc hKc hDc hFc hM hS⟩ rfl rfl hl.1 rfl (lv_room (Nat.le_of_ble_eq_true rfl)) dJ0_charAt_5068e_1 ⟨Nat.le_of_ble_eq_true rfl, Nat.le_of_ble_eq_true rfl⟩) hS (fun q _ h => hFc q h) hFc (fun r1 u t H1 locs ht hvm hw hB hz1 hk1 hS => ?_)
  obtain ⟨hP, hD, hK⟩ := kJ (wr := []) (w1 := []) (t1 := []) hP hD hK [] [] rfl rfl (by decide) (by decide) hk1 hFc ht hvm hB
  generalize H1 = H at hP hS ⊢
  have hP : va_P (dC, dI) vwCl [] H := hP
  have hD : va_D A [] := hD
  have hK : va_K (dC, dI) vwCl [] s := hK
  obtain rfl : 1 = r1 := hw
  refine lv_if_eq (tgt := 16) hx hb dJ0_charAt_5068e_4 (by decide) (fun c_ => absurd c_ (by decide +kernel)) (fun _ => ?_)
  refine lv_aload_n hx hb dJ0_charAt_5068e_7 rfl (lv_at hl 0 rfl) ?_
  refine vk_getf (v := .ref (zV 3)) hx hb (hM.2.2.2.1.1 3 (by decide)).2.2.1 hS hown (hts (.fieldLink RJ0 9 "java/lang/String" "value" "[B") (by decide +kernel)) (fun _ h9 => h9) dJ0_charAt_5068e_8 ?_
  refine lv_iload_n hx hb dJ0_charAt_5068e_11 rfl (lv_at hl 1 rfl) ?_
  have hPc := hP.sub (ws' := []) [] rfl
  have hDc := hD.sub (ws' := []) [] (by decide) rfl
  have hKc := hK.sub (tys' := []) [] rfl
  have hFc := va_free (wc := []) hD hS hA [] rfl
  refine va_calli (va_runS (As := [.ref (zV 3), .int 7]) (rest := []) ⟨hx, hb, hml, hown, hts⟩ (k_lchar3_7 l dC dI z zK zV  H.size) (va_cwS 2 hts gJ0_charAt_5068e_J1_charAt_3b067 rfl rfl rfl (by decide +kernel) ⟨Nat.le_of_ble_eq_true rfl, Nat.le_of_ble_eq_true rfl⟩) ⟨kP_blind, kP_go hPc hKc hDc hFc hM hS⟩ rfl rfl hl.1 rfl (lv_room (Nat.le_of_ble_eq_true rfl)) dJ0_charAt_5068e_12 ⟨Nat.le_of_ble_eq_true rfl, Nat.le_of_ble_eq_true rfl⟩) hS (fun q _ h => hFc q h) hFc (fun r2 u t H1 locs ht hvm hw hB hz1 hk1 hS => ?_)
  obtain ⟨hP, hD, hK⟩ := kJ (wr := []) (w1 := []) (t1 := []) hP hD hK [] [] rfl rfl (by decide) (by decide) hk1 hFc ht hvm hB
  generalize H1 = H at hP hS ⊢
  have hP : va_P (dC, dI) vwCl [] H := hP
  have hD : va_D A [] := hD
  have hK : va_K (dC, dI) vwCl [] s := hK
  obtain rfl : 52 = r2 := hw
  exact W.zret (v := 52) hx hb hr (by decide +kernel) (fun t ht hW => ⟨⟨52, (), rfl, rfl, kB_end (w9 := []) (t9 := []) hP hK hD [] [] rfl (by decide) rfl rfl t ht hW⟩, hS.F ht⟩) hS.2.2 dJ0_charAt_5068e_15
abbrev wd_k_digit3_7 (_z : Nat → Nat) : va_W := []
set_option maxHeartbeats 4000000 in
set_option maxRecDepth 100000 in
theorem k_digit3_7 (l : Launch) (dC : Nat → ClassId) (dI : Nat → Nat → Nat) (z zK zV : Nat → Nat)  (sz : Nat)  : Met l yX15_digit wsX15_digit ({ frames := 4, cells := 0, slots := 0, locals := 85 }) (kP dC dI z zK zV [.ref (zK 3), .int 7] sz (wd_k_digit3_7 z) []) (va_Qi (fun (r : Int32) (_ : Unit) => 4 = r) (fun _ t => kB (dC, dI) (va_A (wd_k_digit3_7 z) sz) [] [] t) (va_A (wd_k_digit3_7 z) sz)) 0 0 (va_A (wd_k_digit3_7 z) sz) := by
  refine Met.ofW (cc := cX15_digit) (maxL := 3) (ret := (some .int)) (by decide) rfl ?_
  intro p e s m args below meth c s₁ B hml hv
  obtain ⟨rfl, hsz, hP, hK, hD0, hM⟩ := hv
  have hx := B.exec
  have hb := B.bytes
  have hr := B.returns
  have hts := atoms_spec (ws := wsX15_digit) B.pre
  have hown : s.vm.findClass RX15 = some m.cls := findClass_of_methodNamed B.named
  have hlocks := B.notSynchronized
  subst hsz
  have hD := hD0.self (sz := s.heap.size)
  generalize hAe : va_A (wd_k_digit3_7 z) s.heap.size = A at hD hM ⊢
  have hA : ∀ q : Nat, s.heap.size ≤ q → A q := fun q h => by rw [← hAe]; exact Or.inr h
  have hS : va_S A s.heap s.heap [] := va_S.rf
  have hP : va_P (dC, dI) vwCl [] s.heap := hP
  have hD : va_D A [] := hD
  have hl := lv_entry ([.ref (zK 3), .int 7]) (n := 3) (Nat.le_of_ble_eq_true rfl)
  rw [lg_entry_eq]
  generalize (lg_sl ([.ref (zK 3), .int 7]) ++ List.replicate (3 - (lg_sl ([.ref (zK 3), .int 7])).length) Slot.unset).toArray = ls at hl ⊢
  have hl : lv_has ls 3 [(0, .ref (zK 3)), (1, .int 7)] := hl
  refine lv_aload_n hx hb dX15_digit_0 rfl (lv_at hl 0 rfl) ?_
  refine lv_iload_n hx hb dX15_digit_1 rfl (lv_at hl 1 rfl) ?_
  have hPc := hP.sub (ws' := []) [] rfl
  have hDc := hD.sub (ws' := []) [] (by decide) rfl
  have hKc := hK.sub (tys' := []) [] rfl
  have hFc := va_free (wc := []) hD hS hA [] rfl
  refine va_calli (va_runV (As := [.int 7]) (rest := []) ⟨hx, hb, hml, hown, hts⟩ (k_char3_7 l dC dI z zK zV  s.heap.size) (cwV 1 hts gX15_digit_J0_charAt_5068e rfl rfl rfl (by decide +kernel) ⟨Nat.le_of_ble_eq_true rfl, Nat.le_of_ble_eq_true rfl⟩) ⟨kP_blind, vk_recv (i := 3) hM.2.2.2.1 (by decide) hS, kP_go hPc hKc hDc hFc hM hS⟩ rfl rfl hl.1 rfl (lv_room (Nat.le_of_ble_eq_true rfl)) dX15_digit_2 ⟨Nat.le_of_ble_eq_true rfl, Nat.le_of_ble_eq_true rfl⟩) hS (fun q _ h => hFc q h) hFc (fun r1 u t H1 locs ht hvm hw hB hz1 hk1 hS => ?_)
  obtain ⟨hP, hD, hK⟩ := kJ (wr := []) (w1 := []) (t1 := []) hP hD hK [] [] rfl rfl (by decide) (by decide) hk1 hFc ht hvm hB
  generalize H1 = H at hP hS ⊢
  have hP : va_P (dC, dI) vwCl [] H := hP
  have hD : va_D A [] := hD
  have hK : va_K (dC, dI) vwCl [] s := hK
  obtain rfl : 52 = r1 := hw
  refine lv_istore_n (lv' := [(2, .int 52), (0, .ref (zK 3)), (1, .int 7)]) hx hb dX15_digit_5 rfl hl (by decide) rfl (fun ls hl => ?_)
  refine lv_iload_n hx hb dX15_digit_6 rfl (lv_at hl 0 rfl) ?_
  refine lv_bipush (v := 65) hx hb dX15_digit_7 (by decide) ?_
  refine lv_icmp_ne (tgt := 17) hx hb dX15_digit_9 (by decide) (fun _ => ?_) (fun c_ => absurd c_ (by decide +kernel))
  refine lv_iload_n hx hb dX15_digit_17 rfl (lv_at hl 0 rfl) ?_
  refine lv_bipush (v := 48) hx hb dX15_digit_18 (by decide) ?_
  refine lv_isub hx hb dX15_digit_20 ?_
  refine kc_i (y := 4) (by decide +kernel) ?_
  exact W.iret (v := 4) hx hb hr (fun t ht hW => ⟨⟨4, (), rfl, rfl, kB_end (w9 := []) (t9 := []) hP hK hD [] [] rfl (by decide) rfl rfl t ht hW⟩, hS.F ht⟩) hS.2.2 dX15_digit_21
abbrev wd_k_lchar3_8 (_z : Nat → Nat) : va_W := []
set_option maxHeartbeats 4000000 in
set_option maxRecDepth 100000 in
theorem k_lchar3_8 (l : Launch) (dC : Nat → ClassId) (dI : Nat → Nat → Nat) (z zK zV : Nat → Nat)  (sz : Nat)  : Met l yJ1_charAt_3b067 wsJ1_charAt_3b067 ({ frames := 2, cells := 0, slots := 0, locals := 43 }) (kP dC dI z zK zV [.ref (zV 3), .int 8] sz (wd_k_lchar3_8 z) []) (va_Qi (fun (r : Int32) (_ : Unit) => 54 = r) (fun _ t => kB (dC, dI) (va_A (wd_k_lchar3_8 z) sz) [] [] t) (va_A (wd_k_lchar3_8 z) sz)) 0 0 (va_A (wd_k_lchar3_8 z) sz) := by
  refine Met.ofW (cc := cJ1_charAt_3b067) (maxL := 2) (ret := (some .char)) (by decide) rfl ?_
  intro p e s m args below meth c s₁ B hml hv
  obtain ⟨rfl, hsz, hP, hK, hD0, hM⟩ := hv
  have hx := B.exec
  have hb := B.bytes
  have hr := B.returns
  have hts := atoms_spec (ws := wsJ1_charAt_3b067) B.pre
  have hown : s.vm.findClass RJ1 = some m.cls := findClass_of_methodNamed B.named
  have hlocks := B.notSynchronized
  subst hsz
  have hD := hD0.self (sz := s.heap.size)
  generalize hAe : va_A (wd_k_lchar3_8 z) s.heap.size = A at hD hM ⊢
  have hA : ∀ q : Nat, s.heap.size ≤ q → A q := fun q h => by rw [← hAe]; exact Or.inr h
  have hS : va_S A s.heap s.heap [] := va_S.rf
  have hP : va_P (dC, dI) vwCl [] s.heap := hP
  have hD : va_D A [] := hD
  have hl := lv_entry ([.ref (zV 3), .int 8]) (n := 2) (Nat.le_of_ble_eq_true rfl)
  rw [lg_entry_eq]
  generalize (lg_sl ([.ref (zV 3), .int 8]) ++ List.replicate (2 - (lg_sl ([.ref (zV 3), .int 8])).length) Slot.unset).toArray = ls at hl ⊢
  have hl : lv_has ls 2 [(0, .ref (zV 3)), (1, .int 8)] := hl
  refine lv_iload_n hx hb dJ1_charAt_3b067_0 rfl (lv_at hl 1 rfl) ?_
  refine lv_aload_n hx hb dJ1_charAt_3b067_1 rfl (lv_at hl 0 rfl) ?_
  refine va_tlen (v := 9) hx hb ((hM.2.2.2.1.1 3 (by decide)).2.2.2) hS rfl dJ1_charAt_3b067_2 ?_
  have hPc := hP.sub (ws' := []) [] rfl
  have hDc := hD.sub (ws' := []) [] (by decide) rfl
  have hKc := hK.sub (tys' := []) [] rfl
  have hFc := va_free (wc := []) hD hS hA [] rfl
  refine va_callv (va_runS (As := [.int 8, .int 9]) (rest := []) ⟨hx, hb, hml, hown, hts⟩ (k_schk_8 l dC dI z zK zV  s.heap.size) (va_cwS 2 hts gJ1_charAt_3b067_J0_checkIndex_df160 rfl rfl rfl (by decide +kernel) ⟨Nat.le_of_ble_eq_true rfl, Nat.le_of_ble_eq_true rfl⟩) ⟨kP_blind, kP_go hPc hKc hDc hFc hM hS⟩ rfl rfl hl.1 rfl (lv_room (Nat.le_of_ble_eq_true rfl)) dJ1_charAt_3b067_3 ⟨Nat.le_of_ble_eq_true rfl, Nat.le_of_ble_eq_true rfl⟩) hS (fun q _ h => hFc q h) hFc (fun u t H1 locs ht hvm hw hB hz1 hk1 hS => ?_)
  obtain ⟨hP, hD, hK⟩ := kJ (wr := []) (w1 := []) (t1 := []) hP hD hK [] [] rfl rfl (by decide) (by decide) hk1 hFc ht hvm hB
  generalize H1 = H at hP hS ⊢
  have hP : va_P (dC, dI) vwCl [] H := hP
  have hD : va_D A [] := hD
  have hK : va_K (dC, dI) vwCl [] s := hK
  clear hw
  refine lv_aload_n hx hb dJ1_charAt_3b067_6 rfl (lv_at hl 0 rfl) ?_
  refine lv_iload_n hx hb dJ1_charAt_3b067_7 rfl (lv_at hl 1 rfl) ?_
  refine va_tb (v := .int 54) hx hb ((hM.2.2.2.1.1 3 (by decide)).2.2.2) hS (pk_in 8 9 (by decide) rfl) rfl dJ1_charAt_3b067_8 ?_
  refine lv_sipush (v := 255) hx hb dJ1_charAt_3b067_9 (by decide) ?_
  refine lv_iand hx hb dJ1_charAt_3b067_12 ?_
  refine kc_i (y := 54) (by decide +kernel) ?_
  refine lv_i2c (v := 54) hx hb dJ1_charAt_3b067_13 (by decide +kernel) ?_
  exact W.zret (v := 54) hx hb hr (by decide +kernel) (fun t ht hW => ⟨⟨54, (), rfl, rfl, kB_end (w9 := []) (t9 := []) hP hK hD [] [] rfl (by decide) rfl rfl t ht hW⟩, hS.F ht⟩) hS.2.2 dJ1_charAt_3b067_14
abbrev wd_k_char3_8 (_z : Nat → Nat) : va_W := []
set_option maxHeartbeats 4000000 in
set_option maxRecDepth 100000 in
theorem k_char3_8 (l : Launch) (dC : Nat → ClassId) (dI : Nat → Nat → Nat) (z zK zV : Nat → Nat)  (sz : Nat)  : Met l yJ0_charAt_5068e wsJ0_charAt_5068e ({ frames := 3, cells := 0, slots := 0, locals := 64 }) (kP dC dI z zK zV [.ref (zK 3), .int 8] sz (wd_k_char3_8 z) []) (va_Qi (fun (r : Int32) (_ : Unit) => 54 = r) (fun _ t => kB (dC, dI) (va_A (wd_k_char3_8 z) sz) [] [] t) (va_A (wd_k_char3_8 z) sz)) 0 0 (va_A (wd_k_char3_8 z) sz) := by
  refine Met.ofW (cc := cJ0_charAt_5068e) (maxL := 2) (ret := (some .char)) (by decide) rfl ?_
  intro p e s m args below meth c s₁ B hml hv
  obtain ⟨rfl, hsz, hP, hK, hD0, hM⟩ := hv
  have hx := B.exec
  have hb := B.bytes
  have hr := B.returns
  have hts := atoms_spec (ws := wsJ0_charAt_5068e) B.pre
  have hown : s.vm.findClass RJ0 = some m.cls := findClass_of_methodNamed B.named
  have hlocks := B.notSynchronized
  subst hsz
  have hD := hD0.self (sz := s.heap.size)
  generalize hAe : va_A (wd_k_char3_8 z) s.heap.size = A at hD hM ⊢
  have hA : ∀ q : Nat, s.heap.size ≤ q → A q := fun q h => by rw [← hAe]; exact Or.inr h
  have hS : va_S A s.heap s.heap [] := va_S.rf
  have hP : va_P (dC, dI) vwCl [] s.heap := hP
  have hD : va_D A [] := hD
  have hl := lv_entry ([.ref (zK 3), .int 8]) (n := 2) (Nat.le_of_ble_eq_true rfl)
  rw [lg_entry_eq]
  generalize (lg_sl ([.ref (zK 3), .int 8]) ++ List.replicate (2 - (lg_sl ([.ref (zK 3), .int 8])).length) Slot.unset).toArray = ls at hl ⊢
  have hl : lv_has ls 2 [(0, .ref (zK 3)), (1, .int 8)] := hl
  refine lv_aload_n hx hb dJ0_charAt_5068e_0 rfl (lv_at hl 0 rfl) ?_
  have hPc := hP.sub (ws' := []) [] rfl
  have hDc := hD.sub (ws' := []) [] (by decide) rfl
  have hKc := hK.sub (tys' := []) [] rfl
  have hFc := va_free (wc := []) hD hS hA [] rfl
  refine va_calli (va_runV (As := []) (rest := []) ⟨hx, hb, hml, hown, hts⟩ (k_isLatin3 l dC dI z zK zV  s.heap.size) (cwV 0 hts gJ0_charAt_5068e_J0_isLatin1_aae02 rfl rfl rfl (by decide +kernel) ⟨Nat.le_of_ble_eq_true rfl, Nat.le_of_ble_eq_true rfl⟩) ⟨kP_blind, vk_recv (i := 3) hM.2.2.2.1 (by decide) hS, kP_go hPc hKc hDc hFc hM hS⟩ rfl rfl hl.1 rfl (lv_room (Nat.le_of_ble_eq_true rfl)) dJ0_charAt_5068e_1 ⟨Nat.le_of_ble_eq_true rfl, Nat.le_of_ble_eq_true rfl⟩) hS (fun q _ h => hFc q h) hFc (fun r1 u t H1 locs ht hvm hw hB hz1 hk1 hS => ?_)
  obtain ⟨hP, hD, hK⟩ := kJ (wr := []) (w1 := []) (t1 := []) hP hD hK [] [] rfl rfl (by decide) (by decide) hk1 hFc ht hvm hB
  generalize H1 = H at hP hS ⊢
  have hP : va_P (dC, dI) vwCl [] H := hP
  have hD : va_D A [] := hD
  have hK : va_K (dC, dI) vwCl [] s := hK
  obtain rfl : 1 = r1 := hw
  refine lv_if_eq (tgt := 16) hx hb dJ0_charAt_5068e_4 (by decide) (fun c_ => absurd c_ (by decide +kernel)) (fun _ => ?_)
  refine lv_aload_n hx hb dJ0_charAt_5068e_7 rfl (lv_at hl 0 rfl) ?_
  refine vk_getf (v := .ref (zV 3)) hx hb (hM.2.2.2.1.1 3 (by decide)).2.2.1 hS hown (hts (.fieldLink RJ0 9 "java/lang/String" "value" "[B") (by decide +kernel)) (fun _ h9 => h9) dJ0_charAt_5068e_8 ?_
  refine lv_iload_n hx hb dJ0_charAt_5068e_11 rfl (lv_at hl 1 rfl) ?_
  have hPc := hP.sub (ws' := []) [] rfl
  have hDc := hD.sub (ws' := []) [] (by decide) rfl
  have hKc := hK.sub (tys' := []) [] rfl
  have hFc := va_free (wc := []) hD hS hA [] rfl
  refine va_calli (va_runS (As := [.ref (zV 3), .int 8]) (rest := []) ⟨hx, hb, hml, hown, hts⟩ (k_lchar3_8 l dC dI z zK zV  H.size) (va_cwS 2 hts gJ0_charAt_5068e_J1_charAt_3b067 rfl rfl rfl (by decide +kernel) ⟨Nat.le_of_ble_eq_true rfl, Nat.le_of_ble_eq_true rfl⟩) ⟨kP_blind, kP_go hPc hKc hDc hFc hM hS⟩ rfl rfl hl.1 rfl (lv_room (Nat.le_of_ble_eq_true rfl)) dJ0_charAt_5068e_12 ⟨Nat.le_of_ble_eq_true rfl, Nat.le_of_ble_eq_true rfl⟩) hS (fun q _ h => hFc q h) hFc (fun r2 u t H1 locs ht hvm hw hB hz1 hk1 hS => ?_)
  obtain ⟨hP, hD, hK⟩ := kJ (wr := []) (w1 := []) (t1 := []) hP hD hK [] [] rfl rfl (by decide) (by decide) hk1 hFc ht hvm hB
  generalize H1 = H at hP hS ⊢
  have hP : va_P (dC, dI) vwCl [] H := hP
  have hD : va_D A [] := hD
  have hK : va_K (dC, dI) vwCl [] s := hK
  obtain rfl : 54 = r2 := hw
  exact W.zret (v := 54) hx hb hr (by decide +kernel) (fun t ht hW => ⟨⟨54, (), rfl, rfl, kB_end (w9 := []) (t9 := []) hP hK hD [] [] rfl (by decide) rfl rfl t ht hW⟩, hS.F ht⟩) hS.2.2 dJ0_charAt_5068e_15
abbrev wd_k_digit3_8 (_z : Nat → Nat) : va_W := []
set_option maxHeartbeats 4000000 in
set_option maxRecDepth 100000 in
theorem k_digit3_8 (l : Launch) (dC : Nat → ClassId) (dI : Nat → Nat → Nat) (z zK zV : Nat → Nat)  (sz : Nat)  : Met l yX15_digit wsX15_digit ({ frames := 4, cells := 0, slots := 0, locals := 85 }) (kP dC dI z zK zV [.ref (zK 3), .int 8] sz (wd_k_digit3_8 z) []) (va_Qi (fun (r : Int32) (_ : Unit) => 6 = r) (fun _ t => kB (dC, dI) (va_A (wd_k_digit3_8 z) sz) [] [] t) (va_A (wd_k_digit3_8 z) sz)) 0 0 (va_A (wd_k_digit3_8 z) sz) := by
  refine Met.ofW (cc := cX15_digit) (maxL := 3) (ret := (some .int)) (by decide) rfl ?_
  intro p e s m args below meth c s₁ B hml hv
  obtain ⟨rfl, hsz, hP, hK, hD0, hM⟩ := hv
  have hx := B.exec
  have hb := B.bytes
  have hr := B.returns
  have hts := atoms_spec (ws := wsX15_digit) B.pre
  have hown : s.vm.findClass RX15 = some m.cls := findClass_of_methodNamed B.named
  have hlocks := B.notSynchronized
  subst hsz
  have hD := hD0.self (sz := s.heap.size)
  generalize hAe : va_A (wd_k_digit3_8 z) s.heap.size = A at hD hM ⊢
  have hA : ∀ q : Nat, s.heap.size ≤ q → A q := fun q h => by rw [← hAe]; exact Or.inr h
  have hS : va_S A s.heap s.heap [] := va_S.rf
  have hP : va_P (dC, dI) vwCl [] s.heap := hP
  have hD : va_D A [] := hD
  have hl := lv_entry ([.ref (zK 3), .int 8]) (n := 3) (Nat.le_of_ble_eq_true rfl)
  rw [lg_entry_eq]
  generalize (lg_sl ([.ref (zK 3), .int 8]) ++ List.replicate (3 - (lg_sl ([.ref (zK 3), .int 8])).length) Slot.unset).toArray = ls at hl ⊢
  have hl : lv_has ls 3 [(0, .ref (zK 3)), (1, .int 8)] := hl
  refine lv_aload_n hx hb dX15_digit_0 rfl (lv_at hl 0 rfl) ?_
  refine lv_iload_n hx hb dX15_digit_1 rfl (lv_at hl 1 rfl) ?_
  have hPc := hP.sub (ws' := []) [] rfl
  have hDc := hD.sub (ws' := []) [] (by decide) rfl
  have hKc := hK.sub (tys' := []) [] rfl
  have hFc := va_free (wc := []) hD hS hA [] rfl
  refine va_calli (va_runV (As := [.int 8]) (rest := []) ⟨hx, hb, hml, hown, hts⟩ (k_char3_8 l dC dI z zK zV  s.heap.size) (cwV 1 hts gX15_digit_J0_charAt_5068e rfl rfl rfl (by decide +kernel) ⟨Nat.le_of_ble_eq_true rfl, Nat.le_of_ble_eq_true rfl⟩) ⟨kP_blind, vk_recv (i := 3) hM.2.2.2.1 (by decide) hS, kP_go hPc hKc hDc hFc hM hS⟩ rfl rfl hl.1 rfl (lv_room (Nat.le_of_ble_eq_true rfl)) dX15_digit_2 ⟨Nat.le_of_ble_eq_true rfl, Nat.le_of_ble_eq_true rfl⟩) hS (fun q _ h => hFc q h) hFc (fun r1 u t H1 locs ht hvm hw hB hz1 hk1 hS => ?_)
  obtain ⟨hP, hD, hK⟩ := kJ (wr := []) (w1 := []) (t1 := []) hP hD hK [] [] rfl rfl (by decide) (by decide) hk1 hFc ht hvm hB
  generalize H1 = H at hP hS ⊢
  have hP : va_P (dC, dI) vwCl [] H := hP
  have hD : va_D A [] := hD
  have hK : va_K (dC, dI) vwCl [] s := hK
  obtain rfl : 54 = r1 := hw
  refine lv_istore_n (lv' := [(2, .int 54), (0, .ref (zK 3)), (1, .int 8)]) hx hb dX15_digit_5 rfl hl (by decide) rfl (fun ls hl => ?_)
  refine lv_iload_n hx hb dX15_digit_6 rfl (lv_at hl 0 rfl) ?_
  refine lv_bipush (v := 65) hx hb dX15_digit_7 (by decide) ?_
  refine lv_icmp_ne (tgt := 17) hx hb dX15_digit_9 (by decide) (fun _ => ?_) (fun c_ => absurd c_ (by decide +kernel))
  refine lv_iload_n hx hb dX15_digit_17 rfl (lv_at hl 0 rfl) ?_
  refine lv_bipush (v := 48) hx hb dX15_digit_18 (by decide) ?_
  refine lv_isub hx hb dX15_digit_20 ?_
  refine kc_i (y := 6) (by decide +kernel) ?_
  exact W.iret (v := 6) hx hb hr (fun t ht hW => ⟨⟨6, (), rfl, rfl, kB_end (w9 := []) (t9 := []) hP hK hD [] [] rfl (by decide) rfl rfl t ht hW⟩, hS.F ht⟩) hS.2.2 dX15_digit_21
abbrev wd_k_lchar2_0 (_z : Nat → Nat) : va_W := []
set_option maxHeartbeats 4000000 in
set_option maxRecDepth 100000 in
theorem k_lchar2_0 (l : Launch) (dC : Nat → ClassId) (dI : Nat → Nat → Nat) (z zK zV : Nat → Nat)  (sz : Nat)  : Met l yJ1_charAt_3b067 wsJ1_charAt_3b067 ({ frames := 2, cells := 0, slots := 0, locals := 43 }) (kP dC dI z zK zV [.ref (zV 2), .int 0] sz (wd_k_lchar2_0 z) []) (va_Qi (fun (r : Int32) (_ : Unit) => 48 = r) (fun _ t => kB (dC, dI) (va_A (wd_k_lchar2_0 z) sz) [] [] t) (va_A (wd_k_lchar2_0 z) sz)) 0 0 (va_A (wd_k_lchar2_0 z) sz) := by
  refine Met.ofW (cc := cJ1_charAt_3b067) (maxL := 2) (ret := (some .char)) (by decide) rfl ?_
  intro p e s m args below meth c s₁ B hml hv
  obtain ⟨rfl, hsz, hP, hK, hD0, hM⟩ := hv
  have hx := B.exec
  have hb := B.bytes
  have hr := B.returns
  have hts := atoms_spec (ws := wsJ1_charAt_3b067) B.pre
  have hown : s.vm.findClass RJ1 = some m.cls := findClass_of_methodNamed B.named
  have hlocks := B.notSynchronized
  subst hsz
  have hD := hD0.self (sz := s.heap.size)
  generalize hAe : va_A (wd_k_lchar2_0 z) s.heap.size = A at hD hM ⊢
  have hA : ∀ q : Nat, s.heap.size ≤ q → A q := fun q h => by rw [← hAe]; exact Or.inr h
  have hS : va_S A s.heap s.heap [] := va_S.rf
  have hP : va_P (dC, dI) vwCl [] s.heap := hP
  have hD : va_D A [] := hD
  have hl := lv_entry ([.ref (zV 2), .int 0]) (n := 2) (Nat.le_of_ble_eq_true rfl)
  rw [lg_entry_eq]
  generalize (lg_sl ([.ref (zV 2), .int 0]) ++ List.replicate (2 - (lg_sl ([.ref (zV 2), .int 0])).length) Slot.unset).toArray = ls at hl ⊢
  have hl : lv_has ls 2 [(0, .ref (zV 2)), (1, .int 0)] := hl
  refine lv_iload_n hx hb dJ1_charAt_3b067_0 rfl (lv_at hl 1 rfl) ?_
  refine lv_aload_n hx hb dJ1_charAt_3b067_1 rfl (lv_at hl 0 rfl) ?_
  refine va_tlen (v := 9) hx hb ((hM.2.2.2.1.1 2 (by decide)).2.2.2) hS rfl dJ1_charAt_3b067_2 ?_
  have hPc := hP.sub (ws' := []) [] rfl
  have hDc := hD.sub (ws' := []) [] (by decide) rfl
  have hKc := hK.sub (tys' := []) [] rfl
  have hFc := va_free (wc := []) hD hS hA [] rfl
  refine va_callv (va_runS (As := [.int 0, .int 9]) (rest := []) ⟨hx, hb, hml, hown, hts⟩ (k_schk_0 l dC dI z zK zV  s.heap.size) (va_cwS 2 hts gJ1_charAt_3b067_J0_checkIndex_df160 rfl rfl rfl (by decide +kernel) ⟨Nat.le_of_ble_eq_true rfl, Nat.le_of_ble_eq_true rfl⟩) ⟨kP_blind, kP_go hPc hKc hDc hFc hM hS⟩ rfl rfl hl.1 rfl (lv_room (Nat.le_of_ble_eq_true rfl)) dJ1_charAt_3b067_3 ⟨Nat.le_of_ble_eq_true rfl, Nat.le_of_ble_eq_true rfl⟩) hS (fun q _ h => hFc q h) hFc (fun u t H1 locs ht hvm hw hB hz1 hk1 hS => ?_)
  obtain ⟨hP, hD, hK⟩ := kJ (wr := []) (w1 := []) (t1 := []) hP hD hK [] [] rfl rfl (by decide) (by decide) hk1 hFc ht hvm hB
  generalize H1 = H at hP hS ⊢
  have hP : va_P (dC, dI) vwCl [] H := hP
  have hD : va_D A [] := hD
  have hK : va_K (dC, dI) vwCl [] s := hK
  clear hw
  refine lv_aload_n hx hb dJ1_charAt_3b067_6 rfl (lv_at hl 0 rfl) ?_
  refine lv_iload_n hx hb dJ1_charAt_3b067_7 rfl (lv_at hl 1 rfl) ?_
  refine va_tb (v := .int 48) hx hb ((hM.2.2.2.1.1 2 (by decide)).2.2.2) hS (pk_in 0 9 (by decide) rfl) rfl dJ1_charAt_3b067_8 ?_
  refine lv_sipush (v := 255) hx hb dJ1_charAt_3b067_9 (by decide) ?_
  refine lv_iand hx hb dJ1_charAt_3b067_12 ?_
  refine kc_i (y := 48) (by decide +kernel) ?_
  refine lv_i2c (v := 48) hx hb dJ1_charAt_3b067_13 (by decide +kernel) ?_
  exact W.zret (v := 48) hx hb hr (by decide +kernel) (fun t ht hW => ⟨⟨48, (), rfl, rfl, kB_end (w9 := []) (t9 := []) hP hK hD [] [] rfl (by decide) rfl rfl t ht hW⟩, hS.F ht⟩) hS.2.2 dJ1_charAt_3b067_14
abbrev wd_k_char2_0 (_z : Nat → Nat) : va_W := []
set_option maxHeartbeats 4000000 in
set_option maxRecDepth 100000 in
theorem k_char2_0 (l : Launch) (dC : Nat → ClassId) (dI : Nat → Nat → Nat) (z zK zV : Nat → Nat)  (sz : Nat)  : Met l yJ0_charAt_5068e wsJ0_charAt_5068e ({ frames := 3, cells := 0, slots := 0, locals := 64 }) (kP dC dI z zK zV [.ref (zK 2), .int 0] sz (wd_k_char2_0 z) []) (va_Qi (fun (r : Int32) (_ : Unit) => 48 = r) (fun _ t => kB (dC, dI) (va_A (wd_k_char2_0 z) sz) [] [] t) (va_A (wd_k_char2_0 z) sz)) 0 0 (va_A (wd_k_char2_0 z) sz) := by
  refine Met.ofW (cc := cJ0_charAt_5068e) (maxL := 2) (ret := (some .char)) (by decide) rfl ?_
  intro p e s m args below meth c s₁ B hml hv
  obtain ⟨rfl, hsz, hP, hK, hD0, hM⟩ := hv
  have hx := B.exec
  have hb := B.bytes
  have hr := B.returns
  have hts := atoms_spec (ws := wsJ0_charAt_5068e) B.pre
  have hown : s.vm.findClass RJ0 = some m.cls := findClass_of_methodNamed B.named
  have hlocks := B.notSynchronized
  subst hsz
  have hD := hD0.self (sz := s.heap.size)
  generalize hAe : va_A (wd_k_char2_0 z) s.heap.size = A at hD hM ⊢
  have hA : ∀ q : Nat, s.heap.size ≤ q → A q := fun q h => by rw [← hAe]; exact Or.inr h
  have hS : va_S A s.heap s.heap [] := va_S.rf
  have hP : va_P (dC, dI) vwCl [] s.heap := hP
  have hD : va_D A [] := hD
  have hl := lv_entry ([.ref (zK 2), .int 0]) (n := 2) (Nat.le_of_ble_eq_true rfl)
  rw [lg_entry_eq]
  generalize (lg_sl ([.ref (zK 2), .int 0]) ++ List.replicate (2 - (lg_sl ([.ref (zK 2), .int 0])).length) Slot.unset).toArray = ls at hl ⊢
  have hl : lv_has ls 2 [(0, .ref (zK 2)), (1, .int 0)] := hl
  refine lv_aload_n hx hb dJ0_charAt_5068e_0 rfl (lv_at hl 0 rfl) ?_
  have hPc := hP.sub (ws' := []) [] rfl
  have hDc := hD.sub (ws' := []) [] (by decide) rfl
  have hKc := hK.sub (tys' := []) [] rfl
  have hFc := va_free (wc := []) hD hS hA [] rfl
  refine va_calli (va_runV (As := []) (rest := []) ⟨hx, hb, hml, hown, hts⟩ (k_isLatin2 l dC dI z zK zV  s.heap.size) (cwV 0 hts gJ0_charAt_5068e_J0_isLatin1_aae02 rfl rfl rfl (by decide +kernel) ⟨Nat.le_of_ble_eq_true rfl, Nat.le_of_ble_eq_true rfl⟩) ⟨kP_blind, vk_recv (i := 2) hM.2.2.2.1 (by decide) hS, kP_go hPc hKc hDc hFc hM hS⟩ rfl rfl hl.1 rfl (lv_room (Nat.le_of_ble_eq_true rfl)) dJ0_charAt_5068e_1 ⟨Nat.le_of_ble_eq_true rfl, Nat.le_of_ble_eq_true rfl⟩) hS (fun q _ h => hFc q h) hFc (fun r1 u t H1 locs ht hvm hw hB hz1 hk1 hS => ?_)
  obtain ⟨hP, hD, hK⟩ := kJ (wr := []) (w1 := []) (t1 := []) hP hD hK [] [] rfl rfl (by decide) (by decide) hk1 hFc ht hvm hB
  generalize H1 = H at hP hS ⊢
  have hP : va_P (dC, dI) vwCl [] H := hP
  have hD : va_D A [] := hD
  have hK : va_K (dC, dI) vwCl [] s := hK
  obtain rfl : 1 = r1 := hw
  refine lv_if_eq (tgt := 16) hx hb dJ0_charAt_5068e_4 (by decide) (fun c_ => absurd c_ (by decide +kernel)) (fun _ => ?_)
  refine lv_aload_n hx hb dJ0_charAt_5068e_7 rfl (lv_at hl 0 rfl) ?_
  refine vk_getf (v := .ref (zV 2)) hx hb (hM.2.2.2.1.1 2 (by decide)).2.2.1 hS hown (hts (.fieldLink RJ0 9 "java/lang/String" "value" "[B") (by decide +kernel)) (fun _ h9 => h9) dJ0_charAt_5068e_8 ?_
  refine lv_iload_n hx hb dJ0_charAt_5068e_11 rfl (lv_at hl 1 rfl) ?_
  have hPc := hP.sub (ws' := []) [] rfl
  have hDc := hD.sub (ws' := []) [] (by decide) rfl
  have hKc := hK.sub (tys' := []) [] rfl
  have hFc := va_free (wc := []) hD hS hA [] rfl
  refine va_calli (va_runS (As := [.ref (zV 2), .int 0]) (rest := []) ⟨hx, hb, hml, hown, hts⟩ (k_lchar2_0 l dC dI z zK zV  H.size) (va_cwS 2 hts gJ0_charAt_5068e_J1_charAt_3b067 rfl rfl rfl (by decide +kernel) ⟨Nat.le_of_ble_eq_true rfl, Nat.le_of_ble_eq_true rfl⟩) ⟨kP_blind, kP_go hPc hKc hDc hFc hM hS⟩ rfl rfl hl.1 rfl (lv_room (Nat.le_of_ble_eq_true rfl)) dJ0_charAt_5068e_12 ⟨Nat.le_of_ble_eq_true rfl, Nat.le_of_ble_eq_true rfl⟩) hS (fun q _ h => hFc q h) hFc (fun r2 u t H1 locs ht hvm hw hB hz1 hk1 hS => ?_)
  obtain ⟨hP, hD, hK⟩ := kJ (wr := []) (w1 := []) (t1 := []) hP hD hK [] [] rfl rfl (by decide) (by decide) hk1 hFc ht hvm hB
  generalize H1 = H at hP hS ⊢
  have hP : va_P (dC, dI) vwCl [] H := hP
  have hD : va_D A [] := hD
  have hK : va_K (dC, dI) vwCl [] s := hK
  obtain rfl : 48 = r2 := hw
  exact W.zret (v := 48) hx hb hr (by decide +kernel) (fun t ht hW => ⟨⟨48, (), rfl, rfl, kB_end (w9 := []) (t9 := []) hP hK hD [] [] rfl (by decide) rfl rfl t ht hW⟩, hS.F ht⟩) hS.2.2 dJ0_charAt_5068e_15
abbrev wd_k_digit2_0 (_z : Nat → Nat) : va_W := []
set_option maxHeartbeats 4000000 in
set_option maxRecDepth 100000 in
theorem k_digit2_0 (l : Launch) (dC : Nat → ClassId) (dI : Nat → Nat → Nat) (z zK zV : Nat → Nat)  (sz : Nat)  : Met l yX15_digit wsX15_digit ({ frames := 4, cells := 0, slots := 0, locals := 85 }) (kP dC dI z zK zV [.ref (zK 2), .int 0] sz (wd_k_digit2_0 z) []) (va_Qi (fun (r : Int32) (_ : Unit) => 0 = r) (fun _ t => kB (dC, dI) (va_A (wd_k_digit2_0 z) sz) [] [] t) (va_A (wd_k_digit2_0 z) sz)) 0 0 (va_A (wd_k_digit2_0 z) sz) := by
  refine Met.ofW (cc := cX15_digit) (maxL := 3) (ret := (some .int)) (by decide) rfl ?_
  intro p e s m args below meth c s₁ B hml hv
  obtain ⟨rfl, hsz, hP, hK, hD0, hM⟩ := hv
  have hx := B.exec
  have hb := B.bytes
  have hr := B.returns
  have hts := atoms_spec (ws := wsX15_digit) B.pre
  have hown : s.vm.findClass RX15 = some m.cls := findClass_of_methodNamed B.named
  have hlocks := B.notSynchronized
  subst hsz
  have hD := hD0.self (sz := s.heap.size)
  generalize hAe : va_A (wd_k_digit2_0 z) s.heap.size = A at hD hM ⊢
  have hA : ∀ q : Nat, s.heap.size ≤ q → A q := fun q h => by rw [← hAe]; exact Or.inr h
  have hS : va_S A s.heap s.heap [] := va_S.rf
  have hP : va_P (dC, dI) vwCl [] s.heap := hP
  have hD : va_D A [] := hD
  have hl := lv_entry ([.ref (zK 2), .int 0]) (n := 3) (Nat.le_of_ble_eq_true rfl)
  rw [lg_entry_eq]
  generalize (lg_sl ([.ref (zK 2), .int 0]) ++ List.replicate (3 - (lg_sl ([.ref (zK 2), .int 0])).length) Slot.unset).toArray = ls at hl ⊢
  have hl : lv_has ls 3 [(0, .ref (zK 2)), (1, .int 0)] := hl
  refine lv_aload_n hx hb dX15_digit_0 rfl (lv_at hl 0 rfl) ?_
  refine lv_iload_n hx hb dX15_digit_1 rfl (lv_at hl 1 rfl) ?_
  have hPc := hP.sub (ws' := []) [] rfl
  have hDc := hD.sub (ws' := []) [] (by decide) rfl
  have hKc := hK.sub (tys' := []) [] rfl
  have hFc := va_free (wc := []) hD hS hA [] rfl
  refine va_calli (va_runV (As := [.int 0]) (rest := []) ⟨hx, hb, hml, hown, hts⟩ (k_char2_0 l dC dI z zK zV  s.heap.size) (cwV 1 hts gX15_digit_J0_charAt_5068e rfl rfl rfl (by decide +kernel) ⟨Nat.le_of_ble_eq_true rfl, Nat.le_of_ble_eq_true rfl⟩) ⟨kP_blind, vk_recv (i := 2) hM.2.2.2.1 (by decide) hS, kP_go hPc hKc hDc hFc hM hS⟩ rfl rfl hl.1 rfl (lv_room (Nat.le_of_ble_eq_true rfl)) dX15_digit_2 ⟨Nat.le_of_ble_eq_true rfl, Nat.le_of_ble_eq_true rfl⟩) hS (fun q _ h => hFc q h) hFc (fun r1 u t H1 locs ht hvm hw hB hz1 hk1 hS => ?_)
  obtain ⟨hP, hD, hK⟩ := kJ (wr := []) (w1 := []) (t1 := []) hP hD hK [] [] rfl rfl (by decide) (by decide) hk1 hFc ht hvm hB
  generalize H1 = H at hP hS ⊢
  have hP : va_P (dC, dI) vwCl [] H := hP
  have hD : va_D A [] := hD
  have hK : va_K (dC, dI) vwCl [] s := hK
  obtain rfl : 48 = r1 := hw
  refine lv_istore_n (lv' := [(2, .int 48), (0, .ref (zK 2)), (1, .int 0)]) hx hb dX15_digit_5 rfl hl (by decide) rfl (fun ls hl => ?_)
  refine lv_iload_n hx hb dX15_digit_6 rfl (lv_at hl 0 rfl) ?_
  refine lv_bipush (v := 65) hx hb dX15_digit_7 (by decide) ?_
  refine lv_icmp_ne (tgt := 17) hx hb dX15_digit_9 (by decide) (fun _ => ?_) (fun c_ => absurd c_ (by decide +kernel))
  refine lv_iload_n hx hb dX15_digit_17 rfl (lv_at hl 0 rfl) ?_
  refine lv_bipush (v := 48) hx hb dX15_digit_18 (by decide) ?_
  refine lv_isub hx hb dX15_digit_20 ?_
  refine kc_i (y := 0) (by decide +kernel) ?_
  exact W.iret (v := 0) hx hb hr (fun t ht hW => ⟨⟨0, (), rfl, rfl, kB_end (w9 := []) (t9 := []) hP hK hD [] [] rfl (by decide) rfl rfl t ht hW⟩, hS.F ht⟩) hS.2.2 dX15_digit_21
abbrev wd_k_lchar2_1 (_z : Nat → Nat) : va_W := []
set_option maxHeartbeats 4000000 in
set_option maxRecDepth 100000 in
theorem k_lchar2_1 (l : Launch) (dC : Nat → ClassId) (dI : Nat → Nat → Nat) (z zK zV : Nat → Nat)  (sz : Nat)  : Met l yJ1_charAt_3b067 wsJ1_charAt_3b067 ({ frames := 2, cells := 0, slots := 0, locals := 43 }) (kP dC dI z zK zV [.ref (zV 2), .int 1] sz (wd_k_lchar2_1 z) []) (va_Qi (fun (r : Int32) (_ : Unit) => 48 = r) (fun _ t => kB (dC, dI) (va_A (wd_k_lchar2_1 z) sz) [] [] t) (va_A (wd_k_lchar2_1 z) sz)) 0 0 (va_A (wd_k_lchar2_1 z) sz) := by
  refine Met.ofW (cc := cJ1_charAt_3b067) (maxL := 2) (ret := (some .char)) (by decide) rfl ?_
  intro p e s m args below meth c s₁ B hml hv
  obtain ⟨rfl, hsz, hP, hK, hD0, hM⟩ := hv
  have hx := B.exec
  have hb := B.bytes
  have hr := B.returns
  have hts := atoms_spec (ws := wsJ1_charAt_3b067) B.pre
  have hown : s.vm.findClass RJ1 = some m.cls := findClass_of_methodNamed B.named
  have hlocks := B.notSynchronized
  subst hsz
  have hD := hD0.self (sz := s.heap.size)
  generalize hAe : va_A (wd_k_lchar2_1 z) s.heap.size = A at hD hM ⊢
  have hA : ∀ q : Nat, s.heap.size ≤ q → A q := fun q h => by rw [← hAe]; exact Or.inr h
  have hS : va_S A s.heap s.heap [] := va_S.rf
  have hP : va_P (dC, dI) vwCl [] s.heap := hP
  have hD : va_D A [] := hD
  have hl := lv_entry ([.ref (zV 2), .int 1]) (n := 2) (Nat.le_of_ble_eq_true rfl)
  rw [lg_entry_eq]
  generalize (lg_sl ([.ref (zV 2), .int 1]) ++ List.replicate (2 - (lg_sl ([.ref (zV 2), .int 1])).length) Slot.unset).toArray = ls at hl ⊢
  have hl : lv_has ls 2 [(0, .ref (zV 2)), (1, .int 1)] := hl
  refine lv_iload_n hx hb dJ1_charAt_3b067_0 rfl (lv_at hl 1 rfl) ?_
  refine lv_aload_n hx hb dJ1_charAt_3b067_1 rfl (lv_at hl 0 rfl) ?_
  refine va_tlen (v := 9) hx hb ((hM.2.2.2.1.1 2 (by decide)).2.2.2) hS rfl dJ1_charAt_3b067_2 ?_
  have hPc := hP.sub (ws' := []) [] rfl
  have hDc := hD.sub (ws' := []) [] (by decide) rfl
  have hKc := hK.sub (tys' := []) [] rfl
  have hFc := va_free (wc := []) hD hS hA [] rfl
  refine va_callv (va_runS (As := [.int 1, .int 9]) (rest := []) ⟨hx, hb, hml, hown, hts⟩ (k_schk_1 l dC dI z zK zV  s.heap.size) (va_cwS 2 hts gJ1_charAt_3b067_J0_checkIndex_df160 rfl rfl rfl (by decide +kernel) ⟨Nat.le_of_ble_eq_true rfl, Nat.le_of_ble_eq_true rfl⟩) ⟨kP_blind, kP_go hPc hKc hDc hFc hM hS⟩ rfl rfl hl.1 rfl (lv_room (Nat.le_of_ble_eq_true rfl)) dJ1_charAt_3b067_3 ⟨Nat.le_of_ble_eq_true rfl, Nat.le_of_ble_eq_true rfl⟩) hS (fun q _ h => hFc q h) hFc (fun u t H1 locs ht hvm hw hB hz1 hk1 hS => ?_)
  obtain ⟨hP, hD, hK⟩ := kJ (wr := []) (w1 := []) (t1 := []) hP hD hK [] [] rfl rfl (by decide) (by decide) hk1 hFc ht hvm hB
  generalize H1 = H at hP hS ⊢
  have hP : va_P (dC, dI) vwCl [] H := hP
  have hD : va_D A [] := hD
  have hK : va_K (dC, dI) vwCl [] s := hK
  clear hw
  refine lv_aload_n hx hb dJ1_charAt_3b067_6 rfl (lv_at hl 0 rfl) ?_
  refine lv_iload_n hx hb dJ1_charAt_3b067_7 rfl (lv_at hl 1 rfl) ?_
  refine va_tb (v := .int 48) hx hb ((hM.2.2.2.1.1 2 (by decide)).2.2.2) hS (pk_in 1 9 (by decide) rfl) rfl dJ1_charAt_3b067_8 ?_
  refine lv_sipush (v := 255) hx hb dJ1_charAt_3b067_9 (by decide) ?_
  refine lv_iand hx hb dJ1_charAt_3b067_12 ?_
  refine kc_i (y := 48) (by decide +kernel) ?_
  refine lv_i2c (v := 48) hx hb dJ1_charAt_3b067_13 (by decide +kernel) ?_
  exact W.zret (v := 48) hx hb hr (by decide +kernel) (fun t ht hW => ⟨⟨48, (), rfl, rfl, kB_end (w9 := []) (t9 := []) hP hK hD [] [] rfl (by decide) rfl rfl t ht hW⟩, hS.F ht⟩) hS.2.2 dJ1_charAt_3b067_14
abbrev wd_k_char2_1 (_z : Nat → Nat) : va_W := []
set_option maxHeartbeats 4000000 in
set_option maxRecDepth 100000 in
theorem k_char2_1 (l : Launch) (dC : Nat → ClassId) (dI : Nat → Nat → Nat) (z zK zV : Nat → Nat)  (sz : Nat)  : Met l yJ0_charAt_5068e wsJ0_charAt_5068e ({ frames := 3, cells := 0, slots := 0, locals := 64 }) (kP dC dI z zK zV [.ref (zK 2), .int 1] sz (wd_k_char2_1 z) []) (va_Qi (fun (r : Int32) (_ : Unit) => 48 = r) (fun _ t => kB (dC, dI) (va_A (wd_k_char2_1 z) sz) [] [] t) (va_A (wd_k_char2_1 z) sz)) 0 0 (va_A (wd_k_char2_1 z) sz) := by
  refine Met.ofW (cc := cJ0_charAt_5068e) (maxL := 2) (ret := (some .char)) (by decide) rfl ?_
  intro p e s m args below meth c s₁ B hml hv
  obtain ⟨rfl, hsz, hP, hK, hD0, hM⟩ := hv
  have hx := B.exec
  have hb := B.bytes
  have hr := B.returns
  have hts := atoms_spec (ws := wsJ0_charAt_5068e) B.pre
  have hown : s.vm.findClass RJ0 = some m.cls := findClass_of_methodNamed B.named
  have hlocks := B.notSynchronized
  subst hsz
  have hD := hD0.self (sz := s.heap.size)
  generalize hAe : va_A (wd_k_char2_1 z) s.heap.size = A at hD hM ⊢
  have hA : ∀ q : Nat, s.heap.size ≤ q → A q := fun q h => by rw [← hAe]; exact Or.inr h
  have hS : va_S A s.heap s.heap [] := va_S.rf
  have hP : va_P (dC, dI) vwCl [] s.heap := hP
  have hD : va_D A [] := hD
  have hl := lv_entry ([.ref (zK 2), .int 1]) (n := 2) (Nat.le_of_ble_eq_true rfl)
  rw [lg_entry_eq]
  generalize (lg_sl ([.ref (zK 2), .int 1]) ++ List.replicate (2 - (lg_sl ([.ref (zK 2), .int 1])).length) Slot.unset).toArray = ls at hl ⊢
  have hl : lv_has ls 2 [(0, .ref (zK 2)), (1, .int 1)] := hl
  refine lv_aload_n hx hb dJ0_charAt_5068e_0 rfl (lv_at hl 0 rfl) ?_
  have hPc := hP.sub (ws' := []) [] rfl
  have hDc := hD.sub (ws' := []) [] (by decide) rfl
  have hKc := hK.sub (tys' := []) [] rfl
  have hFc := va_free (wc := []) hD hS hA [] rfl
  refine va_calli (va_runV (As := []) (rest := []) ⟨hx, hb, hml, hown, hts⟩ (k_isLatin2 l dC dI z zK zV  s.heap.size) (cwV 0 hts gJ0_charAt_5068e_J0_isLatin1_aae02 rfl rfl rfl (by decide +kernel) ⟨Nat.le_of_ble_eq_true rfl, Nat.le_of_ble_eq_true rfl⟩) ⟨kP_blind, vk_recv (i := 2) hM.2.2.2.1 (by decide) hS, kP_go hPc hKc hDc hFc hM hS⟩ rfl rfl hl.1 rfl (lv_room (Nat.le_of_ble_eq_true rfl)) dJ0_charAt_5068e_1 ⟨Nat.le_of_ble_eq_true rfl, Nat.le_of_ble_eq_true rfl⟩) hS (fun q _ h => hFc q h) hFc (fun r1 u t H1 locs ht hvm hw hB hz1 hk1 hS => ?_)
  obtain ⟨hP, hD, hK⟩ := kJ (wr := []) (w1 := []) (t1 := []) hP hD hK [] [] rfl rfl (by decide) (by decide) hk1 hFc ht hvm hB
  generalize H1 = H at hP hS ⊢
  have hP : va_P (dC, dI) vwCl [] H := hP
  have hD : va_D A [] := hD
  have hK : va_K (dC, dI) vwCl [] s := hK
  obtain rfl : 1 = r1 := hw
  refine lv_if_eq (tgt := 16) hx hb dJ0_charAt_5068e_4 (by decide) (fun c_ => absurd c_ (by decide +kernel)) (fun _ => ?_)
  refine lv_aload_n hx hb dJ0_charAt_5068e_7 rfl (lv_at hl 0 rfl) ?_
  refine vk_getf (v := .ref (zV 2)) hx hb (hM.2.2.2.1.1 2 (by decide)).2.2.1 hS hown (hts (.fieldLink RJ0 9 "java/lang/String" "value" "[B") (by decide +kernel)) (fun _ h9 => h9) dJ0_charAt_5068e_8 ?_
  refine lv_iload_n hx hb dJ0_charAt_5068e_11 rfl (lv_at hl 1 rfl) ?_
  have hPc := hP.sub (ws' := []) [] rfl
  have hDc := hD.sub (ws' := []) [] (by decide) rfl
  have hKc := hK.sub (tys' := []) [] rfl
  have hFc := va_free (wc := []) hD hS hA [] rfl
  refine va_calli (va_runS (As := [.ref (zV 2), .int 1]) (rest := []) ⟨hx, hb, hml, hown, hts⟩ (k_lchar2_1 l dC dI z zK zV  H.size) (va_cwS 2 hts gJ0_charAt_5068e_J1_charAt_3b067 rfl rfl rfl (by decide +kernel) ⟨Nat.le_of_ble_eq_true rfl, Nat.le_of_ble_eq_true rfl⟩) ⟨kP_blind, kP_go hPc hKc hDc hFc hM hS⟩ rfl rfl hl.1 rfl (lv_room (Nat.le_of_ble_eq_true rfl)) dJ0_charAt_5068e_12 ⟨Nat.le_of_ble_eq_true rfl, Nat.le_of_ble_eq_true rfl⟩) hS (fun q _ h => hFc q h) hFc (fun r2 u t H1 locs ht hvm hw hB hz1 hk1 hS => ?_)
  obtain ⟨hP, hD, hK⟩ := kJ (wr := []) (w1 := []) (t1 := []) hP hD hK [] [] rfl rfl (by decide) (by decide) hk1 hFc ht hvm hB
  generalize H1 = H at hP hS ⊢
  have hP : va_P (dC, dI) vwCl [] H := hP
  have hD : va_D A [] := hD
  have hK : va_K (dC, dI) vwCl [] s := hK
  obtain rfl : 48 = r2 := hw
  exact W.zret (v := 48) hx hb hr (by decide +kernel) (fun t ht hW => ⟨⟨48, (), rfl, rfl, kB_end (w9 := []) (t9 := []) hP hK hD [] [] rfl (by decide) rfl rfl t ht hW⟩, hS.F ht⟩) hS.2.2 dJ0_charAt_5068e_15
abbrev wd_k_digit2_1 (_z : Nat → Nat) : va_W := []
set_option maxHeartbeats 4000000 in
set_option maxRecDepth 100000 in
theorem k_digit2_1 (l : Launch) (dC : Nat → ClassId) (dI : Nat → Nat → Nat) (z zK zV : Nat → Nat)  (sz : Nat)  : Met l yX15_digit wsX15_digit ({ frames := 4, cells := 0, slots := 0, locals := 85 }) (kP dC dI z zK zV [.ref (zK 2), .int 1] sz (wd_k_digit2_1 z) []) (va_Qi (fun (r : Int32) (_ : Unit) => 0 = r) (fun _ t => kB (dC, dI) (va_A (wd_k_digit2_1 z) sz) [] [] t) (va_A (wd_k_digit2_1 z) sz)) 0 0 (va_A (wd_k_digit2_1 z) sz) := by
  refine Met.ofW (cc := cX15_digit) (maxL := 3) (ret := (some .int)) (by decide) rfl ?_
  intro p e s m args below meth c s₁ B hml hv
  obtain ⟨rfl, hsz, hP, hK, hD0, hM⟩ := hv
  have hx := B.exec
  have hb := B.bytes
  have hr := B.returns
  have hts := atoms_spec (ws := wsX15_digit) B.pre
  have hown : s.vm.findClass RX15 = some m.cls := findClass_of_methodNamed B.named
  have hlocks := B.notSynchronized
  subst hsz
  have hD := hD0.self (sz := s.heap.size)
  generalize hAe : va_A (wd_k_digit2_1 z) s.heap.size = A at hD hM ⊢
  have hA : ∀ q : Nat, s.heap.size ≤ q → A q := fun q h => by rw [← hAe]; exact Or.inr h
  have hS : va_S A s.heap s.heap [] := va_S.rf
  have hP : va_P (dC, dI) vwCl [] s.heap := hP
  have hD : va_D A [] := hD
  have hl := lv_entry ([.ref (zK 2), .int 1]) (n := 3) (Nat.le_of_ble_eq_true rfl)
  rw [lg_entry_eq]
  generalize (lg_sl ([.ref (zK 2), .int 1]) ++ List.replicate (3 - (lg_sl ([.ref (zK 2), .int 1])).length) Slot.unset).toArray = ls at hl ⊢
  have hl : lv_has ls 3 [(0, .ref (zK 2)), (1, .int 1)] := hl
  refine lv_aload_n hx hb dX15_digit_0 rfl (lv_at hl 0 rfl) ?_
  refine lv_iload_n hx hb dX15_digit_1 rfl (lv_at hl 1 rfl) ?_
  have hPc := hP.sub (ws' := []) [] rfl
  have hDc := hD.sub (ws' := []) [] (by decide) rfl
  have hKc := hK.sub (tys' := []) [] rfl
  have hFc := va_free (wc := []) hD hS hA [] rfl
  refine va_calli (va_runV (As := [.int 1]) (rest := []) ⟨hx, hb, hml, hown, hts⟩ (k_char2_1 l dC dI z zK zV  s.heap.size) (cwV 1 hts gX15_digit_J0_charAt_5068e rfl rfl rfl (by decide +kernel) ⟨Nat.le_of_ble_eq_true rfl, Nat.le_of_ble_eq_true rfl⟩) ⟨kP_blind, vk_recv (i := 2) hM.2.2.2.1 (by decide) hS, kP_go hPc hKc hDc hFc hM hS⟩ rfl rfl hl.1 rfl (lv_room (Nat.le_of_ble_eq_true rfl)) dX15_digit_2 ⟨Nat.le_of_ble_eq_true rfl, Nat.le_of_ble_eq_true rfl⟩) hS (fun q _ h => hFc q h) hFc (fun r1 u t H1 locs ht hvm hw hB hz1 hk1 hS => ?_)
  obtain ⟨hP, hD, hK⟩ := kJ (wr := []) (w1 := []) (t1 := []) hP hD hK [] [] rfl rfl (by decide) (by decide) hk1 hFc ht hvm hB
  generalize H1 = H at hP hS ⊢
  have hP : va_P (dC, dI) vwCl [] H := hP
  have hD : va_D A [] := hD
  have hK : va_K (dC, dI) vwCl [] s := hK
  obtain rfl : 48 = r1 := hw
  refine lv_istore_n (lv' := [(2, .int 48), (0, .ref (zK 2)), (1, .int 1)]) hx hb dX15_digit_5 rfl hl (by decide) rfl (fun ls hl => ?_)
  refine lv_iload_n hx hb dX15_digit_6 rfl (lv_at hl 0 rfl) ?_
  refine lv_bipush (v := 65) hx hb dX15_digit_7 (by decide) ?_
  refine lv_icmp_ne (tgt := 17) hx hb dX15_digit_9 (by decide) (fun _ => ?_) (fun c_ => absurd c_ (by decide +kernel))
  refine lv_iload_n hx hb dX15_digit_17 rfl (lv_at hl 0 rfl) ?_
  refine lv_bipush (v := 48) hx hb dX15_digit_18 (by decide) ?_
  refine lv_isub hx hb dX15_digit_20 ?_
  refine kc_i (y := 0) (by decide +kernel) ?_
  exact W.iret (v := 0) hx hb hr (fun t ht hW => ⟨⟨0, (), rfl, rfl, kB_end (w9 := []) (t9 := []) hP hK hD [] [] rfl (by decide) rfl rfl t ht hW⟩, hS.F ht⟩) hS.2.2 dX15_digit_21
abbrev wd_k_lchar2_2 (_z : Nat → Nat) : va_W := []
set_option maxHeartbeats 4000000 in
set_option maxRecDepth 100000 in
theorem k_lchar2_2 (l : Launch) (dC : Nat → ClassId) (dI : Nat → Nat → Nat) (z zK zV : Nat → Nat)  (sz : Nat)  : Met l yJ1_charAt_3b067 wsJ1_charAt_3b067 ({ frames := 2, cells := 0, slots := 0, locals := 43 }) (kP dC dI z zK zV [.ref (zV 2), .int 2] sz (wd_k_lchar2_2 z) []) (va_Qi (fun (r : Int32) (_ : Unit) => 48 = r) (fun _ t => kB (dC, dI) (va_A (wd_k_lchar2_2 z) sz) [] [] t) (va_A (wd_k_lchar2_2 z) sz)) 0 0 (va_A (wd_k_lchar2_2 z) sz) := by
  refine Met.ofW (cc := cJ1_charAt_3b067) (maxL := 2) (ret := (some .char)) (by decide) rfl ?_
  intro p e s m args below meth c s₁ B hml hv
  obtain ⟨rfl, hsz, hP, hK, hD0, hM⟩ := hv
  have hx := B.exec
  have hb := B.bytes
  have hr := B.returns
  have hts := atoms_spec (ws := wsJ1_charAt_3b067) B.pre
  have hown : s.vm.findClass RJ1 = some m.cls := findClass_of_methodNamed B.named
  have hlocks := B.notSynchronized
  subst hsz
  have hD := hD0.self (sz := s.heap.size)
  generalize hAe : va_A (wd_k_lchar2_2 z) s.heap.size = A at hD hM ⊢
  have hA : ∀ q : Nat, s.heap.size ≤ q → A q := fun q h => by rw [← hAe]; exact Or.inr h
  have hS : va_S A s.heap s.heap [] := va_S.rf
  have hP : va_P (dC, dI) vwCl [] s.heap := hP
  have hD : va_D A [] := hD
  have hl := lv_entry ([.ref (zV 2), .int 2]) (n := 2) (Nat.le_of_ble_eq_true rfl)
  rw [lg_entry_eq]
  generalize (lg_sl ([.ref (zV 2), .int 2]) ++ List.replicate (2 - (lg_sl ([.ref (zV 2), .int 2])).length) Slot.unset).toArray = ls at hl ⊢
  have hl : lv_has ls 2 [(0, .ref (zV 2)), (1, .int 2)] := hl
  refine lv_iload_n hx hb dJ1_charAt_3b067_0 rfl (lv_at hl 1 rfl) ?_
  refine lv_aload_n hx hb dJ1_charAt_3b067_1 rfl (lv_at hl 0 rfl) ?_
  refine va_tlen (v := 9) hx hb ((hM.2.2.2.1.1 2 (by decide)).2.2.2) hS rfl dJ1_charAt_3b067_2 ?_
  have hPc := hP.sub (ws' := []) [] rfl
  have hDc := hD.sub (ws' := []) [] (by decide) rfl
  have hKc := hK.sub (tys' := []) [] rfl
  have hFc := va_free (wc := []) hD hS hA [] rfl
  refine va_callv (va_runS (As := [.int 2, .int 9]) (rest := []) ⟨hx, hb, hml, hown, hts⟩ (k_schk_2 l dC dI z zK zV  s.heap.size) (va_cwS 2 hts gJ1_charAt_3b067_J0_checkIndex_df160 rfl rfl rfl (by decide +kernel) ⟨Nat.le_of_ble_eq_true rfl, Nat.le_of_ble_eq_true rfl⟩) ⟨kP_blind, kP_go hPc hKc hDc hFc hM hS⟩ rfl rfl hl.1 rfl (lv_room (Nat.le_of_ble_eq_true rfl)) dJ1_charAt_3b067_3 ⟨Nat.le_of_ble_eq_true rfl, Nat.le_of_ble_eq_true rfl⟩) hS (fun q _ h => hFc q h) hFc (fun u t H1 locs ht hvm hw hB hz1 hk1 hS => ?_)
  obtain ⟨hP, hD, hK⟩ := kJ (wr := []) (w1 := []) (t1 := []) hP hD hK [] [] rfl rfl (by decide) (by decide) hk1 hFc ht hvm hB
  generalize H1 = H at hP hS ⊢
  have hP : va_P (dC, dI) vwCl [] H := hP
  have hD : va_D A [] := hD
  have hK : va_K (dC, dI) vwCl [] s := hK
  clear hw
  refine lv_aload_n hx hb dJ1_charAt_3b067_6 rfl (lv_at hl 0 rfl) ?_
  refine lv_iload_n hx hb dJ1_charAt_3b067_7 rfl (lv_at hl 1 rfl) ?_
  refine va_tb (v := .int 48) hx hb ((hM.2.2.2.1.1 2 (by decide)).2.2.2) hS (pk_in 2 9 (by decide) rfl) rfl dJ1_charAt_3b067_8 ?_
  refine lv_sipush (v := 255) hx hb dJ1_charAt_3b067_9 (by decide) ?_
  refine lv_iand hx hb dJ1_charAt_3b067_12 ?_
  refine kc_i (y := 48) (by decide +kernel) ?_
  refine lv_i2c (v := 48) hx hb dJ1_charAt_3b067_13 (by decide +kernel) ?_
  exact W.zret (v := 48) hx hb hr (by decide +kernel) (fun t ht hW => ⟨⟨48, (), rfl, rfl, kB_end (w9 := []) (t9 := []) hP hK hD [] [] rfl (by decide) rfl rfl t ht hW⟩, hS.F ht⟩) hS.2.2 dJ1_charAt_3b067_14
abbrev wd_k_char2_2 (_z : Nat → Nat) : va_W := []
set_option maxHeartbeats 4000000 in
set_option maxRecDepth 100000 in
theorem k_char2_2 (l : Launch) (dC : Nat → ClassId) (dI : Nat → Nat → Nat) (z zK zV : Nat → Nat)  (sz : Nat)  : Met l yJ0_charAt_5068e wsJ0_charAt_5068e ({ frames := 3, cells := 0, slots := 0, locals := 64 }) (kP dC dI z zK zV [.ref (zK 2), .int 2] sz (wd_k_char2_2 z) []) (va_Qi (fun (r : Int32) (_ : Unit) => 48 = r) (fun _ t => kB (dC, dI) (va_A (wd_k_char2_2 z) sz) [] [] t) (va_A (wd_k_char2_2 z) sz)) 0 0 (va_A (wd_k_char2_2 z) sz) := by
  refine Met.ofW (cc := cJ0_charAt_5068e) (maxL := 2) (ret := (some .char)) (by decide) rfl ?_
  intro p e s m args below meth c s₁ B hml hv
  obtain ⟨rfl, hsz, hP, hK, hD0, hM⟩ := hv
  have hx := B.exec
  have hb := B.bytes
  have hr := B.returns
  have hts := atoms_spec (ws := wsJ0_charAt_5068e) B.pre
  have hown : s.vm.findClass RJ0 = some m.cls := findClass_of_methodNamed B.named
  have hlocks := B.notSynchronized
  subst hsz
  have hD := hD0.self (sz := s.heap.size)
  generalize hAe : va_A (wd_k_char2_2 z) s.heap.size = A at hD hM ⊢
  have hA : ∀ q : Nat, s.heap.size ≤ q → A q := fun q h => by rw [← hAe]; exact Or.inr h
  have hS : va_S A s.heap s.heap [] := va_S.rf
  have hP : va_P (dC, dI) vwCl [] s.heap := hP
  have hD : va_D A [] := hD
  have hl := lv_entry ([.ref (zK 2), .int 2]) (n := 2) (Nat.le_of_ble_eq_true rfl)
  rw [lg_entry_eq]
  generalize (lg_sl ([.ref (zK 2), .int 2]) ++ List.replicate (2 - (lg_sl ([.ref (zK 2), .int 2])).length) Slot.unset).toArray = ls at hl ⊢
  have hl : lv_has ls 2 [(0, .ref (zK 2)), (1, .int 2)] := hl
  refine lv_aload_n hx hb dJ0_charAt_5068e_0 rfl (lv_at hl 0 rfl) ?_
  have hPc := hP.sub (ws' := []) [] rfl
  have hDc := hD.sub (ws' := []) [] (by decide) rfl
  have hKc := hK.sub (tys' := []) [] rfl
  have hFc := va_free (wc := []) hD hS hA [] rfl
  refine va_calli (va_runV (As := []) (rest := []) ⟨hx, hb, hml, hown, hts⟩ (k_isLatin2 l dC dI z zK zV  s.heap.size) (cwV 0 hts gJ0_charAt_5068e_J0_isLatin1_aae02 rfl rfl rfl (by decide +kernel) ⟨Nat.le_of_ble_eq_true rfl, Nat.le_of_ble_eq_true rfl⟩) ⟨kP_blind, vk_recv (i := 2) hM.2.2.2.1 (by decide) hS, kP_go hPc hKc hDc hFc hM hS⟩ rfl rfl hl.1 rfl (lv_room (Nat.le_of_ble_eq_true rfl)) dJ0_charAt_5068e_1 ⟨Nat.le_of_ble_eq_true rfl, Nat.le_of_ble_eq_true rfl⟩) hS (fun q _ h => hFc q h) hFc (fun r1 u t H1 locs ht hvm hw hB hz1 hk1 hS => ?_)
  obtain ⟨hP, hD, hK⟩ := kJ (wr := []) (w1 := []) (t1 := []) hP hD hK [] [] rfl rfl (by decide) (by decide) hk1 hFc ht hvm hB
  generalize H1 = H at hP hS ⊢
  have hP : va_P (dC, dI) vwCl [] H := hP
  have hD : va_D A [] := hD
  have hK : va_K (dC, dI) vwCl [] s := hK
  obtain rfl : 1 = r1 := hw
  refine lv_if_eq (tgt := 16) hx hb dJ0_charAt_5068e_4 (by decide) (fun c_ => absurd c_ (by decide +kernel)) (fun _ => ?_)
  refine lv_aload_n hx hb dJ0_charAt_5068e_7 rfl (lv_at hl 0 rfl) ?_
  refine vk_getf (v := .ref (zV 2)) hx hb (hM.2.2.2.1.1 2 (by decide)).2.2.1 hS hown (hts (.fieldLink RJ0 9 "java/lang/String" "value" "[B") (by decide +kernel)) (fun _ h9 => h9) dJ0_charAt_5068e_8 ?_
  refine lv_iload_n hx hb dJ0_charAt_5068e_11 rfl (lv_at hl 1 rfl) ?_
  have hPc := hP.sub (ws' := []) [] rfl
  have hDc := hD.sub (ws' := []) [] (by decide) rfl
  have hKc := hK.sub (tys' := []) [] rfl
  have hFc := va_free (wc := []) hD hS hA [] rfl
  refine va_calli (va_runS (As := [.ref (zV 2), .int 2]) (rest := []) ⟨hx, hb, hml, hown, hts⟩ (k_lchar2_2 l dC dI z zK zV  H.size) (va_cwS 2 hts gJ0_charAt_5068e_J1_charAt_3b067 rfl rfl rfl (by decide +kernel) ⟨Nat.le_of_ble_eq_true rfl, Nat.le_of_ble_eq_true rfl⟩) ⟨kP_blind, kP_go hPc hKc hDc hFc hM hS⟩ rfl rfl hl.1 rfl (lv_room (Nat.le_of_ble_eq_true rfl)) dJ0_charAt_5068e_12 ⟨Nat.le_of_ble_eq_true rfl, Nat.le_of_ble_eq_true rfl⟩) hS (fun q _ h => hFc q h) hFc (fun r2 u t H1 locs ht hvm hw hB hz1 hk1 hS => ?_)
  obtain ⟨hP, hD, hK⟩ := kJ (wr := []) (w1 := []) (t1 := []) hP hD hK [] [] rfl rfl (by decide) (by decide) hk1 hFc ht hvm hB
  generalize H1 = H at hP hS ⊢
  have hP : va_P (dC, dI) vwCl [] H := hP
  have hD : va_D A [] := hD
  have hK : va_K (dC, dI) vwCl [] s := hK
  obtain rfl : 48 = r2 := hw
  exact W.zret (v := 48) hx hb hr (by decide +kernel) (fun t ht hW => ⟨⟨48, (), rfl, rfl, kB_end (w9 := []) (t9 := []) hP hK hD [] [] rfl (by decide) rfl rfl t ht hW⟩, hS.F ht⟩) hS.2.2 dJ0_charAt_5068e_15
abbrev wd_k_digit2_2 (_z : Nat → Nat) : va_W := []
set_option maxHeartbeats 4000000 in
set_option maxRecDepth 100000 in
theorem k_digit2_2 (l : Launch) (dC : Nat → ClassId) (dI : Nat → Nat → Nat) (z zK zV : Nat → Nat)  (sz : Nat)  : Met l yX15_digit wsX15_digit ({ frames := 4, cells := 0, slots := 0, locals := 85 }) (kP dC dI z zK zV [.ref (zK 2), .int 2] sz (wd_k_digit2_2 z) []) (va_Qi (fun (r : Int32) (_ : Unit) => 0 = r) (fun _ t => kB (dC, dI) (va_A (wd_k_digit2_2 z) sz) [] [] t) (va_A (wd_k_digit2_2 z) sz)) 0 0 (va_A (wd_k_digit2_2 z) sz) := by
  refine Met.ofW (cc := cX15_digit) (maxL := 3) (ret := (some .int)) (by decide) rfl ?_
  intro p e s m args below meth c s₁ B hml hv
  obtain ⟨rfl, hsz, hP, hK, hD0, hM⟩ := hv
  have hx := B.exec
  have hb := B.bytes
  have hr := B.returns
  have hts := atoms_spec (ws := wsX15_digit) B.pre
  have hown : s.vm.findClass RX15 = some m.cls := findClass_of_methodNamed B.named
  have hlocks := B.notSynchronized
  subst hsz
  have hD := hD0.self (sz := s.heap.size)
  generalize hAe : va_A (wd_k_digit2_2 z) s.heap.size = A at hD hM ⊢
  have hA : ∀ q : Nat, s.heap.size ≤ q → A q := fun q h => by rw [← hAe]; exact Or.inr h
  have hS : va_S A s.heap s.heap [] := va_S.rf
  have hP : va_P (dC, dI) vwCl [] s.heap := hP
  have hD : va_D A [] := hD
  have hl := lv_entry ([.ref (zK 2), .int 2]) (n := 3) (Nat.le_of_ble_eq_true rfl)
  rw [lg_entry_eq]
  generalize (lg_sl ([.ref (zK 2), .int 2]) ++ List.replicate (3 - (lg_sl ([.ref (zK 2), .int 2])).length) Slot.unset).toArray = ls at hl ⊢
  have hl : lv_has ls 3 [(0, .ref (zK 2)), (1, .int 2)] := hl
  refine lv_aload_n hx hb dX15_digit_0 rfl (lv_at hl 0 rfl) ?_
  refine lv_iload_n hx hb dX15_digit_1 rfl (lv_at hl 1 rfl) ?_
  have hPc := hP.sub (ws' := []) [] rfl
  have hDc := hD.sub (ws' := []) [] (by decide) rfl
  have hKc := hK.sub (tys' := []) [] rfl
  have hFc := va_free (wc := []) hD hS hA [] rfl
  refine va_calli (va_runV (As := [.int 2]) (rest := []) ⟨hx, hb, hml, hown, hts⟩ (k_char2_2 l dC dI z zK zV  s.heap.size) (cwV 1 hts gX15_digit_J0_charAt_5068e rfl rfl rfl (by decide +kernel) ⟨Nat.le_of_ble_eq_true rfl, Nat.le_of_ble_eq_true rfl⟩) ⟨kP_blind, vk_recv (i := 2) hM.2.2.2.1 (by decide) hS, kP_go hPc hKc hDc hFc hM hS⟩ rfl rfl hl.1 rfl (lv_room (Nat.le_of_ble_eq_true rfl)) dX15_digit_2 ⟨Nat.le_of_ble_eq_true rfl, Nat.le_of_ble_eq_true rfl⟩) hS (fun q _ h => hFc q h) hFc (fun r1 u t H1 locs ht hvm hw hB hz1 hk1 hS => ?_)
  obtain ⟨hP, hD, hK⟩ := kJ (wr := []) (w1 := []) (t1 := []) hP hD hK [] [] rfl rfl (by decide) (by decide) hk1 hFc ht hvm hB
  generalize H1 = H at hP hS ⊢
  have hP : va_P (dC, dI) vwCl [] H := hP
  have hD : va_D A [] := hD
  have hK : va_K (dC, dI) vwCl [] s := hK
  obtain rfl : 48 = r1 := hw
  refine lv_istore_n (lv' := [(2, .int 48), (0, .ref (zK 2)), (1, .int 2)]) hx hb dX15_digit_5 rfl hl (by decide) rfl (fun ls hl => ?_)
  refine lv_iload_n hx hb dX15_digit_6 rfl (lv_at hl 0 rfl) ?_
  refine lv_bipush (v := 65) hx hb dX15_digit_7 (by decide) ?_
  refine lv_icmp_ne (tgt := 17) hx hb dX15_digit_9 (by decide) (fun _ => ?_) (fun c_ => absurd c_ (by decide +kernel))
  refine lv_iload_n hx hb dX15_digit_17 rfl (lv_at hl 0 rfl) ?_
  refine lv_bipush (v := 48) hx hb dX15_digit_18 (by decide) ?_
  refine lv_isub hx hb dX15_digit_20 ?_
  refine kc_i (y := 0) (by decide +kernel) ?_
  exact W.iret (v := 0) hx hb hr (fun t ht hW => ⟨⟨0, (), rfl, rfl, kB_end (w9 := []) (t9 := []) hP hK hD [] [] rfl (by decide) rfl rfl t ht hW⟩, hS.F ht⟩) hS.2.2 dX15_digit_21
abbrev wd_k_lchar2_3 (_z : Nat → Nat) : va_W := []
set_option maxHeartbeats 4000000 in
set_option maxRecDepth 100000 in
theorem k_lchar2_3 (l : Launch) (dC : Nat → ClassId) (dI : Nat → Nat → Nat) (z zK zV : Nat → Nat)  (sz : Nat)  : Met l yJ1_charAt_3b067 wsJ1_charAt_3b067 ({ frames := 2, cells := 0, slots := 0, locals := 43 }) (kP dC dI z zK zV [.ref (zV 2), .int 3] sz (wd_k_lchar2_3 z) []) (va_Qi (fun (r : Int32) (_ : Unit) => 49 = r) (fun _ t => kB (dC, dI) (va_A (wd_k_lchar2_3 z) sz) [] [] t) (va_A (wd_k_lchar2_3 z) sz)) 0 0 (va_A (wd_k_lchar2_3 z) sz) := by
  refine Met.ofW (cc := cJ1_charAt_3b067) (maxL := 2) (ret := (some .char)) (by decide) rfl ?_
  intro p e s m args below meth c s₁ B hml hv
  obtain ⟨rfl, hsz, hP, hK, hD0, hM⟩ := hv
  have hx := B.exec
  have hb := B.bytes
  have hr := B.returns
  have hts := atoms_spec (ws := wsJ1_charAt_3b067) B.pre
  have hown : s.vm.findClass RJ1 = some m.cls := findClass_of_methodNamed B.named
  have hlocks := B.notSynchronized
  subst hsz
  have hD := hD0.self (sz := s.heap.size)
  generalize hAe : va_A (wd_k_lchar2_3 z) s.heap.size = A at hD hM ⊢
  have hA : ∀ q : Nat, s.heap.size ≤ q → A q := fun q h => by rw [← hAe]; exact Or.inr h
  have hS : va_S A s.heap s.heap [] := va_S.rf
  have hP : va_P (dC, dI) vwCl [] s.heap := hP
  have hD : va_D A [] := hD
  have hl := lv_entry ([.ref (zV 2), .int 3]) (n := 2) (Nat.le_of_ble_eq_true rfl)
  rw [lg_entry_eq]
  generalize (lg_sl ([.ref (zV 2), .int 3]) ++ List.replicate (2 - (lg_sl ([.ref (zV 2), .int 3])).length) Slot.unset).toArray = ls at hl ⊢
  have hl : lv_has ls 2 [(0, .ref (zV 2)), (1, .int 3)] := hl
  refine lv_iload_n hx hb dJ1_charAt_3b067_0 rfl (lv_at hl 1 rfl) ?_
  refine lv_aload_n hx hb dJ1_charAt_3b067_1 rfl (lv_at hl 0 rfl) ?_
  refine va_tlen (v := 9) hx hb ((hM.2.2.2.1.1 2 (by decide)).2.2.2) hS rfl dJ1_charAt_3b067_2 ?_
  have hPc := hP.sub (ws' := []) [] rfl
  have hDc := hD.sub (ws' := []) [] (by decide) rfl
  have hKc := hK.sub (tys' := []) [] rfl
  have hFc := va_free (wc := []) hD hS hA [] rfl
  refine va_callv (va_runS (As := [.int 3, .int 9]) (rest := []) ⟨hx, hb, hml, hown, hts⟩ (k_schk_3 l dC dI z zK zV  s.heap.size) (va_cwS 2 hts gJ1_charAt_3b067_J0_checkIndex_df160 rfl rfl rfl (by decide +kernel) ⟨Nat.le_of_ble_eq_true rfl, Nat.le_of_ble_eq_true rfl⟩) ⟨kP_blind, kP_go hPc hKc hDc hFc hM hS⟩ rfl rfl hl.1 rfl (lv_room (Nat.le_of_ble_eq_true rfl)) dJ1_charAt_3b067_3 ⟨Nat.le_of_ble_eq_true rfl, Nat.le_of_ble_eq_true rfl⟩) hS (fun q _ h => hFc q h) hFc (fun u t H1 locs ht hvm hw hB hz1 hk1 hS => ?_)
  obtain ⟨hP, hD, hK⟩ := kJ (wr := []) (w1 := []) (t1 := []) hP hD hK [] [] rfl rfl (by decide) (by decide) hk1 hFc ht hvm hB
  generalize H1 = H at hP hS ⊢
  have hP : va_P (dC, dI) vwCl [] H := hP
  have hD : va_D A [] := hD
  have hK : va_K (dC, dI) vwCl [] s := hK
  clear hw
  refine lv_aload_n hx hb dJ1_charAt_3b067_6 rfl (lv_at hl 0 rfl) ?_
  refine lv_iload_n hx hb dJ1_charAt_3b067_7 rfl (lv_at hl 1 rfl) ?_
  refine va_tb (v := .int 49) hx hb ((hM.2.2.2.1.1 2 (by decide)).2.2.2) hS (pk_in 3 9 (by decide) rfl) rfl dJ1_charAt_3b067_8 ?_
  refine lv_sipush (v := 255) hx hb dJ1_charAt_3b067_9 (by decide) ?_
  refine lv_iand hx hb dJ1_charAt_3b067_12 ?_
  refine kc_i (y := 49) (by decide +kernel) ?_
  refine lv_i2c (v := 49) hx hb dJ1_charAt_3b067_13 (by decide +kernel) ?_
  exact W.zret (v := 49) hx hb hr (by decide +kernel) (fun t ht hW => ⟨⟨49, (), rfl, rfl, kB_end (w9 := []) (t9 := []) hP hK hD [] [] rfl (by decide) rfl rfl t ht hW⟩, hS.F ht⟩) hS.2.2 dJ1_charAt_3b067_14
abbrev wd_k_char2_3 (_z : Nat → Nat) : va_W := []
set_option maxHeartbeats 4000000 in
set_option maxRecDepth 100000 in
theorem k_char2_3 (l : Launch) (dC : Nat → ClassId) (dI : Nat → Nat → Nat) (z zK zV : Nat → Nat)  (sz : Nat)  : Met l yJ0_charAt_5068e wsJ0_charAt_5068e ({ frames := 3, cells := 0, slots := 0, locals := 64 }) (kP dC dI z zK zV [.ref (zK 2), .int 3] sz (wd_k_char2_3 z) []) (va_Qi (fun (r : Int32) (_ : Unit) => 49 = r) (fun _ t => kB (dC, dI) (va_A (wd_k_char2_3 z) sz) [] [] t) (va_A (wd_k_char2_3 z) sz)) 0 0 (va_A (wd_k_char2_3 z) sz) := by
  refine Met.ofW (cc := cJ0_charAt_5068e) (maxL := 2) (ret := (some .char)) (by decide) rfl ?_
  intro p e s m args below meth c s₁ B hml hv
  obtain ⟨rfl, hsz, hP, hK, hD0, hM⟩ := hv
  have hx := B.exec
  have hb := B.bytes
  have hr := B.returns
  have hts := atoms_spec (ws := wsJ0_charAt_5068e) B.pre
  have hown : s.vm.findClass RJ0 = some m.cls := findClass_of_methodNamed B.named
  have hlocks := B.notSynchronized
  subst hsz
  have hD := hD0.self (sz := s.heap.size)
  generalize hAe : va_A (wd_k_char2_3 z) s.heap.size = A at hD hM ⊢
  have hA : ∀ q : Nat, s.heap.size ≤ q → A q := fun q h => by rw [← hAe]; exact Or.inr h
  have hS : va_S A s.heap s.heap [] := va_S.rf
  have hP : va_P (dC, dI) vwCl [] s.heap := hP
  have hD : va_D A [] := hD
  have hl := lv_entry ([.ref (zK 2), .int 3]) (n := 2) (Nat.le_of_ble_eq_true rfl)
  rw [lg_entry_eq]
  generalize (lg_sl ([.ref (zK 2), .int 3]) ++ List.replicate (2 - (lg_sl ([.ref (zK 2), .int 3])).length) Slot.unset).toArray = ls at hl ⊢
  have hl : lv_has ls 2 [(0, .ref (zK 2)), (1, .int 3)] := hl
  refine lv_aload_n hx hb dJ0_charAt_5068e_0 rfl (lv_at hl 0 rfl) ?_
  have hPc := hP.sub (ws' := []) [] rfl
  have hDc := hD.sub (ws' := []) [] (by decide) rfl
  have hKc := hK.sub (tys' := []) [] rfl
  have hFc := va_free (wc := []) hD hS hA [] rfl
  refine va_calli (va_runV (As := []) (rest := []) ⟨hx, hb, hml, hown, hts⟩ (k_isLatin2 l dC dI z zK zV  s.heap.size) (cwV 0 hts gJ0_charAt_5068e_J0_isLatin1_aae02 rfl rfl rfl (by decide +kernel) ⟨Nat.le_of_ble_eq_true rfl, Nat.le_of_ble_eq_true rfl⟩) ⟨kP_blind, vk_recv (i := 2) hM.2.2.2.1 (by decide) hS, kP_go hPc hKc hDc hFc hM hS⟩ rfl rfl hl.1 rfl (lv_room (Nat.le_of_ble_eq_true rfl)) dJ0_charAt_5068e_1 ⟨Nat.le_of_ble_eq_true rfl, Nat.le_of_ble_eq_true rfl⟩) hS (fun q _ h => hFc q h) hFc (fun r1 u t H1 locs ht hvm hw hB hz1 hk1 hS => ?_)
  obtain ⟨hP, hD, hK⟩ := kJ (wr := []) (w1 := []) (t1 := []) hP hD hK [] [] rfl rfl (by decide) (by decide) hk1 hFc ht hvm hB
  generalize H1 = H at hP hS ⊢
  have hP : va_P (dC, dI) vwCl [] H := hP
  have hD : va_D A [] := hD
  have hK : va_K (dC, dI) vwCl [] s := hK
  obtain rfl : 1 = r1 := hw
  refine lv_if_eq (tgt := 16) hx hb dJ0_charAt_5068e_4 (by decide) (fun c_ => absurd c_ (by decide +kernel)) (fun _ => ?_)
  refine lv_aload_n hx hb dJ0_charAt_5068e_7 rfl (lv_at hl 0 rfl) ?_
  refine vk_getf (v := .ref (zV 2)) hx hb (hM.2.2.2.1.1 2 (by decide)).2.2.1 hS hown (hts (.fieldLink RJ0 9 "java/lang/String" "value" "[B") (by decide +kernel)) (fun _ h9 => h9) dJ0_charAt_5068e_8 ?_
  refine lv_iload_n hx hb dJ0_charAt_5068e_11 rfl (lv_at hl 1 rfl) ?_
  have hPc := hP.sub (ws' := []) [] rfl
  have hDc := hD.sub (ws' := []) [] (by decide) rfl
  have hKc := hK.sub (tys' := []) [] rfl
  have hFc := va_free (wc := []) hD hS hA [] rfl
  refine va_calli (va_runS (As := [.ref (zV 2), .int 3]) (rest := []) ⟨hx, hb, hml, hown, hts⟩ (k_lchar2_3 l dC dI z zK zV  H.size) (va_cwS 2 hts gJ0_charAt_5068e_J1_charAt_3b067 rfl rfl rfl (by decide +kernel) ⟨Nat.le_of_ble_eq_true rfl, Nat.le_of_ble_eq_true rfl⟩) ⟨kP_blind, kP_go hPc hKc hDc hFc hM hS⟩ rfl rfl hl.1 rfl (lv_room (Nat.le_of_ble_eq_true rfl)) dJ0_charAt_5068e_12 ⟨Nat.le_of_ble_eq_true rfl, Nat.le_of_ble_eq_true rfl⟩) hS (fun q _ h => hFc q h) hFc (fun r2 u t H1 locs ht hvm hw hB hz1 hk1 hS => ?_)
  obtain ⟨hP, hD, hK⟩ := kJ (wr := []) (w1 := []) (t1 := []) hP hD hK [] [] rfl rfl (by decide) (by decide) hk1 hFc ht hvm hB
  generalize H1 = H at hP hS ⊢
  have hP : va_P (dC, dI) vwCl [] H := hP
  have hD : va_D A [] := hD
  have hK : va_K (dC, dI) vwCl [] s := hK
  obtain rfl : 49 = r2 := hw
  exact W.zret (v := 49) hx hb hr (by decide +kernel) (fun t ht hW => ⟨⟨49, (), rfl, rfl, kB_end (w9 := []) (t9 := []) hP hK hD [] [] rfl (by decide) rfl rfl t ht hW⟩, hS.F ht⟩) hS.2.2 dJ0_charAt_5068e_15
abbrev wd_k_digit2_3 (_z : Nat → Nat) : va_W := []
set_option maxHeartbeats 4000000 in
set_option maxRecDepth 100000 in
theorem k_digit2_3 (l : Launch) (dC : Nat → ClassId) (dI : Nat → Nat → Nat) (z zK zV : Nat → Nat)  (sz : Nat)  : Met l yX15_digit wsX15_digit ({ frames := 4, cells := 0, slots := 0, locals := 85 }) (kP dC dI z zK zV [.ref (zK 2), .int 3] sz (wd_k_digit2_3 z) []) (va_Qi (fun (r : Int32) (_ : Unit) => 1 = r) (fun _ t => kB (dC, dI) (va_A (wd_k_digit2_3 z) sz) [] [] t) (va_A (wd_k_digit2_3 z) sz)) 0 0 (va_A (wd_k_digit2_3 z) sz) := by
  refine Met.ofW (cc := cX15_digit) (maxL := 3) (ret := (some .int)) (by decide) rfl ?_
  intro p e s m args below meth c s₁ B hml hv
  obtain ⟨rfl, hsz, hP, hK, hD0, hM⟩ := hv
  have hx := B.exec
  have hb := B.bytes
  have hr := B.returns
  have hts := atoms_spec (ws := wsX15_digit) B.pre
  have hown : s.vm.findClass RX15 = some m.cls := findClass_of_methodNamed B.named
  have hlocks := B.notSynchronized
  subst hsz
  have hD := hD0.self (sz := s.heap.size)
  generalize hAe : va_A (wd_k_digit2_3 z) s.heap.size = A at hD hM ⊢
  have hA : ∀ q : Nat, s.heap.size ≤ q → A q := fun q h => by rw [← hAe]; exact Or.inr h
  have hS : va_S A s.heap s.heap [] := va_S.rf
  have hP : va_P (dC, dI) vwCl [] s.heap := hP
  have hD : va_D A [] := hD
  have hl := lv_entry ([.ref (zK 2), .int 3]) (n := 3) (Nat.le_of_ble_eq_true rfl)
  rw [lg_entry_eq]
  generalize (lg_sl ([.ref (zK 2), .int 3]) ++ List.replicate (3 - (lg_sl ([.ref (zK 2), .int 3])).length) Slot.unset).toArray = ls at hl ⊢
  have hl : lv_has ls 3 [(0, .ref (zK 2)), (1, .int 3)] := hl
  refine lv_aload_n hx hb dX15_digit_0 rfl (lv_at hl 0 rfl) ?_
  refine lv_iload_n hx hb dX15_digit_1 rfl (lv_at hl 1 rfl) ?_
  have hPc := hP.sub (ws' := []) [] rfl
  have hDc := hD.sub (ws' := []) [] (by decide) rfl
  have hKc := hK.sub (tys' := []) [] rfl
  have hFc := va_free (wc := []) hD hS hA [] rfl
  refine va_calli (va_runV (As := [.int 3]) (rest := []) ⟨hx, hb, hml, hown, hts⟩ (k_char2_3 l dC dI z zK zV  s.heap.size) (cwV 1 hts gX15_digit_J0_charAt_5068e rfl rfl rfl (by decide +kernel) ⟨Nat.le_of_ble_eq_true rfl, Nat.le_of_ble_eq_true rfl⟩) ⟨kP_blind, vk_recv (i := 2) hM.2.2.2.1 (by decide) hS, kP_go hPc hKc hDc hFc hM hS⟩ rfl rfl hl.1 rfl (lv_room (Nat.le_of_ble_eq_true rfl)) dX15_digit_2 ⟨Nat.le_of_ble_eq_true rfl, Nat.le_of_ble_eq_true rfl⟩) hS (fun q _ h => hFc q h) hFc (fun r1 u t H1 locs ht hvm hw hB hz1 hk1 hS => ?_)
  obtain ⟨hP, hD, hK⟩ := kJ (wr := []) (w1 := []) (t1 := []) hP hD hK [] [] rfl rfl (by decide) (by decide) hk1 hFc ht hvm hB
  generalize H1 = H at hP hS ⊢
  have hP : va_P (dC, dI) vwCl [] H := hP
  have hD : va_D A [] := hD
  have hK : va_K (dC, dI) vwCl [] s := hK
  obtain rfl : 49 = r1 := hw
  refine lv_istore_n (lv' := [(2, .int 49), (0, .ref (zK 2)), (1, .int 3)]) hx hb dX15_digit_5 rfl hl (by decide) rfl (fun ls hl => ?_)
  refine lv_iload_n hx hb dX15_digit_6 rfl (lv_at hl 0 rfl) ?_
  refine lv_bipush (v := 65) hx hb dX15_digit_7 (by decide) ?_
  refine lv_icmp_ne (tgt := 17) hx hb dX15_digit_9 (by decide) (fun _ => ?_) (fun c_ => absurd c_ (by decide +kernel))
  refine lv_iload_n hx hb dX15_digit_17 rfl (lv_at hl 0 rfl) ?_
  refine lv_bipush (v := 48) hx hb dX15_digit_18 (by decide) ?_
  refine lv_isub hx hb dX15_digit_20 ?_
  refine kc_i (y := 1) (by decide +kernel) ?_
  exact W.iret (v := 1) hx hb hr (fun t ht hW => ⟨⟨1, (), rfl, rfl, kB_end (w9 := []) (t9 := []) hP hK hD [] [] rfl (by decide) rfl rfl t ht hW⟩, hS.F ht⟩) hS.2.2 dX15_digit_21
abbrev wd_k_lchar2_4 (_z : Nat → Nat) : va_W := []
set_option maxHeartbeats 4000000 in
set_option maxRecDepth 100000 in
theorem k_lchar2_4 (l : Launch) (dC : Nat → ClassId) (dI : Nat → Nat → Nat) (z zK zV : Nat → Nat)  (sz : Nat)  : Met l yJ1_charAt_3b067 wsJ1_charAt_3b067 ({ frames := 2, cells := 0, slots := 0, locals := 43 }) (kP dC dI z zK zV [.ref (zV 2), .int 4] sz (wd_k_lchar2_4 z) []) (va_Qi (fun (r : Int32) (_ : Unit) => 49 = r) (fun _ t => kB (dC, dI) (va_A (wd_k_lchar2_4 z) sz) [] [] t) (va_A (wd_k_lchar2_4 z) sz)) 0 0 (va_A (wd_k_lchar2_4 z) sz) := by
  refine Met.ofW (cc := cJ1_charAt_3b067) (maxL := 2) (ret := (some .char)) (by decide) rfl ?_
  intro p e s m args below meth c s₁ B hml hv
  obtain ⟨rfl, hsz, hP, hK, hD0, hM⟩ := hv
  have hx := B.exec
  have hb := B.bytes
  have hr := B.returns
  have hts := atoms_spec (ws := wsJ1_charAt_3b067) B.pre
  have hown : s.vm.findClass RJ1 = some m.cls := findClass_of_methodNamed B.named
  have hlocks := B.notSynchronized
  subst hsz
  have hD := hD0.self (sz := s.heap.size)
  generalize hAe : va_A (wd_k_lchar2_4 z) s.heap.size = A at hD hM ⊢
  have hA : ∀ q : Nat, s.heap.size ≤ q → A q := fun q h => by rw [← hAe]; exact Or.inr h
  have hS : va_S A s.heap s.heap [] := va_S.rf
  have hP : va_P (dC, dI) vwCl [] s.heap := hP
  have hD : va_D A [] := hD
  have hl := lv_entry ([.ref (zV 2), .int 4]) (n := 2) (Nat.le_of_ble_eq_true rfl)
  rw [lg_entry_eq]
  generalize (lg_sl ([.ref (zV 2), .int 4]) ++ List.replicate (2 - (lg_sl ([.ref (zV 2), .int 4])).length) Slot.unset).toArray = ls at hl ⊢
  have hl : lv_has ls 2 [(0, .ref (zV 2)), (1, .int 4)] := hl
  refine lv_iload_n hx hb dJ1_charAt_3b067_0 rfl (lv_at hl 1 rfl) ?_
  refine lv_aload_n hx hb dJ1_charAt_3b067_1 rfl (lv_at hl 0 rfl) ?_
  refine va_tlen (v := 9) hx hb ((hM.2.2.2.1.1 2 (by decide)).2.2.2) hS rfl dJ1_charAt_3b067_2 ?_
  have hPc := hP.sub (ws' := []) [] rfl
  have hDc := hD.sub (ws' := []) [] (by decide) rfl
  have hKc := hK.sub (tys' := []) [] rfl
  have hFc := va_free (wc := []) hD hS hA [] rfl
  refine va_callv (va_runS (As := [.int 4, .int 9]) (rest := []) ⟨hx, hb, hml, hown, hts⟩ (k_schk_4 l dC dI z zK zV  s.heap.size) (va_cwS 2 hts gJ1_charAt_3b067_J0_checkIndex_df160 rfl rfl rfl (by decide +kernel) ⟨Nat.le_of_ble_eq_true rfl, Nat.le_of_ble_eq_true rfl⟩) ⟨kP_blind, kP_go hPc hKc hDc hFc hM hS⟩ rfl rfl hl.1 rfl (lv_room (Nat.le_of_ble_eq_true rfl)) dJ1_charAt_3b067_3 ⟨Nat.le_of_ble_eq_true rfl, Nat.le_of_ble_eq_true rfl⟩) hS (fun q _ h => hFc q h) hFc (fun u t H1 locs ht hvm hw hB hz1 hk1 hS => ?_)
  obtain ⟨hP, hD, hK⟩ := kJ (wr := []) (w1 := []) (t1 := []) hP hD hK [] [] rfl rfl (by decide) (by decide) hk1 hFc ht hvm hB
  generalize H1 = H at hP hS ⊢
  have hP : va_P (dC, dI) vwCl [] H := hP
  have hD : va_D A [] := hD
  have hK : va_K (dC, dI) vwCl [] s := hK
  clear hw
  refine lv_aload_n hx hb dJ1_charAt_3b067_6 rfl (lv_at hl 0 rfl) ?_
  refine lv_iload_n hx hb dJ1_charAt_3b067_7 rfl (lv_at hl 1 rfl) ?_
  refine va_tb (v := .int 49) hx hb ((hM.2.2.2.1.1 2 (by decide)).2.2.2) hS (pk_in 4 9 (by decide) rfl) rfl dJ1_charAt_3b067_8 ?_
  refine lv_sipush (v := 255) hx hb dJ1_charAt_3b067_9 (by decide) ?_
  refine lv_iand hx hb dJ1_charAt_3b067_12 ?_
  refine kc_i (y := 49) (by decide +kernel) ?_
  refine lv_i2c (v := 49) hx hb dJ1_charAt_3b067_13 (by decide +kernel) ?_
  exact W.zret (v := 49) hx hb hr (by decide +kernel) (fun t ht hW => ⟨⟨49, (), rfl, rfl, kB_end (w9 := []) (t9 := []) hP hK hD [] [] rfl (by decide) rfl rfl t ht hW⟩, hS.F ht⟩) hS.2.2 dJ1_charAt_3b067_14
abbrev wd_k_char2_4 (_z : Nat → Nat) : va_W := []
set_option maxHeartbeats 4000000 in
set_option maxRecDepth 100000 in
theorem k_char2_4 (l : Launch) (dC : Nat → ClassId) (dI : Nat → Nat → Nat) (z zK zV : Nat → Nat)  (sz : Nat)  : Met l yJ0_charAt_5068e wsJ0_charAt_5068e ({ frames := 3, cells := 0, slots := 0, locals := 64 }) (kP dC dI z zK zV [.ref (zK 2), .int 4] sz (wd_k_char2_4 z) []) (va_Qi (fun (r : Int32) (_ : Unit) => 49 = r) (fun _ t => kB (dC, dI) (va_A (wd_k_char2_4 z) sz) [] [] t) (va_A (wd_k_char2_4 z) sz)) 0 0 (va_A (wd_k_char2_4 z) sz) := by
  refine Met.ofW (cc := cJ0_charAt_5068e) (maxL := 2) (ret := (some .char)) (by decide) rfl ?_
  intro p e s m args below meth c s₁ B hml hv
  obtain ⟨rfl, hsz, hP, hK, hD0, hM⟩ := hv
  have hx := B.exec
  have hb := B.bytes
  have hr := B.returns
  have hts := atoms_spec (ws := wsJ0_charAt_5068e) B.pre
  have hown : s.vm.findClass RJ0 = some m.cls := findClass_of_methodNamed B.named
  have hlocks := B.notSynchronized
  subst hsz
  have hD := hD0.self (sz := s.heap.size)
  generalize hAe : va_A (wd_k_char2_4 z) s.heap.size = A at hD hM ⊢
  have hA : ∀ q : Nat, s.heap.size ≤ q → A q := fun q h => by rw [← hAe]; exact Or.inr h
  have hS : va_S A s.heap s.heap [] := va_S.rf
  have hP : va_P (dC, dI) vwCl [] s.heap := hP
  have hD : va_D A [] := hD
  have hl := lv_entry ([.ref (zK 2), .int 4]) (n := 2) (Nat.le_of_ble_eq_true rfl)
  rw [lg_entry_eq]
  generalize (lg_sl ([.ref (zK 2), .int 4]) ++ List.replicate (2 - (lg_sl ([.ref (zK 2), .int 4])).length) Slot.unset).toArray = ls at hl ⊢
  have hl : lv_has ls 2 [(0, .ref (zK 2)), (1, .int 4)] := hl
  refine lv_aload_n hx hb dJ0_charAt_5068e_0 rfl (lv_at hl 0 rfl) ?_
  have hPc := hP.sub (ws' := []) [] rfl
  have hDc := hD.sub (ws' := []) [] (by decide) rfl
  have hKc := hK.sub (tys' := []) [] rfl
  have hFc := va_free (wc := []) hD hS hA [] rfl
  refine va_calli (va_runV (As := []) (rest := []) ⟨hx, hb, hml, hown, hts⟩ (k_isLatin2 l dC dI z zK zV  s.heap.size) (cwV 0 hts gJ0_charAt_5068e_J0_isLatin1_aae02 rfl rfl rfl (by decide +kernel) ⟨Nat.le_of_ble_eq_true rfl, Nat.le_of_ble_eq_true rfl⟩) ⟨kP_blind, vk_recv (i := 2) hM.2.2.2.1 (by decide) hS, kP_go hPc hKc hDc hFc hM hS⟩ rfl rfl hl.1 rfl (lv_room (Nat.le_of_ble_eq_true rfl)) dJ0_charAt_5068e_1 ⟨Nat.le_of_ble_eq_true rfl, Nat.le_of_ble_eq_true rfl⟩) hS (fun q _ h => hFc q h) hFc (fun r1 u t H1 locs ht hvm hw hB hz1 hk1 hS => ?_)
  obtain ⟨hP, hD, hK⟩ := kJ (wr := []) (w1 := []) (t1 := []) hP hD hK [] [] rfl rfl (by decide) (by decide) hk1 hFc ht hvm hB
  generalize H1 = H at hP hS ⊢
  have hP : va_P (dC, dI) vwCl [] H := hP
  have hD : va_D A [] := hD
  have hK : va_K (dC, dI) vwCl [] s := hK
  obtain rfl : 1 = r1 := hw
  refine lv_if_eq (tgt := 16) hx hb dJ0_charAt_5068e_4 (by decide) (fun c_ => absurd c_ (by decide +kernel)) (fun _ => ?_)
  refine lv_aload_n hx hb dJ0_charAt_5068e_7 rfl (lv_at hl 0 rfl) ?_
  refine vk_getf (v := .ref (zV 2)) hx hb (hM.2.2.2.1.1 2 (by decide)).2.2.1 hS hown (hts (.fieldLink RJ0 9 "java/lang/String" "value" "[B") (by decide +kernel)) (fun _ h9 => h9) dJ0_charAt_5068e_8 ?_
  refine lv_iload_n hx hb dJ0_charAt_5068e_11 rfl (lv_at hl 1 rfl) ?_
  have hPc := hP.sub (ws' := []) [] rfl
  have hDc := hD.sub (ws' := []) [] (by decide) rfl
  have hKc := hK.sub (tys' := []) [] rfl
  have hFc := va_free (wc := []) hD hS hA [] rfl
  refine va_calli (va_runS (As := [.ref (zV 2), .int 4]) (rest := []) ⟨hx, hb, hml, hown, hts⟩ (k_lchar2_4 l dC dI z zK zV  H.size) (va_cwS 2 hts gJ0_charAt_5068e_J1_charAt_3b067 rfl rfl rfl (by decide +kernel) ⟨Nat.le_of_ble_eq_true rfl, Nat.le_of_ble_eq_true rfl⟩) ⟨kP_blind, kP_go hPc hKc hDc hFc hM hS⟩ rfl rfl hl.1 rfl (lv_room (Nat.le_of_ble_eq_true rfl)) dJ0_charAt_5068e_12 ⟨Nat.le_of_ble_eq_true rfl, Nat.le_of_ble_eq_true rfl⟩) hS (fun q _ h => hFc q h) hFc (fun r2 u t H1 locs ht hvm hw hB hz1 hk1 hS => ?_)
  obtain ⟨hP, hD, hK⟩ := kJ (wr := []) (w1 := []) (t1 := []) hP hD hK [] [] rfl rfl (by decide) (by decide) hk1 hFc ht hvm hB
  generalize H1 = H at hP hS ⊢
  have hP : va_P (dC, dI) vwCl [] H := hP
  have hD : va_D A [] := hD
  have hK : va_K (dC, dI) vwCl [] s := hK
  obtain rfl : 49 = r2 := hw
  exact W.zret (v := 49) hx hb hr (by decide +kernel) (fun t ht hW => ⟨⟨49, (), rfl, rfl, kB_end (w9 := []) (t9 := []) hP hK hD [] [] rfl (by decide) rfl rfl t ht hW⟩, hS.F ht⟩) hS.2.2 dJ0_charAt_5068e_15
abbrev wd_k_digit2_4 (_z : Nat → Nat) : va_W := []
set_option maxHeartbeats 4000000 in
set_option maxRecDepth 100000 in
theorem k_digit2_4 (l : Launch) (dC : Nat → ClassId) (dI : Nat → Nat → Nat) (z zK zV : Nat → Nat)  (sz : Nat)  : Met l yX15_digit wsX15_digit ({ frames := 4, cells := 0, slots := 0, locals := 85 }) (kP dC dI z zK zV [.ref (zK 2), .int 4] sz (wd_k_digit2_4 z) []) (va_Qi (fun (r : Int32) (_ : Unit) => 1 = r) (fun _ t => kB (dC, dI) (va_A (wd_k_digit2_4 z) sz) [] [] t) (va_A (wd_k_digit2_4 z) sz)) 0 0 (va_A (wd_k_digit2_4 z) sz) := by
  refine Met.ofW (cc := cX15_digit) (maxL := 3) (ret := (some .int)) (by decide) rfl ?_
  intro p e s m args below meth c s₁ B hml hv
  obtain ⟨rfl, hsz, hP, hK, hD0, hM⟩ := hv
  have hx := B.exec
  have hb := B.bytes
  have hr := B.returns
  have hts := atoms_spec (ws := wsX15_digit) B.pre
  have hown : s.vm.findClass RX15 = some m.cls := findClass_of_methodNamed B.named
  have hlocks := B.notSynchronized
  subst hsz
  have hD := hD0.self (sz := s.heap.size)
  generalize hAe : va_A (wd_k_digit2_4 z) s.heap.size = A at hD hM ⊢
  have hA : ∀ q : Nat, s.heap.size ≤ q → A q := fun q h => by rw [← hAe]; exact Or.inr h
  have hS : va_S A s.heap s.heap [] := va_S.rf
  have hP : va_P (dC, dI) vwCl [] s.heap := hP
  have hD : va_D A [] := hD
  have hl := lv_entry ([.ref (zK 2), .int 4]) (n := 3) (Nat.le_of_ble_eq_true rfl)
  rw [lg_entry_eq]
  generalize (lg_sl ([.ref (zK 2), .int 4]) ++ List.replicate (3 - (lg_sl ([.ref (zK 2), .int 4])).length) Slot.unset).toArray = ls at hl ⊢
  have hl : lv_has ls 3 [(0, .ref (zK 2)), (1, .int 4)] := hl
  refine lv_aload_n hx hb dX15_digit_0 rfl (lv_at hl 0 rfl) ?_
  refine lv_iload_n hx hb dX15_digit_1 rfl (lv_at hl 1 rfl) ?_
  have hPc := hP.sub (ws' := []) [] rfl
  have hDc := hD.sub (ws' := []) [] (by decide) rfl
  have hKc := hK.sub (tys' := []) [] rfl
  have hFc := va_free (wc := []) hD hS hA [] rfl
  refine va_calli (va_runV (As := [.int 4]) (rest := []) ⟨hx, hb, hml, hown, hts⟩ (k_char2_4 l dC dI z zK zV  s.heap.size) (cwV 1 hts gX15_digit_J0_charAt_5068e rfl rfl rfl (by decide +kernel) ⟨Nat.le_of_ble_eq_true rfl, Nat.le_of_ble_eq_true rfl⟩) ⟨kP_blind, vk_recv (i := 2) hM.2.2.2.1 (by decide) hS, kP_go hPc hKc hDc hFc hM hS⟩ rfl rfl hl.1 rfl (lv_room (Nat.le_of_ble_eq_true rfl)) dX15_digit_2 ⟨Nat.le_of_ble_eq_true rfl, Nat.le_of_ble_eq_true rfl⟩) hS (fun q _ h => hFc q h) hFc (fun r1 u t H1 locs ht hvm hw hB hz1 hk1 hS => ?_)
  obtain ⟨hP, hD, hK⟩ := kJ (wr := []) (w1 := []) (t1 := []) hP hD hK [] [] rfl rfl (by decide) (by decide) hk1 hFc ht hvm hB
  generalize H1 = H at hP hS ⊢
  have hP : va_P (dC, dI) vwCl [] H := hP
  have hD : va_D A [] := hD
  have hK : va_K (dC, dI) vwCl [] s := hK
  obtain rfl : 49 = r1 := hw
  refine lv_istore_n (lv' := [(2, .int 49), (0, .ref (zK 2)), (1, .int 4)]) hx hb dX15_digit_5 rfl hl (by decide) rfl (fun ls hl => ?_)
  refine lv_iload_n hx hb dX15_digit_6 rfl (lv_at hl 0 rfl) ?_
  refine lv_bipush (v := 65) hx hb dX15_digit_7 (by decide) ?_
  refine lv_icmp_ne (tgt := 17) hx hb dX15_digit_9 (by decide) (fun _ => ?_) (fun c_ => absurd c_ (by decide +kernel))
  refine lv_iload_n hx hb dX15_digit_17 rfl (lv_at hl 0 rfl) ?_
  refine lv_bipush (v := 48) hx hb dX15_digit_18 (by decide) ?_
  refine lv_isub hx hb dX15_digit_20 ?_
  refine kc_i (y := 1) (by decide +kernel) ?_
  exact W.iret (v := 1) hx hb hr (fun t ht hW => ⟨⟨1, (), rfl, rfl, kB_end (w9 := []) (t9 := []) hP hK hD [] [] rfl (by decide) rfl rfl t ht hW⟩, hS.F ht⟩) hS.2.2 dX15_digit_21
abbrev wd_k_lchar2_5 (_z : Nat → Nat) : va_W := []
set_option maxHeartbeats 4000000 in
set_option maxRecDepth 100000 in
theorem k_lchar2_5 (l : Launch) (dC : Nat → ClassId) (dI : Nat → Nat → Nat) (z zK zV : Nat → Nat)  (sz : Nat)  : Met l yJ1_charAt_3b067 wsJ1_charAt_3b067 ({ frames := 2, cells := 0, slots := 0, locals := 43 }) (kP dC dI z zK zV [.ref (zV 2), .int 5] sz (wd_k_lchar2_5 z) []) (va_Qi (fun (r : Int32) (_ : Unit) => 49 = r) (fun _ t => kB (dC, dI) (va_A (wd_k_lchar2_5 z) sz) [] [] t) (va_A (wd_k_lchar2_5 z) sz)) 0 0 (va_A (wd_k_lchar2_5 z) sz) := by
  refine Met.ofW (cc := cJ1_charAt_3b067) (maxL := 2) (ret := (some .char)) (by decide) rfl ?_
  intro p e s m args below meth c s₁ B hml hv
  obtain ⟨rfl, hsz, hP, hK, hD0, hM⟩ := hv
  have hx := B.exec
  have hb := B.bytes
  have hr := B.returns
  have hts := atoms_spec (ws := wsJ1_charAt_3b067) B.pre
  have hown : s.vm.findClass RJ1 = some m.cls := findClass_of_methodNamed B.named
  have hlocks := B.notSynchronized
  subst hsz
  have hD := hD0.self (sz := s.heap.size)
  generalize hAe : va_A (wd_k_lchar2_5 z) s.heap.size = A at hD hM ⊢
  have hA : ∀ q : Nat, s.heap.size ≤ q → A q := fun q h => by rw [← hAe]; exact Or.inr h
  have hS : va_S A s.heap s.heap [] := va_S.rf
  have hP : va_P (dC, dI) vwCl [] s.heap := hP
  have hD : va_D A [] := hD
  have hl := lv_entry ([.ref (zV 2), .int 5]) (n := 2) (Nat.le_of_ble_eq_true rfl)
  rw [lg_entry_eq]
  generalize (lg_sl ([.ref (zV 2), .int 5]) ++ List.replicate (2 - (lg_sl ([.ref (zV 2), .int 5])).length) Slot.unset).toArray = ls at hl ⊢
  have hl : lv_has ls 2 [(0, .ref (zV 2)), (1, .int 5)] := hl
  refine lv_iload_n hx hb dJ1_charAt_3b067_0 rfl (lv_at hl 1 rfl) ?_
  refine lv_aload_n hx hb dJ1_charAt_3b067_1 rfl (lv_at hl 0 rfl) ?_
  refine va_tlen (v := 9) hx hb ((hM.2.2.2.1.1 2 (by decide)).2.2.2) hS rfl dJ1_charAt_3b067_2 ?_
  have hPc := hP.sub (ws' := []) [] rfl
  have hDc := hD.sub (ws' := []) [] (by decide) rfl
  have hKc := hK.sub (tys' := []) [] rfl
  have hFc := va_free (wc := []) hD hS hA [] rfl
  refine va_callv (va_runS (As := [.int 5, .int 9]) (rest := []) ⟨hx, hb, hml, hown, hts⟩ (k_schk_5 l dC dI z zK zV  s.heap.size) (va_cwS 2 hts gJ1_charAt_3b067_J0_checkIndex_df160 rfl rfl rfl (by decide +kernel) ⟨Nat.le_of_ble_eq_true rfl, Nat.le_of_ble_eq_true rfl⟩) ⟨kP_blind, kP_go hPc hKc hDc hFc hM hS⟩ rfl rfl hl.1 rfl (lv_room (Nat.le_of_ble_eq_true rfl)) dJ1_charAt_3b067_3 ⟨Nat.le_of_ble_eq_true rfl, Nat.le_of_ble_eq_true rfl⟩) hS (fun q _ h => hFc q h) hFc (fun u t H1 locs ht hvm hw hB hz1 hk1 hS => ?_)
  obtain ⟨hP, hD, hK⟩ := kJ (wr := []) (w1 := []) (t1 := []) hP hD hK [] [] rfl rfl (by decide) (by decide) hk1 hFc ht hvm hB
  generalize H1 = H at hP hS ⊢
  have hP : va_P (dC, dI) vwCl [] H := hP
  have hD : va_D A [] := hD
  have hK : va_K (dC, dI) vwCl [] s := hK
  clear hw
  refine lv_aload_n hx hb dJ1_charAt_3b067_6 rfl (lv_at hl 0 rfl) ?_
  refine lv_iload_n hx hb dJ1_charAt_3b067_7 rfl (lv_at hl 1 rfl) ?_
  refine va_tb (v := .int 49) hx hb ((hM.2.2.2.1.1 2 (by decide)).2.2.2) hS (pk_in 5 9 (by decide) rfl) rfl dJ1_charAt_3b067_8 ?_
  refine lv_sipush (v := 255) hx hb dJ1_charAt_3b067_9 (by decide) ?_
  refine lv_iand hx hb dJ1_charAt_3b067_12 ?_
  refine kc_i (y := 49) (by decide +kernel) ?_
  refine lv_i2c (v := 49) hx hb dJ1_charAt_3b067_13 (by decide +kernel) ?_
  exact W.zret (v := 49) hx hb hr (by decide +kernel) (fun t ht hW => ⟨⟨49, (), rfl, rfl, kB_end (w9 := []) (t9 := []) hP hK hD [] [] rfl (by decide) rfl rfl t ht hW⟩, hS.F ht⟩) hS.2.2 dJ1_charAt_3b067_14
abbrev wd_k_char2_5 (_z : Nat → Nat) : va_W := []
set_option maxHeartbeats 4000000 in
set_option maxRecDepth 100000 in
theorem k_char2_5 (l : Launch) (dC : Nat → ClassId) (dI : Nat → Nat → Nat) (z zK zV : Nat → Nat)  (sz : Nat)  : Met l yJ0_charAt_5068e wsJ0_charAt_5068e ({ frames := 3, cells := 0, slots := 0, locals := 64 }) (kP dC dI z zK zV [.ref (zK 2), .int 5] sz (wd_k_char2_5 z) []) (va_Qi (fun (r : Int32) (_ : Unit) => 49 = r) (fun _ t => kB (dC, dI) (va_A (wd_k_char2_5 z) sz) [] [] t) (va_A (wd_k_char2_5 z) sz)) 0 0 (va_A (wd_k_char2_5 z) sz) := by
  refine Met.ofW (cc := cJ0_charAt_5068e) (maxL := 2) (ret := (some .char)) (by decide) rfl ?_
  intro p e s m args below meth c s₁ B hml hv
  obtain ⟨rfl, hsz, hP, hK, hD0, hM⟩ := hv
  have hx := B.exec
  have hb := B.bytes
  have hr := B.returns
  have hts := atoms_spec (ws := wsJ0_charAt_5068e) B.pre
  have hown : s.vm.findClass RJ0 = some m.cls := findClass_of_methodNamed B.named
  have hlocks := B.notSynchronized
  subst hsz
  have hD := hD0.self (sz := s.heap.size)
  generalize hAe : va_A (wd_k_char2_5 z) s.heap.size = A at hD hM ⊢
  have hA : ∀ q : Nat, s.heap.size ≤ q → A q := fun q h => by rw [← hAe]; exact Or.inr h
  have hS : va_S A s.heap s.heap [] := va_S.rf
  have hP : va_P (dC, dI) vwCl [] s.heap := hP
  have hD : va_D A [] := hD
  have hl := lv_entry ([.ref (zK 2), .int 5]) (n := 2) (Nat.le_of_ble_eq_true rfl)
  rw [lg_entry_eq]
  generalize (lg_sl ([.ref (zK 2), .int 5]) ++ List.replicate (2 - (lg_sl ([.ref (zK 2), .int 5])).length) Slot.unset).toArray = ls at hl ⊢
  have hl : lv_has ls 2 [(0, .ref (zK 2)), (1, .int 5)] := hl
  refine lv_aload_n hx hb dJ0_charAt_5068e_0 rfl (lv_at hl 0 rfl) ?_
  have hPc := hP.sub (ws' := []) [] rfl
  have hDc := hD.sub (ws' := []) [] (by decide) rfl
  have hKc := hK.sub (tys' := []) [] rfl
  have hFc := va_free (wc := []) hD hS hA [] rfl
  refine va_calli (va_runV (As := []) (rest := []) ⟨hx, hb, hml, hown, hts⟩ (k_isLatin2 l dC dI z zK zV  s.heap.size) (cwV 0 hts gJ0_charAt_5068e_J0_isLatin1_aae02 rfl rfl rfl (by decide +kernel) ⟨Nat.le_of_ble_eq_true rfl, Nat.le_of_ble_eq_true rfl⟩) ⟨kP_blind, vk_recv (i := 2) hM.2.2.2.1 (by decide) hS, kP_go hPc hKc hDc hFc hM hS⟩ rfl rfl hl.1 rfl (lv_room (Nat.le_of_ble_eq_true rfl)) dJ0_charAt_5068e_1 ⟨Nat.le_of_ble_eq_true rfl, Nat.le_of_ble_eq_true rfl⟩) hS (fun q _ h => hFc q h) hFc (fun r1 u t H1 locs ht hvm hw hB hz1 hk1 hS => ?_)
  obtain ⟨hP, hD, hK⟩ := kJ (wr := []) (w1 := []) (t1 := []) hP hD hK [] [] rfl rfl (by decide) (by decide) hk1 hFc ht hvm hB
  generalize H1 = H at hP hS ⊢
  have hP : va_P (dC, dI) vwCl [] H := hP
  have hD : va_D A [] := hD
  have hK : va_K (dC, dI) vwCl [] s := hK
  obtain rfl : 1 = r1 := hw
  refine lv_if_eq (tgt := 16) hx hb dJ0_charAt_5068e_4 (by decide) (fun c_ => absurd c_ (by decide +kernel)) (fun _ => ?_)
  refine lv_aload_n hx hb dJ0_charAt_5068e_7 rfl (lv_at hl 0 rfl) ?_
  refine vk_getf (v := .ref (zV 2)) hx hb (hM.2.2.2.1.1 2 (by decide)).2.2.1 hS hown (hts (.fieldLink RJ0 9 "java/lang/String" "value" "[B") (by decide +kernel)) (fun _ h9 => h9) dJ0_charAt_5068e_8 ?_
  refine lv_iload_n hx hb dJ0_charAt_5068e_11 rfl (lv_at hl 1 rfl) ?_
  have hPc := hP.sub (ws' := []) [] rfl
  have hDc := hD.sub (ws' := []) [] (by decide) rfl
  have hKc := hK.sub (tys' := []) [] rfl
  have hFc := va_free (wc := []) hD hS hA [] rfl
  refine va_calli (va_runS (As := [.ref (zV 2), .int 5]) (rest := []) ⟨hx, hb, hml, hown, hts⟩ (k_lchar2_5 l dC dI z zK zV  H.size) (va_cwS 2 hts gJ0_charAt_5068e_J1_charAt_3b067 rfl rfl rfl (by decide +kernel) ⟨Nat.le_of_ble_eq_true rfl, Nat.le_of_ble_eq_true rfl⟩) ⟨kP_blind, kP_go hPc hKc hDc hFc hM hS⟩ rfl rfl hl.1 rfl (lv_room (Nat.le_of_ble_eq_true rfl)) dJ0_charAt_5068e_12 ⟨Nat.le_of_ble_eq_true rfl, Nat.le_of_ble_eq_true rfl⟩) hS (fun q _ h => hFc q h) hFc (fun r2 u t H1 locs ht hvm hw hB hz1 hk1 hS => ?_)
  obtain ⟨hP, hD, hK⟩ := kJ (wr := []) (w1 := []) (t1 := []) hP hD hK [] [] rfl rfl (by decide) (by decide) hk1 hFc ht hvm hB
  generalize H1 = H at hP hS ⊢
  have hP : va_P (dC, dI) vwCl [] H := hP
  have hD : va_D A [] := hD
  have hK : va_K (dC, dI) vwCl [] s := hK
  obtain rfl : 49 = r2 := hw
  exact W.zret (v := 49) hx hb hr (by decide +kernel) (fun t ht hW => ⟨⟨49, (), rfl, rfl, kB_end (w9 := []) (t9 := []) hP hK hD [] [] rfl (by decide) rfl rfl t ht hW⟩, hS.F ht⟩) hS.2.2 dJ0_charAt_5068e_15
abbrev wd_k_digit2_5 (_z : Nat → Nat) : va_W := []
set_option maxHeartbeats 4000000 in
set_option maxRecDepth 100000 in
theorem k_digit2_5 (l : Launch) (dC : Nat → ClassId) (dI : Nat → Nat → Nat) (z zK zV : Nat → Nat)  (sz : Nat)  : Met l yX15_digit wsX15_digit ({ frames := 4, cells := 0, slots := 0, locals := 85 }) (kP dC dI z zK zV [.ref (zK 2), .int 5] sz (wd_k_digit2_5 z) []) (va_Qi (fun (r : Int32) (_ : Unit) => 1 = r) (fun _ t => kB (dC, dI) (va_A (wd_k_digit2_5 z) sz) [] [] t) (va_A (wd_k_digit2_5 z) sz)) 0 0 (va_A (wd_k_digit2_5 z) sz) := by
  refine Met.ofW (cc := cX15_digit) (maxL := 3) (ret := (some .int)) (by decide) rfl ?_
  intro p e s m args below meth c s₁ B hml hv
  obtain ⟨rfl, hsz, hP, hK, hD0, hM⟩ := hv
  have hx := B.exec
  have hb := B.bytes
  have hr := B.returns
  have hts := atoms_spec (ws := wsX15_digit) B.pre
  have hown : s.vm.findClass RX15 = some m.cls := findClass_of_methodNamed B.named
  have hlocks := B.notSynchronized
  subst hsz
  have hD := hD0.self (sz := s.heap.size)
  generalize hAe : va_A (wd_k_digit2_5 z) s.heap.size = A at hD hM ⊢
  have hA : ∀ q : Nat, s.heap.size ≤ q → A q := fun q h => by rw [← hAe]; exact Or.inr h
  have hS : va_S A s.heap s.heap [] := va_S.rf
  have hP : va_P (dC, dI) vwCl [] s.heap := hP
  have hD : va_D A [] := hD
  have hl := lv_entry ([.ref (zK 2), .int 5]) (n := 3) (Nat.le_of_ble_eq_true rfl)
  rw [lg_entry_eq]
  generalize (lg_sl ([.ref (zK 2), .int 5]) ++ List.replicate (3 - (lg_sl ([.ref (zK 2), .int 5])).length) Slot.unset).toArray = ls at hl ⊢
  have hl : lv_has ls 3 [(0, .ref (zK 2)), (1, .int 5)] := hl
  refine lv_aload_n hx hb dX15_digit_0 rfl (lv_at hl 0 rfl) ?_
  refine lv_iload_n hx hb dX15_digit_1 rfl (lv_at hl 1 rfl) ?_
  have hPc := hP.sub (ws' := []) [] rfl
  have hDc := hD.sub (ws' := []) [] (by decide) rfl
  have hKc := hK.sub (tys' := []) [] rfl
  have hFc := va_free (wc := []) hD hS hA [] rfl
  refine va_calli (va_runV (As := [.int 5]) (rest := []) ⟨hx, hb, hml, hown, hts⟩ (k_char2_5 l dC dI z zK zV  s.heap.size) (cwV 1 hts gX15_digit_J0_charAt_5068e rfl rfl rfl (by decide +kernel) ⟨Nat.le_of_ble_eq_true rfl, Nat.le_of_ble_eq_true rfl⟩) ⟨kP_blind, vk_recv (i := 2) hM.2.2.2.1 (by decide) hS, kP_go hPc hKc hDc hFc hM hS⟩ rfl rfl hl.1 rfl (lv_room (Nat.le_of_ble_eq_true rfl)) dX15_digit_2 ⟨Nat.le_of_ble_eq_true rfl, Nat.le_of_ble_eq_true rfl⟩) hS (fun q _ h => hFc q h) hFc (fun r1 u t H1 locs ht hvm hw hB hz1 hk1 hS => ?_)
  obtain ⟨hP, hD, hK⟩ := kJ (wr := []) (w1 := []) (t1 := []) hP hD hK [] [] rfl rfl (by decide) (by decide) hk1 hFc ht hvm hB
  generalize H1 = H at hP hS ⊢
  have hP : va_P (dC, dI) vwCl [] H := hP
  have hD : va_D A [] := hD
  have hK : va_K (dC, dI) vwCl [] s := hK
  obtain rfl : 49 = r1 := hw
  refine lv_istore_n (lv' := [(2, .int 49), (0, .ref (zK 2)), (1, .int 5)]) hx hb dX15_digit_5 rfl hl (by decide) rfl (fun ls hl => ?_)
  refine lv_iload_n hx hb dX15_digit_6 rfl (lv_at hl 0 rfl) ?_
  refine lv_bipush (v := 65) hx hb dX15_digit_7 (by decide) ?_
  refine lv_icmp_ne (tgt := 17) hx hb dX15_digit_9 (by decide) (fun _ => ?_) (fun c_ => absurd c_ (by decide +kernel))
  refine lv_iload_n hx hb dX15_digit_17 rfl (lv_at hl 0 rfl) ?_
  refine lv_bipush (v := 48) hx hb dX15_digit_18 (by decide) ?_
  refine lv_isub hx hb dX15_digit_20 ?_
  refine kc_i (y := 1) (by decide +kernel) ?_
  exact W.iret (v := 1) hx hb hr (fun t ht hW => ⟨⟨1, (), rfl, rfl, kB_end (w9 := []) (t9 := []) hP hK hD [] [] rfl (by decide) rfl rfl t ht hW⟩, hS.F ht⟩) hS.2.2 dX15_digit_21
abbrev wd_k_lchar2_6 (_z : Nat → Nat) : va_W := []
set_option maxHeartbeats 4000000 in
set_option maxRecDepth 100000 in
theorem k_lchar2_6 (l : Launch) (dC : Nat → ClassId) (dI : Nat → Nat → Nat) (z zK zV : Nat → Nat)  (sz : Nat)  : Met l yJ1_charAt_3b067 wsJ1_charAt_3b067 ({ frames := 2, cells := 0, slots := 0, locals := 43 }) (kP dC dI z zK zV [.ref (zV 2), .int 6] sz (wd_k_lchar2_6 z) []) (va_Qi (fun (r : Int32) (_ : Unit) => 50 = r) (fun _ t => kB (dC, dI) (va_A (wd_k_lchar2_6 z) sz) [] [] t) (va_A (wd_k_lchar2_6 z) sz)) 0 0 (va_A (wd_k_lchar2_6 z) sz) := by
  refine Met.ofW (cc := cJ1_charAt_3b067) (maxL := 2) (ret := (some .char)) (by decide) rfl ?_
  intro p e s m args below meth c s₁ B hml hv
  obtain ⟨rfl, hsz, hP, hK, hD0, hM⟩ := hv
  have hx := B.exec
  have hb := B.bytes
  have hr := B.returns
  have hts := atoms_spec (ws := wsJ1_charAt_3b067) B.pre
  have hown : s.vm.findClass RJ1 = some m.cls := findClass_of_methodNamed B.named
  have hlocks := B.notSynchronized
  subst hsz
  have hD := hD0.self (sz := s.heap.size)
  generalize hAe : va_A (wd_k_lchar2_6 z) s.heap.size = A at hD hM ⊢
  have hA : ∀ q : Nat, s.heap.size ≤ q → A q := fun q h => by rw [← hAe]; exact Or.inr h
  have hS : va_S A s.heap s.heap [] := va_S.rf
  have hP : va_P (dC, dI) vwCl [] s.heap := hP
  have hD : va_D A [] := hD
  have hl := lv_entry ([.ref (zV 2), .int 6]) (n := 2) (Nat.le_of_ble_eq_true rfl)
  rw [lg_entry_eq]
  generalize (lg_sl ([.ref (zV 2), .int 6]) ++ List.replicate (2 - (lg_sl ([.ref (zV 2), .int 6])).length) Slot.unset).toArray = ls at hl ⊢
  have hl : lv_has ls 2 [(0, .ref (zV 2)), (1, .int 6)] := hl
  refine lv_iload_n hx hb dJ1_charAt_3b067_0 rfl (lv_at hl 1 rfl) ?_
  refine lv_aload_n hx hb dJ1_charAt_3b067_1 rfl (lv_at hl 0 rfl) ?_
  refine va_tlen (v := 9) hx hb ((hM.2.2.2.1.1 2 (by decide)).2.2.2) hS rfl dJ1_charAt_3b067_2 ?_
  have hPc := hP.sub (ws' := []) [] rfl
  have hDc := hD.sub (ws' := []) [] (by decide) rfl
  have hKc := hK.sub (tys' := []) [] rfl
  have hFc := va_free (wc := []) hD hS hA [] rfl
  refine va_callv (va_runS (As := [.int 6, .int 9]) (rest := []) ⟨hx, hb, hml, hown, hts⟩ (k_schk_6 l dC dI z zK zV  s.heap.size) (va_cwS 2 hts gJ1_charAt_3b067_J0_checkIndex_df160 rfl rfl rfl (by decide +kernel) ⟨Nat.le_of_ble_eq_true rfl, Nat.le_of_ble_eq_true rfl⟩) ⟨kP_blind, kP_go hPc hKc hDc hFc hM hS⟩ rfl rfl hl.1 rfl (lv_room (Nat.le_of_ble_eq_true rfl)) dJ1_charAt_3b067_3 ⟨Nat.le_of_ble_eq_true rfl, Nat.le_of_ble_eq_true rfl⟩) hS (fun q _ h => hFc q h) hFc (fun u t H1 locs ht hvm hw hB hz1 hk1 hS => ?_)
  obtain ⟨hP, hD, hK⟩ := kJ (wr := []) (w1 := []) (t1 := []) hP hD hK [] [] rfl rfl (by decide) (by decide) hk1 hFc ht hvm hB
  generalize H1 = H at hP hS ⊢
  have hP : va_P (dC, dI) vwCl [] H := hP
  have hD : va_D A [] := hD
  have hK : va_K (dC, dI) vwCl [] s := hK
  clear hw
  refine lv_aload_n hx hb dJ1_charAt_3b067_6 rfl (lv_at hl 0 rfl) ?_
  refine lv_iload_n hx hb dJ1_charAt_3b067_7 rfl (lv_at hl 1 rfl) ?_
  refine va_tb (v := .int 50) hx hb ((hM.2.2.2.1.1 2 (by decide)).2.2.2) hS (pk_in 6 9 (by decide) rfl) rfl dJ1_charAt_3b067_8 ?_
  refine lv_sipush (v := 255) hx hb dJ1_charAt_3b067_9 (by decide) ?_
  refine lv_iand hx hb dJ1_charAt_3b067_12 ?_
  refine kc_i (y := 50) (by decide +kernel) ?_
  refine lv_i2c (v := 50) hx hb dJ1_charAt_3b067_13 (by decide +kernel) ?_
  exact W.zret (v := 50) hx hb hr (by decide +kernel) (fun t ht hW => ⟨⟨50, (), rfl, rfl, kB_end (w9 := []) (t9 := []) hP hK hD [] [] rfl (by decide) rfl rfl t ht hW⟩, hS.F ht⟩) hS.2.2 dJ1_charAt_3b067_14
abbrev wd_k_char2_6 (_z : Nat → Nat) : va_W := []
set_option maxHeartbeats 4000000 in
set_option maxRecDepth 100000 in
theorem k_char2_6 (l : Launch) (dC : Nat → ClassId) (dI : Nat → Nat → Nat) (z zK zV : Nat → Nat)  (sz : Nat)  : Met l yJ0_charAt_5068e wsJ0_charAt_5068e ({ frames := 3, cells := 0, slots := 0, locals := 64 }) (kP dC dI z zK zV [.ref (zK 2), .int 6] sz (wd_k_char2_6 z) []) (va_Qi (fun (r : Int32) (_ : Unit) => 50 = r) (fun _ t => kB (dC, dI) (va_A (wd_k_char2_6 z) sz) [] [] t) (va_A (wd_k_char2_6 z) sz)) 0 0 (va_A (wd_k_char2_6 z) sz) := by
  refine Met.ofW (cc := cJ0_charAt_5068e) (maxL := 2) (ret := (some .char)) (by decide) rfl ?_
  intro p e s m args below meth c s₁ B hml hv
  obtain ⟨rfl, hsz, hP, hK, hD0, hM⟩ := hv
  have hx := B.exec
  have hb := B.bytes
  have hr := B.returns
  have hts := atoms_spec (ws := wsJ0_charAt_5068e) B.pre
  have hown : s.vm.findClass RJ0 = some m.cls := findClass_of_methodNamed B.named
  have hlocks := B.notSynchronized
  subst hsz
  have hD := hD0.self (sz := s.heap.size)
  generalize hAe : va_A (wd_k_char2_6 z) s.heap.size = A at hD hM ⊢
  have hA : ∀ q : Nat, s.heap.size ≤ q → A q := fun q h => by rw [← hAe]; exact Or.inr h
  have hS : va_S A s.heap s.heap [] := va_S.rf
  have hP : va_P (dC, dI) vwCl [] s.heap := hP
  have hD : va_D A [] := hD
  have hl := lv_entry ([.ref (zK 2), .int 6]) (n := 2) (Nat.le_of_ble_eq_true rfl)
  rw [lg_entry_eq]
  generalize (lg_sl ([.ref (zK 2), .int 6]) ++ List.replicate (2 - (lg_sl ([.ref (zK 2), .int 6])).length) Slot.unset).toArray = ls at hl ⊢
  have hl : lv_has ls 2 [(0, .ref (zK 2)), (1, .int 6)] := hl
  refine lv_aload_n hx hb dJ0_charAt_5068e_0 rfl (lv_at hl 0 rfl) ?_
  have hPc := hP.sub (ws' := []) [] rfl
  have hDc := hD.sub (ws' := []) [] (by decide) rfl
  have hKc := hK.sub (tys' := []) [] rfl
  have hFc := va_free (wc := []) hD hS hA [] rfl
  refine va_calli (va_runV (As := []) (rest := []) ⟨hx, hb, hml, hown, hts⟩ (k_isLatin2 l dC dI z zK zV  s.heap.size) (cwV 0 hts gJ0_charAt_5068e_J0_isLatin1_aae02 rfl rfl rfl (by decide +kernel) ⟨Nat.le_of_ble_eq_true rfl, Nat.le_of_ble_eq_true rfl⟩) ⟨kP_blind, vk_recv (i := 2) hM.2.2.2.1 (by decide) hS, kP_go hPc hKc hDc hFc hM hS⟩ rfl rfl hl.1 rfl (lv_room (Nat.le_of_ble_eq_true rfl)) dJ0_charAt_5068e_1 ⟨Nat.le_of_ble_eq_true rfl, Nat.le_of_ble_eq_true rfl⟩) hS (fun q _ h => hFc q h) hFc (fun r1 u t H1 locs ht hvm hw hB hz1 hk1 hS => ?_)
  obtain ⟨hP, hD, hK⟩ := kJ (wr := []) (w1 := []) (t1 := []) hP hD hK [] [] rfl rfl (by decide) (by decide) hk1 hFc ht hvm hB
  generalize H1 = H at hP hS ⊢
  have hP : va_P (dC, dI) vwCl [] H := hP
  have hD : va_D A [] := hD
  have hK : va_K (dC, dI) vwCl [] s := hK
  obtain rfl : 1 = r1 := hw
  refine lv_if_eq (tgt := 16) hx hb dJ0_charAt_5068e_4 (by decide) (fun c_ => absurd c_ (by decide +kernel)) (fun _ => ?_)
  refine lv_aload_n hx hb dJ0_charAt_5068e_7 rfl (lv_at hl 0 rfl) ?_
  refine vk_getf (v := .ref (zV 2)) hx hb (hM.2.2.2.1.1 2 (by decide)).2.2.1 hS hown (hts (.fieldLink RJ0 9 "java/lang/String" "value" "[B") (by decide +kernel)) (fun _ h9 => h9) dJ0_charAt_5068e_8 ?_
  refine lv_iload_n hx hb dJ0_charAt_5068e_11 rfl (lv_at hl 1 rfl) ?_
  have hPc := hP.sub (ws' := []) [] rfl
  have hDc := hD.sub (ws' := []) [] (by decide) rfl
  have hKc := hK.sub (tys' := []) [] rfl
  have hFc := va_free (wc := []) hD hS hA [] rfl
  refine va_calli (va_runS (As := [.ref (zV 2), .int 6]) (rest := []) ⟨hx, hb, hml, hown, hts⟩ (k_lchar2_6 l dC dI z zK zV  H.size) (va_cwS 2 hts gJ0_charAt_5068e_J1_charAt_3b067 rfl rfl rfl (by decide +kernel) ⟨Nat.le_of_ble_eq_true rfl, Nat.le_of_ble_eq_true rfl⟩) ⟨kP_blind, kP_go hPc hKc hDc hFc hM hS⟩ rfl rfl hl.1 rfl (lv_room (Nat.le_of_ble_eq_true rfl)) dJ0_charAt_5068e_12 ⟨Nat.le_of_ble_eq_true rfl, Nat.le_of_ble_eq_true rfl⟩) hS (fun q _ h => hFc q h) hFc (fun r2 u t H1 locs ht hvm hw hB hz1 hk1 hS => ?_)
  obtain ⟨hP, hD, hK⟩ := kJ (wr := []) (w1 := []) (t1 := []) hP hD hK [] [] rfl rfl (by decide) (by decide) hk1 hFc ht hvm hB
  generalize H1 = H at hP hS ⊢
  have hP : va_P (dC, dI) vwCl [] H := hP
  have hD : va_D A [] := hD
  have hK : va_K (dC, dI) vwCl [] s := hK
  obtain rfl : 50 = r2 := hw
  exact W.zret (v := 50) hx hb hr (by decide +kernel) (fun t ht hW => ⟨⟨50, (), rfl, rfl, kB_end (w9 := []) (t9 := []) hP hK hD [] [] rfl (by decide) rfl rfl t ht hW⟩, hS.F ht⟩) hS.2.2 dJ0_charAt_5068e_15
abbrev wd_k_digit2_6 (_z : Nat → Nat) : va_W := []
set_option maxHeartbeats 4000000 in
set_option maxRecDepth 100000 in
theorem k_digit2_6 (l : Launch) (dC : Nat → ClassId) (dI : Nat → Nat → Nat) (z zK zV : Nat → Nat)  (sz : Nat)  : Met l yX15_digit wsX15_digit ({ frames := 4, cells := 0, slots := 0, locals := 85 }) (kP dC dI z zK zV [.ref (zK 2), .int 6] sz (wd_k_digit2_6 z) []) (va_Qi (fun (r : Int32) (_ : Unit) => 2 = r) (fun _ t => kB (dC, dI) (va_A (wd_k_digit2_6 z) sz) [] [] t) (va_A (wd_k_digit2_6 z) sz)) 0 0 (va_A (wd_k_digit2_6 z) sz) := by
  refine Met.ofW (cc := cX15_digit) (maxL := 3) (ret := (some .int)) (by decide) rfl ?_
  intro p e s m args below meth c s₁ B hml hv
  obtain ⟨rfl, hsz, hP, hK, hD0, hM⟩ := hv
  have hx := B.exec
  have hb := B.bytes
  have hr := B.returns
  have hts := atoms_spec (ws := wsX15_digit) B.pre
  have hown : s.vm.findClass RX15 = some m.cls := findClass_of_methodNamed B.named
  have hlocks := B.notSynchronized
  subst hsz
  have hD := hD0.self (sz := s.heap.size)
  generalize hAe : va_A (wd_k_digit2_6 z) s.heap.size = A at hD hM ⊢
  have hA : ∀ q : Nat, s.heap.size ≤ q → A q := fun q h => by rw [← hAe]; exact Or.inr h
  have hS : va_S A s.heap s.heap [] := va_S.rf
  have hP : va_P (dC, dI) vwCl [] s.heap := hP
  have hD : va_D A [] := hD
  have hl := lv_entry ([.ref (zK 2), .int 6]) (n := 3) (Nat.le_of_ble_eq_true rfl)
  rw [lg_entry_eq]
  generalize (lg_sl ([.ref (zK 2), .int 6]) ++ List.replicate (3 - (lg_sl ([.ref (zK 2), .int 6])).length) Slot.unset).toArray = ls at hl ⊢
  have hl : lv_has ls 3 [(0, .ref (zK 2)), (1, .int 6)] := hl
  refine lv_aload_n hx hb dX15_digit_0 rfl (lv_at hl 0 rfl) ?_
  refine lv_iload_n hx hb dX15_digit_1 rfl (lv_at hl 1 rfl) ?_
  have hPc := hP.sub (ws' := []) [] rfl
  have hDc := hD.sub (ws' := []) [] (by decide) rfl
  have hKc := hK.sub (tys' := []) [] rfl
  have hFc := va_free (wc := []) hD hS hA [] rfl
  refine va_calli (va_runV (As := [.int 6]) (rest := []) ⟨hx, hb, hml, hown, hts⟩ (k_char2_6 l dC dI z zK zV  s.heap.size) (cwV 1 hts gX15_digit_J0_charAt_5068e rfl rfl rfl (by decide +kernel) ⟨Nat.le_of_ble_eq_true rfl, Nat.le_of_ble_eq_true rfl⟩) ⟨kP_blind, vk_recv (i := 2) hM.2.2.2.1 (by decide) hS, kP_go hPc hKc hDc hFc hM hS⟩ rfl rfl hl.1 rfl (lv_room (Nat.le_of_ble_eq_true rfl)) dX15_digit_2 ⟨Nat.le_of_ble_eq_true rfl, Nat.le_of_ble_eq_true rfl⟩) hS (fun q _ h => hFc q h) hFc (fun r1 u t H1 locs ht hvm hw hB hz1 hk1 hS => ?_)
  obtain ⟨hP, hD, hK⟩ := kJ (wr := []) (w1 := []) (t1 := []) hP hD hK [] [] rfl rfl (by decide) (by decide) hk1 hFc ht hvm hB
  generalize H1 = H at hP hS ⊢
  have hP : va_P (dC, dI) vwCl [] H := hP
  have hD : va_D A [] := hD
  have hK : va_K (dC, dI) vwCl [] s := hK
  obtain rfl : 50 = r1 := hw
  refine lv_istore_n (lv' := [(2, .int 50), (0, .ref (zK 2)), (1, .int 6)]) hx hb dX15_digit_5 rfl hl (by decide) rfl (fun ls hl => ?_)
  refine lv_iload_n hx hb dX15_digit_6 rfl (lv_at hl 0 rfl) ?_
  refine lv_bipush (v := 65) hx hb dX15_digit_7 (by decide) ?_
  refine lv_icmp_ne (tgt := 17) hx hb dX15_digit_9 (by decide) (fun _ => ?_) (fun c_ => absurd c_ (by decide +kernel))
  refine lv_iload_n hx hb dX15_digit_17 rfl (lv_at hl 0 rfl) ?_
  refine lv_bipush (v := 48) hx hb dX15_digit_18 (by decide) ?_
  refine lv_isub hx hb dX15_digit_20 ?_
  refine kc_i (y := 2) (by decide +kernel) ?_
  exact W.iret (v := 2) hx hb hr (fun t ht hW => ⟨⟨2, (), rfl, rfl, kB_end (w9 := []) (t9 := []) hP hK hD [] [] rfl (by decide) rfl rfl t ht hW⟩, hS.F ht⟩) hS.2.2 dX15_digit_21
abbrev wd_k_lchar2_7 (_z : Nat → Nat) : va_W := []
set_option maxHeartbeats 4000000 in
set_option maxRecDepth 100000 in
theorem k_lchar2_7 (l : Launch) (dC : Nat → ClassId) (dI : Nat → Nat → Nat) (z zK zV : Nat → Nat)  (sz : Nat)  : Met l yJ1_charAt_3b067 wsJ1_charAt_3b067 ({ frames := 2, cells := 0, slots := 0, locals := 43 }) (kP dC dI z zK zV [.ref (zV 2), .int 7] sz (wd_k_lchar2_7 z) []) (va_Qi (fun (r : Int32) (_ : Unit) => 48 = r) (fun _ t => kB (dC, dI) (va_A (wd_k_lchar2_7 z) sz) [] [] t) (va_A (wd_k_lchar2_7 z) sz)) 0 0 (va_A (wd_k_lchar2_7 z) sz) := by
  refine Met.ofW (cc := cJ1_charAt_3b067) (maxL := 2) (ret := (some .char)) (by decide) rfl ?_
  intro p e s m args below meth c s₁ B hml hv
  obtain ⟨rfl, hsz, hP, hK, hD0, hM⟩ := hv
  have hx := B.exec
  have hb := B.bytes
  have hr := B.returns
  have hts := atoms_spec (ws := wsJ1_charAt_3b067) B.pre
  have hown : s.vm.findClass RJ1 = some m.cls := findClass_of_methodNamed B.named
  have hlocks := B.notSynchronized
  subst hsz
  have hD := hD0.self (sz := s.heap.size)
  generalize hAe : va_A (wd_k_lchar2_7 z) s.heap.size = A at hD hM ⊢
  have hA : ∀ q : Nat, s.heap.size ≤ q → A q := fun q h => by rw [← hAe]; exact Or.inr h
  have hS : va_S A s.heap s.heap [] := va_S.rf
  have hP : va_P (dC, dI) vwCl [] s.heap := hP
  have hD : va_D A [] := hD
  have hl := lv_entry ([.ref (zV 2), .int 7]) (n := 2) (Nat.le_of_ble_eq_true rfl)
  rw [lg_entry_eq]
  generalize (lg_sl ([.ref (zV 2), .int 7]) ++ List.replicate (2 - (lg_sl ([.ref (zV 2), .int 7])).length) Slot.unset).toArray = ls at hl ⊢
  have hl : lv_has ls 2 [(0, .ref (zV 2)), (1, .int 7)] := hl
  refine lv_iload_n hx hb dJ1_charAt_3b067_0 rfl (lv_at hl 1 rfl) ?_
  refine lv_aload_n hx hb dJ1_charAt_3b067_1 rfl (lv_at hl 0 rfl) ?_
  refine va_tlen (v := 9) hx hb ((hM.2.2.2.1.1 2 (by decide)).2.2.2) hS rfl dJ1_charAt_3b067_2 ?_
  have hPc := hP.sub (ws' := []) [] rfl
  have hDc := hD.sub (ws' := []) [] (by decide) rfl
  have hKc := hK.sub (tys' := []) [] rfl
  have hFc := va_free (wc := []) hD hS hA [] rfl
  refine va_callv (va_runS (As := [.int 7, .int 9]) (rest := []) ⟨hx, hb, hml, hown, hts⟩ (k_schk_7 l dC dI z zK zV  s.heap.size) (va_cwS 2 hts gJ1_charAt_3b067_J0_checkIndex_df160 rfl rfl rfl (by decide +kernel) ⟨Nat.le_of_ble_eq_true rfl, Nat.le_of_ble_eq_true rfl⟩) ⟨kP_blind, kP_go hPc hKc hDc hFc hM hS⟩ rfl rfl hl.1 rfl (lv_room (Nat.le_of_ble_eq_true rfl)) dJ1_charAt_3b067_3 ⟨Nat.le_of_ble_eq_true rfl, Nat.le_of_ble_eq_true rfl⟩) hS (fun q _ h => hFc q h) hFc (fun u t H1 locs ht hvm hw hB hz1 hk1 hS => ?_)
  obtain ⟨hP, hD, hK⟩ := kJ (wr := []) (w1 := []) (t1 := []) hP hD hK [] [] rfl rfl (by decide) (by decide) hk1 hFc ht hvm hB
  generalize H1 = H at hP hS ⊢
  have hP : va_P (dC, dI) vwCl [] H := hP
  have hD : va_D A [] := hD
  have hK : va_K (dC, dI) vwCl [] s := hK
  clear hw
  refine lv_aload_n hx hb dJ1_charAt_3b067_6 rfl (lv_at hl 0 rfl) ?_
  refine lv_iload_n hx hb dJ1_charAt_3b067_7 rfl (lv_at hl 1 rfl) ?_
  refine va_tb (v := .int 48) hx hb ((hM.2.2.2.1.1 2 (by decide)).2.2.2) hS (pk_in 7 9 (by decide) rfl) rfl dJ1_charAt_3b067_8 ?_
  refine lv_sipush (v := 255) hx hb dJ1_charAt_3b067_9 (by decide) ?_
  refine lv_iand hx hb dJ1_charAt_3b067_12 ?_
  refine kc_i (y := 48) (by decide +kernel) ?_
  refine lv_i2c (v := 48) hx hb dJ1_charAt_3b067_13 (by decide +kernel) ?_
  exact W.zret (v := 48) hx hb hr (by decide +kernel) (fun t ht hW => ⟨⟨48, (), rfl, rfl, kB_end (w9 := []) (t9 := []) hP hK hD [] [] rfl (by decide) rfl rfl t ht hW⟩, hS.F ht⟩) hS.2.2 dJ1_charAt_3b067_14
abbrev wd_k_char2_7 (_z : Nat → Nat) : va_W := []
set_option maxHeartbeats 4000000 in
set_option maxRecDepth 100000 in
theorem k_char2_7 (l : Launch) (dC : Nat → ClassId) (dI : Nat → Nat → Nat) (z zK zV : Nat → Nat)  (sz : Nat)  : Met l yJ0_charAt_5068e wsJ0_charAt_5068e ({ frames := 3, cells := 0, slots := 0, locals := 64 }) (kP dC dI z zK zV [.ref (zK 2), .int 7] sz (wd_k_char2_7 z) []) (va_Qi (fun (r : Int32) (_ : Unit) => 48 = r) (fun _ t => kB (dC, dI) (va_A (wd_k_char2_7 z) sz) [] [] t) (va_A (wd_k_char2_7 z) sz)) 0 0 (va_A (wd_k_char2_7 z) sz) := by
  refine Met.ofW (cc := cJ0_charAt_5068e) (maxL := 2) (ret := (some .char)) (by decide) rfl ?_
  intro p e s m args below meth c s₁ B hml hv
  obtain ⟨rfl, hsz, hP, hK, hD0, hM⟩ := hv
  have hx := B.exec
  have hb := B.bytes
  have hr := B.returns
  have hts := atoms_spec (ws := wsJ0_charAt_5068e) B.pre
  have hown : s.vm.findClass RJ0 = some m.cls := findClass_of_methodNamed B.named
  have hlocks := B.notSynchronized
  subst hsz
  have hD := hD0.self (sz := s.heap.size)
  generalize hAe : va_A (wd_k_char2_7 z) s.heap.size = A at hD hM ⊢
  have hA : ∀ q : Nat, s.heap.size ≤ q → A q := fun q h => by rw [← hAe]; exact Or.inr h
  have hS : va_S A s.heap s.heap [] := va_S.rf
  have hP : va_P (dC, dI) vwCl [] s.heap := hP
  have hD : va_D A [] := hD
  have hl := lv_entry ([.ref (zK 2), .int 7]) (n := 2) (Nat.le_of_ble_eq_true rfl)
  rw [lg_entry_eq]
  generalize (lg_sl ([.ref (zK 2), .int 7]) ++ List.replicate (2 - (lg_sl ([.ref (zK 2), .int 7])).length) Slot.unset).toArray = ls at hl ⊢
  have hl : lv_has ls 2 [(0, .ref (zK 2)), (1, .int 7)] := hl
  refine lv_aload_n hx hb dJ0_charAt_5068e_0 rfl (lv_at hl 0 rfl) ?_
  have hPc := hP.sub (ws' := []) [] rfl
  have hDc := hD.sub (ws' := []) [] (by decide) rfl
  have hKc := hK.sub (tys' := []) [] rfl
  have hFc := va_free (wc := []) hD hS hA [] rfl
  refine va_calli (va_runV (As := []) (rest := []) ⟨hx, hb, hml, hown, hts⟩ (k_isLatin2 l dC dI z zK zV  s.heap.size) (cwV 0 hts gJ0_charAt_5068e_J0_isLatin1_aae02 rfl rfl rfl (by decide +kernel) ⟨Nat.le_of_ble_eq_true rfl, Nat.le_of_ble_eq_true rfl⟩) ⟨kP_blind, vk_recv (i := 2) hM.2.2.2.1 (by decide) hS, kP_go hPc hKc hDc hFc hM hS⟩ rfl rfl hl.1 rfl (lv_room (Nat.le_of_ble_eq_true rfl)) dJ0_charAt_5068e_1 ⟨Nat.le_of_ble_eq_true rfl, Nat.le_of_ble_eq_true rfl⟩) hS (fun q _ h => hFc q h) hFc (fun r1 u t H1 locs ht hvm hw hB hz1 hk1 hS => ?_)
  obtain ⟨hP, hD, hK⟩ := kJ (wr := []) (w1 := []) (t1 := []) hP hD hK [] [] rfl rfl (by decide) (by decide) hk1 hFc ht hvm hB
  generalize H1 = H at hP hS ⊢
  have hP : va_P (dC, dI) vwCl [] H := hP
  have hD : va_D A [] := hD
  have hK : va_K (dC, dI) vwCl [] s := hK
  obtain rfl : 1 = r1 := hw
  refine lv_if_eq (tgt := 16) hx hb dJ0_charAt_5068e_4 (by decide) (fun c_ => absurd c_ (by decide +kernel)) (fun _ => ?_)
  refine lv_aload_n hx hb dJ0_charAt_5068e_7 rfl (lv_at hl 0 rfl) ?_
  refine vk_getf (v := .ref (zV 2)) hx hb (hM.2.2.2.1.1 2 (by decide)).2.2.1 hS hown (hts (.fieldLink RJ0 9 "java/lang/String" "value" "[B") (by decide +kernel)) (fun _ h9 => h9) dJ0_charAt_5068e_8 ?_
  refine lv_iload_n hx hb dJ0_charAt_5068e_11 rfl (lv_at hl 1 rfl) ?_
  have hPc := hP.sub (ws' := []) [] rfl
  have hDc := hD.sub (ws' := []) [] (by decide) rfl
  have hKc := hK.sub (tys' := []) [] rfl
  have hFc := va_free (wc := []) hD hS hA [] rfl
  refine va_calli (va_runS (As := [.ref (zV 2), .int 7]) (rest := []) ⟨hx, hb, hml, hown, hts⟩ (k_lchar2_7 l dC dI z zK zV  H.size) (va_cwS 2 hts gJ0_charAt_5068e_J1_charAt_3b067 rfl rfl rfl (by decide +kernel) ⟨Nat.le_of_ble_eq_true rfl, Nat.le_of_ble_eq_true rfl⟩) ⟨kP_blind, kP_go hPc hKc hDc hFc hM hS⟩ rfl rfl hl.1 rfl (lv_room (Nat.le_of_ble_eq_true rfl)) dJ0_charAt_5068e_12 ⟨Nat.le_of_ble_eq_true rfl, Nat.le_of_ble_eq_true rfl⟩) hS (fun q _ h => hFc q h) hFc (fun r2 u t H1 locs ht hvm hw hB hz1 hk1 hS => ?_)
  obtain ⟨hP, hD, hK⟩ := kJ (wr := []) (w1 := []) (t1 := []) hP hD hK [] [] rfl rfl (by decide) (by decide) hk1 hFc ht hvm hB
  generalize H1 = H at hP hS ⊢
  have hP : va_P (dC, dI) vwCl [] H := hP
  have hD : va_D A [] := hD
  have hK : va_K (dC, dI) vwCl [] s := hK
  obtain rfl : 48 = r2 := hw
  exact W.zret (v := 48) hx hb hr (by decide +kernel) (fun t ht hW => ⟨⟨48, (), rfl, rfl, kB_end (w9 := []) (t9 := []) hP hK hD [] [] rfl (by decide) rfl rfl t ht hW⟩, hS.F ht⟩) hS.2.2 dJ0_charAt_5068e_15
abbrev wd_k_digit2_7 (_z : Nat → Nat) : va_W := []
set_option maxHeartbeats 4000000 in
set_option maxRecDepth 100000 in
theorem k_digit2_7 (l : Launch) (dC : Nat → ClassId) (dI : Nat → Nat → Nat) (z zK zV : Nat → Nat)  (sz : Nat)  : Met l yX15_digit wsX15_digit ({ frames := 4, cells := 0, slots := 0, locals := 85 }) (kP dC dI z zK zV [.ref (zK 2), .int 7] sz (wd_k_digit2_7 z) []) (va_Qi (fun (r : Int32) (_ : Unit) => 0 = r) (fun _ t => kB (dC, dI) (va_A (wd_k_digit2_7 z) sz) [] [] t) (va_A (wd_k_digit2_7 z) sz)) 0 0 (va_A (wd_k_digit2_7 z) sz) := by
  refine Met.ofW (cc := cX15_digit) (maxL := 3) (ret := (some .int)) (by decide) rfl ?_
  intro p e s m args below meth c s₁ B hml hv
  obtain ⟨rfl, hsz, hP, hK, hD0, hM⟩ := hv
  have hx := B.exec
  have hb := B.bytes
  have hr := B.returns
  have hts := atoms_spec (ws := wsX15_digit) B.pre
  have hown : s.vm.findClass RX15 = some m.cls := findClass_of_methodNamed B.named
  have hlocks := B.notSynchronized
  subst hsz
  have hD := hD0.self (sz := s.heap.size)
  generalize hAe : va_A (wd_k_digit2_7 z) s.heap.size = A at hD hM ⊢
  have hA : ∀ q : Nat, s.heap.size ≤ q → A q := fun q h => by rw [← hAe]; exact Or.inr h
  have hS : va_S A s.heap s.heap [] := va_S.rf
  have hP : va_P (dC, dI) vwCl [] s.heap := hP
  have hD : va_D A [] := hD
  have hl := lv_entry ([.ref (zK 2), .int 7]) (n := 3) (Nat.le_of_ble_eq_true rfl)
  rw [lg_entry_eq]
  generalize (lg_sl ([.ref (zK 2), .int 7]) ++ List.replicate (3 - (lg_sl ([.ref (zK 2), .int 7])).length) Slot.unset).toArray = ls at hl ⊢
  have hl : lv_has ls 3 [(0, .ref (zK 2)), (1, .int 7)] := hl
  refine lv_aload_n hx hb dX15_digit_0 rfl (lv_at hl 0 rfl) ?_
  refine lv_iload_n hx hb dX15_digit_1 rfl (lv_at hl 1 rfl) ?_
  have hPc := hP.sub (ws' := []) [] rfl
  have hDc := hD.sub (ws' := []) [] (by decide) rfl
  have hKc := hK.sub (tys' := []) [] rfl
  have hFc := va_free (wc := []) hD hS hA [] rfl
  refine va_calli (va_runV (As := [.int 7]) (rest := []) ⟨hx, hb, hml, hown, hts⟩ (k_char2_7 l dC dI z zK zV  s.heap.size) (cwV 1 hts gX15_digit_J0_charAt_5068e rfl rfl rfl (by decide +kernel) ⟨Nat.le_of_ble_eq_true rfl, Nat.le_of_ble_eq_true rfl⟩) ⟨kP_blind, vk_recv (i := 2) hM.2.2.2.1 (by decide) hS, kP_go hPc hKc hDc hFc hM hS⟩ rfl rfl hl.1 rfl (lv_room (Nat.le_of_ble_eq_true rfl)) dX15_digit_2 ⟨Nat.le_of_ble_eq_true rfl, Nat.le_of_ble_eq_true rfl⟩) hS (fun q _ h => hFc q h) hFc (fun r1 u t H1 locs ht hvm hw hB hz1 hk1 hS => ?_)
  obtain ⟨hP, hD, hK⟩ := kJ (wr := []) (w1 := []) (t1 := []) hP hD hK [] [] rfl rfl (by decide) (by decide) hk1 hFc ht hvm hB
  generalize H1 = H at hP hS ⊢
  have hP : va_P (dC, dI) vwCl [] H := hP
  have hD : va_D A [] := hD
  have hK : va_K (dC, dI) vwCl [] s := hK
  obtain rfl : 48 = r1 := hw
  refine lv_istore_n (lv' := [(2, .int 48), (0, .ref (zK 2)), (1, .int 7)]) hx hb dX15_digit_5 rfl hl (by decide) rfl (fun ls hl => ?_)
  refine lv_iload_n hx hb dX15_digit_6 rfl (lv_at hl 0 rfl) ?_
  refine lv_bipush (v := 65) hx hb dX15_digit_7 (by decide) ?_
  refine lv_icmp_ne (tgt := 17) hx hb dX15_digit_9 (by decide) (fun _ => ?_) (fun c_ => absurd c_ (by decide +kernel))
  refine lv_iload_n hx hb dX15_digit_17 rfl (lv_at hl 0 rfl) ?_
  refine lv_bipush (v := 48) hx hb dX15_digit_18 (by decide) ?_
  refine lv_isub hx hb dX15_digit_20 ?_
  refine kc_i (y := 0) (by decide +kernel) ?_
  exact W.iret (v := 0) hx hb hr (fun t ht hW => ⟨⟨0, (), rfl, rfl, kB_end (w9 := []) (t9 := []) hP hK hD [] [] rfl (by decide) rfl rfl t ht hW⟩, hS.F ht⟩) hS.2.2 dX15_digit_21
abbrev wd_k_lchar2_8 (_z : Nat → Nat) : va_W := []
set_option maxHeartbeats 4000000 in
set_option maxRecDepth 100000 in
theorem k_lchar2_8 (l : Launch) (dC : Nat → ClassId) (dI : Nat → Nat → Nat) (z zK zV : Nat → Nat)  (sz : Nat)  : Met l yJ1_charAt_3b067 wsJ1_charAt_3b067 ({ frames := 2, cells := 0, slots := 0, locals := 43 }) (kP dC dI z zK zV [.ref (zV 2), .int 8] sz (wd_k_lchar2_8 z) []) (va_Qi (fun (r : Int32) (_ : Unit) => 50 = r) (fun _ t => kB (dC, dI) (va_A (wd_k_lchar2_8 z) sz) [] [] t) (va_A (wd_k_lchar2_8 z) sz)) 0 0 (va_A (wd_k_lchar2_8 z) sz) := by
  refine Met.ofW (cc := cJ1_charAt_3b067) (maxL := 2) (ret := (some .char)) (by decide) rfl ?_
  intro p e s m args below meth c s₁ B hml hv
  obtain ⟨rfl, hsz, hP, hK, hD0, hM⟩ := hv
  have hx := B.exec
  have hb := B.bytes
  have hr := B.returns
  have hts := atoms_spec (ws := wsJ1_charAt_3b067) B.pre
  have hown : s.vm.findClass RJ1 = some m.cls := findClass_of_methodNamed B.named
  have hlocks := B.notSynchronized
  subst hsz
  have hD := hD0.self (sz := s.heap.size)
  generalize hAe : va_A (wd_k_lchar2_8 z) s.heap.size = A at hD hM ⊢
  have hA : ∀ q : Nat, s.heap.size ≤ q → A q := fun q h => by rw [← hAe]; exact Or.inr h
  have hS : va_S A s.heap s.heap [] := va_S.rf
  have hP : va_P (dC, dI) vwCl [] s.heap := hP
  have hD : va_D A [] := hD
  have hl := lv_entry ([.ref (zV 2), .int 8]) (n := 2) (Nat.le_of_ble_eq_true rfl)
  rw [lg_entry_eq]
  generalize (lg_sl ([.ref (zV 2), .int 8]) ++ List.replicate (2 - (lg_sl ([.ref (zV 2), .int 8])).length) Slot.unset).toArray = ls at hl ⊢
  have hl : lv_has ls 2 [(0, .ref (zV 2)), (1, .int 8)] := hl
  refine lv_iload_n hx hb dJ1_charAt_3b067_0 rfl (lv_at hl 1 rfl) ?_
  refine lv_aload_n hx hb dJ1_charAt_3b067_1 rfl (lv_at hl 0 rfl) ?_
  refine va_tlen (v := 9) hx hb ((hM.2.2.2.1.1 2 (by decide)).2.2.2) hS rfl dJ1_charAt_3b067_2 ?_
  have hPc := hP.sub (ws' := []) [] rfl
  have hDc := hD.sub (ws' := []) [] (by decide) rfl
  have hKc := hK.sub (tys' := []) [] rfl
  have hFc := va_free (wc := []) hD hS hA [] rfl
  refine va_callv (va_runS (As := [.int 8, .int 9]) (rest := []) ⟨hx, hb, hml, hown, hts⟩ (k_schk_8 l dC dI z zK zV  s.heap.size) (va_cwS 2 hts gJ1_charAt_3b067_J0_checkIndex_df160 rfl rfl rfl (by decide +kernel) ⟨Nat.le_of_ble_eq_true rfl, Nat.le_of_ble_eq_true rfl⟩) ⟨kP_blind, kP_go hPc hKc hDc hFc hM hS⟩ rfl rfl hl.1 rfl (lv_room (Nat.le_of_ble_eq_true rfl)) dJ1_charAt_3b067_3 ⟨Nat.le_of_ble_eq_true rfl, Nat.le_of_ble_eq_true rfl⟩) hS (fun q _ h => hFc q h) hFc (fun u t H1 locs ht hvm hw hB hz1 hk1 hS => ?_)
  obtain ⟨hP, hD, hK⟩ := kJ (wr := []) (w1 := []) (t1 := []) hP hD hK [] [] rfl rfl (by decide) (by decide) hk1 hFc ht hvm hB
  generalize H1 = H at hP hS ⊢
  have hP : va_P (dC, dI) vwCl [] H := hP
  have hD : va_D A [] := hD
  have hK : va_K (dC, dI) vwCl [] s := hK
  clear hw
  refine lv_aload_n hx hb dJ1_charAt_3b067_6 rfl (lv_at hl 0 rfl) ?_
  refine lv_iload_n hx hb dJ1_charAt_3b067_7 rfl (lv_at hl 1 rfl) ?_
  refine va_tb (v := .int 50) hx hb ((hM.2.2.2.1.1 2 (by decide)).2.2.2) hS (pk_in 8 9 (by decide) rfl) rfl dJ1_charAt_3b067_8 ?_
  refine lv_sipush (v := 255) hx hb dJ1_charAt_3b067_9 (by decide) ?_
  refine lv_iand hx hb dJ1_charAt_3b067_12 ?_
  refine kc_i (y := 50) (by decide +kernel) ?_
  refine lv_i2c (v := 50) hx hb dJ1_charAt_3b067_13 (by decide +kernel) ?_
  exact W.zret (v := 50) hx hb hr (by decide +kernel) (fun t ht hW => ⟨⟨50, (), rfl, rfl, kB_end (w9 := []) (t9 := []) hP hK hD [] [] rfl (by decide) rfl rfl t ht hW⟩, hS.F ht⟩) hS.2.2 dJ1_charAt_3b067_14
abbrev wd_k_char2_8 (_z : Nat → Nat) : va_W := []
set_option maxHeartbeats 4000000 in
set_option maxRecDepth 100000 in
theorem k_char2_8 (l : Launch) (dC : Nat → ClassId) (dI : Nat → Nat → Nat) (z zK zV : Nat → Nat)  (sz : Nat)  : Met l yJ0_charAt_5068e wsJ0_charAt_5068e ({ frames := 3, cells := 0, slots := 0, locals := 64 }) (kP dC dI z zK zV [.ref (zK 2), .int 8] sz (wd_k_char2_8 z) []) (va_Qi (fun (r : Int32) (_ : Unit) => 50 = r) (fun _ t => kB (dC, dI) (va_A (wd_k_char2_8 z) sz) [] [] t) (va_A (wd_k_char2_8 z) sz)) 0 0 (va_A (wd_k_char2_8 z) sz) := by
  refine Met.ofW (cc := cJ0_charAt_5068e) (maxL := 2) (ret := (some .char)) (by decide) rfl ?_
  intro p e s m args below meth c s₁ B hml hv
  obtain ⟨rfl, hsz, hP, hK, hD0, hM⟩ := hv
  have hx := B.exec
  have hb := B.bytes
  have hr := B.returns
  have hts := atoms_spec (ws := wsJ0_charAt_5068e) B.pre
  have hown : s.vm.findClass RJ0 = some m.cls := findClass_of_methodNamed B.named
  have hlocks := B.notSynchronized
  subst hsz
  have hD := hD0.self (sz := s.heap.size)
  generalize hAe : va_A (wd_k_char2_8 z) s.heap.size = A at hD hM ⊢
  have hA : ∀ q : Nat, s.heap.size ≤ q → A q := fun q h => by rw [← hAe]; exact Or.inr h
  have hS : va_S A s.heap s.heap [] := va_S.rf
  have hP : va_P (dC, dI) vwCl [] s.heap := hP
  have hD : va_D A [] := hD
  have hl := lv_entry ([.ref (zK 2), .int 8]) (n := 2) (Nat.le_of_ble_eq_true rfl)
  rw [lg_entry_eq]
  generalize (lg_sl ([.ref (zK 2), .int 8]) ++ List.replicate (2 - (lg_sl ([.ref (zK 2), .int 8])).length) Slot.unset).toArray = ls at hl ⊢
  have hl : lv_has ls 2 [(0, .ref (zK 2)), (1, .int 8)] := hl
  refine lv_aload_n hx hb dJ0_charAt_5068e_0 rfl (lv_at hl 0 rfl) ?_
  have hPc := hP.sub (ws' := []) [] rfl
  have hDc := hD.sub (ws' := []) [] (by decide) rfl
  have hKc := hK.sub (tys' := []) [] rfl
  have hFc := va_free (wc := []) hD hS hA [] rfl
  refine va_calli (va_runV (As := []) (rest := []) ⟨hx, hb, hml, hown, hts⟩ (k_isLatin2 l dC dI z zK zV  s.heap.size) (cwV 0 hts gJ0_charAt_5068e_J0_isLatin1_aae02 rfl rfl rfl (by decide +kernel) ⟨Nat.le_of_ble_eq_true rfl, Nat.le_of_ble_eq_true rfl⟩) ⟨kP_blind, vk_recv (i := 2) hM.2.2.2.1 (by decide) hS, kP_go hPc hKc hDc hFc hM hS⟩ rfl rfl hl.1 rfl (lv_room (Nat.le_of_ble_eq_true rfl)) dJ0_charAt_5068e_1 ⟨Nat.le_of_ble_eq_true rfl, Nat.le_of_ble_eq_true rfl⟩) hS (fun q _ h => hFc q h) hFc (fun r1 u t H1 locs ht hvm hw hB hz1 hk1 hS => ?_)
  obtain ⟨hP, hD, hK⟩ := kJ (wr := []) (w1 := []) (t1 := []) hP hD hK [] [] rfl rfl (by decide) (by decide) hk1 hFc ht hvm hB
  generalize H1 = H at hP hS ⊢
  have hP : va_P (dC, dI) vwCl [] H := hP
  have hD : va_D A [] := hD
  have hK : va_K (dC, dI) vwCl [] s := hK
  obtain rfl : 1 = r1 := hw
  refine lv_if_eq (tgt := 16) hx hb dJ0_charAt_5068e_4 (by decide) (fun c_ => absurd c_ (by decide +kernel)) (fun _ => ?_)
  refine lv_aload_n hx hb dJ0_charAt_5068e_7 rfl (lv_at hl 0 rfl) ?_
  refine vk_getf (v := .ref (zV 2)) hx hb (hM.2.2.2.1.1 2 (by decide)).2.2.1 hS hown (hts (.fieldLink RJ0 9 "java/lang/String" "value" "[B") (by decide +kernel)) (fun _ h9 => h9) dJ0_charAt_5068e_8 ?_
  refine lv_iload_n hx hb dJ0_charAt_5068e_11 rfl (lv_at hl 1 rfl) ?_
  have hPc := hP.sub (ws' := []) [] rfl
  have hDc := hD.sub (ws' := []) [] (by decide) rfl
  have hKc := hK.sub (tys' := []) [] rfl
  have hFc := va_free (wc := []) hD hS hA [] rfl
  refine va_calli (va_runS (As := [.ref (zV 2), .int 8]) (rest := []) ⟨hx, hb, hml, hown, hts⟩ (k_lchar2_8 l dC dI z zK zV  H.size) (va_cwS 2 hts gJ0_charAt_5068e_J1_charAt_3b067 rfl rfl rfl (by decide +kernel) ⟨Nat.le_of_ble_eq_true rfl, Nat.le_of_ble_eq_true rfl⟩) ⟨kP_blind, kP_go hPc hKc hDc hFc hM hS⟩ rfl rfl hl.1 rfl (lv_room (Nat.le_of_ble_eq_true rfl)) dJ0_charAt_5068e_12 ⟨Nat.le_of_ble_eq_true rfl, Nat.le_of_ble_eq_true rfl⟩) hS (fun q _ h => hFc q h) hFc (fun r2 u t H1 locs ht hvm hw hB hz1 hk1 hS => ?_)
  obtain ⟨hP, hD, hK⟩ := kJ (wr := []) (w1 := []) (t1 := []) hP hD hK [] [] rfl rfl (by decide) (by decide) hk1 hFc ht hvm hB
  generalize H1 = H at hP hS ⊢
  have hP : va_P (dC, dI) vwCl [] H := hP
  have hD : va_D A [] := hD
  have hK : va_K (dC, dI) vwCl [] s := hK
  obtain rfl : 50 = r2 := hw
  exact W.zret (v := 50) hx hb hr (by decide +kernel) (fun t ht hW => ⟨⟨50, (), rfl, rfl, kB_end (w9 := []) (t9 := []) hP hK hD [] [] rfl (by decide) rfl rfl t ht hW⟩, hS.F ht⟩) hS.2.2 dJ0_charAt_5068e_15
abbrev wd_k_digit2_8 (_z : Nat → Nat) : va_W := []
set_option maxHeartbeats 4000000 in
set_option maxRecDepth 100000 in
theorem k_digit2_8 (l : Launch) (dC : Nat → ClassId) (dI : Nat → Nat → Nat) (z zK zV : Nat → Nat)  (sz : Nat)  : Met l yX15_digit wsX15_digit ({ frames := 4, cells := 0, slots := 0, locals := 85 }) (kP dC dI z zK zV [.ref (zK 2), .int 8] sz (wd_k_digit2_8 z) []) (va_Qi (fun (r : Int32) (_ : Unit) => 2 = r) (fun _ t => kB (dC, dI) (va_A (wd_k_digit2_8 z) sz) [] [] t) (va_A (wd_k_digit2_8 z) sz)) 0 0 (va_A (wd_k_digit2_8 z) sz) := by
  refine Met.ofW (cc := cX15_digit) (maxL := 3) (ret := (some .int)) (by decide) rfl ?_
  intro p e s m args below meth c s₁ B hml hv
  obtain ⟨rfl, hsz, hP, hK, hD0, hM⟩ := hv
  have hx := B.exec
  have hb := B.bytes
  have hr := B.returns
  have hts := atoms_spec (ws := wsX15_digit) B.pre
  have hown : s.vm.findClass RX15 = some m.cls := findClass_of_methodNamed B.named
  have hlocks := B.notSynchronized
  subst hsz
  have hD := hD0.self (sz := s.heap.size)
  generalize hAe : va_A (wd_k_digit2_8 z) s.heap.size = A at hD hM ⊢
  have hA : ∀ q : Nat, s.heap.size ≤ q → A q := fun q h => by rw [← hAe]; exact Or.inr h
  have hS : va_S A s.heap s.heap [] := va_S.rf
  have hP : va_P (dC, dI) vwCl [] s.heap := hP
  have hD : va_D A [] := hD
  have hl := lv_entry ([.ref (zK 2), .int 8]) (n := 3) (Nat.le_of_ble_eq_true rfl)
  rw [lg_entry_eq]
  generalize (lg_sl ([.ref (zK 2), .int 8]) ++ List.replicate (3 - (lg_sl ([.ref (zK 2), .int 8])).length) Slot.unset).toArray = ls at hl ⊢
  have hl : lv_has ls 3 [(0, .ref (zK 2)), (1, .int 8)] := hl
  refine lv_aload_n hx hb dX15_digit_0 rfl (lv_at hl 0 rfl) ?_
  refine lv_iload_n hx hb dX15_digit_1 rfl (lv_at hl 1 rfl) ?_
  have hPc := hP.sub (ws' := []) [] rfl
  have hDc := hD.sub (ws' := []) [] (by decide) rfl
  have hKc := hK.sub (tys' := []) [] rfl
  have hFc := va_free (wc := []) hD hS hA [] rfl
  refine va_calli (va_runV (As := [.int 8]) (rest := []) ⟨hx, hb, hml, hown, hts⟩ (k_char2_8 l dC dI z zK zV  s.heap.size) (cwV 1 hts gX15_digit_J0_charAt_5068e rfl rfl rfl (by decide +kernel) ⟨Nat.le_of_ble_eq_true rfl, Nat.le_of_ble_eq_true rfl⟩) ⟨kP_blind, vk_recv (i := 2) hM.2.2.2.1 (by decide) hS, kP_go hPc hKc hDc hFc hM hS⟩ rfl rfl hl.1 rfl (lv_room (Nat.le_of_ble_eq_true rfl)) dX15_digit_2 ⟨Nat.le_of_ble_eq_true rfl, Nat.le_of_ble_eq_true rfl⟩) hS (fun q _ h => hFc q h) hFc (fun r1 u t H1 locs ht hvm hw hB hz1 hk1 hS => ?_)
  obtain ⟨hP, hD, hK⟩ := kJ (wr := []) (w1 := []) (t1 := []) hP hD hK [] [] rfl rfl (by decide) (by decide) hk1 hFc ht hvm hB
  generalize H1 = H at hP hS ⊢
  have hP : va_P (dC, dI) vwCl [] H := hP
  have hD : va_D A [] := hD
  have hK : va_K (dC, dI) vwCl [] s := hK
  obtain rfl : 50 = r1 := hw
  refine lv_istore_n (lv' := [(2, .int 50), (0, .ref (zK 2)), (1, .int 8)]) hx hb dX15_digit_5 rfl hl (by decide) rfl (fun ls hl => ?_)
  refine lv_iload_n hx hb dX15_digit_6 rfl (lv_at hl 0 rfl) ?_
  refine lv_bipush (v := 65) hx hb dX15_digit_7 (by decide) ?_
  refine lv_icmp_ne (tgt := 17) hx hb dX15_digit_9 (by decide) (fun _ => ?_) (fun c_ => absurd c_ (by decide +kernel))
  refine lv_iload_n hx hb dX15_digit_17 rfl (lv_at hl 0 rfl) ?_
  refine lv_bipush (v := 48) hx hb dX15_digit_18 (by decide) ?_
  refine lv_isub hx hb dX15_digit_20 ?_
  refine kc_i (y := 2) (by decide +kernel) ?_
  exact W.iret (v := 2) hx hb hr (fun t ht hW => ⟨⟨2, (), rfl, rfl, kB_end (w9 := []) (t9 := []) hP hK hD [] [] rfl (by decide) rfl rfl t ht hW⟩, hS.F ht⟩) hS.2.2 dX15_digit_21
abbrev wd_k_mast_0 (_z : Nat → Nat) : va_W := []
set_option maxHeartbeats 4000000 in
set_option maxRecDepth 100000 in
theorem k_mast_0 (l : Launch) (dC : Nat → ClassId) (dI : Nat → Nat → Nat) (z zK zV : Nat → Nat)  (sz : Nat)  : Met l yX15_mast wsX15_mast ({ frames := 5, cells := 0, slots := 0, locals := 107 }) (kP dC dI z zK zV [.int 0] sz (wd_k_mast_0 z) []) (va_Qi (fun (r : Int32) (_ : Unit) => 0 = r) (fun _ t => kB (dC, dI) (va_A (wd_k_mast_0 z) sz) [] [] t) (va_A (wd_k_mast_0 z) sz)) 0 0 (va_A (wd_k_mast_0 z) sz) := by
  refine Met.ofW (cc := cX15_mast) (maxL := 1) (ret := (some .int)) (by decide) rfl ?_
  intro p e s m args below meth c s₁ B hml hv
  obtain ⟨rfl, hsz, hP, hK, hD0, hM⟩ := hv
  have hx := B.exec
  have hb := B.bytes
  have hr := B.returns
  have hts := atoms_spec (ws := wsX15_mast) B.pre
  have hown : s.vm.findClass RX15 = some m.cls := findClass_of_methodNamed B.named
  have hlocks := B.notSynchronized
  subst hsz
  have hD := hD0.self (sz := s.heap.size)
  generalize hAe : va_A (wd_k_mast_0 z) s.heap.size = A at hD hM ⊢
  have hA : ∀ q : Nat, s.heap.size ≤ q → A q := fun q h => by rw [← hAe]; exact Or.inr h
  have hS : va_S A s.heap s.heap [] := va_S.rf
  have hP : va_P (dC, dI) vwCl [] s.heap := hP
  have hD : va_D A [] := hD
  have hl := lv_entry ([.int 0]) (n := 1) (Nat.le_of_ble_eq_true rfl)
  rw [lg_entry_eq]
  generalize (lg_sl ([.int 0]) ++ List.replicate (1 - (lg_sl ([.int 0])).length) Slot.unset).toArray = ls at hl ⊢
  have hl : lv_has ls 1 [(0, .int 0)] := hl
  refine va_ldcS hx hb hown (hM.2.2.1 2 _ rfl) dX15_mast_0 ?_
  refine lv_iload_n hx hb dX15_mast_2 rfl (lv_at hl 0 rfl) ?_
  have hPc := hP.sub (ws' := []) [] rfl
  have hDc := hD.sub (ws' := []) [] (by decide) rfl
  have hKc := hK.sub (tys' := []) [] rfl
  have hFc := va_free (wc := []) hD hS hA [] rfl
  refine va_calli (va_runS (As := [.ref (zK 2), .int 0]) (rest := []) ⟨hx, hb, hml, hown, hts⟩ (k_digit2_0 l dC dI z zK zV  s.heap.size) (va_cwS 2 hts gX15_mast_X15_digit rfl rfl rfl (by decide +kernel) ⟨Nat.le_of_ble_eq_true rfl, Nat.le_of_ble_eq_true rfl⟩) ⟨kP_blind, kP_go hPc hKc hDc hFc hM hS⟩ rfl rfl hl.1 rfl (lv_room (Nat.le_of_ble_eq_true rfl)) dX15_mast_3 ⟨Nat.le_of_ble_eq_true rfl, Nat.le_of_ble_eq_true rfl⟩) hS (fun q _ h => hFc q h) hFc (fun r1 u t H1 locs ht hvm hw hB hz1 hk1 hS => ?_)
  obtain ⟨hP, hD, hK⟩ := kJ (wr := []) (w1 := []) (t1 := []) hP hD hK [] [] rfl rfl (by decide) (by decide) hk1 hFc ht hvm hB
  generalize H1 = H at hP hS ⊢
  have hP : va_P (dC, dI) vwCl [] H := hP
  have hD : va_D A [] := hD
  have hK : va_K (dC, dI) vwCl [] s := hK
  obtain rfl : 0 = r1 := hw
  exact W.iret (v := 0) hx hb hr (fun t ht hW => ⟨⟨0, (), rfl, rfl, kB_end (w9 := []) (t9 := []) hP hK hD [] [] rfl (by decide) rfl rfl t ht hW⟩, hS.F ht⟩) hS.2.2 dX15_mast_6
abbrev wd_k_mast_1 (_z : Nat → Nat) : va_W := []
set_option maxHeartbeats 4000000 in
set_option maxRecDepth 100000 in
theorem k_mast_1 (l : Launch) (dC : Nat → ClassId) (dI : Nat → Nat → Nat) (z zK zV : Nat → Nat)  (sz : Nat)  : Met l yX15_mast wsX15_mast ({ frames := 5, cells := 0, slots := 0, locals := 107 }) (kP dC dI z zK zV [.int 1] sz (wd_k_mast_1 z) []) (va_Qi (fun (r : Int32) (_ : Unit) => 0 = r) (fun _ t => kB (dC, dI) (va_A (wd_k_mast_1 z) sz) [] [] t) (va_A (wd_k_mast_1 z) sz)) 0 0 (va_A (wd_k_mast_1 z) sz) := by
  refine Met.ofW (cc := cX15_mast) (maxL := 1) (ret := (some .int)) (by decide) rfl ?_
  intro p e s m args below meth c s₁ B hml hv
  obtain ⟨rfl, hsz, hP, hK, hD0, hM⟩ := hv
  have hx := B.exec
  have hb := B.bytes
  have hr := B.returns
  have hts := atoms_spec (ws := wsX15_mast) B.pre
  have hown : s.vm.findClass RX15 = some m.cls := findClass_of_methodNamed B.named
  have hlocks := B.notSynchronized
  subst hsz
  have hD := hD0.self (sz := s.heap.size)
  generalize hAe : va_A (wd_k_mast_1 z) s.heap.size = A at hD hM ⊢
  have hA : ∀ q : Nat, s.heap.size ≤ q → A q := fun q h => by rw [← hAe]; exact Or.inr h
  have hS : va_S A s.heap s.heap [] := va_S.rf
  have hP : va_P (dC, dI) vwCl [] s.heap := hP
  have hD : va_D A [] := hD
  have hl := lv_entry ([.int 1]) (n := 1) (Nat.le_of_ble_eq_true rfl)
  rw [lg_entry_eq]
  generalize (lg_sl ([.int 1]) ++ List.replicate (1 - (lg_sl ([.int 1])).length) Slot.unset).toArray = ls at hl ⊢
  have hl : lv_has ls 1 [(0, .int 1)] := hl
  refine va_ldcS hx hb hown (hM.2.2.1 2 _ rfl) dX15_mast_0 ?_
  refine lv_iload_n hx hb dX15_mast_2 rfl (lv_at hl 0 rfl) ?_
  have hPc := hP.sub (ws' := []) [] rfl
  have hDc := hD.sub (ws' := []) [] (by decide) rfl
  have hKc := hK.sub (tys' := []) [] rfl
  have hFc := va_free (wc := []) hD hS hA [] rfl
  refine va_calli (va_runS (As := [.ref (zK 2), .int 1]) (rest := []) ⟨hx, hb, hml, hown, hts⟩ (k_digit2_1 l dC dI z zK zV  s.heap.size) (va_cwS 2 hts gX15_mast_X15_digit rfl rfl rfl (by decide +kernel) ⟨Nat.le_of_ble_eq_true rfl, Nat.le_of_ble_eq_true rfl⟩) ⟨kP_blind, kP_go hPc hKc hDc hFc hM hS⟩ rfl rfl hl.1 rfl (lv_room (Nat.le_of_ble_eq_true rfl)) dX15_mast_3 ⟨Nat.le_of_ble_eq_true rfl, Nat.le_of_ble_eq_true rfl⟩) hS (fun q _ h => hFc q h) hFc (fun r1 u t H1 locs ht hvm hw hB hz1 hk1 hS => ?_)
  obtain ⟨hP, hD, hK⟩ := kJ (wr := []) (w1 := []) (t1 := []) hP hD hK [] [] rfl rfl (by decide) (by decide) hk1 hFc ht hvm hB
  generalize H1 = H at hP hS ⊢
  have hP : va_P (dC, dI) vwCl [] H := hP
  have hD : va_D A [] := hD
  have hK : va_K (dC, dI) vwCl [] s := hK
  obtain rfl : 0 = r1 := hw
  exact W.iret (v := 0) hx hb hr (fun t ht hW => ⟨⟨0, (), rfl, rfl, kB_end (w9 := []) (t9 := []) hP hK hD [] [] rfl (by decide) rfl rfl t ht hW⟩, hS.F ht⟩) hS.2.2 dX15_mast_6
abbrev wd_k_mast_2 (_z : Nat → Nat) : va_W := []
set_option maxHeartbeats 4000000 in
set_option maxRecDepth 100000 in
theorem k_mast_2 (l : Launch) (dC : Nat → ClassId) (dI : Nat → Nat → Nat) (z zK zV : Nat → Nat)  (sz : Nat)  : Met l yX15_mast wsX15_mast ({ frames := 5, cells := 0, slots := 0, locals := 107 }) (kP dC dI z zK zV [.int 2] sz (wd_k_mast_2 z) []) (va_Qi (fun (r : Int32) (_ : Unit) => 0 = r) (fun _ t => kB (dC, dI) (va_A (wd_k_mast_2 z) sz) [] [] t) (va_A (wd_k_mast_2 z) sz)) 0 0 (va_A (wd_k_mast_2 z) sz) := by
  refine Met.ofW (cc := cX15_mast) (maxL := 1) (ret := (some .int)) (by decide) rfl ?_
  intro p e s m args below meth c s₁ B hml hv
  obtain ⟨rfl, hsz, hP, hK, hD0, hM⟩ := hv
  have hx := B.exec
  have hb := B.bytes
  have hr := B.returns
  have hts := atoms_spec (ws := wsX15_mast) B.pre
  have hown : s.vm.findClass RX15 = some m.cls := findClass_of_methodNamed B.named
  have hlocks := B.notSynchronized
  subst hsz
  have hD := hD0.self (sz := s.heap.size)
  generalize hAe : va_A (wd_k_mast_2 z) s.heap.size = A at hD hM ⊢
  have hA : ∀ q : Nat, s.heap.size ≤ q → A q := fun q h => by rw [← hAe]; exact Or.inr h
  have hS : va_S A s.heap s.heap [] := va_S.rf
  have hP : va_P (dC, dI) vwCl [] s.heap := hP
  have hD : va_D A [] := hD
  have hl := lv_entry ([.int 2]) (n := 1) (Nat.le_of_ble_eq_true rfl)
  rw [lg_entry_eq]
  generalize (lg_sl ([.int 2]) ++ List.replicate (1 - (lg_sl ([.int 2])).length) Slot.unset).toArray = ls at hl ⊢
  have hl : lv_has ls 1 [(0, .int 2)] := hl
  refine va_ldcS hx hb hown (hM.2.2.1 2 _ rfl) dX15_mast_0 ?_
  refine lv_iload_n hx hb dX15_mast_2 rfl (lv_at hl 0 rfl) ?_
  have hPc := hP.sub (ws' := []) [] rfl
  have hDc := hD.sub (ws' := []) [] (by decide) rfl
  have hKc := hK.sub (tys' := []) [] rfl
  have hFc := va_free (wc := []) hD hS hA [] rfl
  refine va_calli (va_runS (As := [.ref (zK 2), .int 2]) (rest := []) ⟨hx, hb, hml, hown, hts⟩ (k_digit2_2 l dC dI z zK zV  s.heap.size) (va_cwS 2 hts gX15_mast_X15_digit rfl rfl rfl (by decide +kernel) ⟨Nat.le_of_ble_eq_true rfl, Nat.le_of_ble_eq_true rfl⟩) ⟨kP_blind, kP_go hPc hKc hDc hFc hM hS⟩ rfl rfl hl.1 rfl (lv_room (Nat.le_of_ble_eq_true rfl)) dX15_mast_3 ⟨Nat.le_of_ble_eq_true rfl, Nat.le_of_ble_eq_true rfl⟩) hS (fun q _ h => hFc q h) hFc (fun r1 u t H1 locs ht hvm hw hB hz1 hk1 hS => ?_)
  obtain ⟨hP, hD, hK⟩ := kJ (wr := []) (w1 := []) (t1 := []) hP hD hK [] [] rfl rfl (by decide) (by decide) hk1 hFc ht hvm hB
  generalize H1 = H at hP hS ⊢
  have hP : va_P (dC, dI) vwCl [] H := hP
  have hD : va_D A [] := hD
  have hK : va_K (dC, dI) vwCl [] s := hK
  obtain rfl : 0 = r1 := hw
  exact W.iret (v := 0) hx hb hr (fun t ht hW => ⟨⟨0, (), rfl, rfl, kB_end (w9 := []) (t9 := []) hP hK hD [] [] rfl (by decide) rfl rfl t ht hW⟩, hS.F ht⟩) hS.2.2 dX15_mast_6
abbrev wd_k_mast_3 (_z : Nat → Nat) : va_W := []
set_option maxHeartbeats 4000000 in
set_option maxRecDepth 100000 in
theorem k_mast_3 (l : Launch) (dC : Nat → ClassId) (dI : Nat → Nat → Nat) (z zK zV : Nat → Nat)  (sz : Nat)  : Met l yX15_mast wsX15_mast ({ frames := 5, cells := 0, slots := 0, locals := 107 }) (kP dC dI z zK zV [.int 3] sz (wd_k_mast_3 z) []) (va_Qi (fun (r : Int32) (_ : Unit) => 1 = r) (fun _ t => kB (dC, dI) (va_A (wd_k_mast_3 z) sz) [] [] t) (va_A (wd_k_mast_3 z) sz)) 0 0 (va_A (wd_k_mast_3 z) sz) := by
  refine Met.ofW (cc := cX15_mast) (maxL := 1) (ret := (some .int)) (by decide) rfl ?_
  intro p e s m args below meth c s₁ B hml hv
  obtain ⟨rfl, hsz, hP, hK, hD0, hM⟩ := hv
  have hx := B.exec
  have hb := B.bytes
  have hr := B.returns
  have hts := atoms_spec (ws := wsX15_mast) B.pre
  have hown : s.vm.findClass RX15 = some m.cls := findClass_of_methodNamed B.named
  have hlocks := B.notSynchronized
  subst hsz
  have hD := hD0.self (sz := s.heap.size)
  generalize hAe : va_A (wd_k_mast_3 z) s.heap.size = A at hD hM ⊢
  have hA : ∀ q : Nat, s.heap.size ≤ q → A q := fun q h => by rw [← hAe]; exact Or.inr h
  have hS : va_S A s.heap s.heap [] := va_S.rf
  have hP : va_P (dC, dI) vwCl [] s.heap := hP
  have hD : va_D A [] := hD
  have hl := lv_entry ([.int 3]) (n := 1) (Nat.le_of_ble_eq_true rfl)
  rw [lg_entry_eq]
  generalize (lg_sl ([.int 3]) ++ List.replicate (1 - (lg_sl ([.int 3])).length) Slot.unset).toArray = ls at hl ⊢
  have hl : lv_has ls 1 [(0, .int 3)] := hl
  refine va_ldcS hx hb hown (hM.2.2.1 2 _ rfl) dX15_mast_0 ?_
  refine lv_iload_n hx hb dX15_mast_2 rfl (lv_at hl 0 rfl) ?_
  have hPc := hP.sub (ws' := []) [] rfl
  have hDc := hD.sub (ws' := []) [] (by decide) rfl
  have hKc := hK.sub (tys' := []) [] rfl
  have hFc := va_free (wc := []) hD hS hA [] rfl
  refine va_calli (va_runS (As := [.ref (zK 2), .int 3]) (rest := []) ⟨hx, hb, hml, hown, hts⟩ (k_digit2_3 l dC dI z zK zV  s.heap.size) (va_cwS 2 hts gX15_mast_X15_digit rfl rfl rfl (by decide +kernel) ⟨Nat.le_of_ble_eq_true rfl, Nat.le_of_ble_eq_true rfl⟩) ⟨kP_blind, kP_go hPc hKc hDc hFc hM hS⟩ rfl rfl hl.1 rfl (lv_room (Nat.le_of_ble_eq_true rfl)) dX15_mast_3 ⟨Nat.le_of_ble_eq_true rfl, Nat.le_of_ble_eq_true rfl⟩) hS (fun q _ h => hFc q h) hFc (fun r1 u t H1 locs ht hvm hw hB hz1 hk1 hS => ?_)
  obtain ⟨hP, hD, hK⟩ := kJ (wr := []) (w1 := []) (t1 := []) hP hD hK [] [] rfl rfl (by decide) (by decide) hk1 hFc ht hvm hB
  generalize H1 = H at hP hS ⊢
  have hP : va_P (dC, dI) vwCl [] H := hP
  have hD : va_D A [] := hD
  have hK : va_K (dC, dI) vwCl [] s := hK
  obtain rfl : 1 = r1 := hw
  exact W.iret (v := 1) hx hb hr (fun t ht hW => ⟨⟨1, (), rfl, rfl, kB_end (w9 := []) (t9 := []) hP hK hD [] [] rfl (by decide) rfl rfl t ht hW⟩, hS.F ht⟩) hS.2.2 dX15_mast_6
abbrev wd_k_mast_4 (_z : Nat → Nat) : va_W := []
set_option maxHeartbeats 4000000 in
set_option maxRecDepth 100000 in
theorem k_mast_4 (l : Launch) (dC : Nat → ClassId) (dI : Nat → Nat → Nat) (z zK zV : Nat → Nat)  (sz : Nat)  : Met l yX15_mast wsX15_mast ({ frames := 5, cells := 0, slots := 0, locals := 107 }) (kP dC dI z zK zV [.int 4] sz (wd_k_mast_4 z) []) (va_Qi (fun (r : Int32) (_ : Unit) => 1 = r) (fun _ t => kB (dC, dI) (va_A (wd_k_mast_4 z) sz) [] [] t) (va_A (wd_k_mast_4 z) sz)) 0 0 (va_A (wd_k_mast_4 z) sz) := by
  refine Met.ofW (cc := cX15_mast) (maxL := 1) (ret := (some .int)) (by decide) rfl ?_
  intro p e s m args below meth c s₁ B hml hv
  obtain ⟨rfl, hsz, hP, hK, hD0, hM⟩ := hv
  have hx := B.exec
  have hb := B.bytes
  have hr := B.returns
  have hts := atoms_spec (ws := wsX15_mast) B.pre
  have hown : s.vm.findClass RX15 = some m.cls := findClass_of_methodNamed B.named
  have hlocks := B.notSynchronized
  subst hsz
  have hD := hD0.self (sz := s.heap.size)
  generalize hAe : va_A (wd_k_mast_4 z) s.heap.size = A at hD hM ⊢
  have hA : ∀ q : Nat, s.heap.size ≤ q → A q := fun q h => by rw [← hAe]; exact Or.inr h
  have hS : va_S A s.heap s.heap [] := va_S.rf
  have hP : va_P (dC, dI) vwCl [] s.heap := hP
  have hD : va_D A [] := hD
  have hl := lv_entry ([.int 4]) (n := 1) (Nat.le_of_ble_eq_true rfl)
  rw [lg_entry_eq]
  generalize (lg_sl ([.int 4]) ++ List.replicate (1 - (lg_sl ([.int 4])).length) Slot.unset).toArray = ls at hl ⊢
  have hl : lv_has ls 1 [(0, .int 4)] := hl
  refine va_ldcS hx hb hown (hM.2.2.1 2 _ rfl) dX15_mast_0 ?_
  refine lv_iload_n hx hb dX15_mast_2 rfl (lv_at hl 0 rfl) ?_
  have hPc := hP.sub (ws' := []) [] rfl
  have hDc := hD.sub (ws' := []) [] (by decide) rfl
  have hKc := hK.sub (tys' := []) [] rfl
  have hFc := va_free (wc := []) hD hS hA [] rfl
  refine va_calli (va_runS (As := [.ref (zK 2), .int 4]) (rest := []) ⟨hx, hb, hml, hown, hts⟩ (k_digit2_4 l dC dI z zK zV  s.heap.size) (va_cwS 2 hts gX15_mast_X15_digit rfl rfl rfl (by decide +kernel) ⟨Nat.le_of_ble_eq_true rfl, Nat.le_of_ble_eq_true rfl⟩) ⟨kP_blind, kP_go hPc hKc hDc hFc hM hS⟩ rfl rfl hl.1 rfl (lv_room (Nat.le_of_ble_eq_true rfl)) dX15_mast_3 ⟨Nat.le_of_ble_eq_true rfl, Nat.le_of_ble_eq_true rfl⟩) hS (fun q _ h => hFc q h) hFc (fun r1 u t H1 locs ht hvm hw hB hz1 hk1 hS => ?_)
  obtain ⟨hP, hD, hK⟩ := kJ (wr := []) (w1 := []) (t1 := []) hP hD hK [] [] rfl rfl (by decide) (by decide) hk1 hFc ht hvm hB
  generalize H1 = H at hP hS ⊢
  have hP : va_P (dC, dI) vwCl [] H := hP
  have hD : va_D A [] := hD
  have hK : va_K (dC, dI) vwCl [] s := hK
  obtain rfl : 1 = r1 := hw
  exact W.iret (v := 1) hx hb hr (fun t ht hW => ⟨⟨1, (), rfl, rfl, kB_end (w9 := []) (t9 := []) hP hK hD [] [] rfl (by decide) rfl rfl t ht hW⟩, hS.F ht⟩) hS.2.2 dX15_mast_6
abbrev wd_k_mast_5 (_z : Nat → Nat) : va_W := []
set_option maxHeartbeats 4000000 in
set_option maxRecDepth 100000 in
theorem k_mast_5 (l : Launch) (dC : Nat → ClassId) (dI : Nat → Nat → Nat) (z zK zV : Nat → Nat)  (sz : Nat)  : Met l yX15_mast wsX15_mast ({ frames := 5, cells := 0, slots := 0, locals := 107 }) (kP dC dI z zK zV [.int 5] sz (wd_k_mast_5 z) []) (va_Qi (fun (r : Int32) (_ : Unit) => 1 = r) (fun _ t => kB (dC, dI) (va_A (wd_k_mast_5 z) sz) [] [] t) (va_A (wd_k_mast_5 z) sz)) 0 0 (va_A (wd_k_mast_5 z) sz) := by
  refine Met.ofW (cc := cX15_mast) (maxL := 1) (ret := (some .int)) (by decide) rfl ?_
  intro p e s m args below meth c s₁ B hml hv
  obtain ⟨rfl, hsz, hP, hK, hD0, hM⟩ := hv
  have hx := B.exec
  have hb := B.bytes
  have hr := B.returns
  have hts := atoms_spec (ws := wsX15_mast) B.pre
  have hown : s.vm.findClass RX15 = some m.cls := findClass_of_methodNamed B.named
  have hlocks := B.notSynchronized
  subst hsz
  have hD := hD0.self (sz := s.heap.size)
  generalize hAe : va_A (wd_k_mast_5 z) s.heap.size = A at hD hM ⊢
  have hA : ∀ q : Nat, s.heap.size ≤ q → A q := fun q h => by rw [← hAe]; exact Or.inr h
  have hS : va_S A s.heap s.heap [] := va_S.rf
  have hP : va_P (dC, dI) vwCl [] s.heap := hP
  have hD : va_D A [] := hD
  have hl := lv_entry ([.int 5]) (n := 1) (Nat.le_of_ble_eq_true rfl)
  rw [lg_entry_eq]
  generalize (lg_sl ([.int 5]) ++ List.replicate (1 - (lg_sl ([.int 5])).length) Slot.unset).toArray = ls at hl ⊢
  have hl : lv_has ls 1 [(0, .int 5)] := hl
  refine va_ldcS hx hb hown (hM.2.2.1 2 _ rfl) dX15_mast_0 ?_
  refine lv_iload_n hx hb dX15_mast_2 rfl (lv_at hl 0 rfl) ?_
  have hPc := hP.sub (ws' := []) [] rfl
  have hDc := hD.sub (ws' := []) [] (by decide) rfl
  have hKc := hK.sub (tys' := []) [] rfl
  have hFc := va_free (wc := []) hD hS hA [] rfl
  refine va_calli (va_runS (As := [.ref (zK 2), .int 5]) (rest := []) ⟨hx, hb, hml, hown, hts⟩ (k_digit2_5 l dC dI z zK zV  s.heap.size) (va_cwS 2 hts gX15_mast_X15_digit rfl rfl rfl (by decide +kernel) ⟨Nat.le_of_ble_eq_true rfl, Nat.le_of_ble_eq_true rfl⟩) ⟨kP_blind, kP_go hPc hKc hDc hFc hM hS⟩ rfl rfl hl.1 rfl (lv_room (Nat.le_of_ble_eq_true rfl)) dX15_mast_3 ⟨Nat.le_of_ble_eq_true rfl, Nat.le_of_ble_eq_true rfl⟩) hS (fun q _ h => hFc q h) hFc (fun r1 u t H1 locs ht hvm hw hB hz1 hk1 hS => ?_)
  obtain ⟨hP, hD, hK⟩ := kJ (wr := []) (w1 := []) (t1 := []) hP hD hK [] [] rfl rfl (by decide) (by decide) hk1 hFc ht hvm hB
  generalize H1 = H at hP hS ⊢
  have hP : va_P (dC, dI) vwCl [] H := hP
  have hD : va_D A [] := hD
  have hK : va_K (dC, dI) vwCl [] s := hK
  obtain rfl : 1 = r1 := hw
  exact W.iret (v := 1) hx hb hr (fun t ht hW => ⟨⟨1, (), rfl, rfl, kB_end (w9 := []) (t9 := []) hP hK hD [] [] rfl (by decide) rfl rfl t ht hW⟩, hS.F ht⟩) hS.2.2 dX15_mast_6
abbrev wd_k_mast_6 (_z : Nat → Nat) : va_W := []
set_option maxHeartbeats 4000000 in
set_option maxRecDepth 100000 in
theorem k_mast_6 (l : Launch) (dC : Nat → ClassId) (dI : Nat → Nat → Nat) (z zK zV : Nat → Nat)  (sz : Nat)  : Met l yX15_mast wsX15_mast ({ frames := 5, cells := 0, slots := 0, locals := 107 }) (kP dC dI z zK zV [.int 6] sz (wd_k_mast_6 z) []) (va_Qi (fun (r : Int32) (_ : Unit) => 2 = r) (fun _ t => kB (dC, dI) (va_A (wd_k_mast_6 z) sz) [] [] t) (va_A (wd_k_mast_6 z) sz)) 0 0 (va_A (wd_k_mast_6 z) sz) := by
  refine Met.ofW (cc := cX15_mast) (maxL := 1) (ret := (some .int)) (by decide) rfl ?_
  intro p e s m args below meth c s₁ B hml hv
  obtain ⟨rfl, hsz, hP, hK, hD0, hM⟩ := hv
  have hx := B.exec
  have hb := B.bytes
  have hr := B.returns
  have hts := atoms_spec (ws := wsX15_mast) B.pre
  have hown : s.vm.findClass RX15 = some m.cls := findClass_of_methodNamed B.named
  have hlocks := B.notSynchronized
  subst hsz
  have hD := hD0.self (sz := s.heap.size)
  generalize hAe : va_A (wd_k_mast_6 z) s.heap.size = A at hD hM ⊢
  have hA : ∀ q : Nat, s.heap.size ≤ q → A q := fun q h => by rw [← hAe]; exact Or.inr h
  have hS : va_S A s.heap s.heap [] := va_S.rf
  have hP : va_P (dC, dI) vwCl [] s.heap := hP
  have hD : va_D A [] := hD
  have hl := lv_entry ([.int 6]) (n := 1) (Nat.le_of_ble_eq_true rfl)
  rw [lg_entry_eq]
  generalize (lg_sl ([.int 6]) ++ List.replicate (1 - (lg_sl ([.int 6])).length) Slot.unset).toArray = ls at hl ⊢
  have hl : lv_has ls 1 [(0, .int 6)] := hl
  refine va_ldcS hx hb hown (hM.2.2.1 2 _ rfl) dX15_mast_0 ?_
  refine lv_iload_n hx hb dX15_mast_2 rfl (lv_at hl 0 rfl) ?_
  have hPc := hP.sub (ws' := []) [] rfl
  have hDc := hD.sub (ws' := []) [] (by decide) rfl
  have hKc := hK.sub (tys' := []) [] rfl
  have hFc := va_free (wc := []) hD hS hA [] rfl
  refine va_calli (va_runS (As := [.ref (zK 2), .int 6]) (rest := []) ⟨hx, hb, hml, hown, hts⟩ (k_digit2_6 l dC dI z zK zV  s.heap.size) (va_cwS 2 hts gX15_mast_X15_digit rfl rfl rfl (by decide +kernel) ⟨Nat.le_of_ble_eq_true rfl, Nat.le_of_ble_eq_true rfl⟩) ⟨kP_blind, kP_go hPc hKc hDc hFc hM hS⟩ rfl rfl hl.1 rfl (lv_room (Nat.le_of_ble_eq_true rfl)) dX15_mast_3 ⟨Nat.le_of_ble_eq_true rfl, Nat.le_of_ble_eq_true rfl⟩) hS (fun q _ h => hFc q h) hFc (fun r1 u t H1 locs ht hvm hw hB hz1 hk1 hS => ?_)
  obtain ⟨hP, hD, hK⟩ := kJ (wr := []) (w1 := []) (t1 := []) hP hD hK [] [] rfl rfl (by decide) (by decide) hk1 hFc ht hvm hB
  generalize H1 = H at hP hS ⊢
  have hP : va_P (dC, dI) vwCl [] H := hP
  have hD : va_D A [] := hD
  have hK : va_K (dC, dI) vwCl [] s := hK
  obtain rfl : 2 = r1 := hw
  exact W.iret (v := 2) hx hb hr (fun t ht hW => ⟨⟨2, (), rfl, rfl, kB_end (w9 := []) (t9 := []) hP hK hD [] [] rfl (by decide) rfl rfl t ht hW⟩, hS.F ht⟩) hS.2.2 dX15_mast_6
abbrev wd_k_mast_7 (_z : Nat → Nat) : va_W := []
set_option maxHeartbeats 4000000 in
set_option maxRecDepth 100000 in
theorem k_mast_7 (l : Launch) (dC : Nat → ClassId) (dI : Nat → Nat → Nat) (z zK zV : Nat → Nat)  (sz : Nat)  : Met l yX15_mast wsX15_mast ({ frames := 5, cells := 0, slots := 0, locals := 107 }) (kP dC dI z zK zV [.int 7] sz (wd_k_mast_7 z) []) (va_Qi (fun (r : Int32) (_ : Unit) => 0 = r) (fun _ t => kB (dC, dI) (va_A (wd_k_mast_7 z) sz) [] [] t) (va_A (wd_k_mast_7 z) sz)) 0 0 (va_A (wd_k_mast_7 z) sz) := by
  refine Met.ofW (cc := cX15_mast) (maxL := 1) (ret := (some .int)) (by decide) rfl ?_
  intro p e s m args below meth c s₁ B hml hv
  obtain ⟨rfl, hsz, hP, hK, hD0, hM⟩ := hv
  have hx := B.exec
  have hb := B.bytes
  have hr := B.returns
  have hts := atoms_spec (ws := wsX15_mast) B.pre
  have hown : s.vm.findClass RX15 = some m.cls := findClass_of_methodNamed B.named
  have hlocks := B.notSynchronized
  subst hsz
  have hD := hD0.self (sz := s.heap.size)
  generalize hAe : va_A (wd_k_mast_7 z) s.heap.size = A at hD hM ⊢
  have hA : ∀ q : Nat, s.heap.size ≤ q → A q := fun q h => by rw [← hAe]; exact Or.inr h
  have hS : va_S A s.heap s.heap [] := va_S.rf
  have hP : va_P (dC, dI) vwCl [] s.heap := hP
  have hD : va_D A [] := hD
  have hl := lv_entry ([.int 7]) (n := 1) (Nat.le_of_ble_eq_true rfl)
  rw [lg_entry_eq]
  generalize (lg_sl ([.int 7]) ++ List.replicate (1 - (lg_sl ([.int 7])).length) Slot.unset).toArray = ls at hl ⊢
  have hl : lv_has ls 1 [(0, .int 7)] := hl
  refine va_ldcS hx hb hown (hM.2.2.1 2 _ rfl) dX15_mast_0 ?_
  refine lv_iload_n hx hb dX15_mast_2 rfl (lv_at hl 0 rfl) ?_
  have hPc := hP.sub (ws' := []) [] rfl
  have hDc := hD.sub (ws' := []) [] (by decide) rfl
  have hKc := hK.sub (tys' := []) [] rfl
  have hFc := va_free (wc := []) hD hS hA [] rfl
  refine va_calli (va_runS (As := [.ref (zK 2), .int 7]) (rest := []) ⟨hx, hb, hml, hown, hts⟩ (k_digit2_7 l dC dI z zK zV  s.heap.size) (va_cwS 2 hts gX15_mast_X15_digit rfl rfl rfl (by decide +kernel) ⟨Nat.le_of_ble_eq_true rfl, Nat.le_of_ble_eq_true rfl⟩) ⟨kP_blind, kP_go hPc hKc hDc hFc hM hS⟩ rfl rfl hl.1 rfl (lv_room (Nat.le_of_ble_eq_true rfl)) dX15_mast_3 ⟨Nat.le_of_ble_eq_true rfl, Nat.le_of_ble_eq_true rfl⟩) hS (fun q _ h => hFc q h) hFc (fun r1 u t H1 locs ht hvm hw hB hz1 hk1 hS => ?_)
  obtain ⟨hP, hD, hK⟩ := kJ (wr := []) (w1 := []) (t1 := []) hP hD hK [] [] rfl rfl (by decide) (by decide) hk1 hFc ht hvm hB
  generalize H1 = H at hP hS ⊢
  have hP : va_P (dC, dI) vwCl [] H := hP
  have hD : va_D A [] := hD
  have hK : va_K (dC, dI) vwCl [] s := hK
  obtain rfl : 0 = r1 := hw
  exact W.iret (v := 0) hx hb hr (fun t ht hW => ⟨⟨0, (), rfl, rfl, kB_end (w9 := []) (t9 := []) hP hK hD [] [] rfl (by decide) rfl rfl t ht hW⟩, hS.F ht⟩) hS.2.2 dX15_mast_6
abbrev wd_k_mast_8 (_z : Nat → Nat) : va_W := []
set_option maxHeartbeats 4000000 in
set_option maxRecDepth 100000 in
theorem k_mast_8 (l : Launch) (dC : Nat → ClassId) (dI : Nat → Nat → Nat) (z zK zV : Nat → Nat)  (sz : Nat)  : Met l yX15_mast wsX15_mast ({ frames := 5, cells := 0, slots := 0, locals := 107 }) (kP dC dI z zK zV [.int 8] sz (wd_k_mast_8 z) []) (va_Qi (fun (r : Int32) (_ : Unit) => 2 = r) (fun _ t => kB (dC, dI) (va_A (wd_k_mast_8 z) sz) [] [] t) (va_A (wd_k_mast_8 z) sz)) 0 0 (va_A (wd_k_mast_8 z) sz) := by
  refine Met.ofW (cc := cX15_mast) (maxL := 1) (ret := (some .int)) (by decide) rfl ?_
  intro p e s m args below meth c s₁ B hml hv
  obtain ⟨rfl, hsz, hP, hK, hD0, hM⟩ := hv
  have hx := B.exec
  have hb := B.bytes
  have hr := B.returns
  have hts := atoms_spec (ws := wsX15_mast) B.pre
  have hown : s.vm.findClass RX15 = some m.cls := findClass_of_methodNamed B.named
  have hlocks := B.notSynchronized
  subst hsz
  have hD := hD0.self (sz := s.heap.size)
  generalize hAe : va_A (wd_k_mast_8 z) s.heap.size = A at hD hM ⊢
  have hA : ∀ q : Nat, s.heap.size ≤ q → A q := fun q h => by rw [← hAe]; exact Or.inr h
  have hS : va_S A s.heap s.heap [] := va_S.rf
  have hP : va_P (dC, dI) vwCl [] s.heap := hP
  have hD : va_D A [] := hD
  have hl := lv_entry ([.int 8]) (n := 1) (Nat.le_of_ble_eq_true rfl)
  rw [lg_entry_eq]
  generalize (lg_sl ([.int 8]) ++ List.replicate (1 - (lg_sl ([.int 8])).length) Slot.unset).toArray = ls at hl ⊢
  have hl : lv_has ls 1 [(0, .int 8)] := hl
  refine va_ldcS hx hb hown (hM.2.2.1 2 _ rfl) dX15_mast_0 ?_
  refine lv_iload_n hx hb dX15_mast_2 rfl (lv_at hl 0 rfl) ?_
  have hPc := hP.sub (ws' := []) [] rfl
  have hDc := hD.sub (ws' := []) [] (by decide) rfl
  have hKc := hK.sub (tys' := []) [] rfl
  have hFc := va_free (wc := []) hD hS hA [] rfl
  refine va_calli (va_runS (As := [.ref (zK 2), .int 8]) (rest := []) ⟨hx, hb, hml, hown, hts⟩ (k_digit2_8 l dC dI z zK zV  s.heap.size) (va_cwS 2 hts gX15_mast_X15_digit rfl rfl rfl (by decide +kernel) ⟨Nat.le_of_ble_eq_true rfl, Nat.le_of_ble_eq_true rfl⟩) ⟨kP_blind, kP_go hPc hKc hDc hFc hM hS⟩ rfl rfl hl.1 rfl (lv_room (Nat.le_of_ble_eq_true rfl)) dX15_mast_3 ⟨Nat.le_of_ble_eq_true rfl, Nat.le_of_ble_eq_true rfl⟩) hS (fun q _ h => hFc q h) hFc (fun r1 u t H1 locs ht hvm hw hB hz1 hk1 hS => ?_)
  obtain ⟨hP, hD, hK⟩ := kJ (wr := []) (w1 := []) (t1 := []) hP hD hK [] [] rfl rfl (by decide) (by decide) hk1 hFc ht hvm hB
  generalize H1 = H at hP hS ⊢
  have hP : va_P (dC, dI) vwCl [] H := hP
  have hD : va_D A [] := hD
  have hK : va_K (dC, dI) vwCl [] s := hK
  obtain rfl : 2 = r1 := hw
  exact W.iret (v := 2) hx hb hr (fun t ht hW => ⟨⟨2, (), rfl, rfl, kB_end (w9 := []) (t9 := []) hP hK hD [] [] rfl (by decide) rfl rfl t ht hW⟩, hS.F ht⟩) hS.2.2 dX15_mast_6
