theorem k_ifp {P : Prop} [Decidable P] (h : P) : ¬ (if P then (1 : Int32) else 0) = 0 := by
  rw [if_pos h]
  decide
theorem dX15_thrown_0 : decode cX15_thrown 0 = .ok (.aload_n 0, 1) := by decide +kernel
theorem dX15_thrown_1 : decode cX15_thrown 1 = .ok (.getfield 45, 3) := by decide +kernel
theorem dX15_thrown_4 : decode cX15_thrown 4 = .ok (.ireturn, 1) := by decide +kernel
set_option maxRecDepth 20000 in
theorem ggX15_wind_X15_in : GoodIn wsX15_wind wsX15_in := goodIn_r _ [9] (by decide +kernel) (by decide +kernel)
set_option maxRecDepth 20000 in
theorem gX15_wind_X15_in : GoodIn wsX15_wind (va_wsS RX15 120 yX15_in wsX15_in) := goodIn_app (goodIn_of _ (by decide +kernel)) ggX15_wind_X15_in
theorem dX15_wind_0 : decode cX15_wind 0 = .ok (.aload_n 0, 1) := by decide +kernel
theorem dX15_wind_1 : decode cX15_wind 1 = .ok (.iload_n 1, 1) := by decide +kernel
theorem dX15_wind_2 : decode cX15_wind 2 = .ok (.i2l, 1) := by decide +kernel
theorem dX15_wind_3 : decode cX15_wind 3 = .ok (.lconst 0, 1) := by decide +kernel
theorem dX15_wind_4 : decode cX15_wind 4 = .ok (.ldc2_w 118, 3) := by decide +kernel
theorem dX15_wind_7 : decode cX15_wind 7 = .ok (.invokestatic 120, 3) := by decide +kernel
theorem dX15_wind_10 : decode cX15_wind 10 = .ok (.ifCond .eq 15, 3) := by decide +kernel
theorem dX15_wind_13 : decode cX15_wind 13 = .ok (.iload_n 2, 1) := by decide +kernel
theorem dX15_wind_14 : decode cX15_wind 14 = .ok (.i2l, 1) := by decide +kernel
theorem dX15_wind_15 : decode cX15_wind 15 = .ok (.lconst 0, 1) := by decide +kernel
theorem dX15_wind_16 : decode cX15_wind 16 = .ok (.ldc2_w 124, 3) := by decide +kernel
theorem dX15_wind_19 : decode cX15_wind 19 = .ok (.invokestatic 120, 3) := by decide +kernel
theorem dX15_wind_22 : decode cX15_wind 22 = .ok (.ifCond .ne 7, 3) := by decide +kernel
theorem dX15_wind_25 : decode cX15_wind 25 = .ok (.iconst 1, 1) := by decide +kernel
theorem dX15_wind_26 : decode cX15_wind 26 = .ok (.goto 4, 3) := by decide +kernel
theorem dX15_wind_29 : decode cX15_wind 29 = .ok (.iconst 0, 1) := by decide +kernel
theorem dX15_wind_30 : decode cX15_wind 30 = .ok (.putfield 45, 3) := by decide +kernel
theorem dX15_wind_33 : decode cX15_wind 33 = .ok (.aload_n 0, 1) := by decide +kernel
theorem dX15_wind_34 : decode cX15_wind 34 = .ok (.getfield 45, 3) := by decide +kernel
theorem dX15_wind_37 : decode cX15_wind 37 = .ok (.ifCond .le 5, 3) := by decide +kernel
theorem dX15_wind_40 : decode cX15_wind 40 = .ok (.iconst (-1), 1) := by decide +kernel
theorem dX15_wind_41 : decode cX15_wind 41 = .ok (.ireturn, 1) := by decide +kernel
theorem dX15_wind_42 : decode cX15_wind 42 = .ok (.aload_n 0, 1) := by decide +kernel
theorem dX15_wind_43 : decode cX15_wind 43 = .ok (.getfield 109, 3) := by decide +kernel
theorem dX15_wind_46 : decode cX15_wind 46 = .ok (.istore_n 3, 1) := by decide +kernel
theorem dX15_wind_47 : decode cX15_wind 47 = .ok (.aload_n 0, 1) := by decide +kernel
theorem dX15_wind_48 : decode cX15_wind 48 = .ok (.iload_n 1, 1) := by decide +kernel
theorem dX15_wind_49 : decode cX15_wind 49 = .ok (.putfield 65, 3) := by decide +kernel
theorem dX15_wind_52 : decode cX15_wind 52 = .ok (.aload_n 0, 1) := by decide +kernel
theorem dX15_wind_53 : decode cX15_wind 53 = .ok (.iload_n 2, 1) := by decide +kernel
theorem dX15_wind_54 : decode cX15_wind 54 = .ok (.putfield 109, 3) := by decide +kernel
theorem dX15_wind_57 : decode cX15_wind 57 = .ok (.iload_n 3, 1) := by decide +kernel
theorem dX15_wind_58 : decode cX15_wind 58 = .ok (.ireturn, 1) := by decide +kernel
set_option maxRecDepth 20000 in
theorem ggX15_current_X15_in : GoodIn wsX15_current wsX15_in := goodIn_r _ [9] (by decide +kernel) (by decide +kernel)
set_option maxRecDepth 20000 in
theorem gX15_current_X15_in : GoodIn wsX15_current (va_wsS RX15 120 yX15_in wsX15_in) := goodIn_app (goodIn_of _ (by decide +kernel)) ggX15_current_X15_in
theorem dX15_current_0 : decode cX15_current 0 = .ok (.aload_n 0, 1) := by decide +kernel
theorem dX15_current_1 : decode cX15_current 1 = .ok (.iload_n 1, 1) := by decide +kernel
theorem dX15_current_2 : decode cX15_current 2 = .ok (.i2l, 1) := by decide +kernel
theorem dX15_current_3 : decode cX15_current 3 = .ok (.ldc2_w 126, 3) := by decide +kernel
theorem dX15_current_6 : decode cX15_current 6 = .ok (.ldc2_w 128, 3) := by decide +kernel
theorem dX15_current_9 : decode cX15_current 9 = .ok (.invokestatic 120, 3) := by decide +kernel
theorem dX15_current_12 : decode cX15_current 12 = .ok (.ifCond .eq 17, 3) := by decide +kernel
theorem dX15_current_15 : decode cX15_current 15 = .ok (.iload_n 2, 1) := by decide +kernel
theorem dX15_current_16 : decode cX15_current 16 = .ok (.i2l, 1) := by decide +kernel
theorem dX15_current_17 : decode cX15_current 17 = .ok (.ldc2_w 126, 3) := by decide +kernel
theorem dX15_current_20 : decode cX15_current 20 = .ok (.ldc2_w 128, 3) := by decide +kernel
theorem dX15_current_23 : decode cX15_current 23 = .ok (.invokestatic 120, 3) := by decide +kernel
theorem dX15_current_26 : decode cX15_current 26 = .ok (.ifCond .ne 7, 3) := by decide +kernel
theorem dX15_current_29 : decode cX15_current 29 = .ok (.iconst 1, 1) := by decide +kernel
theorem dX15_current_30 : decode cX15_current 30 = .ok (.goto 4, 3) := by decide +kernel
theorem dX15_current_33 : decode cX15_current 33 = .ok (.iconst 0, 1) := by decide +kernel
theorem dX15_current_34 : decode cX15_current 34 = .ok (.putfield 45, 3) := by decide +kernel
theorem dX15_current_37 : decode cX15_current 37 = .ok (.aload_n 0, 1) := by decide +kernel
theorem dX15_current_38 : decode cX15_current 38 = .ok (.getfield 45, 3) := by decide +kernel
theorem dX15_current_41 : decode cX15_current 41 = .ok (.ifCond .le 5, 3) := by decide +kernel
theorem dX15_current_44 : decode cX15_current 44 = .ok (.iconst 0, 1) := by decide +kernel
theorem dX15_current_45 : decode cX15_current 45 = .ok (.ireturn, 1) := by decide +kernel
theorem dX15_current_46 : decode cX15_current 46 = .ok (.aload_n 0, 1) := by decide +kernel
theorem dX15_current_47 : decode cX15_current 47 = .ok (.getfield 130, 3) := by decide +kernel
theorem dX15_current_50 : decode cX15_current 50 = .ok (.ifCond .ne 10, 3) := by decide +kernel
theorem dX15_current_53 : decode cX15_current 53 = .ok (.aload_n 0, 1) := by decide +kernel
theorem dX15_current_54 : decode cX15_current 54 = .ok (.getfield 133, 3) := by decide +kernel
theorem dX15_current_57 : decode cX15_current 57 = .ok (.ifCond .eq 7, 3) := by decide +kernel
theorem dX15_current_64 : decode cX15_current 64 = .ok (.iconst 0, 1) := by decide +kernel
theorem dX15_current_65 : decode cX15_current 65 = .ok (.istore_n 3, 1) := by decide +kernel
theorem dX15_current_66 : decode cX15_current 66 = .ok (.aload_n 0, 1) := by decide +kernel
theorem dX15_current_67 : decode cX15_current 67 = .ok (.iload_n 1, 1) := by decide +kernel
theorem dX15_current_68 : decode cX15_current 68 = .ok (.putfield 130, 3) := by decide +kernel
theorem dX15_current_71 : decode cX15_current 71 = .ok (.aload_n 0, 1) := by decide +kernel
theorem dX15_current_72 : decode cX15_current 72 = .ok (.iload_n 2, 1) := by decide +kernel
theorem dX15_current_73 : decode cX15_current 73 = .ok (.putfield 133, 3) := by decide +kernel
theorem dX15_current_76 : decode cX15_current 76 = .ok (.iload_n 3, 1) := by decide +kernel
theorem dX15_current_77 : decode cX15_current 77 = .ok (.ireturn, 1) := by decide +kernel
set_option maxRecDepth 20000 in
theorem ggX15_helm_X15_in : GoodIn wsX15_helm wsX15_in := goodIn_r _ [8] (by decide +kernel) (by decide +kernel)
set_option maxRecDepth 20000 in
theorem gX15_helm_X15_in : GoodIn wsX15_helm (va_wsS RX15 120 yX15_in wsX15_in) := goodIn_app (goodIn_of _ (by decide +kernel)) ggX15_helm_X15_in
theorem dX15_helm_0 : decode cX15_helm 0 = .ok (.aload_n 0, 1) := by decide +kernel
theorem dX15_helm_1 : decode cX15_helm 1 = .ok (.iload_n 1, 1) := by decide +kernel
theorem dX15_helm_2 : decode cX15_helm 2 = .ok (.i2l, 1) := by decide +kernel
theorem dX15_helm_3 : decode cX15_helm 3 = .ok (.ldc2_w 136, 3) := by decide +kernel
theorem dX15_helm_6 : decode cX15_helm 6 = .ok (.ldc2_w 138, 3) := by decide +kernel
theorem dX15_helm_9 : decode cX15_helm 9 = .ok (.invokestatic 120, 3) := by decide +kernel
theorem dX15_helm_12 : decode cX15_helm 12 = .ok (.ifCond .eq 7, 3) := by decide +kernel
theorem dX15_helm_15 : decode cX15_helm 15 = .ok (.iconst 0, 1) := by decide +kernel
theorem dX15_helm_16 : decode cX15_helm 16 = .ok (.goto 4, 3) := by decide +kernel
theorem dX15_helm_19 : decode cX15_helm 19 = .ok (.iconst 1, 1) := by decide +kernel
theorem dX15_helm_20 : decode cX15_helm 20 = .ok (.putfield 45, 3) := by decide +kernel
theorem dX15_helm_23 : decode cX15_helm 23 = .ok (.aload_n 0, 1) := by decide +kernel
theorem dX15_helm_24 : decode cX15_helm 24 = .ok (.getfield 45, 3) := by decide +kernel
theorem dX15_helm_27 : decode cX15_helm 27 = .ok (.ifCond .le 5, 3) := by decide +kernel
theorem dX15_helm_30 : decode cX15_helm 30 = .ok (.iconst (-1), 1) := by decide +kernel
theorem dX15_helm_31 : decode cX15_helm 31 = .ok (.ireturn, 1) := by decide +kernel
theorem dX15_helm_32 : decode cX15_helm 32 = .ok (.aload_n 0, 1) := by decide +kernel
theorem dX15_helm_33 : decode cX15_helm 33 = .ok (.getfield 140, 3) := by decide +kernel
theorem dX15_helm_36 : decode cX15_helm 36 = .ok (.istore_n 2, 1) := by decide +kernel
theorem dX15_helm_37 : decode cX15_helm 37 = .ok (.aload_n 0, 1) := by decide +kernel
theorem dX15_helm_38 : decode cX15_helm 38 = .ok (.iload_n 1, 1) := by decide +kernel
theorem dX15_helm_39 : decode cX15_helm 39 = .ok (.putfield 140, 3) := by decide +kernel
theorem dX15_helm_42 : decode cX15_helm 42 = .ok (.iload_n 2, 1) := by decide +kernel
theorem dX15_helm_43 : decode cX15_helm 43 = .ok (.ireturn, 1) := by decide +kernel
set_option maxRecDepth 20000 in
theorem ggX15_belay_Jx4a65c_size_8abf5 : GoodIn wsX15_belay wsJx4a65c_size_8abf5 := goodIn_r _ [8, 9, 97, 98, 99] (by decide +kernel) (by decide +kernel)
set_option maxRecDepth 20000 in
theorem gX15_belay_Jx4a65c_size_8abf5_f156Jx4a65c : GoodIn wsX15_belay (va_wsF RX15 156 RJx4a65c ⟨"java/util/List", "size", "()I"⟩ yJx4a65c_size_8abf5 wsJx4a65c_size_8abf5) := goodIn_app (goodIn_of _ (by decide +kernel)) ggX15_belay_Jx4a65c_size_8abf5
set_option maxRecDepth 20000 in
theorem ggX15_belay_X15_in : GoodIn wsX15_belay wsX15_in := goodIn_r _ [13] (by decide +kernel) (by decide +kernel)
set_option maxRecDepth 20000 in
theorem gX15_belay_X15_in : GoodIn wsX15_belay (va_wsS RX15 120 yX15_in wsX15_in) := goodIn_app (goodIn_of _ (by decide +kernel)) ggX15_belay_X15_in
theorem dX15_belay_0 : decode cX15_belay 0 = .ok (.aload_n 0, 1) := by decide +kernel
theorem dX15_belay_1 : decode cX15_belay 1 = .ok (.iload_n 1, 1) := by decide +kernel
theorem dX15_belay_2 : decode cX15_belay 2 = .ok (.i2l, 1) := by decide +kernel
theorem dX15_belay_3 : decode cX15_belay 3 = .ok (.lconst 0, 1) := by decide +kernel
theorem dX15_belay_4 : decode cX15_belay 4 = .ok (.aload_n 0, 1) := by decide +kernel
theorem dX15_belay_5 : decode cX15_belay 5 = .ok (.getfield 19, 3) := by decide +kernel
theorem dX15_belay_8 : decode cX15_belay 8 = .ok (.invokeinterface 156 1, 5) := by decide +kernel
theorem dX15_belay_13 : decode cX15_belay 13 = .ok (.iconst 1, 1) := by decide +kernel
theorem dX15_belay_14 : decode cX15_belay 14 = .ok (.isub, 1) := by decide +kernel
theorem dX15_belay_15 : decode cX15_belay 15 = .ok (.i2l, 1) := by decide +kernel
theorem dX15_belay_16 : decode cX15_belay 16 = .ok (.invokestatic 120, 3) := by decide +kernel
theorem dX15_belay_19 : decode cX15_belay 19 = .ok (.ifCond .ne 7, 3) := by decide +kernel
theorem dX15_belay_22 : decode cX15_belay 22 = .ok (.iconst 1, 1) := by decide +kernel
theorem dX15_belay_23 : decode cX15_belay 23 = .ok (.goto 29, 3) := by decide +kernel
theorem dX15_belay_52 : decode cX15_belay 52 = .ok (.putfield 45, 3) := by decide +kernel
theorem dX15_belay_55 : decode cX15_belay 55 = .ok (.aload_n 0, 1) := by decide +kernel
theorem dX15_belay_56 : decode cX15_belay 56 = .ok (.getfield 45, 3) := by decide +kernel
theorem dX15_belay_59 : decode cX15_belay 59 = .ok (.ifCond .le 5, 3) := by decide +kernel
theorem dX15_belay_62 : decode cX15_belay 62 = .ok (.iconst (-1), 1) := by decide +kernel
theorem dX15_belay_63 : decode cX15_belay 63 = .ok (.ireturn, 1) := by decide +kernel
set_option maxRecDepth 20000 in
theorem ggX15_state_Jx4a65c_size_8abf5 : GoodIn wsX15_state wsJx4a65c_size_8abf5 := goodIn_r _ [8, 9, 65, 66, 67] (by decide +kernel) (by decide +kernel)
set_option maxRecDepth 20000 in
theorem gX15_state_Jx4a65c_size_8abf5_f156Jx4a65c : GoodIn wsX15_state (va_wsF RX15 156 RJx4a65c ⟨"java/util/List", "size", "()I"⟩ yJx4a65c_size_8abf5 wsJx4a65c_size_8abf5) := goodIn_app (goodIn_of _ (by decide +kernel)) ggX15_state_Jx4a65c_size_8abf5
set_option maxRecDepth 20000 in
theorem ggX15_state_X15_in : GoodIn wsX15_state wsX15_in := goodIn_r _ [13] (by decide +kernel) (by decide +kernel)
set_option maxRecDepth 20000 in
theorem gX15_state_X15_in : GoodIn wsX15_state (va_wsS RX15 120 yX15_in wsX15_in) := goodIn_app (goodIn_of _ (by decide +kernel)) ggX15_state_X15_in
theorem dX15_state_0 : decode cX15_state 0 = .ok (.aload_n 0, 1) := by decide +kernel
theorem dX15_state_1 : decode cX15_state 1 = .ok (.iload_n 1, 1) := by decide +kernel
theorem dX15_state_2 : decode cX15_state 2 = .ok (.i2l, 1) := by decide +kernel
theorem dX15_state_3 : decode cX15_state 3 = .ok (.lconst 0, 1) := by decide +kernel
theorem dX15_state_4 : decode cX15_state 4 = .ok (.aload_n 0, 1) := by decide +kernel
theorem dX15_state_5 : decode cX15_state 5 = .ok (.getfield 19, 3) := by decide +kernel
theorem dX15_state_8 : decode cX15_state 8 = .ok (.invokeinterface 156 1, 5) := by decide +kernel
theorem dX15_state_13 : decode cX15_state 13 = .ok (.iconst 1, 1) := by decide +kernel
theorem dX15_state_14 : decode cX15_state 14 = .ok (.isub, 1) := by decide +kernel
theorem dX15_state_15 : decode cX15_state 15 = .ok (.i2l, 1) := by decide +kernel
theorem dX15_state_16 : decode cX15_state 16 = .ok (.invokestatic 120, 3) := by decide +kernel
theorem dX15_state_19 : decode cX15_state 19 = .ok (.ifCond .eq 7, 3) := by decide +kernel
theorem dX15_state_26 : decode cX15_state 26 = .ok (.iconst 1, 1) := by decide +kernel
theorem dX15_state_27 : decode cX15_state 27 = .ok (.putfield 45, 3) := by decide +kernel
theorem dX15_state_30 : decode cX15_state 30 = .ok (.aload_n 0, 1) := by decide +kernel
theorem dX15_state_31 : decode cX15_state 31 = .ok (.getfield 45, 3) := by decide +kernel
theorem dX15_state_34 : decode cX15_state 34 = .ok (.ifCond .ne 22, 3) := by decide +kernel
theorem dX15_state_56 : decode cX15_state 56 = .ok (.bipush 32, 2) := by decide +kernel
theorem dX15_state_58 : decode cX15_state 58 = .ok (.ireturn, 1) := by decide +kernel
theorem dX15_callAll_0 : decode cX15_callAll 0 = .ok (.aload_n 0, 1) := by decide +kernel
theorem dX15_callAll_1 : decode cX15_callAll 1 = .ok (.iconst 0, 1) := by decide +kernel
theorem dX15_callAll_2 : decode cX15_callAll 2 = .ok (.putfield 45, 3) := by decide +kernel
theorem dX15_callAll_5 : decode cX15_callAll 5 = .ok (.aload_n 0, 1) := by decide +kernel
theorem dX15_callAll_6 : decode cX15_callAll 6 = .ok (.getfield 195, 3) := by decide +kernel
theorem dX15_callAll_9 : decode cX15_callAll 9 = .ok (.istore_n 2, 1) := by decide +kernel
theorem dX15_callAll_10 : decode cX15_callAll 10 = .ok (.aload_n 0, 1) := by decide +kernel
theorem dX15_callAll_11 : decode cX15_callAll 11 = .ok (.iload_n 1, 1) := by decide +kernel
theorem dX15_callAll_12 : decode cX15_callAll 12 = .ok (.putfield 195, 3) := by decide +kernel
theorem dX15_callAll_15 : decode cX15_callAll 15 = .ok (.iload_n 2, 1) := by decide +kernel
theorem dX15_callAll_16 : decode cX15_callAll 16 = .ok (.ireturn, 1) := by decide +kernel
theorem dX15_watch_0 : decode cX15_watch 0 = .ok (.aload_n 0, 1) := by decide +kernel
theorem dX15_watch_1 : decode cX15_watch 1 = .ok (.iconst 0, 1) := by decide +kernel
theorem dX15_watch_2 : decode cX15_watch 2 = .ok (.putfield 45, 3) := by decide +kernel
theorem dX15_watch_5 : decode cX15_watch 5 = .ok (.aload_n 0, 1) := by decide +kernel
theorem dX15_watch_6 : decode cX15_watch 6 = .ok (.getfield 199, 3) := by decide +kernel
theorem dX15_watch_9 : decode cX15_watch 9 = .ok (.ireturn, 1) := by decide +kernel
set_option maxRecDepth 20000 in
theorem ggX15_freeNow_Jx4a65c_iterator_32c93 : GoodIn wsX15_freeNow wsJx4a65c_iterator_32c93 := goodIn_r _ [14, 15, 16, 17, 18, 19, 20, 21, 22, 23, 24, 25, 26, 27, 28, 125, 126, 127, 128, 129, 130, 131] (by decide +kernel) (by decide +kernel)
set_option maxRecDepth 20000 in
theorem gX15_freeNow_Jx4a65c_iterator_32c93_f181Jx4a65c : GoodIn wsX15_freeNow (va_wsF RX15 181 RJx4a65c ⟨"java/util/List", "iterator", "()Ljava/util/Iterator;"⟩ yJx4a65c_iterator_32c93 wsJx4a65c_iterator_32c93) := goodIn_app (goodIn_of _ (by decide +kernel)) ggX15_freeNow_Jx4a65c_iterator_32c93
set_option maxRecDepth 20000 in
theorem ggX15_freeNow_Jx35411_hasNext_aae02 : GoodIn wsX15_freeNow wsJx35411_hasNext_aae02 := goodIn_r _ [32, 33, 21, 125, 126, 127, 128, 129, 130, 131] (by decide +kernel) (by decide +kernel)
set_option maxRecDepth 20000 in
theorem gX15_freeNow_Jx35411_hasNext_aae02_f185Jx35411 : GoodIn wsX15_freeNow (va_wsF RX15 185 RJx35411 ⟨"java/util/Iterator", "hasNext", "()Z"⟩ yJx35411_hasNext_aae02 wsJx35411_hasNext_aae02) := goodIn_app (goodIn_of _ (by decide +kernel)) ggX15_freeNow_Jx35411_hasNext_aae02
theorem dX15_freeNow_0 : decode cX15_freeNow 0 = .ok (.bipush 12, 2) := by decide +kernel
theorem dX15_freeNow_2 : decode cX15_freeNow 2 = .ok (.aload_n 0, 1) := by decide +kernel
theorem dX15_freeNow_3 : decode cX15_freeNow 3 = .ok (.getfield 13, 3) := by decide +kernel
theorem dX15_freeNow_6 : decode cX15_freeNow 6 = .ok (.aload_n 0, 1) := by decide +kernel
theorem dX15_freeNow_7 : decode cX15_freeNow 7 = .ok (.getfield 199, 3) := by decide +kernel
theorem dX15_freeNow_10 : decode cX15_freeNow 10 = .ok (.iaload, 1) := by decide +kernel
theorem dX15_freeNow_11 : decode cX15_freeNow 11 = .ok (.isub, 1) := by decide +kernel
theorem dX15_freeNow_12 : decode cX15_freeNow 12 = .ok (.aload_n 0, 1) := by decide +kernel
theorem dX15_freeNow_13 : decode cX15_freeNow 13 = .ok (.getfield 195, 3) := by decide +kernel
theorem dX15_freeNow_16 : decode cX15_freeNow 16 = .ok (.ifCond .eq 20, 3) := by decide +kernel
theorem dX15_freeNow_36 : decode cX15_freeNow 36 = .ok (.iconst 0, 1) := by decide +kernel
theorem dX15_freeNow_37 : decode cX15_freeNow 37 = .ok (.iadd, 1) := by decide +kernel
theorem dX15_freeNow_38 : decode cX15_freeNow 38 = .ok (.istore_n 1, 1) := by decide +kernel
theorem dX15_freeNow_39 : decode cX15_freeNow 39 = .ok (.aload_n 0, 1) := by decide +kernel
theorem dX15_freeNow_40 : decode cX15_freeNow 40 = .ok (.getfield 19, 3) := by decide +kernel
theorem dX15_freeNow_43 : decode cX15_freeNow 43 = .ok (.invokeinterface 181 1, 5) := by decide +kernel
theorem dX15_freeNow_48 : decode cX15_freeNow 48 = .ok (.astore_n 2, 1) := by decide +kernel
theorem dX15_freeNow_49 : decode cX15_freeNow 49 = .ok (.aload_n 2, 1) := by decide +kernel
theorem dX15_freeNow_50 : decode cX15_freeNow 50 = .ok (.invokeinterface 185 1, 5) := by decide +kernel
theorem dX15_freeNow_55 : decode cX15_freeNow 55 = .ok (.ifCond .eq 36, 3) := by decide +kernel
theorem dX15_freeNow_91 : decode cX15_freeNow 91 = .ok (.iconst 0, 1) := by decide +kernel
theorem dX15_freeNow_92 : decode cX15_freeNow 92 = .ok (.iload_n 1, 1) := by decide +kernel
theorem dX15_freeNow_93 : decode cX15_freeNow 93 = .ok (.invokestatic 102, 3) := by decide +kernel
theorem dX15_freeNow_96 : decode cX15_freeNow 96 = .ok (.ireturn, 1) := by decide +kernel
set_option maxRecDepth 20000 in
theorem ggX15_free_X15_freeNow : GoodIn wsX15_free wsX15_freeNow := goodIn_ca (goodIn_r _ [6, 7, 8, 9, 10, 11, 12, 13, 14, 15, 16, 17, 18, 19, 20, 21, 22, 23, 24, 25, 26, 27, 28, 29, 30, 31, 32, 33, 34, 35, 36, 37, 38, 39, 40, 41, 42, 43, 44, 45, 46, 47, 48, 49, 50, 5, 51, 52, 53, 54, 55, 56, 57, 58, 59, 60, 61, 62, 63, 64, 65, 66, 67, 68, 69, 70, 71, 72, 73, 74, 75, 76, 77, 78, 79, 80, 81, 82, 83, 84, 85, 86, 87, 88, 89, 90, 91, 92, 93, 94, 95, 96, 97, 98, 99, 100, 101, 102, 103, 104, 105, 106, 107, 108, 109, 110, 111, 112, 113, 114, 115, 116, 117, 118, 119, 120, 121, 122, 123, 124, 125, 126, 127, 128, 129, 130, 131, 132, 133, 134, 135, 136, 137, 138] (by decide +kernel) (by decide +kernel)) (goodIn_sub (fun _ h => List.mem_cons_of_mem _ (List.mem_append_right _ h)) (by decide +kernel))
set_option maxRecDepth 20000 in
theorem gX15_free_X15_freeNow : GoodIn wsX15_free (wsV RX15 214 RX15 yX15_freeNow wsX15_freeNow) := goodIn_app (goodIn_of _ (by decide +kernel)) ggX15_free_X15_freeNow
theorem dX15_free_0 : decode cX15_free 0 = .ok (.aload_n 0, 1) := by decide +kernel
theorem dX15_free_1 : decode cX15_free 1 = .ok (.iconst 0, 1) := by decide +kernel
theorem dX15_free_2 : decode cX15_free 2 = .ok (.putfield 45, 3) := by decide +kernel
theorem dX15_free_5 : decode cX15_free 5 = .ok (.aload_n 0, 1) := by decide +kernel
theorem dX15_free_6 : decode cX15_free 6 = .ok (.invokevirtual 214, 3) := by decide +kernel
theorem dX15_free_9 : decode cX15_free 9 = .ok (.ireturn, 1) := by decide +kernel
set_option maxRecDepth 20000 in
theorem ggX15_tired_X15_in : GoodIn wsX15_tired wsX15_in := goodIn_r _ [6] (by decide +kernel) (by decide +kernel)
set_option maxRecDepth 20000 in
theorem gX15_tired_X15_in : GoodIn wsX15_tired (va_wsS RX15 120 yX15_in wsX15_in) := goodIn_app (goodIn_of _ (by decide +kernel)) ggX15_tired_X15_in
theorem dX15_tired_0 : decode cX15_tired 0 = .ok (.aload_n 0, 1) := by decide +kernel
theorem dX15_tired_1 : decode cX15_tired 1 = .ok (.iload_n 1, 1) := by decide +kernel
theorem dX15_tired_2 : decode cX15_tired 2 = .ok (.i2l, 1) := by decide +kernel
theorem dX15_tired_3 : decode cX15_tired 3 = .ok (.lconst 0, 1) := by decide +kernel
theorem dX15_tired_4 : decode cX15_tired 4 = .ok (.lconst 1, 1) := by decide +kernel
theorem dX15_tired_5 : decode cX15_tired 5 = .ok (.invokestatic 120, 3) := by decide +kernel
theorem dX15_tired_8 : decode cX15_tired 8 = .ok (.ifCond .eq 7, 3) := by decide +kernel
theorem dX15_tired_11 : decode cX15_tired 11 = .ok (.iconst 0, 1) := by decide +kernel
theorem dX15_tired_12 : decode cX15_tired 12 = .ok (.goto 4, 3) := by decide +kernel
theorem dX15_tired_15 : decode cX15_tired 15 = .ok (.iconst 1, 1) := by decide +kernel
theorem dX15_tired_16 : decode cX15_tired 16 = .ok (.putfield 45, 3) := by decide +kernel
theorem dX15_tired_19 : decode cX15_tired 19 = .ok (.aload_n 0, 1) := by decide +kernel
theorem dX15_tired_20 : decode cX15_tired 20 = .ok (.getfield 45, 3) := by decide +kernel
theorem dX15_tired_23 : decode cX15_tired 23 = .ok (.ifCond .ne 12, 3) := by decide +kernel
theorem dX15_tired_26 : decode cX15_tired 26 = .ok (.aload_n 0, 1) := by decide +kernel
theorem dX15_tired_27 : decode cX15_tired 27 = .ok (.getfield 7, 3) := by decide +kernel
theorem dX15_tired_30 : decode cX15_tired 30 = .ok (.iload_n 1, 1) := by decide +kernel
theorem dX15_tired_31 : decode cX15_tired 31 = .ok (.iaload, 1) := by decide +kernel
theorem dX15_tired_32 : decode cX15_tired 32 = .ok (.goto 4, 3) := by decide +kernel
theorem dX15_tired_35 : decode cX15_tired 35 = .ok (.iconst (-1), 1) := by decide +kernel
theorem dX15_tired_36 : decode cX15_tired 36 = .ok (.ireturn, 1) := by decide +kernel
set_option maxRecDepth 20000 in
theorem ggX15_sick_X15_in : GoodIn wsX15_sick wsX15_in := goodIn_r _ [6] (by decide +kernel) (by decide +kernel)
set_option maxRecDepth 20000 in
theorem gX15_sick_X15_in : GoodIn wsX15_sick (va_wsS RX15 120 yX15_in wsX15_in) := goodIn_app (goodIn_of _ (by decide +kernel)) ggX15_sick_X15_in
theorem dX15_sick_0 : decode cX15_sick 0 = .ok (.aload_n 0, 1) := by decide +kernel
theorem dX15_sick_1 : decode cX15_sick 1 = .ok (.iload_n 1, 1) := by decide +kernel
theorem dX15_sick_2 : decode cX15_sick 2 = .ok (.i2l, 1) := by decide +kernel
theorem dX15_sick_3 : decode cX15_sick 3 = .ok (.lconst 0, 1) := by decide +kernel
theorem dX15_sick_4 : decode cX15_sick 4 = .ok (.lconst 1, 1) := by decide +kernel
theorem dX15_sick_5 : decode cX15_sick 5 = .ok (.invokestatic 120, 3) := by decide +kernel
theorem dX15_sick_8 : decode cX15_sick 8 = .ok (.ifCond .eq 7, 3) := by decide +kernel
theorem dX15_sick_11 : decode cX15_sick 11 = .ok (.iconst 0, 1) := by decide +kernel
theorem dX15_sick_12 : decode cX15_sick 12 = .ok (.goto 4, 3) := by decide +kernel
theorem dX15_sick_15 : decode cX15_sick 15 = .ok (.iconst 1, 1) := by decide +kernel
theorem dX15_sick_16 : decode cX15_sick 16 = .ok (.putfield 45, 3) := by decide +kernel
theorem dX15_sick_19 : decode cX15_sick 19 = .ok (.aload_n 0, 1) := by decide +kernel
theorem dX15_sick_20 : decode cX15_sick 20 = .ok (.getfield 45, 3) := by decide +kernel
theorem dX15_sick_23 : decode cX15_sick 23 = .ok (.ifCond .ne 12, 3) := by decide +kernel
theorem dX15_sick_26 : decode cX15_sick 26 = .ok (.aload_n 0, 1) := by decide +kernel
theorem dX15_sick_27 : decode cX15_sick 27 = .ok (.getfield 13, 3) := by decide +kernel
theorem dX15_sick_30 : decode cX15_sick 30 = .ok (.iload_n 1, 1) := by decide +kernel
theorem dX15_sick_31 : decode cX15_sick 31 = .ok (.iaload, 1) := by decide +kernel
theorem dX15_sick_32 : decode cX15_sick 32 = .ok (.goto 4, 3) := by decide +kernel
theorem dX15_sick_35 : decode cX15_sick 35 = .ok (.iconst (-1), 1) := by decide +kernel
theorem dX15_sick_36 : decode cX15_sick 36 = .ok (.ireturn, 1) := by decide +kernel
set_option maxRecDepth 20000 in
theorem ggX15_left_Jx4a65c_size_8abf5 : GoodIn wsX15_left wsJx4a65c_size_8abf5 := goodIn_r _ [8, 9, 61, 62, 63] (by decide +kernel) (by decide +kernel)
set_option maxRecDepth 20000 in
theorem gX15_left_Jx4a65c_size_8abf5_f156Jx4a65c : GoodIn wsX15_left (va_wsF RX15 156 RJx4a65c ⟨"java/util/List", "size", "()I"⟩ yJx4a65c_size_8abf5 wsJx4a65c_size_8abf5) := goodIn_app (goodIn_of _ (by decide +kernel)) ggX15_left_Jx4a65c_size_8abf5
set_option maxRecDepth 20000 in
theorem ggX15_left_X15_in : GoodIn wsX15_left wsX15_in := goodIn_r _ [13] (by decide +kernel) (by decide +kernel)
set_option maxRecDepth 20000 in
theorem gX15_left_X15_in : GoodIn wsX15_left (va_wsS RX15 120 yX15_in wsX15_in) := goodIn_app (goodIn_of _ (by decide +kernel)) ggX15_left_X15_in
theorem dX15_left_0 : decode cX15_left 0 = .ok (.aload_n 0, 1) := by decide +kernel
theorem dX15_left_1 : decode cX15_left 1 = .ok (.iload_n 1, 1) := by decide +kernel
theorem dX15_left_2 : decode cX15_left 2 = .ok (.i2l, 1) := by decide +kernel
theorem dX15_left_3 : decode cX15_left 3 = .ok (.lconst 0, 1) := by decide +kernel
theorem dX15_left_4 : decode cX15_left 4 = .ok (.aload_n 0, 1) := by decide +kernel
theorem dX15_left_5 : decode cX15_left 5 = .ok (.getfield 23, 3) := by decide +kernel
theorem dX15_left_8 : decode cX15_left 8 = .ok (.invokeinterface 156 1, 5) := by decide +kernel
theorem dX15_left_13 : decode cX15_left 13 = .ok (.iconst 1, 1) := by decide +kernel
theorem dX15_left_14 : decode cX15_left 14 = .ok (.isub, 1) := by decide +kernel
theorem dX15_left_15 : decode cX15_left 15 = .ok (.i2l, 1) := by decide +kernel
theorem dX15_left_16 : decode cX15_left 16 = .ok (.invokestatic 120, 3) := by decide +kernel
theorem dX15_left_19 : decode cX15_left 19 = .ok (.ifCond .eq 7, 3) := by decide +kernel
theorem dX15_left_26 : decode cX15_left 26 = .ok (.iconst 1, 1) := by decide +kernel
theorem dX15_left_27 : decode cX15_left 27 = .ok (.putfield 45, 3) := by decide +kernel
theorem dX15_left_30 : decode cX15_left 30 = .ok (.aload_n 0, 1) := by decide +kernel
theorem dX15_left_31 : decode cX15_left 31 = .ok (.getfield 45, 3) := by decide +kernel
theorem dX15_left_34 : decode cX15_left 34 = .ok (.ifCond .ne 22, 3) := by decide +kernel
theorem dX15_left_56 : decode cX15_left 56 = .ok (.iconst (-1), 1) := by decide +kernel
theorem dX15_left_57 : decode cX15_left 57 = .ok (.ireturn, 1) := by decide +kernel
set_option maxRecDepth 20000 in
theorem ggX15_jettison_Jx4a65c_isEmpty_aae02 : GoodIn wsX15_jettison wsJx4a65c_isEmpty_aae02 := goodIn_r _ [8, 9, 67, 68, 69] (by decide +kernel) (by decide +kernel)
set_option maxRecDepth 20000 in
theorem gX15_jettison_Jx4a65c_isEmpty_aae02_f227Jx4a65c : GoodIn wsX15_jettison (va_wsF RX15 227 RJx4a65c ⟨"java/util/List", "isEmpty", "()Z"⟩ yJx4a65c_isEmpty_aae02 wsJx4a65c_isEmpty_aae02) := goodIn_app (goodIn_of _ (by decide +kernel)) ggX15_jettison_Jx4a65c_isEmpty_aae02
theorem dX15_jettison_0 : decode cX15_jettison 0 = .ok (.aload_n 0, 1) := by decide +kernel
theorem dX15_jettison_1 : decode cX15_jettison 1 = .ok (.aload_n 0, 1) := by decide +kernel
theorem dX15_jettison_2 : decode cX15_jettison 2 = .ok (.getfield 23, 3) := by decide +kernel
theorem dX15_jettison_5 : decode cX15_jettison 5 = .ok (.invokeinterface 227 1, 5) := by decide +kernel
theorem dX15_jettison_10 : decode cX15_jettison 10 = .ok (.ifCond .eq 7, 3) := by decide +kernel
theorem dX15_jettison_13 : decode cX15_jettison 13 = .ok (.iconst 1, 1) := by decide +kernel
theorem dX15_jettison_14 : decode cX15_jettison 14 = .ok (.goto 4, 3) := by decide +kernel
theorem dX15_jettison_18 : decode cX15_jettison 18 = .ok (.putfield 45, 3) := by decide +kernel
theorem dX15_jettison_21 : decode cX15_jettison 21 = .ok (.aload_n 0, 1) := by decide +kernel
theorem dX15_jettison_22 : decode cX15_jettison 22 = .ok (.getfield 45, 3) := by decide +kernel
theorem dX15_jettison_25 : decode cX15_jettison 25 = .ok (.ifCond .ne 32, 3) := by decide +kernel
theorem dX15_jettison_57 : decode cX15_jettison 57 = .ok (.iconst (-1), 1) := by decide +kernel
theorem dX15_jettison_58 : decode cX15_jettison 58 = .ok (.ireturn, 1) := by decide +kernel
theorem dX15_sail_17 : decode cX15_sail 17 = .ok (.iconst 1, 1) := by decide +kernel
theorem dX15_sail_28 : decode cX15_sail 28 = .ok (.iconst (-1), 1) := by decide +kernel
theorem dX15_sail_29 : decode cX15_sail 29 = .ok (.ireturn, 1) := by decide +kernel
theorem dX15_minute_0 : decode cX15_minute 0 = .ok (.aload_n 0, 1) := by decide +kernel
theorem dX15_minute_1 : decode cX15_minute 1 = .ok (.iconst 0, 1) := by decide +kernel
theorem dX15_minute_2 : decode cX15_minute 2 = .ok (.putfield 45, 3) := by decide +kernel
theorem dX15_minute_5 : decode cX15_minute 5 = .ok (.aload_n 0, 1) := by decide +kernel
theorem dX15_minute_6 : decode cX15_minute 6 = .ok (.getfield 163, 3) := by decide +kernel
theorem dX15_minute_9 : decode cX15_minute 9 = .ok (.ireturn, 1) := by decide +kernel
theorem dX15_heading_0 : decode cX15_heading 0 = .ok (.aload_n 0, 1) := by decide +kernel
theorem dX15_heading_1 : decode cX15_heading 1 = .ok (.iconst 0, 1) := by decide +kernel
theorem dX15_heading_2 : decode cX15_heading 2 = .ok (.putfield 45, 3) := by decide +kernel
theorem dX15_heading_5 : decode cX15_heading 5 = .ok (.aload_n 0, 1) := by decide +kernel
theorem dX15_heading_6 : decode cX15_heading 6 = .ok (.getfield 68, 3) := by decide +kernel
theorem dX15_heading_9 : decode cX15_heading 9 = .ok (.ireturn, 1) := by decide +kernel
theorem dX15_speed_0 : decode cX15_speed 0 = .ok (.aload_n 0, 1) := by decide +kernel
theorem dX15_speed_1 : decode cX15_speed 1 = .ok (.iconst 0, 1) := by decide +kernel
theorem dX15_speed_2 : decode cX15_speed 2 = .ok (.putfield 45, 3) := by decide +kernel
theorem dX15_speed_5 : decode cX15_speed 5 = .ok (.aload_n 0, 1) := by decide +kernel
theorem dX15_speed_6 : decode cX15_speed 6 = .ok (.getfield 265, 3) := by decide +kernel
theorem dX15_speed_9 : decode cX15_speed 9 = .ok (.ireturn, 1) := by decide +kernel
theorem dX15_east_0 : decode cX15_east 0 = .ok (.aload_n 0, 1) := by decide +kernel
theorem dX15_east_1 : decode cX15_east 1 = .ok (.iconst 0, 1) := by decide +kernel
theorem dX15_east_2 : decode cX15_east 2 = .ok (.putfield 45, 3) := by decide +kernel
theorem dX15_east_5 : decode cX15_east 5 = .ok (.aload_n 0, 1) := by decide +kernel
theorem dX15_east_6 : decode cX15_east 6 = .ok (.getfield 281, 3) := by decide +kernel
theorem dX15_east_9 : decode cX15_east 9 = .ok (.lreturn, 1) := by decide +kernel
theorem dX15_north_0 : decode cX15_north 0 = .ok (.aload_n 0, 1) := by decide +kernel
theorem dX15_north_1 : decode cX15_north 1 = .ok (.iconst 0, 1) := by decide +kernel
theorem dX15_north_2 : decode cX15_north 2 = .ok (.putfield 45, 3) := by decide +kernel
theorem dX15_north_5 : decode cX15_north 5 = .ok (.aload_n 0, 1) := by decide +kernel
theorem dX15_north_6 : decode cX15_north 6 = .ok (.getfield 277, 3) := by decide +kernel
theorem dX15_north_9 : decode cX15_north 9 = .ok (.lreturn, 1) := by decide +kernel
set_option maxRecDepth 20000 in
theorem ggX15_off_X15_sideNow : GoodIn wsX15_off wsX15_sideNow := goodIn_r _ [6, 7, 8, 9, 5, 10, 11, 12, 13, 14, 15, 16, 25, 26, 27, 28, 29, 30, 31, 32, 33, 34, 35, 36, 37, 38, 39, 40, 41, 42, 43, 44, 45, 46, 47, 48, 49, 50, 51, 52] (by decide +kernel) (by decide +kernel)
set_option maxRecDepth 20000 in
theorem gX15_off_X15_sideNow : GoodIn wsX15_off (wsV RX15 81 RX15 yX15_sideNow wsX15_sideNow) := goodIn_app (goodIn_of _ (by decide +kernel)) ggX15_off_X15_sideNow
set_option maxRecDepth 20000 in
theorem ggX15_off_X15_points : GoodIn wsX15_off wsX15_points := goodIn_r _ [20, 21, 22, 23, 24, 7, 8, 9, 5, 10, 11, 12, 13, 14, 15, 16, 25, 26, 27, 28, 29, 30, 31, 32, 33, 34, 35, 36, 37, 38, 39, 40, 41, 42, 43, 44, 45, 46, 47, 48, 49, 50, 51, 52] (by decide +kernel) (by decide +kernel)
set_option maxRecDepth 20000 in
theorem gX15_off_X15_points : GoodIn wsX15_off (wsV RX15 78 RX15 yX15_points wsX15_points) := goodIn_app (goodIn_of _ (by decide +kernel)) ggX15_off_X15_points
theorem dX15_off_0 : decode cX15_off 0 = .ok (.aload_n 0, 1) := by decide +kernel
theorem dX15_off_1 : decode cX15_off 1 = .ok (.iconst 0, 1) := by decide +kernel
theorem dX15_off_2 : decode cX15_off 2 = .ok (.putfield 45, 3) := by decide +kernel
theorem dX15_off_5 : decode cX15_off 5 = .ok (.aload_n 0, 1) := by decide +kernel
theorem dX15_off_6 : decode cX15_off 6 = .ok (.invokevirtual 81, 3) := by decide +kernel
theorem dX15_off_9 : decode cX15_off 9 = .ok (.ifCond .ge 11, 3) := by decide +kernel
theorem dX15_off_20 : decode cX15_off 20 = .ok (.aload_n 0, 1) := by decide +kernel
theorem dX15_off_21 : decode cX15_off 21 = .ok (.invokevirtual 78, 3) := by decide +kernel
theorem dX15_off_24 : decode cX15_off 24 = .ok (.ireturn, 1) := by decide +kernel
set_option maxRecDepth 20000 in
theorem ggX15_best_X15_bestNow : GoodIn wsX15_best wsX15_bestNow := goodIn_r _ [6, 7, 8, 9, 10, 11, 12, 13, 5, 14, 15, 16, 17, 18, 19, 20, 21, 22, 23, 24, 25, 26, 27, 28, 29, 30, 31, 32, 33, 34, 35, 36, 37, 38, 39, 40, 41, 42, 43, 44, 45, 46, 47, 48, 49, 50, 51, 52, 53, 54, 55, 56] (by decide +kernel) (by decide +kernel)
set_option maxRecDepth 20000 in
theorem gX15_best_X15_bestNow : GoodIn wsX15_best (wsV RX15 96 RX15 yX15_bestNow wsX15_bestNow) := goodIn_app (goodIn_of _ (by decide +kernel)) ggX15_best_X15_bestNow
theorem dX15_best_0 : decode cX15_best 0 = .ok (.aload_n 0, 1) := by decide +kernel
theorem dX15_best_1 : decode cX15_best 1 = .ok (.iconst 0, 1) := by decide +kernel
theorem dX15_best_2 : decode cX15_best 2 = .ok (.putfield 45, 3) := by decide +kernel
theorem dX15_best_5 : decode cX15_best 5 = .ok (.aload_n 0, 1) := by decide +kernel
theorem dX15_best_6 : decode cX15_best 6 = .ok (.invokevirtual 96, 3) := by decide +kernel
theorem dX15_best_9 : decode cX15_best 9 = .ok (.ireturn, 1) := by decide +kernel
theorem dX15_noon_0 : decode cX15_noon 0 = .ok (.aload_n 0, 1) := by decide +kernel
theorem dX15_noon_1 : decode cX15_noon 1 = .ok (.iconst 0, 1) := by decide +kernel
theorem dX15_noon_2 : decode cX15_noon 2 = .ok (.putfield 45, 3) := by decide +kernel
theorem dX15_noon_5 : decode cX15_noon 5 = .ok (.aload_n 0, 1) := by decide +kernel
theorem dX15_noon_6 : decode cX15_noon 6 = .ok (.getfield 277, 3) := by decide +kernel
theorem dX15_noon_9 : decode cX15_noon 9 = .ok (.aload_n 0, 1) := by decide +kernel
theorem dX15_noon_10 : decode cX15_noon 10 = .ok (.getfield 294, 3) := by decide +kernel
theorem dX15_noon_13 : decode cX15_noon 13 = .ok (.lsub, 1) := by decide +kernel
theorem dX15_noon_14 : decode cX15_noon 14 = .ok (.lstore_n 1, 1) := by decide +kernel
theorem dX15_noon_15 : decode cX15_noon 15 = .ok (.aload_n 0, 1) := by decide +kernel
theorem dX15_noon_16 : decode cX15_noon 16 = .ok (.aload_n 0, 1) := by decide +kernel
theorem dX15_noon_17 : decode cX15_noon 17 = .ok (.getfield 277, 3) := by decide +kernel
theorem dX15_noon_20 : decode cX15_noon 20 = .ok (.putfield 294, 3) := by decide +kernel
theorem dX15_noon_23 : decode cX15_noon 23 = .ok (.lload_n 1, 1) := by decide +kernel
theorem dX15_noon_24 : decode cX15_noon 24 = .ok (.lreturn, 1) := by decide +kernel
theorem dX15_reckonedEast_0 : decode cX15_reckonedEast 0 = .ok (.aload_n 0, 1) := by decide +kernel
theorem dX15_reckonedEast_1 : decode cX15_reckonedEast 1 = .ok (.iconst 0, 1) := by decide +kernel
theorem dX15_reckonedEast_2 : decode cX15_reckonedEast 2 = .ok (.putfield 45, 3) := by decide +kernel
theorem dX15_reckonedEast_5 : decode cX15_reckonedEast 5 = .ok (.aload_n 0, 1) := by decide +kernel
theorem dX15_reckonedEast_6 : decode cX15_reckonedEast 6 = .ok (.getfield 297, 3) := by decide +kernel
theorem dX15_reckonedEast_9 : decode cX15_reckonedEast 9 = .ok (.lreturn, 1) := by decide +kernel
theorem dX15_reckonedNorth_0 : decode cX15_reckonedNorth 0 = .ok (.aload_n 0, 1) := by decide +kernel
theorem dX15_reckonedNorth_1 : decode cX15_reckonedNorth 1 = .ok (.iconst 0, 1) := by decide +kernel
theorem dX15_reckonedNorth_2 : decode cX15_reckonedNorth 2 = .ok (.putfield 45, 3) := by decide +kernel
theorem dX15_reckonedNorth_5 : decode cX15_reckonedNorth 5 = .ok (.aload_n 0, 1) := by decide +kernel
theorem dX15_reckonedNorth_6 : decode cX15_reckonedNorth 6 = .ok (.getfield 294, 3) := by decide +kernel
theorem dX15_reckonedNorth_9 : decode cX15_reckonedNorth 9 = .ok (.lreturn, 1) := by decide +kernel
set_option maxRecDepth 20000 in
theorem ggX15_lines_Jx4a65c_size_8abf5 : GoodIn wsX15_lines wsJx4a65c_size_8abf5 := goodIn_r _ [7, 8, 37, 38, 39] (by decide +kernel) (by decide +kernel)
set_option maxRecDepth 20000 in
theorem gX15_lines_Jx4a65c_size_8abf5_f156Jx4a65c : GoodIn wsX15_lines (va_wsF RX15 156 RJx4a65c ⟨"java/util/List", "size", "()I"⟩ yJx4a65c_size_8abf5 wsJx4a65c_size_8abf5) := goodIn_app (goodIn_of _ (by decide +kernel)) ggX15_lines_Jx4a65c_size_8abf5
theorem dX15_lines_0 : decode cX15_lines 0 = .ok (.aload_n 0, 1) := by decide +kernel
theorem dX15_lines_1 : decode cX15_lines 1 = .ok (.iconst 0, 1) := by decide +kernel
theorem dX15_lines_2 : decode cX15_lines 2 = .ok (.putfield 45, 3) := by decide +kernel
theorem dX15_lines_5 : decode cX15_lines 5 = .ok (.aload_n 0, 1) := by decide +kernel
theorem dX15_lines_6 : decode cX15_lines 6 = .ok (.getfield 26, 3) := by decide +kernel
theorem dX15_lines_9 : decode cX15_lines 9 = .ok (.invokeinterface 156 1, 5) := by decide +kernel
theorem dX15_lines_14 : decode cX15_lines 14 = .ok (.ireturn, 1) := by decide +kernel
set_option maxRecDepth 20000 in
theorem ggX15_line_Jx4a65c_size_8abf5 : GoodIn wsX15_line wsJx4a65c_size_8abf5 := goodIn_r _ [8, 9, 61, 62, 63] (by decide +kernel) (by decide +kernel)
set_option maxRecDepth 20000 in
theorem gX15_line_Jx4a65c_size_8abf5_f156Jx4a65c : GoodIn wsX15_line (va_wsF RX15 156 RJx4a65c ⟨"java/util/List", "size", "()I"⟩ yJx4a65c_size_8abf5 wsJx4a65c_size_8abf5) := goodIn_app (goodIn_of _ (by decide +kernel)) ggX15_line_Jx4a65c_size_8abf5
set_option maxRecDepth 20000 in
theorem ggX15_line_X15_in : GoodIn wsX15_line wsX15_in := goodIn_r _ [13] (by decide +kernel) (by decide +kernel)
set_option maxRecDepth 20000 in
theorem gX15_line_X15_in : GoodIn wsX15_line (va_wsS RX15 120 yX15_in wsX15_in) := goodIn_app (goodIn_of _ (by decide +kernel)) ggX15_line_X15_in
theorem dX15_line_0 : decode cX15_line 0 = .ok (.aload_n 0, 1) := by decide +kernel
theorem dX15_line_1 : decode cX15_line 1 = .ok (.iload_n 1, 1) := by decide +kernel
theorem dX15_line_2 : decode cX15_line 2 = .ok (.i2l, 1) := by decide +kernel
theorem dX15_line_3 : decode cX15_line 3 = .ok (.lconst 0, 1) := by decide +kernel
theorem dX15_line_4 : decode cX15_line 4 = .ok (.aload_n 0, 1) := by decide +kernel
theorem dX15_line_5 : decode cX15_line 5 = .ok (.getfield 26, 3) := by decide +kernel
theorem dX15_line_8 : decode cX15_line 8 = .ok (.invokeinterface 156 1, 5) := by decide +kernel
theorem dX15_line_13 : decode cX15_line 13 = .ok (.iconst 1, 1) := by decide +kernel
theorem dX15_line_14 : decode cX15_line 14 = .ok (.isub, 1) := by decide +kernel
theorem dX15_line_15 : decode cX15_line 15 = .ok (.i2l, 1) := by decide +kernel
theorem dX15_line_16 : decode cX15_line 16 = .ok (.invokestatic 120, 3) := by decide +kernel
theorem dX15_line_19 : decode cX15_line 19 = .ok (.ifCond .eq 7, 3) := by decide +kernel
theorem dX15_line_26 : decode cX15_line 26 = .ok (.iconst 1, 1) := by decide +kernel
theorem dX15_line_27 : decode cX15_line 27 = .ok (.putfield 45, 3) := by decide +kernel
theorem dX15_line_30 : decode cX15_line 30 = .ok (.aload_n 0, 1) := by decide +kernel
theorem dX15_line_31 : decode cX15_line 31 = .ok (.getfield 45, 3) := by decide +kernel
theorem dX15_line_34 : decode cX15_line 34 = .ok (.ifCond .ne 22, 3) := by decide +kernel
theorem dX15_line_56 : decode cX15_line 56 = .ok (.bipush 32, 2) := by decide +kernel
theorem dX15_line_58 : decode cX15_line 58 = .ok (.ireturn, 1) := by decide +kernel
set_option maxRecDepth 20000 in
theorem ggX15_lineMinute_Jx4a65c_size_8abf5 : GoodIn wsX15_lineMinute wsJx4a65c_size_8abf5 := goodIn_r _ [8, 9, 61, 62, 63] (by decide +kernel) (by decide +kernel)
set_option maxRecDepth 20000 in
theorem gX15_lineMinute_Jx4a65c_size_8abf5_f156Jx4a65c : GoodIn wsX15_lineMinute (va_wsF RX15 156 RJx4a65c ⟨"java/util/List", "size", "()I"⟩ yJx4a65c_size_8abf5 wsJx4a65c_size_8abf5) := goodIn_app (goodIn_of _ (by decide +kernel)) ggX15_lineMinute_Jx4a65c_size_8abf5
set_option maxRecDepth 20000 in
theorem ggX15_lineMinute_X15_in : GoodIn wsX15_lineMinute wsX15_in := goodIn_r _ [13] (by decide +kernel) (by decide +kernel)
set_option maxRecDepth 20000 in
theorem gX15_lineMinute_X15_in : GoodIn wsX15_lineMinute (va_wsS RX15 120 yX15_in wsX15_in) := goodIn_app (goodIn_of _ (by decide +kernel)) ggX15_lineMinute_X15_in
theorem dX15_lineMinute_0 : decode cX15_lineMinute 0 = .ok (.aload_n 0, 1) := by decide +kernel
theorem dX15_lineMinute_1 : decode cX15_lineMinute 1 = .ok (.iload_n 1, 1) := by decide +kernel
theorem dX15_lineMinute_2 : decode cX15_lineMinute 2 = .ok (.i2l, 1) := by decide +kernel
theorem dX15_lineMinute_3 : decode cX15_lineMinute 3 = .ok (.lconst 0, 1) := by decide +kernel
theorem dX15_lineMinute_4 : decode cX15_lineMinute 4 = .ok (.aload_n 0, 1) := by decide +kernel
theorem dX15_lineMinute_5 : decode cX15_lineMinute 5 = .ok (.getfield 26, 3) := by decide +kernel
theorem dX15_lineMinute_8 : decode cX15_lineMinute 8 = .ok (.invokeinterface 156 1, 5) := by decide +kernel
theorem dX15_lineMinute_13 : decode cX15_lineMinute 13 = .ok (.iconst 1, 1) := by decide +kernel
theorem dX15_lineMinute_14 : decode cX15_lineMinute 14 = .ok (.isub, 1) := by decide +kernel
theorem dX15_lineMinute_15 : decode cX15_lineMinute 15 = .ok (.i2l, 1) := by decide +kernel
theorem dX15_lineMinute_16 : decode cX15_lineMinute 16 = .ok (.invokestatic 120, 3) := by decide +kernel
theorem dX15_lineMinute_19 : decode cX15_lineMinute 19 = .ok (.ifCond .eq 7, 3) := by decide +kernel
theorem dX15_lineMinute_26 : decode cX15_lineMinute 26 = .ok (.iconst 1, 1) := by decide +kernel
theorem dX15_lineMinute_27 : decode cX15_lineMinute 27 = .ok (.putfield 45, 3) := by decide +kernel
theorem dX15_lineMinute_30 : decode cX15_lineMinute 30 = .ok (.aload_n 0, 1) := by decide +kernel
theorem dX15_lineMinute_31 : decode cX15_lineMinute 31 = .ok (.getfield 45, 3) := by decide +kernel
theorem dX15_lineMinute_34 : decode cX15_lineMinute 34 = .ok (.ifCond .ne 22, 3) := by decide +kernel
theorem dX15_lineMinute_56 : decode cX15_lineMinute 56 = .ok (.iconst (-1), 1) := by decide +kernel
theorem dX15_lineMinute_57 : decode cX15_lineMinute 57 = .ok (.ireturn, 1) := by decide +kernel
theorem dX15_setShare_0 : decode cX15_setShare 0 = .ok (.aload_n 0, 1) := by decide +kernel
theorem dX15_setShare_1 : decode cX15_setShare 1 = .ok (.iconst 0, 1) := by decide +kernel
theorem dX15_setShare_2 : decode cX15_setShare 2 = .ok (.putfield 45, 3) := by decide +kernel
theorem dX15_setShare_5 : decode cX15_setShare 5 = .ok (.iconst 0, 1) := by decide +kernel
theorem dX15_setShare_6 : decode cX15_setShare 6 = .ok (.istore_n 1, 1) := by decide +kernel
theorem dX15_setShare_7 : decode cX15_setShare 7 = .ok (.aload_n 0, 1) := by decide +kernel
theorem dX15_setShare_8 : decode cX15_setShare 8 = .ok (.getfield 29, 3) := by decide +kernel
theorem dX15_setShare_11 : decode cX15_setShare 11 = .ok (.astore_n 2, 1) := by decide +kernel
theorem dX15_setShare_12 : decode cX15_setShare 12 = .ok (.aload_n 2, 1) := by decide +kernel
theorem dX15_setShare_13 : decode cX15_setShare 13 = .ok (.arraylength, 1) := by decide +kernel
theorem dX15_setShare_14 : decode cX15_setShare 14 = .ok (.istore_n 3, 1) := by decide +kernel
theorem dX15_setShare_15 : decode cX15_setShare 15 = .ok (.iconst 0, 1) := by decide +kernel
theorem dX15_setShare_16 : decode cX15_setShare 16 = .ok (.istore 4, 2) := by decide +kernel
theorem dX15_setShare_18 : decode cX15_setShare 18 = .ok (.iload 4, 2) := by decide +kernel
theorem dX15_setShare_20 : decode cX15_setShare 20 = .ok (.iload_n 3, 1) := by decide +kernel
theorem dX15_setShare_21 : decode cX15_setShare 21 = .ok (.if_icmp .ge 28, 3) := by decide +kernel
theorem dX15_setShare_24 : decode cX15_setShare 24 = .ok (.aload_n 2, 1) := by decide +kernel
theorem dX15_setShare_25 : decode cX15_setShare 25 = .ok (.iload 4, 2) := by decide +kernel
theorem dX15_setShare_27 : decode cX15_setShare 27 = .ok (.iaload, 1) := by decide +kernel
theorem dX15_setShare_28 : decode cX15_setShare 28 = .ok (.istore 5, 2) := by decide +kernel
theorem dX15_setShare_30 : decode cX15_setShare 30 = .ok (.iload_n 1, 1) := by decide +kernel
theorem dX15_setShare_31 : decode cX15_setShare 31 = .ok (.iload 5, 2) := by decide +kernel
theorem dX15_setShare_33 : decode cX15_setShare 33 = .ok (.ifCond .le 7, 3) := by decide +kernel
theorem dX15_setShare_40 : decode cX15_setShare 40 = .ok (.iconst 0, 1) := by decide +kernel
theorem dX15_setShare_41 : decode cX15_setShare 41 = .ok (.iadd, 1) := by decide +kernel
theorem dX15_setShare_42 : decode cX15_setShare 42 = .ok (.istore_n 1, 1) := by decide +kernel
theorem dX15_setShare_43 : decode cX15_setShare 43 = .ok (.iinc 4 1, 3) := by decide +kernel
theorem dX15_setShare_46 : decode cX15_setShare 46 = .ok (.goto (-28), 3) := by decide +kernel
theorem dX15_setShare_49 : decode cX15_setShare 49 = .ok (.iload_n 1, 1) := by decide +kernel
theorem dX15_setShare_50 : decode cX15_setShare 50 = .ok (.i2f, 1) := by decide +kernel
theorem dX15_setShare_51 : decode cX15_setShare 51 = .ok (.ldc_w 332, 3) := by decide +kernel
theorem dX15_setShare_54 : decode cX15_setShare 54 = .ok (.fdiv, 1) := by decide +kernel
theorem dX15_setShare_55 : decode cX15_setShare 55 = .ok (.freturn, 1) := by decide +kernel
theorem dX15_meanStrength_0 : decode cX15_meanStrength 0 = .ok (.iconst 0, 1) := by decide +kernel
theorem dX15_meanStrength_1 : decode cX15_meanStrength 1 = .ok (.istore_n 1, 1) := by decide +kernel
theorem dX15_meanStrength_2 : decode cX15_meanStrength 2 = .ok (.iconst 0, 1) := by decide +kernel
theorem dX15_meanStrength_3 : decode cX15_meanStrength 3 = .ok (.istore_n 2, 1) := by decide +kernel
theorem dX15_meanStrength_4 : decode cX15_meanStrength 4 = .ok (.iconst 0, 1) := by decide +kernel
theorem dX15_meanStrength_5 : decode cX15_meanStrength 5 = .ok (.istore_n 3, 1) := by decide +kernel
theorem dX15_meanStrength_6 : decode cX15_meanStrength 6 = .ok (.iload_n 3, 1) := by decide +kernel
theorem dX15_meanStrength_7 : decode cX15_meanStrength 7 = .ok (.bipush 9, 2) := by decide +kernel
theorem dX15_meanStrength_9 : decode cX15_meanStrength 9 = .ok (.if_icmp .ge 48, 3) := by decide +kernel
theorem dX15_meanStrength_12 : decode cX15_meanStrength 12 = .ok (.iload_n 1, 1) := by decide +kernel
theorem dX15_meanStrength_13 : decode cX15_meanStrength 13 = .ok (.aload_n 0, 1) := by decide +kernel
theorem dX15_meanStrength_14 : decode cX15_meanStrength 14 = .ok (.getfield 35, 3) := by decide +kernel
theorem dX15_meanStrength_17 : decode cX15_meanStrength 17 = .ok (.iload_n 3, 1) := by decide +kernel
theorem dX15_meanStrength_18 : decode cX15_meanStrength 18 = .ok (.baload, 1) := by decide +kernel
theorem dX15_meanStrength_19 : decode cX15_meanStrength 19 = .ok (.ifCond .eq 7, 3) := by decide +kernel
theorem dX15_meanStrength_26 : decode cX15_meanStrength 26 = .ok (.iconst 1, 1) := by decide +kernel
theorem dX15_meanStrength_27 : decode cX15_meanStrength 27 = .ok (.iadd, 1) := by decide +kernel
theorem dX15_meanStrength_28 : decode cX15_meanStrength 28 = .ok (.istore_n 1, 1) := by decide +kernel
theorem dX15_meanStrength_29 : decode cX15_meanStrength 29 = .ok (.iload_n 2, 1) := by decide +kernel
theorem dX15_meanStrength_30 : decode cX15_meanStrength 30 = .ok (.aload_n 0, 1) := by decide +kernel
theorem dX15_meanStrength_31 : decode cX15_meanStrength 31 = .ok (.getfield 35, 3) := by decide +kernel
theorem dX15_meanStrength_34 : decode cX15_meanStrength 34 = .ok (.iload_n 3, 1) := by decide +kernel
theorem dX15_meanStrength_35 : decode cX15_meanStrength 35 = .ok (.baload, 1) := by decide +kernel
theorem dX15_meanStrength_36 : decode cX15_meanStrength 36 = .ok (.ifCond .eq 7, 3) := by decide +kernel
theorem dX15_meanStrength_43 : decode cX15_meanStrength 43 = .ok (.aload_n 0, 1) := by decide +kernel
theorem dX15_meanStrength_44 : decode cX15_meanStrength 44 = .ok (.getfield 32, 3) := by decide +kernel
theorem dX15_meanStrength_47 : decode cX15_meanStrength 47 = .ok (.iload_n 3, 1) := by decide +kernel
theorem dX15_meanStrength_48 : decode cX15_meanStrength 48 = .ok (.iaload, 1) := by decide +kernel
theorem dX15_meanStrength_49 : decode cX15_meanStrength 49 = .ok (.iadd, 1) := by decide +kernel
theorem dX15_meanStrength_50 : decode cX15_meanStrength 50 = .ok (.istore_n 2, 1) := by decide +kernel
theorem dX15_meanStrength_51 : decode cX15_meanStrength 51 = .ok (.iinc 3 1, 3) := by decide +kernel
theorem dX15_meanStrength_54 : decode cX15_meanStrength 54 = .ok (.goto (-48), 3) := by decide +kernel
theorem dX15_meanStrength_57 : decode cX15_meanStrength 57 = .ok (.aload_n 0, 1) := by decide +kernel
theorem dX15_meanStrength_58 : decode cX15_meanStrength 58 = .ok (.iload_n 1, 1) := by decide +kernel
theorem dX15_meanStrength_59 : decode cX15_meanStrength 59 = .ok (.ifCond .ne 7, 3) := by decide +kernel
theorem dX15_meanStrength_66 : decode cX15_meanStrength 66 = .ok (.iconst 0, 1) := by decide +kernel
theorem dX15_meanStrength_67 : decode cX15_meanStrength 67 = .ok (.putfield 45, 3) := by decide +kernel
theorem dX15_meanStrength_70 : decode cX15_meanStrength 70 = .ok (.aload_n 0, 1) := by decide +kernel
theorem dX15_meanStrength_71 : decode cX15_meanStrength 71 = .ok (.getfield 45, 3) := by decide +kernel
theorem dX15_meanStrength_74 : decode cX15_meanStrength 74 = .ok (.ifCond .ne 11, 3) := by decide +kernel
theorem dX15_meanStrength_77 : decode cX15_meanStrength 77 = .ok (.iload_n 2, 1) := by decide +kernel
theorem dX15_meanStrength_78 : decode cX15_meanStrength 78 = .ok (.i2d, 1) := by decide +kernel
theorem dX15_meanStrength_79 : decode cX15_meanStrength 79 = .ok (.iload_n 1, 1) := by decide +kernel
theorem dX15_meanStrength_80 : decode cX15_meanStrength 80 = .ok (.i2d, 1) := by decide +kernel
theorem dX15_meanStrength_81 : decode cX15_meanStrength 81 = .ok (.ddiv, 1) := by decide +kernel
theorem dX15_meanStrength_82 : decode cX15_meanStrength 82 = .ok (.goto 4, 3) := by decide +kernel
theorem dX15_meanStrength_86 : decode cX15_meanStrength 86 = .ok (.dreturn, 1) := by decide +kernel
theorem dX15_isSame_0 : decode cX15_isSame 0 = .ok (.aload_n 0, 1) := by decide +kernel
theorem dX15_isSame_1 : decode cX15_isSame 1 = .ok (.iconst 0, 1) := by decide +kernel
theorem dX15_isSame_2 : decode cX15_isSame 2 = .ok (.putfield 45, 3) := by decide +kernel
theorem dX15_isSame_5 : decode cX15_isSame 5 = .ok (.iconst 1, 1) := by decide +kernel
theorem dX15_isSame_6 : decode cX15_isSame 6 = .ok (.ireturn, 1) := by decide +kernel
theorem dJx4a65c_isEmpty_aae02_0 : decode cJx4a65c_isEmpty_aae02 0 = .ok (.aload_n 0, 1) := by decide +kernel
theorem dJx4a65c_isEmpty_aae02_1 : decode cJx4a65c_isEmpty_aae02 1 = .ok (.getfield 48, 3) := by decide +kernel
theorem dJx4a65c_isEmpty_aae02_4 : decode cJx4a65c_isEmpty_aae02 4 = .ok (.ifCond .ne 7, 3) := by decide +kernel
theorem dJx4a65c_isEmpty_aae02_7 : decode cJx4a65c_isEmpty_aae02 7 = .ok (.iconst 1, 1) := by decide +kernel
theorem dJx4a65c_isEmpty_aae02_8 : decode cJx4a65c_isEmpty_aae02 8 = .ok (.goto 4, 3) := by decide +kernel
theorem dJx4a65c_isEmpty_aae02_12 : decode cJx4a65c_isEmpty_aae02 12 = .ok (.ireturn, 1) := by decide +kernel
abbrev wd_k_m_thrown (z : Nat → Nat) (mo : Nat) (ti : Nat) (si : Nat) (lo : Nat) (lh : Nat) (lk : Nat) (sp : Nat) (st : Nat) (pa : Nat) (br : Nat) (sg : Nat) (y0 : Int32) (y1 : Int32) (y2 : Int32) (y3 : Int32) (y4 : Int32) (y5 : Int32) (y6 : Int32) (y17 : Int32) (y18 : Int32) (y19 : Int32) (y20 : Int32) (y21 : Int32) (y22 : Int32) (y23 : Int64) (y24 : Int64) (y25 : Int64) (y26 : Int64) (y27 : Int32) : va_W := [(mo, .inr (19, [.int y0, .int y1, .int y2, .int y3, .int y4, .int y5, .int y6, .ref ti, .ref si, .ref lo, .ref lh, .ref lk, .ref sp, .ref st, .ref pa, .ref br, .ref sg, .int y17, .int y18, .int y19, .int y20, .int y21, .int y22, .long y23, .long y24, .long y25, .long y26, .int y27]))]
set_option maxHeartbeats 4000000 in
set_option maxRecDepth 100000 in
theorem k_m_thrown (l : Launch) (dC : Nat → ClassId) (dI : Nat → Nat → Nat) (z zK zV : Nat → Nat) (mo : Nat) (ti : Nat) (si : Nat) (lo : Nat) (lh : Nat) (lk : Nat) (sp : Nat) (st : Nat) (pa : Nat) (br : Nat) (sg : Nat) (y0 : Int32) (y1 : Int32) (y2 : Int32) (y3 : Int32) (y4 : Int32) (y5 : Int32) (y6 : Int32) (y17 : Int32) (y18 : Int32) (y19 : Int32) (y20 : Int32) (y21 : Int32) (y22 : Int32) (y23 : Int64) (y24 : Int64) (y25 : Int64) (y26 : Int64) (y27 : Int32) (sz : Nat)  : Met l yX15_thrown wsX15_thrown ({ frames := 0, cells := 0, slots := 0, locals := 0 }) (kP dC dI z zK zV [.ref mo] sz (wd_k_m_thrown z mo ti si lo lh lk sp st pa br sg y0 y1 y2 y3 y4 y5 y6 y17 y18 y19 y20 y21 y22 y23 y24 y25 y26 y27) []) (va_Qi (fun (r : Int32) (_ : Unit) => y27 = r) (fun _ t => kB (dC, dI) (va_A (wd_k_m_thrown z mo ti si lo lh lk sp st pa br sg y0 y1 y2 y3 y4 y5 y6 y17 y18 y19 y20 y21 y22 y23 y24 y25 y26 y27) sz) [(mo, .inr (19, [.int y0, .int y1, .int y2, .int y3, .int y4, .int y5, .int y6, .ref ti, .ref si, .ref lo, .ref lh, .ref lk, .ref sp, .ref st, .ref pa, .ref br, .ref sg, .int y17, .int y18, .int y19, .int y20, .int y21, .int y22, .long y23, .long y24, .long y25, .long y26, .int y27]))] [] t) (va_A (wd_k_m_thrown z mo ti si lo lh lk sp st pa br sg y0 y1 y2 y3 y4 y5 y6 y17 y18 y19 y20 y21 y22 y23 y24 y25 y26 y27) sz)) 0 0 (va_A (wd_k_m_thrown z mo ti si lo lh lk sp st pa br sg y0 y1 y2 y3 y4 y5 y6 y17 y18 y19 y20 y21 y22 y23 y24 y25 y26 y27) sz) := by
  refine Met.ofW (cc := cX15_thrown) (maxL := 1) (ret := (some .int)) (by decide) rfl ?_
  intro p e s m args below meth c s₁ B hml hv
  obtain ⟨rfl, hsz, hP, hK, hD0, hM⟩ := hv
  have hx := B.exec
  have hb := B.bytes
  have hr := B.returns
  have hts := atoms_spec (ws := wsX15_thrown) B.pre
  have hown : s.vm.findClass RX15 = some m.cls := findClass_of_methodNamed B.named
  have hlocks := B.notSynchronized
  have hiX15 : ∀ w ∈ u_ws RX15 TX15 28, w ∈ wsX15_thrown := by decide +kernel
  subst hsz
  have hD := hD0.self (sz := s.heap.size)
  generalize hAe : va_A (wd_k_m_thrown z mo ti si lo lh lk sp st pa br sg y0 y1 y2 y3 y4 y5 y6 y17 y18 y19 y20 y21 y22 y23 y24 y25 y26 y27) s.heap.size = A at hD hM ⊢
  have hA : ∀ q : Nat, s.heap.size ≤ q → A q := fun q h => by rw [← hAe]; exact Or.inr h
  have hS : va_S A s.heap s.heap [] := va_S.rf
  have hP : va_P (dC, dI) vwCl [(mo, .inr (19, [.int y0, .int y1, .int y2, .int y3, .int y4, .int y5, .int y6, .ref ti, .ref si, .ref lo, .ref lh, .ref lk, .ref sp, .ref st, .ref pa, .ref br, .ref sg, .int y17, .int y18, .int y19, .int y20, .int y21, .int y22, .long y23, .long y24, .long y25, .long y26, .int y27]))] s.heap := hP
  have hD : va_D A [(mo, .inr (19, [.int y0, .int y1, .int y2, .int y3, .int y4, .int y5, .int y6, .ref ti, .ref si, .ref lo, .ref lh, .ref lk, .ref sp, .ref st, .ref pa, .ref br, .ref sg, .int y17, .int y18, .int y19, .int y20, .int y21, .int y22, .long y23, .long y24, .long y25, .long y26, .int y27]))] := hD
  have hl := lv_entry ([.ref mo]) (n := 1) (Nat.le_of_ble_eq_true rfl)
  rw [lg_entry_eq]
  generalize (lg_sl ([.ref mo]) ++ List.replicate (1 - (lg_sl ([.ref mo])).length) Slot.unset).toArray = ls at hl ⊢
  have hl : lv_has ls 1 [(0, .ref mo)] := hl
  refine lv_aload_n hx hb dX15_thrown_0 rfl (lv_at hl 0 rfl) ?_
  refine va_get (D := (dC, dI)) (ci := 19) (v := .int y27) (C := RX15) (T := TX15) (N := 28) hx hb hts hiX15 hown hK hP 0 rfl rfl 27 (by decide) (hts (.fieldLink RX15 45 "SquareRigModel" "thrown" "I") (by decide +kernel)) (fun _ h9 => h9) rfl dX15_thrown_1 ?_
  exact W.iret (v := y27) hx hb hr (fun t ht hW => ⟨⟨y27, (), rfl, rfl, kB_end (w9 := [(mo, .inr (19, [.int y0, .int y1, .int y2, .int y3, .int y4, .int y5, .int y6, .ref ti, .ref si, .ref lo, .ref lh, .ref lk, .ref sp, .ref st, .ref pa, .ref br, .ref sg, .int y17, .int y18, .int y19, .int y20, .int y21, .int y22, .long y23, .long y24, .long y25, .long y26, .int y27]))]) (t9 := []) hP hK hD [0] [] rfl (by decide) rfl rfl t ht hW⟩, hS.F ht⟩) hS.2.2 dX15_thrown_4
abbrev wd_k_m_watch (z : Nat → Nat) (mo : Nat) (ti : Nat) (si : Nat) (lo : Nat) (lh : Nat) (lk : Nat) (sp : Nat) (st : Nat) (pa : Nat) (br : Nat) (sg : Nat) (th : Int32) : va_W := [(mo, .inr (19, [.int 0, .int 0, .int 0, .int 0, .int 0, .int 0, .int 0, .ref ti, .ref si, .ref lo, .ref lh, .ref lk, .ref sp, .ref st, .ref pa, .ref br, .ref sg, .int 0, .int 0, .int 0, .int 0, .int 0, .int 0, .long 0, .long 0, .long 0, .long 0, .int th]))]
set_option maxHeartbeats 4000000 in
set_option maxRecDepth 100000 in
theorem k_m_watch (l : Launch) (dC : Nat → ClassId) (dI : Nat → Nat → Nat) (z zK zV : Nat → Nat) (mo : Nat) (ti : Nat) (si : Nat) (lo : Nat) (lh : Nat) (lk : Nat) (sp : Nat) (st : Nat) (pa : Nat) (br : Nat) (sg : Nat) (th : Int32) (sz : Nat)  : Met l yX15_watch wsX15_watch ({ frames := 0, cells := 0, slots := 0, locals := 0 }) (kP dC dI z zK zV [.ref mo] sz (wd_k_m_watch z mo ti si lo lh lk sp st pa br sg th) []) (va_Qi (fun (r : Int32) (_ : Unit) => 0 = r) (fun _ t => kB (dC, dI) (va_A (wd_k_m_watch z mo ti si lo lh lk sp st pa br sg th) sz) [(mo, .inr (19, [.int 0, .int 0, .int 0, .int 0, .int 0, .int 0, .int 0, .ref ti, .ref si, .ref lo, .ref lh, .ref lk, .ref sp, .ref st, .ref pa, .ref br, .ref sg, .int 0, .int 0, .int 0, .int 0, .int 0, .int 0, .long 0, .long 0, .long 0, .long 0, .int 0]))] [] t) (va_A (wd_k_m_watch z mo ti si lo lh lk sp st pa br sg th) sz)) 0 0 (va_A (wd_k_m_watch z mo ti si lo lh lk sp st pa br sg th) sz) := by
  refine Met.ofW (cc := cX15_watch) (maxL := 1) (ret := (some .int)) (by decide) rfl ?_
  intro p e s m args below meth c s₁ B hml hv
  obtain ⟨rfl, hsz, hP, hK, hD0, hM⟩ := hv
  have hx := B.exec
  have hb := B.bytes
  have hr := B.returns
  have hts := atoms_spec (ws := wsX15_watch) B.pre
  have hown : s.vm.findClass RX15 = some m.cls := findClass_of_methodNamed B.named
  have hlocks := B.notSynchronized
  have hiX15 : ∀ w ∈ u_ws RX15 TX15 28, w ∈ wsX15_watch := by decide +kernel
  subst hsz
  have hD := hD0.self (sz := s.heap.size)
  generalize hAe : va_A (wd_k_m_watch z mo ti si lo lh lk sp st pa br sg th) s.heap.size = A at hD hM ⊢
  have hA : ∀ q : Nat, s.heap.size ≤ q → A q := fun q h => by rw [← hAe]; exact Or.inr h
  have hS : va_S A s.heap s.heap [] := va_S.rf
  have hP : va_P (dC, dI) vwCl [(mo, .inr (19, [.int 0, .int 0, .int 0, .int 0, .int 0, .int 0, .int 0, .ref ti, .ref si, .ref lo, .ref lh, .ref lk, .ref sp, .ref st, .ref pa, .ref br, .ref sg, .int 0, .int 0, .int 0, .int 0, .int 0, .int 0, .long 0, .long 0, .long 0, .long 0, .int th]))] s.heap := hP
  have hD : va_D A [(mo, .inr (19, [.int 0, .int 0, .int 0, .int 0, .int 0, .int 0, .int 0, .ref ti, .ref si, .ref lo, .ref lh, .ref lk, .ref sp, .ref st, .ref pa, .ref br, .ref sg, .int 0, .int 0, .int 0, .int 0, .int 0, .int 0, .long 0, .long 0, .long 0, .long 0, .int th]))] := hD
  have hl := lv_entry ([.ref mo]) (n := 1) (Nat.le_of_ble_eq_true rfl)
  rw [lg_entry_eq]
  generalize (lg_sl ([.ref mo]) ++ List.replicate (1 - (lg_sl ([.ref mo])).length) Slot.unset).toArray = ls at hl ⊢
  have hl : lv_has ls 1 [(0, .ref mo)] := hl
  refine lv_aload_n hx hb dX15_watch_0 rfl (lv_at hl 0 rfl) ?_
  refine lv_iconst (v := 0) hx hb dX15_watch_1 (by decide) ?_
  refine va_put (D := (dC, dI)) (ci := 19) (v := .int 0) (ty := .int) (C := RX15) (T := TX15) (N := 28) hx hb hts hiX15 tyX15 tyX15_ok nmX15 hown hK hP hD hS 0 rfl rfl 27 (by decide) (hts (.fieldLink RX15 45 "SquareRigModel" "thrown" "I") (by decide +kernel)) (fun _ h9 => h9) rfl (by decide +kernel) rfl rfl (Nat.le_of_ble_eq_true rfl) dX15_watch_2 (fun H locs hP hD hS => ?_)
  have hP : va_P (dC, dI) vwCl [(mo, .inr (19, [.int 0, .int 0, .int 0, .int 0, .int 0, .int 0, .int 0, .ref ti, .ref si, .ref lo, .ref lh, .ref lk, .ref sp, .ref st, .ref pa, .ref br, .ref sg, .int 0, .int 0, .int 0, .int 0, .int 0, .int 0, .long 0, .long 0, .long 0, .long 0, .int 0]))] H := hP
  have hD : va_D A [(mo, .inr (19, [.int 0, .int 0, .int 0, .int 0, .int 0, .int 0, .int 0, .ref ti, .ref si, .ref lo, .ref lh, .ref lk, .ref sp, .ref st, .ref pa, .ref br, .ref sg, .int 0, .int 0, .int 0, .int 0, .int 0, .int 0, .long 0, .long 0, .long 0, .long 0, .int 0]))] := hD
  refine lv_aload_n hx hb dX15_watch_5 rfl (lv_at hl 0 rfl) ?_
  refine va_get (D := (dC, dI)) (ci := 19) (v := .int 0) (C := RX15) (T := TX15) (N := 28) hx hb hts hiX15 hown hK hP 0 rfl rfl 6 (by decide) (hts (.fieldLink RX15 199 "SquareRigModel" "turn" "I") (by decide +kernel)) (fun _ h9 => h9) rfl dX15_watch_6 ?_
  exact W.iret (v := 0) hx hb hr (fun t ht hW => ⟨⟨0, (), rfl, rfl, kB_end (w9 := [(mo, .inr (19, [.int 0, .int 0, .int 0, .int 0, .int 0, .int 0, .int 0, .ref ti, .ref si, .ref lo, .ref lh, .ref lk, .ref sp, .ref st, .ref pa, .ref br, .ref sg, .int 0, .int 0, .int 0, .int 0, .int 0, .int 0, .long 0, .long 0, .long 0, .long 0, .int 0]))]) (t9 := []) hP hK hD [0] [] rfl (by decide) rfl rfl t ht hW⟩, hS.F ht⟩) hS.2.2 dX15_watch_9
abbrev wd_k_m_minute (z : Nat → Nat) (mo : Nat) (ti : Nat) (si : Nat) (lo : Nat) (lh : Nat) (lk : Nat) (sp : Nat) (st : Nat) (pa : Nat) (br : Nat) (sg : Nat) (th : Int32) : va_W := [(mo, .inr (19, [.int 0, .int 0, .int 0, .int 0, .int 0, .int 0, .int 0, .ref ti, .ref si, .ref lo, .ref lh, .ref lk, .ref sp, .ref st, .ref pa, .ref br, .ref sg, .int 0, .int 0, .int 0, .int 0, .int 0, .int 0, .long 0, .long 0, .long 0, .long 0, .int th]))]
set_option maxHeartbeats 4000000 in
set_option maxRecDepth 100000 in
theorem k_m_minute (l : Launch) (dC : Nat → ClassId) (dI : Nat → Nat → Nat) (z zK zV : Nat → Nat) (mo : Nat) (ti : Nat) (si : Nat) (lo : Nat) (lh : Nat) (lk : Nat) (sp : Nat) (st : Nat) (pa : Nat) (br : Nat) (sg : Nat) (th : Int32) (sz : Nat)  : Met l yX15_minute wsX15_minute ({ frames := 0, cells := 0, slots := 0, locals := 0 }) (kP dC dI z zK zV [.ref mo] sz (wd_k_m_minute z mo ti si lo lh lk sp st pa br sg th) []) (va_Qi (fun (r : Int32) (_ : Unit) => 0 = r) (fun _ t => kB (dC, dI) (va_A (wd_k_m_minute z mo ti si lo lh lk sp st pa br sg th) sz) [(mo, .inr (19, [.int 0, .int 0, .int 0, .int 0, .int 0, .int 0, .int 0, .ref ti, .ref si, .ref lo, .ref lh, .ref lk, .ref sp, .ref st, .ref pa, .ref br, .ref sg, .int 0, .int 0, .int 0, .int 0, .int 0, .int 0, .long 0, .long 0, .long 0, .long 0, .int 0]))] [] t) (va_A (wd_k_m_minute z mo ti si lo lh lk sp st pa br sg th) sz)) 0 0 (va_A (wd_k_m_minute z mo ti si lo lh lk sp st pa br sg th) sz) := by
  refine Met.ofW (cc := cX15_minute) (maxL := 1) (ret := (some .int)) (by decide) rfl ?_
  intro p e s m args below meth c s₁ B hml hv
  obtain ⟨rfl, hsz, hP, hK, hD0, hM⟩ := hv
  have hx := B.exec
  have hb := B.bytes
  have hr := B.returns
  have hts := atoms_spec (ws := wsX15_minute) B.pre
  have hown : s.vm.findClass RX15 = some m.cls := findClass_of_methodNamed B.named
  have hlocks := B.notSynchronized
  have hiX15 : ∀ w ∈ u_ws RX15 TX15 28, w ∈ wsX15_minute := by decide +kernel
  subst hsz
  have hD := hD0.self (sz := s.heap.size)
  generalize hAe : va_A (wd_k_m_minute z mo ti si lo lh lk sp st pa br sg th) s.heap.size = A at hD hM ⊢
  have hA : ∀ q : Nat, s.heap.size ≤ q → A q := fun q h => by rw [← hAe]; exact Or.inr h
  have hS : va_S A s.heap s.heap [] := va_S.rf
  have hP : va_P (dC, dI) vwCl [(mo, .inr (19, [.int 0, .int 0, .int 0, .int 0, .int 0, .int 0, .int 0, .ref ti, .ref si, .ref lo, .ref lh, .ref lk, .ref sp, .ref st, .ref pa, .ref br, .ref sg, .int 0, .int 0, .int 0, .int 0, .int 0, .int 0, .long 0, .long 0, .long 0, .long 0, .int th]))] s.heap := hP
  have hD : va_D A [(mo, .inr (19, [.int 0, .int 0, .int 0, .int 0, .int 0, .int 0, .int 0, .ref ti, .ref si, .ref lo, .ref lh, .ref lk, .ref sp, .ref st, .ref pa, .ref br, .ref sg, .int 0, .int 0, .int 0, .int 0, .int 0, .int 0, .long 0, .long 0, .long 0, .long 0, .int th]))] := hD
  have hl := lv_entry ([.ref mo]) (n := 1) (Nat.le_of_ble_eq_true rfl)
  rw [lg_entry_eq]
  generalize (lg_sl ([.ref mo]) ++ List.replicate (1 - (lg_sl ([.ref mo])).length) Slot.unset).toArray = ls at hl ⊢
  have hl : lv_has ls 1 [(0, .ref mo)] := hl
  refine lv_aload_n hx hb dX15_minute_0 rfl (lv_at hl 0 rfl) ?_
  refine lv_iconst (v := 0) hx hb dX15_minute_1 (by decide) ?_
  refine va_put (D := (dC, dI)) (ci := 19) (v := .int 0) (ty := .int) (C := RX15) (T := TX15) (N := 28) hx hb hts hiX15 tyX15 tyX15_ok nmX15 hown hK hP hD hS 0 rfl rfl 27 (by decide) (hts (.fieldLink RX15 45 "SquareRigModel" "thrown" "I") (by decide +kernel)) (fun _ h9 => h9) rfl (by decide +kernel) rfl rfl (Nat.le_of_ble_eq_true rfl) dX15_minute_2 (fun H locs hP hD hS => ?_)
  have hP : va_P (dC, dI) vwCl [(mo, .inr (19, [.int 0, .int 0, .int 0, .int 0, .int 0, .int 0, .int 0, .ref ti, .ref si, .ref lo, .ref lh, .ref lk, .ref sp, .ref st, .ref pa, .ref br, .ref sg, .int 0, .int 0, .int 0, .int 0, .int 0, .int 0, .long 0, .long 0, .long 0, .long 0, .int 0]))] H := hP
  have hD : va_D A [(mo, .inr (19, [.int 0, .int 0, .int 0, .int 0, .int 0, .int 0, .int 0, .ref ti, .ref si, .ref lo, .ref lh, .ref lk, .ref sp, .ref st, .ref pa, .ref br, .ref sg, .int 0, .int 0, .int 0, .int 0, .int 0, .int 0, .long 0, .long 0, .long 0, .long 0, .int 0]))] := hD
  refine lv_aload_n hx hb dX15_minute_5 rfl (lv_at hl 0 rfl) ?_
  refine va_get (D := (dC, dI)) (ci := 19) (v := .int 0) (C := RX15) (T := TX15) (N := 28) hx hb hts hiX15 hown hK hP 0 rfl rfl 17 (by decide) (hts (.fieldLink RX15 163 "SquareRigModel" "minute" "I") (by decide +kernel)) (fun _ h9 => h9) rfl dX15_minute_6 ?_
  exact W.iret (v := 0) hx hb hr (fun t ht hW => ⟨⟨0, (), rfl, rfl, kB_end (w9 := [(mo, .inr (19, [.int 0, .int 0, .int 0, .int 0, .int 0, .int 0, .int 0, .ref ti, .ref si, .ref lo, .ref lh, .ref lk, .ref sp, .ref st, .ref pa, .ref br, .ref sg, .int 0, .int 0, .int 0, .int 0, .int 0, .int 0, .long 0, .long 0, .long 0, .long 0, .int 0]))]) (t9 := []) hP hK hD [0] [] rfl (by decide) rfl rfl t ht hW⟩, hS.F ht⟩) hS.2.2 dX15_minute_9
abbrev wd_k_m_heading (z : Nat → Nat) (mo : Nat) (ti : Nat) (si : Nat) (lo : Nat) (lh : Nat) (lk : Nat) (sp : Nat) (st : Nat) (pa : Nat) (br : Nat) (sg : Nat) (th : Int32) : va_W := [(mo, .inr (19, [.int 0, .int 0, .int 0, .int 0, .int 0, .int 0, .int 0, .ref ti, .ref si, .ref lo, .ref lh, .ref lk, .ref sp, .ref st, .ref pa, .ref br, .ref sg, .int 0, .int 0, .int 0, .int 0, .int 0, .int 0, .long 0, .long 0, .long 0, .long 0, .int th]))]
set_option maxHeartbeats 4000000 in
set_option maxRecDepth 100000 in
theorem k_m_heading (l : Launch) (dC : Nat → ClassId) (dI : Nat → Nat → Nat) (z zK zV : Nat → Nat) (mo : Nat) (ti : Nat) (si : Nat) (lo : Nat) (lh : Nat) (lk : Nat) (sp : Nat) (st : Nat) (pa : Nat) (br : Nat) (sg : Nat) (th : Int32) (sz : Nat)  : Met l yX15_heading wsX15_heading ({ frames := 0, cells := 0, slots := 0, locals := 0 }) (kP dC dI z zK zV [.ref mo] sz (wd_k_m_heading z mo ti si lo lh lk sp st pa br sg th) []) (va_Qi (fun (r : Int32) (_ : Unit) => 0 = r) (fun _ t => kB (dC, dI) (va_A (wd_k_m_heading z mo ti si lo lh lk sp st pa br sg th) sz) [(mo, .inr (19, [.int 0, .int 0, .int 0, .int 0, .int 0, .int 0, .int 0, .ref ti, .ref si, .ref lo, .ref lh, .ref lk, .ref sp, .ref st, .ref pa, .ref br, .ref sg, .int 0, .int 0, .int 0, .int 0, .int 0, .int 0, .long 0, .long 0, .long 0, .long 0, .int 0]))] [] t) (va_A (wd_k_m_heading z mo ti si lo lh lk sp st pa br sg th) sz)) 0 0 (va_A (wd_k_m_heading z mo ti si lo lh lk sp st pa br sg th) sz) := by
  refine Met.ofW (cc := cX15_heading) (maxL := 1) (ret := (some .int)) (by decide) rfl ?_
  intro p e s m args below meth c s₁ B hml hv
  obtain ⟨rfl, hsz, hP, hK, hD0, hM⟩ := hv
  have hx := B.exec
  have hb := B.bytes
  have hr := B.returns
  have hts := atoms_spec (ws := wsX15_heading) B.pre
  have hown : s.vm.findClass RX15 = some m.cls := findClass_of_methodNamed B.named
  have hlocks := B.notSynchronized
  have hiX15 : ∀ w ∈ u_ws RX15 TX15 28, w ∈ wsX15_heading := by decide +kernel
  subst hsz
  have hD := hD0.self (sz := s.heap.size)
  generalize hAe : va_A (wd_k_m_heading z mo ti si lo lh lk sp st pa br sg th) s.heap.size = A at hD hM ⊢
  have hA : ∀ q : Nat, s.heap.size ≤ q → A q := fun q h => by rw [← hAe]; exact Or.inr h
  have hS : va_S A s.heap s.heap [] := va_S.rf
  have hP : va_P (dC, dI) vwCl [(mo, .inr (19, [.int 0, .int 0, .int 0, .int 0, .int 0, .int 0, .int 0, .ref ti, .ref si, .ref lo, .ref lh, .ref lk, .ref sp, .ref st, .ref pa, .ref br, .ref sg, .int 0, .int 0, .int 0, .int 0, .int 0, .int 0, .long 0, .long 0, .long 0, .long 0, .int th]))] s.heap := hP
  have hD : va_D A [(mo, .inr (19, [.int 0, .int 0, .int 0, .int 0, .int 0, .int 0, .int 0, .ref ti, .ref si, .ref lo, .ref lh, .ref lk, .ref sp, .ref st, .ref pa, .ref br, .ref sg, .int 0, .int 0, .int 0, .int 0, .int 0, .int 0, .long 0, .long 0, .long 0, .long 0, .int th]))] := hD
  have hl := lv_entry ([.ref mo]) (n := 1) (Nat.le_of_ble_eq_true rfl)
  rw [lg_entry_eq]
  generalize (lg_sl ([.ref mo]) ++ List.replicate (1 - (lg_sl ([.ref mo])).length) Slot.unset).toArray = ls at hl ⊢
  have hl : lv_has ls 1 [(0, .ref mo)] := hl
  refine lv_aload_n hx hb dX15_heading_0 rfl (lv_at hl 0 rfl) ?_
  refine lv_iconst (v := 0) hx hb dX15_heading_1 (by decide) ?_
  refine va_put (D := (dC, dI)) (ci := 19) (v := .int 0) (ty := .int) (C := RX15) (T := TX15) (N := 28) hx hb hts hiX15 tyX15 tyX15_ok nmX15 hown hK hP hD hS 0 rfl rfl 27 (by decide) (hts (.fieldLink RX15 45 "SquareRigModel" "thrown" "I") (by decide +kernel)) (fun _ h9 => h9) rfl (by decide +kernel) rfl rfl (Nat.le_of_ble_eq_true rfl) dX15_heading_2 (fun H locs hP hD hS => ?_)
  have hP : va_P (dC, dI) vwCl [(mo, .inr (19, [.int 0, .int 0, .int 0, .int 0, .int 0, .int 0, .int 0, .ref ti, .ref si, .ref lo, .ref lh, .ref lk, .ref sp, .ref st, .ref pa, .ref br, .ref sg, .int 0, .int 0, .int 0, .int 0, .int 0, .int 0, .long 0, .long 0, .long 0, .long 0, .int 0]))] H := hP
  have hD : va_D A [(mo, .inr (19, [.int 0, .int 0, .int 0, .int 0, .int 0, .int 0, .int 0, .ref ti, .ref si, .ref lo, .ref lh, .ref lk, .ref sp, .ref st, .ref pa, .ref br, .ref sg, .int 0, .int 0, .int 0, .int 0, .int 0, .int 0, .long 0, .long 0, .long 0, .long 0, .int 0]))] := hD
  refine lv_aload_n hx hb dX15_heading_5 rfl (lv_at hl 0 rfl) ?_
  refine va_get (D := (dC, dI)) (ci := 19) (v := .int 0) (C := RX15) (T := TX15) (N := 28) hx hb hts hiX15 hown hK hP 0 rfl rfl 18 (by decide) (hts (.fieldLink RX15 68 "SquareRigModel" "heading" "I") (by decide +kernel)) (fun _ h9 => h9) rfl dX15_heading_6 ?_
  exact W.iret (v := 0) hx hb hr (fun t ht hW => ⟨⟨0, (), rfl, rfl, kB_end (w9 := [(mo, .inr (19, [.int 0, .int 0, .int 0, .int 0, .int 0, .int 0, .int 0, .ref ti, .ref si, .ref lo, .ref lh, .ref lk, .ref sp, .ref st, .ref pa, .ref br, .ref sg, .int 0, .int 0, .int 0, .int 0, .int 0, .int 0, .long 0, .long 0, .long 0, .long 0, .int 0]))]) (t9 := []) hP hK hD [0] [] rfl (by decide) rfl rfl t ht hW⟩, hS.F ht⟩) hS.2.2 dX15_heading_9
abbrev wd_k_m_speed (z : Nat → Nat) (mo : Nat) (ti : Nat) (si : Nat) (lo : Nat) (lh : Nat) (lk : Nat) (sp : Nat) (st : Nat) (pa : Nat) (br : Nat) (sg : Nat) (th : Int32) : va_W := [(mo, .inr (19, [.int 0, .int 0, .int 0, .int 0, .int 0, .int 0, .int 0, .ref ti, .ref si, .ref lo, .ref lh, .ref lk, .ref sp, .ref st, .ref pa, .ref br, .ref sg, .int 0, .int 0, .int 0, .int 0, .int 0, .int 0, .long 0, .long 0, .long 0, .long 0, .int th]))]
set_option maxHeartbeats 4000000 in
set_option maxRecDepth 100000 in
theorem k_m_speed (l : Launch) (dC : Nat → ClassId) (dI : Nat → Nat → Nat) (z zK zV : Nat → Nat) (mo : Nat) (ti : Nat) (si : Nat) (lo : Nat) (lh : Nat) (lk : Nat) (sp : Nat) (st : Nat) (pa : Nat) (br : Nat) (sg : Nat) (th : Int32) (sz : Nat)  : Met l yX15_speed wsX15_speed ({ frames := 0, cells := 0, slots := 0, locals := 0 }) (kP dC dI z zK zV [.ref mo] sz (wd_k_m_speed z mo ti si lo lh lk sp st pa br sg th) []) (va_Qi (fun (r : Int32) (_ : Unit) => 0 = r) (fun _ t => kB (dC, dI) (va_A (wd_k_m_speed z mo ti si lo lh lk sp st pa br sg th) sz) [(mo, .inr (19, [.int 0, .int 0, .int 0, .int 0, .int 0, .int 0, .int 0, .ref ti, .ref si, .ref lo, .ref lh, .ref lk, .ref sp, .ref st, .ref pa, .ref br, .ref sg, .int 0, .int 0, .int 0, .int 0, .int 0, .int 0, .long 0, .long 0, .long 0, .long 0, .int 0]))] [] t) (va_A (wd_k_m_speed z mo ti si lo lh lk sp st pa br sg th) sz)) 0 0 (va_A (wd_k_m_speed z mo ti si lo lh lk sp st pa br sg th) sz) := by
  refine Met.ofW (cc := cX15_speed) (maxL := 1) (ret := (some .int)) (by decide) rfl ?_
  intro p e s m args below meth c s₁ B hml hv
  obtain ⟨rfl, hsz, hP, hK, hD0, hM⟩ := hv
  have hx := B.exec
  have hb := B.bytes
  have hr := B.returns
  have hts := atoms_spec (ws := wsX15_speed) B.pre
  have hown : s.vm.findClass RX15 = some m.cls := findClass_of_methodNamed B.named
  have hlocks := B.notSynchronized
  have hiX15 : ∀ w ∈ u_ws RX15 TX15 28, w ∈ wsX15_speed := by decide +kernel
  subst hsz
  have hD := hD0.self (sz := s.heap.size)
  generalize hAe : va_A (wd_k_m_speed z mo ti si lo lh lk sp st pa br sg th) s.heap.size = A at hD hM ⊢
  have hA : ∀ q : Nat, s.heap.size ≤ q → A q := fun q h => by rw [← hAe]; exact Or.inr h
  have hS : va_S A s.heap s.heap [] := va_S.rf
  have hP : va_P (dC, dI) vwCl [(mo, .inr (19, [.int 0, .int 0, .int 0, .int 0, .int 0, .int 0, .int 0, .ref ti, .ref si, .ref lo, .ref lh, .ref lk, .ref sp, .ref st, .ref pa, .ref br, .ref sg, .int 0, .int 0, .int 0, .int 0, .int 0, .int 0, .long 0, .long 0, .long 0, .long 0, .int th]))] s.heap := hP
  have hD : va_D A [(mo, .inr (19, [.int 0, .int 0, .int 0, .int 0, .int 0, .int 0, .int 0, .ref ti, .ref si, .ref lo, .ref lh, .ref lk, .ref sp, .ref st, .ref pa, .ref br, .ref sg, .int 0, .int 0, .int 0, .int 0, .int 0, .int 0, .long 0, .long 0, .long 0, .long 0, .int th]))] := hD
  have hl := lv_entry ([.ref mo]) (n := 1) (Nat.le_of_ble_eq_true rfl)
  rw [lg_entry_eq]
  generalize (lg_sl ([.ref mo]) ++ List.replicate (1 - (lg_sl ([.ref mo])).length) Slot.unset).toArray = ls at hl ⊢
  have hl : lv_has ls 1 [(0, .ref mo)] := hl
  refine lv_aload_n hx hb dX15_speed_0 rfl (lv_at hl 0 rfl) ?_
  refine lv_iconst (v := 0) hx hb dX15_speed_1 (by decide) ?_
  refine va_put (D := (dC, dI)) (ci := 19) (v := .int 0) (ty := .int) (C := RX15) (T := TX15) (N := 28) hx hb hts hiX15 tyX15 tyX15_ok nmX15 hown hK hP hD hS 0 rfl rfl 27 (by decide) (hts (.fieldLink RX15 45 "SquareRigModel" "thrown" "I") (by decide +kernel)) (fun _ h9 => h9) rfl (by decide +kernel) rfl rfl (Nat.le_of_ble_eq_true rfl) dX15_speed_2 (fun H locs hP hD hS => ?_)
  have hP : va_P (dC, dI) vwCl [(mo, .inr (19, [.int 0, .int 0, .int 0, .int 0, .int 0, .int 0, .int 0, .ref ti, .ref si, .ref lo, .ref lh, .ref lk, .ref sp, .ref st, .ref pa, .ref br, .ref sg, .int 0, .int 0, .int 0, .int 0, .int 0, .int 0, .long 0, .long 0, .long 0, .long 0, .int 0]))] H := hP
  have hD : va_D A [(mo, .inr (19, [.int 0, .int 0, .int 0, .int 0, .int 0, .int 0, .int 0, .ref ti, .ref si, .ref lo, .ref lh, .ref lk, .ref sp, .ref st, .ref pa, .ref br, .ref sg, .int 0, .int 0, .int 0, .int 0, .int 0, .int 0, .long 0, .long 0, .long 0, .long 0, .int 0]))] := hD
  refine lv_aload_n hx hb dX15_speed_5 rfl (lv_at hl 0 rfl) ?_
  refine va_get (D := (dC, dI)) (ci := 19) (v := .int 0) (C := RX15) (T := TX15) (N := 28) hx hb hts hiX15 hown hK hP 0 rfl rfl 19 (by decide) (hts (.fieldLink RX15 265 "SquareRigModel" "speed" "I") (by decide +kernel)) (fun _ h9 => h9) rfl dX15_speed_6 ?_
  exact W.iret (v := 0) hx hb hr (fun t ht hW => ⟨⟨0, (), rfl, rfl, kB_end (w9 := [(mo, .inr (19, [.int 0, .int 0, .int 0, .int 0, .int 0, .int 0, .int 0, .ref ti, .ref si, .ref lo, .ref lh, .ref lk, .ref sp, .ref st, .ref pa, .ref br, .ref sg, .int 0, .int 0, .int 0, .int 0, .int 0, .int 0, .long 0, .long 0, .long 0, .long 0, .int 0]))]) (t9 := []) hP hK hD [0] [] rfl (by decide) rfl rfl t ht hW⟩, hS.F ht⟩) hS.2.2 dX15_speed_9
abbrev wd_k_m_east (z : Nat → Nat) (mo : Nat) (ti : Nat) (si : Nat) (lo : Nat) (lh : Nat) (lk : Nat) (sp : Nat) (st : Nat) (pa : Nat) (br : Nat) (sg : Nat) (th : Int32) : va_W := [(mo, .inr (19, [.int 0, .int 0, .int 0, .int 0, .int 0, .int 0, .int 0, .ref ti, .ref si, .ref lo, .ref lh, .ref lk, .ref sp, .ref st, .ref pa, .ref br, .ref sg, .int 0, .int 0, .int 0, .int 0, .int 0, .int 0, .long 0, .long 0, .long 0, .long 0, .int th]))]
set_option maxHeartbeats 4000000 in
set_option maxRecDepth 100000 in
theorem k_m_east (l : Launch) (dC : Nat → ClassId) (dI : Nat → Nat → Nat) (z zK zV : Nat → Nat) (mo : Nat) (ti : Nat) (si : Nat) (lo : Nat) (lh : Nat) (lk : Nat) (sp : Nat) (st : Nat) (pa : Nat) (br : Nat) (sg : Nat) (th : Int32) (sz : Nat)  : Met l yX15_east wsX15_east ({ frames := 0, cells := 0, slots := 0, locals := 0 }) (kP dC dI z zK zV [.ref mo] sz (wd_k_m_east z mo ti si lo lh lk sp st pa br sg th) []) (va_Ql (fun (r : Int64) (_ : Unit) => 0 = r) (fun _ t => kB (dC, dI) (va_A (wd_k_m_east z mo ti si lo lh lk sp st pa br sg th) sz) [(mo, .inr (19, [.int 0, .int 0, .int 0, .int 0, .int 0, .int 0, .int 0, .ref ti, .ref si, .ref lo, .ref lh, .ref lk, .ref sp, .ref st, .ref pa, .ref br, .ref sg, .int 0, .int 0, .int 0, .int 0, .int 0, .int 0, .long 0, .long 0, .long 0, .long 0, .int 0]))] [] t) (va_A (wd_k_m_east z mo ti si lo lh lk sp st pa br sg th) sz)) 0 0 (va_A (wd_k_m_east z mo ti si lo lh lk sp st pa br sg th) sz) := by
  refine Met.ofW (cc := cX15_east) (maxL := 1) (ret := (some .long)) (by decide) rfl ?_
  intro p e s m args below meth c s₁ B hml hv
  obtain ⟨rfl, hsz, hP, hK, hD0, hM⟩ := hv
  have hx := B.exec
  have hb := B.bytes
  have hr := B.returns
  have hts := atoms_spec (ws := wsX15_east) B.pre
  have hown : s.vm.findClass RX15 = some m.cls := findClass_of_methodNamed B.named
  have hlocks := B.notSynchronized
  have hiX15 : ∀ w ∈ u_ws RX15 TX15 28, w ∈ wsX15_east := by decide +kernel
  subst hsz
  have hD := hD0.self (sz := s.heap.size)
  generalize hAe : va_A (wd_k_m_east z mo ti si lo lh lk sp st pa br sg th) s.heap.size = A at hD hM ⊢
  have hA : ∀ q : Nat, s.heap.size ≤ q → A q := fun q h => by rw [← hAe]; exact Or.inr h
  have hS : va_S A s.heap s.heap [] := va_S.rf
  have hP : va_P (dC, dI) vwCl [(mo, .inr (19, [.int 0, .int 0, .int 0, .int 0, .int 0, .int 0, .int 0, .ref ti, .ref si, .ref lo, .ref lh, .ref lk, .ref sp, .ref st, .ref pa, .ref br, .ref sg, .int 0, .int 0, .int 0, .int 0, .int 0, .int 0, .long 0, .long 0, .long 0, .long 0, .int th]))] s.heap := hP
  have hD : va_D A [(mo, .inr (19, [.int 0, .int 0, .int 0, .int 0, .int 0, .int 0, .int 0, .ref ti, .ref si, .ref lo, .ref lh, .ref lk, .ref sp, .ref st, .ref pa, .ref br, .ref sg, .int 0, .int 0, .int 0, .int 0, .int 0, .int 0, .long 0, .long 0, .long 0, .long 0, .int th]))] := hD
  have hl := lv_entry ([.ref mo]) (n := 1) (Nat.le_of_ble_eq_true rfl)
  rw [lg_entry_eq]
  generalize (lg_sl ([.ref mo]) ++ List.replicate (1 - (lg_sl ([.ref mo])).length) Slot.unset).toArray = ls at hl ⊢
  have hl : lv_has ls 1 [(0, .ref mo)] := hl
  refine lv_aload_n hx hb dX15_east_0 rfl (lv_at hl 0 rfl) ?_
  refine lv_iconst (v := 0) hx hb dX15_east_1 (by decide) ?_
  refine va_put (D := (dC, dI)) (ci := 19) (v := .int 0) (ty := .int) (C := RX15) (T := TX15) (N := 28) hx hb hts hiX15 tyX15 tyX15_ok nmX15 hown hK hP hD hS 0 rfl rfl 27 (by decide) (hts (.fieldLink RX15 45 "SquareRigModel" "thrown" "I") (by decide +kernel)) (fun _ h9 => h9) rfl (by decide +kernel) rfl rfl (Nat.le_of_ble_eq_true rfl) dX15_east_2 (fun H locs hP hD hS => ?_)
  have hP : va_P (dC, dI) vwCl [(mo, .inr (19, [.int 0, .int 0, .int 0, .int 0, .int 0, .int 0, .int 0, .ref ti, .ref si, .ref lo, .ref lh, .ref lk, .ref sp, .ref st, .ref pa, .ref br, .ref sg, .int 0, .int 0, .int 0, .int 0, .int 0, .int 0, .long 0, .long 0, .long 0, .long 0, .int 0]))] H := hP
  have hD : va_D A [(mo, .inr (19, [.int 0, .int 0, .int 0, .int 0, .int 0, .int 0, .int 0, .ref ti, .ref si, .ref lo, .ref lh, .ref lk, .ref sp, .ref st, .ref pa, .ref br, .ref sg, .int 0, .int 0, .int 0, .int 0, .int 0, .int 0, .long 0, .long 0, .long 0, .long 0, .int 0]))] := hD
  refine lv_aload_n hx hb dX15_east_5 rfl (lv_at hl 0 rfl) ?_
  refine va_get (D := (dC, dI)) (ci := 19) (v := .long 0) (C := RX15) (T := TX15) (N := 28) hx hb hts hiX15 hown hK hP 0 rfl rfl 23 (by decide) (hts (.fieldLink RX15 281 "SquareRigModel" "east" "J") (by decide +kernel)) (fun _ h9 => h9) rfl dX15_east_6 ?_
  exact W.lret (v := 0) hx hb hr (fun t ht hW => ⟨⟨0, (), rfl, rfl, kB_end (w9 := [(mo, .inr (19, [.int 0, .int 0, .int 0, .int 0, .int 0, .int 0, .int 0, .ref ti, .ref si, .ref lo, .ref lh, .ref lk, .ref sp, .ref st, .ref pa, .ref br, .ref sg, .int 0, .int 0, .int 0, .int 0, .int 0, .int 0, .long 0, .long 0, .long 0, .long 0, .int 0]))]) (t9 := []) hP hK hD [0] [] rfl (by decide) rfl rfl t ht hW⟩, hS.F ht⟩) hS.2.2 dX15_east_9
abbrev wd_k_m_north (z : Nat → Nat) (mo : Nat) (ti : Nat) (si : Nat) (lo : Nat) (lh : Nat) (lk : Nat) (sp : Nat) (st : Nat) (pa : Nat) (br : Nat) (sg : Nat) (th : Int32) : va_W := [(mo, .inr (19, [.int 0, .int 0, .int 0, .int 0, .int 0, .int 0, .int 0, .ref ti, .ref si, .ref lo, .ref lh, .ref lk, .ref sp, .ref st, .ref pa, .ref br, .ref sg, .int 0, .int 0, .int 0, .int 0, .int 0, .int 0, .long 0, .long 0, .long 0, .long 0, .int th]))]
set_option maxHeartbeats 4000000 in
set_option maxRecDepth 100000 in
theorem k_m_north (l : Launch) (dC : Nat → ClassId) (dI : Nat → Nat → Nat) (z zK zV : Nat → Nat) (mo : Nat) (ti : Nat) (si : Nat) (lo : Nat) (lh : Nat) (lk : Nat) (sp : Nat) (st : Nat) (pa : Nat) (br : Nat) (sg : Nat) (th : Int32) (sz : Nat)  : Met l yX15_north wsX15_north ({ frames := 0, cells := 0, slots := 0, locals := 0 }) (kP dC dI z zK zV [.ref mo] sz (wd_k_m_north z mo ti si lo lh lk sp st pa br sg th) []) (va_Ql (fun (r : Int64) (_ : Unit) => 0 = r) (fun _ t => kB (dC, dI) (va_A (wd_k_m_north z mo ti si lo lh lk sp st pa br sg th) sz) [(mo, .inr (19, [.int 0, .int 0, .int 0, .int 0, .int 0, .int 0, .int 0, .ref ti, .ref si, .ref lo, .ref lh, .ref lk, .ref sp, .ref st, .ref pa, .ref br, .ref sg, .int 0, .int 0, .int 0, .int 0, .int 0, .int 0, .long 0, .long 0, .long 0, .long 0, .int 0]))] [] t) (va_A (wd_k_m_north z mo ti si lo lh lk sp st pa br sg th) sz)) 0 0 (va_A (wd_k_m_north z mo ti si lo lh lk sp st pa br sg th) sz) := by
  refine Met.ofW (cc := cX15_north) (maxL := 1) (ret := (some .long)) (by decide) rfl ?_
  intro p e s m args below meth c s₁ B hml hv
  obtain ⟨rfl, hsz, hP, hK, hD0, hM⟩ := hv
  have hx := B.exec
  have hb := B.bytes
  have hr := B.returns
  have hts := atoms_spec (ws := wsX15_north) B.pre
  have hown : s.vm.findClass RX15 = some m.cls := findClass_of_methodNamed B.named
  have hlocks := B.notSynchronized
  have hiX15 : ∀ w ∈ u_ws RX15 TX15 28, w ∈ wsX15_north := by decide +kernel
  subst hsz
  have hD := hD0.self (sz := s.heap.size)
  generalize hAe : va_A (wd_k_m_north z mo ti si lo lh lk sp st pa br sg th) s.heap.size = A at hD hM ⊢
  have hA : ∀ q : Nat, s.heap.size ≤ q → A q := fun q h => by rw [← hAe]; exact Or.inr h
  have hS : va_S A s.heap s.heap [] := va_S.rf
  have hP : va_P (dC, dI) vwCl [(mo, .inr (19, [.int 0, .int 0, .int 0, .int 0, .int 0, .int 0, .int 0, .ref ti, .ref si, .ref lo, .ref lh, .ref lk, .ref sp, .ref st, .ref pa, .ref br, .ref sg, .int 0, .int 0, .int 0, .int 0, .int 0, .int 0, .long 0, .long 0, .long 0, .long 0, .int th]))] s.heap := hP
  have hD : va_D A [(mo, .inr (19, [.int 0, .int 0, .int 0, .int 0, .int 0, .int 0, .int 0, .ref ti, .ref si, .ref lo, .ref lh, .ref lk, .ref sp, .ref st, .ref pa, .ref br, .ref sg, .int 0, .int 0, .int 0, .int 0, .int 0, .int 0, .long 0, .long 0, .long 0, .long 0, .int th]))] := hD
  have hl := lv_entry ([.ref mo]) (n := 1) (Nat.le_of_ble_eq_true rfl)
  rw [lg_entry_eq]
  generalize (lg_sl ([.ref mo]) ++ List.replicate (1 - (lg_sl ([.ref mo])).length) Slot.unset).toArray = ls at hl ⊢
  have hl : lv_has ls 1 [(0, .ref mo)] := hl
  refine lv_aload_n hx hb dX15_north_0 rfl (lv_at hl 0 rfl) ?_
  refine lv_iconst (v := 0) hx hb dX15_north_1 (by decide) ?_
  refine va_put (D := (dC, dI)) (ci := 19) (v := .int 0) (ty := .int) (C := RX15) (T := TX15) (N := 28) hx hb hts hiX15 tyX15 tyX15_ok nmX15 hown hK hP hD hS 0 rfl rfl 27 (by decide) (hts (.fieldLink RX15 45 "SquareRigModel" "thrown" "I") (by decide +kernel)) (fun _ h9 => h9) rfl (by decide +kernel) rfl rfl (Nat.le_of_ble_eq_true rfl) dX15_north_2 (fun H locs hP hD hS => ?_)
  have hP : va_P (dC, dI) vwCl [(mo, .inr (19, [.int 0, .int 0, .int 0, .int 0, .int 0, .int 0, .int 0, .ref ti, .ref si, .ref lo, .ref lh, .ref lk, .ref sp, .ref st, .ref pa, .ref br, .ref sg, .int 0, .int 0, .int 0, .int 0, .int 0, .int 0, .long 0, .long 0, .long 0, .long 0, .int 0]))] H := hP
  have hD : va_D A [(mo, .inr (19, [.int 0, .int 0, .int 0, .int 0, .int 0, .int 0, .int 0, .ref ti, .ref si, .ref lo, .ref lh, .ref lk, .ref sp, .ref st, .ref pa, .ref br, .ref sg, .int 0, .int 0, .int 0, .int 0, .int 0, .int 0, .long 0, .long 0, .long 0, .long 0, .int 0]))] := hD
  refine lv_aload_n hx hb dX15_north_5 rfl (lv_at hl 0 rfl) ?_
  refine va_get (D := (dC, dI)) (ci := 19) (v := .long 0) (C := RX15) (T := TX15) (N := 28) hx hb hts hiX15 hown hK hP 0 rfl rfl 24 (by decide) (hts (.fieldLink RX15 277 "SquareRigModel" "north" "J") (by decide +kernel)) (fun _ h9 => h9) rfl dX15_north_6 ?_
  exact W.lret (v := 0) hx hb hr (fun t ht hW => ⟨⟨0, (), rfl, rfl, kB_end (w9 := [(mo, .inr (19, [.int 0, .int 0, .int 0, .int 0, .int 0, .int 0, .int 0, .ref ti, .ref si, .ref lo, .ref lh, .ref lk, .ref sp, .ref st, .ref pa, .ref br, .ref sg, .int 0, .int 0, .int 0, .int 0, .int 0, .int 0, .long 0, .long 0, .long 0, .long 0, .int 0]))]) (t9 := []) hP hK hD [0] [] rfl (by decide) rfl rfl t ht hW⟩, hS.F ht⟩) hS.2.2 dX15_north_9
abbrev wd_k_m_reckonedEast (z : Nat → Nat) (mo : Nat) (ti : Nat) (si : Nat) (lo : Nat) (lh : Nat) (lk : Nat) (sp : Nat) (st : Nat) (pa : Nat) (br : Nat) (sg : Nat) (th : Int32) : va_W := [(mo, .inr (19, [.int 0, .int 0, .int 0, .int 0, .int 0, .int 0, .int 0, .ref ti, .ref si, .ref lo, .ref lh, .ref lk, .ref sp, .ref st, .ref pa, .ref br, .ref sg, .int 0, .int 0, .int 0, .int 0, .int 0, .int 0, .long 0, .long 0, .long 0, .long 0, .int th]))]
set_option maxHeartbeats 4000000 in
set_option maxRecDepth 100000 in
theorem k_m_reckonedEast (l : Launch) (dC : Nat → ClassId) (dI : Nat → Nat → Nat) (z zK zV : Nat → Nat) (mo : Nat) (ti : Nat) (si : Nat) (lo : Nat) (lh : Nat) (lk : Nat) (sp : Nat) (st : Nat) (pa : Nat) (br : Nat) (sg : Nat) (th : Int32) (sz : Nat)  : Met l yX15_reckonedEast wsX15_reckonedEast ({ frames := 0, cells := 0, slots := 0, locals := 0 }) (kP dC dI z zK zV [.ref mo] sz (wd_k_m_reckonedEast z mo ti si lo lh lk sp st pa br sg th) []) (va_Ql (fun (r : Int64) (_ : Unit) => 0 = r) (fun _ t => kB (dC, dI) (va_A (wd_k_m_reckonedEast z mo ti si lo lh lk sp st pa br sg th) sz) [(mo, .inr (19, [.int 0, .int 0, .int 0, .int 0, .int 0, .int 0, .int 0, .ref ti, .ref si, .ref lo, .ref lh, .ref lk, .ref sp, .ref st, .ref pa, .ref br, .ref sg, .int 0, .int 0, .int 0, .int 0, .int 0, .int 0, .long 0, .long 0, .long 0, .long 0, .int 0]))] [] t) (va_A (wd_k_m_reckonedEast z mo ti si lo lh lk sp st pa br sg th) sz)) 0 0 (va_A (wd_k_m_reckonedEast z mo ti si lo lh lk sp st pa br sg th) sz) := by
  refine Met.ofW (cc := cX15_reckonedEast) (maxL := 1) (ret := (some .long)) (by decide) rfl ?_
  intro p e s m args below meth c s₁ B hml hv
  obtain ⟨rfl, hsz, hP, hK, hD0, hM⟩ := hv
  have hx := B.exec
  have hb := B.bytes
  have hr := B.returns
  have hts := atoms_spec (ws := wsX15_reckonedEast) B.pre
  have hown : s.vm.findClass RX15 = some m.cls := findClass_of_methodNamed B.named
  have hlocks := B.notSynchronized
  have hiX15 : ∀ w ∈ u_ws RX15 TX15 28, w ∈ wsX15_reckonedEast := by decide +kernel
  subst hsz
  have hD := hD0.self (sz := s.heap.size)
  generalize hAe : va_A (wd_k_m_reckonedEast z mo ti si lo lh lk sp st pa br sg th) s.heap.size = A at hD hM ⊢
  have hA : ∀ q : Nat, s.heap.size ≤ q → A q := fun q h => by rw [← hAe]; exact Or.inr h
  have hS : va_S A s.heap s.heap [] := va_S.rf
  have hP : va_P (dC, dI) vwCl [(mo, .inr (19, [.int 0, .int 0, .int 0, .int 0, .int 0, .int 0, .int 0, .ref ti, .ref si, .ref lo, .ref lh, .ref lk, .ref sp, .ref st, .ref pa, .ref br, .ref sg, .int 0, .int 0, .int 0, .int 0, .int 0, .int 0, .long 0, .long 0, .long 0, .long 0, .int th]))] s.heap := hP
  have hD : va_D A [(mo, .inr (19, [.int 0, .int 0, .int 0, .int 0, .int 0, .int 0, .int 0, .ref ti, .ref si, .ref lo, .ref lh, .ref lk, .ref sp, .ref st, .ref pa, .ref br, .ref sg, .int 0, .int 0, .int 0, .int 0, .int 0, .int 0, .long 0, .long 0, .long 0, .long 0, .int th]))] := hD
  have hl := lv_entry ([.ref mo]) (n := 1) (Nat.le_of_ble_eq_true rfl)
  rw [lg_entry_eq]
  generalize (lg_sl ([.ref mo]) ++ List.replicate (1 - (lg_sl ([.ref mo])).length) Slot.unset).toArray = ls at hl ⊢
  have hl : lv_has ls 1 [(0, .ref mo)] := hl
  refine lv_aload_n hx hb dX15_reckonedEast_0 rfl (lv_at hl 0 rfl) ?_
  refine lv_iconst (v := 0) hx hb dX15_reckonedEast_1 (by decide) ?_
  refine va_put (D := (dC, dI)) (ci := 19) (v := .int 0) (ty := .int) (C := RX15) (T := TX15) (N := 28) hx hb hts hiX15 tyX15 tyX15_ok nmX15 hown hK hP hD hS 0 rfl rfl 27 (by decide) (hts (.fieldLink RX15 45 "SquareRigModel" "thrown" "I") (by decide +kernel)) (fun _ h9 => h9) rfl (by decide +kernel) rfl rfl (Nat.le_of_ble_eq_true rfl) dX15_reckonedEast_2 (fun H locs hP hD hS => ?_)
  have hP : va_P (dC, dI) vwCl [(mo, .inr (19, [.int 0, .int 0, .int 0, .int 0, .int 0, .int 0, .int 0, .ref ti, .ref si, .ref lo, .ref lh, .ref lk, .ref sp, .ref st, .ref pa, .ref br, .ref sg, .int 0, .int 0, .int 0, .int 0, .int 0, .int 0, .long 0, .long 0, .long 0, .long 0, .int 0]))] H := hP
  have hD : va_D A [(mo, .inr (19, [.int 0, .int 0, .int 0, .int 0, .int 0, .int 0, .int 0, .ref ti, .ref si, .ref lo, .ref lh, .ref lk, .ref sp, .ref st, .ref pa, .ref br, .ref sg, .int 0, .int 0, .int 0, .int 0, .int 0, .int 0, .long 0, .long 0, .long 0, .long 0, .int 0]))] := hD
  refine lv_aload_n hx hb dX15_reckonedEast_5 rfl (lv_at hl 0 rfl) ?_
  refine va_get (D := (dC, dI)) (ci := 19) (v := .long 0) (C := RX15) (T := TX15) (N := 28) hx hb hts hiX15 hown hK hP 0 rfl rfl 25 (by decide) (hts (.fieldLink RX15 297 "SquareRigModel" "reckonedEast" "J") (by decide +kernel)) (fun _ h9 => h9) rfl dX15_reckonedEast_6 ?_
  exact W.lret (v := 0) hx hb hr (fun t ht hW => ⟨⟨0, (), rfl, rfl, kB_end (w9 := [(mo, .inr (19, [.int 0, .int 0, .int 0, .int 0, .int 0, .int 0, .int 0, .ref ti, .ref si, .ref lo, .ref lh, .ref lk, .ref sp, .ref st, .ref pa, .ref br, .ref sg, .int 0, .int 0, .int 0, .int 0, .int 0, .int 0, .long 0, .long 0, .long 0, .long 0, .int 0]))]) (t9 := []) hP hK hD [0] [] rfl (by decide) rfl rfl t ht hW⟩, hS.F ht⟩) hS.2.2 dX15_reckonedEast_9
abbrev wd_k_m_reckonedNorth (z : Nat → Nat) (mo : Nat) (ti : Nat) (si : Nat) (lo : Nat) (lh : Nat) (lk : Nat) (sp : Nat) (st : Nat) (pa : Nat) (br : Nat) (sg : Nat) (th : Int32) : va_W := [(mo, .inr (19, [.int 0, .int 0, .int 0, .int 0, .int 0, .int 0, .int 0, .ref ti, .ref si, .ref lo, .ref lh, .ref lk, .ref sp, .ref st, .ref pa, .ref br, .ref sg, .int 0, .int 0, .int 0, .int 0, .int 0, .int 0, .long 0, .long 0, .long 0, .long 0, .int th]))]
set_option maxHeartbeats 4000000 in
set_option maxRecDepth 100000 in
theorem k_m_reckonedNorth (l : Launch) (dC : Nat → ClassId) (dI : Nat → Nat → Nat) (z zK zV : Nat → Nat) (mo : Nat) (ti : Nat) (si : Nat) (lo : Nat) (lh : Nat) (lk : Nat) (sp : Nat) (st : Nat) (pa : Nat) (br : Nat) (sg : Nat) (th : Int32) (sz : Nat)  : Met l yX15_reckonedNorth wsX15_reckonedNorth ({ frames := 0, cells := 0, slots := 0, locals := 0 }) (kP dC dI z zK zV [.ref mo] sz (wd_k_m_reckonedNorth z mo ti si lo lh lk sp st pa br sg th) []) (va_Ql (fun (r : Int64) (_ : Unit) => 0 = r) (fun _ t => kB (dC, dI) (va_A (wd_k_m_reckonedNorth z mo ti si lo lh lk sp st pa br sg th) sz) [(mo, .inr (19, [.int 0, .int 0, .int 0, .int 0, .int 0, .int 0, .int 0, .ref ti, .ref si, .ref lo, .ref lh, .ref lk, .ref sp, .ref st, .ref pa, .ref br, .ref sg, .int 0, .int 0, .int 0, .int 0, .int 0, .int 0, .long 0, .long 0, .long 0, .long 0, .int 0]))] [] t) (va_A (wd_k_m_reckonedNorth z mo ti si lo lh lk sp st pa br sg th) sz)) 0 0 (va_A (wd_k_m_reckonedNorth z mo ti si lo lh lk sp st pa br sg th) sz) := by
  refine Met.ofW (cc := cX15_reckonedNorth) (maxL := 1) (ret := (some .long)) (by decide) rfl ?_
  intro p e s m args below meth c s₁ B hml hv
  obtain ⟨rfl, hsz, hP, hK, hD0, hM⟩ := hv
  have hx := B.exec
  have hb := B.bytes
  have hr := B.returns
  have hts := atoms_spec (ws := wsX15_reckonedNorth) B.pre
  have hown : s.vm.findClass RX15 = some m.cls := findClass_of_methodNamed B.named
  have hlocks := B.notSynchronized
  have hiX15 : ∀ w ∈ u_ws RX15 TX15 28, w ∈ wsX15_reckonedNorth := by decide +kernel
  subst hsz
  have hD := hD0.self (sz := s.heap.size)
  generalize hAe : va_A (wd_k_m_reckonedNorth z mo ti si lo lh lk sp st pa br sg th) s.heap.size = A at hD hM ⊢
  have hA : ∀ q : Nat, s.heap.size ≤ q → A q := fun q h => by rw [← hAe]; exact Or.inr h
  have hS : va_S A s.heap s.heap [] := va_S.rf
  have hP : va_P (dC, dI) vwCl [(mo, .inr (19, [.int 0, .int 0, .int 0, .int 0, .int 0, .int 0, .int 0, .ref ti, .ref si, .ref lo, .ref lh, .ref lk, .ref sp, .ref st, .ref pa, .ref br, .ref sg, .int 0, .int 0, .int 0, .int 0, .int 0, .int 0, .long 0, .long 0, .long 0, .long 0, .int th]))] s.heap := hP
  have hD : va_D A [(mo, .inr (19, [.int 0, .int 0, .int 0, .int 0, .int 0, .int 0, .int 0, .ref ti, .ref si, .ref lo, .ref lh, .ref lk, .ref sp, .ref st, .ref pa, .ref br, .ref sg, .int 0, .int 0, .int 0, .int 0, .int 0, .int 0, .long 0, .long 0, .long 0, .long 0, .int th]))] := hD
  have hl := lv_entry ([.ref mo]) (n := 1) (Nat.le_of_ble_eq_true rfl)
  rw [lg_entry_eq]
  generalize (lg_sl ([.ref mo]) ++ List.replicate (1 - (lg_sl ([.ref mo])).length) Slot.unset).toArray = ls at hl ⊢
  have hl : lv_has ls 1 [(0, .ref mo)] := hl
  refine lv_aload_n hx hb dX15_reckonedNorth_0 rfl (lv_at hl 0 rfl) ?_
  refine lv_iconst (v := 0) hx hb dX15_reckonedNorth_1 (by decide) ?_
  refine va_put (D := (dC, dI)) (ci := 19) (v := .int 0) (ty := .int) (C := RX15) (T := TX15) (N := 28) hx hb hts hiX15 tyX15 tyX15_ok nmX15 hown hK hP hD hS 0 rfl rfl 27 (by decide) (hts (.fieldLink RX15 45 "SquareRigModel" "thrown" "I") (by decide +kernel)) (fun _ h9 => h9) rfl (by decide +kernel) rfl rfl (Nat.le_of_ble_eq_true rfl) dX15_reckonedNorth_2 (fun H locs hP hD hS => ?_)
  have hP : va_P (dC, dI) vwCl [(mo, .inr (19, [.int 0, .int 0, .int 0, .int 0, .int 0, .int 0, .int 0, .ref ti, .ref si, .ref lo, .ref lh, .ref lk, .ref sp, .ref st, .ref pa, .ref br, .ref sg, .int 0, .int 0, .int 0, .int 0, .int 0, .int 0, .long 0, .long 0, .long 0, .long 0, .int 0]))] H := hP
  have hD : va_D A [(mo, .inr (19, [.int 0, .int 0, .int 0, .int 0, .int 0, .int 0, .int 0, .ref ti, .ref si, .ref lo, .ref lh, .ref lk, .ref sp, .ref st, .ref pa, .ref br, .ref sg, .int 0, .int 0, .int 0, .int 0, .int 0, .int 0, .long 0, .long 0, .long 0, .long 0, .int 0]))] := hD
  refine lv_aload_n hx hb dX15_reckonedNorth_5 rfl (lv_at hl 0 rfl) ?_
  refine va_get (D := (dC, dI)) (ci := 19) (v := .long 0) (C := RX15) (T := TX15) (N := 28) hx hb hts hiX15 hown hK hP 0 rfl rfl 26 (by decide) (hts (.fieldLink RX15 294 "SquareRigModel" "reckonedNorth" "J") (by decide +kernel)) (fun _ h9 => h9) rfl dX15_reckonedNorth_6 ?_
  exact W.lret (v := 0) hx hb hr (fun t ht hW => ⟨⟨0, (), rfl, rfl, kB_end (w9 := [(mo, .inr (19, [.int 0, .int 0, .int 0, .int 0, .int 0, .int 0, .int 0, .ref ti, .ref si, .ref lo, .ref lh, .ref lk, .ref sp, .ref st, .ref pa, .ref br, .ref sg, .int 0, .int 0, .int 0, .int 0, .int 0, .int 0, .long 0, .long 0, .long 0, .long 0, .int 0]))]) (t9 := []) hP hK hD [0] [] rfl (by decide) rfl rfl t ht hW⟩, hS.F ht⟩) hS.2.2 dX15_reckonedNorth_9
abbrev wd_k_m_off (z : Nat → Nat) (mo : Nat) (ti : Nat) (si : Nat) (lo : Nat) (lh : Nat) (lk : Nat) (sp : Nat) (st : Nat) (pa : Nat) (br : Nat) (sg : Nat) (th : Int32) : va_W := [(mo, .inr (19, [.int 0, .int 0, .int 0, .int 0, .int 0, .int 0, .int 0, .ref ti, .ref si, .ref lo, .ref lh, .ref lk, .ref sp, .ref st, .ref pa, .ref br, .ref sg, .int 0, .int 0, .int 0, .int 0, .int 0, .int 0, .long 0, .long 0, .long 0, .long 0, .int th]))]
set_option maxHeartbeats 4000000 in
set_option maxRecDepth 100000 in
theorem k_m_off (l : Launch) (dC : Nat → ClassId) (dI : Nat → Nat → Nat) (z zK zV : Nat → Nat) (mo : Nat) (ti : Nat) (si : Nat) (lo : Nat) (lh : Nat) (lk : Nat) (sp : Nat) (st : Nat) (pa : Nat) (br : Nat) (sg : Nat) (th : Int32) (sz : Nat)  : Met l yX15_off wsX15_off ({ frames := 3, cells := 0, slots := 0, locals := 63 }) (kP dC dI z zK zV [.ref mo] sz (wd_k_m_off z mo ti si lo lh lk sp st pa br sg th) []) (va_Qi (fun (r : Int32) (_ : Unit) => 0 = r) (fun _ t => kB (dC, dI) (va_A (wd_k_m_off z mo ti si lo lh lk sp st pa br sg th) sz) [(mo, .inr (19, [.int 0, .int 0, .int 0, .int 0, .int 0, .int 0, .int 0, .ref ti, .ref si, .ref lo, .ref lh, .ref lk, .ref sp, .ref st, .ref pa, .ref br, .ref sg, .int 0, .int 0, .int 0, .int 0, .int 0, .int 0, .long 0, .long 0, .long 0, .long 0, .int 0]))] [] t) (va_A (wd_k_m_off z mo ti si lo lh lk sp st pa br sg th) sz)) 0 0 (va_A (wd_k_m_off z mo ti si lo lh lk sp st pa br sg th) sz) := by
  refine Met.ofW (cc := cX15_off) (maxL := 1) (ret := (some .int)) (by decide) rfl ?_
  intro p e s m args below meth c s₁ B hml hv
  obtain ⟨rfl, hsz, hP, hK, hD0, hM⟩ := hv
  have hx := B.exec
  have hb := B.bytes
  have hr := B.returns
  have hts := atoms_spec (ws := wsX15_off) B.pre
  have hown : s.vm.findClass RX15 = some m.cls := findClass_of_methodNamed B.named
  have hlocks := B.notSynchronized
  have hiX15 : ∀ w ∈ u_ws RX15 TX15 28, w ∈ wsX15_off := by decide +kernel
  subst hsz
  have hD := hD0.self (sz := s.heap.size)
  generalize hAe : va_A (wd_k_m_off z mo ti si lo lh lk sp st pa br sg th) s.heap.size = A at hD hM ⊢
  have hA : ∀ q : Nat, s.heap.size ≤ q → A q := fun q h => by rw [← hAe]; exact Or.inr h
  have hS : va_S A s.heap s.heap [] := va_S.rf
  have hP : va_P (dC, dI) vwCl [(mo, .inr (19, [.int 0, .int 0, .int 0, .int 0, .int 0, .int 0, .int 0, .ref ti, .ref si, .ref lo, .ref lh, .ref lk, .ref sp, .ref st, .ref pa, .ref br, .ref sg, .int 0, .int 0, .int 0, .int 0, .int 0, .int 0, .long 0, .long 0, .long 0, .long 0, .int th]))] s.heap := hP
  have hD : va_D A [(mo, .inr (19, [.int 0, .int 0, .int 0, .int 0, .int 0, .int 0, .int 0, .ref ti, .ref si, .ref lo, .ref lh, .ref lk, .ref sp, .ref st, .ref pa, .ref br, .ref sg, .int 0, .int 0, .int 0, .int 0, .int 0, .int 0, .long 0, .long 0, .long 0, .long 0, .int th]))] := hD
  have hl := lv_entry ([.ref mo]) (n := 1) (Nat.le_of_ble_eq_true rfl)
  rw [lg_entry_eq]
  generalize (lg_sl ([.ref mo]) ++ List.replicate (1 - (lg_sl ([.ref mo])).length) Slot.unset).toArray = ls at hl ⊢
  have hl : lv_has ls 1 [(0, .ref mo)] := hl
  refine lv_aload_n hx hb dX15_off_0 rfl (lv_at hl 0 rfl) ?_
  refine lv_iconst (v := 0) hx hb dX15_off_1 (by decide) ?_
  refine va_put (D := (dC, dI)) (ci := 19) (v := .int 0) (ty := .int) (C := RX15) (T := TX15) (N := 28) hx hb hts hiX15 tyX15 tyX15_ok nmX15 hown hK hP hD hS 0 rfl rfl 27 (by decide) (hts (.fieldLink RX15 45 "SquareRigModel" "thrown" "I") (by decide +kernel)) (fun _ h9 => h9) rfl (by decide +kernel) rfl rfl (Nat.le_of_ble_eq_true rfl) dX15_off_2 (fun H locs hP hD hS => ?_)
  have hP : va_P (dC, dI) vwCl [(mo, .inr (19, [.int 0, .int 0, .int 0, .int 0, .int 0, .int 0, .int 0, .ref ti, .ref si, .ref lo, .ref lh, .ref lk, .ref sp, .ref st, .ref pa, .ref br, .ref sg, .int 0, .int 0, .int 0, .int 0, .int 0, .int 0, .long 0, .long 0, .long 0, .long 0, .int 0]))] H := hP
  have hD : va_D A [(mo, .inr (19, [.int 0, .int 0, .int 0, .int 0, .int 0, .int 0, .int 0, .ref ti, .ref si, .ref lo, .ref lh, .ref lk, .ref sp, .ref st, .ref pa, .ref br, .ref sg, .int 0, .int 0, .int 0, .int 0, .int 0, .int 0, .long 0, .long 0, .long 0, .long 0, .int 0]))] := hD
  refine lv_aload_n hx hb dX15_off_5 rfl (lv_at hl 0 rfl) ?_
  have hPc := hP.sub (ws' := [(mo, .inr (19, [.int 0, .int 0, .int 0, .int 0, .int 0, .int 0, .int 0, .ref ti, .ref si, .ref lo, .ref lh, .ref lk, .ref sp, .ref st, .ref pa, .ref br, .ref sg, .int 0, .int 0, .int 0, .int 0, .int 0, .int 0, .long 0, .long 0, .long 0, .long 0, .int 0]))]) [0] rfl
  have hDc := hD.sub (ws' := [(mo, .inr (19, [.int 0, .int 0, .int 0, .int 0, .int 0, .int 0, .int 0, .ref ti, .ref si, .ref lo, .ref lh, .ref lk, .ref sp, .ref st, .ref pa, .ref br, .ref sg, .int 0, .int 0, .int 0, .int 0, .int 0, .int 0, .long 0, .long 0, .long 0, .long 0, .int 0]))]) [0] (by decide) rfl
  have hKc := hK.sub (tys' := []) [] rfl
  have hFc := va_free (wc := [(mo, .inr (19, [.int 0, .int 0, .int 0, .int 0, .int 0, .int 0, .int 0, .ref ti, .ref si, .ref lo, .ref lh, .ref lk, .ref sp, .ref st, .ref pa, .ref br, .ref sg, .int 0, .int 0, .int 0, .int 0, .int 0, .int 0, .long 0, .long 0, .long 0, .long 0, .int 0]))]) hD hS hA [0] rfl
  refine va_calli (va_runV (As := []) (rest := []) ⟨hx, hb, hml, hown, hts⟩ (k_sideNow l dC dI z zK zV 0 0 0 0 0 0 mo ti si lo lh lk sp st pa br sg 0 0 H.size) (cwV 0 hts gX15_off_X15_sideNow rfl rfl rfl (by decide +kernel) ⟨Nat.le_of_ble_eq_true rfl, Nat.le_of_ble_eq_true rfl⟩) ⟨kP_blind, va_recv hKc hPc (ci := 19) (q0 := 0) rfl rfl, kP_go hPc hKc hDc hFc hM hS⟩ rfl rfl hl.1 rfl (lv_room (Nat.le_of_ble_eq_true rfl)) dX15_off_6 ⟨Nat.le_of_ble_eq_true rfl, Nat.le_of_ble_eq_true rfl⟩) hS (fun q _ h => hFc q h) hFc (fun r1 u t H1 locs ht hvm hw hB hz1 hk1 hS => ?_)
  obtain ⟨hP, hD, hK⟩ := kJ (wr := []) (w1 := [(mo, .inr (19, [.int 0, .int 0, .int 0, .int 0, .int 0, .int 0, .int 0, .ref ti, .ref si, .ref lo, .ref lh, .ref lk, .ref sp, .ref st, .ref pa, .ref br, .ref sg, .int 0, .int 0, .int 0, .int 0, .int 0, .int 0, .long 0, .long 0, .long 0, .long 0, .int 0]))]) (t1 := []) hP hD hK [0] [] rfl rfl (by decide) (by decide) hk1 hFc ht hvm hB
  generalize H1 = H at hP hS ⊢
  have hP : va_P (dC, dI) vwCl [(mo, .inr (19, [.int 0, .int 0, .int 0, .int 0, .int 0, .int 0, .int 0, .ref ti, .ref si, .ref lo, .ref lh, .ref lk, .ref sp, .ref st, .ref pa, .ref br, .ref sg, .int 0, .int 0, .int 0, .int 0, .int 0, .int 0, .long 0, .long 0, .long 0, .long 0, .int 0]))] H := hP
  have hD : va_D A [(mo, .inr (19, [.int 0, .int 0, .int 0, .int 0, .int 0, .int 0, .int 0, .ref ti, .ref si, .ref lo, .ref lh, .ref lk, .ref sp, .ref st, .ref pa, .ref br, .ref sg, .int 0, .int 0, .int 0, .int 0, .int 0, .int 0, .long 0, .long 0, .long 0, .long 0, .int 0]))] := hD
  have hK : va_K (dC, dI) vwCl [] s := hK
  obtain rfl : 0 = r1 := hw
  refine lv_if_ge (tgt := 20) hx hb dX15_off_9 (by decide) (fun _ => ?_) (fun c_ => absurd (by decide +kernel) c_)
  refine lv_aload_n hx hb dX15_off_20 rfl (lv_at hl 0 rfl) ?_
  have hPc := hP.sub (ws' := [(mo, .inr (19, [.int 0, .int 0, .int 0, .int 0, .int 0, .int 0, .int 0, .ref ti, .ref si, .ref lo, .ref lh, .ref lk, .ref sp, .ref st, .ref pa, .ref br, .ref sg, .int 0, .int 0, .int 0, .int 0, .int 0, .int 0, .long 0, .long 0, .long 0, .long 0, .int 0]))]) [0] rfl
  have hDc := hD.sub (ws' := [(mo, .inr (19, [.int 0, .int 0, .int 0, .int 0, .int 0, .int 0, .int 0, .ref ti, .ref si, .ref lo, .ref lh, .ref lk, .ref sp, .ref st, .ref pa, .ref br, .ref sg, .int 0, .int 0, .int 0, .int 0, .int 0, .int 0, .long 0, .long 0, .long 0, .long 0, .int 0]))]) [0] (by decide) rfl
  have hKc := hK.sub (tys' := []) [] rfl
  have hFc := va_free (wc := [(mo, .inr (19, [.int 0, .int 0, .int 0, .int 0, .int 0, .int 0, .int 0, .ref ti, .ref si, .ref lo, .ref lh, .ref lk, .ref sp, .ref st, .ref pa, .ref br, .ref sg, .int 0, .int 0, .int 0, .int 0, .int 0, .int 0, .long 0, .long 0, .long 0, .long 0, .int 0]))]) hD hS hA [0] rfl
  refine va_calli (va_runV (As := []) (rest := []) ⟨hx, hb, hml, hown, hts⟩ (k_points l dC dI z zK zV 0 0 0 0 0 0 mo ti si lo lh lk sp st pa br sg 0 0 H.size) (cwV 0 hts gX15_off_X15_points rfl rfl rfl (by decide +kernel) ⟨Nat.le_of_ble_eq_true rfl, Nat.le_of_ble_eq_true rfl⟩) ⟨kP_blind, va_recv hKc hPc (ci := 19) (q0 := 0) rfl rfl, kP_go hPc hKc hDc hFc hM hS⟩ rfl rfl hl.1 rfl (lv_room (Nat.le_of_ble_eq_true rfl)) dX15_off_21 ⟨Nat.le_of_ble_eq_true rfl, Nat.le_of_ble_eq_true rfl⟩) hS (fun q _ h => hFc q h) hFc (fun r2 u t H1 locs ht hvm hw hB hz1 hk1 hS => ?_)
  obtain ⟨hP, hD, hK⟩ := kJ (wr := []) (w1 := [(mo, .inr (19, [.int 0, .int 0, .int 0, .int 0, .int 0, .int 0, .int 0, .ref ti, .ref si, .ref lo, .ref lh, .ref lk, .ref sp, .ref st, .ref pa, .ref br, .ref sg, .int 0, .int 0, .int 0, .int 0, .int 0, .int 0, .long 0, .long 0, .long 0, .long 0, .int 0]))]) (t1 := []) hP hD hK [0] [] rfl rfl (by decide) (by decide) hk1 hFc ht hvm hB
  generalize H1 = H at hP hS ⊢
  have hP : va_P (dC, dI) vwCl [(mo, .inr (19, [.int 0, .int 0, .int 0, .int 0, .int 0, .int 0, .int 0, .ref ti, .ref si, .ref lo, .ref lh, .ref lk, .ref sp, .ref st, .ref pa, .ref br, .ref sg, .int 0, .int 0, .int 0, .int 0, .int 0, .int 0, .long 0, .long 0, .long 0, .long 0, .int 0]))] H := hP
  have hD : va_D A [(mo, .inr (19, [.int 0, .int 0, .int 0, .int 0, .int 0, .int 0, .int 0, .ref ti, .ref si, .ref lo, .ref lh, .ref lk, .ref sp, .ref st, .ref pa, .ref br, .ref sg, .int 0, .int 0, .int 0, .int 0, .int 0, .int 0, .long 0, .long 0, .long 0, .long 0, .int 0]))] := hD
  have hK : va_K (dC, dI) vwCl [] s := hK
  obtain rfl : 0 = r2 := hw
  exact W.iret (v := 0) hx hb hr (fun t ht hW => ⟨⟨0, (), rfl, rfl, kB_end (w9 := [(mo, .inr (19, [.int 0, .int 0, .int 0, .int 0, .int 0, .int 0, .int 0, .ref ti, .ref si, .ref lo, .ref lh, .ref lk, .ref sp, .ref st, .ref pa, .ref br, .ref sg, .int 0, .int 0, .int 0, .int 0, .int 0, .int 0, .long 0, .long 0, .long 0, .long 0, .int 0]))]) (t9 := []) hP hK hD [0] [] rfl (by decide) rfl rfl t ht hW⟩, hS.F ht⟩) hS.2.2 dX15_off_24
abbrev wd_k_m_best (z : Nat → Nat) (mo : Nat) (ti : Nat) (si : Nat) (lo : Nat) (lh : Nat) (lk : Nat) (sp : Nat) (st : Nat) (pa : Nat) (br : Nat) (sg : Nat) (th : Int32) : va_W := [(mo, .inr (19, [.int 0, .int 0, .int 0, .int 0, .int 0, .int 0, .int 0, .ref ti, .ref si, .ref lo, .ref lh, .ref lk, .ref sp, .ref st, .ref pa, .ref br, .ref sg, .int 0, .int 0, .int 0, .int 0, .int 0, .int 0, .long 0, .long 0, .long 0, .long 0, .int th]))]
set_option maxHeartbeats 4000000 in
set_option maxRecDepth 100000 in
theorem k_m_best (l : Launch) (dC : Nat → ClassId) (dI : Nat → Nat → Nat) (z zK zV : Nat → Nat) (mo : Nat) (ti : Nat) (si : Nat) (lo : Nat) (lh : Nat) (lk : Nat) (sp : Nat) (st : Nat) (pa : Nat) (br : Nat) (sg : Nat) (th : Int32) (sz : Nat)  : Met l yX15_best wsX15_best ({ frames := 4, cells := 0, slots := 0, locals := 84 }) (kP dC dI z zK zV [.ref mo] sz (wd_k_m_best z mo ti si lo lh lk sp st pa br sg th) []) (va_Qi (fun (r : Int32) (_ : Unit) => 4 = r) (fun _ t => kB (dC, dI) (va_A (wd_k_m_best z mo ti si lo lh lk sp st pa br sg th) sz) [(mo, .inr (19, [.int 0, .int 0, .int 0, .int 0, .int 0, .int 0, .int 0, .ref ti, .ref si, .ref lo, .ref lh, .ref lk, .ref sp, .ref st, .ref pa, .ref br, .ref sg, .int 0, .int 0, .int 0, .int 0, .int 0, .int 0, .long 0, .long 0, .long 0, .long 0, .int 0]))] [] t) (va_A (wd_k_m_best z mo ti si lo lh lk sp st pa br sg th) sz)) 0 0 (va_A (wd_k_m_best z mo ti si lo lh lk sp st pa br sg th) sz) := by
  refine Met.ofW (cc := cX15_best) (maxL := 1) (ret := (some .int)) (by decide) rfl ?_
  intro p e s m args below meth c s₁ B hml hv
  obtain ⟨rfl, hsz, hP, hK, hD0, hM⟩ := hv
  have hx := B.exec
  have hb := B.bytes
  have hr := B.returns
  have hts := atoms_spec (ws := wsX15_best) B.pre
  have hown : s.vm.findClass RX15 = some m.cls := findClass_of_methodNamed B.named
  have hlocks := B.notSynchronized
  have hiX15 : ∀ w ∈ u_ws RX15 TX15 28, w ∈ wsX15_best := by decide +kernel
  subst hsz
  have hD := hD0.self (sz := s.heap.size)
  generalize hAe : va_A (wd_k_m_best z mo ti si lo lh lk sp st pa br sg th) s.heap.size = A at hD hM ⊢
  have hA : ∀ q : Nat, s.heap.size ≤ q → A q := fun q h => by rw [← hAe]; exact Or.inr h
  have hS : va_S A s.heap s.heap [] := va_S.rf
  have hP : va_P (dC, dI) vwCl [(mo, .inr (19, [.int 0, .int 0, .int 0, .int 0, .int 0, .int 0, .int 0, .ref ti, .ref si, .ref lo, .ref lh, .ref lk, .ref sp, .ref st, .ref pa, .ref br, .ref sg, .int 0, .int 0, .int 0, .int 0, .int 0, .int 0, .long 0, .long 0, .long 0, .long 0, .int th]))] s.heap := hP
  have hD : va_D A [(mo, .inr (19, [.int 0, .int 0, .int 0, .int 0, .int 0, .int 0, .int 0, .ref ti, .ref si, .ref lo, .ref lh, .ref lk, .ref sp, .ref st, .ref pa, .ref br, .ref sg, .int 0, .int 0, .int 0, .int 0, .int 0, .int 0, .long 0, .long 0, .long 0, .long 0, .int th]))] := hD
  have hl := lv_entry ([.ref mo]) (n := 1) (Nat.le_of_ble_eq_true rfl)
  rw [lg_entry_eq]
  generalize (lg_sl ([.ref mo]) ++ List.replicate (1 - (lg_sl ([.ref mo])).length) Slot.unset).toArray = ls at hl ⊢
  have hl : lv_has ls 1 [(0, .ref mo)] := hl
  refine lv_aload_n hx hb dX15_best_0 rfl (lv_at hl 0 rfl) ?_
  refine lv_iconst (v := 0) hx hb dX15_best_1 (by decide) ?_
  refine va_put (D := (dC, dI)) (ci := 19) (v := .int 0) (ty := .int) (C := RX15) (T := TX15) (N := 28) hx hb hts hiX15 tyX15 tyX15_ok nmX15 hown hK hP hD hS 0 rfl rfl 27 (by decide) (hts (.fieldLink RX15 45 "SquareRigModel" "thrown" "I") (by decide +kernel)) (fun _ h9 => h9) rfl (by decide +kernel) rfl rfl (Nat.le_of_ble_eq_true rfl) dX15_best_2 (fun H locs hP hD hS => ?_)
  have hP : va_P (dC, dI) vwCl [(mo, .inr (19, [.int 0, .int 0, .int 0, .int 0, .int 0, .int 0, .int 0, .ref ti, .ref si, .ref lo, .ref lh, .ref lk, .ref sp, .ref st, .ref pa, .ref br, .ref sg, .int 0, .int 0, .int 0, .int 0, .int 0, .int 0, .long 0, .long 0, .long 0, .long 0, .int 0]))] H := hP
  have hD : va_D A [(mo, .inr (19, [.int 0, .int 0, .int 0, .int 0, .int 0, .int 0, .int 0, .ref ti, .ref si, .ref lo, .ref lh, .ref lk, .ref sp, .ref st, .ref pa, .ref br, .ref sg, .int 0, .int 0, .int 0, .int 0, .int 0, .int 0, .long 0, .long 0, .long 0, .long 0, .int 0]))] := hD
  refine lv_aload_n hx hb dX15_best_5 rfl (lv_at hl 0 rfl) ?_
  have hPc := hP.sub (ws' := [(mo, .inr (19, [.int 0, .int 0, .int 0, .int 0, .int 0, .int 0, .int 0, .ref ti, .ref si, .ref lo, .ref lh, .ref lk, .ref sp, .ref st, .ref pa, .ref br, .ref sg, .int 0, .int 0, .int 0, .int 0, .int 0, .int 0, .long 0, .long 0, .long 0, .long 0, .int 0]))]) [0] rfl
  have hDc := hD.sub (ws' := [(mo, .inr (19, [.int 0, .int 0, .int 0, .int 0, .int 0, .int 0, .int 0, .ref ti, .ref si, .ref lo, .ref lh, .ref lk, .ref sp, .ref st, .ref pa, .ref br, .ref sg, .int 0, .int 0, .int 0, .int 0, .int 0, .int 0, .long 0, .long 0, .long 0, .long 0, .int 0]))]) [0] (by decide) rfl
  have hKc := hK.sub (tys' := []) [] rfl
  have hFc := va_free (wc := [(mo, .inr (19, [.int 0, .int 0, .int 0, .int 0, .int 0, .int 0, .int 0, .ref ti, .ref si, .ref lo, .ref lh, .ref lk, .ref sp, .ref st, .ref pa, .ref br, .ref sg, .int 0, .int 0, .int 0, .int 0, .int 0, .int 0, .long 0, .long 0, .long 0, .long 0, .int 0]))]) hD hS hA [0] rfl
  refine va_calli (va_runV (As := []) (rest := []) ⟨hx, hb, hml, hown, hts⟩ (k_bestNow l dC dI z zK zV 0 0 0 0 0 0 mo ti si lo lh lk sp st pa br sg 0 0 H.size) (cwV 0 hts gX15_best_X15_bestNow rfl rfl rfl (by decide +kernel) ⟨Nat.le_of_ble_eq_true rfl, Nat.le_of_ble_eq_true rfl⟩) ⟨kP_blind, va_recv hKc hPc (ci := 19) (q0 := 0) rfl rfl, kP_go hPc hKc hDc hFc hM hS⟩ rfl rfl hl.1 rfl (lv_room (Nat.le_of_ble_eq_true rfl)) dX15_best_6 ⟨Nat.le_of_ble_eq_true rfl, Nat.le_of_ble_eq_true rfl⟩) hS (fun q _ h => hFc q h) hFc (fun r1 u t H1 locs ht hvm hw hB hz1 hk1 hS => ?_)
  obtain ⟨hP, hD, hK⟩ := kJ (wr := []) (w1 := [(mo, .inr (19, [.int 0, .int 0, .int 0, .int 0, .int 0, .int 0, .int 0, .ref ti, .ref si, .ref lo, .ref lh, .ref lk, .ref sp, .ref st, .ref pa, .ref br, .ref sg, .int 0, .int 0, .int 0, .int 0, .int 0, .int 0, .long 0, .long 0, .long 0, .long 0, .int 0]))]) (t1 := []) hP hD hK [0] [] rfl rfl (by decide) (by decide) hk1 hFc ht hvm hB
  generalize H1 = H at hP hS ⊢
  have hP : va_P (dC, dI) vwCl [(mo, .inr (19, [.int 0, .int 0, .int 0, .int 0, .int 0, .int 0, .int 0, .ref ti, .ref si, .ref lo, .ref lh, .ref lk, .ref sp, .ref st, .ref pa, .ref br, .ref sg, .int 0, .int 0, .int 0, .int 0, .int 0, .int 0, .long 0, .long 0, .long 0, .long 0, .int 0]))] H := hP
  have hD : va_D A [(mo, .inr (19, [.int 0, .int 0, .int 0, .int 0, .int 0, .int 0, .int 0, .ref ti, .ref si, .ref lo, .ref lh, .ref lk, .ref sp, .ref st, .ref pa, .ref br, .ref sg, .int 0, .int 0, .int 0, .int 0, .int 0, .int 0, .long 0, .long 0, .long 0, .long 0, .int 0]))] := hD
  have hK : va_K (dC, dI) vwCl [] s := hK
  obtain rfl : 4 = r1 := hw
  exact W.iret (v := 4) hx hb hr (fun t ht hW => ⟨⟨4, (), rfl, rfl, kB_end (w9 := [(mo, .inr (19, [.int 0, .int 0, .int 0, .int 0, .int 0, .int 0, .int 0, .ref ti, .ref si, .ref lo, .ref lh, .ref lk, .ref sp, .ref st, .ref pa, .ref br, .ref sg, .int 0, .int 0, .int 0, .int 0, .int 0, .int 0, .long 0, .long 0, .long 0, .long 0, .int 0]))]) (t9 := []) hP hK hD [0] [] rfl (by decide) rfl rfl t ht hW⟩, hS.F ht⟩) hS.2.2 dX15_best_9
abbrev wd_k_m_noon (z : Nat → Nat) (mo : Nat) (ti : Nat) (si : Nat) (lo : Nat) (lh : Nat) (lk : Nat) (sp : Nat) (st : Nat) (pa : Nat) (br : Nat) (sg : Nat) (th : Int32) : va_W := [(mo, .inr (19, [.int 0, .int 0, .int 0, .int 0, .int 0, .int 0, .int 0, .ref ti, .ref si, .ref lo, .ref lh, .ref lk, .ref sp, .ref st, .ref pa, .ref br, .ref sg, .int 0, .int 0, .int 0, .int 0, .int 0, .int 0, .long 0, .long 0, .long 0, .long 0, .int th]))]
set_option maxHeartbeats 4000000 in
set_option maxRecDepth 100000 in
theorem k_m_noon (l : Launch) (dC : Nat → ClassId) (dI : Nat → Nat → Nat) (z zK zV : Nat → Nat) (mo : Nat) (ti : Nat) (si : Nat) (lo : Nat) (lh : Nat) (lk : Nat) (sp : Nat) (st : Nat) (pa : Nat) (br : Nat) (sg : Nat) (th : Int32) (sz : Nat)  : Met l yX15_noon wsX15_noon ({ frames := 0, cells := 0, slots := 0, locals := 0 }) (kP dC dI z zK zV [.ref mo] sz (wd_k_m_noon z mo ti si lo lh lk sp st pa br sg th) []) (va_Ql (fun (r : Int64) (_ : Unit) => 0 = r) (fun _ t => kB (dC, dI) (va_A (wd_k_m_noon z mo ti si lo lh lk sp st pa br sg th) sz) [(mo, .inr (19, [.int 0, .int 0, .int 0, .int 0, .int 0, .int 0, .int 0, .ref ti, .ref si, .ref lo, .ref lh, .ref lk, .ref sp, .ref st, .ref pa, .ref br, .ref sg, .int 0, .int 0, .int 0, .int 0, .int 0, .int 0, .long 0, .long 0, .long 0, .long 0, .int 0]))] [] t) (va_A (wd_k_m_noon z mo ti si lo lh lk sp st pa br sg th) sz)) 0 0 (va_A (wd_k_m_noon z mo ti si lo lh lk sp st pa br sg th) sz) := by
  refine Met.ofW (cc := cX15_noon) (maxL := 3) (ret := (some .long)) (by decide) rfl ?_
  intro p e s m args below meth c s₁ B hml hv
  obtain ⟨rfl, hsz, hP, hK, hD0, hM⟩ := hv
  have hx := B.exec
  have hb := B.bytes
  have hr := B.returns
  have hts := atoms_spec (ws := wsX15_noon) B.pre
  have hown : s.vm.findClass RX15 = some m.cls := findClass_of_methodNamed B.named
  have hlocks := B.notSynchronized
  have hiX15 : ∀ w ∈ u_ws RX15 TX15 28, w ∈ wsX15_noon := by decide +kernel
  subst hsz
  have hD := hD0.self (sz := s.heap.size)
  generalize hAe : va_A (wd_k_m_noon z mo ti si lo lh lk sp st pa br sg th) s.heap.size = A at hD hM ⊢
  have hA : ∀ q : Nat, s.heap.size ≤ q → A q := fun q h => by rw [← hAe]; exact Or.inr h
  have hS : va_S A s.heap s.heap [] := va_S.rf
  have hP : va_P (dC, dI) vwCl [(mo, .inr (19, [.int 0, .int 0, .int 0, .int 0, .int 0, .int 0, .int 0, .ref ti, .ref si, .ref lo, .ref lh, .ref lk, .ref sp, .ref st, .ref pa, .ref br, .ref sg, .int 0, .int 0, .int 0, .int 0, .int 0, .int 0, .long 0, .long 0, .long 0, .long 0, .int th]))] s.heap := hP
  have hD : va_D A [(mo, .inr (19, [.int 0, .int 0, .int 0, .int 0, .int 0, .int 0, .int 0, .ref ti, .ref si, .ref lo, .ref lh, .ref lk, .ref sp, .ref st, .ref pa, .ref br, .ref sg, .int 0, .int 0, .int 0, .int 0, .int 0, .int 0, .long 0, .long 0, .long 0, .long 0, .int th]))] := hD
  have hl := lv_entry ([.ref mo]) (n := 3) (Nat.le_of_ble_eq_true rfl)
  rw [lg_entry_eq]
  generalize (lg_sl ([.ref mo]) ++ List.replicate (3 - (lg_sl ([.ref mo])).length) Slot.unset).toArray = ls at hl ⊢
  have hl : lv_has ls 3 [(0, .ref mo)] := hl
  refine lv_aload_n hx hb dX15_noon_0 rfl (lv_at hl 0 rfl) ?_
  refine lv_iconst (v := 0) hx hb dX15_noon_1 (by decide) ?_
  refine va_put (D := (dC, dI)) (ci := 19) (v := .int 0) (ty := .int) (C := RX15) (T := TX15) (N := 28) hx hb hts hiX15 tyX15 tyX15_ok nmX15 hown hK hP hD hS 0 rfl rfl 27 (by decide) (hts (.fieldLink RX15 45 "SquareRigModel" "thrown" "I") (by decide +kernel)) (fun _ h9 => h9) rfl (by decide +kernel) rfl rfl (Nat.le_of_ble_eq_true rfl) dX15_noon_2 (fun H locs hP hD hS => ?_)
  have hP : va_P (dC, dI) vwCl [(mo, .inr (19, [.int 0, .int 0, .int 0, .int 0, .int 0, .int 0, .int 0, .ref ti, .ref si, .ref lo, .ref lh, .ref lk, .ref sp, .ref st, .ref pa, .ref br, .ref sg, .int 0, .int 0, .int 0, .int 0, .int 0, .int 0, .long 0, .long 0, .long 0, .long 0, .int 0]))] H := hP
  have hD : va_D A [(mo, .inr (19, [.int 0, .int 0, .int 0, .int 0, .int 0, .int 0, .int 0, .ref ti, .ref si, .ref lo, .ref lh, .ref lk, .ref sp, .ref st, .ref pa, .ref br, .ref sg, .int 0, .int 0, .int 0, .int 0, .int 0, .int 0, .long 0, .long 0, .long 0, .long 0, .int 0]))] := hD
  refine lv_aload_n hx hb dX15_noon_5 rfl (lv_at hl 0 rfl) ?_
  refine va_get (D := (dC, dI)) (ci := 19) (v := .long 0) (C := RX15) (T := TX15) (N := 28) hx hb hts hiX15 hown hK hP 0 rfl rfl 24 (by decide) (hts (.fieldLink RX15 277 "SquareRigModel" "north" "J") (by decide +kernel)) (fun _ h9 => h9) rfl dX15_noon_6 ?_
  refine lv_aload_n hx hb dX15_noon_9 rfl (lv_at hl 0 rfl) ?_
  refine va_get (D := (dC, dI)) (ci := 19) (v := .long 0) (C := RX15) (T := TX15) (N := 28) hx hb hts hiX15 hown hK hP 0 rfl rfl 26 (by decide) (hts (.fieldLink RX15 294 "SquareRigModel" "reckonedNorth" "J") (by decide +kernel)) (fun _ h9 => h9) rfl dX15_noon_10 ?_
  refine lv_lsub hx hb dX15_noon_13 ?_
  refine kc_l (y := 0) (by decide +kernel) ?_
  refine lv_lstore_n (lv' := [(1, .long 0), (0, .ref mo)]) hx hb dX15_noon_14 rfl hl (by decide) rfl (fun ls hl => ?_)
  refine lv_aload_n hx hb dX15_noon_15 rfl (lv_at hl 1 rfl) ?_
  refine lv_aload_n hx hb dX15_noon_16 rfl (lv_at hl 1 rfl) ?_
  refine va_get (D := (dC, dI)) (ci := 19) (v := .long 0) (C := RX15) (T := TX15) (N := 28) hx hb hts hiX15 hown hK hP 0 rfl rfl 24 (by decide) (hts (.fieldLink RX15 277 "SquareRigModel" "north" "J") (by decide +kernel)) (fun _ h9 => h9) rfl dX15_noon_17 ?_
  refine va_put (D := (dC, dI)) (ci := 19) (v := .long 0) (ty := .long) (C := RX15) (T := TX15) (N := 28) hx hb hts hiX15 tyX15 tyX15_ok nmX15 hown hK hP hD hS 0 rfl rfl 26 (by decide) (hts (.fieldLink RX15 294 "SquareRigModel" "reckonedNorth" "J") (by decide +kernel)) (fun _ h9 => h9) rfl (by decide +kernel) rfl rfl (Nat.le_of_ble_eq_true rfl) dX15_noon_20 (fun H locs hP hD hS => ?_)
  have hP : va_P (dC, dI) vwCl [(mo, .inr (19, [.int 0, .int 0, .int 0, .int 0, .int 0, .int 0, .int 0, .ref ti, .ref si, .ref lo, .ref lh, .ref lk, .ref sp, .ref st, .ref pa, .ref br, .ref sg, .int 0, .int 0, .int 0, .int 0, .int 0, .int 0, .long 0, .long 0, .long 0, .long 0, .int 0]))] H := hP
  have hD : va_D A [(mo, .inr (19, [.int 0, .int 0, .int 0, .int 0, .int 0, .int 0, .int 0, .ref ti, .ref si, .ref lo, .ref lh, .ref lk, .ref sp, .ref st, .ref pa, .ref br, .ref sg, .int 0, .int 0, .int 0, .int 0, .int 0, .int 0, .long 0, .long 0, .long 0, .long 0, .int 0]))] := hD
  refine lv_lload_n hx hb dX15_noon_23 rfl (lv_at hl 0 rfl) ?_
  exact W.lret (v := 0) hx hb hr (fun t ht hW => ⟨⟨0, (), rfl, rfl, kB_end (w9 := [(mo, .inr (19, [.int 0, .int 0, .int 0, .int 0, .int 0, .int 0, .int 0, .ref ti, .ref si, .ref lo, .ref lh, .ref lk, .ref sp, .ref st, .ref pa, .ref br, .ref sg, .int 0, .int 0, .int 0, .int 0, .int 0, .int 0, .long 0, .long 0, .long 0, .long 0, .int 0]))]) (t9 := []) hP hK hD [0] [] rfl (by decide) rfl rfl t ht hW⟩, hS.F ht⟩) hS.2.2 dX15_noon_24
abbrev wd_k_m_isSame (z : Nat → Nat) (mo : Nat) (ti : Nat) (si : Nat) (lo : Nat) (lh : Nat) (lk : Nat) (sp : Nat) (st : Nat) (pa : Nat) (br : Nat) (sg : Nat) (th : Int32) : va_W := [(mo, .inr (19, [.int 0, .int 0, .int 0, .int 0, .int 0, .int 0, .int 0, .ref ti, .ref si, .ref lo, .ref lh, .ref lk, .ref sp, .ref st, .ref pa, .ref br, .ref sg, .int 0, .int 0, .int 0, .int 0, .int 0, .int 0, .long 0, .long 0, .long 0, .long 0, .int th]))]
set_option maxHeartbeats 4000000 in
set_option maxRecDepth 100000 in
theorem k_m_isSame (l : Launch) (dC : Nat → ClassId) (dI : Nat → Nat → Nat) (z zK zV : Nat → Nat) (mo : Nat) (ti : Nat) (si : Nat) (lo : Nat) (lh : Nat) (lk : Nat) (sp : Nat) (st : Nat) (pa : Nat) (br : Nat) (sg : Nat) (th : Int32) (sz : Nat)  : Met l yX15_isSame wsX15_isSame ({ frames := 0, cells := 0, slots := 0, locals := 0 }) (kP dC dI z zK zV [.ref mo] sz (wd_k_m_isSame z mo ti si lo lh lk sp st pa br sg th) []) (va_Qi (fun (r : Int32) (_ : Unit) => 1 = r) (fun _ t => kB (dC, dI) (va_A (wd_k_m_isSame z mo ti si lo lh lk sp st pa br sg th) sz) [(mo, .inr (19, [.int 0, .int 0, .int 0, .int 0, .int 0, .int 0, .int 0, .ref ti, .ref si, .ref lo, .ref lh, .ref lk, .ref sp, .ref st, .ref pa, .ref br, .ref sg, .int 0, .int 0, .int 0, .int 0, .int 0, .int 0, .long 0, .long 0, .long 0, .long 0, .int 0]))] [] t) (va_A (wd_k_m_isSame z mo ti si lo lh lk sp st pa br sg th) sz)) 0 0 (va_A (wd_k_m_isSame z mo ti si lo lh lk sp st pa br sg th) sz) := by
  refine Met.ofW (cc := cX15_isSame) (maxL := 1) (ret := (some .boolean)) (by decide) rfl ?_
  intro p e s m args below meth c s₁ B hml hv
  obtain ⟨rfl, hsz, hP, hK, hD0, hM⟩ := hv
  have hx := B.exec
  have hb := B.bytes
  have hr := B.returns
  have hts := atoms_spec (ws := wsX15_isSame) B.pre
  have hown : s.vm.findClass RX15 = some m.cls := findClass_of_methodNamed B.named
  have hlocks := B.notSynchronized
  have hiX15 : ∀ w ∈ u_ws RX15 TX15 28, w ∈ wsX15_isSame := by decide +kernel
  subst hsz
  have hD := hD0.self (sz := s.heap.size)
  generalize hAe : va_A (wd_k_m_isSame z mo ti si lo lh lk sp st pa br sg th) s.heap.size = A at hD hM ⊢
  have hA : ∀ q : Nat, s.heap.size ≤ q → A q := fun q h => by rw [← hAe]; exact Or.inr h
  have hS : va_S A s.heap s.heap [] := va_S.rf
  have hP : va_P (dC, dI) vwCl [(mo, .inr (19, [.int 0, .int 0, .int 0, .int 0, .int 0, .int 0, .int 0, .ref ti, .ref si, .ref lo, .ref lh, .ref lk, .ref sp, .ref st, .ref pa, .ref br, .ref sg, .int 0, .int 0, .int 0, .int 0, .int 0, .int 0, .long 0, .long 0, .long 0, .long 0, .int th]))] s.heap := hP
  have hD : va_D A [(mo, .inr (19, [.int 0, .int 0, .int 0, .int 0, .int 0, .int 0, .int 0, .ref ti, .ref si, .ref lo, .ref lh, .ref lk, .ref sp, .ref st, .ref pa, .ref br, .ref sg, .int 0, .int 0, .int 0, .int 0, .int 0, .int 0, .long 0, .long 0, .long 0, .long 0, .int th]))] := hD
  have hl := lv_entry ([.ref mo]) (n := 1) (Nat.le_of_ble_eq_true rfl)
  rw [lg_entry_eq]
  generalize (lg_sl ([.ref mo]) ++ List.replicate (1 - (lg_sl ([.ref mo])).length) Slot.unset).toArray = ls at hl ⊢
  have hl : lv_has ls 1 [(0, .ref mo)] := hl
  refine lv_aload_n hx hb dX15_isSame_0 rfl (lv_at hl 0 rfl) ?_
  refine lv_iconst (v := 0) hx hb dX15_isSame_1 (by decide) ?_
  refine va_put (D := (dC, dI)) (ci := 19) (v := .int 0) (ty := .int) (C := RX15) (T := TX15) (N := 28) hx hb hts hiX15 tyX15 tyX15_ok nmX15 hown hK hP hD hS 0 rfl rfl 27 (by decide) (hts (.fieldLink RX15 45 "SquareRigModel" "thrown" "I") (by decide +kernel)) (fun _ h9 => h9) rfl (by decide +kernel) rfl rfl (Nat.le_of_ble_eq_true rfl) dX15_isSame_2 (fun H locs hP hD hS => ?_)
  have hP : va_P (dC, dI) vwCl [(mo, .inr (19, [.int 0, .int 0, .int 0, .int 0, .int 0, .int 0, .int 0, .ref ti, .ref si, .ref lo, .ref lh, .ref lk, .ref sp, .ref st, .ref pa, .ref br, .ref sg, .int 0, .int 0, .int 0, .int 0, .int 0, .int 0, .long 0, .long 0, .long 0, .long 0, .int 0]))] H := hP
  have hD : va_D A [(mo, .inr (19, [.int 0, .int 0, .int 0, .int 0, .int 0, .int 0, .int 0, .ref ti, .ref si, .ref lo, .ref lh, .ref lk, .ref sp, .ref st, .ref pa, .ref br, .ref sg, .int 0, .int 0, .int 0, .int 0, .int 0, .int 0, .long 0, .long 0, .long 0, .long 0, .int 0]))] := hD
  refine lv_iconst (v := 1) hx hb dX15_isSame_5 (by decide) ?_
  exact W.zret (v := 1) hx hb hr (by decide +kernel) (fun t ht hW => ⟨⟨1, (), rfl, rfl, kB_end (w9 := [(mo, .inr (19, [.int 0, .int 0, .int 0, .int 0, .int 0, .int 0, .int 0, .ref ti, .ref si, .ref lo, .ref lh, .ref lk, .ref sp, .ref st, .ref pa, .ref br, .ref sg, .int 0, .int 0, .int 0, .int 0, .int 0, .int 0, .long 0, .long 0, .long 0, .long 0, .int 0]))]) (t9 := []) hP hK hD [0] [] rfl (by decide) rfl rfl t ht hW⟩, hS.F ht⟩) hS.2.2 dX15_isSame_6
abbrev wd_k_m_lines (z : Nat → Nat) (mo : Nat) (ti : Nat) (si : Nat) (lo : Nat) (lh : Nat) (lk : Nat) (sp : Nat) (st : Nat) (pa : Nat) (br : Nat) (sg : Nat) (th : Int32) : va_W := [(mo, .inr (19, [.int 0, .int 0, .int 0, .int 0, .int 0, .int 0, .int 0, .ref ti, .ref si, .ref lo, .ref lh, .ref lk, .ref sp, .ref st, .ref pa, .ref br, .ref sg, .int 0, .int 0, .int 0, .int 0, .int 0, .int 0, .long 0, .long 0, .long 0, .long 0, .int th])), (lk, .inr (3, [.int 0, .ref (z 0), .int 0]))]
set_option maxHeartbeats 4000000 in
set_option maxRecDepth 100000 in
theorem k_m_lines (l : Launch) (dC : Nat → ClassId) (dI : Nat → Nat → Nat) (z zK zV : Nat → Nat) (mo : Nat) (ti : Nat) (si : Nat) (lo : Nat) (lh : Nat) (lk : Nat) (sp : Nat) (st : Nat) (pa : Nat) (br : Nat) (sg : Nat) (th : Int32) (sz : Nat)  : Met l yX15_lines wsX15_lines ({ frames := 1, cells := 0, slots := 0, locals := 20 }) (kP dC dI z zK zV [.ref mo] sz (wd_k_m_lines z mo ti si lo lh lk sp st pa br sg th) []) (va_Qi (fun (r : Int32) (_ : Unit) => 0 = r) (fun _ t => kB (dC, dI) (va_A (wd_k_m_lines z mo ti si lo lh lk sp st pa br sg th) sz) [(mo, .inr (19, [.int 0, .int 0, .int 0, .int 0, .int 0, .int 0, .int 0, .ref ti, .ref si, .ref lo, .ref lh, .ref lk, .ref sp, .ref st, .ref pa, .ref br, .ref sg, .int 0, .int 0, .int 0, .int 0, .int 0, .int 0, .long 0, .long 0, .long 0, .long 0, .int 0]))] [] t) (va_A (wd_k_m_lines z mo ti si lo lh lk sp st pa br sg th) sz)) 0 0 (va_A (wd_k_m_lines z mo ti si lo lh lk sp st pa br sg th) sz) := by
  refine Met.ofW (cc := cX15_lines) (maxL := 1) (ret := (some .int)) (by decide) rfl ?_
  intro p e s m args below meth c s₁ B hml hv
  obtain ⟨rfl, hsz, hP, hK, hD0, hM⟩ := hv
  have hx := B.exec
  have hb := B.bytes
  have hr := B.returns
  have hts := atoms_spec (ws := wsX15_lines) B.pre
  have hown : s.vm.findClass RX15 = some m.cls := findClass_of_methodNamed B.named
  have hlocks := B.notSynchronized
  have hiX15 : ∀ w ∈ u_ws RX15 TX15 28, w ∈ wsX15_lines := by decide +kernel
  subst hsz
  have hD := hD0.self (sz := s.heap.size)
  generalize hAe : va_A (wd_k_m_lines z mo ti si lo lh lk sp st pa br sg th) s.heap.size = A at hD hM ⊢
  have hA : ∀ q : Nat, s.heap.size ≤ q → A q := fun q h => by rw [← hAe]; exact Or.inr h
  have hS : va_S A s.heap s.heap [] := va_S.rf
  have hP : va_P (dC, dI) vwCl [(mo, .inr (19, [.int 0, .int 0, .int 0, .int 0, .int 0, .int 0, .int 0, .ref ti, .ref si, .ref lo, .ref lh, .ref lk, .ref sp, .ref st, .ref pa, .ref br, .ref sg, .int 0, .int 0, .int 0, .int 0, .int 0, .int 0, .long 0, .long 0, .long 0, .long 0, .int th])), (lk, .inr (3, [.int 0, .ref (z 0), .int 0]))] s.heap := hP
  have hD : va_D A [(mo, .inr (19, [.int 0, .int 0, .int 0, .int 0, .int 0, .int 0, .int 0, .ref ti, .ref si, .ref lo, .ref lh, .ref lk, .ref sp, .ref st, .ref pa, .ref br, .ref sg, .int 0, .int 0, .int 0, .int 0, .int 0, .int 0, .long 0, .long 0, .long 0, .long 0, .int th])), (lk, .inr (3, [.int 0, .ref (z 0), .int 0]))] := hD
  have hl := lv_entry ([.ref mo]) (n := 1) (Nat.le_of_ble_eq_true rfl)
  rw [lg_entry_eq]
  generalize (lg_sl ([.ref mo]) ++ List.replicate (1 - (lg_sl ([.ref mo])).length) Slot.unset).toArray = ls at hl ⊢
  have hl : lv_has ls 1 [(0, .ref mo)] := hl
  refine lv_aload_n hx hb dX15_lines_0 rfl (lv_at hl 0 rfl) ?_
  refine lv_iconst (v := 0) hx hb dX15_lines_1 (by decide) ?_
  refine va_put (D := (dC, dI)) (ci := 19) (v := .int 0) (ty := .int) (C := RX15) (T := TX15) (N := 28) hx hb hts hiX15 tyX15 tyX15_ok nmX15 hown hK hP hD hS 0 rfl rfl 27 (by decide) (hts (.fieldLink RX15 45 "SquareRigModel" "thrown" "I") (by decide +kernel)) (fun _ h9 => h9) rfl (by decide +kernel) rfl rfl (Nat.le_of_ble_eq_true rfl) dX15_lines_2 (fun H locs hP hD hS => ?_)
  have hP : va_P (dC, dI) vwCl [(mo, .inr (19, [.int 0, .int 0, .int 0, .int 0, .int 0, .int 0, .int 0, .ref ti, .ref si, .ref lo, .ref lh, .ref lk, .ref sp, .ref st, .ref pa, .ref br, .ref sg, .int 0, .int 0, .int 0, .int 0, .int 0, .int 0, .long 0, .long 0, .long 0, .long 0, .int 0])), (lk, .inr (3, [.int 0, .ref (z 0), .int 0]))] H := hP
  have hD : va_D A [(mo, .inr (19, [.int 0, .int 0, .int 0, .int 0, .int 0, .int 0, .int 0, .ref ti, .ref si, .ref lo, .ref lh, .ref lk, .ref sp, .ref st, .ref pa, .ref br, .ref sg, .int 0, .int 0, .int 0, .int 0, .int 0, .int 0, .long 0, .long 0, .long 0, .long 0, .int 0])), (lk, .inr (3, [.int 0, .ref (z 0), .int 0]))] := hD
  refine lv_aload_n hx hb dX15_lines_5 rfl (lv_at hl 0 rfl) ?_
  refine va_get (D := (dC, dI)) (ci := 19) (v := .ref lk) (C := RX15) (T := TX15) (N := 28) hx hb hts hiX15 hown hK hP 0 rfl rfl 11 (by decide) (hts (.fieldLink RX15 26 "SquareRigModel" "log" "Ljava/util/List;") (by decide +kernel)) (fun _ h9 => h9) rfl dX15_lines_6 ?_
  have hPc := hP.sub (ws' := [(lk, .inr (3, [.int 0, .ref (z 0), .int 0]))]) [1] rfl
  have hDc := hD.sub (ws' := [(lk, .inr (3, [.int 0, .ref (z 0), .int 0]))]) [1] (by decide) rfl
  have hKc := hK.sub (tys' := []) [] rfl
  have hFc := va_free (wc := [(lk, .inr (3, [.int 0, .ref (z 0), .int 0]))]) hD hS hA [1] rfl
  refine va_callFi (va_runF (hK.1 3 _ rfl).2 (As := []) (rest := []) ⟨hx, hb, hml, hown, hts⟩ (k_size0 l dC dI z zK zV lk H.size) (va_cwF 0 hts gX15_lines_Jx4a65c_size_8abf5_f156Jx4a65c rfl rfl rfl hM.2.2.2.2.2.2.2.2.2.2.1.2.2.1 (by decide +kernel) ⟨Nat.le_of_ble_eq_true rfl, Nat.le_of_ble_eq_true rfl⟩) ⟨kP_blind, va_recv hKc hPc (ci := 3) (q0 := 0) rfl rfl, kP_go hPc hKc hDc hFc hM hS⟩ rfl rfl hl.1 rfl (lv_room (Nat.le_of_ble_eq_true rfl)) dX15_lines_9 ⟨Nat.le_of_ble_eq_true rfl, Nat.le_of_ble_eq_true rfl⟩) hS (fun q _ h => hFc q h) hFc (fun r1 u t H1 locs ht hvm hw hB hz1 hk1 hS => ?_)
  obtain ⟨hP, hD, hK⟩ := kJ (wr := [(mo, .inr (19, [.int 0, .int 0, .int 0, .int 0, .int 0, .int 0, .int 0, .ref ti, .ref si, .ref lo, .ref lh, .ref lk, .ref sp, .ref st, .ref pa, .ref br, .ref sg, .int 0, .int 0, .int 0, .int 0, .int 0, .int 0, .long 0, .long 0, .long 0, .long 0, .int 0]))]) (w1 := [(lk, .inr (3, [.int 0, .ref (z 0), .int 0]))]) (t1 := []) hP hD hK [1] [0] rfl rfl (by decide) (by decide) hk1 hFc ht hvm hB
  generalize H1 = H at hP hS ⊢
  have hP : va_P (dC, dI) vwCl [(mo, .inr (19, [.int 0, .int 0, .int 0, .int 0, .int 0, .int 0, .int 0, .ref ti, .ref si, .ref lo, .ref lh, .ref lk, .ref sp, .ref st, .ref pa, .ref br, .ref sg, .int 0, .int 0, .int 0, .int 0, .int 0, .int 0, .long 0, .long 0, .long 0, .long 0, .int 0])), (lk, .inr (3, [.int 0, .ref (z 0), .int 0]))] H := hP
  have hD : va_D A [(mo, .inr (19, [.int 0, .int 0, .int 0, .int 0, .int 0, .int 0, .int 0, .ref ti, .ref si, .ref lo, .ref lh, .ref lk, .ref sp, .ref st, .ref pa, .ref br, .ref sg, .int 0, .int 0, .int 0, .int 0, .int 0, .int 0, .long 0, .long 0, .long 0, .long 0, .int 0])), (lk, .inr (3, [.int 0, .ref (z 0), .int 0]))] := hD
  have hK : va_K (dC, dI) vwCl [] s := hK
  obtain rfl : 0 = r1 := hw
  exact W.iret (v := 0) hx hb hr (fun t ht hW => ⟨⟨0, (), rfl, rfl, kB_end (w9 := [(mo, .inr (19, [.int 0, .int 0, .int 0, .int 0, .int 0, .int 0, .int 0, .ref ti, .ref si, .ref lo, .ref lh, .ref lk, .ref sp, .ref st, .ref pa, .ref br, .ref sg, .int 0, .int 0, .int 0, .int 0, .int 0, .int 0, .long 0, .long 0, .long 0, .long 0, .int 0]))]) (t9 := []) hP hK hD [0] [] rfl (by decide) rfl rfl t ht hW⟩, hS.F ht⟩) hS.2.2 dX15_lines_14
abbrev wd_k_m_freeNow (z : Nat → Nat) (mo : Nat) (ti : Nat) (si : Nat) (lo : Nat) (lh : Nat) (lk : Nat) (sp : Nat) (st : Nat) (pa : Nat) (br : Nat) (sg : Nat) (csi : ClassId) (th : Int32) : va_W := [(mo, .inr (19, [.int 0, .int 0, .int 0, .int 0, .int 0, .int 0, .int 0, .ref ti, .ref si, .ref lo, .ref lh, .ref lk, .ref sp, .ref st, .ref pa, .ref br, .ref sg, .int 0, .int 0, .int 0, .int 0, .int 0, .int 0, .long 0, .long 0, .long 0, .long 0, .int th])), (si, .inl (csi, 2, .inl (fun _ => 0))), (lo, .inr (3, [.int 0, .ref (z 0), .int 0]))]
set_option maxHeartbeats 4000000 in
set_option maxRecDepth 100000 in
theorem k_m_freeNow (l : Launch) (dC : Nat → ClassId) (dI : Nat → Nat → Nat) (z zK zV : Nat → Nat) (mo : Nat) (ti : Nat) (si : Nat) (lo : Nat) (lh : Nat) (lk : Nat) (sp : Nat) (st : Nat) (pa : Nat) (br : Nat) (sg : Nat) (csi : ClassId) (th : Int32) (sz : Nat)  : Met l yX15_freeNow wsX15_freeNow ({ frames := 3, cells := 1, slots := 4, locals := 53 }) (kP dC dI z zK zV [.ref mo] sz (wd_k_m_freeNow z mo ti si lo lh lk sp st pa br sg csi th) [(csi, .int)]) (va_Qi (fun (r : Int32) (_ : Unit) => 12 = r) (fun _ t => kB (dC, dI) (va_A (wd_k_m_freeNow z mo ti si lo lh lk sp st pa br sg csi th) sz) [(mo, .inr (19, [.int 0, .int 0, .int 0, .int 0, .int 0, .int 0, .int 0, .ref ti, .ref si, .ref lo, .ref lh, .ref lk, .ref sp, .ref st, .ref pa, .ref br, .ref sg, .int 0, .int 0, .int 0, .int 0, .int 0, .int 0, .long 0, .long 0, .long 0, .long 0, .int th]))] [] t) (va_A (wd_k_m_freeNow z mo ti si lo lh lk sp st pa br sg csi th) sz)) 1 4 (va_A (wd_k_m_freeNow z mo ti si lo lh lk sp st pa br sg csi th) sz) := by
  refine Met.ofW (cc := cX15_freeNow) (maxL := 4) (ret := (some .int)) (by decide) rfl ?_
  intro p e s m args below meth c s₁ B hml hv
  obtain ⟨rfl, hsz, hP, hK, hD0, hM⟩ := hv
  have hx := B.exec
  have hb := B.bytes
  have hr := B.returns
  have hts := atoms_spec (ws := wsX15_freeNow) B.pre
  have hown : s.vm.findClass RX15 = some m.cls := findClass_of_methodNamed B.named
  have hlocks := B.notSynchronized
  have hiX15 : ∀ w ∈ u_ws RX15 TX15 28, w ∈ wsX15_freeNow := by decide +kernel
  subst hsz
  have hD := hD0.self (sz := s.heap.size)
  generalize hAe : va_A (wd_k_m_freeNow z mo ti si lo lh lk sp st pa br sg csi th) s.heap.size = A at hD hM ⊢
  have hA : ∀ q : Nat, s.heap.size ≤ q → A q := fun q h => by rw [← hAe]; exact Or.inr h
  have hS : va_S A s.heap s.heap [] := va_S.rf
  have hP : va_P (dC, dI) vwCl [(mo, .inr (19, [.int 0, .int 0, .int 0, .int 0, .int 0, .int 0, .int 0, .ref ti, .ref si, .ref lo, .ref lh, .ref lk, .ref sp, .ref st, .ref pa, .ref br, .ref sg, .int 0, .int 0, .int 0, .int 0, .int 0, .int 0, .long 0, .long 0, .long 0, .long 0, .int th])), (si, .inl (csi, 2, .inl (fun _ => 0))), (lo, .inr (3, [.int 0, .ref (z 0), .int 0]))] s.heap := hP
  have hD : va_D A [(mo, .inr (19, [.int 0, .int 0, .int 0, .int 0, .int 0, .int 0, .int 0, .ref ti, .ref si, .ref lo, .ref lh, .ref lk, .ref sp, .ref st, .ref pa, .ref br, .ref sg, .int 0, .int 0, .int 0, .int 0, .int 0, .int 0, .long 0, .long 0, .long 0, .long 0, .int th])), (si, .inl (csi, 2, .inl (fun _ => 0))), (lo, .inr (3, [.int 0, .ref (z 0), .int 0]))] := hD
  have hl := lv_entry ([.ref mo]) (n := 4) (Nat.le_of_ble_eq_true rfl)
  rw [lg_entry_eq]
  generalize (lg_sl ([.ref mo]) ++ List.replicate (4 - (lg_sl ([.ref mo])).length) Slot.unset).toArray = ls at hl ⊢
  have hl : lv_has ls 4 [(0, .ref mo)] := hl
  refine lv_bipush (v := 12) hx hb dX15_freeNow_0 (by decide) ?_
  refine lv_aload_n hx hb dX15_freeNow_2 rfl (lv_at hl 0 rfl) ?_
  refine va_get (D := (dC, dI)) (ci := 19) (v := .ref si) (C := RX15) (T := TX15) (N := 28) hx hb hts hiX15 hown hK hP 0 rfl rfl 8 (by decide) (hts (.fieldLink RX15 13 "SquareRigModel" "sick" "[I") (by decide +kernel)) (fun _ h9 => h9) rfl dX15_freeNow_3 ?_
  refine lv_aload_n hx hb dX15_freeNow_6 rfl (lv_at hl 0 rfl) ?_
  refine va_get (D := (dC, dI)) (ci := 19) (v := .int 0) (C := RX15) (T := TX15) (N := 28) hx hb hts hiX15 hown hK hP 0 rfl rfl 6 (by decide) (hts (.fieldLink RX15 199 "SquareRigModel" "turn" "I") (by decide +kernel)) (fun _ h9 => h9) rfl dX15_freeNow_7 ?_
  refine va_iald hx hb hK hP 1 0 rfl rfl (pk_in 0 2 (by decide) rfl) dX15_freeNow_10 ?_
  refine kc_v (y := .int 0) rfl ?_
  refine lv_isub hx hb dX15_freeNow_11 ?_
  refine kc_i (y := 12) (by decide +kernel) ?_
  refine lv_aload_n hx hb dX15_freeNow_12 rfl (lv_at hl 0 rfl) ?_
  refine va_get (D := (dC, dI)) (ci := 19) (v := .int 0) (C := RX15) (T := TX15) (N := 28) hx hb hts hiX15 hown hK hP 0 rfl rfl 5 (by decide) (hts (.fieldLink RX15 195 "SquareRigModel" "areAll" "Z") (by decide +kernel)) (fun _ h9 => h9) rfl dX15_freeNow_13 ?_
  refine lv_if_eq (tgt := 36) hx hb dX15_freeNow_16 (by decide) (fun _ => ?_) (fun c_ => absurd (by decide +kernel) c_)
  refine lv_iconst (v := 0) hx hb dX15_freeNow_36 (by decide) ?_
  refine lv_iadd hx hb dX15_freeNow_37 ?_
  refine kc_i (y := 12) (by decide +kernel) ?_
  refine lv_istore_n (lv' := [(1, .int 12), (0, .ref mo)]) hx hb dX15_freeNow_38 rfl hl (by decide) rfl (fun ls hl => ?_)
  refine lv_aload_n hx hb dX15_freeNow_39 rfl (lv_at hl 1 rfl) ?_
  refine va_get (D := (dC, dI)) (ci := 19) (v := .ref lo) (C := RX15) (T := TX15) (N := 28) hx hb hts hiX15 hown hK hP 0 rfl rfl 9 (by decide) (hts (.fieldLink RX15 19 "SquareRigModel" "orders" "Ljava/util/List;") (by decide +kernel)) (fun _ h9 => h9) rfl dX15_freeNow_40 ?_
  have hPc := hP.sub (ws' := [(lo, .inr (3, [.int 0, .ref (z 0), .int 0]))]) [2] rfl
  have hDc := hD.sub (ws' := [(lo, .inr (3, [.int 0, .ref (z 0), .int 0]))]) [2] (by decide) rfl
  have hKc := hK.sub (tys' := []) [] rfl
  have hFc := va_free (wc := [(lo, .inr (3, [.int 0, .ref (z 0), .int 0]))]) hD hS hA [2] rfl
  refine va_callFr (va_runF (hK.1 3 _ rfl).2 (As := []) (rest := []) ⟨hx, hb, hml, hown, hts⟩ (k_iterator l dC dI z zK zV lo s.heap.size) (va_cwF 0 hts gX15_freeNow_Jx4a65c_iterator_32c93_f181Jx4a65c rfl rfl rfl hM.2.2.2.2.2.2.2.2.2.2.1.1 (by decide +kernel) ⟨Nat.le_of_ble_eq_true rfl, Nat.le_of_ble_eq_true rfl⟩) ⟨kP_blind, va_recv hKc hPc (ci := 3) (q0 := 0) rfl rfl, kP_go hPc hKc hDc hFc hM hS⟩ rfl rfl hl.1 rfl (lv_room (Nat.le_of_ble_eq_true rfl)) dX15_freeNow_43 ⟨Nat.le_of_ble_eq_true rfl, Nat.le_of_ble_eq_true rfl⟩) hS (fun q _ h => hFc q h) hFc (fun u ra1 t H1 locs ht hvm hw hB hz1 hk1 hS => ?_)
  obtain ⟨q2, rfl, hB⟩ := hB
  obtain ⟨hP, hD, hK⟩ := kJ (wr := [(mo, .inr (19, [.int 0, .int 0, .int 0, .int 0, .int 0, .int 0, .int 0, .ref ti, .ref si, .ref lo, .ref lh, .ref lk, .ref sp, .ref st, .ref pa, .ref br, .ref sg, .int 0, .int 0, .int 0, .int 0, .int 0, .int 0, .long 0, .long 0, .long 0, .long 0, .int th])), (si, .inl (csi, 2, .inl (fun _ => 0)))]) (w1 := [(q2, .inr (2, [.int 0, .int (-1), .int 0, .ref lo])), (lo, .inr (3, [.int 0, .ref (z 0), .int 0]))]) (t1 := []) hP hD hK [2] [0, 1] rfl rfl (by decide) (by decide) hk1 hFc ht hvm hB
  generalize H1 = H at hP hS ⊢
  have hP : va_P (dC, dI) vwCl [(mo, .inr (19, [.int 0, .int 0, .int 0, .int 0, .int 0, .int 0, .int 0, .ref ti, .ref si, .ref lo, .ref lh, .ref lk, .ref sp, .ref st, .ref pa, .ref br, .ref sg, .int 0, .int 0, .int 0, .int 0, .int 0, .int 0, .long 0, .long 0, .long 0, .long 0, .int th])), (si, .inl (csi, 2, .inl (fun _ => 0))), (q2, .inr (2, [.int 0, .int (-1), .int 0, .ref lo])), (lo, .inr (3, [.int 0, .ref (z 0), .int 0]))] H := hP
  have hD : va_D A [(mo, .inr (19, [.int 0, .int 0, .int 0, .int 0, .int 0, .int 0, .int 0, .ref ti, .ref si, .ref lo, .ref lh, .ref lk, .ref sp, .ref st, .ref pa, .ref br, .ref sg, .int 0, .int 0, .int 0, .int 0, .int 0, .int 0, .long 0, .long 0, .long 0, .long 0, .int th])), (si, .inl (csi, 2, .inl (fun _ => 0))), (q2, .inr (2, [.int 0, .int (-1), .int 0, .ref lo])), (lo, .inr (3, [.int 0, .ref (z 0), .int 0]))] := hD
  have hK : va_K (dC, dI) vwCl [(csi, .int)] s := hK
  refine lv_astore_n (lv' := [(2, .ref q2), (1, .int 12), (0, .ref mo)]) hx hb dX15_freeNow_48 rfl hl (by decide) rfl (fun ls hl => ?_)
  refine lv_aload_n hx hb dX15_freeNow_49 rfl (lv_at hl 0 rfl) ?_
  have hPc := hP.sub (ws' := [(q2, .inr (2, [.int 0, .int (-1), .int 0, .ref lo])), (lo, .inr (3, [.int 0, .ref (z 0), .int 0]))]) [2, 3] rfl
  have hDc := hD.sub (ws' := [(q2, .inr (2, [.int 0, .int (-1), .int 0, .ref lo])), (lo, .inr (3, [.int 0, .ref (z 0), .int 0]))]) [2, 3] (by decide) rfl
  have hKc := hK.sub (tys' := []) [] rfl
  have hFc := va_free (wc := [(q2, .inr (2, [.int 0, .int (-1), .int 0, .ref lo])), (lo, .inr (3, [.int 0, .ref (z 0), .int 0]))]) hD hS hA [2, 3] rfl
  refine va_callFi (va_runF (hK.1 2 _ rfl).2 (As := []) (rest := []) ⟨hx, hb, hml, hown, hts⟩ (k_hasNext l dC dI z zK zV q2 lo H.size) (va_cwF 0 hts gX15_freeNow_Jx35411_hasNext_aae02_f185Jx35411 rfl rfl rfl hM.2.2.2.2.2.2.2.2.2.2.1.2.1 (by decide +kernel) ⟨Nat.le_of_ble_eq_true rfl, Nat.le_of_ble_eq_true rfl⟩) ⟨kP_blind, va_recv hKc hPc (ci := 2) (q0 := 0) rfl rfl, kP_go hPc hKc hDc hFc hM hS⟩ rfl rfl hl.1 rfl (lv_room (Nat.le_of_ble_eq_true rfl)) dX15_freeNow_50 ⟨Nat.le_of_ble_eq_true rfl, Nat.le_of_ble_eq_true rfl⟩) hS (fun q _ h => hFc q h) hFc (fun r3 u t H1 locs ht hvm hw hB hz1 hk1 hS => ?_)
  obtain ⟨hP, hD, hK⟩ := kJ (wr := [(mo, .inr (19, [.int 0, .int 0, .int 0, .int 0, .int 0, .int 0, .int 0, .ref ti, .ref si, .ref lo, .ref lh, .ref lk, .ref sp, .ref st, .ref pa, .ref br, .ref sg, .int 0, .int 0, .int 0, .int 0, .int 0, .int 0, .long 0, .long 0, .long 0, .long 0, .int th])), (si, .inl (csi, 2, .inl (fun _ => 0)))]) (w1 := [(q2, .inr (2, [.int 0, .int (-1), .int 0, .ref lo])), (lo, .inr (3, [.int 0, .ref (z 0), .int 0]))]) (t1 := []) hP hD hK [2, 3] [0, 1] rfl rfl (by decide) (by decide) hk1 hFc ht hvm hB
  generalize H1 = H at hP hS ⊢
  have hP : va_P (dC, dI) vwCl [(mo, .inr (19, [.int 0, .int 0, .int 0, .int 0, .int 0, .int 0, .int 0, .ref ti, .ref si, .ref lo, .ref lh, .ref lk, .ref sp, .ref st, .ref pa, .ref br, .ref sg, .int 0, .int 0, .int 0, .int 0, .int 0, .int 0, .long 0, .long 0, .long 0, .long 0, .int th])), (si, .inl (csi, 2, .inl (fun _ => 0))), (q2, .inr (2, [.int 0, .int (-1), .int 0, .ref lo])), (lo, .inr (3, [.int 0, .ref (z 0), .int 0]))] H := hP
  have hD : va_D A [(mo, .inr (19, [.int 0, .int 0, .int 0, .int 0, .int 0, .int 0, .int 0, .ref ti, .ref si, .ref lo, .ref lh, .ref lk, .ref sp, .ref st, .ref pa, .ref br, .ref sg, .int 0, .int 0, .int 0, .int 0, .int 0, .int 0, .long 0, .long 0, .long 0, .long 0, .int th])), (si, .inl (csi, 2, .inl (fun _ => 0))), (q2, .inr (2, [.int 0, .int (-1), .int 0, .ref lo])), (lo, .inr (3, [.int 0, .ref (z 0), .int 0]))] := hD
  have hK : va_K (dC, dI) vwCl [(csi, .int)] s := hK
  obtain rfl : 0 = r3 := hw
  refine lv_if_eq (tgt := 91) hx hb dX15_freeNow_55 (by decide) (fun _ => ?_) (fun c_ => absurd (by decide +kernel) c_)
  refine lv_iconst (v := 0) hx hb dX15_freeNow_91 (by decide) ?_
  refine lv_iload_n hx hb dX15_freeNow_92 rfl (lv_at hl 1 rfl) ?_
  refine va_mmax hx hb (hml.trans hl.1.symm) hown (hts (.methodLink RX15 102 Lib.Math.max.name) (by decide +kernel)) (hts (.static Lib.Math.max.name) (by decide +kernel)) (hts (.initialized "java/lang/Math") (by decide +kernel)) (hts (.code Lib.Math.max.name Lib.Math.max.code 2 (some .int)) (by decide +kernel)) (Nat.le_of_ble_eq_true rfl) (Nat.le_of_ble_eq_true rfl) (Nat.le_of_ble_eq_true rfl) (Nat.le_of_ble_eq_true rfl) dX15_freeNow_93 ?_
  refine kc_i (y := 12) (by decide +kernel) ?_
  refine W.widen (k := 1) (n := 4) (Nat.le_of_ble_eq_true rfl) (Nat.le_of_ble_eq_true rfl) ?_
  exact W.iret (v := 12) hx hb hr (fun t ht hW => ⟨⟨12, (), rfl, rfl, kB_end (w9 := [(mo, .inr (19, [.int 0, .int 0, .int 0, .int 0, .int 0, .int 0, .int 0, .ref ti, .ref si, .ref lo, .ref lh, .ref lk, .ref sp, .ref st, .ref pa, .ref br, .ref sg, .int 0, .int 0, .int 0, .int 0, .int 0, .int 0, .long 0, .long 0, .long 0, .long 0, .int th]))]) (t9 := []) hP hK hD [0] [] rfl (by decide) rfl rfl t ht hW⟩, hS.F ht⟩) hS.2.2 dX15_freeNow_96
abbrev wd_k_m_free (z : Nat → Nat) (mo : Nat) (ti : Nat) (si : Nat) (lo : Nat) (lh : Nat) (lk : Nat) (sp : Nat) (st : Nat) (pa : Nat) (br : Nat) (sg : Nat) (csi : ClassId) (th : Int32) : va_W := [(mo, .inr (19, [.int 0, .int 0, .int 0, .int 0, .int 0, .int 0, .int 0, .ref ti, .ref si, .ref lo, .ref lh, .ref lk, .ref sp, .ref st, .ref pa, .ref br, .ref sg, .int 0, .int 0, .int 0, .int 0, .int 0, .int 0, .long 0, .long 0, .long 0, .long 0, .int th])), (si, .inl (csi, 2, .inl (fun _ => 0))), (lo, .inr (3, [.int 0, .ref (z 0), .int 0]))]
set_option maxHeartbeats 4000000 in
set_option maxRecDepth 100000 in
theorem k_m_free (l : Launch) (dC : Nat → ClassId) (dI : Nat → Nat → Nat) (z zK zV : Nat → Nat) (mo : Nat) (ti : Nat) (si : Nat) (lo : Nat) (lh : Nat) (lk : Nat) (sp : Nat) (st : Nat) (pa : Nat) (br : Nat) (sg : Nat) (csi : ClassId) (th : Int32) (sz : Nat)  : Met l yX15_free wsX15_free ({ frames := 4, cells := 1, slots := 4, locals := 76 }) (kP dC dI z zK zV [.ref mo] sz (wd_k_m_free z mo ti si lo lh lk sp st pa br sg csi th) [(csi, .int)]) (va_Qi (fun (r : Int32) (_ : Unit) => 12 = r) (fun _ t => kB (dC, dI) (va_A (wd_k_m_free z mo ti si lo lh lk sp st pa br sg csi th) sz) [(mo, .inr (19, [.int 0, .int 0, .int 0, .int 0, .int 0, .int 0, .int 0, .ref ti, .ref si, .ref lo, .ref lh, .ref lk, .ref sp, .ref st, .ref pa, .ref br, .ref sg, .int 0, .int 0, .int 0, .int 0, .int 0, .int 0, .long 0, .long 0, .long 0, .long 0, .int 0]))] [] t) (va_A (wd_k_m_free z mo ti si lo lh lk sp st pa br sg csi th) sz)) 1 4 (va_A (wd_k_m_free z mo ti si lo lh lk sp st pa br sg csi th) sz) := by
  refine Met.ofW (cc := cX15_free) (maxL := 1) (ret := (some .int)) (by decide) rfl ?_
  intro p e s m args below meth c s₁ B hml hv
  obtain ⟨rfl, hsz, hP, hK, hD0, hM⟩ := hv
  have hx := B.exec
  have hb := B.bytes
  have hr := B.returns
  have hts := atoms_spec (ws := wsX15_free) B.pre
  have hown : s.vm.findClass RX15 = some m.cls := findClass_of_methodNamed B.named
  have hlocks := B.notSynchronized
  have hiX15 : ∀ w ∈ u_ws RX15 TX15 28, w ∈ wsX15_free := by decide +kernel
  subst hsz
  have hD := hD0.self (sz := s.heap.size)
  generalize hAe : va_A (wd_k_m_free z mo ti si lo lh lk sp st pa br sg csi th) s.heap.size = A at hD hM ⊢
  have hA : ∀ q : Nat, s.heap.size ≤ q → A q := fun q h => by rw [← hAe]; exact Or.inr h
  have hS : va_S A s.heap s.heap [] := va_S.rf
  have hP : va_P (dC, dI) vwCl [(mo, .inr (19, [.int 0, .int 0, .int 0, .int 0, .int 0, .int 0, .int 0, .ref ti, .ref si, .ref lo, .ref lh, .ref lk, .ref sp, .ref st, .ref pa, .ref br, .ref sg, .int 0, .int 0, .int 0, .int 0, .int 0, .int 0, .long 0, .long 0, .long 0, .long 0, .int th])), (si, .inl (csi, 2, .inl (fun _ => 0))), (lo, .inr (3, [.int 0, .ref (z 0), .int 0]))] s.heap := hP
  have hD : va_D A [(mo, .inr (19, [.int 0, .int 0, .int 0, .int 0, .int 0, .int 0, .int 0, .ref ti, .ref si, .ref lo, .ref lh, .ref lk, .ref sp, .ref st, .ref pa, .ref br, .ref sg, .int 0, .int 0, .int 0, .int 0, .int 0, .int 0, .long 0, .long 0, .long 0, .long 0, .int th])), (si, .inl (csi, 2, .inl (fun _ => 0))), (lo, .inr (3, [.int 0, .ref (z 0), .int 0]))] := hD
  have hl := lv_entry ([.ref mo]) (n := 1) (Nat.le_of_ble_eq_true rfl)
  rw [lg_entry_eq]
  generalize (lg_sl ([.ref mo]) ++ List.replicate (1 - (lg_sl ([.ref mo])).length) Slot.unset).toArray = ls at hl ⊢
  have hl : lv_has ls 1 [(0, .ref mo)] := hl
  refine lv_aload_n hx hb dX15_free_0 rfl (lv_at hl 0 rfl) ?_
  refine lv_iconst (v := 0) hx hb dX15_free_1 (by decide) ?_
  refine va_put (D := (dC, dI)) (ci := 19) (v := .int 0) (ty := .int) (C := RX15) (T := TX15) (N := 28) hx hb hts hiX15 tyX15 tyX15_ok nmX15 hown hK hP hD hS 0 rfl rfl 27 (by decide) (hts (.fieldLink RX15 45 "SquareRigModel" "thrown" "I") (by decide +kernel)) (fun _ h9 => h9) rfl (by decide +kernel) rfl rfl (Nat.le_of_ble_eq_true rfl) dX15_free_2 (fun H locs hP hD hS => ?_)
  have hP : va_P (dC, dI) vwCl [(mo, .inr (19, [.int 0, .int 0, .int 0, .int 0, .int 0, .int 0, .int 0, .ref ti, .ref si, .ref lo, .ref lh, .ref lk, .ref sp, .ref st, .ref pa, .ref br, .ref sg, .int 0, .int 0, .int 0, .int 0, .int 0, .int 0, .long 0, .long 0, .long 0, .long 0, .int 0])), (si, .inl (csi, 2, .inl (fun _ => 0))), (lo, .inr (3, [.int 0, .ref (z 0), .int 0]))] H := hP
  have hD : va_D A [(mo, .inr (19, [.int 0, .int 0, .int 0, .int 0, .int 0, .int 0, .int 0, .ref ti, .ref si, .ref lo, .ref lh, .ref lk, .ref sp, .ref st, .ref pa, .ref br, .ref sg, .int 0, .int 0, .int 0, .int 0, .int 0, .int 0, .long 0, .long 0, .long 0, .long 0, .int 0])), (si, .inl (csi, 2, .inl (fun _ => 0))), (lo, .inr (3, [.int 0, .ref (z 0), .int 0]))] := hD
  refine lv_aload_n hx hb dX15_free_5 rfl (lv_at hl 0 rfl) ?_
  have hPc := hP.sub (ws' := [(mo, .inr (19, [.int 0, .int 0, .int 0, .int 0, .int 0, .int 0, .int 0, .ref ti, .ref si, .ref lo, .ref lh, .ref lk, .ref sp, .ref st, .ref pa, .ref br, .ref sg, .int 0, .int 0, .int 0, .int 0, .int 0, .int 0, .long 0, .long 0, .long 0, .long 0, .int 0])), (si, .inl (csi, 2, .inl (fun _ => 0))), (lo, .inr (3, [.int 0, .ref (z 0), .int 0]))]) [0, 1, 2] rfl
  have hDc := hD.sub (ws' := [(mo, .inr (19, [.int 0, .int 0, .int 0, .int 0, .int 0, .int 0, .int 0, .ref ti, .ref si, .ref lo, .ref lh, .ref lk, .ref sp, .ref st, .ref pa, .ref br, .ref sg, .int 0, .int 0, .int 0, .int 0, .int 0, .int 0, .long 0, .long 0, .long 0, .long 0, .int 0])), (si, .inl (csi, 2, .inl (fun _ => 0))), (lo, .inr (3, [.int 0, .ref (z 0), .int 0]))]) [0, 1, 2] (by decide) rfl
  have hKc := hK.sub (tys' := [(csi, .int)]) [0] rfl
  have hFc := va_free (wc := [(mo, .inr (19, [.int 0, .int 0, .int 0, .int 0, .int 0, .int 0, .int 0, .ref ti, .ref si, .ref lo, .ref lh, .ref lk, .ref sp, .ref st, .ref pa, .ref br, .ref sg, .int 0, .int 0, .int 0, .int 0, .int 0, .int 0, .long 0, .long 0, .long 0, .long 0, .int 0])), (si, .inl (csi, 2, .inl (fun _ => 0))), (lo, .inr (3, [.int 0, .ref (z 0), .int 0]))]) hD hS hA [0, 1, 2] rfl
  refine va_calli (va_runV (As := []) (rest := []) ⟨hx, hb, hml, hown, hts⟩ (k_m_freeNow l dC dI z zK zV mo ti si lo lh lk sp st pa br sg csi 0 H.size) (cwV 0 hts gX15_free_X15_freeNow rfl rfl rfl (by decide +kernel) ⟨Nat.le_of_ble_eq_true rfl, Nat.le_of_ble_eq_true rfl⟩) ⟨kP_blind, va_recv hKc hPc (ci := 19) (q0 := 0) rfl rfl, kP_go hPc hKc hDc hFc hM hS⟩ rfl rfl hl.1 rfl (lv_room (Nat.le_of_ble_eq_true rfl)) dX15_free_6 ⟨Nat.le_of_ble_eq_true rfl, Nat.le_of_ble_eq_true rfl⟩) hS (fun q _ h => hFc q h) hFc (fun r1 u t H1 locs ht hvm hw hB hz1 hk1 hS => ?_)
  obtain ⟨hP, hD, hK⟩ := kJ (wr := []) (w1 := [(mo, .inr (19, [.int 0, .int 0, .int 0, .int 0, .int 0, .int 0, .int 0, .ref ti, .ref si, .ref lo, .ref lh, .ref lk, .ref sp, .ref st, .ref pa, .ref br, .ref sg, .int 0, .int 0, .int 0, .int 0, .int 0, .int 0, .long 0, .long 0, .long 0, .long 0, .int 0]))]) (t1 := []) hP hD hK [0, 1, 2] [] rfl rfl (by decide) (by decide) hk1 hFc ht hvm hB
  generalize H1 = H at hP hS ⊢
  have hP : va_P (dC, dI) vwCl [(mo, .inr (19, [.int 0, .int 0, .int 0, .int 0, .int 0, .int 0, .int 0, .ref ti, .ref si, .ref lo, .ref lh, .ref lk, .ref sp, .ref st, .ref pa, .ref br, .ref sg, .int 0, .int 0, .int 0, .int 0, .int 0, .int 0, .long 0, .long 0, .long 0, .long 0, .int 0]))] H := hP
  have hD : va_D A [(mo, .inr (19, [.int 0, .int 0, .int 0, .int 0, .int 0, .int 0, .int 0, .ref ti, .ref si, .ref lo, .ref lh, .ref lk, .ref sp, .ref st, .ref pa, .ref br, .ref sg, .int 0, .int 0, .int 0, .int 0, .int 0, .int 0, .long 0, .long 0, .long 0, .long 0, .int 0]))] := hD
  have hK : va_K (dC, dI) vwCl [(csi, .int)] s := hK
  obtain rfl : 12 = r1 := hw
  refine W.widen (k := 1) (n := 4) (Nat.le_of_ble_eq_true rfl) (Nat.le_of_ble_eq_true rfl) ?_
  exact W.iret (v := 12) hx hb hr (fun t ht hW => ⟨⟨12, (), rfl, rfl, kB_end (w9 := [(mo, .inr (19, [.int 0, .int 0, .int 0, .int 0, .int 0, .int 0, .int 0, .ref ti, .ref si, .ref lo, .ref lh, .ref lk, .ref sp, .ref st, .ref pa, .ref br, .ref sg, .int 0, .int 0, .int 0, .int 0, .int 0, .int 0, .long 0, .long 0, .long 0, .long 0, .int 0]))]) (t9 := []) hP hK hD [0] [] rfl (by decide) rfl rfl t ht hW⟩, hS.F ht⟩) hS.2.2 dX15_free_9
abbrev wd_k_m_callAll0 (z : Nat → Nat) (mo : Nat) (ti : Nat) (si : Nat) (lo : Nat) (lh : Nat) (lk : Nat) (sp : Nat) (st : Nat) (pa : Nat) (br : Nat) (sg : Nat) (th : Int32) : va_W := [(mo, .inr (19, [.int 0, .int 0, .int 0, .int 0, .int 0, .int 0, .int 0, .ref ti, .ref si, .ref lo, .ref lh, .ref lk, .ref sp, .ref st, .ref pa, .ref br, .ref sg, .int 0, .int 0, .int 0, .int 0, .int 0, .int 0, .long 0, .long 0, .long 0, .long 0, .int th]))]
set_option maxHeartbeats 4000000 in
set_option maxRecDepth 100000 in
theorem k_m_callAll0 (l : Launch) (dC : Nat → ClassId) (dI : Nat → Nat → Nat) (z zK zV : Nat → Nat) (mo : Nat) (ti : Nat) (si : Nat) (lo : Nat) (lh : Nat) (lk : Nat) (sp : Nat) (st : Nat) (pa : Nat) (br : Nat) (sg : Nat) (th : Int32) (sz : Nat)  : Met l yX15_callAll wsX15_callAll ({ frames := 0, cells := 0, slots := 0, locals := 0 }) (kP dC dI z zK zV [.ref mo, .int 0] sz (wd_k_m_callAll0 z mo ti si lo lh lk sp st pa br sg th) []) (va_Qi (fun (r : Int32) (_ : Unit) => 0 = r) (fun _ t => kB (dC, dI) (va_A (wd_k_m_callAll0 z mo ti si lo lh lk sp st pa br sg th) sz) [(mo, .inr (19, [.int 0, .int 0, .int 0, .int 0, .int 0, .int 0, .int 0, .ref ti, .ref si, .ref lo, .ref lh, .ref lk, .ref sp, .ref st, .ref pa, .ref br, .ref sg, .int 0, .int 0, .int 0, .int 0, .int 0, .int 0, .long 0, .long 0, .long 0, .long 0, .int 0]))] [] t) (va_A (wd_k_m_callAll0 z mo ti si lo lh lk sp st pa br sg th) sz)) 0 0 (va_A (wd_k_m_callAll0 z mo ti si lo lh lk sp st pa br sg th) sz) := by
  refine Met.ofW (cc := cX15_callAll) (maxL := 3) (ret := (some .boolean)) (by decide) rfl ?_
  intro p e s m args below meth c s₁ B hml hv
  obtain ⟨rfl, hsz, hP, hK, hD0, hM⟩ := hv
  have hx := B.exec
  have hb := B.bytes
  have hr := B.returns
  have hts := atoms_spec (ws := wsX15_callAll) B.pre
  have hown : s.vm.findClass RX15 = some m.cls := findClass_of_methodNamed B.named
  have hlocks := B.notSynchronized
  have hiX15 : ∀ w ∈ u_ws RX15 TX15 28, w ∈ wsX15_callAll := by decide +kernel
  subst hsz
  have hD := hD0.self (sz := s.heap.size)
  generalize hAe : va_A (wd_k_m_callAll0 z mo ti si lo lh lk sp st pa br sg th) s.heap.size = A at hD hM ⊢
  have hA : ∀ q : Nat, s.heap.size ≤ q → A q := fun q h => by rw [← hAe]; exact Or.inr h
  have hS : va_S A s.heap s.heap [] := va_S.rf
  have hP : va_P (dC, dI) vwCl [(mo, .inr (19, [.int 0, .int 0, .int 0, .int 0, .int 0, .int 0, .int 0, .ref ti, .ref si, .ref lo, .ref lh, .ref lk, .ref sp, .ref st, .ref pa, .ref br, .ref sg, .int 0, .int 0, .int 0, .int 0, .int 0, .int 0, .long 0, .long 0, .long 0, .long 0, .int th]))] s.heap := hP
  have hD : va_D A [(mo, .inr (19, [.int 0, .int 0, .int 0, .int 0, .int 0, .int 0, .int 0, .ref ti, .ref si, .ref lo, .ref lh, .ref lk, .ref sp, .ref st, .ref pa, .ref br, .ref sg, .int 0, .int 0, .int 0, .int 0, .int 0, .int 0, .long 0, .long 0, .long 0, .long 0, .int th]))] := hD
  have hl := lv_entry ([.ref mo, .int 0]) (n := 3) (Nat.le_of_ble_eq_true rfl)
  rw [lg_entry_eq]
  generalize (lg_sl ([.ref mo, .int 0]) ++ List.replicate (3 - (lg_sl ([.ref mo, .int 0])).length) Slot.unset).toArray = ls at hl ⊢
  have hl : lv_has ls 3 [(0, .ref mo), (1, .int 0)] := hl
  refine lv_aload_n hx hb dX15_callAll_0 rfl (lv_at hl 0 rfl) ?_
  refine lv_iconst (v := 0) hx hb dX15_callAll_1 (by decide) ?_
  refine va_put (D := (dC, dI)) (ci := 19) (v := .int 0) (ty := .int) (C := RX15) (T := TX15) (N := 28) hx hb hts hiX15 tyX15 tyX15_ok nmX15 hown hK hP hD hS 0 rfl rfl 27 (by decide) (hts (.fieldLink RX15 45 "SquareRigModel" "thrown" "I") (by decide +kernel)) (fun _ h9 => h9) rfl (by decide +kernel) rfl rfl (Nat.le_of_ble_eq_true rfl) dX15_callAll_2 (fun H locs hP hD hS => ?_)
  have hP : va_P (dC, dI) vwCl [(mo, .inr (19, [.int 0, .int 0, .int 0, .int 0, .int 0, .int 0, .int 0, .ref ti, .ref si, .ref lo, .ref lh, .ref lk, .ref sp, .ref st, .ref pa, .ref br, .ref sg, .int 0, .int 0, .int 0, .int 0, .int 0, .int 0, .long 0, .long 0, .long 0, .long 0, .int 0]))] H := hP
  have hD : va_D A [(mo, .inr (19, [.int 0, .int 0, .int 0, .int 0, .int 0, .int 0, .int 0, .ref ti, .ref si, .ref lo, .ref lh, .ref lk, .ref sp, .ref st, .ref pa, .ref br, .ref sg, .int 0, .int 0, .int 0, .int 0, .int 0, .int 0, .long 0, .long 0, .long 0, .long 0, .int 0]))] := hD
  refine lv_aload_n hx hb dX15_callAll_5 rfl (lv_at hl 0 rfl) ?_
  refine va_get (D := (dC, dI)) (ci := 19) (v := .int 0) (C := RX15) (T := TX15) (N := 28) hx hb hts hiX15 hown hK hP 0 rfl rfl 5 (by decide) (hts (.fieldLink RX15 195 "SquareRigModel" "areAll" "Z") (by decide +kernel)) (fun _ h9 => h9) rfl dX15_callAll_6 ?_
  refine lv_istore_n (lv' := [(2, .int 0), (0, .ref mo), (1, .int 0)]) hx hb dX15_callAll_9 rfl hl (by decide) rfl (fun ls hl => ?_)
  refine lv_aload_n hx hb dX15_callAll_10 rfl (lv_at hl 1 rfl) ?_
  refine lv_iload_n hx hb dX15_callAll_11 rfl (lv_at hl 2 rfl) ?_
  refine va_put (D := (dC, dI)) (ci := 19) (v := .int 0) (ty := .boolean) (C := RX15) (T := TX15) (N := 28) hx hb hts hiX15 tyX15 tyX15_ok nmX15 hown hK hP hD hS 0 rfl rfl 5 (by decide) (hts (.fieldLink RX15 195 "SquareRigModel" "areAll" "Z") (by decide +kernel)) (fun _ h9 => h9) rfl (by decide +kernel) (by decide +kernel) (by decide +kernel) (Nat.le_of_ble_eq_true rfl) dX15_callAll_12 (fun H locs hP hD hS => ?_)
  have hP : va_P (dC, dI) vwCl [(mo, .inr (19, [.int 0, .int 0, .int 0, .int 0, .int 0, .int 0, .int 0, .ref ti, .ref si, .ref lo, .ref lh, .ref lk, .ref sp, .ref st, .ref pa, .ref br, .ref sg, .int 0, .int 0, .int 0, .int 0, .int 0, .int 0, .long 0, .long 0, .long 0, .long 0, .int 0]))] H := hP
  have hD : va_D A [(mo, .inr (19, [.int 0, .int 0, .int 0, .int 0, .int 0, .int 0, .int 0, .ref ti, .ref si, .ref lo, .ref lh, .ref lk, .ref sp, .ref st, .ref pa, .ref br, .ref sg, .int 0, .int 0, .int 0, .int 0, .int 0, .int 0, .long 0, .long 0, .long 0, .long 0, .int 0]))] := hD
  refine lv_iload_n hx hb dX15_callAll_15 rfl (lv_at hl 0 rfl) ?_
  exact W.zret (v := 0) hx hb hr (by decide +kernel) (fun t ht hW => ⟨⟨0, (), rfl, rfl, kB_end (w9 := [(mo, .inr (19, [.int 0, .int 0, .int 0, .int 0, .int 0, .int 0, .int 0, .ref ti, .ref si, .ref lo, .ref lh, .ref lk, .ref sp, .ref st, .ref pa, .ref br, .ref sg, .int 0, .int 0, .int 0, .int 0, .int 0, .int 0, .long 0, .long 0, .long 0, .long 0, .int 0]))]) (t9 := []) hP hK hD [0] [] rfl (by decide) rfl rfl t ht hW⟩, hS.F ht⟩) hS.2.2 dX15_callAll_16
abbrev wd_k_m_callAll1 (z : Nat → Nat) (mo : Nat) (ti : Nat) (si : Nat) (lo : Nat) (lh : Nat) (lk : Nat) (sp : Nat) (st : Nat) (pa : Nat) (br : Nat) (sg : Nat) (th : Int32) : va_W := [(mo, .inr (19, [.int 0, .int 0, .int 0, .int 0, .int 0, .int 0, .int 0, .ref ti, .ref si, .ref lo, .ref lh, .ref lk, .ref sp, .ref st, .ref pa, .ref br, .ref sg, .int 0, .int 0, .int 0, .int 0, .int 0, .int 0, .long 0, .long 0, .long 0, .long 0, .int th]))]
set_option maxHeartbeats 4000000 in
set_option maxRecDepth 100000 in
theorem k_m_callAll1 (l : Launch) (dC : Nat → ClassId) (dI : Nat → Nat → Nat) (z zK zV : Nat → Nat) (mo : Nat) (ti : Nat) (si : Nat) (lo : Nat) (lh : Nat) (lk : Nat) (sp : Nat) (st : Nat) (pa : Nat) (br : Nat) (sg : Nat) (th : Int32) (sz : Nat)  : Met l yX15_callAll wsX15_callAll ({ frames := 0, cells := 0, slots := 0, locals := 0 }) (kP dC dI z zK zV [.ref mo, .int 1] sz (wd_k_m_callAll1 z mo ti si lo lh lk sp st pa br sg th) []) (va_Qi (fun (r : Int32) (_ : Unit) => 0 = r) (fun _ t => kB (dC, dI) (va_A (wd_k_m_callAll1 z mo ti si lo lh lk sp st pa br sg th) sz) [(mo, .inr (19, [.int 0, .int 0, .int 0, .int 0, .int 0, .int 1, .int 0, .ref ti, .ref si, .ref lo, .ref lh, .ref lk, .ref sp, .ref st, .ref pa, .ref br, .ref sg, .int 0, .int 0, .int 0, .int 0, .int 0, .int 0, .long 0, .long 0, .long 0, .long 0, .int 0]))] [] t) (va_A (wd_k_m_callAll1 z mo ti si lo lh lk sp st pa br sg th) sz)) 0 0 (va_A (wd_k_m_callAll1 z mo ti si lo lh lk sp st pa br sg th) sz) := by
  refine Met.ofW (cc := cX15_callAll) (maxL := 3) (ret := (some .boolean)) (by decide) rfl ?_
  intro p e s m args below meth c s₁ B hml hv
  obtain ⟨rfl, hsz, hP, hK, hD0, hM⟩ := hv
  have hx := B.exec
  have hb := B.bytes
  have hr := B.returns
  have hts := atoms_spec (ws := wsX15_callAll) B.pre
  have hown : s.vm.findClass RX15 = some m.cls := findClass_of_methodNamed B.named
  have hlocks := B.notSynchronized
  have hiX15 : ∀ w ∈ u_ws RX15 TX15 28, w ∈ wsX15_callAll := by decide +kernel
  subst hsz
  have hD := hD0.self (sz := s.heap.size)
  generalize hAe : va_A (wd_k_m_callAll1 z mo ti si lo lh lk sp st pa br sg th) s.heap.size = A at hD hM ⊢
  have hA : ∀ q : Nat, s.heap.size ≤ q → A q := fun q h => by rw [← hAe]; exact Or.inr h
  have hS : va_S A s.heap s.heap [] := va_S.rf
  have hP : va_P (dC, dI) vwCl [(mo, .inr (19, [.int 0, .int 0, .int 0, .int 0, .int 0, .int 0, .int 0, .ref ti, .ref si, .ref lo, .ref lh, .ref lk, .ref sp, .ref st, .ref pa, .ref br, .ref sg, .int 0, .int 0, .int 0, .int 0, .int 0, .int 0, .long 0, .long 0, .long 0, .long 0, .int th]))] s.heap := hP
  have hD : va_D A [(mo, .inr (19, [.int 0, .int 0, .int 0, .int 0, .int 0, .int 0, .int 0, .ref ti, .ref si, .ref lo, .ref lh, .ref lk, .ref sp, .ref st, .ref pa, .ref br, .ref sg, .int 0, .int 0, .int 0, .int 0, .int 0, .int 0, .long 0, .long 0, .long 0, .long 0, .int th]))] := hD
  have hl := lv_entry ([.ref mo, .int 1]) (n := 3) (Nat.le_of_ble_eq_true rfl)
  rw [lg_entry_eq]
  generalize (lg_sl ([.ref mo, .int 1]) ++ List.replicate (3 - (lg_sl ([.ref mo, .int 1])).length) Slot.unset).toArray = ls at hl ⊢
  have hl : lv_has ls 3 [(0, .ref mo), (1, .int 1)] := hl
  refine lv_aload_n hx hb dX15_callAll_0 rfl (lv_at hl 0 rfl) ?_
  refine lv_iconst (v := 0) hx hb dX15_callAll_1 (by decide) ?_
  refine va_put (D := (dC, dI)) (ci := 19) (v := .int 0) (ty := .int) (C := RX15) (T := TX15) (N := 28) hx hb hts hiX15 tyX15 tyX15_ok nmX15 hown hK hP hD hS 0 rfl rfl 27 (by decide) (hts (.fieldLink RX15 45 "SquareRigModel" "thrown" "I") (by decide +kernel)) (fun _ h9 => h9) rfl (by decide +kernel) rfl rfl (Nat.le_of_ble_eq_true rfl) dX15_callAll_2 (fun H locs hP hD hS => ?_)
  have hP : va_P (dC, dI) vwCl [(mo, .inr (19, [.int 0, .int 0, .int 0, .int 0, .int 0, .int 0, .int 0, .ref ti, .ref si, .ref lo, .ref lh, .ref lk, .ref sp, .ref st, .ref pa, .ref br, .ref sg, .int 0, .int 0, .int 0, .int 0, .int 0, .int 0, .long 0, .long 0, .long 0, .long 0, .int 0]))] H := hP
  have hD : va_D A [(mo, .inr (19, [.int 0, .int 0, .int 0, .int 0, .int 0, .int 0, .int 0, .ref ti, .ref si, .ref lo, .ref lh, .ref lk, .ref sp, .ref st, .ref pa, .ref br, .ref sg, .int 0, .int 0, .int 0, .int 0, .int 0, .int 0, .long 0, .long 0, .long 0, .long 0, .int 0]))] := hD
  refine lv_aload_n hx hb dX15_callAll_5 rfl (lv_at hl 0 rfl) ?_
  refine va_get (D := (dC, dI)) (ci := 19) (v := .int 0) (C := RX15) (T := TX15) (N := 28) hx hb hts hiX15 hown hK hP 0 rfl rfl 5 (by decide) (hts (.fieldLink RX15 195 "SquareRigModel" "areAll" "Z") (by decide +kernel)) (fun _ h9 => h9) rfl dX15_callAll_6 ?_
  refine lv_istore_n (lv' := [(2, .int 0), (0, .ref mo), (1, .int 1)]) hx hb dX15_callAll_9 rfl hl (by decide) rfl (fun ls hl => ?_)
  refine lv_aload_n hx hb dX15_callAll_10 rfl (lv_at hl 1 rfl) ?_
  refine lv_iload_n hx hb dX15_callAll_11 rfl (lv_at hl 2 rfl) ?_
  refine va_put (D := (dC, dI)) (ci := 19) (v := .int 1) (ty := .boolean) (C := RX15) (T := TX15) (N := 28) hx hb hts hiX15 tyX15 tyX15_ok nmX15 hown hK hP hD hS 0 rfl rfl 5 (by decide) (hts (.fieldLink RX15 195 "SquareRigModel" "areAll" "Z") (by decide +kernel)) (fun _ h9 => h9) rfl (by decide +kernel) (by decide +kernel) (by decide +kernel) (Nat.le_of_ble_eq_true rfl) dX15_callAll_12 (fun H locs hP hD hS => ?_)
  have hP : va_P (dC, dI) vwCl [(mo, .inr (19, [.int 0, .int 0, .int 0, .int 0, .int 0, .int 1, .int 0, .ref ti, .ref si, .ref lo, .ref lh, .ref lk, .ref sp, .ref st, .ref pa, .ref br, .ref sg, .int 0, .int 0, .int 0, .int 0, .int 0, .int 0, .long 0, .long 0, .long 0, .long 0, .int 0]))] H := hP
  have hD : va_D A [(mo, .inr (19, [.int 0, .int 0, .int 0, .int 0, .int 0, .int 1, .int 0, .ref ti, .ref si, .ref lo, .ref lh, .ref lk, .ref sp, .ref st, .ref pa, .ref br, .ref sg, .int 0, .int 0, .int 0, .int 0, .int 0, .int 0, .long 0, .long 0, .long 0, .long 0, .int 0]))] := hD
  refine lv_iload_n hx hb dX15_callAll_15 rfl (lv_at hl 0 rfl) ?_
  exact W.zret (v := 0) hx hb hr (by decide +kernel) (fun t ht hW => ⟨⟨0, (), rfl, rfl, kB_end (w9 := [(mo, .inr (19, [.int 0, .int 0, .int 0, .int 0, .int 0, .int 1, .int 0, .ref ti, .ref si, .ref lo, .ref lh, .ref lk, .ref sp, .ref st, .ref pa, .ref br, .ref sg, .int 0, .int 0, .int 0, .int 0, .int 0, .int 0, .long 0, .long 0, .long 0, .long 0, .int 0]))]) (t9 := []) hP hK hD [0] [] rfl (by decide) rfl rfl t ht hW⟩, hS.F ht⟩) hS.2.2 dX15_callAll_16
abbrev wd_k_m_setShare (z : Nat → Nat) (mo : Nat) (ti : Nat) (si : Nat) (lo : Nat) (lh : Nat) (lk : Nat) (sp : Nat) (st : Nat) (pa : Nat) (br : Nat) (sg : Nat) (csp : ClassId) (th : Int32) : va_W := [(mo, .inr (19, [.int 0, .int 0, .int 0, .int 0, .int 0, .int 0, .int 0, .ref ti, .ref si, .ref lo, .ref lh, .ref lk, .ref sp, .ref st, .ref pa, .ref br, .ref sg, .int 0, .int 0, .int 0, .int 0, .int 0, .int 0, .long 0, .long 0, .long 0, .long 0, .int th])), (sp, .inl (csp, 9, .inl (fun _ => 0)))]
set_option maxHeartbeats 4000000 in
set_option maxRecDepth 100000 in
theorem k_m_setShare (l : Launch) (dC : Nat → ClassId) (dI : Nat → Nat → Nat) (z zK zV : Nat → Nat) (mo : Nat) (ti : Nat) (si : Nat) (lo : Nat) (lh : Nat) (lk : Nat) (sp : Nat) (st : Nat) (pa : Nat) (br : Nat) (sg : Nat) (csp : ClassId) (th : Int32) (sz : Nat)  : Met l yX15_setShare wsX15_setShare ({ frames := 0, cells := 0, slots := 0, locals := 0 }) (kP dC dI z zK zV [.ref mo] sz (wd_k_m_setShare z mo ti si lo lh lk sp st pa br sg csp th) [(csp, .int)]) (va_Qf (fun (r : UInt32) (_ : Unit) => 0 = r) (fun _ t => kB (dC, dI) (va_A (wd_k_m_setShare z mo ti si lo lh lk sp st pa br sg csp th) sz) [(mo, .inr (19, [.int 0, .int 0, .int 0, .int 0, .int 0, .int 0, .int 0, .ref ti, .ref si, .ref lo, .ref lh, .ref lk, .ref sp, .ref st, .ref pa, .ref br, .ref sg, .int 0, .int 0, .int 0, .int 0, .int 0, .int 0, .long 0, .long 0, .long 0, .long 0, .int 0]))] [] t) (va_A (wd_k_m_setShare z mo ti si lo lh lk sp st pa br sg csp th) sz)) 0 0 (va_A (wd_k_m_setShare z mo ti si lo lh lk sp st pa br sg csp th) sz) := by
  refine Met.ofW (cc := cX15_setShare) (maxL := 6) (ret := (some .float)) (by decide) rfl ?_
  intro p e s m args below meth c s₁ B hml hv
  obtain ⟨rfl, hsz, hP, hK, hD0, hM⟩ := hv
  have hx := B.exec
  have hb := B.bytes
  have hr := B.returns
  have hts := atoms_spec (ws := wsX15_setShare) B.pre
  have hown : s.vm.findClass RX15 = some m.cls := findClass_of_methodNamed B.named
  have hlocks := B.notSynchronized
  have hiX15 : ∀ w ∈ u_ws RX15 TX15 28, w ∈ wsX15_setShare := by decide +kernel
  subst hsz
  have hD := hD0.self (sz := s.heap.size)
  generalize hAe : va_A (wd_k_m_setShare z mo ti si lo lh lk sp st pa br sg csp th) s.heap.size = A at hD hM ⊢
  have hA : ∀ q : Nat, s.heap.size ≤ q → A q := fun q h => by rw [← hAe]; exact Or.inr h
  have hS : va_S A s.heap s.heap [] := va_S.rf
  have hP : va_P (dC, dI) vwCl [(mo, .inr (19, [.int 0, .int 0, .int 0, .int 0, .int 0, .int 0, .int 0, .ref ti, .ref si, .ref lo, .ref lh, .ref lk, .ref sp, .ref st, .ref pa, .ref br, .ref sg, .int 0, .int 0, .int 0, .int 0, .int 0, .int 0, .long 0, .long 0, .long 0, .long 0, .int th])), (sp, .inl (csp, 9, .inl (fun _ => 0)))] s.heap := hP
  have hD : va_D A [(mo, .inr (19, [.int 0, .int 0, .int 0, .int 0, .int 0, .int 0, .int 0, .ref ti, .ref si, .ref lo, .ref lh, .ref lk, .ref sp, .ref st, .ref pa, .ref br, .ref sg, .int 0, .int 0, .int 0, .int 0, .int 0, .int 0, .long 0, .long 0, .long 0, .long 0, .int th])), (sp, .inl (csp, 9, .inl (fun _ => 0)))] := hD
  have hl := lv_entry ([.ref mo]) (n := 6) (Nat.le_of_ble_eq_true rfl)
  rw [lg_entry_eq]
  generalize (lg_sl ([.ref mo]) ++ List.replicate (6 - (lg_sl ([.ref mo])).length) Slot.unset).toArray = ls at hl ⊢
  have hl : lv_has ls 6 [(0, .ref mo)] := hl
  refine lv_aload_n hx hb dX15_setShare_0 rfl (lv_at hl 0 rfl) ?_
  refine lv_iconst (v := 0) hx hb dX15_setShare_1 (by decide) ?_
  refine va_put (D := (dC, dI)) (ci := 19) (v := .int 0) (ty := .int) (C := RX15) (T := TX15) (N := 28) hx hb hts hiX15 tyX15 tyX15_ok nmX15 hown hK hP hD hS 0 rfl rfl 27 (by decide) (hts (.fieldLink RX15 45 "SquareRigModel" "thrown" "I") (by decide +kernel)) (fun _ h9 => h9) rfl (by decide +kernel) rfl rfl (Nat.le_of_ble_eq_true rfl) dX15_setShare_2 (fun H locs hP hD hS => ?_)
  have hP : va_P (dC, dI) vwCl [(mo, .inr (19, [.int 0, .int 0, .int 0, .int 0, .int 0, .int 0, .int 0, .ref ti, .ref si, .ref lo, .ref lh, .ref lk, .ref sp, .ref st, .ref pa, .ref br, .ref sg, .int 0, .int 0, .int 0, .int 0, .int 0, .int 0, .long 0, .long 0, .long 0, .long 0, .int 0])), (sp, .inl (csp, 9, .inl (fun _ => 0)))] H := hP
  have hD : va_D A [(mo, .inr (19, [.int 0, .int 0, .int 0, .int 0, .int 0, .int 0, .int 0, .ref ti, .ref si, .ref lo, .ref lh, .ref lk, .ref sp, .ref st, .ref pa, .ref br, .ref sg, .int 0, .int 0, .int 0, .int 0, .int 0, .int 0, .long 0, .long 0, .long 0, .long 0, .int 0])), (sp, .inl (csp, 9, .inl (fun _ => 0)))] := hD
  refine lv_iconst (v := 0) hx hb dX15_setShare_5 (by decide) ?_
  refine lv_istore_n (lv' := [(1, .int 0), (0, .ref mo)]) hx hb dX15_setShare_6 rfl hl (by decide) rfl (fun ls hl => ?_)
  refine lv_aload_n hx hb dX15_setShare_7 rfl (lv_at hl 1 rfl) ?_
  refine va_get (D := (dC, dI)) (ci := 19) (v := .ref sp) (C := RX15) (T := TX15) (N := 28) hx hb hts hiX15 hown hK hP 0 rfl rfl 12 (by decide) (hts (.fieldLink RX15 29 "SquareRigModel" "spread" "[I") (by decide +kernel)) (fun _ h9 => h9) rfl dX15_setShare_8 ?_
  refine lv_astore_n (lv' := [(2, .ref sp), (1, .int 0), (0, .ref mo)]) hx hb dX15_setShare_11 rfl hl (by decide) rfl (fun ls hl => ?_)
  refine lv_aload_n hx hb dX15_setShare_12 rfl (lv_at hl 0 rfl) ?_
  refine va_alen (v := 9) hx hb hK hP 1 0 rfl rfl rfl dX15_setShare_13 ?_
  refine lv_istore_n (lv' := [(3, .int 9), (2, .ref sp), (1, .int 0), (0, .ref mo)]) hx hb dX15_setShare_14 rfl hl (by decide) rfl (fun ls hl => ?_)
  refine lv_iconst (v := 0) hx hb dX15_setShare_15 (by decide) ?_
  refine lv_istore (lv' := [(4, .int 0), (3, .int 9), (2, .ref sp), (1, .int 0), (0, .ref mo)]) hx hb dX15_setShare_16 hl (by decide) rfl (fun ls hl => ?_)
  refine lv_iload hx hb dX15_setShare_18 (lv_at hl 0 rfl) ?_
  refine lv_iload_n hx hb dX15_setShare_20 rfl (lv_at hl 1 rfl) ?_
  refine lv_icmp_ge (tgt := 49) hx hb dX15_setShare_21 (by decide) (fun c_ => absurd c_ (by decide +kernel)) (fun _ => ?_)
  refine lv_aload_n hx hb dX15_setShare_24 rfl (lv_at hl 2 rfl) ?_
  refine lv_iload hx hb dX15_setShare_25 (lv_at hl 0 rfl) ?_
  refine va_iald hx hb hK hP 1 0 rfl rfl (pk_in 0 9 (by decide) rfl) dX15_setShare_27 ?_
  refine kc_v (y := .int 0) rfl ?_
  refine lv_istore (lv' := [(5, .int 0), (4, .int 0), (3, .int 9), (2, .ref sp), (1, .int 0), (0, .ref mo)]) hx hb dX15_setShare_28 hl (by decide) rfl (fun ls hl => ?_)
  refine lv_iload_n hx hb dX15_setShare_30 rfl (lv_at hl 4 rfl) ?_
  refine lv_iload hx hb dX15_setShare_31 (lv_at hl 0 rfl) ?_
  refine lv_if_le (tgt := 40) hx hb dX15_setShare_33 (by decide) (fun _ => ?_) (fun c_ => absurd (by decide +kernel) c_)
  refine lv_iconst (v := 0) hx hb dX15_setShare_40 (by decide) ?_
  refine lv_iadd hx hb dX15_setShare_41 ?_
  refine kc_i (y := 0) (by decide +kernel) ?_
  refine lv_istore_n (lv' := [(1, .int 0), (5, .int 0), (4, .int 0), (3, .int 9), (2, .ref sp), (0, .ref mo)]) hx hb dX15_setShare_42 rfl hl (by decide) rfl (fun ls hl => ?_)
  refine lv_iinc (v := 1) (lv' := [(4, .int 1), (1, .int 0), (5, .int 0), (3, .int 9), (2, .ref sp), (0, .ref mo)]) hx hb dX15_setShare_43 hl (k := 2) rfl (by decide +kernel) (by decide) rfl (fun ls hl => ?_)
  refine lv_goto (tgt := 18) hx hb dX15_setShare_46 (by decide) ?_
  refine lv_iload hx hb dX15_setShare_18 (lv_at hl 0 rfl) ?_
  refine lv_iload_n hx hb dX15_setShare_20 rfl (lv_at hl 3 rfl) ?_
  refine lv_icmp_ge (tgt := 49) hx hb dX15_setShare_21 (by decide) (fun c_ => absurd c_ (by decide +kernel)) (fun _ => ?_)
  refine lv_aload_n hx hb dX15_setShare_24 rfl (lv_at hl 4 rfl) ?_
  refine lv_iload hx hb dX15_setShare_25 (lv_at hl 0 rfl) ?_
  refine va_iald hx hb hK hP 1 0 rfl rfl (pk_in 1 9 (by decide) rfl) dX15_setShare_27 ?_
  refine kc_v (y := .int 0) rfl ?_
  refine lv_istore (lv' := [(5, .int 0), (4, .int 1), (1, .int 0), (3, .int 9), (2, .ref sp), (0, .ref mo)]) hx hb dX15_setShare_28 hl (by decide) rfl (fun ls hl => ?_)
  refine lv_iload_n hx hb dX15_setShare_30 rfl (lv_at hl 2 rfl) ?_
  refine lv_iload hx hb dX15_setShare_31 (lv_at hl 0 rfl) ?_
  refine lv_if_le (tgt := 40) hx hb dX15_setShare_33 (by decide) (fun _ => ?_) (fun c_ => absurd (by decide +kernel) c_)
  refine lv_iconst (v := 0) hx hb dX15_setShare_40 (by decide) ?_
  refine lv_iadd hx hb dX15_setShare_41 ?_
  refine kc_i (y := 0) (by decide +kernel) ?_
  refine lv_istore_n (lv' := [(1, .int 0), (5, .int 0), (4, .int 1), (3, .int 9), (2, .ref sp), (0, .ref mo)]) hx hb dX15_setShare_42 rfl hl (by decide) rfl (fun ls hl => ?_)
  refine lv_iinc (v := 2) (lv' := [(4, .int 2), (1, .int 0), (5, .int 0), (3, .int 9), (2, .ref sp), (0, .ref mo)]) hx hb dX15_setShare_43 hl (k := 2) rfl (by decide +kernel) (by decide) rfl (fun ls hl => ?_)
  refine lv_goto (tgt := 18) hx hb dX15_setShare_46 (by decide) ?_
  refine lv_iload hx hb dX15_setShare_18 (lv_at hl 0 rfl) ?_
  refine lv_iload_n hx hb dX15_setShare_20 rfl (lv_at hl 3 rfl) ?_
  refine lv_icmp_ge (tgt := 49) hx hb dX15_setShare_21 (by decide) (fun c_ => absurd c_ (by decide +kernel)) (fun _ => ?_)
  refine lv_aload_n hx hb dX15_setShare_24 rfl (lv_at hl 4 rfl) ?_
  refine lv_iload hx hb dX15_setShare_25 (lv_at hl 0 rfl) ?_
  refine va_iald hx hb hK hP 1 0 rfl rfl (pk_in 2 9 (by decide) rfl) dX15_setShare_27 ?_
  refine kc_v (y := .int 0) rfl ?_
  refine lv_istore (lv' := [(5, .int 0), (4, .int 2), (1, .int 0), (3, .int 9), (2, .ref sp), (0, .ref mo)]) hx hb dX15_setShare_28 hl (by decide) rfl (fun ls hl => ?_)
  refine lv_iload_n hx hb dX15_setShare_30 rfl (lv_at hl 2 rfl) ?_
  refine lv_iload hx hb dX15_setShare_31 (lv_at hl 0 rfl) ?_
  refine lv_if_le (tgt := 40) hx hb dX15_setShare_33 (by decide) (fun _ => ?_) (fun c_ => absurd (by decide +kernel) c_)
  refine lv_iconst (v := 0) hx hb dX15_setShare_40 (by decide) ?_
  refine lv_iadd hx hb dX15_setShare_41 ?_
  refine kc_i (y := 0) (by decide +kernel) ?_
  refine lv_istore_n (lv' := [(1, .int 0), (5, .int 0), (4, .int 2), (3, .int 9), (2, .ref sp), (0, .ref mo)]) hx hb dX15_setShare_42 rfl hl (by decide) rfl (fun ls hl => ?_)
  refine lv_iinc (v := 3) (lv' := [(4, .int 3), (1, .int 0), (5, .int 0), (3, .int 9), (2, .ref sp), (0, .ref mo)]) hx hb dX15_setShare_43 hl (k := 2) rfl (by decide +kernel) (by decide) rfl (fun ls hl => ?_)
  refine lv_goto (tgt := 18) hx hb dX15_setShare_46 (by decide) ?_
  refine lv_iload hx hb dX15_setShare_18 (lv_at hl 0 rfl) ?_
  refine lv_iload_n hx hb dX15_setShare_20 rfl (lv_at hl 3 rfl) ?_
  refine lv_icmp_ge (tgt := 49) hx hb dX15_setShare_21 (by decide) (fun c_ => absurd c_ (by decide +kernel)) (fun _ => ?_)
  refine lv_aload_n hx hb dX15_setShare_24 rfl (lv_at hl 4 rfl) ?_
  refine lv_iload hx hb dX15_setShare_25 (lv_at hl 0 rfl) ?_
  refine va_iald hx hb hK hP 1 0 rfl rfl (pk_in 3 9 (by decide) rfl) dX15_setShare_27 ?_
  refine kc_v (y := .int 0) rfl ?_
  refine lv_istore (lv' := [(5, .int 0), (4, .int 3), (1, .int 0), (3, .int 9), (2, .ref sp), (0, .ref mo)]) hx hb dX15_setShare_28 hl (by decide) rfl (fun ls hl => ?_)
  refine lv_iload_n hx hb dX15_setShare_30 rfl (lv_at hl 2 rfl) ?_
  refine lv_iload hx hb dX15_setShare_31 (lv_at hl 0 rfl) ?_
  refine lv_if_le (tgt := 40) hx hb dX15_setShare_33 (by decide) (fun _ => ?_) (fun c_ => absurd (by decide +kernel) c_)
  refine lv_iconst (v := 0) hx hb dX15_setShare_40 (by decide) ?_
  refine lv_iadd hx hb dX15_setShare_41 ?_
  refine kc_i (y := 0) (by decide +kernel) ?_
  refine lv_istore_n (lv' := [(1, .int 0), (5, .int 0), (4, .int 3), (3, .int 9), (2, .ref sp), (0, .ref mo)]) hx hb dX15_setShare_42 rfl hl (by decide) rfl (fun ls hl => ?_)
  refine lv_iinc (v := 4) (lv' := [(4, .int 4), (1, .int 0), (5, .int 0), (3, .int 9), (2, .ref sp), (0, .ref mo)]) hx hb dX15_setShare_43 hl (k := 2) rfl (by decide +kernel) (by decide) rfl (fun ls hl => ?_)
  refine lv_goto (tgt := 18) hx hb dX15_setShare_46 (by decide) ?_
  refine lv_iload hx hb dX15_setShare_18 (lv_at hl 0 rfl) ?_
  refine lv_iload_n hx hb dX15_setShare_20 rfl (lv_at hl 3 rfl) ?_
  refine lv_icmp_ge (tgt := 49) hx hb dX15_setShare_21 (by decide) (fun c_ => absurd c_ (by decide +kernel)) (fun _ => ?_)
  refine lv_aload_n hx hb dX15_setShare_24 rfl (lv_at hl 4 rfl) ?_
  refine lv_iload hx hb dX15_setShare_25 (lv_at hl 0 rfl) ?_
  refine va_iald hx hb hK hP 1 0 rfl rfl (pk_in 4 9 (by decide) rfl) dX15_setShare_27 ?_
  refine kc_v (y := .int 0) rfl ?_
  refine lv_istore (lv' := [(5, .int 0), (4, .int 4), (1, .int 0), (3, .int 9), (2, .ref sp), (0, .ref mo)]) hx hb dX15_setShare_28 hl (by decide) rfl (fun ls hl => ?_)
  refine lv_iload_n hx hb dX15_setShare_30 rfl (lv_at hl 2 rfl) ?_
  refine lv_iload hx hb dX15_setShare_31 (lv_at hl 0 rfl) ?_
  refine lv_if_le (tgt := 40) hx hb dX15_setShare_33 (by decide) (fun _ => ?_) (fun c_ => absurd (by decide +kernel) c_)
  refine lv_iconst (v := 0) hx hb dX15_setShare_40 (by decide) ?_
  refine lv_iadd hx hb dX15_setShare_41 ?_
  refine kc_i (y := 0) (by decide +kernel) ?_
  refine lv_istore_n (lv' := [(1, .int 0), (5, .int 0), (4, .int 4), (3, .int 9), (2, .ref sp), (0, .ref mo)]) hx hb dX15_setShare_42 rfl hl (by decide) rfl (fun ls hl => ?_)
  refine lv_iinc (v := 5) (lv' := [(4, .int 5), (1, .int 0), (5, .int 0), (3, .int 9), (2, .ref sp), (0, .ref mo)]) hx hb dX15_setShare_43 hl (k := 2) rfl (by decide +kernel) (by decide) rfl (fun ls hl => ?_)
  refine lv_goto (tgt := 18) hx hb dX15_setShare_46 (by decide) ?_
  refine lv_iload hx hb dX15_setShare_18 (lv_at hl 0 rfl) ?_
  refine lv_iload_n hx hb dX15_setShare_20 rfl (lv_at hl 3 rfl) ?_
  refine lv_icmp_ge (tgt := 49) hx hb dX15_setShare_21 (by decide) (fun c_ => absurd c_ (by decide +kernel)) (fun _ => ?_)
  refine lv_aload_n hx hb dX15_setShare_24 rfl (lv_at hl 4 rfl) ?_
  refine lv_iload hx hb dX15_setShare_25 (lv_at hl 0 rfl) ?_
  refine va_iald hx hb hK hP 1 0 rfl rfl (pk_in 5 9 (by decide) rfl) dX15_setShare_27 ?_
  refine kc_v (y := .int 0) rfl ?_
  refine lv_istore (lv' := [(5, .int 0), (4, .int 5), (1, .int 0), (3, .int 9), (2, .ref sp), (0, .ref mo)]) hx hb dX15_setShare_28 hl (by decide) rfl (fun ls hl => ?_)
  refine lv_iload_n hx hb dX15_setShare_30 rfl (lv_at hl 2 rfl) ?_
  refine lv_iload hx hb dX15_setShare_31 (lv_at hl 0 rfl) ?_
  refine lv_if_le (tgt := 40) hx hb dX15_setShare_33 (by decide) (fun _ => ?_) (fun c_ => absurd (by decide +kernel) c_)
  refine lv_iconst (v := 0) hx hb dX15_setShare_40 (by decide) ?_
  refine lv_iadd hx hb dX15_setShare_41 ?_
  refine kc_i (y := 0) (by decide +kernel) ?_
  refine lv_istore_n (lv' := [(1, .int 0), (5, .int 0), (4, .int 5), (3, .int 9), (2, .ref sp), (0, .ref mo)]) hx hb dX15_setShare_42 rfl hl (by decide) rfl (fun ls hl => ?_)
  refine lv_iinc (v := 6) (lv' := [(4, .int 6), (1, .int 0), (5, .int 0), (3, .int 9), (2, .ref sp), (0, .ref mo)]) hx hb dX15_setShare_43 hl (k := 2) rfl (by decide +kernel) (by decide) rfl (fun ls hl => ?_)
  refine lv_goto (tgt := 18) hx hb dX15_setShare_46 (by decide) ?_
  refine lv_iload hx hb dX15_setShare_18 (lv_at hl 0 rfl) ?_
  refine lv_iload_n hx hb dX15_setShare_20 rfl (lv_at hl 3 rfl) ?_
  refine lv_icmp_ge (tgt := 49) hx hb dX15_setShare_21 (by decide) (fun c_ => absurd c_ (by decide +kernel)) (fun _ => ?_)
  refine lv_aload_n hx hb dX15_setShare_24 rfl (lv_at hl 4 rfl) ?_
  refine lv_iload hx hb dX15_setShare_25 (lv_at hl 0 rfl) ?_
  refine va_iald hx hb hK hP 1 0 rfl rfl (pk_in 6 9 (by decide) rfl) dX15_setShare_27 ?_
  refine kc_v (y := .int 0) rfl ?_
  refine lv_istore (lv' := [(5, .int 0), (4, .int 6), (1, .int 0), (3, .int 9), (2, .ref sp), (0, .ref mo)]) hx hb dX15_setShare_28 hl (by decide) rfl (fun ls hl => ?_)
  refine lv_iload_n hx hb dX15_setShare_30 rfl (lv_at hl 2 rfl) ?_
  refine lv_iload hx hb dX15_setShare_31 (lv_at hl 0 rfl) ?_
  refine lv_if_le (tgt := 40) hx hb dX15_setShare_33 (by decide) (fun _ => ?_) (fun c_ => absurd (by decide +kernel) c_)
  refine lv_iconst (v := 0) hx hb dX15_setShare_40 (by decide) ?_
  refine lv_iadd hx hb dX15_setShare_41 ?_
  refine kc_i (y := 0) (by decide +kernel) ?_
  refine lv_istore_n (lv' := [(1, .int 0), (5, .int 0), (4, .int 6), (3, .int 9), (2, .ref sp), (0, .ref mo)]) hx hb dX15_setShare_42 rfl hl (by decide) rfl (fun ls hl => ?_)
  refine lv_iinc (v := 7) (lv' := [(4, .int 7), (1, .int 0), (5, .int 0), (3, .int 9), (2, .ref sp), (0, .ref mo)]) hx hb dX15_setShare_43 hl (k := 2) rfl (by decide +kernel) (by decide) rfl (fun ls hl => ?_)
  refine lv_goto (tgt := 18) hx hb dX15_setShare_46 (by decide) ?_
  refine lv_iload hx hb dX15_setShare_18 (lv_at hl 0 rfl) ?_
  refine lv_iload_n hx hb dX15_setShare_20 rfl (lv_at hl 3 rfl) ?_
  refine lv_icmp_ge (tgt := 49) hx hb dX15_setShare_21 (by decide) (fun c_ => absurd c_ (by decide +kernel)) (fun _ => ?_)
  refine lv_aload_n hx hb dX15_setShare_24 rfl (lv_at hl 4 rfl) ?_
  refine lv_iload hx hb dX15_setShare_25 (lv_at hl 0 rfl) ?_
  refine va_iald hx hb hK hP 1 0 rfl rfl (pk_in 7 9 (by decide) rfl) dX15_setShare_27 ?_
  refine kc_v (y := .int 0) rfl ?_
  refine lv_istore (lv' := [(5, .int 0), (4, .int 7), (1, .int 0), (3, .int 9), (2, .ref sp), (0, .ref mo)]) hx hb dX15_setShare_28 hl (by decide) rfl (fun ls hl => ?_)
  refine lv_iload_n hx hb dX15_setShare_30 rfl (lv_at hl 2 rfl) ?_
  refine lv_iload hx hb dX15_setShare_31 (lv_at hl 0 rfl) ?_
  refine lv_if_le (tgt := 40) hx hb dX15_setShare_33 (by decide) (fun _ => ?_) (fun c_ => absurd (by decide +kernel) c_)
  refine lv_iconst (v := 0) hx hb dX15_setShare_40 (by decide) ?_
  refine lv_iadd hx hb dX15_setShare_41 ?_
  refine kc_i (y := 0) (by decide +kernel) ?_
  refine lv_istore_n (lv' := [(1, .int 0), (5, .int 0), (4, .int 7), (3, .int 9), (2, .ref sp), (0, .ref mo)]) hx hb dX15_setShare_42 rfl hl (by decide) rfl (fun ls hl => ?_)
  refine lv_iinc (v := 8) (lv' := [(4, .int 8), (1, .int 0), (5, .int 0), (3, .int 9), (2, .ref sp), (0, .ref mo)]) hx hb dX15_setShare_43 hl (k := 2) rfl (by decide +kernel) (by decide) rfl (fun ls hl => ?_)
  refine lv_goto (tgt := 18) hx hb dX15_setShare_46 (by decide) ?_
  refine lv_iload hx hb dX15_setShare_18 (lv_at hl 0 rfl) ?_
  refine lv_iload_n hx hb dX15_setShare_20 rfl (lv_at hl 3 rfl) ?_
  refine lv_icmp_ge (tgt := 49) hx hb dX15_setShare_21 (by decide) (fun c_ => absurd c_ (by decide +kernel)) (fun _ => ?_)
  refine lv_aload_n hx hb dX15_setShare_24 rfl (lv_at hl 4 rfl) ?_
  refine lv_iload hx hb dX15_setShare_25 (lv_at hl 0 rfl) ?_
  refine va_iald hx hb hK hP 1 0 rfl rfl (pk_in 8 9 (by decide) rfl) dX15_setShare_27 ?_
  refine kc_v (y := .int 0) rfl ?_
  refine lv_istore (lv' := [(5, .int 0), (4, .int 8), (1, .int 0), (3, .int 9), (2, .ref sp), (0, .ref mo)]) hx hb dX15_setShare_28 hl (by decide) rfl (fun ls hl => ?_)
  refine lv_iload_n hx hb dX15_setShare_30 rfl (lv_at hl 2 rfl) ?_
  refine lv_iload hx hb dX15_setShare_31 (lv_at hl 0 rfl) ?_
  refine lv_if_le (tgt := 40) hx hb dX15_setShare_33 (by decide) (fun _ => ?_) (fun c_ => absurd (by decide +kernel) c_)
  refine lv_iconst (v := 0) hx hb dX15_setShare_40 (by decide) ?_
  refine lv_iadd hx hb dX15_setShare_41 ?_
  refine kc_i (y := 0) (by decide +kernel) ?_
  refine lv_istore_n (lv' := [(1, .int 0), (5, .int 0), (4, .int 8), (3, .int 9), (2, .ref sp), (0, .ref mo)]) hx hb dX15_setShare_42 rfl hl (by decide) rfl (fun ls hl => ?_)
  refine lv_iinc (v := 9) (lv' := [(4, .int 9), (1, .int 0), (5, .int 0), (3, .int 9), (2, .ref sp), (0, .ref mo)]) hx hb dX15_setShare_43 hl (k := 2) rfl (by decide +kernel) (by decide) rfl (fun ls hl => ?_)
  refine lv_goto (tgt := 18) hx hb dX15_setShare_46 (by decide) ?_
  refine lv_iload hx hb dX15_setShare_18 (lv_at hl 0 rfl) ?_
  refine lv_iload_n hx hb dX15_setShare_20 rfl (lv_at hl 3 rfl) ?_
  refine lv_icmp_ge (tgt := 49) hx hb dX15_setShare_21 (by decide) (fun _ => ?_) (fun c_ => absurd (by decide +kernel) c_)
  refine lv_iload_n hx hb dX15_setShare_49 rfl (lv_at hl 1 rfl) ?_
  refine lv_i2f hx hb dX15_setShare_50 ?_
  refine kc_v (y := .float 0) (by decide +kernel) ?_
  refine k_ldcwf (v := 1091567616) hx hb hown (hts (.constantFloat RX15 332 1091567616) (by decide +kernel)) dX15_setShare_51 ?_
  refine lv_fdiv hx hb dX15_setShare_54 (by unfold vf_n32; decide +kernel) ?_
  refine kc_v (y := .float 0) (by decide +kernel) ?_
  exact W.fret (v := 0) hx hb hr (fun t ht hW => ⟨⟨0, (), rfl, rfl, kB_end (w9 := [(mo, .inr (19, [.int 0, .int 0, .int 0, .int 0, .int 0, .int 0, .int 0, .ref ti, .ref si, .ref lo, .ref lh, .ref lk, .ref sp, .ref st, .ref pa, .ref br, .ref sg, .int 0, .int 0, .int 0, .int 0, .int 0, .int 0, .long 0, .long 0, .long 0, .long 0, .int 0]))]) (t9 := []) hP hK hD [0] [] rfl (by decide) rfl rfl t ht hW⟩, hS.F ht⟩) hS.2.2 dX15_setShare_55
abbrev wd_k_m_meanStrength (z : Nat → Nat) (mo : Nat) (ti : Nat) (si : Nat) (lo : Nat) (lh : Nat) (lk : Nat) (sp : Nat) (st : Nat) (pa : Nat) (br : Nat) (sg : Nat) (cst : ClassId) (cpa : ClassId) (th : Int32) : va_W := [(mo, .inr (19, [.int 0, .int 0, .int 0, .int 0, .int 0, .int 0, .int 0, .ref ti, .ref si, .ref lo, .ref lh, .ref lk, .ref sp, .ref st, .ref pa, .ref br, .ref sg, .int 0, .int 0, .int 0, .int 0, .int 0, .int 0, .long 0, .long 0, .long 0, .long 0, .int th])), (st, .inl (cst, 9, .inl (upd (upd (upd (upd (upd (upd (upd (upd (upd (fun _ => 0) 0 900) 1 900) 2 900) 3 900) 4 900) 5 900) 6 900) 7 900) 8 900))), (pa, .inl (cpa, 9, .inl (fun _ => 0)))]
set_option maxHeartbeats 4000000 in
set_option maxRecDepth 100000 in
theorem k_m_meanStrength (l : Launch) (dC : Nat → ClassId) (dI : Nat → Nat → Nat) (z zK zV : Nat → Nat) (mo : Nat) (ti : Nat) (si : Nat) (lo : Nat) (lh : Nat) (lk : Nat) (sp : Nat) (st : Nat) (pa : Nat) (br : Nat) (sg : Nat) (cst : ClassId) (cpa : ClassId) (th : Int32) (sz : Nat)  : Met l yX15_meanStrength wsX15_meanStrength ({ frames := 0, cells := 0, slots := 0, locals := 0 }) (kP dC dI z zK zV [.ref mo] sz (wd_k_m_meanStrength z mo ti si lo lh lk sp st pa br sg cst cpa th) [(cst, .int), (cpa, .boolean)]) (va_Qd (fun (r : UInt64) (_ : Unit) => 4651127699538968576 = r) (fun _ t => kB (dC, dI) (va_A (wd_k_m_meanStrength z mo ti si lo lh lk sp st pa br sg cst cpa th) sz) [(mo, .inr (19, [.int 0, .int 0, .int 0, .int 0, .int 0, .int 0, .int 0, .ref ti, .ref si, .ref lo, .ref lh, .ref lk, .ref sp, .ref st, .ref pa, .ref br, .ref sg, .int 0, .int 0, .int 0, .int 0, .int 0, .int 0, .long 0, .long 0, .long 0, .long 0, .int 0]))] [] t) (va_A (wd_k_m_meanStrength z mo ti si lo lh lk sp st pa br sg cst cpa th) sz)) 0 0 (va_A (wd_k_m_meanStrength z mo ti si lo lh lk sp st pa br sg cst cpa th) sz) := by
  refine Met.ofW (cc := cX15_meanStrength) (maxL := 4) (ret := (some .double)) (by decide) rfl ?_
  intro p e s m args below meth c s₁ B hml hv
  obtain ⟨rfl, hsz, hP, hK, hD0, hM⟩ := hv
  have hx := B.exec
  have hb := B.bytes
  have hr := B.returns
  have hts := atoms_spec (ws := wsX15_meanStrength) B.pre
  have hown : s.vm.findClass RX15 = some m.cls := findClass_of_methodNamed B.named
  have hlocks := B.notSynchronized
  have hiX15 : ∀ w ∈ u_ws RX15 TX15 28, w ∈ wsX15_meanStrength := by decide +kernel
  subst hsz
  have hD := hD0.self (sz := s.heap.size)
  generalize hAe : va_A (wd_k_m_meanStrength z mo ti si lo lh lk sp st pa br sg cst cpa th) s.heap.size = A at hD hM ⊢
  have hA : ∀ q : Nat, s.heap.size ≤ q → A q := fun q h => by rw [← hAe]; exact Or.inr h
  have hS : va_S A s.heap s.heap [] := va_S.rf
  have hP : va_P (dC, dI) vwCl [(mo, .inr (19, [.int 0, .int 0, .int 0, .int 0, .int 0, .int 0, .int 0, .ref ti, .ref si, .ref lo, .ref lh, .ref lk, .ref sp, .ref st, .ref pa, .ref br, .ref sg, .int 0, .int 0, .int 0, .int 0, .int 0, .int 0, .long 0, .long 0, .long 0, .long 0, .int th])), (st, .inl (cst, 9, .inl (upd (upd (upd (upd (upd (upd (upd (upd (upd (fun _ => 0) 0 900) 1 900) 2 900) 3 900) 4 900) 5 900) 6 900) 7 900) 8 900))), (pa, .inl (cpa, 9, .inl (fun _ => 0)))] s.heap := hP
  have hD : va_D A [(mo, .inr (19, [.int 0, .int 0, .int 0, .int 0, .int 0, .int 0, .int 0, .ref ti, .ref si, .ref lo, .ref lh, .ref lk, .ref sp, .ref st, .ref pa, .ref br, .ref sg, .int 0, .int 0, .int 0, .int 0, .int 0, .int 0, .long 0, .long 0, .long 0, .long 0, .int th])), (st, .inl (cst, 9, .inl (upd (upd (upd (upd (upd (upd (upd (upd (upd (fun _ => 0) 0 900) 1 900) 2 900) 3 900) 4 900) 5 900) 6 900) 7 900) 8 900))), (pa, .inl (cpa, 9, .inl (fun _ => 0)))] := hD
  have hl := lv_entry ([.ref mo]) (n := 4) (Nat.le_of_ble_eq_true rfl)
  rw [lg_entry_eq]
  generalize (lg_sl ([.ref mo]) ++ List.replicate (4 - (lg_sl ([.ref mo])).length) Slot.unset).toArray = ls at hl ⊢
  have hl : lv_has ls 4 [(0, .ref mo)] := hl
  refine lv_iconst (v := 0) hx hb dX15_meanStrength_0 (by decide) ?_
  refine lv_istore_n (lv' := [(1, .int 0), (0, .ref mo)]) hx hb dX15_meanStrength_1 rfl hl (by decide) rfl (fun ls hl => ?_)
  refine lv_iconst (v := 0) hx hb dX15_meanStrength_2 (by decide) ?_
  refine lv_istore_n (lv' := [(2, .int 0), (1, .int 0), (0, .ref mo)]) hx hb dX15_meanStrength_3 rfl hl (by decide) rfl (fun ls hl => ?_)
  refine lv_iconst (v := 0) hx hb dX15_meanStrength_4 (by decide) ?_
  refine lv_istore_n (lv' := [(3, .int 0), (2, .int 0), (1, .int 0), (0, .ref mo)]) hx hb dX15_meanStrength_5 rfl hl (by decide) rfl (fun ls hl => ?_)
  refine lv_iload_n hx hb dX15_meanStrength_6 rfl (lv_at hl 0 rfl) ?_
  refine lv_bipush (v := 9) hx hb dX15_meanStrength_7 (by decide) ?_
  refine lv_icmp_ge (tgt := 57) hx hb dX15_meanStrength_9 (by decide) (fun c_ => absurd c_ (by decide +kernel)) (fun _ => ?_)
  refine lv_iload_n hx hb dX15_meanStrength_12 rfl (lv_at hl 2 rfl) ?_
  refine lv_aload_n hx hb dX15_meanStrength_13 rfl (lv_at hl 3 rfl) ?_
  refine va_get (D := (dC, dI)) (ci := 19) (v := .ref pa) (C := RX15) (T := TX15) (N := 28) hx hb hts hiX15 hown hK hP 0 rfl rfl 14 (by decide) (hts (.fieldLink RX15 35 "SquareRigModel" "parted" "[Z") (by decide +kernel)) (fun _ h9 => h9) rfl dX15_meanStrength_14 ?_
  refine lv_iload_n hx hb dX15_meanStrength_17 rfl (lv_at hl 0 rfl) ?_
  refine va_zald hx hb hK hP 2 1 rfl rfl (pk_in 0 9 (by decide) rfl) dX15_meanStrength_18 ?_
  refine kc_v (y := .int 0) rfl ?_
  refine lv_if_eq (tgt := 26) hx hb dX15_meanStrength_19 (by decide) (fun _ => ?_) (fun c_ => absurd (by decide +kernel) c_)
  refine lv_iconst (v := 1) hx hb dX15_meanStrength_26 (by decide) ?_
  refine lv_iadd hx hb dX15_meanStrength_27 ?_
  refine kc_i (y := 1) (by decide +kernel) ?_
  refine lv_istore_n (lv' := [(1, .int 1), (3, .int 0), (2, .int 0), (0, .ref mo)]) hx hb dX15_meanStrength_28 rfl hl (by decide) rfl (fun ls hl => ?_)
  refine lv_iload_n hx hb dX15_meanStrength_29 rfl (lv_at hl 2 rfl) ?_
  refine lv_aload_n hx hb dX15_meanStrength_30 rfl (lv_at hl 3 rfl) ?_
  refine va_get (D := (dC, dI)) (ci := 19) (v := .ref pa) (C := RX15) (T := TX15) (N := 28) hx hb hts hiX15 hown hK hP 0 rfl rfl 14 (by decide) (hts (.fieldLink RX15 35 "SquareRigModel" "parted" "[Z") (by decide +kernel)) (fun _ h9 => h9) rfl dX15_meanStrength_31 ?_
  refine lv_iload_n hx hb dX15_meanStrength_34 rfl (lv_at hl 1 rfl) ?_
  refine va_zald hx hb hK hP 2 1 rfl rfl (pk_in 0 9 (by decide) rfl) dX15_meanStrength_35 ?_
  refine kc_v (y := .int 0) rfl ?_
  refine lv_if_eq (tgt := 43) hx hb dX15_meanStrength_36 (by decide) (fun _ => ?_) (fun c_ => absurd (by decide +kernel) c_)
  refine lv_aload_n hx hb dX15_meanStrength_43 rfl (lv_at hl 3 rfl) ?_
  refine va_get (D := (dC, dI)) (ci := 19) (v := .ref st) (C := RX15) (T := TX15) (N := 28) hx hb hts hiX15 hown hK hP 0 rfl rfl 13 (by decide) (hts (.fieldLink RX15 32 "SquareRigModel" "strength" "[I") (by decide +kernel)) (fun _ h9 => h9) rfl dX15_meanStrength_44 ?_
  refine lv_iload_n hx hb dX15_meanStrength_47 rfl (lv_at hl 1 rfl) ?_
  refine va_iald hx hb hK hP 1 0 rfl rfl (pk_in 0 9 (by decide) rfl) dX15_meanStrength_48 ?_
  refine kc_v (y := .int 900) rfl ?_
  refine lv_iadd hx hb dX15_meanStrength_49 ?_
  refine kc_i (y := 900) (by decide +kernel) ?_
  refine lv_istore_n (lv' := [(2, .int 900), (1, .int 1), (3, .int 0), (0, .ref mo)]) hx hb dX15_meanStrength_50 rfl hl (by decide) rfl (fun ls hl => ?_)
  refine lv_iinc (v := 1) (lv' := [(3, .int 1), (2, .int 900), (1, .int 1), (0, .ref mo)]) hx hb dX15_meanStrength_51 hl (k := 2) rfl (by decide +kernel) (by decide) rfl (fun ls hl => ?_)
  refine lv_goto (tgt := 6) hx hb dX15_meanStrength_54 (by decide) ?_
  refine lv_iload_n hx hb dX15_meanStrength_6 rfl (lv_at hl 0 rfl) ?_
  refine lv_bipush (v := 9) hx hb dX15_meanStrength_7 (by decide) ?_
  refine lv_icmp_ge (tgt := 57) hx hb dX15_meanStrength_9 (by decide) (fun c_ => absurd c_ (by decide +kernel)) (fun _ => ?_)
  refine lv_iload_n hx hb dX15_meanStrength_12 rfl (lv_at hl 2 rfl) ?_
  refine lv_aload_n hx hb dX15_meanStrength_13 rfl (lv_at hl 3 rfl) ?_
  refine va_get (D := (dC, dI)) (ci := 19) (v := .ref pa) (C := RX15) (T := TX15) (N := 28) hx hb hts hiX15 hown hK hP 0 rfl rfl 14 (by decide) (hts (.fieldLink RX15 35 "SquareRigModel" "parted" "[Z") (by decide +kernel)) (fun _ h9 => h9) rfl dX15_meanStrength_14 ?_
  refine lv_iload_n hx hb dX15_meanStrength_17 rfl (lv_at hl 0 rfl) ?_
  refine va_zald hx hb hK hP 2 1 rfl rfl (pk_in 1 9 (by decide) rfl) dX15_meanStrength_18 ?_
  refine kc_v (y := .int 0) rfl ?_
  refine lv_if_eq (tgt := 26) hx hb dX15_meanStrength_19 (by decide) (fun _ => ?_) (fun c_ => absurd (by decide +kernel) c_)
  refine lv_iconst (v := 1) hx hb dX15_meanStrength_26 (by decide) ?_
  refine lv_iadd hx hb dX15_meanStrength_27 ?_
  refine kc_i (y := 2) (by decide +kernel) ?_
  refine lv_istore_n (lv' := [(1, .int 2), (3, .int 1), (2, .int 900), (0, .ref mo)]) hx hb dX15_meanStrength_28 rfl hl (by decide) rfl (fun ls hl => ?_)
  refine lv_iload_n hx hb dX15_meanStrength_29 rfl (lv_at hl 2 rfl) ?_
  refine lv_aload_n hx hb dX15_meanStrength_30 rfl (lv_at hl 3 rfl) ?_
  refine va_get (D := (dC, dI)) (ci := 19) (v := .ref pa) (C := RX15) (T := TX15) (N := 28) hx hb hts hiX15 hown hK hP 0 rfl rfl 14 (by decide) (hts (.fieldLink RX15 35 "SquareRigModel" "parted" "[Z") (by decide +kernel)) (fun _ h9 => h9) rfl dX15_meanStrength_31 ?_
  refine lv_iload_n hx hb dX15_meanStrength_34 rfl (lv_at hl 1 rfl) ?_
  refine va_zald hx hb hK hP 2 1 rfl rfl (pk_in 1 9 (by decide) rfl) dX15_meanStrength_35 ?_
  refine kc_v (y := .int 0) rfl ?_
  refine lv_if_eq (tgt := 43) hx hb dX15_meanStrength_36 (by decide) (fun _ => ?_) (fun c_ => absurd (by decide +kernel) c_)
  refine lv_aload_n hx hb dX15_meanStrength_43 rfl (lv_at hl 3 rfl) ?_
  refine va_get (D := (dC, dI)) (ci := 19) (v := .ref st) (C := RX15) (T := TX15) (N := 28) hx hb hts hiX15 hown hK hP 0 rfl rfl 13 (by decide) (hts (.fieldLink RX15 32 "SquareRigModel" "strength" "[I") (by decide +kernel)) (fun _ h9 => h9) rfl dX15_meanStrength_44 ?_
  refine lv_iload_n hx hb dX15_meanStrength_47 rfl (lv_at hl 1 rfl) ?_
  refine va_iald hx hb hK hP 1 0 rfl rfl (pk_in 1 9 (by decide) rfl) dX15_meanStrength_48 ?_
  refine kc_v (y := .int 900) rfl ?_
  refine lv_iadd hx hb dX15_meanStrength_49 ?_
  refine kc_i (y := 1800) (by decide +kernel) ?_
  refine lv_istore_n (lv' := [(2, .int 1800), (1, .int 2), (3, .int 1), (0, .ref mo)]) hx hb dX15_meanStrength_50 rfl hl (by decide) rfl (fun ls hl => ?_)
  refine lv_iinc (v := 2) (lv' := [(3, .int 2), (2, .int 1800), (1, .int 2), (0, .ref mo)]) hx hb dX15_meanStrength_51 hl (k := 2) rfl (by decide +kernel) (by decide) rfl (fun ls hl => ?_)
  refine lv_goto (tgt := 6) hx hb dX15_meanStrength_54 (by decide) ?_
  refine lv_iload_n hx hb dX15_meanStrength_6 rfl (lv_at hl 0 rfl) ?_
  refine lv_bipush (v := 9) hx hb dX15_meanStrength_7 (by decide) ?_
  refine lv_icmp_ge (tgt := 57) hx hb dX15_meanStrength_9 (by decide) (fun c_ => absurd c_ (by decide +kernel)) (fun _ => ?_)
  refine lv_iload_n hx hb dX15_meanStrength_12 rfl (lv_at hl 2 rfl) ?_
  refine lv_aload_n hx hb dX15_meanStrength_13 rfl (lv_at hl 3 rfl) ?_
  refine va_get (D := (dC, dI)) (ci := 19) (v := .ref pa) (C := RX15) (T := TX15) (N := 28) hx hb hts hiX15 hown hK hP 0 rfl rfl 14 (by decide) (hts (.fieldLink RX15 35 "SquareRigModel" "parted" "[Z") (by decide +kernel)) (fun _ h9 => h9) rfl dX15_meanStrength_14 ?_
  refine lv_iload_n hx hb dX15_meanStrength_17 rfl (lv_at hl 0 rfl) ?_
  refine va_zald hx hb hK hP 2 1 rfl rfl (pk_in 2 9 (by decide) rfl) dX15_meanStrength_18 ?_
  refine kc_v (y := .int 0) rfl ?_
  refine lv_if_eq (tgt := 26) hx hb dX15_meanStrength_19 (by decide) (fun _ => ?_) (fun c_ => absurd (by decide +kernel) c_)
  refine lv_iconst (v := 1) hx hb dX15_meanStrength_26 (by decide) ?_
  refine lv_iadd hx hb dX15_meanStrength_27 ?_
  refine kc_i (y := 3) (by decide +kernel) ?_
  refine lv_istore_n (lv' := [(1, .int 3), (3, .int 2), (2, .int 1800), (0, .ref mo)]) hx hb dX15_meanStrength_28 rfl hl (by decide) rfl (fun ls hl => ?_)
  refine lv_iload_n hx hb dX15_meanStrength_29 rfl (lv_at hl 2 rfl) ?_
  refine lv_aload_n hx hb dX15_meanStrength_30 rfl (lv_at hl 3 rfl) ?_
  refine va_get (D := (dC, dI)) (ci := 19) (v := .ref pa) (C := RX15) (T := TX15) (N := 28) hx hb hts hiX15 hown hK hP 0 rfl rfl 14 (by decide) (hts (.fieldLink RX15 35 "SquareRigModel" "parted" "[Z") (by decide +kernel)) (fun _ h9 => h9) rfl dX15_meanStrength_31 ?_
  refine lv_iload_n hx hb dX15_meanStrength_34 rfl (lv_at hl 1 rfl) ?_
  refine va_zald hx hb hK hP 2 1 rfl rfl (pk_in 2 9 (by decide) rfl) dX15_meanStrength_35 ?_
  refine kc_v (y := .int 0) rfl ?_
  refine lv_if_eq (tgt := 43) hx hb dX15_meanStrength_36 (by decide) (fun _ => ?_) (fun c_ => absurd (by decide +kernel) c_)
  refine lv_aload_n hx hb dX15_meanStrength_43 rfl (lv_at hl 3 rfl) ?_
  refine va_get (D := (dC, dI)) (ci := 19) (v := .ref st) (C := RX15) (T := TX15) (N := 28) hx hb hts hiX15 hown hK hP 0 rfl rfl 13 (by decide) (hts (.fieldLink RX15 32 "SquareRigModel" "strength" "[I") (by decide +kernel)) (fun _ h9 => h9) rfl dX15_meanStrength_44 ?_
  refine lv_iload_n hx hb dX15_meanStrength_47 rfl (lv_at hl 1 rfl) ?_
  refine va_iald hx hb hK hP 1 0 rfl rfl (pk_in 2 9 (by decide) rfl) dX15_meanStrength_48 ?_
  refine kc_v (y := .int 900) rfl ?_
  refine lv_iadd hx hb dX15_meanStrength_49 ?_
  refine kc_i (y := 2700) (by decide +kernel) ?_
  refine lv_istore_n (lv' := [(2, .int 2700), (1, .int 3), (3, .int 2), (0, .ref mo)]) hx hb dX15_meanStrength_50 rfl hl (by decide) rfl (fun ls hl => ?_)
  refine lv_iinc (v := 3) (lv' := [(3, .int 3), (2, .int 2700), (1, .int 3), (0, .ref mo)]) hx hb dX15_meanStrength_51 hl (k := 2) rfl (by decide +kernel) (by decide) rfl (fun ls hl => ?_)
  refine lv_goto (tgt := 6) hx hb dX15_meanStrength_54 (by decide) ?_
  refine lv_iload_n hx hb dX15_meanStrength_6 rfl (lv_at hl 0 rfl) ?_
  refine lv_bipush (v := 9) hx hb dX15_meanStrength_7 (by decide) ?_
  refine lv_icmp_ge (tgt := 57) hx hb dX15_meanStrength_9 (by decide) (fun c_ => absurd c_ (by decide +kernel)) (fun _ => ?_)
  refine lv_iload_n hx hb dX15_meanStrength_12 rfl (lv_at hl 2 rfl) ?_
  refine lv_aload_n hx hb dX15_meanStrength_13 rfl (lv_at hl 3 rfl) ?_
  refine va_get (D := (dC, dI)) (ci := 19) (v := .ref pa) (C := RX15) (T := TX15) (N := 28) hx hb hts hiX15 hown hK hP 0 rfl rfl 14 (by decide) (hts (.fieldLink RX15 35 "SquareRigModel" "parted" "[Z") (by decide +kernel)) (fun _ h9 => h9) rfl dX15_meanStrength_14 ?_
  refine lv_iload_n hx hb dX15_meanStrength_17 rfl (lv_at hl 0 rfl) ?_
  refine va_zald hx hb hK hP 2 1 rfl rfl (pk_in 3 9 (by decide) rfl) dX15_meanStrength_18 ?_
  refine kc_v (y := .int 0) rfl ?_
  refine lv_if_eq (tgt := 26) hx hb dX15_meanStrength_19 (by decide) (fun _ => ?_) (fun c_ => absurd (by decide +kernel) c_)
  refine lv_iconst (v := 1) hx hb dX15_meanStrength_26 (by decide) ?_
  refine lv_iadd hx hb dX15_meanStrength_27 ?_
  refine kc_i (y := 4) (by decide +kernel) ?_
  refine lv_istore_n (lv' := [(1, .int 4), (3, .int 3), (2, .int 2700), (0, .ref mo)]) hx hb dX15_meanStrength_28 rfl hl (by decide) rfl (fun ls hl => ?_)
  refine lv_iload_n hx hb dX15_meanStrength_29 rfl (lv_at hl 2 rfl) ?_
  refine lv_aload_n hx hb dX15_meanStrength_30 rfl (lv_at hl 3 rfl) ?_
  refine va_get (D := (dC, dI)) (ci := 19) (v := .ref pa) (C := RX15) (T := TX15) (N := 28) hx hb hts hiX15 hown hK hP 0 rfl rfl 14 (by decide) (hts (.fieldLink RX15 35 "SquareRigModel" "parted" "[Z") (by decide +kernel)) (fun _ h9 => h9) rfl dX15_meanStrength_31 ?_
  refine lv_iload_n hx hb dX15_meanStrength_34 rfl (lv_at hl 1 rfl) ?_
  refine va_zald hx hb hK hP 2 1 rfl rfl (pk_in 3 9 (by decide) rfl) dX15_meanStrength_35 ?_
  refine kc_v (y := .int 0) rfl ?_
  refine lv_if_eq (tgt := 43) hx hb dX15_meanStrength_36 (by decide) (fun _ => ?_) (fun c_ => absurd (by decide +kernel) c_)
  refine lv_aload_n hx hb dX15_meanStrength_43 rfl (lv_at hl 3 rfl) ?_
  refine va_get (D := (dC, dI)) (ci := 19) (v := .ref st) (C := RX15) (T := TX15) (N := 28) hx hb hts hiX15 hown hK hP 0 rfl rfl 13 (by decide) (hts (.fieldLink RX15 32 "SquareRigModel" "strength" "[I") (by decide +kernel)) (fun _ h9 => h9) rfl dX15_meanStrength_44 ?_
  refine lv_iload_n hx hb dX15_meanStrength_47 rfl (lv_at hl 1 rfl) ?_
  refine va_iald hx hb hK hP 1 0 rfl rfl (pk_in 3 9 (by decide) rfl) dX15_meanStrength_48 ?_
  refine kc_v (y := .int 900) rfl ?_
  refine lv_iadd hx hb dX15_meanStrength_49 ?_
  refine kc_i (y := 3600) (by decide +kernel) ?_
  refine lv_istore_n (lv' := [(2, .int 3600), (1, .int 4), (3, .int 3), (0, .ref mo)]) hx hb dX15_meanStrength_50 rfl hl (by decide) rfl (fun ls hl => ?_)
  refine lv_iinc (v := 4) (lv' := [(3, .int 4), (2, .int 3600), (1, .int 4), (0, .ref mo)]) hx hb dX15_meanStrength_51 hl (k := 2) rfl (by decide +kernel) (by decide) rfl (fun ls hl => ?_)
  refine lv_goto (tgt := 6) hx hb dX15_meanStrength_54 (by decide) ?_
  refine lv_iload_n hx hb dX15_meanStrength_6 rfl (lv_at hl 0 rfl) ?_
  refine lv_bipush (v := 9) hx hb dX15_meanStrength_7 (by decide) ?_
  refine lv_icmp_ge (tgt := 57) hx hb dX15_meanStrength_9 (by decide) (fun c_ => absurd c_ (by decide +kernel)) (fun _ => ?_)
  refine lv_iload_n hx hb dX15_meanStrength_12 rfl (lv_at hl 2 rfl) ?_
  refine lv_aload_n hx hb dX15_meanStrength_13 rfl (lv_at hl 3 rfl) ?_
  refine va_get (D := (dC, dI)) (ci := 19) (v := .ref pa) (C := RX15) (T := TX15) (N := 28) hx hb hts hiX15 hown hK hP 0 rfl rfl 14 (by decide) (hts (.fieldLink RX15 35 "SquareRigModel" "parted" "[Z") (by decide +kernel)) (fun _ h9 => h9) rfl dX15_meanStrength_14 ?_
  refine lv_iload_n hx hb dX15_meanStrength_17 rfl (lv_at hl 0 rfl) ?_
  refine va_zald hx hb hK hP 2 1 rfl rfl (pk_in 4 9 (by decide) rfl) dX15_meanStrength_18 ?_
  refine kc_v (y := .int 0) rfl ?_
  refine lv_if_eq (tgt := 26) hx hb dX15_meanStrength_19 (by decide) (fun _ => ?_) (fun c_ => absurd (by decide +kernel) c_)
  refine lv_iconst (v := 1) hx hb dX15_meanStrength_26 (by decide) ?_
  refine lv_iadd hx hb dX15_meanStrength_27 ?_
  refine kc_i (y := 5) (by decide +kernel) ?_
  refine lv_istore_n (lv' := [(1, .int 5), (3, .int 4), (2, .int 3600), (0, .ref mo)]) hx hb dX15_meanStrength_28 rfl hl (by decide) rfl (fun ls hl => ?_)
  refine lv_iload_n hx hb dX15_meanStrength_29 rfl (lv_at hl 2 rfl) ?_
  refine lv_aload_n hx hb dX15_meanStrength_30 rfl (lv_at hl 3 rfl) ?_
  refine va_get (D := (dC, dI)) (ci := 19) (v := .ref pa) (C := RX15) (T := TX15) (N := 28) hx hb hts hiX15 hown hK hP 0 rfl rfl 14 (by decide) (hts (.fieldLink RX15 35 "SquareRigModel" "parted" "[Z") (by decide +kernel)) (fun _ h9 => h9) rfl dX15_meanStrength_31 ?_
  refine lv_iload_n hx hb dX15_meanStrength_34 rfl (lv_at hl 1 rfl) ?_
  refine va_zald hx hb hK hP 2 1 rfl rfl (pk_in 4 9 (by decide) rfl) dX15_meanStrength_35 ?_
  refine kc_v (y := .int 0) rfl ?_
  refine lv_if_eq (tgt := 43) hx hb dX15_meanStrength_36 (by decide) (fun _ => ?_) (fun c_ => absurd (by decide +kernel) c_)
  refine lv_aload_n hx hb dX15_meanStrength_43 rfl (lv_at hl 3 rfl) ?_
  refine va_get (D := (dC, dI)) (ci := 19) (v := .ref st) (C := RX15) (T := TX15) (N := 28) hx hb hts hiX15 hown hK hP 0 rfl rfl 13 (by decide) (hts (.fieldLink RX15 32 "SquareRigModel" "strength" "[I") (by decide +kernel)) (fun _ h9 => h9) rfl dX15_meanStrength_44 ?_
  refine lv_iload_n hx hb dX15_meanStrength_47 rfl (lv_at hl 1 rfl) ?_
  refine va_iald hx hb hK hP 1 0 rfl rfl (pk_in 4 9 (by decide) rfl) dX15_meanStrength_48 ?_
  refine kc_v (y := .int 900) rfl ?_
  refine lv_iadd hx hb dX15_meanStrength_49 ?_
  refine kc_i (y := 4500) (by decide +kernel) ?_
  refine lv_istore_n (lv' := [(2, .int 4500), (1, .int 5), (3, .int 4), (0, .ref mo)]) hx hb dX15_meanStrength_50 rfl hl (by decide) rfl (fun ls hl => ?_)
  refine lv_iinc (v := 5) (lv' := [(3, .int 5), (2, .int 4500), (1, .int 5), (0, .ref mo)]) hx hb dX15_meanStrength_51 hl (k := 2) rfl (by decide +kernel) (by decide) rfl (fun ls hl => ?_)
  refine lv_goto (tgt := 6) hx hb dX15_meanStrength_54 (by decide) ?_
  refine lv_iload_n hx hb dX15_meanStrength_6 rfl (lv_at hl 0 rfl) ?_
  refine lv_bipush (v := 9) hx hb dX15_meanStrength_7 (by decide) ?_
  refine lv_icmp_ge (tgt := 57) hx hb dX15_meanStrength_9 (by decide) (fun c_ => absurd c_ (by decide +kernel)) (fun _ => ?_)
  refine lv_iload_n hx hb dX15_meanStrength_12 rfl (lv_at hl 2 rfl) ?_
  refine lv_aload_n hx hb dX15_meanStrength_13 rfl (lv_at hl 3 rfl) ?_
  refine va_get (D := (dC, dI)) (ci := 19) (v := .ref pa) (C := RX15) (T := TX15) (N := 28) hx hb hts hiX15 hown hK hP 0 rfl rfl 14 (by decide) (hts (.fieldLink RX15 35 "SquareRigModel" "parted" "[Z") (by decide +kernel)) (fun _ h9 => h9) rfl dX15_meanStrength_14 ?_
  refine lv_iload_n hx hb dX15_meanStrength_17 rfl (lv_at hl 0 rfl) ?_
  refine va_zald hx hb hK hP 2 1 rfl rfl (pk_in 5 9 (by decide) rfl) dX15_meanStrength_18 ?_
  refine kc_v (y := .int 0) rfl ?_
  refine lv_if_eq (tgt := 26) hx hb dX15_meanStrength_19 (by decide) (fun _ => ?_) (fun c_ => absurd (by decide +kernel) c_)
  refine lv_iconst (v := 1) hx hb dX15_meanStrength_26 (by decide) ?_
  refine lv_iadd hx hb dX15_meanStrength_27 ?_
  refine kc_i (y := 6) (by decide +kernel) ?_
  refine lv_istore_n (lv' := [(1, .int 6), (3, .int 5), (2, .int 4500), (0, .ref mo)]) hx hb dX15_meanStrength_28 rfl hl (by decide) rfl (fun ls hl => ?_)
  refine lv_iload_n hx hb dX15_meanStrength_29 rfl (lv_at hl 2 rfl) ?_
  refine lv_aload_n hx hb dX15_meanStrength_30 rfl (lv_at hl 3 rfl) ?_
  refine va_get (D := (dC, dI)) (ci := 19) (v := .ref pa) (C := RX15) (T := TX15) (N := 28) hx hb hts hiX15 hown hK hP 0 rfl rfl 14 (by decide) (hts (.fieldLink RX15 35 "SquareRigModel" "parted" "[Z") (by decide +kernel)) (fun _ h9 => h9) rfl dX15_meanStrength_31 ?_
  refine lv_iload_n hx hb dX15_meanStrength_34 rfl (lv_at hl 1 rfl) ?_
  refine va_zald hx hb hK hP 2 1 rfl rfl (pk_in 5 9 (by decide) rfl) dX15_meanStrength_35 ?_
  refine kc_v (y := .int 0) rfl ?_
  refine lv_if_eq (tgt := 43) hx hb dX15_meanStrength_36 (by decide) (fun _ => ?_) (fun c_ => absurd (by decide +kernel) c_)
  refine lv_aload_n hx hb dX15_meanStrength_43 rfl (lv_at hl 3 rfl) ?_
  refine va_get (D := (dC, dI)) (ci := 19) (v := .ref st) (C := RX15) (T := TX15) (N := 28) hx hb hts hiX15 hown hK hP 0 rfl rfl 13 (by decide) (hts (.fieldLink RX15 32 "SquareRigModel" "strength" "[I") (by decide +kernel)) (fun _ h9 => h9) rfl dX15_meanStrength_44 ?_
  refine lv_iload_n hx hb dX15_meanStrength_47 rfl (lv_at hl 1 rfl) ?_
  refine va_iald hx hb hK hP 1 0 rfl rfl (pk_in 5 9 (by decide) rfl) dX15_meanStrength_48 ?_
  refine kc_v (y := .int 900) rfl ?_
  refine lv_iadd hx hb dX15_meanStrength_49 ?_
  refine kc_i (y := 5400) (by decide +kernel) ?_
  refine lv_istore_n (lv' := [(2, .int 5400), (1, .int 6), (3, .int 5), (0, .ref mo)]) hx hb dX15_meanStrength_50 rfl hl (by decide) rfl (fun ls hl => ?_)
  refine lv_iinc (v := 6) (lv' := [(3, .int 6), (2, .int 5400), (1, .int 6), (0, .ref mo)]) hx hb dX15_meanStrength_51 hl (k := 2) rfl (by decide +kernel) (by decide) rfl (fun ls hl => ?_)
  refine lv_goto (tgt := 6) hx hb dX15_meanStrength_54 (by decide) ?_
  refine lv_iload_n hx hb dX15_meanStrength_6 rfl (lv_at hl 0 rfl) ?_
  refine lv_bipush (v := 9) hx hb dX15_meanStrength_7 (by decide) ?_
  refine lv_icmp_ge (tgt := 57) hx hb dX15_meanStrength_9 (by decide) (fun c_ => absurd c_ (by decide +kernel)) (fun _ => ?_)
  refine lv_iload_n hx hb dX15_meanStrength_12 rfl (lv_at hl 2 rfl) ?_
  refine lv_aload_n hx hb dX15_meanStrength_13 rfl (lv_at hl 3 rfl) ?_
  refine va_get (D := (dC, dI)) (ci := 19) (v := .ref pa) (C := RX15) (T := TX15) (N := 28) hx hb hts hiX15 hown hK hP 0 rfl rfl 14 (by decide) (hts (.fieldLink RX15 35 "SquareRigModel" "parted" "[Z") (by decide +kernel)) (fun _ h9 => h9) rfl dX15_meanStrength_14 ?_
  refine lv_iload_n hx hb dX15_meanStrength_17 rfl (lv_at hl 0 rfl) ?_
  refine va_zald hx hb hK hP 2 1 rfl rfl (pk_in 6 9 (by decide) rfl) dX15_meanStrength_18 ?_
  refine kc_v (y := .int 0) rfl ?_
  refine lv_if_eq (tgt := 26) hx hb dX15_meanStrength_19 (by decide) (fun _ => ?_) (fun c_ => absurd (by decide +kernel) c_)
  refine lv_iconst (v := 1) hx hb dX15_meanStrength_26 (by decide) ?_
  refine lv_iadd hx hb dX15_meanStrength_27 ?_
  refine kc_i (y := 7) (by decide +kernel) ?_
  refine lv_istore_n (lv' := [(1, .int 7), (3, .int 6), (2, .int 5400), (0, .ref mo)]) hx hb dX15_meanStrength_28 rfl hl (by decide) rfl (fun ls hl => ?_)
  refine lv_iload_n hx hb dX15_meanStrength_29 rfl (lv_at hl 2 rfl) ?_
  refine lv_aload_n hx hb dX15_meanStrength_30 rfl (lv_at hl 3 rfl) ?_
  refine va_get (D := (dC, dI)) (ci := 19) (v := .ref pa) (C := RX15) (T := TX15) (N := 28) hx hb hts hiX15 hown hK hP 0 rfl rfl 14 (by decide) (hts (.fieldLink RX15 35 "SquareRigModel" "parted" "[Z") (by decide +kernel)) (fun _ h9 => h9) rfl dX15_meanStrength_31 ?_
  refine lv_iload_n hx hb dX15_meanStrength_34 rfl (lv_at hl 1 rfl) ?_
  refine va_zald hx hb hK hP 2 1 rfl rfl (pk_in 6 9 (by decide) rfl) dX15_meanStrength_35 ?_
  refine kc_v (y := .int 0) rfl ?_
  refine lv_if_eq (tgt := 43) hx hb dX15_meanStrength_36 (by decide) (fun _ => ?_) (fun c_ => absurd (by decide +kernel) c_)
  refine lv_aload_n hx hb dX15_meanStrength_43 rfl (lv_at hl 3 rfl) ?_
  refine va_get (D := (dC, dI)) (ci := 19) (v := .ref st) (C := RX15) (T := TX15) (N := 28) hx hb hts hiX15 hown hK hP 0 rfl rfl 13 (by decide) (hts (.fieldLink RX15 32 "SquareRigModel" "strength" "[I") (by decide +kernel)) (fun _ h9 => h9) rfl dX15_meanStrength_44 ?_
  refine lv_iload_n hx hb dX15_meanStrength_47 rfl (lv_at hl 1 rfl) ?_
  refine va_iald hx hb hK hP 1 0 rfl rfl (pk_in 6 9 (by decide) rfl) dX15_meanStrength_48 ?_
  refine kc_v (y := .int 900) rfl ?_
  refine lv_iadd hx hb dX15_meanStrength_49 ?_
  refine kc_i (y := 6300) (by decide +kernel) ?_
  refine lv_istore_n (lv' := [(2, .int 6300), (1, .int 7), (3, .int 6), (0, .ref mo)]) hx hb dX15_meanStrength_50 rfl hl (by decide) rfl (fun ls hl => ?_)
  refine lv_iinc (v := 7) (lv' := [(3, .int 7), (2, .int 6300), (1, .int 7), (0, .ref mo)]) hx hb dX15_meanStrength_51 hl (k := 2) rfl (by decide +kernel) (by decide) rfl (fun ls hl => ?_)
  refine lv_goto (tgt := 6) hx hb dX15_meanStrength_54 (by decide) ?_
  refine lv_iload_n hx hb dX15_meanStrength_6 rfl (lv_at hl 0 rfl) ?_
  refine lv_bipush (v := 9) hx hb dX15_meanStrength_7 (by decide) ?_
  refine lv_icmp_ge (tgt := 57) hx hb dX15_meanStrength_9 (by decide) (fun c_ => absurd c_ (by decide +kernel)) (fun _ => ?_)
  refine lv_iload_n hx hb dX15_meanStrength_12 rfl (lv_at hl 2 rfl) ?_
  refine lv_aload_n hx hb dX15_meanStrength_13 rfl (lv_at hl 3 rfl) ?_
  refine va_get (D := (dC, dI)) (ci := 19) (v := .ref pa) (C := RX15) (T := TX15) (N := 28) hx hb hts hiX15 hown hK hP 0 rfl rfl 14 (by decide) (hts (.fieldLink RX15 35 "SquareRigModel" "parted" "[Z") (by decide +kernel)) (fun _ h9 => h9) rfl dX15_meanStrength_14 ?_
  refine lv_iload_n hx hb dX15_meanStrength_17 rfl (lv_at hl 0 rfl) ?_
  refine va_zald hx hb hK hP 2 1 rfl rfl (pk_in 7 9 (by decide) rfl) dX15_meanStrength_18 ?_
  refine kc_v (y := .int 0) rfl ?_
  refine lv_if_eq (tgt := 26) hx hb dX15_meanStrength_19 (by decide) (fun _ => ?_) (fun c_ => absurd (by decide +kernel) c_)
  refine lv_iconst (v := 1) hx hb dX15_meanStrength_26 (by decide) ?_
  refine lv_iadd hx hb dX15_meanStrength_27 ?_
  refine kc_i (y := 8) (by decide +kernel) ?_
  refine lv_istore_n (lv' := [(1, .int 8), (3, .int 7), (2, .int 6300), (0, .ref mo)]) hx hb dX15_meanStrength_28 rfl hl (by decide) rfl (fun ls hl => ?_)
  refine lv_iload_n hx hb dX15_meanStrength_29 rfl (lv_at hl 2 rfl) ?_
  refine lv_aload_n hx hb dX15_meanStrength_30 rfl (lv_at hl 3 rfl) ?_
  refine va_get (D := (dC, dI)) (ci := 19) (v := .ref pa) (C := RX15) (T := TX15) (N := 28) hx hb hts hiX15 hown hK hP 0 rfl rfl 14 (by decide) (hts (.fieldLink RX15 35 "SquareRigModel" "parted" "[Z") (by decide +kernel)) (fun _ h9 => h9) rfl dX15_meanStrength_31 ?_
  refine lv_iload_n hx hb dX15_meanStrength_34 rfl (lv_at hl 1 rfl) ?_
  refine va_zald hx hb hK hP 2 1 rfl rfl (pk_in 7 9 (by decide) rfl) dX15_meanStrength_35 ?_
  refine kc_v (y := .int 0) rfl ?_
  refine lv_if_eq (tgt := 43) hx hb dX15_meanStrength_36 (by decide) (fun _ => ?_) (fun c_ => absurd (by decide +kernel) c_)
  refine lv_aload_n hx hb dX15_meanStrength_43 rfl (lv_at hl 3 rfl) ?_
  refine va_get (D := (dC, dI)) (ci := 19) (v := .ref st) (C := RX15) (T := TX15) (N := 28) hx hb hts hiX15 hown hK hP 0 rfl rfl 13 (by decide) (hts (.fieldLink RX15 32 "SquareRigModel" "strength" "[I") (by decide +kernel)) (fun _ h9 => h9) rfl dX15_meanStrength_44 ?_
  refine lv_iload_n hx hb dX15_meanStrength_47 rfl (lv_at hl 1 rfl) ?_
  refine va_iald hx hb hK hP 1 0 rfl rfl (pk_in 7 9 (by decide) rfl) dX15_meanStrength_48 ?_
  refine kc_v (y := .int 900) rfl ?_
  refine lv_iadd hx hb dX15_meanStrength_49 ?_
  refine kc_i (y := 7200) (by decide +kernel) ?_
  refine lv_istore_n (lv' := [(2, .int 7200), (1, .int 8), (3, .int 7), (0, .ref mo)]) hx hb dX15_meanStrength_50 rfl hl (by decide) rfl (fun ls hl => ?_)
  refine lv_iinc (v := 8) (lv' := [(3, .int 8), (2, .int 7200), (1, .int 8), (0, .ref mo)]) hx hb dX15_meanStrength_51 hl (k := 2) rfl (by decide +kernel) (by decide) rfl (fun ls hl => ?_)
  refine lv_goto (tgt := 6) hx hb dX15_meanStrength_54 (by decide) ?_
  refine lv_iload_n hx hb dX15_meanStrength_6 rfl (lv_at hl 0 rfl) ?_
  refine lv_bipush (v := 9) hx hb dX15_meanStrength_7 (by decide) ?_
  refine lv_icmp_ge (tgt := 57) hx hb dX15_meanStrength_9 (by decide) (fun c_ => absurd c_ (by decide +kernel)) (fun _ => ?_)
  refine lv_iload_n hx hb dX15_meanStrength_12 rfl (lv_at hl 2 rfl) ?_
  refine lv_aload_n hx hb dX15_meanStrength_13 rfl (lv_at hl 3 rfl) ?_
  refine va_get (D := (dC, dI)) (ci := 19) (v := .ref pa) (C := RX15) (T := TX15) (N := 28) hx hb hts hiX15 hown hK hP 0 rfl rfl 14 (by decide) (hts (.fieldLink RX15 35 "SquareRigModel" "parted" "[Z") (by decide +kernel)) (fun _ h9 => h9) rfl dX15_meanStrength_14 ?_
  refine lv_iload_n hx hb dX15_meanStrength_17 rfl (lv_at hl 0 rfl) ?_
  refine va_zald hx hb hK hP 2 1 rfl rfl (pk_in 8 9 (by decide) rfl) dX15_meanStrength_18 ?_
  refine kc_v (y := .int 0) rfl ?_
  refine lv_if_eq (tgt := 26) hx hb dX15_meanStrength_19 (by decide) (fun _ => ?_) (fun c_ => absurd (by decide +kernel) c_)
  refine lv_iconst (v := 1) hx hb dX15_meanStrength_26 (by decide) ?_
  refine lv_iadd hx hb dX15_meanStrength_27 ?_
  refine kc_i (y := 9) (by decide +kernel) ?_
  refine lv_istore_n (lv' := [(1, .int 9), (3, .int 8), (2, .int 7200), (0, .ref mo)]) hx hb dX15_meanStrength_28 rfl hl (by decide) rfl (fun ls hl => ?_)
  refine lv_iload_n hx hb dX15_meanStrength_29 rfl (lv_at hl 2 rfl) ?_
  refine lv_aload_n hx hb dX15_meanStrength_30 rfl (lv_at hl 3 rfl) ?_
  refine va_get (D := (dC, dI)) (ci := 19) (v := .ref pa) (C := RX15) (T := TX15) (N := 28) hx hb hts hiX15 hown hK hP 0 rfl rfl 14 (by decide) (hts (.fieldLink RX15 35 "SquareRigModel" "parted" "[Z") (by decide +kernel)) (fun _ h9 => h9) rfl dX15_meanStrength_31 ?_
  refine lv_iload_n hx hb dX15_meanStrength_34 rfl (lv_at hl 1 rfl) ?_
  refine va_zald hx hb hK hP 2 1 rfl rfl (pk_in 8 9 (by decide) rfl) dX15_meanStrength_35 ?_
  refine kc_v (y := .int 0) rfl ?_
  refine lv_if_eq (tgt := 43) hx hb dX15_meanStrength_36 (by decide) (fun _ => ?_) (fun c_ => absurd (by decide +kernel) c_)
  refine lv_aload_n hx hb dX15_meanStrength_43 rfl (lv_at hl 3 rfl) ?_
  refine va_get (D := (dC, dI)) (ci := 19) (v := .ref st) (C := RX15) (T := TX15) (N := 28) hx hb hts hiX15 hown hK hP 0 rfl rfl 13 (by decide) (hts (.fieldLink RX15 32 "SquareRigModel" "strength" "[I") (by decide +kernel)) (fun _ h9 => h9) rfl dX15_meanStrength_44 ?_
  refine lv_iload_n hx hb dX15_meanStrength_47 rfl (lv_at hl 1 rfl) ?_
  refine va_iald hx hb hK hP 1 0 rfl rfl (pk_in 8 9 (by decide) rfl) dX15_meanStrength_48 ?_
  refine kc_v (y := .int 900) rfl ?_
  refine lv_iadd hx hb dX15_meanStrength_49 ?_
  refine kc_i (y := 8100) (by decide +kernel) ?_
  refine lv_istore_n (lv' := [(2, .int 8100), (1, .int 9), (3, .int 8), (0, .ref mo)]) hx hb dX15_meanStrength_50 rfl hl (by decide) rfl (fun ls hl => ?_)
  refine lv_iinc (v := 9) (lv' := [(3, .int 9), (2, .int 8100), (1, .int 9), (0, .ref mo)]) hx hb dX15_meanStrength_51 hl (k := 2) rfl (by decide +kernel) (by decide) rfl (fun ls hl => ?_)
  refine lv_goto (tgt := 6) hx hb dX15_meanStrength_54 (by decide) ?_
  refine lv_iload_n hx hb dX15_meanStrength_6 rfl (lv_at hl 0 rfl) ?_
  refine lv_bipush (v := 9) hx hb dX15_meanStrength_7 (by decide) ?_
  refine lv_icmp_ge (tgt := 57) hx hb dX15_meanStrength_9 (by decide) (fun _ => ?_) (fun c_ => absurd (by decide +kernel) c_)
  refine lv_aload_n hx hb dX15_meanStrength_57 rfl (lv_at hl 3 rfl) ?_
  refine lv_iload_n hx hb dX15_meanStrength_58 rfl (lv_at hl 2 rfl) ?_
  refine lv_if_ne (tgt := 66) hx hb dX15_meanStrength_59 (by decide) (fun _ => ?_) (fun c_ => absurd c_ (by decide +kernel))
  refine lv_iconst (v := 0) hx hb dX15_meanStrength_66 (by decide) ?_
  refine va_put (D := (dC, dI)) (ci := 19) (v := .int 0) (ty := .int) (C := RX15) (T := TX15) (N := 28) hx hb hts hiX15 tyX15 tyX15_ok nmX15 hown hK hP hD hS 0 rfl rfl 27 (by decide) (hts (.fieldLink RX15 45 "SquareRigModel" "thrown" "I") (by decide +kernel)) (fun _ h9 => h9) rfl (by decide +kernel) rfl rfl (Nat.le_of_ble_eq_true rfl) dX15_meanStrength_67 (fun H locs hP hD hS => ?_)
  have hP : va_P (dC, dI) vwCl [(mo, .inr (19, [.int 0, .int 0, .int 0, .int 0, .int 0, .int 0, .int 0, .ref ti, .ref si, .ref lo, .ref lh, .ref lk, .ref sp, .ref st, .ref pa, .ref br, .ref sg, .int 0, .int 0, .int 0, .int 0, .int 0, .int 0, .long 0, .long 0, .long 0, .long 0, .int 0])), (st, .inl (cst, 9, .inl (upd (upd (upd (upd (upd (upd (upd (upd (upd (fun _ => 0) 0 900) 1 900) 2 900) 3 900) 4 900) 5 900) 6 900) 7 900) 8 900))), (pa, .inl (cpa, 9, .inl (fun _ => 0)))] H := hP
  have hD : va_D A [(mo, .inr (19, [.int 0, .int 0, .int 0, .int 0, .int 0, .int 0, .int 0, .ref ti, .ref si, .ref lo, .ref lh, .ref lk, .ref sp, .ref st, .ref pa, .ref br, .ref sg, .int 0, .int 0, .int 0, .int 0, .int 0, .int 0, .long 0, .long 0, .long 0, .long 0, .int 0])), (st, .inl (cst, 9, .inl (upd (upd (upd (upd (upd (upd (upd (upd (upd (fun _ => 0) 0 900) 1 900) 2 900) 3 900) 4 900) 5 900) 6 900) 7 900) 8 900))), (pa, .inl (cpa, 9, .inl (fun _ => 0)))] := hD
  refine lv_aload_n hx hb dX15_meanStrength_70 rfl (lv_at hl 3 rfl) ?_
  refine va_get (D := (dC, dI)) (ci := 19) (v := .int 0) (C := RX15) (T := TX15) (N := 28) hx hb hts hiX15 hown hK hP 0 rfl rfl 27 (by decide) (hts (.fieldLink RX15 45 "SquareRigModel" "thrown" "I") (by decide +kernel)) (fun _ h9 => h9) rfl dX15_meanStrength_71 ?_
  refine lv_if_ne (tgt := 85) hx hb dX15_meanStrength_74 (by decide) (fun c_ => absurd (by decide +kernel) c_) (fun _ => ?_)
  refine lv_iload_n hx hb dX15_meanStrength_77 rfl (lv_at hl 1 rfl) ?_
  refine lv_i2d hx hb dX15_meanStrength_78 ?_
  refine kc_v (y := .double 4665628058886078464) (by decide +kernel) ?_
  refine lv_iload_n hx hb dX15_meanStrength_79 rfl (lv_at hl 2 rfl) ?_
  refine lv_i2d hx hb dX15_meanStrength_80 ?_
  refine kc_v (y := .double 4621256167635550208) (by decide +kernel) ?_
  refine lv_ddiv hx hb dX15_meanStrength_81 (by unfold vf_n64; decide +kernel) ?_
  refine kc_v (y := .double 4651127699538968576) (by decide +kernel) ?_
  refine lv_goto (tgt := 86) hx hb dX15_meanStrength_82 (by decide) ?_
  exact W.dret (v := 4651127699538968576) hx hb hr (fun t ht hW => ⟨⟨4651127699538968576, (), rfl, rfl, kB_end (w9 := [(mo, .inr (19, [.int 0, .int 0, .int 0, .int 0, .int 0, .int 0, .int 0, .ref ti, .ref si, .ref lo, .ref lh, .ref lk, .ref sp, .ref st, .ref pa, .ref br, .ref sg, .int 0, .int 0, .int 0, .int 0, .int 0, .int 0, .long 0, .long 0, .long 0, .long 0, .int 0]))]) (t9 := []) hP hK hD [0] [] rfl (by decide) rfl rfl t ht hW⟩, hS.F ht⟩) hS.2.2 dX15_meanStrength_86
abbrev wd_k_m_wind_good (z : Nat → Nat) (p0 : Int32) (p1 : Int32) (mo : Nat) (ti : Nat) (si : Nat) (lo : Nat) (lh : Nat) (lk : Nat) (sp : Nat) (st : Nat) (pa : Nat) (br : Nat) (sg : Nat) (th : Int32) : va_W := [(mo, .inr (19, [.int 0, .int 0, .int 0, .int 0, .int 0, .int 0, .int 0, .ref ti, .ref si, .ref lo, .ref lh, .ref lk, .ref sp, .ref st, .ref pa, .ref br, .ref sg, .int 0, .int 0, .int 0, .int 0, .int 0, .int 0, .long 0, .long 0, .long 0, .long 0, .int th]))]
set_option maxHeartbeats 4000000 in
set_option maxRecDepth 100000 in
theorem k_m_wind_good (l : Launch) (dC : Nat → ClassId) (dI : Nat → Nat → Nat) (z zK zV : Nat → Nat) (p0 : Int32) (p1 : Int32) (mo : Nat) (ti : Nat) (si : Nat) (lo : Nat) (lh : Nat) (lk : Nat) (sp : Nat) (st : Nat) (pa : Nat) (br : Nat) (sg : Nat) (th : Int32) (sz : Nat) (hg0 : ((0 : Int32) ≤ p0 ∧ p0 ≤ 31) ∧ (0 : Int32) ≤ p1 ∧ p1 ≤ 12) : Met l yX15_wind wsX15_wind ({ frames := 1, cells := 0, slots := 0, locals := 25 }) (kP dC dI z zK zV [.ref mo, .int p0, .int p1] sz (wd_k_m_wind_good z p0 p1 mo ti si lo lh lk sp st pa br sg th) []) (va_Qi (fun (r : Int32) (_ : Unit) => 0 = r) (fun _ t => kB (dC, dI) (va_A (wd_k_m_wind_good z p0 p1 mo ti si lo lh lk sp st pa br sg th) sz) [(mo, .inr (19, [.int p0, .int p1, .int 0, .int 0, .int 0, .int 0, .int 0, .ref ti, .ref si, .ref lo, .ref lh, .ref lk, .ref sp, .ref st, .ref pa, .ref br, .ref sg, .int 0, .int 0, .int 0, .int 0, .int 0, .int 0, .long 0, .long 0, .long 0, .long 0, .int 0]))] [] t) (va_A (wd_k_m_wind_good z p0 p1 mo ti si lo lh lk sp st pa br sg th) sz)) 0 0 (va_A (wd_k_m_wind_good z p0 p1 mo ti si lo lh lk sp st pa br sg th) sz) := by
  refine Met.ofW (cc := cX15_wind) (maxL := 4) (ret := (some .int)) (by decide) rfl ?_
  intro p e s m args below meth c s₁ B hml hv
  obtain ⟨rfl, hsz, hP, hK, hD0, hM⟩ := hv
  have hx := B.exec
  have hb := B.bytes
  have hr := B.returns
  have hts := atoms_spec (ws := wsX15_wind) B.pre
  have hown : s.vm.findClass RX15 = some m.cls := findClass_of_methodNamed B.named
  have hlocks := B.notSynchronized
  have hiX15 : ∀ w ∈ u_ws RX15 TX15 28, w ∈ wsX15_wind := by decide +kernel
  subst hsz
  have hD := hD0.self (sz := s.heap.size)
  generalize hAe : va_A (wd_k_m_wind_good z p0 p1 mo ti si lo lh lk sp st pa br sg th) s.heap.size = A at hD hM ⊢
  have hA : ∀ q : Nat, s.heap.size ≤ q → A q := fun q h => by rw [← hAe]; exact Or.inr h
  have hS : va_S A s.heap s.heap [] := va_S.rf
  have hP : va_P (dC, dI) vwCl [(mo, .inr (19, [.int 0, .int 0, .int 0, .int 0, .int 0, .int 0, .int 0, .ref ti, .ref si, .ref lo, .ref lh, .ref lk, .ref sp, .ref st, .ref pa, .ref br, .ref sg, .int 0, .int 0, .int 0, .int 0, .int 0, .int 0, .long 0, .long 0, .long 0, .long 0, .int th]))] s.heap := hP
  have hD : va_D A [(mo, .inr (19, [.int 0, .int 0, .int 0, .int 0, .int 0, .int 0, .int 0, .ref ti, .ref si, .ref lo, .ref lh, .ref lk, .ref sp, .ref st, .ref pa, .ref br, .ref sg, .int 0, .int 0, .int 0, .int 0, .int 0, .int 0, .long 0, .long 0, .long 0, .long 0, .int th]))] := hD
  have hl := lv_entry ([.ref mo, .int p0, .int p1]) (n := 4) (Nat.le_of_ble_eq_true rfl)
  rw [lg_entry_eq]
  generalize (lg_sl ([.ref mo, .int p0, .int p1]) ++ List.replicate (4 - (lg_sl ([.ref mo, .int p0, .int p1])).length) Slot.unset).toArray = ls at hl ⊢
  have hl : lv_has ls 4 [(0, .ref mo), (1, .int p0), (2, .int p1)] := hl
  refine lv_aload_n hx hb dX15_wind_0 rfl (lv_at hl 0 rfl) ?_
  refine lv_iload_n hx hb dX15_wind_1 rfl (lv_at hl 1 rfl) ?_
  refine lv_i2l (v := p0.toInt64) hx hb dX15_wind_2 rfl ?_
  refine lv_lconst (v := 0) hx hb dX15_wind_3 (by decide) ?_
  refine lv_ldc2 (v := 31) hx hb hown (hts (.constantLong RX15 118 31) (by decide +kernel)) dX15_wind_4 ?_
  have hPc := hP.sub (ws' := []) [] rfl
  have hDc := hD.sub (ws' := []) [] (by decide) rfl
  have hKc := hK.sub (tys' := []) [] rfl
  have hFc := va_free (wc := []) hD hS hA [] rfl
  refine va_calli (va_runS (As := [.long p0.toInt64, .long 0, .long 31]) (rest := [.ref mo]) ⟨hx, hb, hml, hown, hts⟩ (k_in l dC dI z zK zV p0.toInt64 0 31 s.heap.size) (va_cwS 3 hts gX15_wind_X15_in rfl rfl rfl (by decide +kernel) ⟨Nat.le_of_ble_eq_true rfl, Nat.le_of_ble_eq_true rfl⟩) ⟨kP_blind, kP_go hPc hKc hDc hFc hM hS⟩ rfl rfl hl.1 rfl (lv_room (Nat.le_of_ble_eq_true rfl)) dX15_wind_7 ⟨Nat.le_of_ble_eq_true rfl, Nat.le_of_ble_eq_true rfl⟩) hS (fun q _ h => hFc q h) hFc (fun r1 u t H1 locs ht hvm hw hB hz1 hk1 hS => ?_)
  obtain ⟨hP, hD, hK⟩ := kJ (wr := [(mo, .inr (19, [.int 0, .int 0, .int 0, .int 0, .int 0, .int 0, .int 0, .ref ti, .ref si, .ref lo, .ref lh, .ref lk, .ref sp, .ref st, .ref pa, .ref br, .ref sg, .int 0, .int 0, .int 0, .int 0, .int 0, .int 0, .long 0, .long 0, .long 0, .long 0, .int th]))]) (w1 := []) (t1 := []) hP hD hK [] [0] rfl rfl (by decide) (by decide) hk1 hFc ht hvm hB
  generalize H1 = H at hP hS ⊢
  have hP : va_P (dC, dI) vwCl [(mo, .inr (19, [.int 0, .int 0, .int 0, .int 0, .int 0, .int 0, .int 0, .ref ti, .ref si, .ref lo, .ref lh, .ref lk, .ref sp, .ref st, .ref pa, .ref br, .ref sg, .int 0, .int 0, .int 0, .int 0, .int 0, .int 0, .long 0, .long 0, .long 0, .long 0, .int th]))] H := hP
  have hD : va_D A [(mo, .inr (19, [.int 0, .int 0, .int 0, .int 0, .int 0, .int 0, .int 0, .ref ti, .ref si, .ref lo, .ref lh, .ref lk, .ref sp, .ref st, .ref pa, .ref br, .ref sg, .int 0, .int 0, .int 0, .int 0, .int 0, .int 0, .long 0, .long 0, .long 0, .long 0, .int th]))] := hD
  have hK : va_K (dC, dI) vwCl [] s := hK
  obtain rfl : (if 0 ≤ (p0.toInt64) ∧ (p0.toInt64) ≤ 31 then (1 : Int32) else 0) = r1 := hw
  refine kc_i (y := (if 0 ≤ p0 ∧ p0 ≤ 31 then (1 : Int32) else 0)) (k_inP (a := 0) (b := 31) (by decide +kernel) (by decide +kernel)) ?_
  refine lv_if_eq (tgt := 25) hx hb dX15_wind_10 (by decide) (fun c_ => absurd c_ (k_ifp hg0.1)) (fun _ => ?_)
  refine lv_iload_n hx hb dX15_wind_13 rfl (lv_at hl 2 rfl) ?_
  refine lv_i2l (v := p1.toInt64) hx hb dX15_wind_14 rfl ?_
  refine lv_lconst (v := 0) hx hb dX15_wind_15 (by decide) ?_
  refine lv_ldc2 (v := 12) hx hb hown (hts (.constantLong RX15 124 12) (by decide +kernel)) dX15_wind_16 ?_
  have hPc := hP.sub (ws' := []) [] rfl
  have hDc := hD.sub (ws' := []) [] (by decide) rfl
  have hKc := hK.sub (tys' := []) [] rfl
  have hFc := va_free (wc := []) hD hS hA [] rfl
  refine va_calli (va_runS (As := [.long p1.toInt64, .long 0, .long 12]) (rest := [.ref mo]) ⟨hx, hb, hml, hown, hts⟩ (k_in l dC dI z zK zV p1.toInt64 0 12 H.size) (va_cwS 3 hts gX15_wind_X15_in rfl rfl rfl (by decide +kernel) ⟨Nat.le_of_ble_eq_true rfl, Nat.le_of_ble_eq_true rfl⟩) ⟨kP_blind, kP_go hPc hKc hDc hFc hM hS⟩ rfl rfl hl.1 rfl (lv_room (Nat.le_of_ble_eq_true rfl)) dX15_wind_19 ⟨Nat.le_of_ble_eq_true rfl, Nat.le_of_ble_eq_true rfl⟩) hS (fun q _ h => hFc q h) hFc (fun r2 u t H1 locs ht hvm hw hB hz1 hk1 hS => ?_)
  obtain ⟨hP, hD, hK⟩ := kJ (wr := [(mo, .inr (19, [.int 0, .int 0, .int 0, .int 0, .int 0, .int 0, .int 0, .ref ti, .ref si, .ref lo, .ref lh, .ref lk, .ref sp, .ref st, .ref pa, .ref br, .ref sg, .int 0, .int 0, .int 0, .int 0, .int 0, .int 0, .long 0, .long 0, .long 0, .long 0, .int th]))]) (w1 := []) (t1 := []) hP hD hK [] [0] rfl rfl (by decide) (by decide) hk1 hFc ht hvm hB
  generalize H1 = H at hP hS ⊢
  have hP : va_P (dC, dI) vwCl [(mo, .inr (19, [.int 0, .int 0, .int 0, .int 0, .int 0, .int 0, .int 0, .ref ti, .ref si, .ref lo, .ref lh, .ref lk, .ref sp, .ref st, .ref pa, .ref br, .ref sg, .int 0, .int 0, .int 0, .int 0, .int 0, .int 0, .long 0, .long 0, .long 0, .long 0, .int th]))] H := hP
  have hD : va_D A [(mo, .inr (19, [.int 0, .int 0, .int 0, .int 0, .int 0, .int 0, .int 0, .ref ti, .ref si, .ref lo, .ref lh, .ref lk, .ref sp, .ref st, .ref pa, .ref br, .ref sg, .int 0, .int 0, .int 0, .int 0, .int 0, .int 0, .long 0, .long 0, .long 0, .long 0, .int th]))] := hD
  have hK : va_K (dC, dI) vwCl [] s := hK
  obtain rfl : (if 0 ≤ (p1.toInt64) ∧ (p1.toInt64) ≤ 12 then (1 : Int32) else 0) = r2 := hw
  refine kc_i (y := (if 0 ≤ p1 ∧ p1 ≤ 12 then (1 : Int32) else 0)) (k_inP (a := 0) (b := 12) (by decide +kernel) (by decide +kernel)) ?_
  refine lv_if_ne (tgt := 29) hx hb dX15_wind_22 (by decide) (fun _ => ?_) (fun c_ => absurd c_ (k_ifp hg0.2))
  refine lv_iconst (v := 0) hx hb dX15_wind_29 (by decide) ?_
  refine va_put (D := (dC, dI)) (ci := 19) (v := .int 0) (ty := .int) (C := RX15) (T := TX15) (N := 28) hx hb hts hiX15 tyX15 tyX15_ok nmX15 hown hK hP hD hS 0 rfl rfl 27 (by decide) (hts (.fieldLink RX15 45 "SquareRigModel" "thrown" "I") (by decide +kernel)) (fun _ h9 => h9) rfl (by decide +kernel) rfl rfl (Nat.le_of_ble_eq_true rfl) dX15_wind_30 (fun H locs hP hD hS => ?_)
  have hP : va_P (dC, dI) vwCl [(mo, .inr (19, [.int 0, .int 0, .int 0, .int 0, .int 0, .int 0, .int 0, .ref ti, .ref si, .ref lo, .ref lh, .ref lk, .ref sp, .ref st, .ref pa, .ref br, .ref sg, .int 0, .int 0, .int 0, .int 0, .int 0, .int 0, .long 0, .long 0, .long 0, .long 0, .int 0]))] H := hP
  have hD : va_D A [(mo, .inr (19, [.int 0, .int 0, .int 0, .int 0, .int 0, .int 0, .int 0, .ref ti, .ref si, .ref lo, .ref lh, .ref lk, .ref sp, .ref st, .ref pa, .ref br, .ref sg, .int 0, .int 0, .int 0, .int 0, .int 0, .int 0, .long 0, .long 0, .long 0, .long 0, .int 0]))] := hD
  refine lv_aload_n hx hb dX15_wind_33 rfl (lv_at hl 0 rfl) ?_
  refine va_get (D := (dC, dI)) (ci := 19) (v := .int 0) (C := RX15) (T := TX15) (N := 28) hx hb hts hiX15 hown hK hP 0 rfl rfl 27 (by decide) (hts (.fieldLink RX15 45 "SquareRigModel" "thrown" "I") (by decide +kernel)) (fun _ h9 => h9) rfl dX15_wind_34 ?_
  refine lv_if_le (tgt := 42) hx hb dX15_wind_37 (by decide) (fun _ => ?_) (fun c_ => absurd (by decide +kernel) c_)
  refine lv_aload_n hx hb dX15_wind_42 rfl (lv_at hl 0 rfl) ?_
  refine va_get (D := (dC, dI)) (ci := 19) (v := .int 0) (C := RX15) (T := TX15) (N := 28) hx hb hts hiX15 hown hK hP 0 rfl rfl 1 (by decide) (hts (.fieldLink RX15 109 "SquareRigModel" "wind" "I") (by decide +kernel)) (fun _ h9 => h9) rfl dX15_wind_43 ?_
  refine lv_istore_n (lv' := [(3, .int 0), (0, .ref mo), (1, .int p0), (2, .int p1)]) hx hb dX15_wind_46 rfl hl (by decide) rfl (fun ls hl => ?_)
  refine lv_aload_n hx hb dX15_wind_47 rfl (lv_at hl 1 rfl) ?_
  refine lv_iload_n hx hb dX15_wind_48 rfl (lv_at hl 2 rfl) ?_
  refine va_put (D := (dC, dI)) (ci := 19) (v := .int p0) (ty := .int) (C := RX15) (T := TX15) (N := 28) hx hb hts hiX15 tyX15 tyX15_ok nmX15 hown hK hP hD hS 0 rfl rfl 0 (by decide) (hts (.fieldLink RX15 65 "SquareRigModel" "from" "I") (by decide +kernel)) (fun _ h9 => h9) rfl (by decide +kernel) rfl rfl (Nat.le_of_ble_eq_true rfl) dX15_wind_49 (fun H locs hP hD hS => ?_)
  have hP : va_P (dC, dI) vwCl [(mo, .inr (19, [.int p0, .int 0, .int 0, .int 0, .int 0, .int 0, .int 0, .ref ti, .ref si, .ref lo, .ref lh, .ref lk, .ref sp, .ref st, .ref pa, .ref br, .ref sg, .int 0, .int 0, .int 0, .int 0, .int 0, .int 0, .long 0, .long 0, .long 0, .long 0, .int 0]))] H := hP
  have hD : va_D A [(mo, .inr (19, [.int p0, .int 0, .int 0, .int 0, .int 0, .int 0, .int 0, .ref ti, .ref si, .ref lo, .ref lh, .ref lk, .ref sp, .ref st, .ref pa, .ref br, .ref sg, .int 0, .int 0, .int 0, .int 0, .int 0, .int 0, .long 0, .long 0, .long 0, .long 0, .int 0]))] := hD
  refine lv_aload_n hx hb dX15_wind_52 rfl (lv_at hl 1 rfl) ?_
  refine lv_iload_n hx hb dX15_wind_53 rfl (lv_at hl 3 rfl) ?_
  refine va_put (D := (dC, dI)) (ci := 19) (v := .int p1) (ty := .int) (C := RX15) (T := TX15) (N := 28) hx hb hts hiX15 tyX15 tyX15_ok nmX15 hown hK hP hD hS 0 rfl rfl 1 (by decide) (hts (.fieldLink RX15 109 "SquareRigModel" "wind" "I") (by decide +kernel)) (fun _ h9 => h9) rfl (by decide +kernel) rfl rfl (Nat.le_of_ble_eq_true rfl) dX15_wind_54 (fun H locs hP hD hS => ?_)
  have hP : va_P (dC, dI) vwCl [(mo, .inr (19, [.int p0, .int p1, .int 0, .int 0, .int 0, .int 0, .int 0, .ref ti, .ref si, .ref lo, .ref lh, .ref lk, .ref sp, .ref st, .ref pa, .ref br, .ref sg, .int 0, .int 0, .int 0, .int 0, .int 0, .int 0, .long 0, .long 0, .long 0, .long 0, .int 0]))] H := hP
  have hD : va_D A [(mo, .inr (19, [.int p0, .int p1, .int 0, .int 0, .int 0, .int 0, .int 0, .ref ti, .ref si, .ref lo, .ref lh, .ref lk, .ref sp, .ref st, .ref pa, .ref br, .ref sg, .int 0, .int 0, .int 0, .int 0, .int 0, .int 0, .long 0, .long 0, .long 0, .long 0, .int 0]))] := hD
  refine lv_iload_n hx hb dX15_wind_57 rfl (lv_at hl 0 rfl) ?_
  exact W.iret (v := 0) hx hb hr (fun t ht hW => ⟨⟨0, (), rfl, rfl, kB_end (w9 := [(mo, .inr (19, [.int p0, .int p1, .int 0, .int 0, .int 0, .int 0, .int 0, .ref ti, .ref si, .ref lo, .ref lh, .ref lk, .ref sp, .ref st, .ref pa, .ref br, .ref sg, .int 0, .int 0, .int 0, .int 0, .int 0, .int 0, .long 0, .long 0, .long 0, .long 0, .int 0]))]) (t9 := []) hP hK hD [0] [] rfl (by decide) rfl rfl t ht hW⟩, hS.F ht⟩) hS.2.2 dX15_wind_58
abbrev wd_k_m_wind_bad (z : Nat → Nat) (p0 : Int32) (p1 : Int32) (mo : Nat) (ti : Nat) (si : Nat) (lo : Nat) (lh : Nat) (lk : Nat) (sp : Nat) (st : Nat) (pa : Nat) (br : Nat) (sg : Nat) (th : Int32) : va_W := [(mo, .inr (19, [.int 0, .int 0, .int 0, .int 0, .int 0, .int 0, .int 0, .ref ti, .ref si, .ref lo, .ref lh, .ref lk, .ref sp, .ref st, .ref pa, .ref br, .ref sg, .int 0, .int 0, .int 0, .int 0, .int 0, .int 0, .long 0, .long 0, .long 0, .long 0, .int th]))]
set_option maxHeartbeats 4000000 in
set_option maxRecDepth 100000 in
theorem k_m_wind_bad (l : Launch) (dC : Nat → ClassId) (dI : Nat → Nat → Nat) (z zK zV : Nat → Nat) (p0 : Int32) (p1 : Int32) (mo : Nat) (ti : Nat) (si : Nat) (lo : Nat) (lh : Nat) (lk : Nat) (sp : Nat) (st : Nat) (pa : Nat) (br : Nat) (sg : Nat) (th : Int32) (sz : Nat) (hb0 : ¬ (((0 : Int32) ≤ p0 ∧ p0 ≤ 31) ∧ (0 : Int32) ≤ p1 ∧ p1 ≤ 12)) : Met l yX15_wind wsX15_wind ({ frames := 1, cells := 0, slots := 0, locals := 25 }) (kP dC dI z zK zV [.ref mo, .int p0, .int p1] sz (wd_k_m_wind_bad z p0 p1 mo ti si lo lh lk sp st pa br sg th) []) (va_Qi (fun (r : Int32) (_ : Unit) => (-1) = r) (fun _ t => kB (dC, dI) (va_A (wd_k_m_wind_bad z p0 p1 mo ti si lo lh lk sp st pa br sg th) sz) [(mo, .inr (19, [.int 0, .int 0, .int 0, .int 0, .int 0, .int 0, .int 0, .ref ti, .ref si, .ref lo, .ref lh, .ref lk, .ref sp, .ref st, .ref pa, .ref br, .ref sg, .int 0, .int 0, .int 0, .int 0, .int 0, .int 0, .long 0, .long 0, .long 0, .long 0, .int 1]))] [] t) (va_A (wd_k_m_wind_bad z p0 p1 mo ti si lo lh lk sp st pa br sg th) sz)) 0 0 (va_A (wd_k_m_wind_bad z p0 p1 mo ti si lo lh lk sp st pa br sg th) sz) := by
  refine Met.ofW (cc := cX15_wind) (maxL := 4) (ret := (some .int)) (by decide) rfl ?_
  intro p e s m args below meth c s₁ B hml hv
  obtain ⟨rfl, hsz, hP, hK, hD0, hM⟩ := hv
  have hx := B.exec
  have hb := B.bytes
  have hr := B.returns
  have hts := atoms_spec (ws := wsX15_wind) B.pre
  have hown : s.vm.findClass RX15 = some m.cls := findClass_of_methodNamed B.named
  have hlocks := B.notSynchronized
  have hiX15 : ∀ w ∈ u_ws RX15 TX15 28, w ∈ wsX15_wind := by decide +kernel
  subst hsz
  have hD := hD0.self (sz := s.heap.size)
  generalize hAe : va_A (wd_k_m_wind_bad z p0 p1 mo ti si lo lh lk sp st pa br sg th) s.heap.size = A at hD hM ⊢
  have hA : ∀ q : Nat, s.heap.size ≤ q → A q := fun q h => by rw [← hAe]; exact Or.inr h
  have hS : va_S A s.heap s.heap [] := va_S.rf
  have hP : va_P (dC, dI) vwCl [(mo, .inr (19, [.int 0, .int 0, .int 0, .int 0, .int 0, .int 0, .int 0, .ref ti, .ref si, .ref lo, .ref lh, .ref lk, .ref sp, .ref st, .ref pa, .ref br, .ref sg, .int 0, .int 0, .int 0, .int 0, .int 0, .int 0, .long 0, .long 0, .long 0, .long 0, .int th]))] s.heap := hP
  have hD : va_D A [(mo, .inr (19, [.int 0, .int 0, .int 0, .int 0, .int 0, .int 0, .int 0, .ref ti, .ref si, .ref lo, .ref lh, .ref lk, .ref sp, .ref st, .ref pa, .ref br, .ref sg, .int 0, .int 0, .int 0, .int 0, .int 0, .int 0, .long 0, .long 0, .long 0, .long 0, .int th]))] := hD
  have hl := lv_entry ([.ref mo, .int p0, .int p1]) (n := 4) (Nat.le_of_ble_eq_true rfl)
  rw [lg_entry_eq]
  generalize (lg_sl ([.ref mo, .int p0, .int p1]) ++ List.replicate (4 - (lg_sl ([.ref mo, .int p0, .int p1])).length) Slot.unset).toArray = ls at hl ⊢
  have hl : lv_has ls 4 [(0, .ref mo), (1, .int p0), (2, .int p1)] := hl
  refine lv_aload_n hx hb dX15_wind_0 rfl (lv_at hl 0 rfl) ?_
  refine lv_iload_n hx hb dX15_wind_1 rfl (lv_at hl 1 rfl) ?_
  refine lv_i2l (v := p0.toInt64) hx hb dX15_wind_2 rfl ?_
  refine lv_lconst (v := 0) hx hb dX15_wind_3 (by decide) ?_
  refine lv_ldc2 (v := 31) hx hb hown (hts (.constantLong RX15 118 31) (by decide +kernel)) dX15_wind_4 ?_
  have hPc := hP.sub (ws' := []) [] rfl
  have hDc := hD.sub (ws' := []) [] (by decide) rfl
  have hKc := hK.sub (tys' := []) [] rfl
  have hFc := va_free (wc := []) hD hS hA [] rfl
  refine va_calli (va_runS (As := [.long p0.toInt64, .long 0, .long 31]) (rest := [.ref mo]) ⟨hx, hb, hml, hown, hts⟩ (k_in l dC dI z zK zV p0.toInt64 0 31 s.heap.size) (va_cwS 3 hts gX15_wind_X15_in rfl rfl rfl (by decide +kernel) ⟨Nat.le_of_ble_eq_true rfl, Nat.le_of_ble_eq_true rfl⟩) ⟨kP_blind, kP_go hPc hKc hDc hFc hM hS⟩ rfl rfl hl.1 rfl (lv_room (Nat.le_of_ble_eq_true rfl)) dX15_wind_7 ⟨Nat.le_of_ble_eq_true rfl, Nat.le_of_ble_eq_true rfl⟩) hS (fun q _ h => hFc q h) hFc (fun r1 u t H1 locs ht hvm hw hB hz1 hk1 hS => ?_)
  obtain ⟨hP, hD, hK⟩ := kJ (wr := [(mo, .inr (19, [.int 0, .int 0, .int 0, .int 0, .int 0, .int 0, .int 0, .ref ti, .ref si, .ref lo, .ref lh, .ref lk, .ref sp, .ref st, .ref pa, .ref br, .ref sg, .int 0, .int 0, .int 0, .int 0, .int 0, .int 0, .long 0, .long 0, .long 0, .long 0, .int th]))]) (w1 := []) (t1 := []) hP hD hK [] [0] rfl rfl (by decide) (by decide) hk1 hFc ht hvm hB
  generalize H1 = H at hP hS ⊢
  have hP : va_P (dC, dI) vwCl [(mo, .inr (19, [.int 0, .int 0, .int 0, .int 0, .int 0, .int 0, .int 0, .ref ti, .ref si, .ref lo, .ref lh, .ref lk, .ref sp, .ref st, .ref pa, .ref br, .ref sg, .int 0, .int 0, .int 0, .int 0, .int 0, .int 0, .long 0, .long 0, .long 0, .long 0, .int th]))] H := hP
  have hD : va_D A [(mo, .inr (19, [.int 0, .int 0, .int 0, .int 0, .int 0, .int 0, .int 0, .ref ti, .ref si, .ref lo, .ref lh, .ref lk, .ref sp, .ref st, .ref pa, .ref br, .ref sg, .int 0, .int 0, .int 0, .int 0, .int 0, .int 0, .long 0, .long 0, .long 0, .long 0, .int th]))] := hD
  have hK : va_K (dC, dI) vwCl [] s := hK
  obtain rfl : (if 0 ≤ (p0.toInt64) ∧ (p0.toInt64) ≤ 31 then (1 : Int32) else 0) = r1 := hw
  refine kc_i (y := (if 0 ≤ p0 ∧ p0 ≤ 31 then (1 : Int32) else 0)) (k_inP (a := 0) (b := 31) (by decide +kernel) (by decide +kernel)) ?_
  refine lv_if_eq (tgt := 25) hx hb dX15_wind_10 (by decide) (fun c2 => ?_) (fun c2 => ?_)
  · skip
    refine lv_iconst (v := 1) hx hb dX15_wind_25 (by decide) ?_
    refine lv_goto (tgt := 30) hx hb dX15_wind_26 (by decide) ?_
    refine va_put (D := (dC, dI)) (ci := 19) (v := .int 1) (ty := .int) (C := RX15) (T := TX15) (N := 28) hx hb hts hiX15 tyX15 tyX15_ok nmX15 hown hK hP hD hS 0 rfl rfl 27 (by decide) (hts (.fieldLink RX15 45 "SquareRigModel" "thrown" "I") (by decide +kernel)) (fun _ h9 => h9) rfl (by decide +kernel) rfl rfl (Nat.le_of_ble_eq_true rfl) dX15_wind_30 (fun H locs hP hD hS => ?_)
    have hP : va_P (dC, dI) vwCl [(mo, .inr (19, [.int 0, .int 0, .int 0, .int 0, .int 0, .int 0, .int 0, .ref ti, .ref si, .ref lo, .ref lh, .ref lk, .ref sp, .ref st, .ref pa, .ref br, .ref sg, .int 0, .int 0, .int 0, .int 0, .int 0, .int 0, .long 0, .long 0, .long 0, .long 0, .int 1]))] H := hP
    have hD : va_D A [(mo, .inr (19, [.int 0, .int 0, .int 0, .int 0, .int 0, .int 0, .int 0, .ref ti, .ref si, .ref lo, .ref lh, .ref lk, .ref sp, .ref st, .ref pa, .ref br, .ref sg, .int 0, .int 0, .int 0, .int 0, .int 0, .int 0, .long 0, .long 0, .long 0, .long 0, .int 1]))] := hD
    refine lv_aload_n hx hb dX15_wind_33 rfl (lv_at hl 0 rfl) ?_
    refine va_get (D := (dC, dI)) (ci := 19) (v := .int 1) (C := RX15) (T := TX15) (N := 28) hx hb hts hiX15 hown hK hP 0 rfl rfl 27 (by decide) (hts (.fieldLink RX15 45 "SquareRigModel" "thrown" "I") (by decide +kernel)) (fun _ h9 => h9) rfl dX15_wind_34 ?_
    refine lv_if_le (tgt := 42) hx hb dX15_wind_37 (by decide) (fun c_ => absurd c_ (by decide +kernel)) (fun _ => ?_)
    refine lv_iconst (v := (-1)) hx hb dX15_wind_40 (by decide) ?_
    exact W.iret (v := (-1)) hx hb hr (fun t ht hW => ⟨⟨(-1), (), rfl, rfl, kB_end (w9 := [(mo, .inr (19, [.int 0, .int 0, .int 0, .int 0, .int 0, .int 0, .int 0, .ref ti, .ref si, .ref lo, .ref lh, .ref lk, .ref sp, .ref st, .ref pa, .ref br, .ref sg, .int 0, .int 0, .int 0, .int 0, .int 0, .int 0, .long 0, .long 0, .long 0, .long 0, .int 1]))]) (t9 := []) hP hK hD [0] [] rfl (by decide) rfl rfl t ht hW⟩, hS.F ht⟩) hS.2.2 dX15_wind_41
  · skip
    refine lv_iload_n hx hb dX15_wind_13 rfl (lv_at hl 2 rfl) ?_
    refine lv_i2l (v := p1.toInt64) hx hb dX15_wind_14 rfl ?_
    refine lv_lconst (v := 0) hx hb dX15_wind_15 (by decide) ?_
    refine lv_ldc2 (v := 12) hx hb hown (hts (.constantLong RX15 124 12) (by decide +kernel)) dX15_wind_16 ?_
    have hPc := hP.sub (ws' := []) [] rfl
    have hDc := hD.sub (ws' := []) [] (by decide) rfl
    have hKc := hK.sub (tys' := []) [] rfl
    have hFc := va_free (wc := []) hD hS hA [] rfl
    refine va_calli (va_runS (As := [.long p1.toInt64, .long 0, .long 12]) (rest := [.ref mo]) ⟨hx, hb, hml, hown, hts⟩ (k_in l dC dI z zK zV p1.toInt64 0 12 H.size) (va_cwS 3 hts gX15_wind_X15_in rfl rfl rfl (by decide +kernel) ⟨Nat.le_of_ble_eq_true rfl, Nat.le_of_ble_eq_true rfl⟩) ⟨kP_blind, kP_go hPc hKc hDc hFc hM hS⟩ rfl rfl hl.1 rfl (lv_room (Nat.le_of_ble_eq_true rfl)) dX15_wind_19 ⟨Nat.le_of_ble_eq_true rfl, Nat.le_of_ble_eq_true rfl⟩) hS (fun q _ h => hFc q h) hFc (fun r3 u t H1 locs ht hvm hw hB hz1 hk1 hS => ?_)
    obtain ⟨hP, hD, hK⟩ := kJ (wr := [(mo, .inr (19, [.int 0, .int 0, .int 0, .int 0, .int 0, .int 0, .int 0, .ref ti, .ref si, .ref lo, .ref lh, .ref lk, .ref sp, .ref st, .ref pa, .ref br, .ref sg, .int 0, .int 0, .int 0, .int 0, .int 0, .int 0, .long 0, .long 0, .long 0, .long 0, .int th]))]) (w1 := []) (t1 := []) hP hD hK [] [0] rfl rfl (by decide) (by decide) hk1 hFc ht hvm hB
    generalize H1 = H at hP hS ⊢
    have hP : va_P (dC, dI) vwCl [(mo, .inr (19, [.int 0, .int 0, .int 0, .int 0, .int 0, .int 0, .int 0, .ref ti, .ref si, .ref lo, .ref lh, .ref lk, .ref sp, .ref st, .ref pa, .ref br, .ref sg, .int 0, .int 0, .int 0, .int 0, .int 0, .int 0, .long 0, .long 0, .long 0, .long 0, .int th]))] H := hP
    have hD : va_D A [(mo, .inr (19, [.int 0, .int 0, .int 0, .int 0, .int 0, .int 0, .int 0, .ref ti, .ref si, .ref lo, .ref lh, .ref lk, .ref sp, .ref st, .ref pa, .ref br, .ref sg, .int 0, .int 0, .int 0, .int 0, .int 0, .int 0, .long 0, .long 0, .long 0, .long 0, .int th]))] := hD
    have hK : va_K (dC, dI) vwCl [] s := hK
    obtain rfl : (if 0 ≤ (p1.toInt64) ∧ (p1.toInt64) ≤ 12 then (1 : Int32) else 0) = r3 := hw
    refine kc_i (y := (if 0 ≤ p1 ∧ p1 ≤ 12 then (1 : Int32) else 0)) (k_inP (a := 0) (b := 12) (by decide +kernel) (by decide +kernel)) ?_
    refine lv_if_ne (tgt := 29) hx hb dX15_wind_22 (by decide) (fun c_ => absurd (if_neg (fun h => hb0 ⟨k_ift c2, h⟩)) c_) (fun _ => ?_)
    refine lv_iconst (v := 1) hx hb dX15_wind_25 (by decide) ?_
    refine lv_goto (tgt := 30) hx hb dX15_wind_26 (by decide) ?_
    refine va_put (D := (dC, dI)) (ci := 19) (v := .int 1) (ty := .int) (C := RX15) (T := TX15) (N := 28) hx hb hts hiX15 tyX15 tyX15_ok nmX15 hown hK hP hD hS 0 rfl rfl 27 (by decide) (hts (.fieldLink RX15 45 "SquareRigModel" "thrown" "I") (by decide +kernel)) (fun _ h9 => h9) rfl (by decide +kernel) rfl rfl (Nat.le_of_ble_eq_true rfl) dX15_wind_30 (fun H locs hP hD hS => ?_)
    have hP : va_P (dC, dI) vwCl [(mo, .inr (19, [.int 0, .int 0, .int 0, .int 0, .int 0, .int 0, .int 0, .ref ti, .ref si, .ref lo, .ref lh, .ref lk, .ref sp, .ref st, .ref pa, .ref br, .ref sg, .int 0, .int 0, .int 0, .int 0, .int 0, .int 0, .long 0, .long 0, .long 0, .long 0, .int 1]))] H := hP
    have hD : va_D A [(mo, .inr (19, [.int 0, .int 0, .int 0, .int 0, .int 0, .int 0, .int 0, .ref ti, .ref si, .ref lo, .ref lh, .ref lk, .ref sp, .ref st, .ref pa, .ref br, .ref sg, .int 0, .int 0, .int 0, .int 0, .int 0, .int 0, .long 0, .long 0, .long 0, .long 0, .int 1]))] := hD
    refine lv_aload_n hx hb dX15_wind_33 rfl (lv_at hl 0 rfl) ?_
    refine va_get (D := (dC, dI)) (ci := 19) (v := .int 1) (C := RX15) (T := TX15) (N := 28) hx hb hts hiX15 hown hK hP 0 rfl rfl 27 (by decide) (hts (.fieldLink RX15 45 "SquareRigModel" "thrown" "I") (by decide +kernel)) (fun _ h9 => h9) rfl dX15_wind_34 ?_
    refine lv_if_le (tgt := 42) hx hb dX15_wind_37 (by decide) (fun c_ => absurd c_ (by decide +kernel)) (fun _ => ?_)
    refine lv_iconst (v := (-1)) hx hb dX15_wind_40 (by decide) ?_
    exact W.iret (v := (-1)) hx hb hr (fun t ht hW => ⟨⟨(-1), (), rfl, rfl, kB_end (w9 := [(mo, .inr (19, [.int 0, .int 0, .int 0, .int 0, .int 0, .int 0, .int 0, .ref ti, .ref si, .ref lo, .ref lh, .ref lk, .ref sp, .ref st, .ref pa, .ref br, .ref sg, .int 0, .int 0, .int 0, .int 0, .int 0, .int 0, .long 0, .long 0, .long 0, .long 0, .int 1]))]) (t9 := []) hP hK hD [0] [] rfl (by decide) rfl rfl t ht hW⟩, hS.F ht⟩) hS.2.2 dX15_wind_41
abbrev wd_k_m_current_good (z : Nat → Nat) (p0 : Int32) (p1 : Int32) (mo : Nat) (ti : Nat) (si : Nat) (lo : Nat) (lh : Nat) (lk : Nat) (sp : Nat) (st : Nat) (pa : Nat) (br : Nat) (sg : Nat) (th : Int32) : va_W := [(mo, .inr (19, [.int 0, .int 0, .int 0, .int 0, .int 0, .int 0, .int 0, .ref ti, .ref si, .ref lo, .ref lh, .ref lk, .ref sp, .ref st, .ref pa, .ref br, .ref sg, .int 0, .int 0, .int 0, .int 0, .int 0, .int 0, .long 0, .long 0, .long 0, .long 0, .int th]))]
set_option maxHeartbeats 4000000 in
set_option maxRecDepth 100000 in
theorem k_m_current_good (l : Launch) (dC : Nat → ClassId) (dI : Nat → Nat → Nat) (z zK zV : Nat → Nat) (p0 : Int32) (p1 : Int32) (mo : Nat) (ti : Nat) (si : Nat) (lo : Nat) (lh : Nat) (lk : Nat) (sp : Nat) (st : Nat) (pa : Nat) (br : Nat) (sg : Nat) (th : Int32) (sz : Nat) (hg0 : ((-9999 : Int32) ≤ p0 ∧ p0 ≤ 9999) ∧ (-9999 : Int32) ≤ p1 ∧ p1 ≤ 9999) : Met l yX15_current wsX15_current ({ frames := 1, cells := 0, slots := 0, locals := 25 }) (kP dC dI z zK zV [.ref mo, .int p0, .int p1] sz (wd_k_m_current_good z p0 p1 mo ti si lo lh lk sp st pa br sg th) []) (va_Qi (fun (r : Int32) (_ : Unit) => 0 = r) (fun _ t => kB (dC, dI) (va_A (wd_k_m_current_good z p0 p1 mo ti si lo lh lk sp st pa br sg th) sz) [(mo, .inr (19, [.int 0, .int 0, .int p0, .int p1, .int 0, .int 0, .int 0, .ref ti, .ref si, .ref lo, .ref lh, .ref lk, .ref sp, .ref st, .ref pa, .ref br, .ref sg, .int 0, .int 0, .int 0, .int 0, .int 0, .int 0, .long 0, .long 0, .long 0, .long 0, .int 0]))] [] t) (va_A (wd_k_m_current_good z p0 p1 mo ti si lo lh lk sp st pa br sg th) sz)) 0 0 (va_A (wd_k_m_current_good z p0 p1 mo ti si lo lh lk sp st pa br sg th) sz) := by
  refine Met.ofW (cc := cX15_current) (maxL := 4) (ret := (some .boolean)) (by decide) rfl ?_
  intro p e s m args below meth c s₁ B hml hv
  obtain ⟨rfl, hsz, hP, hK, hD0, hM⟩ := hv
  have hx := B.exec
  have hb := B.bytes
  have hr := B.returns
  have hts := atoms_spec (ws := wsX15_current) B.pre
  have hown : s.vm.findClass RX15 = some m.cls := findClass_of_methodNamed B.named
  have hlocks := B.notSynchronized
  have hiX15 : ∀ w ∈ u_ws RX15 TX15 28, w ∈ wsX15_current := by decide +kernel
  subst hsz
  have hD := hD0.self (sz := s.heap.size)
  generalize hAe : va_A (wd_k_m_current_good z p0 p1 mo ti si lo lh lk sp st pa br sg th) s.heap.size = A at hD hM ⊢
  have hA : ∀ q : Nat, s.heap.size ≤ q → A q := fun q h => by rw [← hAe]; exact Or.inr h
  have hS : va_S A s.heap s.heap [] := va_S.rf
  have hP : va_P (dC, dI) vwCl [(mo, .inr (19, [.int 0, .int 0, .int 0, .int 0, .int 0, .int 0, .int 0, .ref ti, .ref si, .ref lo, .ref lh, .ref lk, .ref sp, .ref st, .ref pa, .ref br, .ref sg, .int 0, .int 0, .int 0, .int 0, .int 0, .int 0, .long 0, .long 0, .long 0, .long 0, .int th]))] s.heap := hP
  have hD : va_D A [(mo, .inr (19, [.int 0, .int 0, .int 0, .int 0, .int 0, .int 0, .int 0, .ref ti, .ref si, .ref lo, .ref lh, .ref lk, .ref sp, .ref st, .ref pa, .ref br, .ref sg, .int 0, .int 0, .int 0, .int 0, .int 0, .int 0, .long 0, .long 0, .long 0, .long 0, .int th]))] := hD
  have hl := lv_entry ([.ref mo, .int p0, .int p1]) (n := 4) (Nat.le_of_ble_eq_true rfl)
  rw [lg_entry_eq]
  generalize (lg_sl ([.ref mo, .int p0, .int p1]) ++ List.replicate (4 - (lg_sl ([.ref mo, .int p0, .int p1])).length) Slot.unset).toArray = ls at hl ⊢
  have hl : lv_has ls 4 [(0, .ref mo), (1, .int p0), (2, .int p1)] := hl
  refine lv_aload_n hx hb dX15_current_0 rfl (lv_at hl 0 rfl) ?_
  refine lv_iload_n hx hb dX15_current_1 rfl (lv_at hl 1 rfl) ?_
  refine lv_i2l (v := p0.toInt64) hx hb dX15_current_2 rfl ?_
  refine lv_ldc2 (v := (-9999)) hx hb hown (hts (.constantLong RX15 126 (-9999)) (by decide +kernel)) dX15_current_3 ?_
  refine lv_ldc2 (v := 9999) hx hb hown (hts (.constantLong RX15 128 9999) (by decide +kernel)) dX15_current_6 ?_
  have hPc := hP.sub (ws' := []) [] rfl
  have hDc := hD.sub (ws' := []) [] (by decide) rfl
  have hKc := hK.sub (tys' := []) [] rfl
  have hFc := va_free (wc := []) hD hS hA [] rfl
  refine va_calli (va_runS (As := [.long p0.toInt64, .long (-9999), .long 9999]) (rest := [.ref mo]) ⟨hx, hb, hml, hown, hts⟩ (k_in l dC dI z zK zV p0.toInt64 (-9999) 9999 s.heap.size) (va_cwS 3 hts gX15_current_X15_in rfl rfl rfl (by decide +kernel) ⟨Nat.le_of_ble_eq_true rfl, Nat.le_of_ble_eq_true rfl⟩) ⟨kP_blind, kP_go hPc hKc hDc hFc hM hS⟩ rfl rfl hl.1 rfl (lv_room (Nat.le_of_ble_eq_true rfl)) dX15_current_9 ⟨Nat.le_of_ble_eq_true rfl, Nat.le_of_ble_eq_true rfl⟩) hS (fun q _ h => hFc q h) hFc (fun r1 u t H1 locs ht hvm hw hB hz1 hk1 hS => ?_)
  obtain ⟨hP, hD, hK⟩ := kJ (wr := [(mo, .inr (19, [.int 0, .int 0, .int 0, .int 0, .int 0, .int 0, .int 0, .ref ti, .ref si, .ref lo, .ref lh, .ref lk, .ref sp, .ref st, .ref pa, .ref br, .ref sg, .int 0, .int 0, .int 0, .int 0, .int 0, .int 0, .long 0, .long 0, .long 0, .long 0, .int th]))]) (w1 := []) (t1 := []) hP hD hK [] [0] rfl rfl (by decide) (by decide) hk1 hFc ht hvm hB
  generalize H1 = H at hP hS ⊢
  have hP : va_P (dC, dI) vwCl [(mo, .inr (19, [.int 0, .int 0, .int 0, .int 0, .int 0, .int 0, .int 0, .ref ti, .ref si, .ref lo, .ref lh, .ref lk, .ref sp, .ref st, .ref pa, .ref br, .ref sg, .int 0, .int 0, .int 0, .int 0, .int 0, .int 0, .long 0, .long 0, .long 0, .long 0, .int th]))] H := hP
  have hD : va_D A [(mo, .inr (19, [.int 0, .int 0, .int 0, .int 0, .int 0, .int 0, .int 0, .ref ti, .ref si, .ref lo, .ref lh, .ref lk, .ref sp, .ref st, .ref pa, .ref br, .ref sg, .int 0, .int 0, .int 0, .int 0, .int 0, .int 0, .long 0, .long 0, .long 0, .long 0, .int th]))] := hD
  have hK : va_K (dC, dI) vwCl [] s := hK
  obtain rfl : (if (-9999) ≤ (p0.toInt64) ∧ (p0.toInt64) ≤ 9999 then (1 : Int32) else 0) = r1 := hw
  refine kc_i (y := (if (-9999) ≤ p0 ∧ p0 ≤ 9999 then (1 : Int32) else 0)) (k_inP (a := (-9999)) (b := 9999) (by decide +kernel) (by decide +kernel)) ?_
  refine lv_if_eq (tgt := 29) hx hb dX15_current_12 (by decide) (fun c_ => absurd c_ (k_ifp hg0.1)) (fun _ => ?_)
  refine lv_iload_n hx hb dX15_current_15 rfl (lv_at hl 2 rfl) ?_
  refine lv_i2l (v := p1.toInt64) hx hb dX15_current_16 rfl ?_
  refine lv_ldc2 (v := (-9999)) hx hb hown (hts (.constantLong RX15 126 (-9999)) (by decide +kernel)) dX15_current_17 ?_
  refine lv_ldc2 (v := 9999) hx hb hown (hts (.constantLong RX15 128 9999) (by decide +kernel)) dX15_current_20 ?_
  have hPc := hP.sub (ws' := []) [] rfl
  have hDc := hD.sub (ws' := []) [] (by decide) rfl
  have hKc := hK.sub (tys' := []) [] rfl
  have hFc := va_free (wc := []) hD hS hA [] rfl
  refine va_calli (va_runS (As := [.long p1.toInt64, .long (-9999), .long 9999]) (rest := [.ref mo]) ⟨hx, hb, hml, hown, hts⟩ (k_in l dC dI z zK zV p1.toInt64 (-9999) 9999 H.size) (va_cwS 3 hts gX15_current_X15_in rfl rfl rfl (by decide +kernel) ⟨Nat.le_of_ble_eq_true rfl, Nat.le_of_ble_eq_true rfl⟩) ⟨kP_blind, kP_go hPc hKc hDc hFc hM hS⟩ rfl rfl hl.1 rfl (lv_room (Nat.le_of_ble_eq_true rfl)) dX15_current_23 ⟨Nat.le_of_ble_eq_true rfl, Nat.le_of_ble_eq_true rfl⟩) hS (fun q _ h => hFc q h) hFc (fun r2 u t H1 locs ht hvm hw hB hz1 hk1 hS => ?_)
  obtain ⟨hP, hD, hK⟩ := kJ (wr := [(mo, .inr (19, [.int 0, .int 0, .int 0, .int 0, .int 0, .int 0, .int 0, .ref ti, .ref si, .ref lo, .ref lh, .ref lk, .ref sp, .ref st, .ref pa, .ref br, .ref sg, .int 0, .int 0, .int 0, .int 0, .int 0, .int 0, .long 0, .long 0, .long 0, .long 0, .int th]))]) (w1 := []) (t1 := []) hP hD hK [] [0] rfl rfl (by decide) (by decide) hk1 hFc ht hvm hB
  generalize H1 = H at hP hS ⊢
  have hP : va_P (dC, dI) vwCl [(mo, .inr (19, [.int 0, .int 0, .int 0, .int 0, .int 0, .int 0, .int 0, .ref ti, .ref si, .ref lo, .ref lh, .ref lk, .ref sp, .ref st, .ref pa, .ref br, .ref sg, .int 0, .int 0, .int 0, .int 0, .int 0, .int 0, .long 0, .long 0, .long 0, .long 0, .int th]))] H := hP
  have hD : va_D A [(mo, .inr (19, [.int 0, .int 0, .int 0, .int 0, .int 0, .int 0, .int 0, .ref ti, .ref si, .ref lo, .ref lh, .ref lk, .ref sp, .ref st, .ref pa, .ref br, .ref sg, .int 0, .int 0, .int 0, .int 0, .int 0, .int 0, .long 0, .long 0, .long 0, .long 0, .int th]))] := hD
  have hK : va_K (dC, dI) vwCl [] s := hK
  obtain rfl : (if (-9999) ≤ (p1.toInt64) ∧ (p1.toInt64) ≤ 9999 then (1 : Int32) else 0) = r2 := hw
  refine kc_i (y := (if (-9999) ≤ p1 ∧ p1 ≤ 9999 then (1 : Int32) else 0)) (k_inP (a := (-9999)) (b := 9999) (by decide +kernel) (by decide +kernel)) ?_
  refine lv_if_ne (tgt := 33) hx hb dX15_current_26 (by decide) (fun _ => ?_) (fun c_ => absurd c_ (k_ifp hg0.2))
  refine lv_iconst (v := 0) hx hb dX15_current_33 (by decide) ?_
  refine va_put (D := (dC, dI)) (ci := 19) (v := .int 0) (ty := .int) (C := RX15) (T := TX15) (N := 28) hx hb hts hiX15 tyX15 tyX15_ok nmX15 hown hK hP hD hS 0 rfl rfl 27 (by decide) (hts (.fieldLink RX15 45 "SquareRigModel" "thrown" "I") (by decide +kernel)) (fun _ h9 => h9) rfl (by decide +kernel) rfl rfl (Nat.le_of_ble_eq_true rfl) dX15_current_34 (fun H locs hP hD hS => ?_)
  have hP : va_P (dC, dI) vwCl [(mo, .inr (19, [.int 0, .int 0, .int 0, .int 0, .int 0, .int 0, .int 0, .ref ti, .ref si, .ref lo, .ref lh, .ref lk, .ref sp, .ref st, .ref pa, .ref br, .ref sg, .int 0, .int 0, .int 0, .int 0, .int 0, .int 0, .long 0, .long 0, .long 0, .long 0, .int 0]))] H := hP
  have hD : va_D A [(mo, .inr (19, [.int 0, .int 0, .int 0, .int 0, .int 0, .int 0, .int 0, .ref ti, .ref si, .ref lo, .ref lh, .ref lk, .ref sp, .ref st, .ref pa, .ref br, .ref sg, .int 0, .int 0, .int 0, .int 0, .int 0, .int 0, .long 0, .long 0, .long 0, .long 0, .int 0]))] := hD
  refine lv_aload_n hx hb dX15_current_37 rfl (lv_at hl 0 rfl) ?_
  refine va_get (D := (dC, dI)) (ci := 19) (v := .int 0) (C := RX15) (T := TX15) (N := 28) hx hb hts hiX15 hown hK hP 0 rfl rfl 27 (by decide) (hts (.fieldLink RX15 45 "SquareRigModel" "thrown" "I") (by decide +kernel)) (fun _ h9 => h9) rfl dX15_current_38 ?_
  refine lv_if_le (tgt := 46) hx hb dX15_current_41 (by decide) (fun _ => ?_) (fun c_ => absurd (by decide +kernel) c_)
  refine lv_aload_n hx hb dX15_current_46 rfl (lv_at hl 0 rfl) ?_
  refine va_get (D := (dC, dI)) (ci := 19) (v := .int 0) (C := RX15) (T := TX15) (N := 28) hx hb hts hiX15 hown hK hP 0 rfl rfl 2 (by decide) (hts (.fieldLink RX15 130 "SquareRigModel" "currentEast" "I") (by decide +kernel)) (fun _ h9 => h9) rfl dX15_current_47 ?_
  refine lv_if_ne (tgt := 60) hx hb dX15_current_50 (by decide) (fun c_ => absurd (by decide +kernel) c_) (fun _ => ?_)
  refine lv_aload_n hx hb dX15_current_53 rfl (lv_at hl 0 rfl) ?_
  refine va_get (D := (dC, dI)) (ci := 19) (v := .int 0) (C := RX15) (T := TX15) (N := 28) hx hb hts hiX15 hown hK hP 0 rfl rfl 3 (by decide) (hts (.fieldLink RX15 133 "SquareRigModel" "currentNorth" "I") (by decide +kernel)) (fun _ h9 => h9) rfl dX15_current_54 ?_
  refine lv_if_eq (tgt := 64) hx hb dX15_current_57 (by decide) (fun _ => ?_) (fun c_ => absurd (by decide +kernel) c_)
  refine lv_iconst (v := 0) hx hb dX15_current_64 (by decide) ?_
  refine lv_istore_n (lv' := [(3, .int 0), (0, .ref mo), (1, .int p0), (2, .int p1)]) hx hb dX15_current_65 rfl hl (by decide) rfl (fun ls hl => ?_)
  refine lv_aload_n hx hb dX15_current_66 rfl (lv_at hl 1 rfl) ?_
  refine lv_iload_n hx hb dX15_current_67 rfl (lv_at hl 2 rfl) ?_
  refine va_put (D := (dC, dI)) (ci := 19) (v := .int p0) (ty := .int) (C := RX15) (T := TX15) (N := 28) hx hb hts hiX15 tyX15 tyX15_ok nmX15 hown hK hP hD hS 0 rfl rfl 2 (by decide) (hts (.fieldLink RX15 130 "SquareRigModel" "currentEast" "I") (by decide +kernel)) (fun _ h9 => h9) rfl (by decide +kernel) rfl rfl (Nat.le_of_ble_eq_true rfl) dX15_current_68 (fun H locs hP hD hS => ?_)
  have hP : va_P (dC, dI) vwCl [(mo, .inr (19, [.int 0, .int 0, .int p0, .int 0, .int 0, .int 0, .int 0, .ref ti, .ref si, .ref lo, .ref lh, .ref lk, .ref sp, .ref st, .ref pa, .ref br, .ref sg, .int 0, .int 0, .int 0, .int 0, .int 0, .int 0, .long 0, .long 0, .long 0, .long 0, .int 0]))] H := hP
  have hD : va_D A [(mo, .inr (19, [.int 0, .int 0, .int p0, .int 0, .int 0, .int 0, .int 0, .ref ti, .ref si, .ref lo, .ref lh, .ref lk, .ref sp, .ref st, .ref pa, .ref br, .ref sg, .int 0, .int 0, .int 0, .int 0, .int 0, .int 0, .long 0, .long 0, .long 0, .long 0, .int 0]))] := hD
  refine lv_aload_n hx hb dX15_current_71 rfl (lv_at hl 1 rfl) ?_
  refine lv_iload_n hx hb dX15_current_72 rfl (lv_at hl 3 rfl) ?_
  refine va_put (D := (dC, dI)) (ci := 19) (v := .int p1) (ty := .int) (C := RX15) (T := TX15) (N := 28) hx hb hts hiX15 tyX15 tyX15_ok nmX15 hown hK hP hD hS 0 rfl rfl 3 (by decide) (hts (.fieldLink RX15 133 "SquareRigModel" "currentNorth" "I") (by decide +kernel)) (fun _ h9 => h9) rfl (by decide +kernel) rfl rfl (Nat.le_of_ble_eq_true rfl) dX15_current_73 (fun H locs hP hD hS => ?_)
  have hP : va_P (dC, dI) vwCl [(mo, .inr (19, [.int 0, .int 0, .int p0, .int p1, .int 0, .int 0, .int 0, .ref ti, .ref si, .ref lo, .ref lh, .ref lk, .ref sp, .ref st, .ref pa, .ref br, .ref sg, .int 0, .int 0, .int 0, .int 0, .int 0, .int 0, .long 0, .long 0, .long 0, .long 0, .int 0]))] H := hP
  have hD : va_D A [(mo, .inr (19, [.int 0, .int 0, .int p0, .int p1, .int 0, .int 0, .int 0, .ref ti, .ref si, .ref lo, .ref lh, .ref lk, .ref sp, .ref st, .ref pa, .ref br, .ref sg, .int 0, .int 0, .int 0, .int 0, .int 0, .int 0, .long 0, .long 0, .long 0, .long 0, .int 0]))] := hD
  refine lv_iload_n hx hb dX15_current_76 rfl (lv_at hl 0 rfl) ?_
  exact W.zret (v := 0) hx hb hr (by decide +kernel) (fun t ht hW => ⟨⟨0, (), rfl, rfl, kB_end (w9 := [(mo, .inr (19, [.int 0, .int 0, .int p0, .int p1, .int 0, .int 0, .int 0, .ref ti, .ref si, .ref lo, .ref lh, .ref lk, .ref sp, .ref st, .ref pa, .ref br, .ref sg, .int 0, .int 0, .int 0, .int 0, .int 0, .int 0, .long 0, .long 0, .long 0, .long 0, .int 0]))]) (t9 := []) hP hK hD [0] [] rfl (by decide) rfl rfl t ht hW⟩, hS.F ht⟩) hS.2.2 dX15_current_77
abbrev wd_k_m_current_bad (z : Nat → Nat) (p0 : Int32) (p1 : Int32) (mo : Nat) (ti : Nat) (si : Nat) (lo : Nat) (lh : Nat) (lk : Nat) (sp : Nat) (st : Nat) (pa : Nat) (br : Nat) (sg : Nat) (th : Int32) : va_W := [(mo, .inr (19, [.int 0, .int 0, .int 0, .int 0, .int 0, .int 0, .int 0, .ref ti, .ref si, .ref lo, .ref lh, .ref lk, .ref sp, .ref st, .ref pa, .ref br, .ref sg, .int 0, .int 0, .int 0, .int 0, .int 0, .int 0, .long 0, .long 0, .long 0, .long 0, .int th]))]
set_option maxHeartbeats 4000000 in
set_option maxRecDepth 100000 in
theorem k_m_current_bad (l : Launch) (dC : Nat → ClassId) (dI : Nat → Nat → Nat) (z zK zV : Nat → Nat) (p0 : Int32) (p1 : Int32) (mo : Nat) (ti : Nat) (si : Nat) (lo : Nat) (lh : Nat) (lk : Nat) (sp : Nat) (st : Nat) (pa : Nat) (br : Nat) (sg : Nat) (th : Int32) (sz : Nat) (hb0 : ¬ (((-9999 : Int32) ≤ p0 ∧ p0 ≤ 9999) ∧ (-9999 : Int32) ≤ p1 ∧ p1 ≤ 9999)) : Met l yX15_current wsX15_current ({ frames := 1, cells := 0, slots := 0, locals := 25 }) (kP dC dI z zK zV [.ref mo, .int p0, .int p1] sz (wd_k_m_current_bad z p0 p1 mo ti si lo lh lk sp st pa br sg th) []) (va_Qi (fun (r : Int32) (_ : Unit) => 0 = r) (fun _ t => kB (dC, dI) (va_A (wd_k_m_current_bad z p0 p1 mo ti si lo lh lk sp st pa br sg th) sz) [(mo, .inr (19, [.int 0, .int 0, .int 0, .int 0, .int 0, .int 0, .int 0, .ref ti, .ref si, .ref lo, .ref lh, .ref lk, .ref sp, .ref st, .ref pa, .ref br, .ref sg, .int 0, .int 0, .int 0, .int 0, .int 0, .int 0, .long 0, .long 0, .long 0, .long 0, .int 1]))] [] t) (va_A (wd_k_m_current_bad z p0 p1 mo ti si lo lh lk sp st pa br sg th) sz)) 0 0 (va_A (wd_k_m_current_bad z p0 p1 mo ti si lo lh lk sp st pa br sg th) sz) := by
  refine Met.ofW (cc := cX15_current) (maxL := 4) (ret := (some .boolean)) (by decide) rfl ?_
  intro p e s m args below meth c s₁ B hml hv
  obtain ⟨rfl, hsz, hP, hK, hD0, hM⟩ := hv
  have hx := B.exec
  have hb := B.bytes
  have hr := B.returns
  have hts := atoms_spec (ws := wsX15_current) B.pre
  have hown : s.vm.findClass RX15 = some m.cls := findClass_of_methodNamed B.named
  have hlocks := B.notSynchronized
  have hiX15 : ∀ w ∈ u_ws RX15 TX15 28, w ∈ wsX15_current := by decide +kernel
  subst hsz
  have hD := hD0.self (sz := s.heap.size)
  generalize hAe : va_A (wd_k_m_current_bad z p0 p1 mo ti si lo lh lk sp st pa br sg th) s.heap.size = A at hD hM ⊢
  have hA : ∀ q : Nat, s.heap.size ≤ q → A q := fun q h => by rw [← hAe]; exact Or.inr h
  have hS : va_S A s.heap s.heap [] := va_S.rf
  have hP : va_P (dC, dI) vwCl [(mo, .inr (19, [.int 0, .int 0, .int 0, .int 0, .int 0, .int 0, .int 0, .ref ti, .ref si, .ref lo, .ref lh, .ref lk, .ref sp, .ref st, .ref pa, .ref br, .ref sg, .int 0, .int 0, .int 0, .int 0, .int 0, .int 0, .long 0, .long 0, .long 0, .long 0, .int th]))] s.heap := hP
  have hD : va_D A [(mo, .inr (19, [.int 0, .int 0, .int 0, .int 0, .int 0, .int 0, .int 0, .ref ti, .ref si, .ref lo, .ref lh, .ref lk, .ref sp, .ref st, .ref pa, .ref br, .ref sg, .int 0, .int 0, .int 0, .int 0, .int 0, .int 0, .long 0, .long 0, .long 0, .long 0, .int th]))] := hD
  have hl := lv_entry ([.ref mo, .int p0, .int p1]) (n := 4) (Nat.le_of_ble_eq_true rfl)
  rw [lg_entry_eq]
  generalize (lg_sl ([.ref mo, .int p0, .int p1]) ++ List.replicate (4 - (lg_sl ([.ref mo, .int p0, .int p1])).length) Slot.unset).toArray = ls at hl ⊢
  have hl : lv_has ls 4 [(0, .ref mo), (1, .int p0), (2, .int p1)] := hl
  refine lv_aload_n hx hb dX15_current_0 rfl (lv_at hl 0 rfl) ?_
  refine lv_iload_n hx hb dX15_current_1 rfl (lv_at hl 1 rfl) ?_
  refine lv_i2l (v := p0.toInt64) hx hb dX15_current_2 rfl ?_
  refine lv_ldc2 (v := (-9999)) hx hb hown (hts (.constantLong RX15 126 (-9999)) (by decide +kernel)) dX15_current_3 ?_
  refine lv_ldc2 (v := 9999) hx hb hown (hts (.constantLong RX15 128 9999) (by decide +kernel)) dX15_current_6 ?_
  have hPc := hP.sub (ws' := []) [] rfl
  have hDc := hD.sub (ws' := []) [] (by decide) rfl
  have hKc := hK.sub (tys' := []) [] rfl
  have hFc := va_free (wc := []) hD hS hA [] rfl
  refine va_calli (va_runS (As := [.long p0.toInt64, .long (-9999), .long 9999]) (rest := [.ref mo]) ⟨hx, hb, hml, hown, hts⟩ (k_in l dC dI z zK zV p0.toInt64 (-9999) 9999 s.heap.size) (va_cwS 3 hts gX15_current_X15_in rfl rfl rfl (by decide +kernel) ⟨Nat.le_of_ble_eq_true rfl, Nat.le_of_ble_eq_true rfl⟩) ⟨kP_blind, kP_go hPc hKc hDc hFc hM hS⟩ rfl rfl hl.1 rfl (lv_room (Nat.le_of_ble_eq_true rfl)) dX15_current_9 ⟨Nat.le_of_ble_eq_true rfl, Nat.le_of_ble_eq_true rfl⟩) hS (fun q _ h => hFc q h) hFc (fun r1 u t H1 locs ht hvm hw hB hz1 hk1 hS => ?_)
  obtain ⟨hP, hD, hK⟩ := kJ (wr := [(mo, .inr (19, [.int 0, .int 0, .int 0, .int 0, .int 0, .int 0, .int 0, .ref ti, .ref si, .ref lo, .ref lh, .ref lk, .ref sp, .ref st, .ref pa, .ref br, .ref sg, .int 0, .int 0, .int 0, .int 0, .int 0, .int 0, .long 0, .long 0, .long 0, .long 0, .int th]))]) (w1 := []) (t1 := []) hP hD hK [] [0] rfl rfl (by decide) (by decide) hk1 hFc ht hvm hB
  generalize H1 = H at hP hS ⊢
  have hP : va_P (dC, dI) vwCl [(mo, .inr (19, [.int 0, .int 0, .int 0, .int 0, .int 0, .int 0, .int 0, .ref ti, .ref si, .ref lo, .ref lh, .ref lk, .ref sp, .ref st, .ref pa, .ref br, .ref sg, .int 0, .int 0, .int 0, .int 0, .int 0, .int 0, .long 0, .long 0, .long 0, .long 0, .int th]))] H := hP
  have hD : va_D A [(mo, .inr (19, [.int 0, .int 0, .int 0, .int 0, .int 0, .int 0, .int 0, .ref ti, .ref si, .ref lo, .ref lh, .ref lk, .ref sp, .ref st, .ref pa, .ref br, .ref sg, .int 0, .int 0, .int 0, .int 0, .int 0, .int 0, .long 0, .long 0, .long 0, .long 0, .int th]))] := hD
  have hK : va_K (dC, dI) vwCl [] s := hK
  obtain rfl : (if (-9999) ≤ (p0.toInt64) ∧ (p0.toInt64) ≤ 9999 then (1 : Int32) else 0) = r1 := hw
  refine kc_i (y := (if (-9999) ≤ p0 ∧ p0 ≤ 9999 then (1 : Int32) else 0)) (k_inP (a := (-9999)) (b := 9999) (by decide +kernel) (by decide +kernel)) ?_
  refine lv_if_eq (tgt := 29) hx hb dX15_current_12 (by decide) (fun c2 => ?_) (fun c2 => ?_)
  · skip
    refine lv_iconst (v := 1) hx hb dX15_current_29 (by decide) ?_
    refine lv_goto (tgt := 34) hx hb dX15_current_30 (by decide) ?_
    refine va_put (D := (dC, dI)) (ci := 19) (v := .int 1) (ty := .int) (C := RX15) (T := TX15) (N := 28) hx hb hts hiX15 tyX15 tyX15_ok nmX15 hown hK hP hD hS 0 rfl rfl 27 (by decide) (hts (.fieldLink RX15 45 "SquareRigModel" "thrown" "I") (by decide +kernel)) (fun _ h9 => h9) rfl (by decide +kernel) rfl rfl (Nat.le_of_ble_eq_true rfl) dX15_current_34 (fun H locs hP hD hS => ?_)
    have hP : va_P (dC, dI) vwCl [(mo, .inr (19, [.int 0, .int 0, .int 0, .int 0, .int 0, .int 0, .int 0, .ref ti, .ref si, .ref lo, .ref lh, .ref lk, .ref sp, .ref st, .ref pa, .ref br, .ref sg, .int 0, .int 0, .int 0, .int 0, .int 0, .int 0, .long 0, .long 0, .long 0, .long 0, .int 1]))] H := hP
    have hD : va_D A [(mo, .inr (19, [.int 0, .int 0, .int 0, .int 0, .int 0, .int 0, .int 0, .ref ti, .ref si, .ref lo, .ref lh, .ref lk, .ref sp, .ref st, .ref pa, .ref br, .ref sg, .int 0, .int 0, .int 0, .int 0, .int 0, .int 0, .long 0, .long 0, .long 0, .long 0, .int 1]))] := hD
    refine lv_aload_n hx hb dX15_current_37 rfl (lv_at hl 0 rfl) ?_
    refine va_get (D := (dC, dI)) (ci := 19) (v := .int 1) (C := RX15) (T := TX15) (N := 28) hx hb hts hiX15 hown hK hP 0 rfl rfl 27 (by decide) (hts (.fieldLink RX15 45 "SquareRigModel" "thrown" "I") (by decide +kernel)) (fun _ h9 => h9) rfl dX15_current_38 ?_
    refine lv_if_le (tgt := 46) hx hb dX15_current_41 (by decide) (fun c_ => absurd c_ (by decide +kernel)) (fun _ => ?_)
    refine lv_iconst (v := 0) hx hb dX15_current_44 (by decide) ?_
    exact W.zret (v := 0) hx hb hr (by decide +kernel) (fun t ht hW => ⟨⟨0, (), rfl, rfl, kB_end (w9 := [(mo, .inr (19, [.int 0, .int 0, .int 0, .int 0, .int 0, .int 0, .int 0, .ref ti, .ref si, .ref lo, .ref lh, .ref lk, .ref sp, .ref st, .ref pa, .ref br, .ref sg, .int 0, .int 0, .int 0, .int 0, .int 0, .int 0, .long 0, .long 0, .long 0, .long 0, .int 1]))]) (t9 := []) hP hK hD [0] [] rfl (by decide) rfl rfl t ht hW⟩, hS.F ht⟩) hS.2.2 dX15_current_45
  · skip
    refine lv_iload_n hx hb dX15_current_15 rfl (lv_at hl 2 rfl) ?_
    refine lv_i2l (v := p1.toInt64) hx hb dX15_current_16 rfl ?_
    refine lv_ldc2 (v := (-9999)) hx hb hown (hts (.constantLong RX15 126 (-9999)) (by decide +kernel)) dX15_current_17 ?_
    refine lv_ldc2 (v := 9999) hx hb hown (hts (.constantLong RX15 128 9999) (by decide +kernel)) dX15_current_20 ?_
    have hPc := hP.sub (ws' := []) [] rfl
    have hDc := hD.sub (ws' := []) [] (by decide) rfl
    have hKc := hK.sub (tys' := []) [] rfl
    have hFc := va_free (wc := []) hD hS hA [] rfl
    refine va_calli (va_runS (As := [.long p1.toInt64, .long (-9999), .long 9999]) (rest := [.ref mo]) ⟨hx, hb, hml, hown, hts⟩ (k_in l dC dI z zK zV p1.toInt64 (-9999) 9999 H.size) (va_cwS 3 hts gX15_current_X15_in rfl rfl rfl (by decide +kernel) ⟨Nat.le_of_ble_eq_true rfl, Nat.le_of_ble_eq_true rfl⟩) ⟨kP_blind, kP_go hPc hKc hDc hFc hM hS⟩ rfl rfl hl.1 rfl (lv_room (Nat.le_of_ble_eq_true rfl)) dX15_current_23 ⟨Nat.le_of_ble_eq_true rfl, Nat.le_of_ble_eq_true rfl⟩) hS (fun q _ h => hFc q h) hFc (fun r3 u t H1 locs ht hvm hw hB hz1 hk1 hS => ?_)
    obtain ⟨hP, hD, hK⟩ := kJ (wr := [(mo, .inr (19, [.int 0, .int 0, .int 0, .int 0, .int 0, .int 0, .int 0, .ref ti, .ref si, .ref lo, .ref lh, .ref lk, .ref sp, .ref st, .ref pa, .ref br, .ref sg, .int 0, .int 0, .int 0, .int 0, .int 0, .int 0, .long 0, .long 0, .long 0, .long 0, .int th]))]) (w1 := []) (t1 := []) hP hD hK [] [0] rfl rfl (by decide) (by decide) hk1 hFc ht hvm hB
    generalize H1 = H at hP hS ⊢
    have hP : va_P (dC, dI) vwCl [(mo, .inr (19, [.int 0, .int 0, .int 0, .int 0, .int 0, .int 0, .int 0, .ref ti, .ref si, .ref lo, .ref lh, .ref lk, .ref sp, .ref st, .ref pa, .ref br, .ref sg, .int 0, .int 0, .int 0, .int 0, .int 0, .int 0, .long 0, .long 0, .long 0, .long 0, .int th]))] H := hP
    have hD : va_D A [(mo, .inr (19, [.int 0, .int 0, .int 0, .int 0, .int 0, .int 0, .int 0, .ref ti, .ref si, .ref lo, .ref lh, .ref lk, .ref sp, .ref st, .ref pa, .ref br, .ref sg, .int 0, .int 0, .int 0, .int 0, .int 0, .int 0, .long 0, .long 0, .long 0, .long 0, .int th]))] := hD
    have hK : va_K (dC, dI) vwCl [] s := hK
    obtain rfl : (if (-9999) ≤ (p1.toInt64) ∧ (p1.toInt64) ≤ 9999 then (1 : Int32) else 0) = r3 := hw
    refine kc_i (y := (if (-9999) ≤ p1 ∧ p1 ≤ 9999 then (1 : Int32) else 0)) (k_inP (a := (-9999)) (b := 9999) (by decide +kernel) (by decide +kernel)) ?_
    refine lv_if_ne (tgt := 33) hx hb dX15_current_26 (by decide) (fun c_ => absurd (if_neg (fun h => hb0 ⟨k_ift c2, h⟩)) c_) (fun _ => ?_)
    refine lv_iconst (v := 1) hx hb dX15_current_29 (by decide) ?_
    refine lv_goto (tgt := 34) hx hb dX15_current_30 (by decide) ?_
    refine va_put (D := (dC, dI)) (ci := 19) (v := .int 1) (ty := .int) (C := RX15) (T := TX15) (N := 28) hx hb hts hiX15 tyX15 tyX15_ok nmX15 hown hK hP hD hS 0 rfl rfl 27 (by decide) (hts (.fieldLink RX15 45 "SquareRigModel" "thrown" "I") (by decide +kernel)) (fun _ h9 => h9) rfl (by decide +kernel) rfl rfl (Nat.le_of_ble_eq_true rfl) dX15_current_34 (fun H locs hP hD hS => ?_)
    have hP : va_P (dC, dI) vwCl [(mo, .inr (19, [.int 0, .int 0, .int 0, .int 0, .int 0, .int 0, .int 0, .ref ti, .ref si, .ref lo, .ref lh, .ref lk, .ref sp, .ref st, .ref pa, .ref br, .ref sg, .int 0, .int 0, .int 0, .int 0, .int 0, .int 0, .long 0, .long 0, .long 0, .long 0, .int 1]))] H := hP
    have hD : va_D A [(mo, .inr (19, [.int 0, .int 0, .int 0, .int 0, .int 0, .int 0, .int 0, .ref ti, .ref si, .ref lo, .ref lh, .ref lk, .ref sp, .ref st, .ref pa, .ref br, .ref sg, .int 0, .int 0, .int 0, .int 0, .int 0, .int 0, .long 0, .long 0, .long 0, .long 0, .int 1]))] := hD
    refine lv_aload_n hx hb dX15_current_37 rfl (lv_at hl 0 rfl) ?_
    refine va_get (D := (dC, dI)) (ci := 19) (v := .int 1) (C := RX15) (T := TX15) (N := 28) hx hb hts hiX15 hown hK hP 0 rfl rfl 27 (by decide) (hts (.fieldLink RX15 45 "SquareRigModel" "thrown" "I") (by decide +kernel)) (fun _ h9 => h9) rfl dX15_current_38 ?_
    refine lv_if_le (tgt := 46) hx hb dX15_current_41 (by decide) (fun c_ => absurd c_ (by decide +kernel)) (fun _ => ?_)
    refine lv_iconst (v := 0) hx hb dX15_current_44 (by decide) ?_
    exact W.zret (v := 0) hx hb hr (by decide +kernel) (fun t ht hW => ⟨⟨0, (), rfl, rfl, kB_end (w9 := [(mo, .inr (19, [.int 0, .int 0, .int 0, .int 0, .int 0, .int 0, .int 0, .ref ti, .ref si, .ref lo, .ref lh, .ref lk, .ref sp, .ref st, .ref pa, .ref br, .ref sg, .int 0, .int 0, .int 0, .int 0, .int 0, .int 0, .long 0, .long 0, .long 0, .long 0, .int 1]))]) (t9 := []) hP hK hD [0] [] rfl (by decide) rfl rfl t ht hW⟩, hS.F ht⟩) hS.2.2 dX15_current_45
abbrev wd_k_m_helm_good (z : Nat → Nat) (p0 : Int32) (mo : Nat) (ti : Nat) (si : Nat) (lo : Nat) (lh : Nat) (lk : Nat) (sp : Nat) (st : Nat) (pa : Nat) (br : Nat) (sg : Nat) (th : Int32) : va_W := [(mo, .inr (19, [.int 0, .int 0, .int 0, .int 0, .int 0, .int 0, .int 0, .ref ti, .ref si, .ref lo, .ref lh, .ref lk, .ref sp, .ref st, .ref pa, .ref br, .ref sg, .int 0, .int 0, .int 0, .int 0, .int 0, .int 0, .long 0, .long 0, .long 0, .long 0, .int th]))]
set_option maxHeartbeats 4000000 in
set_option maxRecDepth 100000 in
theorem k_m_helm_good (l : Launch) (dC : Nat → ClassId) (dI : Nat → Nat → Nat) (z zK zV : Nat → Nat) (p0 : Int32) (mo : Nat) (ti : Nat) (si : Nat) (lo : Nat) (lh : Nat) (lk : Nat) (sp : Nat) (st : Nat) (pa : Nat) (br : Nat) (sg : Nat) (th : Int32) (sz : Nat) (hg0 : (-3 : Int32) ≤ p0 ∧ p0 ≤ 3) : Met l yX15_helm wsX15_helm ({ frames := 1, cells := 0, slots := 0, locals := 25 }) (kP dC dI z zK zV [.ref mo, .int p0] sz (wd_k_m_helm_good z p0 mo ti si lo lh lk sp st pa br sg th) []) (va_Qi (fun (r : Int32) (_ : Unit) => 0 = r) (fun _ t => kB (dC, dI) (va_A (wd_k_m_helm_good z p0 mo ti si lo lh lk sp st pa br sg th) sz) [(mo, .inr (19, [.int 0, .int 0, .int 0, .int 0, .int p0, .int 0, .int 0, .ref ti, .ref si, .ref lo, .ref lh, .ref lk, .ref sp, .ref st, .ref pa, .ref br, .ref sg, .int 0, .int 0, .int 0, .int 0, .int 0, .int 0, .long 0, .long 0, .long 0, .long 0, .int 0]))] [] t) (va_A (wd_k_m_helm_good z p0 mo ti si lo lh lk sp st pa br sg th) sz)) 0 0 (va_A (wd_k_m_helm_good z p0 mo ti si lo lh lk sp st pa br sg th) sz) := by
  refine Met.ofW (cc := cX15_helm) (maxL := 3) (ret := (some .int)) (by decide) rfl ?_
  intro p e s m args below meth c s₁ B hml hv
  obtain ⟨rfl, hsz, hP, hK, hD0, hM⟩ := hv
  have hx := B.exec
  have hb := B.bytes
  have hr := B.returns
  have hts := atoms_spec (ws := wsX15_helm) B.pre
  have hown : s.vm.findClass RX15 = some m.cls := findClass_of_methodNamed B.named
  have hlocks := B.notSynchronized
  have hiX15 : ∀ w ∈ u_ws RX15 TX15 28, w ∈ wsX15_helm := by decide +kernel
  subst hsz
  have hD := hD0.self (sz := s.heap.size)
  generalize hAe : va_A (wd_k_m_helm_good z p0 mo ti si lo lh lk sp st pa br sg th) s.heap.size = A at hD hM ⊢
  have hA : ∀ q : Nat, s.heap.size ≤ q → A q := fun q h => by rw [← hAe]; exact Or.inr h
  have hS : va_S A s.heap s.heap [] := va_S.rf
  have hP : va_P (dC, dI) vwCl [(mo, .inr (19, [.int 0, .int 0, .int 0, .int 0, .int 0, .int 0, .int 0, .ref ti, .ref si, .ref lo, .ref lh, .ref lk, .ref sp, .ref st, .ref pa, .ref br, .ref sg, .int 0, .int 0, .int 0, .int 0, .int 0, .int 0, .long 0, .long 0, .long 0, .long 0, .int th]))] s.heap := hP
  have hD : va_D A [(mo, .inr (19, [.int 0, .int 0, .int 0, .int 0, .int 0, .int 0, .int 0, .ref ti, .ref si, .ref lo, .ref lh, .ref lk, .ref sp, .ref st, .ref pa, .ref br, .ref sg, .int 0, .int 0, .int 0, .int 0, .int 0, .int 0, .long 0, .long 0, .long 0, .long 0, .int th]))] := hD
  have hl := lv_entry ([.ref mo, .int p0]) (n := 3) (Nat.le_of_ble_eq_true rfl)
  rw [lg_entry_eq]
  generalize (lg_sl ([.ref mo, .int p0]) ++ List.replicate (3 - (lg_sl ([.ref mo, .int p0])).length) Slot.unset).toArray = ls at hl ⊢
  have hl : lv_has ls 3 [(0, .ref mo), (1, .int p0)] := hl
  refine lv_aload_n hx hb dX15_helm_0 rfl (lv_at hl 0 rfl) ?_
  refine lv_iload_n hx hb dX15_helm_1 rfl (lv_at hl 1 rfl) ?_
  refine lv_i2l (v := p0.toInt64) hx hb dX15_helm_2 rfl ?_
  refine lv_ldc2 (v := (-3)) hx hb hown (hts (.constantLong RX15 136 (-3)) (by decide +kernel)) dX15_helm_3 ?_
  refine lv_ldc2 (v := 3) hx hb hown (hts (.constantLong RX15 138 3) (by decide +kernel)) dX15_helm_6 ?_
  have hPc := hP.sub (ws' := []) [] rfl
  have hDc := hD.sub (ws' := []) [] (by decide) rfl
  have hKc := hK.sub (tys' := []) [] rfl
  have hFc := va_free (wc := []) hD hS hA [] rfl
  refine va_calli (va_runS (As := [.long p0.toInt64, .long (-3), .long 3]) (rest := [.ref mo]) ⟨hx, hb, hml, hown, hts⟩ (k_in l dC dI z zK zV p0.toInt64 (-3) 3 s.heap.size) (va_cwS 3 hts gX15_helm_X15_in rfl rfl rfl (by decide +kernel) ⟨Nat.le_of_ble_eq_true rfl, Nat.le_of_ble_eq_true rfl⟩) ⟨kP_blind, kP_go hPc hKc hDc hFc hM hS⟩ rfl rfl hl.1 rfl (lv_room (Nat.le_of_ble_eq_true rfl)) dX15_helm_9 ⟨Nat.le_of_ble_eq_true rfl, Nat.le_of_ble_eq_true rfl⟩) hS (fun q _ h => hFc q h) hFc (fun r1 u t H1 locs ht hvm hw hB hz1 hk1 hS => ?_)
  obtain ⟨hP, hD, hK⟩ := kJ (wr := [(mo, .inr (19, [.int 0, .int 0, .int 0, .int 0, .int 0, .int 0, .int 0, .ref ti, .ref si, .ref lo, .ref lh, .ref lk, .ref sp, .ref st, .ref pa, .ref br, .ref sg, .int 0, .int 0, .int 0, .int 0, .int 0, .int 0, .long 0, .long 0, .long 0, .long 0, .int th]))]) (w1 := []) (t1 := []) hP hD hK [] [0] rfl rfl (by decide) (by decide) hk1 hFc ht hvm hB
  generalize H1 = H at hP hS ⊢
  have hP : va_P (dC, dI) vwCl [(mo, .inr (19, [.int 0, .int 0, .int 0, .int 0, .int 0, .int 0, .int 0, .ref ti, .ref si, .ref lo, .ref lh, .ref lk, .ref sp, .ref st, .ref pa, .ref br, .ref sg, .int 0, .int 0, .int 0, .int 0, .int 0, .int 0, .long 0, .long 0, .long 0, .long 0, .int th]))] H := hP
  have hD : va_D A [(mo, .inr (19, [.int 0, .int 0, .int 0, .int 0, .int 0, .int 0, .int 0, .ref ti, .ref si, .ref lo, .ref lh, .ref lk, .ref sp, .ref st, .ref pa, .ref br, .ref sg, .int 0, .int 0, .int 0, .int 0, .int 0, .int 0, .long 0, .long 0, .long 0, .long 0, .int th]))] := hD
  have hK : va_K (dC, dI) vwCl [] s := hK
  obtain rfl : (if (-3) ≤ (p0.toInt64) ∧ (p0.toInt64) ≤ 3 then (1 : Int32) else 0) = r1 := hw
  refine kc_i (y := (if (-3) ≤ p0 ∧ p0 ≤ 3 then (1 : Int32) else 0)) (k_inP (a := (-3)) (b := 3) (by decide +kernel) (by decide +kernel)) ?_
  refine lv_if_eq (tgt := 19) hx hb dX15_helm_12 (by decide) (fun c_ => absurd c_ (k_ifp hg0)) (fun _ => ?_)
  refine lv_iconst (v := 0) hx hb dX15_helm_15 (by decide) ?_
  refine lv_goto (tgt := 20) hx hb dX15_helm_16 (by decide) ?_
  refine va_put (D := (dC, dI)) (ci := 19) (v := .int 0) (ty := .int) (C := RX15) (T := TX15) (N := 28) hx hb hts hiX15 tyX15 tyX15_ok nmX15 hown hK hP hD hS 0 rfl rfl 27 (by decide) (hts (.fieldLink RX15 45 "SquareRigModel" "thrown" "I") (by decide +kernel)) (fun _ h9 => h9) rfl (by decide +kernel) rfl rfl (Nat.le_of_ble_eq_true rfl) dX15_helm_20 (fun H locs hP hD hS => ?_)
  have hP : va_P (dC, dI) vwCl [(mo, .inr (19, [.int 0, .int 0, .int 0, .int 0, .int 0, .int 0, .int 0, .ref ti, .ref si, .ref lo, .ref lh, .ref lk, .ref sp, .ref st, .ref pa, .ref br, .ref sg, .int 0, .int 0, .int 0, .int 0, .int 0, .int 0, .long 0, .long 0, .long 0, .long 0, .int 0]))] H := hP
  have hD : va_D A [(mo, .inr (19, [.int 0, .int 0, .int 0, .int 0, .int 0, .int 0, .int 0, .ref ti, .ref si, .ref lo, .ref lh, .ref lk, .ref sp, .ref st, .ref pa, .ref br, .ref sg, .int 0, .int 0, .int 0, .int 0, .int 0, .int 0, .long 0, .long 0, .long 0, .long 0, .int 0]))] := hD
  refine lv_aload_n hx hb dX15_helm_23 rfl (lv_at hl 0 rfl) ?_
  refine va_get (D := (dC, dI)) (ci := 19) (v := .int 0) (C := RX15) (T := TX15) (N := 28) hx hb hts hiX15 hown hK hP 0 rfl rfl 27 (by decide) (hts (.fieldLink RX15 45 "SquareRigModel" "thrown" "I") (by decide +kernel)) (fun _ h9 => h9) rfl dX15_helm_24 ?_
  refine lv_if_le (tgt := 32) hx hb dX15_helm_27 (by decide) (fun _ => ?_) (fun c_ => absurd (by decide +kernel) c_)
  refine lv_aload_n hx hb dX15_helm_32 rfl (lv_at hl 0 rfl) ?_
  refine va_get (D := (dC, dI)) (ci := 19) (v := .int 0) (C := RX15) (T := TX15) (N := 28) hx hb hts hiX15 hown hK hP 0 rfl rfl 4 (by decide) (hts (.fieldLink RX15 140 "SquareRigModel" "helm" "I") (by decide +kernel)) (fun _ h9 => h9) rfl dX15_helm_33 ?_
  refine lv_istore_n (lv' := [(2, .int 0), (0, .ref mo), (1, .int p0)]) hx hb dX15_helm_36 rfl hl (by decide) rfl (fun ls hl => ?_)
  refine lv_aload_n hx hb dX15_helm_37 rfl (lv_at hl 1 rfl) ?_
  refine lv_iload_n hx hb dX15_helm_38 rfl (lv_at hl 2 rfl) ?_
  refine va_put (D := (dC, dI)) (ci := 19) (v := .int p0) (ty := .int) (C := RX15) (T := TX15) (N := 28) hx hb hts hiX15 tyX15 tyX15_ok nmX15 hown hK hP hD hS 0 rfl rfl 4 (by decide) (hts (.fieldLink RX15 140 "SquareRigModel" "helm" "I") (by decide +kernel)) (fun _ h9 => h9) rfl (by decide +kernel) rfl rfl (Nat.le_of_ble_eq_true rfl) dX15_helm_39 (fun H locs hP hD hS => ?_)
  have hP : va_P (dC, dI) vwCl [(mo, .inr (19, [.int 0, .int 0, .int 0, .int 0, .int p0, .int 0, .int 0, .ref ti, .ref si, .ref lo, .ref lh, .ref lk, .ref sp, .ref st, .ref pa, .ref br, .ref sg, .int 0, .int 0, .int 0, .int 0, .int 0, .int 0, .long 0, .long 0, .long 0, .long 0, .int 0]))] H := hP
  have hD : va_D A [(mo, .inr (19, [.int 0, .int 0, .int 0, .int 0, .int p0, .int 0, .int 0, .ref ti, .ref si, .ref lo, .ref lh, .ref lk, .ref sp, .ref st, .ref pa, .ref br, .ref sg, .int 0, .int 0, .int 0, .int 0, .int 0, .int 0, .long 0, .long 0, .long 0, .long 0, .int 0]))] := hD
  refine lv_iload_n hx hb dX15_helm_42 rfl (lv_at hl 0 rfl) ?_
  exact W.iret (v := 0) hx hb hr (fun t ht hW => ⟨⟨0, (), rfl, rfl, kB_end (w9 := [(mo, .inr (19, [.int 0, .int 0, .int 0, .int 0, .int p0, .int 0, .int 0, .ref ti, .ref si, .ref lo, .ref lh, .ref lk, .ref sp, .ref st, .ref pa, .ref br, .ref sg, .int 0, .int 0, .int 0, .int 0, .int 0, .int 0, .long 0, .long 0, .long 0, .long 0, .int 0]))]) (t9 := []) hP hK hD [0] [] rfl (by decide) rfl rfl t ht hW⟩, hS.F ht⟩) hS.2.2 dX15_helm_43
abbrev wd_k_m_helm_bad (z : Nat → Nat) (p0 : Int32) (mo : Nat) (ti : Nat) (si : Nat) (lo : Nat) (lh : Nat) (lk : Nat) (sp : Nat) (st : Nat) (pa : Nat) (br : Nat) (sg : Nat) (th : Int32) : va_W := [(mo, .inr (19, [.int 0, .int 0, .int 0, .int 0, .int 0, .int 0, .int 0, .ref ti, .ref si, .ref lo, .ref lh, .ref lk, .ref sp, .ref st, .ref pa, .ref br, .ref sg, .int 0, .int 0, .int 0, .int 0, .int 0, .int 0, .long 0, .long 0, .long 0, .long 0, .int th]))]
set_option maxHeartbeats 4000000 in
set_option maxRecDepth 100000 in
theorem k_m_helm_bad (l : Launch) (dC : Nat → ClassId) (dI : Nat → Nat → Nat) (z zK zV : Nat → Nat) (p0 : Int32) (mo : Nat) (ti : Nat) (si : Nat) (lo : Nat) (lh : Nat) (lk : Nat) (sp : Nat) (st : Nat) (pa : Nat) (br : Nat) (sg : Nat) (th : Int32) (sz : Nat) (hb0 : ¬ ((-3 : Int32) ≤ p0 ∧ p0 ≤ 3)) : Met l yX15_helm wsX15_helm ({ frames := 1, cells := 0, slots := 0, locals := 25 }) (kP dC dI z zK zV [.ref mo, .int p0] sz (wd_k_m_helm_bad z p0 mo ti si lo lh lk sp st pa br sg th) []) (va_Qi (fun (r : Int32) (_ : Unit) => (-1) = r) (fun _ t => kB (dC, dI) (va_A (wd_k_m_helm_bad z p0 mo ti si lo lh lk sp st pa br sg th) sz) [(mo, .inr (19, [.int 0, .int 0, .int 0, .int 0, .int 0, .int 0, .int 0, .ref ti, .ref si, .ref lo, .ref lh, .ref lk, .ref sp, .ref st, .ref pa, .ref br, .ref sg, .int 0, .int 0, .int 0, .int 0, .int 0, .int 0, .long 0, .long 0, .long 0, .long 0, .int 1]))] [] t) (va_A (wd_k_m_helm_bad z p0 mo ti si lo lh lk sp st pa br sg th) sz)) 0 0 (va_A (wd_k_m_helm_bad z p0 mo ti si lo lh lk sp st pa br sg th) sz) := by
  refine Met.ofW (cc := cX15_helm) (maxL := 3) (ret := (some .int)) (by decide) rfl ?_
  intro p e s m args below meth c s₁ B hml hv
  obtain ⟨rfl, hsz, hP, hK, hD0, hM⟩ := hv
  have hx := B.exec
  have hb := B.bytes
  have hr := B.returns
  have hts := atoms_spec (ws := wsX15_helm) B.pre
  have hown : s.vm.findClass RX15 = some m.cls := findClass_of_methodNamed B.named
  have hlocks := B.notSynchronized
  have hiX15 : ∀ w ∈ u_ws RX15 TX15 28, w ∈ wsX15_helm := by decide +kernel
  subst hsz
  have hD := hD0.self (sz := s.heap.size)
  generalize hAe : va_A (wd_k_m_helm_bad z p0 mo ti si lo lh lk sp st pa br sg th) s.heap.size = A at hD hM ⊢
  have hA : ∀ q : Nat, s.heap.size ≤ q → A q := fun q h => by rw [← hAe]; exact Or.inr h
  have hS : va_S A s.heap s.heap [] := va_S.rf
  have hP : va_P (dC, dI) vwCl [(mo, .inr (19, [.int 0, .int 0, .int 0, .int 0, .int 0, .int 0, .int 0, .ref ti, .ref si, .ref lo, .ref lh, .ref lk, .ref sp, .ref st, .ref pa, .ref br, .ref sg, .int 0, .int 0, .int 0, .int 0, .int 0, .int 0, .long 0, .long 0, .long 0, .long 0, .int th]))] s.heap := hP
  have hD : va_D A [(mo, .inr (19, [.int 0, .int 0, .int 0, .int 0, .int 0, .int 0, .int 0, .ref ti, .ref si, .ref lo, .ref lh, .ref lk, .ref sp, .ref st, .ref pa, .ref br, .ref sg, .int 0, .int 0, .int 0, .int 0, .int 0, .int 0, .long 0, .long 0, .long 0, .long 0, .int th]))] := hD
  have hl := lv_entry ([.ref mo, .int p0]) (n := 3) (Nat.le_of_ble_eq_true rfl)
  rw [lg_entry_eq]
  generalize (lg_sl ([.ref mo, .int p0]) ++ List.replicate (3 - (lg_sl ([.ref mo, .int p0])).length) Slot.unset).toArray = ls at hl ⊢
  have hl : lv_has ls 3 [(0, .ref mo), (1, .int p0)] := hl
  refine lv_aload_n hx hb dX15_helm_0 rfl (lv_at hl 0 rfl) ?_
  refine lv_iload_n hx hb dX15_helm_1 rfl (lv_at hl 1 rfl) ?_
  refine lv_i2l (v := p0.toInt64) hx hb dX15_helm_2 rfl ?_
  refine lv_ldc2 (v := (-3)) hx hb hown (hts (.constantLong RX15 136 (-3)) (by decide +kernel)) dX15_helm_3 ?_
  refine lv_ldc2 (v := 3) hx hb hown (hts (.constantLong RX15 138 3) (by decide +kernel)) dX15_helm_6 ?_
  have hPc := hP.sub (ws' := []) [] rfl
  have hDc := hD.sub (ws' := []) [] (by decide) rfl
  have hKc := hK.sub (tys' := []) [] rfl
  have hFc := va_free (wc := []) hD hS hA [] rfl
  refine va_calli (va_runS (As := [.long p0.toInt64, .long (-3), .long 3]) (rest := [.ref mo]) ⟨hx, hb, hml, hown, hts⟩ (k_in l dC dI z zK zV p0.toInt64 (-3) 3 s.heap.size) (va_cwS 3 hts gX15_helm_X15_in rfl rfl rfl (by decide +kernel) ⟨Nat.le_of_ble_eq_true rfl, Nat.le_of_ble_eq_true rfl⟩) ⟨kP_blind, kP_go hPc hKc hDc hFc hM hS⟩ rfl rfl hl.1 rfl (lv_room (Nat.le_of_ble_eq_true rfl)) dX15_helm_9 ⟨Nat.le_of_ble_eq_true rfl, Nat.le_of_ble_eq_true rfl⟩) hS (fun q _ h => hFc q h) hFc (fun r1 u t H1 locs ht hvm hw hB hz1 hk1 hS => ?_)
  obtain ⟨hP, hD, hK⟩ := kJ (wr := [(mo, .inr (19, [.int 0, .int 0, .int 0, .int 0, .int 0, .int 0, .int 0, .ref ti, .ref si, .ref lo, .ref lh, .ref lk, .ref sp, .ref st, .ref pa, .ref br, .ref sg, .int 0, .int 0, .int 0, .int 0, .int 0, .int 0, .long 0, .long 0, .long 0, .long 0, .int th]))]) (w1 := []) (t1 := []) hP hD hK [] [0] rfl rfl (by decide) (by decide) hk1 hFc ht hvm hB
  generalize H1 = H at hP hS ⊢
  have hP : va_P (dC, dI) vwCl [(mo, .inr (19, [.int 0, .int 0, .int 0, .int 0, .int 0, .int 0, .int 0, .ref ti, .ref si, .ref lo, .ref lh, .ref lk, .ref sp, .ref st, .ref pa, .ref br, .ref sg, .int 0, .int 0, .int 0, .int 0, .int 0, .int 0, .long 0, .long 0, .long 0, .long 0, .int th]))] H := hP
  have hD : va_D A [(mo, .inr (19, [.int 0, .int 0, .int 0, .int 0, .int 0, .int 0, .int 0, .ref ti, .ref si, .ref lo, .ref lh, .ref lk, .ref sp, .ref st, .ref pa, .ref br, .ref sg, .int 0, .int 0, .int 0, .int 0, .int 0, .int 0, .long 0, .long 0, .long 0, .long 0, .int th]))] := hD
  have hK : va_K (dC, dI) vwCl [] s := hK
  obtain rfl : (if (-3) ≤ (p0.toInt64) ∧ (p0.toInt64) ≤ 3 then (1 : Int32) else 0) = r1 := hw
  refine kc_i (y := (if (-3) ≤ p0 ∧ p0 ≤ 3 then (1 : Int32) else 0)) (k_inP (a := (-3)) (b := 3) (by decide +kernel) (by decide +kernel)) ?_
  refine lv_if_eq (tgt := 19) hx hb dX15_helm_12 (by decide) (fun _ => ?_) (fun c_ => absurd (if_neg hb0) c_)
  refine lv_iconst (v := 1) hx hb dX15_helm_19 (by decide) ?_
  refine va_put (D := (dC, dI)) (ci := 19) (v := .int 1) (ty := .int) (C := RX15) (T := TX15) (N := 28) hx hb hts hiX15 tyX15 tyX15_ok nmX15 hown hK hP hD hS 0 rfl rfl 27 (by decide) (hts (.fieldLink RX15 45 "SquareRigModel" "thrown" "I") (by decide +kernel)) (fun _ h9 => h9) rfl (by decide +kernel) rfl rfl (Nat.le_of_ble_eq_true rfl) dX15_helm_20 (fun H locs hP hD hS => ?_)
  have hP : va_P (dC, dI) vwCl [(mo, .inr (19, [.int 0, .int 0, .int 0, .int 0, .int 0, .int 0, .int 0, .ref ti, .ref si, .ref lo, .ref lh, .ref lk, .ref sp, .ref st, .ref pa, .ref br, .ref sg, .int 0, .int 0, .int 0, .int 0, .int 0, .int 0, .long 0, .long 0, .long 0, .long 0, .int 1]))] H := hP
  have hD : va_D A [(mo, .inr (19, [.int 0, .int 0, .int 0, .int 0, .int 0, .int 0, .int 0, .ref ti, .ref si, .ref lo, .ref lh, .ref lk, .ref sp, .ref st, .ref pa, .ref br, .ref sg, .int 0, .int 0, .int 0, .int 0, .int 0, .int 0, .long 0, .long 0, .long 0, .long 0, .int 1]))] := hD
  refine lv_aload_n hx hb dX15_helm_23 rfl (lv_at hl 0 rfl) ?_
  refine va_get (D := (dC, dI)) (ci := 19) (v := .int 1) (C := RX15) (T := TX15) (N := 28) hx hb hts hiX15 hown hK hP 0 rfl rfl 27 (by decide) (hts (.fieldLink RX15 45 "SquareRigModel" "thrown" "I") (by decide +kernel)) (fun _ h9 => h9) rfl dX15_helm_24 ?_
  refine lv_if_le (tgt := 32) hx hb dX15_helm_27 (by decide) (fun c_ => absurd c_ (by decide +kernel)) (fun _ => ?_)
  refine lv_iconst (v := (-1)) hx hb dX15_helm_30 (by decide) ?_
  exact W.iret (v := (-1)) hx hb hr (fun t ht hW => ⟨⟨(-1), (), rfl, rfl, kB_end (w9 := [(mo, .inr (19, [.int 0, .int 0, .int 0, .int 0, .int 0, .int 0, .int 0, .ref ti, .ref si, .ref lo, .ref lh, .ref lk, .ref sp, .ref st, .ref pa, .ref br, .ref sg, .int 0, .int 0, .int 0, .int 0, .int 0, .int 0, .long 0, .long 0, .long 0, .long 0, .int 1]))]) (t9 := []) hP hK hD [0] [] rfl (by decide) rfl rfl t ht hW⟩, hS.F ht⟩) hS.2.2 dX15_helm_31
abbrev wd_k_m_sail_bad (z : Nat → Nat) (p0 : Int32) (mo : Nat) (ti : Nat) (si : Nat) (lo : Nat) (lh : Nat) (lk : Nat) (sp : Nat) (st : Nat) (pa : Nat) (br : Nat) (sg : Nat) (th : Int32) : va_W := [(mo, .inr (19, [.int 0, .int 0, .int 0, .int 0, .int 0, .int 0, .int 0, .ref ti, .ref si, .ref lo, .ref lh, .ref lk, .ref sp, .ref st, .ref pa, .ref br, .ref sg, .int 0, .int 0, .int 0, .int 0, .int 0, .int 0, .long 0, .long 0, .long 0, .long 0, .int th]))]
set_option maxHeartbeats 4000000 in
set_option maxRecDepth 100000 in
theorem k_m_sail_bad (l : Launch) (dC : Nat → ClassId) (dI : Nat → Nat → Nat) (z zK zV : Nat → Nat) (p0 : Int32) (mo : Nat) (ti : Nat) (si : Nat) (lo : Nat) (lh : Nat) (lk : Nat) (sp : Nat) (st : Nat) (pa : Nat) (br : Nat) (sg : Nat) (th : Int32) (sz : Nat) (hb0 : ¬ ((1 : Int32) ≤ p0 ∧ p0 ≤ 1500)) : Met l yX15_sail wsX15_sail ({ frames := 1, cells := 0, slots := 0, locals := 25 }) (kP dC dI z zK zV [.ref mo, .int p0] sz (wd_k_m_sail_bad z p0 mo ti si lo lh lk sp st pa br sg th) []) (va_Qi (fun (r : Int32) (_ : Unit) => (-1) = r) (fun _ t => kB (dC, dI) (va_A (wd_k_m_sail_bad z p0 mo ti si lo lh lk sp st pa br sg th) sz) [(mo, .inr (19, [.int 0, .int 0, .int 0, .int 0, .int 0, .int 0, .int 0, .ref ti, .ref si, .ref lo, .ref lh, .ref lk, .ref sp, .ref st, .ref pa, .ref br, .ref sg, .int 0, .int 0, .int 0, .int 0, .int 0, .int 0, .long 0, .long 0, .long 0, .long 0, .int 1]))] [] t) (va_A (wd_k_m_sail_bad z p0 mo ti si lo lh lk sp st pa br sg th) sz)) 0 0 (va_A (wd_k_m_sail_bad z p0 mo ti si lo lh lk sp st pa br sg th) sz) := by
  refine Met.ofW (cc := cX15_sail) (maxL := 3) (ret := (some .int)) (by decide) rfl ?_
  intro p e s m args below meth c s₁ B hml hv
  obtain ⟨rfl, hsz, hP, hK, hD0, hM⟩ := hv
  have hx := B.exec
  have hb := B.bytes
  have hr := B.returns
  have hts := atoms_spec (ws := wsX15_sail) B.pre
  have hown : s.vm.findClass RX15 = some m.cls := findClass_of_methodNamed B.named
  have hlocks := B.notSynchronized
  have hiX15 : ∀ w ∈ u_ws RX15 TX15 28, w ∈ wsX15_sail := by decide +kernel
  subst hsz
  have hD := hD0.self (sz := s.heap.size)
  generalize hAe : va_A (wd_k_m_sail_bad z p0 mo ti si lo lh lk sp st pa br sg th) s.heap.size = A at hD hM ⊢
  have hA : ∀ q : Nat, s.heap.size ≤ q → A q := fun q h => by rw [← hAe]; exact Or.inr h
  have hS : va_S A s.heap s.heap [] := va_S.rf
  have hP : va_P (dC, dI) vwCl [(mo, .inr (19, [.int 0, .int 0, .int 0, .int 0, .int 0, .int 0, .int 0, .ref ti, .ref si, .ref lo, .ref lh, .ref lk, .ref sp, .ref st, .ref pa, .ref br, .ref sg, .int 0, .int 0, .int 0, .int 0, .int 0, .int 0, .long 0, .long 0, .long 0, .long 0, .int th]))] s.heap := hP
  have hD : va_D A [(mo, .inr (19, [.int 0, .int 0, .int 0, .int 0, .int 0, .int 0, .int 0, .ref ti, .ref si, .ref lo, .ref lh, .ref lk, .ref sp, .ref st, .ref pa, .ref br, .ref sg, .int 0, .int 0, .int 0, .int 0, .int 0, .int 0, .long 0, .long 0, .long 0, .long 0, .int th]))] := hD
  have hl := lv_entry ([.ref mo, .int p0]) (n := 3) (Nat.le_of_ble_eq_true rfl)
  rw [lg_entry_eq]
  generalize (lg_sl ([.ref mo, .int p0]) ++ List.replicate (3 - (lg_sl ([.ref mo, .int p0])).length) Slot.unset).toArray = ls at hl ⊢
  have hl : lv_has ls 3 [(0, .ref mo), (1, .int p0)] := hl
  refine lv_aload_n hx hb dX15_sail_0 rfl (lv_at hl 0 rfl) ?_
  refine lv_iload_n hx hb dX15_sail_1 rfl (lv_at hl 1 rfl) ?_
  refine lv_i2l (v := p0.toInt64) hx hb dX15_sail_2 rfl ?_
  refine lv_lconst (v := 1) hx hb dX15_sail_3 (by decide) ?_
  refine lv_ldc2 (v := 1500) hx hb hown (hts (.constantLong RX15 304 1500) (by decide +kernel)) dX15_sail_4 ?_
  have hPc := hP.sub (ws' := []) [] rfl
  have hDc := hD.sub (ws' := []) [] (by decide) rfl
  have hKc := hK.sub (tys' := []) [] rfl
  have hFc := va_free (wc := []) hD hS hA [] rfl
  refine va_calli (va_runS (As := [.long p0.toInt64, .long 1, .long 1500]) (rest := [.ref mo]) ⟨hx, hb, hml, hown, hts⟩ (k_in l dC dI z zK zV p0.toInt64 1 1500 s.heap.size) (va_cwS 3 hts gX15_sail_X15_in rfl rfl rfl (by decide +kernel) ⟨Nat.le_of_ble_eq_true rfl, Nat.le_of_ble_eq_true rfl⟩) ⟨kP_blind, kP_go hPc hKc hDc hFc hM hS⟩ rfl rfl hl.1 rfl (lv_room (Nat.le_of_ble_eq_true rfl)) dX15_sail_7 ⟨Nat.le_of_ble_eq_true rfl, Nat.le_of_ble_eq_true rfl⟩) hS (fun q _ h => hFc q h) hFc (fun r1 u t H1 locs ht hvm hw hB hz1 hk1 hS => ?_)
  obtain ⟨hP, hD, hK⟩ := kJ (wr := [(mo, .inr (19, [.int 0, .int 0, .int 0, .int 0, .int 0, .int 0, .int 0, .ref ti, .ref si, .ref lo, .ref lh, .ref lk, .ref sp, .ref st, .ref pa, .ref br, .ref sg, .int 0, .int 0, .int 0, .int 0, .int 0, .int 0, .long 0, .long 0, .long 0, .long 0, .int th]))]) (w1 := []) (t1 := []) hP hD hK [] [0] rfl rfl (by decide) (by decide) hk1 hFc ht hvm hB
  generalize H1 = H at hP hS ⊢
  have hP : va_P (dC, dI) vwCl [(mo, .inr (19, [.int 0, .int 0, .int 0, .int 0, .int 0, .int 0, .int 0, .ref ti, .ref si, .ref lo, .ref lh, .ref lk, .ref sp, .ref st, .ref pa, .ref br, .ref sg, .int 0, .int 0, .int 0, .int 0, .int 0, .int 0, .long 0, .long 0, .long 0, .long 0, .int th]))] H := hP
  have hD : va_D A [(mo, .inr (19, [.int 0, .int 0, .int 0, .int 0, .int 0, .int 0, .int 0, .ref ti, .ref si, .ref lo, .ref lh, .ref lk, .ref sp, .ref st, .ref pa, .ref br, .ref sg, .int 0, .int 0, .int 0, .int 0, .int 0, .int 0, .long 0, .long 0, .long 0, .long 0, .int th]))] := hD
  have hK : va_K (dC, dI) vwCl [] s := hK
  obtain rfl : (if 1 ≤ (p0.toInt64) ∧ (p0.toInt64) ≤ 1500 then (1 : Int32) else 0) = r1 := hw
  refine kc_i (y := (if 1 ≤ p0 ∧ p0 ≤ 1500 then (1 : Int32) else 0)) (k_inP (a := 1) (b := 1500) (by decide +kernel) (by decide +kernel)) ?_
  refine lv_if_eq (tgt := 17) hx hb dX15_sail_10 (by decide) (fun _ => ?_) (fun c_ => absurd (if_neg hb0) c_)
  refine lv_iconst (v := 1) hx hb dX15_sail_17 (by decide) ?_
  refine va_put (D := (dC, dI)) (ci := 19) (v := .int 1) (ty := .int) (C := RX15) (T := TX15) (N := 28) hx hb hts hiX15 tyX15 tyX15_ok nmX15 hown hK hP hD hS 0 rfl rfl 27 (by decide) (hts (.fieldLink RX15 45 "SquareRigModel" "thrown" "I") (by decide +kernel)) (fun _ h9 => h9) rfl (by decide +kernel) rfl rfl (Nat.le_of_ble_eq_true rfl) dX15_sail_18 (fun H locs hP hD hS => ?_)
  have hP : va_P (dC, dI) vwCl [(mo, .inr (19, [.int 0, .int 0, .int 0, .int 0, .int 0, .int 0, .int 0, .ref ti, .ref si, .ref lo, .ref lh, .ref lk, .ref sp, .ref st, .ref pa, .ref br, .ref sg, .int 0, .int 0, .int 0, .int 0, .int 0, .int 0, .long 0, .long 0, .long 0, .long 0, .int 1]))] H := hP
  have hD : va_D A [(mo, .inr (19, [.int 0, .int 0, .int 0, .int 0, .int 0, .int 0, .int 0, .ref ti, .ref si, .ref lo, .ref lh, .ref lk, .ref sp, .ref st, .ref pa, .ref br, .ref sg, .int 0, .int 0, .int 0, .int 0, .int 0, .int 0, .long 0, .long 0, .long 0, .long 0, .int 1]))] := hD
  refine lv_aload_n hx hb dX15_sail_21 rfl (lv_at hl 0 rfl) ?_
  refine va_get (D := (dC, dI)) (ci := 19) (v := .int 1) (C := RX15) (T := TX15) (N := 28) hx hb hts hiX15 hown hK hP 0 rfl rfl 27 (by decide) (hts (.fieldLink RX15 45 "SquareRigModel" "thrown" "I") (by decide +kernel)) (fun _ h9 => h9) rfl dX15_sail_22 ?_
  refine lv_if_le (tgt := 30) hx hb dX15_sail_25 (by decide) (fun c_ => absurd c_ (by decide +kernel)) (fun _ => ?_)
  refine lv_iconst (v := (-1)) hx hb dX15_sail_28 (by decide) ?_
  exact W.iret (v := (-1)) hx hb hr (fun t ht hW => ⟨⟨(-1), (), rfl, rfl, kB_end (w9 := [(mo, .inr (19, [.int 0, .int 0, .int 0, .int 0, .int 0, .int 0, .int 0, .ref ti, .ref si, .ref lo, .ref lh, .ref lk, .ref sp, .ref st, .ref pa, .ref br, .ref sg, .int 0, .int 0, .int 0, .int 0, .int 0, .int 0, .long 0, .long 0, .long 0, .long 0, .int 1]))]) (t9 := []) hP hK hD [0] [] rfl (by decide) rfl rfl t ht hW⟩, hS.F ht⟩) hS.2.2 dX15_sail_29
abbrev wd_k_m_tired0 (z : Nat → Nat) (mo : Nat) (ti : Nat) (si : Nat) (lo : Nat) (lh : Nat) (lk : Nat) (sp : Nat) (st : Nat) (pa : Nat) (br : Nat) (sg : Nat) (cti : ClassId) (th : Int32) : va_W := [(mo, .inr (19, [.int 0, .int 0, .int 0, .int 0, .int 0, .int 0, .int 0, .ref ti, .ref si, .ref lo, .ref lh, .ref lk, .ref sp, .ref st, .ref pa, .ref br, .ref sg, .int 0, .int 0, .int 0, .int 0, .int 0, .int 0, .long 0, .long 0, .long 0, .long 0, .int th])), (ti, .inl (cti, 2, .inl (fun _ => 0)))]
set_option maxHeartbeats 4000000 in
set_option maxRecDepth 100000 in
theorem k_m_tired0 (l : Launch) (dC : Nat → ClassId) (dI : Nat → Nat → Nat) (z zK zV : Nat → Nat) (mo : Nat) (ti : Nat) (si : Nat) (lo : Nat) (lh : Nat) (lk : Nat) (sp : Nat) (st : Nat) (pa : Nat) (br : Nat) (sg : Nat) (cti : ClassId) (th : Int32) (sz : Nat)  : Met l yX15_tired wsX15_tired ({ frames := 1, cells := 0, slots := 0, locals := 25 }) (kP dC dI z zK zV [.ref mo, .int 0] sz (wd_k_m_tired0 z mo ti si lo lh lk sp st pa br sg cti th) [(cti, .int)]) (va_Qi (fun (r : Int32) (_ : Unit) => 0 = r) (fun _ t => kB (dC, dI) (va_A (wd_k_m_tired0 z mo ti si lo lh lk sp st pa br sg cti th) sz) [(mo, .inr (19, [.int 0, .int 0, .int 0, .int 0, .int 0, .int 0, .int 0, .ref ti, .ref si, .ref lo, .ref lh, .ref lk, .ref sp, .ref st, .ref pa, .ref br, .ref sg, .int 0, .int 0, .int 0, .int 0, .int 0, .int 0, .long 0, .long 0, .long 0, .long 0, .int 0]))] [] t) (va_A (wd_k_m_tired0 z mo ti si lo lh lk sp st pa br sg cti th) sz)) 0 0 (va_A (wd_k_m_tired0 z mo ti si lo lh lk sp st pa br sg cti th) sz) := by
  refine Met.ofW (cc := cX15_tired) (maxL := 2) (ret := (some .int)) (by decide) rfl ?_
  intro p e s m args below meth c s₁ B hml hv
  obtain ⟨rfl, hsz, hP, hK, hD0, hM⟩ := hv
  have hx := B.exec
  have hb := B.bytes
  have hr := B.returns
  have hts := atoms_spec (ws := wsX15_tired) B.pre
  have hown : s.vm.findClass RX15 = some m.cls := findClass_of_methodNamed B.named
  have hlocks := B.notSynchronized
  have hiX15 : ∀ w ∈ u_ws RX15 TX15 28, w ∈ wsX15_tired := by decide +kernel
  subst hsz
  have hD := hD0.self (sz := s.heap.size)
  generalize hAe : va_A (wd_k_m_tired0 z mo ti si lo lh lk sp st pa br sg cti th) s.heap.size = A at hD hM ⊢
  have hA : ∀ q : Nat, s.heap.size ≤ q → A q := fun q h => by rw [← hAe]; exact Or.inr h
  have hS : va_S A s.heap s.heap [] := va_S.rf
  have hP : va_P (dC, dI) vwCl [(mo, .inr (19, [.int 0, .int 0, .int 0, .int 0, .int 0, .int 0, .int 0, .ref ti, .ref si, .ref lo, .ref lh, .ref lk, .ref sp, .ref st, .ref pa, .ref br, .ref sg, .int 0, .int 0, .int 0, .int 0, .int 0, .int 0, .long 0, .long 0, .long 0, .long 0, .int th])), (ti, .inl (cti, 2, .inl (fun _ => 0)))] s.heap := hP
  have hD : va_D A [(mo, .inr (19, [.int 0, .int 0, .int 0, .int 0, .int 0, .int 0, .int 0, .ref ti, .ref si, .ref lo, .ref lh, .ref lk, .ref sp, .ref st, .ref pa, .ref br, .ref sg, .int 0, .int 0, .int 0, .int 0, .int 0, .int 0, .long 0, .long 0, .long 0, .long 0, .int th])), (ti, .inl (cti, 2, .inl (fun _ => 0)))] := hD
  have hl := lv_entry ([.ref mo, .int 0]) (n := 2) (Nat.le_of_ble_eq_true rfl)
  rw [lg_entry_eq]
  generalize (lg_sl ([.ref mo, .int 0]) ++ List.replicate (2 - (lg_sl ([.ref mo, .int 0])).length) Slot.unset).toArray = ls at hl ⊢
  have hl : lv_has ls 2 [(0, .ref mo), (1, .int 0)] := hl
  refine lv_aload_n hx hb dX15_tired_0 rfl (lv_at hl 0 rfl) ?_
  refine lv_iload_n hx hb dX15_tired_1 rfl (lv_at hl 1 rfl) ?_
  refine lv_i2l (v := 0) hx hb dX15_tired_2 (by decide +kernel) ?_
  refine lv_lconst (v := 0) hx hb dX15_tired_3 (by decide) ?_
  refine lv_lconst (v := 1) hx hb dX15_tired_4 (by decide) ?_
  have hPc := hP.sub (ws' := []) [] rfl
  have hDc := hD.sub (ws' := []) [] (by decide) rfl
  have hKc := hK.sub (tys' := []) [] rfl
  have hFc := va_free (wc := []) hD hS hA [] rfl
  refine va_calli (va_runS (As := [.long 0, .long 0, .long 1]) (rest := [.ref mo]) ⟨hx, hb, hml, hown, hts⟩ (k_in l dC dI z zK zV 0 0 1 s.heap.size) (va_cwS 3 hts gX15_tired_X15_in rfl rfl rfl (by decide +kernel) ⟨Nat.le_of_ble_eq_true rfl, Nat.le_of_ble_eq_true rfl⟩) ⟨kP_blind, kP_go hPc hKc hDc hFc hM hS⟩ rfl rfl hl.1 rfl (lv_room (Nat.le_of_ble_eq_true rfl)) dX15_tired_5 ⟨Nat.le_of_ble_eq_true rfl, Nat.le_of_ble_eq_true rfl⟩) hS (fun q _ h => hFc q h) hFc (fun r1 u t H1 locs ht hvm hw hB hz1 hk1 hS => ?_)
  obtain ⟨hP, hD, hK⟩ := kJ (wr := [(mo, .inr (19, [.int 0, .int 0, .int 0, .int 0, .int 0, .int 0, .int 0, .ref ti, .ref si, .ref lo, .ref lh, .ref lk, .ref sp, .ref st, .ref pa, .ref br, .ref sg, .int 0, .int 0, .int 0, .int 0, .int 0, .int 0, .long 0, .long 0, .long 0, .long 0, .int th])), (ti, .inl (cti, 2, .inl (fun _ => 0)))]) (w1 := []) (t1 := []) hP hD hK [] [0, 1] rfl rfl (by decide) (by decide) hk1 hFc ht hvm hB
  generalize H1 = H at hP hS ⊢
  have hP : va_P (dC, dI) vwCl [(mo, .inr (19, [.int 0, .int 0, .int 0, .int 0, .int 0, .int 0, .int 0, .ref ti, .ref si, .ref lo, .ref lh, .ref lk, .ref sp, .ref st, .ref pa, .ref br, .ref sg, .int 0, .int 0, .int 0, .int 0, .int 0, .int 0, .long 0, .long 0, .long 0, .long 0, .int th])), (ti, .inl (cti, 2, .inl (fun _ => 0)))] H := hP
  have hD : va_D A [(mo, .inr (19, [.int 0, .int 0, .int 0, .int 0, .int 0, .int 0, .int 0, .ref ti, .ref si, .ref lo, .ref lh, .ref lk, .ref sp, .ref st, .ref pa, .ref br, .ref sg, .int 0, .int 0, .int 0, .int 0, .int 0, .int 0, .long 0, .long 0, .long 0, .long 0, .int th])), (ti, .inl (cti, 2, .inl (fun _ => 0)))] := hD
  have hK : va_K (dC, dI) vwCl [(cti, .int)] s := hK
  obtain rfl : (if 0 ≤ 0 ∧ 0 ≤ 1 then (1 : Int32) else 0) = r1 := hw
  refine kc_i (y := 1) (by decide +kernel) ?_
  refine lv_if_eq (tgt := 15) hx hb dX15_tired_8 (by decide) (fun c_ => absurd c_ (by decide +kernel)) (fun _ => ?_)
  refine lv_iconst (v := 0) hx hb dX15_tired_11 (by decide) ?_
  refine lv_goto (tgt := 16) hx hb dX15_tired_12 (by decide) ?_
  refine va_put (D := (dC, dI)) (ci := 19) (v := .int 0) (ty := .int) (C := RX15) (T := TX15) (N := 28) hx hb hts hiX15 tyX15 tyX15_ok nmX15 hown hK hP hD hS 0 rfl rfl 27 (by decide) (hts (.fieldLink RX15 45 "SquareRigModel" "thrown" "I") (by decide +kernel)) (fun _ h9 => h9) rfl (by decide +kernel) rfl rfl (Nat.le_of_ble_eq_true rfl) dX15_tired_16 (fun H locs hP hD hS => ?_)
  have hP : va_P (dC, dI) vwCl [(mo, .inr (19, [.int 0, .int 0, .int 0, .int 0, .int 0, .int 0, .int 0, .ref ti, .ref si, .ref lo, .ref lh, .ref lk, .ref sp, .ref st, .ref pa, .ref br, .ref sg, .int 0, .int 0, .int 0, .int 0, .int 0, .int 0, .long 0, .long 0, .long 0, .long 0, .int 0])), (ti, .inl (cti, 2, .inl (fun _ => 0)))] H := hP
  have hD : va_D A [(mo, .inr (19, [.int 0, .int 0, .int 0, .int 0, .int 0, .int 0, .int 0, .ref ti, .ref si, .ref lo, .ref lh, .ref lk, .ref sp, .ref st, .ref pa, .ref br, .ref sg, .int 0, .int 0, .int 0, .int 0, .int 0, .int 0, .long 0, .long 0, .long 0, .long 0, .int 0])), (ti, .inl (cti, 2, .inl (fun _ => 0)))] := hD
  refine lv_aload_n hx hb dX15_tired_19 rfl (lv_at hl 0 rfl) ?_
  refine va_get (D := (dC, dI)) (ci := 19) (v := .int 0) (C := RX15) (T := TX15) (N := 28) hx hb hts hiX15 hown hK hP 0 rfl rfl 27 (by decide) (hts (.fieldLink RX15 45 "SquareRigModel" "thrown" "I") (by decide +kernel)) (fun _ h9 => h9) rfl dX15_tired_20 ?_
  refine lv_if_ne (tgt := 35) hx hb dX15_tired_23 (by decide) (fun c_ => absurd (by decide +kernel) c_) (fun _ => ?_)
  refine lv_aload_n hx hb dX15_tired_26 rfl (lv_at hl 0 rfl) ?_
  refine va_get (D := (dC, dI)) (ci := 19) (v := .ref ti) (C := RX15) (T := TX15) (N := 28) hx hb hts hiX15 hown hK hP 0 rfl rfl 7 (by decide) (hts (.fieldLink RX15 7 "SquareRigModel" "tired" "[I") (by decide +kernel)) (fun _ h9 => h9) rfl dX15_tired_27 ?_
  refine lv_iload_n hx hb dX15_tired_30 rfl (lv_at hl 1 rfl) ?_
  refine va_iald hx hb hK hP 1 0 rfl rfl (pk_in 0 2 (by decide) rfl) dX15_tired_31 ?_
  refine kc_v (y := .int 0) rfl ?_
  refine lv_goto (tgt := 36) hx hb dX15_tired_32 (by decide) ?_
  exact W.iret (v := 0) hx hb hr (fun t ht hW => ⟨⟨0, (), rfl, rfl, kB_end (w9 := [(mo, .inr (19, [.int 0, .int 0, .int 0, .int 0, .int 0, .int 0, .int 0, .ref ti, .ref si, .ref lo, .ref lh, .ref lk, .ref sp, .ref st, .ref pa, .ref br, .ref sg, .int 0, .int 0, .int 0, .int 0, .int 0, .int 0, .long 0, .long 0, .long 0, .long 0, .int 0]))]) (t9 := []) hP hK hD [0] [] rfl (by decide) rfl rfl t ht hW⟩, hS.F ht⟩) hS.2.2 dX15_tired_36
abbrev wd_k_m_tired1 (z : Nat → Nat) (mo : Nat) (ti : Nat) (si : Nat) (lo : Nat) (lh : Nat) (lk : Nat) (sp : Nat) (st : Nat) (pa : Nat) (br : Nat) (sg : Nat) (cti : ClassId) (th : Int32) : va_W := [(mo, .inr (19, [.int 0, .int 0, .int 0, .int 0, .int 0, .int 0, .int 0, .ref ti, .ref si, .ref lo, .ref lh, .ref lk, .ref sp, .ref st, .ref pa, .ref br, .ref sg, .int 0, .int 0, .int 0, .int 0, .int 0, .int 0, .long 0, .long 0, .long 0, .long 0, .int th])), (ti, .inl (cti, 2, .inl (fun _ => 0)))]
set_option maxHeartbeats 4000000 in
set_option maxRecDepth 100000 in
theorem k_m_tired1 (l : Launch) (dC : Nat → ClassId) (dI : Nat → Nat → Nat) (z zK zV : Nat → Nat) (mo : Nat) (ti : Nat) (si : Nat) (lo : Nat) (lh : Nat) (lk : Nat) (sp : Nat) (st : Nat) (pa : Nat) (br : Nat) (sg : Nat) (cti : ClassId) (th : Int32) (sz : Nat)  : Met l yX15_tired wsX15_tired ({ frames := 1, cells := 0, slots := 0, locals := 25 }) (kP dC dI z zK zV [.ref mo, .int 1] sz (wd_k_m_tired1 z mo ti si lo lh lk sp st pa br sg cti th) [(cti, .int)]) (va_Qi (fun (r : Int32) (_ : Unit) => 0 = r) (fun _ t => kB (dC, dI) (va_A (wd_k_m_tired1 z mo ti si lo lh lk sp st pa br sg cti th) sz) [(mo, .inr (19, [.int 0, .int 0, .int 0, .int 0, .int 0, .int 0, .int 0, .ref ti, .ref si, .ref lo, .ref lh, .ref lk, .ref sp, .ref st, .ref pa, .ref br, .ref sg, .int 0, .int 0, .int 0, .int 0, .int 0, .int 0, .long 0, .long 0, .long 0, .long 0, .int 0]))] [] t) (va_A (wd_k_m_tired1 z mo ti si lo lh lk sp st pa br sg cti th) sz)) 0 0 (va_A (wd_k_m_tired1 z mo ti si lo lh lk sp st pa br sg cti th) sz) := by
  refine Met.ofW (cc := cX15_tired) (maxL := 2) (ret := (some .int)) (by decide) rfl ?_
  intro p e s m args below meth c s₁ B hml hv
  obtain ⟨rfl, hsz, hP, hK, hD0, hM⟩ := hv
  have hx := B.exec
  have hb := B.bytes
  have hr := B.returns
  have hts := atoms_spec (ws := wsX15_tired) B.pre
  have hown : s.vm.findClass RX15 = some m.cls := findClass_of_methodNamed B.named
  have hlocks := B.notSynchronized
  have hiX15 : ∀ w ∈ u_ws RX15 TX15 28, w ∈ wsX15_tired := by decide +kernel
  subst hsz
  have hD := hD0.self (sz := s.heap.size)
  generalize hAe : va_A (wd_k_m_tired1 z mo ti si lo lh lk sp st pa br sg cti th) s.heap.size = A at hD hM ⊢
  have hA : ∀ q : Nat, s.heap.size ≤ q → A q := fun q h => by rw [← hAe]; exact Or.inr h
  have hS : va_S A s.heap s.heap [] := va_S.rf
  have hP : va_P (dC, dI) vwCl [(mo, .inr (19, [.int 0, .int 0, .int 0, .int 0, .int 0, .int 0, .int 0, .ref ti, .ref si, .ref lo, .ref lh, .ref lk, .ref sp, .ref st, .ref pa, .ref br, .ref sg, .int 0, .int 0, .int 0, .int 0, .int 0, .int 0, .long 0, .long 0, .long 0, .long 0, .int th])), (ti, .inl (cti, 2, .inl (fun _ => 0)))] s.heap := hP
  have hD : va_D A [(mo, .inr (19, [.int 0, .int 0, .int 0, .int 0, .int 0, .int 0, .int 0, .ref ti, .ref si, .ref lo, .ref lh, .ref lk, .ref sp, .ref st, .ref pa, .ref br, .ref sg, .int 0, .int 0, .int 0, .int 0, .int 0, .int 0, .long 0, .long 0, .long 0, .long 0, .int th])), (ti, .inl (cti, 2, .inl (fun _ => 0)))] := hD
  have hl := lv_entry ([.ref mo, .int 1]) (n := 2) (Nat.le_of_ble_eq_true rfl)
  rw [lg_entry_eq]
  generalize (lg_sl ([.ref mo, .int 1]) ++ List.replicate (2 - (lg_sl ([.ref mo, .int 1])).length) Slot.unset).toArray = ls at hl ⊢
  have hl : lv_has ls 2 [(0, .ref mo), (1, .int 1)] := hl
  refine lv_aload_n hx hb dX15_tired_0 rfl (lv_at hl 0 rfl) ?_
  refine lv_iload_n hx hb dX15_tired_1 rfl (lv_at hl 1 rfl) ?_
  refine lv_i2l (v := 1) hx hb dX15_tired_2 (by decide +kernel) ?_
  refine lv_lconst (v := 0) hx hb dX15_tired_3 (by decide) ?_
  refine lv_lconst (v := 1) hx hb dX15_tired_4 (by decide) ?_
  have hPc := hP.sub (ws' := []) [] rfl
  have hDc := hD.sub (ws' := []) [] (by decide) rfl
  have hKc := hK.sub (tys' := []) [] rfl
  have hFc := va_free (wc := []) hD hS hA [] rfl
  refine va_calli (va_runS (As := [.long 1, .long 0, .long 1]) (rest := [.ref mo]) ⟨hx, hb, hml, hown, hts⟩ (k_in l dC dI z zK zV 1 0 1 s.heap.size) (va_cwS 3 hts gX15_tired_X15_in rfl rfl rfl (by decide +kernel) ⟨Nat.le_of_ble_eq_true rfl, Nat.le_of_ble_eq_true rfl⟩) ⟨kP_blind, kP_go hPc hKc hDc hFc hM hS⟩ rfl rfl hl.1 rfl (lv_room (Nat.le_of_ble_eq_true rfl)) dX15_tired_5 ⟨Nat.le_of_ble_eq_true rfl, Nat.le_of_ble_eq_true rfl⟩) hS (fun q _ h => hFc q h) hFc (fun r1 u t H1 locs ht hvm hw hB hz1 hk1 hS => ?_)
  obtain ⟨hP, hD, hK⟩ := kJ (wr := [(mo, .inr (19, [.int 0, .int 0, .int 0, .int 0, .int 0, .int 0, .int 0, .ref ti, .ref si, .ref lo, .ref lh, .ref lk, .ref sp, .ref st, .ref pa, .ref br, .ref sg, .int 0, .int 0, .int 0, .int 0, .int 0, .int 0, .long 0, .long 0, .long 0, .long 0, .int th])), (ti, .inl (cti, 2, .inl (fun _ => 0)))]) (w1 := []) (t1 := []) hP hD hK [] [0, 1] rfl rfl (by decide) (by decide) hk1 hFc ht hvm hB
  generalize H1 = H at hP hS ⊢
  have hP : va_P (dC, dI) vwCl [(mo, .inr (19, [.int 0, .int 0, .int 0, .int 0, .int 0, .int 0, .int 0, .ref ti, .ref si, .ref lo, .ref lh, .ref lk, .ref sp, .ref st, .ref pa, .ref br, .ref sg, .int 0, .int 0, .int 0, .int 0, .int 0, .int 0, .long 0, .long 0, .long 0, .long 0, .int th])), (ti, .inl (cti, 2, .inl (fun _ => 0)))] H := hP
  have hD : va_D A [(mo, .inr (19, [.int 0, .int 0, .int 0, .int 0, .int 0, .int 0, .int 0, .ref ti, .ref si, .ref lo, .ref lh, .ref lk, .ref sp, .ref st, .ref pa, .ref br, .ref sg, .int 0, .int 0, .int 0, .int 0, .int 0, .int 0, .long 0, .long 0, .long 0, .long 0, .int th])), (ti, .inl (cti, 2, .inl (fun _ => 0)))] := hD
  have hK : va_K (dC, dI) vwCl [(cti, .int)] s := hK
  obtain rfl : (if 0 ≤ 1 ∧ 1 ≤ 1 then (1 : Int32) else 0) = r1 := hw
  refine kc_i (y := 1) (by decide +kernel) ?_
  refine lv_if_eq (tgt := 15) hx hb dX15_tired_8 (by decide) (fun c_ => absurd c_ (by decide +kernel)) (fun _ => ?_)
  refine lv_iconst (v := 0) hx hb dX15_tired_11 (by decide) ?_
  refine lv_goto (tgt := 16) hx hb dX15_tired_12 (by decide) ?_
  refine va_put (D := (dC, dI)) (ci := 19) (v := .int 0) (ty := .int) (C := RX15) (T := TX15) (N := 28) hx hb hts hiX15 tyX15 tyX15_ok nmX15 hown hK hP hD hS 0 rfl rfl 27 (by decide) (hts (.fieldLink RX15 45 "SquareRigModel" "thrown" "I") (by decide +kernel)) (fun _ h9 => h9) rfl (by decide +kernel) rfl rfl (Nat.le_of_ble_eq_true rfl) dX15_tired_16 (fun H locs hP hD hS => ?_)
  have hP : va_P (dC, dI) vwCl [(mo, .inr (19, [.int 0, .int 0, .int 0, .int 0, .int 0, .int 0, .int 0, .ref ti, .ref si, .ref lo, .ref lh, .ref lk, .ref sp, .ref st, .ref pa, .ref br, .ref sg, .int 0, .int 0, .int 0, .int 0, .int 0, .int 0, .long 0, .long 0, .long 0, .long 0, .int 0])), (ti, .inl (cti, 2, .inl (fun _ => 0)))] H := hP
  have hD : va_D A [(mo, .inr (19, [.int 0, .int 0, .int 0, .int 0, .int 0, .int 0, .int 0, .ref ti, .ref si, .ref lo, .ref lh, .ref lk, .ref sp, .ref st, .ref pa, .ref br, .ref sg, .int 0, .int 0, .int 0, .int 0, .int 0, .int 0, .long 0, .long 0, .long 0, .long 0, .int 0])), (ti, .inl (cti, 2, .inl (fun _ => 0)))] := hD
  refine lv_aload_n hx hb dX15_tired_19 rfl (lv_at hl 0 rfl) ?_
  refine va_get (D := (dC, dI)) (ci := 19) (v := .int 0) (C := RX15) (T := TX15) (N := 28) hx hb hts hiX15 hown hK hP 0 rfl rfl 27 (by decide) (hts (.fieldLink RX15 45 "SquareRigModel" "thrown" "I") (by decide +kernel)) (fun _ h9 => h9) rfl dX15_tired_20 ?_
  refine lv_if_ne (tgt := 35) hx hb dX15_tired_23 (by decide) (fun c_ => absurd (by decide +kernel) c_) (fun _ => ?_)
  refine lv_aload_n hx hb dX15_tired_26 rfl (lv_at hl 0 rfl) ?_
  refine va_get (D := (dC, dI)) (ci := 19) (v := .ref ti) (C := RX15) (T := TX15) (N := 28) hx hb hts hiX15 hown hK hP 0 rfl rfl 7 (by decide) (hts (.fieldLink RX15 7 "SquareRigModel" "tired" "[I") (by decide +kernel)) (fun _ h9 => h9) rfl dX15_tired_27 ?_
  refine lv_iload_n hx hb dX15_tired_30 rfl (lv_at hl 1 rfl) ?_
  refine va_iald hx hb hK hP 1 0 rfl rfl (pk_in 1 2 (by decide) rfl) dX15_tired_31 ?_
  refine kc_v (y := .int 0) rfl ?_
  refine lv_goto (tgt := 36) hx hb dX15_tired_32 (by decide) ?_
  exact W.iret (v := 0) hx hb hr (fun t ht hW => ⟨⟨0, (), rfl, rfl, kB_end (w9 := [(mo, .inr (19, [.int 0, .int 0, .int 0, .int 0, .int 0, .int 0, .int 0, .ref ti, .ref si, .ref lo, .ref lh, .ref lk, .ref sp, .ref st, .ref pa, .ref br, .ref sg, .int 0, .int 0, .int 0, .int 0, .int 0, .int 0, .long 0, .long 0, .long 0, .long 0, .int 0]))]) (t9 := []) hP hK hD [0] [] rfl (by decide) rfl rfl t ht hW⟩, hS.F ht⟩) hS.2.2 dX15_tired_36
abbrev wd_k_m_tired_bad (z : Nat → Nat) (p0 : Int32) (mo : Nat) (ti : Nat) (si : Nat) (lo : Nat) (lh : Nat) (lk : Nat) (sp : Nat) (st : Nat) (pa : Nat) (br : Nat) (sg : Nat) (th : Int32) : va_W := [(mo, .inr (19, [.int 0, .int 0, .int 0, .int 0, .int 0, .int 0, .int 0, .ref ti, .ref si, .ref lo, .ref lh, .ref lk, .ref sp, .ref st, .ref pa, .ref br, .ref sg, .int 0, .int 0, .int 0, .int 0, .int 0, .int 0, .long 0, .long 0, .long 0, .long 0, .int th]))]
set_option maxHeartbeats 4000000 in
set_option maxRecDepth 100000 in
theorem k_m_tired_bad (l : Launch) (dC : Nat → ClassId) (dI : Nat → Nat → Nat) (z zK zV : Nat → Nat) (p0 : Int32) (mo : Nat) (ti : Nat) (si : Nat) (lo : Nat) (lh : Nat) (lk : Nat) (sp : Nat) (st : Nat) (pa : Nat) (br : Nat) (sg : Nat) (th : Int32) (sz : Nat) (hb0 : ¬ ((0 : Int32) ≤ p0 ∧ p0 ≤ 1)) : Met l yX15_tired wsX15_tired ({ frames := 1, cells := 0, slots := 0, locals := 25 }) (kP dC dI z zK zV [.ref mo, .int p0] sz (wd_k_m_tired_bad z p0 mo ti si lo lh lk sp st pa br sg th) []) (va_Qi (fun (r : Int32) (_ : Unit) => (-1) = r) (fun _ t => kB (dC, dI) (va_A (wd_k_m_tired_bad z p0 mo ti si lo lh lk sp st pa br sg th) sz) [(mo, .inr (19, [.int 0, .int 0, .int 0, .int 0, .int 0, .int 0, .int 0, .ref ti, .ref si, .ref lo, .ref lh, .ref lk, .ref sp, .ref st, .ref pa, .ref br, .ref sg, .int 0, .int 0, .int 0, .int 0, .int 0, .int 0, .long 0, .long 0, .long 0, .long 0, .int 1]))] [] t) (va_A (wd_k_m_tired_bad z p0 mo ti si lo lh lk sp st pa br sg th) sz)) 0 0 (va_A (wd_k_m_tired_bad z p0 mo ti si lo lh lk sp st pa br sg th) sz) := by
  refine Met.ofW (cc := cX15_tired) (maxL := 2) (ret := (some .int)) (by decide) rfl ?_
  intro p e s m args below meth c s₁ B hml hv
  obtain ⟨rfl, hsz, hP, hK, hD0, hM⟩ := hv
  have hx := B.exec
  have hb := B.bytes
  have hr := B.returns
  have hts := atoms_spec (ws := wsX15_tired) B.pre
  have hown : s.vm.findClass RX15 = some m.cls := findClass_of_methodNamed B.named
  have hlocks := B.notSynchronized
  have hiX15 : ∀ w ∈ u_ws RX15 TX15 28, w ∈ wsX15_tired := by decide +kernel
  subst hsz
  have hD := hD0.self (sz := s.heap.size)
  generalize hAe : va_A (wd_k_m_tired_bad z p0 mo ti si lo lh lk sp st pa br sg th) s.heap.size = A at hD hM ⊢
  have hA : ∀ q : Nat, s.heap.size ≤ q → A q := fun q h => by rw [← hAe]; exact Or.inr h
  have hS : va_S A s.heap s.heap [] := va_S.rf
  have hP : va_P (dC, dI) vwCl [(mo, .inr (19, [.int 0, .int 0, .int 0, .int 0, .int 0, .int 0, .int 0, .ref ti, .ref si, .ref lo, .ref lh, .ref lk, .ref sp, .ref st, .ref pa, .ref br, .ref sg, .int 0, .int 0, .int 0, .int 0, .int 0, .int 0, .long 0, .long 0, .long 0, .long 0, .int th]))] s.heap := hP
  have hD : va_D A [(mo, .inr (19, [.int 0, .int 0, .int 0, .int 0, .int 0, .int 0, .int 0, .ref ti, .ref si, .ref lo, .ref lh, .ref lk, .ref sp, .ref st, .ref pa, .ref br, .ref sg, .int 0, .int 0, .int 0, .int 0, .int 0, .int 0, .long 0, .long 0, .long 0, .long 0, .int th]))] := hD
  have hl := lv_entry ([.ref mo, .int p0]) (n := 2) (Nat.le_of_ble_eq_true rfl)
  rw [lg_entry_eq]
  generalize (lg_sl ([.ref mo, .int p0]) ++ List.replicate (2 - (lg_sl ([.ref mo, .int p0])).length) Slot.unset).toArray = ls at hl ⊢
  have hl : lv_has ls 2 [(0, .ref mo), (1, .int p0)] := hl
  refine lv_aload_n hx hb dX15_tired_0 rfl (lv_at hl 0 rfl) ?_
  refine lv_iload_n hx hb dX15_tired_1 rfl (lv_at hl 1 rfl) ?_
  refine lv_i2l (v := p0.toInt64) hx hb dX15_tired_2 rfl ?_
  refine lv_lconst (v := 0) hx hb dX15_tired_3 (by decide) ?_
  refine lv_lconst (v := 1) hx hb dX15_tired_4 (by decide) ?_
  have hPc := hP.sub (ws' := []) [] rfl
  have hDc := hD.sub (ws' := []) [] (by decide) rfl
  have hKc := hK.sub (tys' := []) [] rfl
  have hFc := va_free (wc := []) hD hS hA [] rfl
  refine va_calli (va_runS (As := [.long p0.toInt64, .long 0, .long 1]) (rest := [.ref mo]) ⟨hx, hb, hml, hown, hts⟩ (k_in l dC dI z zK zV p0.toInt64 0 1 s.heap.size) (va_cwS 3 hts gX15_tired_X15_in rfl rfl rfl (by decide +kernel) ⟨Nat.le_of_ble_eq_true rfl, Nat.le_of_ble_eq_true rfl⟩) ⟨kP_blind, kP_go hPc hKc hDc hFc hM hS⟩ rfl rfl hl.1 rfl (lv_room (Nat.le_of_ble_eq_true rfl)) dX15_tired_5 ⟨Nat.le_of_ble_eq_true rfl, Nat.le_of_ble_eq_true rfl⟩) hS (fun q _ h => hFc q h) hFc (fun r1 u t H1 locs ht hvm hw hB hz1 hk1 hS => ?_)
  obtain ⟨hP, hD, hK⟩ := kJ (wr := [(mo, .inr (19, [.int 0, .int 0, .int 0, .int 0, .int 0, .int 0, .int 0, .ref ti, .ref si, .ref lo, .ref lh, .ref lk, .ref sp, .ref st, .ref pa, .ref br, .ref sg, .int 0, .int 0, .int 0, .int 0, .int 0, .int 0, .long 0, .long 0, .long 0, .long 0, .int th]))]) (w1 := []) (t1 := []) hP hD hK [] [0] rfl rfl (by decide) (by decide) hk1 hFc ht hvm hB
  generalize H1 = H at hP hS ⊢
  have hP : va_P (dC, dI) vwCl [(mo, .inr (19, [.int 0, .int 0, .int 0, .int 0, .int 0, .int 0, .int 0, .ref ti, .ref si, .ref lo, .ref lh, .ref lk, .ref sp, .ref st, .ref pa, .ref br, .ref sg, .int 0, .int 0, .int 0, .int 0, .int 0, .int 0, .long 0, .long 0, .long 0, .long 0, .int th]))] H := hP
  have hD : va_D A [(mo, .inr (19, [.int 0, .int 0, .int 0, .int 0, .int 0, .int 0, .int 0, .ref ti, .ref si, .ref lo, .ref lh, .ref lk, .ref sp, .ref st, .ref pa, .ref br, .ref sg, .int 0, .int 0, .int 0, .int 0, .int 0, .int 0, .long 0, .long 0, .long 0, .long 0, .int th]))] := hD
  have hK : va_K (dC, dI) vwCl [] s := hK
  obtain rfl : (if 0 ≤ (p0.toInt64) ∧ (p0.toInt64) ≤ 1 then (1 : Int32) else 0) = r1 := hw
  refine kc_i (y := (if 0 ≤ p0 ∧ p0 ≤ 1 then (1 : Int32) else 0)) (k_inP (a := 0) (b := 1) (by decide +kernel) (by decide +kernel)) ?_
  refine lv_if_eq (tgt := 15) hx hb dX15_tired_8 (by decide) (fun _ => ?_) (fun c_ => absurd (if_neg hb0) c_)
  refine lv_iconst (v := 1) hx hb dX15_tired_15 (by decide) ?_
  refine va_put (D := (dC, dI)) (ci := 19) (v := .int 1) (ty := .int) (C := RX15) (T := TX15) (N := 28) hx hb hts hiX15 tyX15 tyX15_ok nmX15 hown hK hP hD hS 0 rfl rfl 27 (by decide) (hts (.fieldLink RX15 45 "SquareRigModel" "thrown" "I") (by decide +kernel)) (fun _ h9 => h9) rfl (by decide +kernel) rfl rfl (Nat.le_of_ble_eq_true rfl) dX15_tired_16 (fun H locs hP hD hS => ?_)
  have hP : va_P (dC, dI) vwCl [(mo, .inr (19, [.int 0, .int 0, .int 0, .int 0, .int 0, .int 0, .int 0, .ref ti, .ref si, .ref lo, .ref lh, .ref lk, .ref sp, .ref st, .ref pa, .ref br, .ref sg, .int 0, .int 0, .int 0, .int 0, .int 0, .int 0, .long 0, .long 0, .long 0, .long 0, .int 1]))] H := hP
  have hD : va_D A [(mo, .inr (19, [.int 0, .int 0, .int 0, .int 0, .int 0, .int 0, .int 0, .ref ti, .ref si, .ref lo, .ref lh, .ref lk, .ref sp, .ref st, .ref pa, .ref br, .ref sg, .int 0, .int 0, .int 0, .int 0, .int 0, .int 0, .long 0, .long 0, .long 0, .long 0, .int 1]))] := hD
  refine lv_aload_n hx hb dX15_tired_19 rfl (lv_at hl 0 rfl) ?_
  refine va_get (D := (dC, dI)) (ci := 19) (v := .int 1) (C := RX15) (T := TX15) (N := 28) hx hb hts hiX15 hown hK hP 0 rfl rfl 27 (by decide) (hts (.fieldLink RX15 45 "SquareRigModel" "thrown" "I") (by decide +kernel)) (fun _ h9 => h9) rfl dX15_tired_20 ?_
  refine lv_if_ne (tgt := 35) hx hb dX15_tired_23 (by decide) (fun _ => ?_) (fun c_ => absurd c_ (by decide +kernel))
  refine lv_iconst (v := (-1)) hx hb dX15_tired_35 (by decide) ?_
  exact W.iret (v := (-1)) hx hb hr (fun t ht hW => ⟨⟨(-1), (), rfl, rfl, kB_end (w9 := [(mo, .inr (19, [.int 0, .int 0, .int 0, .int 0, .int 0, .int 0, .int 0, .ref ti, .ref si, .ref lo, .ref lh, .ref lk, .ref sp, .ref st, .ref pa, .ref br, .ref sg, .int 0, .int 0, .int 0, .int 0, .int 0, .int 0, .long 0, .long 0, .long 0, .long 0, .int 1]))]) (t9 := []) hP hK hD [0] [] rfl (by decide) rfl rfl t ht hW⟩, hS.F ht⟩) hS.2.2 dX15_tired_36
abbrev wd_k_m_sick0 (z : Nat → Nat) (mo : Nat) (ti : Nat) (si : Nat) (lo : Nat) (lh : Nat) (lk : Nat) (sp : Nat) (st : Nat) (pa : Nat) (br : Nat) (sg : Nat) (csi : ClassId) (th : Int32) : va_W := [(mo, .inr (19, [.int 0, .int 0, .int 0, .int 0, .int 0, .int 0, .int 0, .ref ti, .ref si, .ref lo, .ref lh, .ref lk, .ref sp, .ref st, .ref pa, .ref br, .ref sg, .int 0, .int 0, .int 0, .int 0, .int 0, .int 0, .long 0, .long 0, .long 0, .long 0, .int th])), (si, .inl (csi, 2, .inl (fun _ => 0)))]
set_option maxHeartbeats 4000000 in
set_option maxRecDepth 100000 in
theorem k_m_sick0 (l : Launch) (dC : Nat → ClassId) (dI : Nat → Nat → Nat) (z zK zV : Nat → Nat) (mo : Nat) (ti : Nat) (si : Nat) (lo : Nat) (lh : Nat) (lk : Nat) (sp : Nat) (st : Nat) (pa : Nat) (br : Nat) (sg : Nat) (csi : ClassId) (th : Int32) (sz : Nat)  : Met l yX15_sick wsX15_sick ({ frames := 1, cells := 0, slots := 0, locals := 25 }) (kP dC dI z zK zV [.ref mo, .int 0] sz (wd_k_m_sick0 z mo ti si lo lh lk sp st pa br sg csi th) [(csi, .int)]) (va_Qi (fun (r : Int32) (_ : Unit) => 0 = r) (fun _ t => kB (dC, dI) (va_A (wd_k_m_sick0 z mo ti si lo lh lk sp st pa br sg csi th) sz) [(mo, .inr (19, [.int 0, .int 0, .int 0, .int 0, .int 0, .int 0, .int 0, .ref ti, .ref si, .ref lo, .ref lh, .ref lk, .ref sp, .ref st, .ref pa, .ref br, .ref sg, .int 0, .int 0, .int 0, .int 0, .int 0, .int 0, .long 0, .long 0, .long 0, .long 0, .int 0]))] [] t) (va_A (wd_k_m_sick0 z mo ti si lo lh lk sp st pa br sg csi th) sz)) 0 0 (va_A (wd_k_m_sick0 z mo ti si lo lh lk sp st pa br sg csi th) sz) := by
  refine Met.ofW (cc := cX15_sick) (maxL := 2) (ret := (some .int)) (by decide) rfl ?_
  intro p e s m args below meth c s₁ B hml hv
  obtain ⟨rfl, hsz, hP, hK, hD0, hM⟩ := hv
  have hx := B.exec
  have hb := B.bytes
  have hr := B.returns
  have hts := atoms_spec (ws := wsX15_sick) B.pre
  have hown : s.vm.findClass RX15 = some m.cls := findClass_of_methodNamed B.named
  have hlocks := B.notSynchronized
  have hiX15 : ∀ w ∈ u_ws RX15 TX15 28, w ∈ wsX15_sick := by decide +kernel
  subst hsz
  have hD := hD0.self (sz := s.heap.size)
  generalize hAe : va_A (wd_k_m_sick0 z mo ti si lo lh lk sp st pa br sg csi th) s.heap.size = A at hD hM ⊢
  have hA : ∀ q : Nat, s.heap.size ≤ q → A q := fun q h => by rw [← hAe]; exact Or.inr h
  have hS : va_S A s.heap s.heap [] := va_S.rf
  have hP : va_P (dC, dI) vwCl [(mo, .inr (19, [.int 0, .int 0, .int 0, .int 0, .int 0, .int 0, .int 0, .ref ti, .ref si, .ref lo, .ref lh, .ref lk, .ref sp, .ref st, .ref pa, .ref br, .ref sg, .int 0, .int 0, .int 0, .int 0, .int 0, .int 0, .long 0, .long 0, .long 0, .long 0, .int th])), (si, .inl (csi, 2, .inl (fun _ => 0)))] s.heap := hP
  have hD : va_D A [(mo, .inr (19, [.int 0, .int 0, .int 0, .int 0, .int 0, .int 0, .int 0, .ref ti, .ref si, .ref lo, .ref lh, .ref lk, .ref sp, .ref st, .ref pa, .ref br, .ref sg, .int 0, .int 0, .int 0, .int 0, .int 0, .int 0, .long 0, .long 0, .long 0, .long 0, .int th])), (si, .inl (csi, 2, .inl (fun _ => 0)))] := hD
  have hl := lv_entry ([.ref mo, .int 0]) (n := 2) (Nat.le_of_ble_eq_true rfl)
  rw [lg_entry_eq]
  generalize (lg_sl ([.ref mo, .int 0]) ++ List.replicate (2 - (lg_sl ([.ref mo, .int 0])).length) Slot.unset).toArray = ls at hl ⊢
  have hl : lv_has ls 2 [(0, .ref mo), (1, .int 0)] := hl
  refine lv_aload_n hx hb dX15_sick_0 rfl (lv_at hl 0 rfl) ?_
  refine lv_iload_n hx hb dX15_sick_1 rfl (lv_at hl 1 rfl) ?_
  refine lv_i2l (v := 0) hx hb dX15_sick_2 (by decide +kernel) ?_
  refine lv_lconst (v := 0) hx hb dX15_sick_3 (by decide) ?_
  refine lv_lconst (v := 1) hx hb dX15_sick_4 (by decide) ?_
  have hPc := hP.sub (ws' := []) [] rfl
  have hDc := hD.sub (ws' := []) [] (by decide) rfl
  have hKc := hK.sub (tys' := []) [] rfl
  have hFc := va_free (wc := []) hD hS hA [] rfl
  refine va_calli (va_runS (As := [.long 0, .long 0, .long 1]) (rest := [.ref mo]) ⟨hx, hb, hml, hown, hts⟩ (k_in l dC dI z zK zV 0 0 1 s.heap.size) (va_cwS 3 hts gX15_sick_X15_in rfl rfl rfl (by decide +kernel) ⟨Nat.le_of_ble_eq_true rfl, Nat.le_of_ble_eq_true rfl⟩) ⟨kP_blind, kP_go hPc hKc hDc hFc hM hS⟩ rfl rfl hl.1 rfl (lv_room (Nat.le_of_ble_eq_true rfl)) dX15_sick_5 ⟨Nat.le_of_ble_eq_true rfl, Nat.le_of_ble_eq_true rfl⟩) hS (fun q _ h => hFc q h) hFc (fun r1 u t H1 locs ht hvm hw hB hz1 hk1 hS => ?_)
  obtain ⟨hP, hD, hK⟩ := kJ (wr := [(mo, .inr (19, [.int 0, .int 0, .int 0, .int 0, .int 0, .int 0, .int 0, .ref ti, .ref si, .ref lo, .ref lh, .ref lk, .ref sp, .ref st, .ref pa, .ref br, .ref sg, .int 0, .int 0, .int 0, .int 0, .int 0, .int 0, .long 0, .long 0, .long 0, .long 0, .int th])), (si, .inl (csi, 2, .inl (fun _ => 0)))]) (w1 := []) (t1 := []) hP hD hK [] [0, 1] rfl rfl (by decide) (by decide) hk1 hFc ht hvm hB
  generalize H1 = H at hP hS ⊢
  have hP : va_P (dC, dI) vwCl [(mo, .inr (19, [.int 0, .int 0, .int 0, .int 0, .int 0, .int 0, .int 0, .ref ti, .ref si, .ref lo, .ref lh, .ref lk, .ref sp, .ref st, .ref pa, .ref br, .ref sg, .int 0, .int 0, .int 0, .int 0, .int 0, .int 0, .long 0, .long 0, .long 0, .long 0, .int th])), (si, .inl (csi, 2, .inl (fun _ => 0)))] H := hP
  have hD : va_D A [(mo, .inr (19, [.int 0, .int 0, .int 0, .int 0, .int 0, .int 0, .int 0, .ref ti, .ref si, .ref lo, .ref lh, .ref lk, .ref sp, .ref st, .ref pa, .ref br, .ref sg, .int 0, .int 0, .int 0, .int 0, .int 0, .int 0, .long 0, .long 0, .long 0, .long 0, .int th])), (si, .inl (csi, 2, .inl (fun _ => 0)))] := hD
  have hK : va_K (dC, dI) vwCl [(csi, .int)] s := hK
  obtain rfl : (if 0 ≤ 0 ∧ 0 ≤ 1 then (1 : Int32) else 0) = r1 := hw
  refine kc_i (y := 1) (by decide +kernel) ?_
  refine lv_if_eq (tgt := 15) hx hb dX15_sick_8 (by decide) (fun c_ => absurd c_ (by decide +kernel)) (fun _ => ?_)
  refine lv_iconst (v := 0) hx hb dX15_sick_11 (by decide) ?_
  refine lv_goto (tgt := 16) hx hb dX15_sick_12 (by decide) ?_
  refine va_put (D := (dC, dI)) (ci := 19) (v := .int 0) (ty := .int) (C := RX15) (T := TX15) (N := 28) hx hb hts hiX15 tyX15 tyX15_ok nmX15 hown hK hP hD hS 0 rfl rfl 27 (by decide) (hts (.fieldLink RX15 45 "SquareRigModel" "thrown" "I") (by decide +kernel)) (fun _ h9 => h9) rfl (by decide +kernel) rfl rfl (Nat.le_of_ble_eq_true rfl) dX15_sick_16 (fun H locs hP hD hS => ?_)
  have hP : va_P (dC, dI) vwCl [(mo, .inr (19, [.int 0, .int 0, .int 0, .int 0, .int 0, .int 0, .int 0, .ref ti, .ref si, .ref lo, .ref lh, .ref lk, .ref sp, .ref st, .ref pa, .ref br, .ref sg, .int 0, .int 0, .int 0, .int 0, .int 0, .int 0, .long 0, .long 0, .long 0, .long 0, .int 0])), (si, .inl (csi, 2, .inl (fun _ => 0)))] H := hP
  have hD : va_D A [(mo, .inr (19, [.int 0, .int 0, .int 0, .int 0, .int 0, .int 0, .int 0, .ref ti, .ref si, .ref lo, .ref lh, .ref lk, .ref sp, .ref st, .ref pa, .ref br, .ref sg, .int 0, .int 0, .int 0, .int 0, .int 0, .int 0, .long 0, .long 0, .long 0, .long 0, .int 0])), (si, .inl (csi, 2, .inl (fun _ => 0)))] := hD
  refine lv_aload_n hx hb dX15_sick_19 rfl (lv_at hl 0 rfl) ?_
  refine va_get (D := (dC, dI)) (ci := 19) (v := .int 0) (C := RX15) (T := TX15) (N := 28) hx hb hts hiX15 hown hK hP 0 rfl rfl 27 (by decide) (hts (.fieldLink RX15 45 "SquareRigModel" "thrown" "I") (by decide +kernel)) (fun _ h9 => h9) rfl dX15_sick_20 ?_
  refine lv_if_ne (tgt := 35) hx hb dX15_sick_23 (by decide) (fun c_ => absurd (by decide +kernel) c_) (fun _ => ?_)
  refine lv_aload_n hx hb dX15_sick_26 rfl (lv_at hl 0 rfl) ?_
  refine va_get (D := (dC, dI)) (ci := 19) (v := .ref si) (C := RX15) (T := TX15) (N := 28) hx hb hts hiX15 hown hK hP 0 rfl rfl 8 (by decide) (hts (.fieldLink RX15 13 "SquareRigModel" "sick" "[I") (by decide +kernel)) (fun _ h9 => h9) rfl dX15_sick_27 ?_
  refine lv_iload_n hx hb dX15_sick_30 rfl (lv_at hl 1 rfl) ?_
  refine va_iald hx hb hK hP 1 0 rfl rfl (pk_in 0 2 (by decide) rfl) dX15_sick_31 ?_
  refine kc_v (y := .int 0) rfl ?_
  refine lv_goto (tgt := 36) hx hb dX15_sick_32 (by decide) ?_
  exact W.iret (v := 0) hx hb hr (fun t ht hW => ⟨⟨0, (), rfl, rfl, kB_end (w9 := [(mo, .inr (19, [.int 0, .int 0, .int 0, .int 0, .int 0, .int 0, .int 0, .ref ti, .ref si, .ref lo, .ref lh, .ref lk, .ref sp, .ref st, .ref pa, .ref br, .ref sg, .int 0, .int 0, .int 0, .int 0, .int 0, .int 0, .long 0, .long 0, .long 0, .long 0, .int 0]))]) (t9 := []) hP hK hD [0] [] rfl (by decide) rfl rfl t ht hW⟩, hS.F ht⟩) hS.2.2 dX15_sick_36
abbrev wd_k_m_sick1 (z : Nat → Nat) (mo : Nat) (ti : Nat) (si : Nat) (lo : Nat) (lh : Nat) (lk : Nat) (sp : Nat) (st : Nat) (pa : Nat) (br : Nat) (sg : Nat) (csi : ClassId) (th : Int32) : va_W := [(mo, .inr (19, [.int 0, .int 0, .int 0, .int 0, .int 0, .int 0, .int 0, .ref ti, .ref si, .ref lo, .ref lh, .ref lk, .ref sp, .ref st, .ref pa, .ref br, .ref sg, .int 0, .int 0, .int 0, .int 0, .int 0, .int 0, .long 0, .long 0, .long 0, .long 0, .int th])), (si, .inl (csi, 2, .inl (fun _ => 0)))]
set_option maxHeartbeats 4000000 in
set_option maxRecDepth 100000 in
theorem k_m_sick1 (l : Launch) (dC : Nat → ClassId) (dI : Nat → Nat → Nat) (z zK zV : Nat → Nat) (mo : Nat) (ti : Nat) (si : Nat) (lo : Nat) (lh : Nat) (lk : Nat) (sp : Nat) (st : Nat) (pa : Nat) (br : Nat) (sg : Nat) (csi : ClassId) (th : Int32) (sz : Nat)  : Met l yX15_sick wsX15_sick ({ frames := 1, cells := 0, slots := 0, locals := 25 }) (kP dC dI z zK zV [.ref mo, .int 1] sz (wd_k_m_sick1 z mo ti si lo lh lk sp st pa br sg csi th) [(csi, .int)]) (va_Qi (fun (r : Int32) (_ : Unit) => 0 = r) (fun _ t => kB (dC, dI) (va_A (wd_k_m_sick1 z mo ti si lo lh lk sp st pa br sg csi th) sz) [(mo, .inr (19, [.int 0, .int 0, .int 0, .int 0, .int 0, .int 0, .int 0, .ref ti, .ref si, .ref lo, .ref lh, .ref lk, .ref sp, .ref st, .ref pa, .ref br, .ref sg, .int 0, .int 0, .int 0, .int 0, .int 0, .int 0, .long 0, .long 0, .long 0, .long 0, .int 0]))] [] t) (va_A (wd_k_m_sick1 z mo ti si lo lh lk sp st pa br sg csi th) sz)) 0 0 (va_A (wd_k_m_sick1 z mo ti si lo lh lk sp st pa br sg csi th) sz) := by
  refine Met.ofW (cc := cX15_sick) (maxL := 2) (ret := (some .int)) (by decide) rfl ?_
  intro p e s m args below meth c s₁ B hml hv
  obtain ⟨rfl, hsz, hP, hK, hD0, hM⟩ := hv
  have hx := B.exec
  have hb := B.bytes
  have hr := B.returns
  have hts := atoms_spec (ws := wsX15_sick) B.pre
  have hown : s.vm.findClass RX15 = some m.cls := findClass_of_methodNamed B.named
  have hlocks := B.notSynchronized
  have hiX15 : ∀ w ∈ u_ws RX15 TX15 28, w ∈ wsX15_sick := by decide +kernel
  subst hsz
  have hD := hD0.self (sz := s.heap.size)
  generalize hAe : va_A (wd_k_m_sick1 z mo ti si lo lh lk sp st pa br sg csi th) s.heap.size = A at hD hM ⊢
  have hA : ∀ q : Nat, s.heap.size ≤ q → A q := fun q h => by rw [← hAe]; exact Or.inr h
  have hS : va_S A s.heap s.heap [] := va_S.rf
  have hP : va_P (dC, dI) vwCl [(mo, .inr (19, [.int 0, .int 0, .int 0, .int 0, .int 0, .int 0, .int 0, .ref ti, .ref si, .ref lo, .ref lh, .ref lk, .ref sp, .ref st, .ref pa, .ref br, .ref sg, .int 0, .int 0, .int 0, .int 0, .int 0, .int 0, .long 0, .long 0, .long 0, .long 0, .int th])), (si, .inl (csi, 2, .inl (fun _ => 0)))] s.heap := hP
  have hD : va_D A [(mo, .inr (19, [.int 0, .int 0, .int 0, .int 0, .int 0, .int 0, .int 0, .ref ti, .ref si, .ref lo, .ref lh, .ref lk, .ref sp, .ref st, .ref pa, .ref br, .ref sg, .int 0, .int 0, .int 0, .int 0, .int 0, .int 0, .long 0, .long 0, .long 0, .long 0, .int th])), (si, .inl (csi, 2, .inl (fun _ => 0)))] := hD
  have hl := lv_entry ([.ref mo, .int 1]) (n := 2) (Nat.le_of_ble_eq_true rfl)
  rw [lg_entry_eq]
  generalize (lg_sl ([.ref mo, .int 1]) ++ List.replicate (2 - (lg_sl ([.ref mo, .int 1])).length) Slot.unset).toArray = ls at hl ⊢
  have hl : lv_has ls 2 [(0, .ref mo), (1, .int 1)] := hl
  refine lv_aload_n hx hb dX15_sick_0 rfl (lv_at hl 0 rfl) ?_
  refine lv_iload_n hx hb dX15_sick_1 rfl (lv_at hl 1 rfl) ?_
  refine lv_i2l (v := 1) hx hb dX15_sick_2 (by decide +kernel) ?_
  refine lv_lconst (v := 0) hx hb dX15_sick_3 (by decide) ?_
  refine lv_lconst (v := 1) hx hb dX15_sick_4 (by decide) ?_
  have hPc := hP.sub (ws' := []) [] rfl
  have hDc := hD.sub (ws' := []) [] (by decide) rfl
  have hKc := hK.sub (tys' := []) [] rfl
  have hFc := va_free (wc := []) hD hS hA [] rfl
  refine va_calli (va_runS (As := [.long 1, .long 0, .long 1]) (rest := [.ref mo]) ⟨hx, hb, hml, hown, hts⟩ (k_in l dC dI z zK zV 1 0 1 s.heap.size) (va_cwS 3 hts gX15_sick_X15_in rfl rfl rfl (by decide +kernel) ⟨Nat.le_of_ble_eq_true rfl, Nat.le_of_ble_eq_true rfl⟩) ⟨kP_blind, kP_go hPc hKc hDc hFc hM hS⟩ rfl rfl hl.1 rfl (lv_room (Nat.le_of_ble_eq_true rfl)) dX15_sick_5 ⟨Nat.le_of_ble_eq_true rfl, Nat.le_of_ble_eq_true rfl⟩) hS (fun q _ h => hFc q h) hFc (fun r1 u t H1 locs ht hvm hw hB hz1 hk1 hS => ?_)
  obtain ⟨hP, hD, hK⟩ := kJ (wr := [(mo, .inr (19, [.int 0, .int 0, .int 0, .int 0, .int 0, .int 0, .int 0, .ref ti, .ref si, .ref lo, .ref lh, .ref lk, .ref sp, .ref st, .ref pa, .ref br, .ref sg, .int 0, .int 0, .int 0, .int 0, .int 0, .int 0, .long 0, .long 0, .long 0, .long 0, .int th])), (si, .inl (csi, 2, .inl (fun _ => 0)))]) (w1 := []) (t1 := []) hP hD hK [] [0, 1] rfl rfl (by decide) (by decide) hk1 hFc ht hvm hB
  generalize H1 = H at hP hS ⊢
  have hP : va_P (dC, dI) vwCl [(mo, .inr (19, [.int 0, .int 0, .int 0, .int 0, .int 0, .int 0, .int 0, .ref ti, .ref si, .ref lo, .ref lh, .ref lk, .ref sp, .ref st, .ref pa, .ref br, .ref sg, .int 0, .int 0, .int 0, .int 0, .int 0, .int 0, .long 0, .long 0, .long 0, .long 0, .int th])), (si, .inl (csi, 2, .inl (fun _ => 0)))] H := hP
  have hD : va_D A [(mo, .inr (19, [.int 0, .int 0, .int 0, .int 0, .int 0, .int 0, .int 0, .ref ti, .ref si, .ref lo, .ref lh, .ref lk, .ref sp, .ref st, .ref pa, .ref br, .ref sg, .int 0, .int 0, .int 0, .int 0, .int 0, .int 0, .long 0, .long 0, .long 0, .long 0, .int th])), (si, .inl (csi, 2, .inl (fun _ => 0)))] := hD
  have hK : va_K (dC, dI) vwCl [(csi, .int)] s := hK
  obtain rfl : (if 0 ≤ 1 ∧ 1 ≤ 1 then (1 : Int32) else 0) = r1 := hw
  refine kc_i (y := 1) (by decide +kernel) ?_
  refine lv_if_eq (tgt := 15) hx hb dX15_sick_8 (by decide) (fun c_ => absurd c_ (by decide +kernel)) (fun _ => ?_)
  refine lv_iconst (v := 0) hx hb dX15_sick_11 (by decide) ?_
  refine lv_goto (tgt := 16) hx hb dX15_sick_12 (by decide) ?_
  refine va_put (D := (dC, dI)) (ci := 19) (v := .int 0) (ty := .int) (C := RX15) (T := TX15) (N := 28) hx hb hts hiX15 tyX15 tyX15_ok nmX15 hown hK hP hD hS 0 rfl rfl 27 (by decide) (hts (.fieldLink RX15 45 "SquareRigModel" "thrown" "I") (by decide +kernel)) (fun _ h9 => h9) rfl (by decide +kernel) rfl rfl (Nat.le_of_ble_eq_true rfl) dX15_sick_16 (fun H locs hP hD hS => ?_)
  have hP : va_P (dC, dI) vwCl [(mo, .inr (19, [.int 0, .int 0, .int 0, .int 0, .int 0, .int 0, .int 0, .ref ti, .ref si, .ref lo, .ref lh, .ref lk, .ref sp, .ref st, .ref pa, .ref br, .ref sg, .int 0, .int 0, .int 0, .int 0, .int 0, .int 0, .long 0, .long 0, .long 0, .long 0, .int 0])), (si, .inl (csi, 2, .inl (fun _ => 0)))] H := hP
  have hD : va_D A [(mo, .inr (19, [.int 0, .int 0, .int 0, .int 0, .int 0, .int 0, .int 0, .ref ti, .ref si, .ref lo, .ref lh, .ref lk, .ref sp, .ref st, .ref pa, .ref br, .ref sg, .int 0, .int 0, .int 0, .int 0, .int 0, .int 0, .long 0, .long 0, .long 0, .long 0, .int 0])), (si, .inl (csi, 2, .inl (fun _ => 0)))] := hD
  refine lv_aload_n hx hb dX15_sick_19 rfl (lv_at hl 0 rfl) ?_
  refine va_get (D := (dC, dI)) (ci := 19) (v := .int 0) (C := RX15) (T := TX15) (N := 28) hx hb hts hiX15 hown hK hP 0 rfl rfl 27 (by decide) (hts (.fieldLink RX15 45 "SquareRigModel" "thrown" "I") (by decide +kernel)) (fun _ h9 => h9) rfl dX15_sick_20 ?_
  refine lv_if_ne (tgt := 35) hx hb dX15_sick_23 (by decide) (fun c_ => absurd (by decide +kernel) c_) (fun _ => ?_)
  refine lv_aload_n hx hb dX15_sick_26 rfl (lv_at hl 0 rfl) ?_
  refine va_get (D := (dC, dI)) (ci := 19) (v := .ref si) (C := RX15) (T := TX15) (N := 28) hx hb hts hiX15 hown hK hP 0 rfl rfl 8 (by decide) (hts (.fieldLink RX15 13 "SquareRigModel" "sick" "[I") (by decide +kernel)) (fun _ h9 => h9) rfl dX15_sick_27 ?_
  refine lv_iload_n hx hb dX15_sick_30 rfl (lv_at hl 1 rfl) ?_
  refine va_iald hx hb hK hP 1 0 rfl rfl (pk_in 1 2 (by decide) rfl) dX15_sick_31 ?_
  refine kc_v (y := .int 0) rfl ?_
  refine lv_goto (tgt := 36) hx hb dX15_sick_32 (by decide) ?_
  exact W.iret (v := 0) hx hb hr (fun t ht hW => ⟨⟨0, (), rfl, rfl, kB_end (w9 := [(mo, .inr (19, [.int 0, .int 0, .int 0, .int 0, .int 0, .int 0, .int 0, .ref ti, .ref si, .ref lo, .ref lh, .ref lk, .ref sp, .ref st, .ref pa, .ref br, .ref sg, .int 0, .int 0, .int 0, .int 0, .int 0, .int 0, .long 0, .long 0, .long 0, .long 0, .int 0]))]) (t9 := []) hP hK hD [0] [] rfl (by decide) rfl rfl t ht hW⟩, hS.F ht⟩) hS.2.2 dX15_sick_36
abbrev wd_k_m_sick_bad (z : Nat → Nat) (p0 : Int32) (mo : Nat) (ti : Nat) (si : Nat) (lo : Nat) (lh : Nat) (lk : Nat) (sp : Nat) (st : Nat) (pa : Nat) (br : Nat) (sg : Nat) (th : Int32) : va_W := [(mo, .inr (19, [.int 0, .int 0, .int 0, .int 0, .int 0, .int 0, .int 0, .ref ti, .ref si, .ref lo, .ref lh, .ref lk, .ref sp, .ref st, .ref pa, .ref br, .ref sg, .int 0, .int 0, .int 0, .int 0, .int 0, .int 0, .long 0, .long 0, .long 0, .long 0, .int th]))]
set_option maxHeartbeats 4000000 in
set_option maxRecDepth 100000 in
theorem k_m_sick_bad (l : Launch) (dC : Nat → ClassId) (dI : Nat → Nat → Nat) (z zK zV : Nat → Nat) (p0 : Int32) (mo : Nat) (ti : Nat) (si : Nat) (lo : Nat) (lh : Nat) (lk : Nat) (sp : Nat) (st : Nat) (pa : Nat) (br : Nat) (sg : Nat) (th : Int32) (sz : Nat) (hb0 : ¬ ((0 : Int32) ≤ p0 ∧ p0 ≤ 1)) : Met l yX15_sick wsX15_sick ({ frames := 1, cells := 0, slots := 0, locals := 25 }) (kP dC dI z zK zV [.ref mo, .int p0] sz (wd_k_m_sick_bad z p0 mo ti si lo lh lk sp st pa br sg th) []) (va_Qi (fun (r : Int32) (_ : Unit) => (-1) = r) (fun _ t => kB (dC, dI) (va_A (wd_k_m_sick_bad z p0 mo ti si lo lh lk sp st pa br sg th) sz) [(mo, .inr (19, [.int 0, .int 0, .int 0, .int 0, .int 0, .int 0, .int 0, .ref ti, .ref si, .ref lo, .ref lh, .ref lk, .ref sp, .ref st, .ref pa, .ref br, .ref sg, .int 0, .int 0, .int 0, .int 0, .int 0, .int 0, .long 0, .long 0, .long 0, .long 0, .int 1]))] [] t) (va_A (wd_k_m_sick_bad z p0 mo ti si lo lh lk sp st pa br sg th) sz)) 0 0 (va_A (wd_k_m_sick_bad z p0 mo ti si lo lh lk sp st pa br sg th) sz) := by
  refine Met.ofW (cc := cX15_sick) (maxL := 2) (ret := (some .int)) (by decide) rfl ?_
  intro p e s m args below meth c s₁ B hml hv
  obtain ⟨rfl, hsz, hP, hK, hD0, hM⟩ := hv
  have hx := B.exec
  have hb := B.bytes
  have hr := B.returns
  have hts := atoms_spec (ws := wsX15_sick) B.pre
  have hown : s.vm.findClass RX15 = some m.cls := findClass_of_methodNamed B.named
  have hlocks := B.notSynchronized
  have hiX15 : ∀ w ∈ u_ws RX15 TX15 28, w ∈ wsX15_sick := by decide +kernel
  subst hsz
  have hD := hD0.self (sz := s.heap.size)
  generalize hAe : va_A (wd_k_m_sick_bad z p0 mo ti si lo lh lk sp st pa br sg th) s.heap.size = A at hD hM ⊢
  have hA : ∀ q : Nat, s.heap.size ≤ q → A q := fun q h => by rw [← hAe]; exact Or.inr h
  have hS : va_S A s.heap s.heap [] := va_S.rf
  have hP : va_P (dC, dI) vwCl [(mo, .inr (19, [.int 0, .int 0, .int 0, .int 0, .int 0, .int 0, .int 0, .ref ti, .ref si, .ref lo, .ref lh, .ref lk, .ref sp, .ref st, .ref pa, .ref br, .ref sg, .int 0, .int 0, .int 0, .int 0, .int 0, .int 0, .long 0, .long 0, .long 0, .long 0, .int th]))] s.heap := hP
  have hD : va_D A [(mo, .inr (19, [.int 0, .int 0, .int 0, .int 0, .int 0, .int 0, .int 0, .ref ti, .ref si, .ref lo, .ref lh, .ref lk, .ref sp, .ref st, .ref pa, .ref br, .ref sg, .int 0, .int 0, .int 0, .int 0, .int 0, .int 0, .long 0, .long 0, .long 0, .long 0, .int th]))] := hD
  have hl := lv_entry ([.ref mo, .int p0]) (n := 2) (Nat.le_of_ble_eq_true rfl)
  rw [lg_entry_eq]
  generalize (lg_sl ([.ref mo, .int p0]) ++ List.replicate (2 - (lg_sl ([.ref mo, .int p0])).length) Slot.unset).toArray = ls at hl ⊢
  have hl : lv_has ls 2 [(0, .ref mo), (1, .int p0)] := hl
  refine lv_aload_n hx hb dX15_sick_0 rfl (lv_at hl 0 rfl) ?_
  refine lv_iload_n hx hb dX15_sick_1 rfl (lv_at hl 1 rfl) ?_
  refine lv_i2l (v := p0.toInt64) hx hb dX15_sick_2 rfl ?_
  refine lv_lconst (v := 0) hx hb dX15_sick_3 (by decide) ?_
  refine lv_lconst (v := 1) hx hb dX15_sick_4 (by decide) ?_
  have hPc := hP.sub (ws' := []) [] rfl
  have hDc := hD.sub (ws' := []) [] (by decide) rfl
  have hKc := hK.sub (tys' := []) [] rfl
  have hFc := va_free (wc := []) hD hS hA [] rfl
  refine va_calli (va_runS (As := [.long p0.toInt64, .long 0, .long 1]) (rest := [.ref mo]) ⟨hx, hb, hml, hown, hts⟩ (k_in l dC dI z zK zV p0.toInt64 0 1 s.heap.size) (va_cwS 3 hts gX15_sick_X15_in rfl rfl rfl (by decide +kernel) ⟨Nat.le_of_ble_eq_true rfl, Nat.le_of_ble_eq_true rfl⟩) ⟨kP_blind, kP_go hPc hKc hDc hFc hM hS⟩ rfl rfl hl.1 rfl (lv_room (Nat.le_of_ble_eq_true rfl)) dX15_sick_5 ⟨Nat.le_of_ble_eq_true rfl, Nat.le_of_ble_eq_true rfl⟩) hS (fun q _ h => hFc q h) hFc (fun r1 u t H1 locs ht hvm hw hB hz1 hk1 hS => ?_)
  obtain ⟨hP, hD, hK⟩ := kJ (wr := [(mo, .inr (19, [.int 0, .int 0, .int 0, .int 0, .int 0, .int 0, .int 0, .ref ti, .ref si, .ref lo, .ref lh, .ref lk, .ref sp, .ref st, .ref pa, .ref br, .ref sg, .int 0, .int 0, .int 0, .int 0, .int 0, .int 0, .long 0, .long 0, .long 0, .long 0, .int th]))]) (w1 := []) (t1 := []) hP hD hK [] [0] rfl rfl (by decide) (by decide) hk1 hFc ht hvm hB
  generalize H1 = H at hP hS ⊢
  have hP : va_P (dC, dI) vwCl [(mo, .inr (19, [.int 0, .int 0, .int 0, .int 0, .int 0, .int 0, .int 0, .ref ti, .ref si, .ref lo, .ref lh, .ref lk, .ref sp, .ref st, .ref pa, .ref br, .ref sg, .int 0, .int 0, .int 0, .int 0, .int 0, .int 0, .long 0, .long 0, .long 0, .long 0, .int th]))] H := hP
  have hD : va_D A [(mo, .inr (19, [.int 0, .int 0, .int 0, .int 0, .int 0, .int 0, .int 0, .ref ti, .ref si, .ref lo, .ref lh, .ref lk, .ref sp, .ref st, .ref pa, .ref br, .ref sg, .int 0, .int 0, .int 0, .int 0, .int 0, .int 0, .long 0, .long 0, .long 0, .long 0, .int th]))] := hD
  have hK : va_K (dC, dI) vwCl [] s := hK
  obtain rfl : (if 0 ≤ (p0.toInt64) ∧ (p0.toInt64) ≤ 1 then (1 : Int32) else 0) = r1 := hw
  refine kc_i (y := (if 0 ≤ p0 ∧ p0 ≤ 1 then (1 : Int32) else 0)) (k_inP (a := 0) (b := 1) (by decide +kernel) (by decide +kernel)) ?_
  refine lv_if_eq (tgt := 15) hx hb dX15_sick_8 (by decide) (fun _ => ?_) (fun c_ => absurd (if_neg hb0) c_)
  refine lv_iconst (v := 1) hx hb dX15_sick_15 (by decide) ?_
  refine va_put (D := (dC, dI)) (ci := 19) (v := .int 1) (ty := .int) (C := RX15) (T := TX15) (N := 28) hx hb hts hiX15 tyX15 tyX15_ok nmX15 hown hK hP hD hS 0 rfl rfl 27 (by decide) (hts (.fieldLink RX15 45 "SquareRigModel" "thrown" "I") (by decide +kernel)) (fun _ h9 => h9) rfl (by decide +kernel) rfl rfl (Nat.le_of_ble_eq_true rfl) dX15_sick_16 (fun H locs hP hD hS => ?_)
  have hP : va_P (dC, dI) vwCl [(mo, .inr (19, [.int 0, .int 0, .int 0, .int 0, .int 0, .int 0, .int 0, .ref ti, .ref si, .ref lo, .ref lh, .ref lk, .ref sp, .ref st, .ref pa, .ref br, .ref sg, .int 0, .int 0, .int 0, .int 0, .int 0, .int 0, .long 0, .long 0, .long 0, .long 0, .int 1]))] H := hP
  have hD : va_D A [(mo, .inr (19, [.int 0, .int 0, .int 0, .int 0, .int 0, .int 0, .int 0, .ref ti, .ref si, .ref lo, .ref lh, .ref lk, .ref sp, .ref st, .ref pa, .ref br, .ref sg, .int 0, .int 0, .int 0, .int 0, .int 0, .int 0, .long 0, .long 0, .long 0, .long 0, .int 1]))] := hD
  refine lv_aload_n hx hb dX15_sick_19 rfl (lv_at hl 0 rfl) ?_
  refine va_get (D := (dC, dI)) (ci := 19) (v := .int 1) (C := RX15) (T := TX15) (N := 28) hx hb hts hiX15 hown hK hP 0 rfl rfl 27 (by decide) (hts (.fieldLink RX15 45 "SquareRigModel" "thrown" "I") (by decide +kernel)) (fun _ h9 => h9) rfl dX15_sick_20 ?_
  refine lv_if_ne (tgt := 35) hx hb dX15_sick_23 (by decide) (fun _ => ?_) (fun c_ => absurd c_ (by decide +kernel))
  refine lv_iconst (v := (-1)) hx hb dX15_sick_35 (by decide) ?_
  exact W.iret (v := (-1)) hx hb hr (fun t ht hW => ⟨⟨(-1), (), rfl, rfl, kB_end (w9 := [(mo, .inr (19, [.int 0, .int 0, .int 0, .int 0, .int 0, .int 0, .int 0, .ref ti, .ref si, .ref lo, .ref lh, .ref lk, .ref sp, .ref st, .ref pa, .ref br, .ref sg, .int 0, .int 0, .int 0, .int 0, .int 0, .int 0, .long 0, .long 0, .long 0, .long 0, .int 1]))]) (t9 := []) hP hK hD [0] [] rfl (by decide) rfl rfl t ht hW⟩, hS.F ht⟩) hS.2.2 dX15_sick_36
abbrev wd_k_m_left (z : Nat → Nat) (p0 : Int32) (mo : Nat) (ti : Nat) (si : Nat) (lo : Nat) (lh : Nat) (lk : Nat) (sp : Nat) (st : Nat) (pa : Nat) (br : Nat) (sg : Nat) (th : Int32) : va_W := [(mo, .inr (19, [.int 0, .int 0, .int 0, .int 0, .int 0, .int 0, .int 0, .ref ti, .ref si, .ref lo, .ref lh, .ref lk, .ref sp, .ref st, .ref pa, .ref br, .ref sg, .int 0, .int 0, .int 0, .int 0, .int 0, .int 0, .long 0, .long 0, .long 0, .long 0, .int th])), (lh, .inr (3, [.int 0, .ref (z 0), .int 0]))]
set_option maxHeartbeats 4000000 in
set_option maxRecDepth 100000 in
theorem k_m_left (l : Launch) (dC : Nat → ClassId) (dI : Nat → Nat → Nat) (z zK zV : Nat → Nat) (p0 : Int32) (mo : Nat) (ti : Nat) (si : Nat) (lo : Nat) (lh : Nat) (lk : Nat) (sp : Nat) (st : Nat) (pa : Nat) (br : Nat) (sg : Nat) (th : Int32) (sz : Nat)  : Met l yX15_left wsX15_left ({ frames := 1, cells := 0, slots := 0, locals := 25 }) (kP dC dI z zK zV [.ref mo, .int p0] sz (wd_k_m_left z p0 mo ti si lo lh lk sp st pa br sg th) []) (va_Qi (fun (r : Int32) (_ : Unit) => (-1) = r) (fun _ t => kB (dC, dI) (va_A (wd_k_m_left z p0 mo ti si lo lh lk sp st pa br sg th) sz) [(mo, .inr (19, [.int 0, .int 0, .int 0, .int 0, .int 0, .int 0, .int 0, .ref ti, .ref si, .ref lo, .ref lh, .ref lk, .ref sp, .ref st, .ref pa, .ref br, .ref sg, .int 0, .int 0, .int 0, .int 0, .int 0, .int 0, .long 0, .long 0, .long 0, .long 0, .int 1]))] [] t) (va_A (wd_k_m_left z p0 mo ti si lo lh lk sp st pa br sg th) sz)) 0 0 (va_A (wd_k_m_left z p0 mo ti si lo lh lk sp st pa br sg th) sz) := by
  refine Met.ofW (cc := cX15_left) (maxL := 2) (ret := (some .int)) (by decide) rfl ?_
  intro p e s m args below meth c s₁ B hml hv
  obtain ⟨rfl, hsz, hP, hK, hD0, hM⟩ := hv
  have hx := B.exec
  have hb := B.bytes
  have hr := B.returns
  have hts := atoms_spec (ws := wsX15_left) B.pre
  have hown : s.vm.findClass RX15 = some m.cls := findClass_of_methodNamed B.named
  have hlocks := B.notSynchronized
  have hiX15 : ∀ w ∈ u_ws RX15 TX15 28, w ∈ wsX15_left := by decide +kernel
  subst hsz
  have hD := hD0.self (sz := s.heap.size)
  generalize hAe : va_A (wd_k_m_left z p0 mo ti si lo lh lk sp st pa br sg th) s.heap.size = A at hD hM ⊢
  have hA : ∀ q : Nat, s.heap.size ≤ q → A q := fun q h => by rw [← hAe]; exact Or.inr h
  have hS : va_S A s.heap s.heap [] := va_S.rf
  have hP : va_P (dC, dI) vwCl [(mo, .inr (19, [.int 0, .int 0, .int 0, .int 0, .int 0, .int 0, .int 0, .ref ti, .ref si, .ref lo, .ref lh, .ref lk, .ref sp, .ref st, .ref pa, .ref br, .ref sg, .int 0, .int 0, .int 0, .int 0, .int 0, .int 0, .long 0, .long 0, .long 0, .long 0, .int th])), (lh, .inr (3, [.int 0, .ref (z 0), .int 0]))] s.heap := hP
  have hD : va_D A [(mo, .inr (19, [.int 0, .int 0, .int 0, .int 0, .int 0, .int 0, .int 0, .ref ti, .ref si, .ref lo, .ref lh, .ref lk, .ref sp, .ref st, .ref pa, .ref br, .ref sg, .int 0, .int 0, .int 0, .int 0, .int 0, .int 0, .long 0, .long 0, .long 0, .long 0, .int th])), (lh, .inr (3, [.int 0, .ref (z 0), .int 0]))] := hD
  have hl := lv_entry ([.ref mo, .int p0]) (n := 2) (Nat.le_of_ble_eq_true rfl)
  rw [lg_entry_eq]
  generalize (lg_sl ([.ref mo, .int p0]) ++ List.replicate (2 - (lg_sl ([.ref mo, .int p0])).length) Slot.unset).toArray = ls at hl ⊢
  have hl : lv_has ls 2 [(0, .ref mo), (1, .int p0)] := hl
  refine lv_aload_n hx hb dX15_left_0 rfl (lv_at hl 0 rfl) ?_
  refine lv_iload_n hx hb dX15_left_1 rfl (lv_at hl 1 rfl) ?_
  refine lv_i2l (v := p0.toInt64) hx hb dX15_left_2 rfl ?_
  refine lv_lconst (v := 0) hx hb dX15_left_3 (by decide) ?_
  refine lv_aload_n hx hb dX15_left_4 rfl (lv_at hl 0 rfl) ?_
  refine va_get (D := (dC, dI)) (ci := 19) (v := .ref lh) (C := RX15) (T := TX15) (N := 28) hx hb hts hiX15 hown hK hP 0 rfl rfl 10 (by decide) (hts (.fieldLink RX15 23 "SquareRigModel" "hold" "Ljava/util/List;") (by decide +kernel)) (fun _ h9 => h9) rfl dX15_left_5 ?_
  have hPc := hP.sub (ws' := [(lh, .inr (3, [.int 0, .ref (z 0), .int 0]))]) [1] rfl
  have hDc := hD.sub (ws' := [(lh, .inr (3, [.int 0, .ref (z 0), .int 0]))]) [1] (by decide) rfl
  have hKc := hK.sub (tys' := []) [] rfl
  have hFc := va_free (wc := [(lh, .inr (3, [.int 0, .ref (z 0), .int 0]))]) hD hS hA [1] rfl
  refine va_callFi (va_runF (hK.1 3 _ rfl).2 (As := []) (rest := [.long 0, .long p0.toInt64, .ref mo]) ⟨hx, hb, hml, hown, hts⟩ (k_size0 l dC dI z zK zV lh s.heap.size) (va_cwF 0 hts gX15_left_Jx4a65c_size_8abf5_f156Jx4a65c rfl rfl rfl hM.2.2.2.2.2.2.2.2.2.2.1.2.2.1 (by decide +kernel) ⟨Nat.le_of_ble_eq_true rfl, Nat.le_of_ble_eq_true rfl⟩) ⟨kP_blind, va_recv hKc hPc (ci := 3) (q0 := 0) rfl rfl, kP_go hPc hKc hDc hFc hM hS⟩ rfl rfl hl.1 rfl (lv_room (Nat.le_of_ble_eq_true rfl)) dX15_left_8 ⟨Nat.le_of_ble_eq_true rfl, Nat.le_of_ble_eq_true rfl⟩) hS (fun q _ h => hFc q h) hFc (fun r1 u t H1 locs ht hvm hw hB hz1 hk1 hS => ?_)
  obtain ⟨hP, hD, hK⟩ := kJ (wr := [(mo, .inr (19, [.int 0, .int 0, .int 0, .int 0, .int 0, .int 0, .int 0, .ref ti, .ref si, .ref lo, .ref lh, .ref lk, .ref sp, .ref st, .ref pa, .ref br, .ref sg, .int 0, .int 0, .int 0, .int 0, .int 0, .int 0, .long 0, .long 0, .long 0, .long 0, .int th]))]) (w1 := [(lh, .inr (3, [.int 0, .ref (z 0), .int 0]))]) (t1 := []) hP hD hK [1] [0] rfl rfl (by decide) (by decide) hk1 hFc ht hvm hB
  generalize H1 = H at hP hS ⊢
  have hP : va_P (dC, dI) vwCl [(mo, .inr (19, [.int 0, .int 0, .int 0, .int 0, .int 0, .int 0, .int 0, .ref ti, .ref si, .ref lo, .ref lh, .ref lk, .ref sp, .ref st, .ref pa, .ref br, .ref sg, .int 0, .int 0, .int 0, .int 0, .int 0, .int 0, .long 0, .long 0, .long 0, .long 0, .int th])), (lh, .inr (3, [.int 0, .ref (z 0), .int 0]))] H := hP
  have hD : va_D A [(mo, .inr (19, [.int 0, .int 0, .int 0, .int 0, .int 0, .int 0, .int 0, .ref ti, .ref si, .ref lo, .ref lh, .ref lk, .ref sp, .ref st, .ref pa, .ref br, .ref sg, .int 0, .int 0, .int 0, .int 0, .int 0, .int 0, .long 0, .long 0, .long 0, .long 0, .int th])), (lh, .inr (3, [.int 0, .ref (z 0), .int 0]))] := hD
  have hK : va_K (dC, dI) vwCl [] s := hK
  obtain rfl : 0 = r1 := hw
  refine lv_iconst (v := 1) hx hb dX15_left_13 (by decide) ?_
  refine lv_isub hx hb dX15_left_14 ?_
  refine kc_i (y := (-1)) (by decide +kernel) ?_
  refine lv_i2l (v := (-1)) hx hb dX15_left_15 (by decide +kernel) ?_
  have hPc := hP.sub (ws' := []) [] rfl
  have hDc := hD.sub (ws' := []) [] (by decide) rfl
  have hKc := hK.sub (tys' := []) [] rfl
  have hFc := va_free (wc := []) hD hS hA [] rfl
  refine va_calli (va_runS (As := [.long p0.toInt64, .long 0, .long (-1)]) (rest := [.ref mo]) ⟨hx, hb, hml, hown, hts⟩ (k_in l dC dI z zK zV p0.toInt64 0 (-1) H.size) (va_cwS 3 hts gX15_left_X15_in rfl rfl rfl (by decide +kernel) ⟨Nat.le_of_ble_eq_true rfl, Nat.le_of_ble_eq_true rfl⟩) ⟨kP_blind, kP_go hPc hKc hDc hFc hM hS⟩ rfl rfl hl.1 rfl (lv_room (Nat.le_of_ble_eq_true rfl)) dX15_left_16 ⟨Nat.le_of_ble_eq_true rfl, Nat.le_of_ble_eq_true rfl⟩) hS (fun q _ h => hFc q h) hFc (fun r2 u t H1 locs ht hvm hw hB hz1 hk1 hS => ?_)
  obtain ⟨hP, hD, hK⟩ := kJ (wr := [(mo, .inr (19, [.int 0, .int 0, .int 0, .int 0, .int 0, .int 0, .int 0, .ref ti, .ref si, .ref lo, .ref lh, .ref lk, .ref sp, .ref st, .ref pa, .ref br, .ref sg, .int 0, .int 0, .int 0, .int 0, .int 0, .int 0, .long 0, .long 0, .long 0, .long 0, .int th])), (lh, .inr (3, [.int 0, .ref (z 0), .int 0]))]) (w1 := []) (t1 := []) hP hD hK [] [0, 1] rfl rfl (by decide) (by decide) hk1 hFc ht hvm hB
  generalize H1 = H at hP hS ⊢
  have hP : va_P (dC, dI) vwCl [(mo, .inr (19, [.int 0, .int 0, .int 0, .int 0, .int 0, .int 0, .int 0, .ref ti, .ref si, .ref lo, .ref lh, .ref lk, .ref sp, .ref st, .ref pa, .ref br, .ref sg, .int 0, .int 0, .int 0, .int 0, .int 0, .int 0, .long 0, .long 0, .long 0, .long 0, .int th])), (lh, .inr (3, [.int 0, .ref (z 0), .int 0]))] H := hP
  have hD : va_D A [(mo, .inr (19, [.int 0, .int 0, .int 0, .int 0, .int 0, .int 0, .int 0, .ref ti, .ref si, .ref lo, .ref lh, .ref lk, .ref sp, .ref st, .ref pa, .ref br, .ref sg, .int 0, .int 0, .int 0, .int 0, .int 0, .int 0, .long 0, .long 0, .long 0, .long 0, .int th])), (lh, .inr (3, [.int 0, .ref (z 0), .int 0]))] := hD
  have hK : va_K (dC, dI) vwCl [] s := hK
  obtain rfl : (if 0 ≤ (p0.toInt64) ∧ (p0.toInt64) ≤ (-1) then (1 : Int32) else 0) = r2 := hw
  refine kc_i (y := (if 0 ≤ p0 ∧ p0 ≤ (-1) then (1 : Int32) else 0)) (k_inP (a := 0) (b := (-1)) (by decide +kernel) (by decide +kernel)) ?_
  refine lv_if_eq (tgt := 26) hx hb dX15_left_19 (by decide) (fun _ => ?_) (fun c_ => absurd (if_neg (k_none p0)) c_)
  refine lv_iconst (v := 1) hx hb dX15_left_26 (by decide) ?_
  refine va_put (D := (dC, dI)) (ci := 19) (v := .int 1) (ty := .int) (C := RX15) (T := TX15) (N := 28) hx hb hts hiX15 tyX15 tyX15_ok nmX15 hown hK hP hD hS 0 rfl rfl 27 (by decide) (hts (.fieldLink RX15 45 "SquareRigModel" "thrown" "I") (by decide +kernel)) (fun _ h9 => h9) rfl (by decide +kernel) rfl rfl (Nat.le_of_ble_eq_true rfl) dX15_left_27 (fun H locs hP hD hS => ?_)
  have hP : va_P (dC, dI) vwCl [(mo, .inr (19, [.int 0, .int 0, .int 0, .int 0, .int 0, .int 0, .int 0, .ref ti, .ref si, .ref lo, .ref lh, .ref lk, .ref sp, .ref st, .ref pa, .ref br, .ref sg, .int 0, .int 0, .int 0, .int 0, .int 0, .int 0, .long 0, .long 0, .long 0, .long 0, .int 1])), (lh, .inr (3, [.int 0, .ref (z 0), .int 0]))] H := hP
  have hD : va_D A [(mo, .inr (19, [.int 0, .int 0, .int 0, .int 0, .int 0, .int 0, .int 0, .ref ti, .ref si, .ref lo, .ref lh, .ref lk, .ref sp, .ref st, .ref pa, .ref br, .ref sg, .int 0, .int 0, .int 0, .int 0, .int 0, .int 0, .long 0, .long 0, .long 0, .long 0, .int 1])), (lh, .inr (3, [.int 0, .ref (z 0), .int 0]))] := hD
  refine lv_aload_n hx hb dX15_left_30 rfl (lv_at hl 0 rfl) ?_
  refine va_get (D := (dC, dI)) (ci := 19) (v := .int 1) (C := RX15) (T := TX15) (N := 28) hx hb hts hiX15 hown hK hP 0 rfl rfl 27 (by decide) (hts (.fieldLink RX15 45 "SquareRigModel" "thrown" "I") (by decide +kernel)) (fun _ h9 => h9) rfl dX15_left_31 ?_
  refine lv_if_ne (tgt := 56) hx hb dX15_left_34 (by decide) (fun _ => ?_) (fun c_ => absurd c_ (by decide +kernel))
  refine lv_iconst (v := (-1)) hx hb dX15_left_56 (by decide) ?_
  exact W.iret (v := (-1)) hx hb hr (fun t ht hW => ⟨⟨(-1), (), rfl, rfl, kB_end (w9 := [(mo, .inr (19, [.int 0, .int 0, .int 0, .int 0, .int 0, .int 0, .int 0, .ref ti, .ref si, .ref lo, .ref lh, .ref lk, .ref sp, .ref st, .ref pa, .ref br, .ref sg, .int 0, .int 0, .int 0, .int 0, .int 0, .int 0, .long 0, .long 0, .long 0, .long 0, .int 1]))]) (t9 := []) hP hK hD [0] [] rfl (by decide) rfl rfl t ht hW⟩, hS.F ht⟩) hS.2.2 dX15_left_57
abbrev wd_k_m_line (z : Nat → Nat) (p0 : Int32) (mo : Nat) (ti : Nat) (si : Nat) (lo : Nat) (lh : Nat) (lk : Nat) (sp : Nat) (st : Nat) (pa : Nat) (br : Nat) (sg : Nat) (th : Int32) : va_W := [(mo, .inr (19, [.int 0, .int 0, .int 0, .int 0, .int 0, .int 0, .int 0, .ref ti, .ref si, .ref lo, .ref lh, .ref lk, .ref sp, .ref st, .ref pa, .ref br, .ref sg, .int 0, .int 0, .int 0, .int 0, .int 0, .int 0, .long 0, .long 0, .long 0, .long 0, .int th])), (lk, .inr (3, [.int 0, .ref (z 0), .int 0]))]
set_option maxHeartbeats 4000000 in
set_option maxRecDepth 100000 in
theorem k_m_line (l : Launch) (dC : Nat → ClassId) (dI : Nat → Nat → Nat) (z zK zV : Nat → Nat) (p0 : Int32) (mo : Nat) (ti : Nat) (si : Nat) (lo : Nat) (lh : Nat) (lk : Nat) (sp : Nat) (st : Nat) (pa : Nat) (br : Nat) (sg : Nat) (th : Int32) (sz : Nat)  : Met l yX15_line wsX15_line ({ frames := 1, cells := 0, slots := 0, locals := 25 }) (kP dC dI z zK zV [.ref mo, .int p0] sz (wd_k_m_line z p0 mo ti si lo lh lk sp st pa br sg th) []) (va_Qi (fun (r : Int32) (_ : Unit) => 32 = r) (fun _ t => kB (dC, dI) (va_A (wd_k_m_line z p0 mo ti si lo lh lk sp st pa br sg th) sz) [(mo, .inr (19, [.int 0, .int 0, .int 0, .int 0, .int 0, .int 0, .int 0, .ref ti, .ref si, .ref lo, .ref lh, .ref lk, .ref sp, .ref st, .ref pa, .ref br, .ref sg, .int 0, .int 0, .int 0, .int 0, .int 0, .int 0, .long 0, .long 0, .long 0, .long 0, .int 1]))] [] t) (va_A (wd_k_m_line z p0 mo ti si lo lh lk sp st pa br sg th) sz)) 0 0 (va_A (wd_k_m_line z p0 mo ti si lo lh lk sp st pa br sg th) sz) := by
  refine Met.ofW (cc := cX15_line) (maxL := 2) (ret := (some .char)) (by decide) rfl ?_
  intro p e s m args below meth c s₁ B hml hv
  obtain ⟨rfl, hsz, hP, hK, hD0, hM⟩ := hv
  have hx := B.exec
  have hb := B.bytes
  have hr := B.returns
  have hts := atoms_spec (ws := wsX15_line) B.pre
  have hown : s.vm.findClass RX15 = some m.cls := findClass_of_methodNamed B.named
  have hlocks := B.notSynchronized
  have hiX15 : ∀ w ∈ u_ws RX15 TX15 28, w ∈ wsX15_line := by decide +kernel
  subst hsz
  have hD := hD0.self (sz := s.heap.size)
  generalize hAe : va_A (wd_k_m_line z p0 mo ti si lo lh lk sp st pa br sg th) s.heap.size = A at hD hM ⊢
  have hA : ∀ q : Nat, s.heap.size ≤ q → A q := fun q h => by rw [← hAe]; exact Or.inr h
  have hS : va_S A s.heap s.heap [] := va_S.rf
  have hP : va_P (dC, dI) vwCl [(mo, .inr (19, [.int 0, .int 0, .int 0, .int 0, .int 0, .int 0, .int 0, .ref ti, .ref si, .ref lo, .ref lh, .ref lk, .ref sp, .ref st, .ref pa, .ref br, .ref sg, .int 0, .int 0, .int 0, .int 0, .int 0, .int 0, .long 0, .long 0, .long 0, .long 0, .int th])), (lk, .inr (3, [.int 0, .ref (z 0), .int 0]))] s.heap := hP
  have hD : va_D A [(mo, .inr (19, [.int 0, .int 0, .int 0, .int 0, .int 0, .int 0, .int 0, .ref ti, .ref si, .ref lo, .ref lh, .ref lk, .ref sp, .ref st, .ref pa, .ref br, .ref sg, .int 0, .int 0, .int 0, .int 0, .int 0, .int 0, .long 0, .long 0, .long 0, .long 0, .int th])), (lk, .inr (3, [.int 0, .ref (z 0), .int 0]))] := hD
  have hl := lv_entry ([.ref mo, .int p0]) (n := 2) (Nat.le_of_ble_eq_true rfl)
  rw [lg_entry_eq]
  generalize (lg_sl ([.ref mo, .int p0]) ++ List.replicate (2 - (lg_sl ([.ref mo, .int p0])).length) Slot.unset).toArray = ls at hl ⊢
  have hl : lv_has ls 2 [(0, .ref mo), (1, .int p0)] := hl
  refine lv_aload_n hx hb dX15_line_0 rfl (lv_at hl 0 rfl) ?_
  refine lv_iload_n hx hb dX15_line_1 rfl (lv_at hl 1 rfl) ?_
  refine lv_i2l (v := p0.toInt64) hx hb dX15_line_2 rfl ?_
  refine lv_lconst (v := 0) hx hb dX15_line_3 (by decide) ?_
  refine lv_aload_n hx hb dX15_line_4 rfl (lv_at hl 0 rfl) ?_
  refine va_get (D := (dC, dI)) (ci := 19) (v := .ref lk) (C := RX15) (T := TX15) (N := 28) hx hb hts hiX15 hown hK hP 0 rfl rfl 11 (by decide) (hts (.fieldLink RX15 26 "SquareRigModel" "log" "Ljava/util/List;") (by decide +kernel)) (fun _ h9 => h9) rfl dX15_line_5 ?_
  have hPc := hP.sub (ws' := [(lk, .inr (3, [.int 0, .ref (z 0), .int 0]))]) [1] rfl
  have hDc := hD.sub (ws' := [(lk, .inr (3, [.int 0, .ref (z 0), .int 0]))]) [1] (by decide) rfl
  have hKc := hK.sub (tys' := []) [] rfl
  have hFc := va_free (wc := [(lk, .inr (3, [.int 0, .ref (z 0), .int 0]))]) hD hS hA [1] rfl
  refine va_callFi (va_runF (hK.1 3 _ rfl).2 (As := []) (rest := [.long 0, .long p0.toInt64, .ref mo]) ⟨hx, hb, hml, hown, hts⟩ (k_size0 l dC dI z zK zV lk s.heap.size) (va_cwF 0 hts gX15_line_Jx4a65c_size_8abf5_f156Jx4a65c rfl rfl rfl hM.2.2.2.2.2.2.2.2.2.2.1.2.2.1 (by decide +kernel) ⟨Nat.le_of_ble_eq_true rfl, Nat.le_of_ble_eq_true rfl⟩) ⟨kP_blind, va_recv hKc hPc (ci := 3) (q0 := 0) rfl rfl, kP_go hPc hKc hDc hFc hM hS⟩ rfl rfl hl.1 rfl (lv_room (Nat.le_of_ble_eq_true rfl)) dX15_line_8 ⟨Nat.le_of_ble_eq_true rfl, Nat.le_of_ble_eq_true rfl⟩) hS (fun q _ h => hFc q h) hFc (fun r1 u t H1 locs ht hvm hw hB hz1 hk1 hS => ?_)
  obtain ⟨hP, hD, hK⟩ := kJ (wr := [(mo, .inr (19, [.int 0, .int 0, .int 0, .int 0, .int 0, .int 0, .int 0, .ref ti, .ref si, .ref lo, .ref lh, .ref lk, .ref sp, .ref st, .ref pa, .ref br, .ref sg, .int 0, .int 0, .int 0, .int 0, .int 0, .int 0, .long 0, .long 0, .long 0, .long 0, .int th]))]) (w1 := [(lk, .inr (3, [.int 0, .ref (z 0), .int 0]))]) (t1 := []) hP hD hK [1] [0] rfl rfl (by decide) (by decide) hk1 hFc ht hvm hB
  generalize H1 = H at hP hS ⊢
  have hP : va_P (dC, dI) vwCl [(mo, .inr (19, [.int 0, .int 0, .int 0, .int 0, .int 0, .int 0, .int 0, .ref ti, .ref si, .ref lo, .ref lh, .ref lk, .ref sp, .ref st, .ref pa, .ref br, .ref sg, .int 0, .int 0, .int 0, .int 0, .int 0, .int 0, .long 0, .long 0, .long 0, .long 0, .int th])), (lk, .inr (3, [.int 0, .ref (z 0), .int 0]))] H := hP
  have hD : va_D A [(mo, .inr (19, [.int 0, .int 0, .int 0, .int 0, .int 0, .int 0, .int 0, .ref ti, .ref si, .ref lo, .ref lh, .ref lk, .ref sp, .ref st, .ref pa, .ref br, .ref sg, .int 0, .int 0, .int 0, .int 0, .int 0, .int 0, .long 0, .long 0, .long 0, .long 0, .int th])), (lk, .inr (3, [.int 0, .ref (z 0), .int 0]))] := hD
  have hK : va_K (dC, dI) vwCl [] s := hK
  obtain rfl : 0 = r1 := hw
  refine lv_iconst (v := 1) hx hb dX15_line_13 (by decide) ?_
  refine lv_isub hx hb dX15_line_14 ?_
  refine kc_i (y := (-1)) (by decide +kernel) ?_
  refine lv_i2l (v := (-1)) hx hb dX15_line_15 (by decide +kernel) ?_
  have hPc := hP.sub (ws' := []) [] rfl
  have hDc := hD.sub (ws' := []) [] (by decide) rfl
  have hKc := hK.sub (tys' := []) [] rfl
  have hFc := va_free (wc := []) hD hS hA [] rfl
  refine va_calli (va_runS (As := [.long p0.toInt64, .long 0, .long (-1)]) (rest := [.ref mo]) ⟨hx, hb, hml, hown, hts⟩ (k_in l dC dI z zK zV p0.toInt64 0 (-1) H.size) (va_cwS 3 hts gX15_line_X15_in rfl rfl rfl (by decide +kernel) ⟨Nat.le_of_ble_eq_true rfl, Nat.le_of_ble_eq_true rfl⟩) ⟨kP_blind, kP_go hPc hKc hDc hFc hM hS⟩ rfl rfl hl.1 rfl (lv_room (Nat.le_of_ble_eq_true rfl)) dX15_line_16 ⟨Nat.le_of_ble_eq_true rfl, Nat.le_of_ble_eq_true rfl⟩) hS (fun q _ h => hFc q h) hFc (fun r2 u t H1 locs ht hvm hw hB hz1 hk1 hS => ?_)
  obtain ⟨hP, hD, hK⟩ := kJ (wr := [(mo, .inr (19, [.int 0, .int 0, .int 0, .int 0, .int 0, .int 0, .int 0, .ref ti, .ref si, .ref lo, .ref lh, .ref lk, .ref sp, .ref st, .ref pa, .ref br, .ref sg, .int 0, .int 0, .int 0, .int 0, .int 0, .int 0, .long 0, .long 0, .long 0, .long 0, .int th])), (lk, .inr (3, [.int 0, .ref (z 0), .int 0]))]) (w1 := []) (t1 := []) hP hD hK [] [0, 1] rfl rfl (by decide) (by decide) hk1 hFc ht hvm hB
  generalize H1 = H at hP hS ⊢
  have hP : va_P (dC, dI) vwCl [(mo, .inr (19, [.int 0, .int 0, .int 0, .int 0, .int 0, .int 0, .int 0, .ref ti, .ref si, .ref lo, .ref lh, .ref lk, .ref sp, .ref st, .ref pa, .ref br, .ref sg, .int 0, .int 0, .int 0, .int 0, .int 0, .int 0, .long 0, .long 0, .long 0, .long 0, .int th])), (lk, .inr (3, [.int 0, .ref (z 0), .int 0]))] H := hP
  have hD : va_D A [(mo, .inr (19, [.int 0, .int 0, .int 0, .int 0, .int 0, .int 0, .int 0, .ref ti, .ref si, .ref lo, .ref lh, .ref lk, .ref sp, .ref st, .ref pa, .ref br, .ref sg, .int 0, .int 0, .int 0, .int 0, .int 0, .int 0, .long 0, .long 0, .long 0, .long 0, .int th])), (lk, .inr (3, [.int 0, .ref (z 0), .int 0]))] := hD
  have hK : va_K (dC, dI) vwCl [] s := hK
  obtain rfl : (if 0 ≤ (p0.toInt64) ∧ (p0.toInt64) ≤ (-1) then (1 : Int32) else 0) = r2 := hw
  refine kc_i (y := (if 0 ≤ p0 ∧ p0 ≤ (-1) then (1 : Int32) else 0)) (k_inP (a := 0) (b := (-1)) (by decide +kernel) (by decide +kernel)) ?_
  refine lv_if_eq (tgt := 26) hx hb dX15_line_19 (by decide) (fun _ => ?_) (fun c_ => absurd (if_neg (k_none p0)) c_)
  refine lv_iconst (v := 1) hx hb dX15_line_26 (by decide) ?_
  refine va_put (D := (dC, dI)) (ci := 19) (v := .int 1) (ty := .int) (C := RX15) (T := TX15) (N := 28) hx hb hts hiX15 tyX15 tyX15_ok nmX15 hown hK hP hD hS 0 rfl rfl 27 (by decide) (hts (.fieldLink RX15 45 "SquareRigModel" "thrown" "I") (by decide +kernel)) (fun _ h9 => h9) rfl (by decide +kernel) rfl rfl (Nat.le_of_ble_eq_true rfl) dX15_line_27 (fun H locs hP hD hS => ?_)
  have hP : va_P (dC, dI) vwCl [(mo, .inr (19, [.int 0, .int 0, .int 0, .int 0, .int 0, .int 0, .int 0, .ref ti, .ref si, .ref lo, .ref lh, .ref lk, .ref sp, .ref st, .ref pa, .ref br, .ref sg, .int 0, .int 0, .int 0, .int 0, .int 0, .int 0, .long 0, .long 0, .long 0, .long 0, .int 1])), (lk, .inr (3, [.int 0, .ref (z 0), .int 0]))] H := hP
  have hD : va_D A [(mo, .inr (19, [.int 0, .int 0, .int 0, .int 0, .int 0, .int 0, .int 0, .ref ti, .ref si, .ref lo, .ref lh, .ref lk, .ref sp, .ref st, .ref pa, .ref br, .ref sg, .int 0, .int 0, .int 0, .int 0, .int 0, .int 0, .long 0, .long 0, .long 0, .long 0, .int 1])), (lk, .inr (3, [.int 0, .ref (z 0), .int 0]))] := hD
  refine lv_aload_n hx hb dX15_line_30 rfl (lv_at hl 0 rfl) ?_
  refine va_get (D := (dC, dI)) (ci := 19) (v := .int 1) (C := RX15) (T := TX15) (N := 28) hx hb hts hiX15 hown hK hP 0 rfl rfl 27 (by decide) (hts (.fieldLink RX15 45 "SquareRigModel" "thrown" "I") (by decide +kernel)) (fun _ h9 => h9) rfl dX15_line_31 ?_
  refine lv_if_ne (tgt := 56) hx hb dX15_line_34 (by decide) (fun _ => ?_) (fun c_ => absurd c_ (by decide +kernel))
  refine lv_bipush (v := 32) hx hb dX15_line_56 (by decide) ?_
  exact W.zret (v := 32) hx hb hr (by decide +kernel) (fun t ht hW => ⟨⟨32, (), rfl, rfl, kB_end (w9 := [(mo, .inr (19, [.int 0, .int 0, .int 0, .int 0, .int 0, .int 0, .int 0, .ref ti, .ref si, .ref lo, .ref lh, .ref lk, .ref sp, .ref st, .ref pa, .ref br, .ref sg, .int 0, .int 0, .int 0, .int 0, .int 0, .int 0, .long 0, .long 0, .long 0, .long 0, .int 1]))]) (t9 := []) hP hK hD [0] [] rfl (by decide) rfl rfl t ht hW⟩, hS.F ht⟩) hS.2.2 dX15_line_58
abbrev wd_k_m_lineMinute (z : Nat → Nat) (p0 : Int32) (mo : Nat) (ti : Nat) (si : Nat) (lo : Nat) (lh : Nat) (lk : Nat) (sp : Nat) (st : Nat) (pa : Nat) (br : Nat) (sg : Nat) (th : Int32) : va_W := [(mo, .inr (19, [.int 0, .int 0, .int 0, .int 0, .int 0, .int 0, .int 0, .ref ti, .ref si, .ref lo, .ref lh, .ref lk, .ref sp, .ref st, .ref pa, .ref br, .ref sg, .int 0, .int 0, .int 0, .int 0, .int 0, .int 0, .long 0, .long 0, .long 0, .long 0, .int th])), (lk, .inr (3, [.int 0, .ref (z 0), .int 0]))]
set_option maxHeartbeats 4000000 in
set_option maxRecDepth 100000 in
theorem k_m_lineMinute (l : Launch) (dC : Nat → ClassId) (dI : Nat → Nat → Nat) (z zK zV : Nat → Nat) (p0 : Int32) (mo : Nat) (ti : Nat) (si : Nat) (lo : Nat) (lh : Nat) (lk : Nat) (sp : Nat) (st : Nat) (pa : Nat) (br : Nat) (sg : Nat) (th : Int32) (sz : Nat)  : Met l yX15_lineMinute wsX15_lineMinute ({ frames := 1, cells := 0, slots := 0, locals := 25 }) (kP dC dI z zK zV [.ref mo, .int p0] sz (wd_k_m_lineMinute z p0 mo ti si lo lh lk sp st pa br sg th) []) (va_Qi (fun (r : Int32) (_ : Unit) => (-1) = r) (fun _ t => kB (dC, dI) (va_A (wd_k_m_lineMinute z p0 mo ti si lo lh lk sp st pa br sg th) sz) [(mo, .inr (19, [.int 0, .int 0, .int 0, .int 0, .int 0, .int 0, .int 0, .ref ti, .ref si, .ref lo, .ref lh, .ref lk, .ref sp, .ref st, .ref pa, .ref br, .ref sg, .int 0, .int 0, .int 0, .int 0, .int 0, .int 0, .long 0, .long 0, .long 0, .long 0, .int 1]))] [] t) (va_A (wd_k_m_lineMinute z p0 mo ti si lo lh lk sp st pa br sg th) sz)) 0 0 (va_A (wd_k_m_lineMinute z p0 mo ti si lo lh lk sp st pa br sg th) sz) := by
  refine Met.ofW (cc := cX15_lineMinute) (maxL := 2) (ret := (some .int)) (by decide) rfl ?_
  intro p e s m args below meth c s₁ B hml hv
  obtain ⟨rfl, hsz, hP, hK, hD0, hM⟩ := hv
  have hx := B.exec
  have hb := B.bytes
  have hr := B.returns
  have hts := atoms_spec (ws := wsX15_lineMinute) B.pre
  have hown : s.vm.findClass RX15 = some m.cls := findClass_of_methodNamed B.named
  have hlocks := B.notSynchronized
  have hiX15 : ∀ w ∈ u_ws RX15 TX15 28, w ∈ wsX15_lineMinute := by decide +kernel
  subst hsz
  have hD := hD0.self (sz := s.heap.size)
  generalize hAe : va_A (wd_k_m_lineMinute z p0 mo ti si lo lh lk sp st pa br sg th) s.heap.size = A at hD hM ⊢
  have hA : ∀ q : Nat, s.heap.size ≤ q → A q := fun q h => by rw [← hAe]; exact Or.inr h
  have hS : va_S A s.heap s.heap [] := va_S.rf
  have hP : va_P (dC, dI) vwCl [(mo, .inr (19, [.int 0, .int 0, .int 0, .int 0, .int 0, .int 0, .int 0, .ref ti, .ref si, .ref lo, .ref lh, .ref lk, .ref sp, .ref st, .ref pa, .ref br, .ref sg, .int 0, .int 0, .int 0, .int 0, .int 0, .int 0, .long 0, .long 0, .long 0, .long 0, .int th])), (lk, .inr (3, [.int 0, .ref (z 0), .int 0]))] s.heap := hP
  have hD : va_D A [(mo, .inr (19, [.int 0, .int 0, .int 0, .int 0, .int 0, .int 0, .int 0, .ref ti, .ref si, .ref lo, .ref lh, .ref lk, .ref sp, .ref st, .ref pa, .ref br, .ref sg, .int 0, .int 0, .int 0, .int 0, .int 0, .int 0, .long 0, .long 0, .long 0, .long 0, .int th])), (lk, .inr (3, [.int 0, .ref (z 0), .int 0]))] := hD
  have hl := lv_entry ([.ref mo, .int p0]) (n := 2) (Nat.le_of_ble_eq_true rfl)
  rw [lg_entry_eq]
  generalize (lg_sl ([.ref mo, .int p0]) ++ List.replicate (2 - (lg_sl ([.ref mo, .int p0])).length) Slot.unset).toArray = ls at hl ⊢
  have hl : lv_has ls 2 [(0, .ref mo), (1, .int p0)] := hl
  refine lv_aload_n hx hb dX15_lineMinute_0 rfl (lv_at hl 0 rfl) ?_
  refine lv_iload_n hx hb dX15_lineMinute_1 rfl (lv_at hl 1 rfl) ?_
  refine lv_i2l (v := p0.toInt64) hx hb dX15_lineMinute_2 rfl ?_
  refine lv_lconst (v := 0) hx hb dX15_lineMinute_3 (by decide) ?_
  refine lv_aload_n hx hb dX15_lineMinute_4 rfl (lv_at hl 0 rfl) ?_
  refine va_get (D := (dC, dI)) (ci := 19) (v := .ref lk) (C := RX15) (T := TX15) (N := 28) hx hb hts hiX15 hown hK hP 0 rfl rfl 11 (by decide) (hts (.fieldLink RX15 26 "SquareRigModel" "log" "Ljava/util/List;") (by decide +kernel)) (fun _ h9 => h9) rfl dX15_lineMinute_5 ?_
  have hPc := hP.sub (ws' := [(lk, .inr (3, [.int 0, .ref (z 0), .int 0]))]) [1] rfl
  have hDc := hD.sub (ws' := [(lk, .inr (3, [.int 0, .ref (z 0), .int 0]))]) [1] (by decide) rfl
  have hKc := hK.sub (tys' := []) [] rfl
  have hFc := va_free (wc := [(lk, .inr (3, [.int 0, .ref (z 0), .int 0]))]) hD hS hA [1] rfl
  refine va_callFi (va_runF (hK.1 3 _ rfl).2 (As := []) (rest := [.long 0, .long p0.toInt64, .ref mo]) ⟨hx, hb, hml, hown, hts⟩ (k_size0 l dC dI z zK zV lk s.heap.size) (va_cwF 0 hts gX15_lineMinute_Jx4a65c_size_8abf5_f156Jx4a65c rfl rfl rfl hM.2.2.2.2.2.2.2.2.2.2.1.2.2.1 (by decide +kernel) ⟨Nat.le_of_ble_eq_true rfl, Nat.le_of_ble_eq_true rfl⟩) ⟨kP_blind, va_recv hKc hPc (ci := 3) (q0 := 0) rfl rfl, kP_go hPc hKc hDc hFc hM hS⟩ rfl rfl hl.1 rfl (lv_room (Nat.le_of_ble_eq_true rfl)) dX15_lineMinute_8 ⟨Nat.le_of_ble_eq_true rfl, Nat.le_of_ble_eq_true rfl⟩) hS (fun q _ h => hFc q h) hFc (fun r1 u t H1 locs ht hvm hw hB hz1 hk1 hS => ?_)
  obtain ⟨hP, hD, hK⟩ := kJ (wr := [(mo, .inr (19, [.int 0, .int 0, .int 0, .int 0, .int 0, .int 0, .int 0, .ref ti, .ref si, .ref lo, .ref lh, .ref lk, .ref sp, .ref st, .ref pa, .ref br, .ref sg, .int 0, .int 0, .int 0, .int 0, .int 0, .int 0, .long 0, .long 0, .long 0, .long 0, .int th]))]) (w1 := [(lk, .inr (3, [.int 0, .ref (z 0), .int 0]))]) (t1 := []) hP hD hK [1] [0] rfl rfl (by decide) (by decide) hk1 hFc ht hvm hB
  generalize H1 = H at hP hS ⊢
  have hP : va_P (dC, dI) vwCl [(mo, .inr (19, [.int 0, .int 0, .int 0, .int 0, .int 0, .int 0, .int 0, .ref ti, .ref si, .ref lo, .ref lh, .ref lk, .ref sp, .ref st, .ref pa, .ref br, .ref sg, .int 0, .int 0, .int 0, .int 0, .int 0, .int 0, .long 0, .long 0, .long 0, .long 0, .int th])), (lk, .inr (3, [.int 0, .ref (z 0), .int 0]))] H := hP
  have hD : va_D A [(mo, .inr (19, [.int 0, .int 0, .int 0, .int 0, .int 0, .int 0, .int 0, .ref ti, .ref si, .ref lo, .ref lh, .ref lk, .ref sp, .ref st, .ref pa, .ref br, .ref sg, .int 0, .int 0, .int 0, .int 0, .int 0, .int 0, .long 0, .long 0, .long 0, .long 0, .int th])), (lk, .inr (3, [.int 0, .ref (z 0), .int 0]))] := hD
  have hK : va_K (dC, dI) vwCl [] s := hK
  obtain rfl : 0 = r1 := hw
  refine lv_iconst (v := 1) hx hb dX15_lineMinute_13 (by decide) ?_
  refine lv_isub hx hb dX15_lineMinute_14 ?_
  refine kc_i (y := (-1)) (by decide +kernel) ?_
  refine lv_i2l (v := (-1)) hx hb dX15_lineMinute_15 (by decide +kernel) ?_
  have hPc := hP.sub (ws' := []) [] rfl
  have hDc := hD.sub (ws' := []) [] (by decide) rfl
  have hKc := hK.sub (tys' := []) [] rfl
  have hFc := va_free (wc := []) hD hS hA [] rfl
  refine va_calli (va_runS (As := [.long p0.toInt64, .long 0, .long (-1)]) (rest := [.ref mo]) ⟨hx, hb, hml, hown, hts⟩ (k_in l dC dI z zK zV p0.toInt64 0 (-1) H.size) (va_cwS 3 hts gX15_lineMinute_X15_in rfl rfl rfl (by decide +kernel) ⟨Nat.le_of_ble_eq_true rfl, Nat.le_of_ble_eq_true rfl⟩) ⟨kP_blind, kP_go hPc hKc hDc hFc hM hS⟩ rfl rfl hl.1 rfl (lv_room (Nat.le_of_ble_eq_true rfl)) dX15_lineMinute_16 ⟨Nat.le_of_ble_eq_true rfl, Nat.le_of_ble_eq_true rfl⟩) hS (fun q _ h => hFc q h) hFc (fun r2 u t H1 locs ht hvm hw hB hz1 hk1 hS => ?_)
  obtain ⟨hP, hD, hK⟩ := kJ (wr := [(mo, .inr (19, [.int 0, .int 0, .int 0, .int 0, .int 0, .int 0, .int 0, .ref ti, .ref si, .ref lo, .ref lh, .ref lk, .ref sp, .ref st, .ref pa, .ref br, .ref sg, .int 0, .int 0, .int 0, .int 0, .int 0, .int 0, .long 0, .long 0, .long 0, .long 0, .int th])), (lk, .inr (3, [.int 0, .ref (z 0), .int 0]))]) (w1 := []) (t1 := []) hP hD hK [] [0, 1] rfl rfl (by decide) (by decide) hk1 hFc ht hvm hB
  generalize H1 = H at hP hS ⊢
  have hP : va_P (dC, dI) vwCl [(mo, .inr (19, [.int 0, .int 0, .int 0, .int 0, .int 0, .int 0, .int 0, .ref ti, .ref si, .ref lo, .ref lh, .ref lk, .ref sp, .ref st, .ref pa, .ref br, .ref sg, .int 0, .int 0, .int 0, .int 0, .int 0, .int 0, .long 0, .long 0, .long 0, .long 0, .int th])), (lk, .inr (3, [.int 0, .ref (z 0), .int 0]))] H := hP
  have hD : va_D A [(mo, .inr (19, [.int 0, .int 0, .int 0, .int 0, .int 0, .int 0, .int 0, .ref ti, .ref si, .ref lo, .ref lh, .ref lk, .ref sp, .ref st, .ref pa, .ref br, .ref sg, .int 0, .int 0, .int 0, .int 0, .int 0, .int 0, .long 0, .long 0, .long 0, .long 0, .int th])), (lk, .inr (3, [.int 0, .ref (z 0), .int 0]))] := hD
  have hK : va_K (dC, dI) vwCl [] s := hK
  obtain rfl : (if 0 ≤ (p0.toInt64) ∧ (p0.toInt64) ≤ (-1) then (1 : Int32) else 0) = r2 := hw
  refine kc_i (y := (if 0 ≤ p0 ∧ p0 ≤ (-1) then (1 : Int32) else 0)) (k_inP (a := 0) (b := (-1)) (by decide +kernel) (by decide +kernel)) ?_
  refine lv_if_eq (tgt := 26) hx hb dX15_lineMinute_19 (by decide) (fun _ => ?_) (fun c_ => absurd (if_neg (k_none p0)) c_)
  refine lv_iconst (v := 1) hx hb dX15_lineMinute_26 (by decide) ?_
  refine va_put (D := (dC, dI)) (ci := 19) (v := .int 1) (ty := .int) (C := RX15) (T := TX15) (N := 28) hx hb hts hiX15 tyX15 tyX15_ok nmX15 hown hK hP hD hS 0 rfl rfl 27 (by decide) (hts (.fieldLink RX15 45 "SquareRigModel" "thrown" "I") (by decide +kernel)) (fun _ h9 => h9) rfl (by decide +kernel) rfl rfl (Nat.le_of_ble_eq_true rfl) dX15_lineMinute_27 (fun H locs hP hD hS => ?_)
  have hP : va_P (dC, dI) vwCl [(mo, .inr (19, [.int 0, .int 0, .int 0, .int 0, .int 0, .int 0, .int 0, .ref ti, .ref si, .ref lo, .ref lh, .ref lk, .ref sp, .ref st, .ref pa, .ref br, .ref sg, .int 0, .int 0, .int 0, .int 0, .int 0, .int 0, .long 0, .long 0, .long 0, .long 0, .int 1])), (lk, .inr (3, [.int 0, .ref (z 0), .int 0]))] H := hP
  have hD : va_D A [(mo, .inr (19, [.int 0, .int 0, .int 0, .int 0, .int 0, .int 0, .int 0, .ref ti, .ref si, .ref lo, .ref lh, .ref lk, .ref sp, .ref st, .ref pa, .ref br, .ref sg, .int 0, .int 0, .int 0, .int 0, .int 0, .int 0, .long 0, .long 0, .long 0, .long 0, .int 1])), (lk, .inr (3, [.int 0, .ref (z 0), .int 0]))] := hD
  refine lv_aload_n hx hb dX15_lineMinute_30 rfl (lv_at hl 0 rfl) ?_
  refine va_get (D := (dC, dI)) (ci := 19) (v := .int 1) (C := RX15) (T := TX15) (N := 28) hx hb hts hiX15 hown hK hP 0 rfl rfl 27 (by decide) (hts (.fieldLink RX15 45 "SquareRigModel" "thrown" "I") (by decide +kernel)) (fun _ h9 => h9) rfl dX15_lineMinute_31 ?_
  refine lv_if_ne (tgt := 56) hx hb dX15_lineMinute_34 (by decide) (fun _ => ?_) (fun c_ => absurd c_ (by decide +kernel))
  refine lv_iconst (v := (-1)) hx hb dX15_lineMinute_56 (by decide) ?_
  exact W.iret (v := (-1)) hx hb hr (fun t ht hW => ⟨⟨(-1), (), rfl, rfl, kB_end (w9 := [(mo, .inr (19, [.int 0, .int 0, .int 0, .int 0, .int 0, .int 0, .int 0, .ref ti, .ref si, .ref lo, .ref lh, .ref lk, .ref sp, .ref st, .ref pa, .ref br, .ref sg, .int 0, .int 0, .int 0, .int 0, .int 0, .int 0, .long 0, .long 0, .long 0, .long 0, .int 1]))]) (t9 := []) hP hK hD [0] [] rfl (by decide) rfl rfl t ht hW⟩, hS.F ht⟩) hS.2.2 dX15_lineMinute_57
abbrev wd_k_m_state (z : Nat → Nat) (p0 : Int32) (mo : Nat) (ti : Nat) (si : Nat) (lo : Nat) (lh : Nat) (lk : Nat) (sp : Nat) (st : Nat) (pa : Nat) (br : Nat) (sg : Nat) (th : Int32) : va_W := [(mo, .inr (19, [.int 0, .int 0, .int 0, .int 0, .int 0, .int 0, .int 0, .ref ti, .ref si, .ref lo, .ref lh, .ref lk, .ref sp, .ref st, .ref pa, .ref br, .ref sg, .int 0, .int 0, .int 0, .int 0, .int 0, .int 0, .long 0, .long 0, .long 0, .long 0, .int th])), (lo, .inr (3, [.int 0, .ref (z 0), .int 0]))]
set_option maxHeartbeats 4000000 in
set_option maxRecDepth 100000 in
theorem k_m_state (l : Launch) (dC : Nat → ClassId) (dI : Nat → Nat → Nat) (z zK zV : Nat → Nat) (p0 : Int32) (mo : Nat) (ti : Nat) (si : Nat) (lo : Nat) (lh : Nat) (lk : Nat) (sp : Nat) (st : Nat) (pa : Nat) (br : Nat) (sg : Nat) (th : Int32) (sz : Nat)  : Met l yX15_state wsX15_state ({ frames := 1, cells := 0, slots := 0, locals := 25 }) (kP dC dI z zK zV [.ref mo, .int p0] sz (wd_k_m_state z p0 mo ti si lo lh lk sp st pa br sg th) []) (va_Qi (fun (r : Int32) (_ : Unit) => 32 = r) (fun _ t => kB (dC, dI) (va_A (wd_k_m_state z p0 mo ti si lo lh lk sp st pa br sg th) sz) [(mo, .inr (19, [.int 0, .int 0, .int 0, .int 0, .int 0, .int 0, .int 0, .ref ti, .ref si, .ref lo, .ref lh, .ref lk, .ref sp, .ref st, .ref pa, .ref br, .ref sg, .int 0, .int 0, .int 0, .int 0, .int 0, .int 0, .long 0, .long 0, .long 0, .long 0, .int 1]))] [] t) (va_A (wd_k_m_state z p0 mo ti si lo lh lk sp st pa br sg th) sz)) 0 0 (va_A (wd_k_m_state z p0 mo ti si lo lh lk sp st pa br sg th) sz) := by
  refine Met.ofW (cc := cX15_state) (maxL := 2) (ret := (some .char)) (by decide) rfl ?_
  intro p e s m args below meth c s₁ B hml hv
  obtain ⟨rfl, hsz, hP, hK, hD0, hM⟩ := hv
  have hx := B.exec
  have hb := B.bytes
  have hr := B.returns
  have hts := atoms_spec (ws := wsX15_state) B.pre
  have hown : s.vm.findClass RX15 = some m.cls := findClass_of_methodNamed B.named
  have hlocks := B.notSynchronized
  have hiX15 : ∀ w ∈ u_ws RX15 TX15 28, w ∈ wsX15_state := by decide +kernel
  subst hsz
  have hD := hD0.self (sz := s.heap.size)
  generalize hAe : va_A (wd_k_m_state z p0 mo ti si lo lh lk sp st pa br sg th) s.heap.size = A at hD hM ⊢
  have hA : ∀ q : Nat, s.heap.size ≤ q → A q := fun q h => by rw [← hAe]; exact Or.inr h
  have hS : va_S A s.heap s.heap [] := va_S.rf
  have hP : va_P (dC, dI) vwCl [(mo, .inr (19, [.int 0, .int 0, .int 0, .int 0, .int 0, .int 0, .int 0, .ref ti, .ref si, .ref lo, .ref lh, .ref lk, .ref sp, .ref st, .ref pa, .ref br, .ref sg, .int 0, .int 0, .int 0, .int 0, .int 0, .int 0, .long 0, .long 0, .long 0, .long 0, .int th])), (lo, .inr (3, [.int 0, .ref (z 0), .int 0]))] s.heap := hP
  have hD : va_D A [(mo, .inr (19, [.int 0, .int 0, .int 0, .int 0, .int 0, .int 0, .int 0, .ref ti, .ref si, .ref lo, .ref lh, .ref lk, .ref sp, .ref st, .ref pa, .ref br, .ref sg, .int 0, .int 0, .int 0, .int 0, .int 0, .int 0, .long 0, .long 0, .long 0, .long 0, .int th])), (lo, .inr (3, [.int 0, .ref (z 0), .int 0]))] := hD
  have hl := lv_entry ([.ref mo, .int p0]) (n := 2) (Nat.le_of_ble_eq_true rfl)
  rw [lg_entry_eq]
  generalize (lg_sl ([.ref mo, .int p0]) ++ List.replicate (2 - (lg_sl ([.ref mo, .int p0])).length) Slot.unset).toArray = ls at hl ⊢
  have hl : lv_has ls 2 [(0, .ref mo), (1, .int p0)] := hl
  refine lv_aload_n hx hb dX15_state_0 rfl (lv_at hl 0 rfl) ?_
  refine lv_iload_n hx hb dX15_state_1 rfl (lv_at hl 1 rfl) ?_
  refine lv_i2l (v := p0.toInt64) hx hb dX15_state_2 rfl ?_
  refine lv_lconst (v := 0) hx hb dX15_state_3 (by decide) ?_
  refine lv_aload_n hx hb dX15_state_4 rfl (lv_at hl 0 rfl) ?_
  refine va_get (D := (dC, dI)) (ci := 19) (v := .ref lo) (C := RX15) (T := TX15) (N := 28) hx hb hts hiX15 hown hK hP 0 rfl rfl 9 (by decide) (hts (.fieldLink RX15 19 "SquareRigModel" "orders" "Ljava/util/List;") (by decide +kernel)) (fun _ h9 => h9) rfl dX15_state_5 ?_
  have hPc := hP.sub (ws' := [(lo, .inr (3, [.int 0, .ref (z 0), .int 0]))]) [1] rfl
  have hDc := hD.sub (ws' := [(lo, .inr (3, [.int 0, .ref (z 0), .int 0]))]) [1] (by decide) rfl
  have hKc := hK.sub (tys' := []) [] rfl
  have hFc := va_free (wc := [(lo, .inr (3, [.int 0, .ref (z 0), .int 0]))]) hD hS hA [1] rfl
  refine va_callFi (va_runF (hK.1 3 _ rfl).2 (As := []) (rest := [.long 0, .long p0.toInt64, .ref mo]) ⟨hx, hb, hml, hown, hts⟩ (k_size0 l dC dI z zK zV lo s.heap.size) (va_cwF 0 hts gX15_state_Jx4a65c_size_8abf5_f156Jx4a65c rfl rfl rfl hM.2.2.2.2.2.2.2.2.2.2.1.2.2.1 (by decide +kernel) ⟨Nat.le_of_ble_eq_true rfl, Nat.le_of_ble_eq_true rfl⟩) ⟨kP_blind, va_recv hKc hPc (ci := 3) (q0 := 0) rfl rfl, kP_go hPc hKc hDc hFc hM hS⟩ rfl rfl hl.1 rfl (lv_room (Nat.le_of_ble_eq_true rfl)) dX15_state_8 ⟨Nat.le_of_ble_eq_true rfl, Nat.le_of_ble_eq_true rfl⟩) hS (fun q _ h => hFc q h) hFc (fun r1 u t H1 locs ht hvm hw hB hz1 hk1 hS => ?_)
  obtain ⟨hP, hD, hK⟩ := kJ (wr := [(mo, .inr (19, [.int 0, .int 0, .int 0, .int 0, .int 0, .int 0, .int 0, .ref ti, .ref si, .ref lo, .ref lh, .ref lk, .ref sp, .ref st, .ref pa, .ref br, .ref sg, .int 0, .int 0, .int 0, .int 0, .int 0, .int 0, .long 0, .long 0, .long 0, .long 0, .int th]))]) (w1 := [(lo, .inr (3, [.int 0, .ref (z 0), .int 0]))]) (t1 := []) hP hD hK [1] [0] rfl rfl (by decide) (by decide) hk1 hFc ht hvm hB
  generalize H1 = H at hP hS ⊢
  have hP : va_P (dC, dI) vwCl [(mo, .inr (19, [.int 0, .int 0, .int 0, .int 0, .int 0, .int 0, .int 0, .ref ti, .ref si, .ref lo, .ref lh, .ref lk, .ref sp, .ref st, .ref pa, .ref br, .ref sg, .int 0, .int 0, .int 0, .int 0, .int 0, .int 0, .long 0, .long 0, .long 0, .long 0, .int th])), (lo, .inr (3, [.int 0, .ref (z 0), .int 0]))] H := hP
  have hD : va_D A [(mo, .inr (19, [.int 0, .int 0, .int 0, .int 0, .int 0, .int 0, .int 0, .ref ti, .ref si, .ref lo, .ref lh, .ref lk, .ref sp, .ref st, .ref pa, .ref br, .ref sg, .int 0, .int 0, .int 0, .int 0, .int 0, .int 0, .long 0, .long 0, .long 0, .long 0, .int th])), (lo, .inr (3, [.int 0, .ref (z 0), .int 0]))] := hD
  have hK : va_K (dC, dI) vwCl [] s := hK
  obtain rfl : 0 = r1 := hw
  refine lv_iconst (v := 1) hx hb dX15_state_13 (by decide) ?_
  refine lv_isub hx hb dX15_state_14 ?_
  refine kc_i (y := (-1)) (by decide +kernel) ?_
  refine lv_i2l (v := (-1)) hx hb dX15_state_15 (by decide +kernel) ?_
  have hPc := hP.sub (ws' := []) [] rfl
  have hDc := hD.sub (ws' := []) [] (by decide) rfl
  have hKc := hK.sub (tys' := []) [] rfl
  have hFc := va_free (wc := []) hD hS hA [] rfl
  refine va_calli (va_runS (As := [.long p0.toInt64, .long 0, .long (-1)]) (rest := [.ref mo]) ⟨hx, hb, hml, hown, hts⟩ (k_in l dC dI z zK zV p0.toInt64 0 (-1) H.size) (va_cwS 3 hts gX15_state_X15_in rfl rfl rfl (by decide +kernel) ⟨Nat.le_of_ble_eq_true rfl, Nat.le_of_ble_eq_true rfl⟩) ⟨kP_blind, kP_go hPc hKc hDc hFc hM hS⟩ rfl rfl hl.1 rfl (lv_room (Nat.le_of_ble_eq_true rfl)) dX15_state_16 ⟨Nat.le_of_ble_eq_true rfl, Nat.le_of_ble_eq_true rfl⟩) hS (fun q _ h => hFc q h) hFc (fun r2 u t H1 locs ht hvm hw hB hz1 hk1 hS => ?_)
  obtain ⟨hP, hD, hK⟩ := kJ (wr := [(mo, .inr (19, [.int 0, .int 0, .int 0, .int 0, .int 0, .int 0, .int 0, .ref ti, .ref si, .ref lo, .ref lh, .ref lk, .ref sp, .ref st, .ref pa, .ref br, .ref sg, .int 0, .int 0, .int 0, .int 0, .int 0, .int 0, .long 0, .long 0, .long 0, .long 0, .int th])), (lo, .inr (3, [.int 0, .ref (z 0), .int 0]))]) (w1 := []) (t1 := []) hP hD hK [] [0, 1] rfl rfl (by decide) (by decide) hk1 hFc ht hvm hB
  generalize H1 = H at hP hS ⊢
  have hP : va_P (dC, dI) vwCl [(mo, .inr (19, [.int 0, .int 0, .int 0, .int 0, .int 0, .int 0, .int 0, .ref ti, .ref si, .ref lo, .ref lh, .ref lk, .ref sp, .ref st, .ref pa, .ref br, .ref sg, .int 0, .int 0, .int 0, .int 0, .int 0, .int 0, .long 0, .long 0, .long 0, .long 0, .int th])), (lo, .inr (3, [.int 0, .ref (z 0), .int 0]))] H := hP
  have hD : va_D A [(mo, .inr (19, [.int 0, .int 0, .int 0, .int 0, .int 0, .int 0, .int 0, .ref ti, .ref si, .ref lo, .ref lh, .ref lk, .ref sp, .ref st, .ref pa, .ref br, .ref sg, .int 0, .int 0, .int 0, .int 0, .int 0, .int 0, .long 0, .long 0, .long 0, .long 0, .int th])), (lo, .inr (3, [.int 0, .ref (z 0), .int 0]))] := hD
  have hK : va_K (dC, dI) vwCl [] s := hK
  obtain rfl : (if 0 ≤ (p0.toInt64) ∧ (p0.toInt64) ≤ (-1) then (1 : Int32) else 0) = r2 := hw
  refine kc_i (y := (if 0 ≤ p0 ∧ p0 ≤ (-1) then (1 : Int32) else 0)) (k_inP (a := 0) (b := (-1)) (by decide +kernel) (by decide +kernel)) ?_
  refine lv_if_eq (tgt := 26) hx hb dX15_state_19 (by decide) (fun _ => ?_) (fun c_ => absurd (if_neg (k_none p0)) c_)
  refine lv_iconst (v := 1) hx hb dX15_state_26 (by decide) ?_
  refine va_put (D := (dC, dI)) (ci := 19) (v := .int 1) (ty := .int) (C := RX15) (T := TX15) (N := 28) hx hb hts hiX15 tyX15 tyX15_ok nmX15 hown hK hP hD hS 0 rfl rfl 27 (by decide) (hts (.fieldLink RX15 45 "SquareRigModel" "thrown" "I") (by decide +kernel)) (fun _ h9 => h9) rfl (by decide +kernel) rfl rfl (Nat.le_of_ble_eq_true rfl) dX15_state_27 (fun H locs hP hD hS => ?_)
  have hP : va_P (dC, dI) vwCl [(mo, .inr (19, [.int 0, .int 0, .int 0, .int 0, .int 0, .int 0, .int 0, .ref ti, .ref si, .ref lo, .ref lh, .ref lk, .ref sp, .ref st, .ref pa, .ref br, .ref sg, .int 0, .int 0, .int 0, .int 0, .int 0, .int 0, .long 0, .long 0, .long 0, .long 0, .int 1])), (lo, .inr (3, [.int 0, .ref (z 0), .int 0]))] H := hP
  have hD : va_D A [(mo, .inr (19, [.int 0, .int 0, .int 0, .int 0, .int 0, .int 0, .int 0, .ref ti, .ref si, .ref lo, .ref lh, .ref lk, .ref sp, .ref st, .ref pa, .ref br, .ref sg, .int 0, .int 0, .int 0, .int 0, .int 0, .int 0, .long 0, .long 0, .long 0, .long 0, .int 1])), (lo, .inr (3, [.int 0, .ref (z 0), .int 0]))] := hD
  refine lv_aload_n hx hb dX15_state_30 rfl (lv_at hl 0 rfl) ?_
  refine va_get (D := (dC, dI)) (ci := 19) (v := .int 1) (C := RX15) (T := TX15) (N := 28) hx hb hts hiX15 hown hK hP 0 rfl rfl 27 (by decide) (hts (.fieldLink RX15 45 "SquareRigModel" "thrown" "I") (by decide +kernel)) (fun _ h9 => h9) rfl dX15_state_31 ?_
  refine lv_if_ne (tgt := 56) hx hb dX15_state_34 (by decide) (fun _ => ?_) (fun c_ => absurd c_ (by decide +kernel))
  refine lv_bipush (v := 32) hx hb dX15_state_56 (by decide) ?_
  exact W.zret (v := 32) hx hb hr (by decide +kernel) (fun t ht hW => ⟨⟨32, (), rfl, rfl, kB_end (w9 := [(mo, .inr (19, [.int 0, .int 0, .int 0, .int 0, .int 0, .int 0, .int 0, .ref ti, .ref si, .ref lo, .ref lh, .ref lk, .ref sp, .ref st, .ref pa, .ref br, .ref sg, .int 0, .int 0, .int 0, .int 0, .int 0, .int 0, .long 0, .long 0, .long 0, .long 0, .int 1]))]) (t9 := []) hP hK hD [0] [] rfl (by decide) rfl rfl t ht hW⟩, hS.F ht⟩) hS.2.2 dX15_state_58
abbrev wd_k_m_belay (z : Nat → Nat) (p0 : Int32) (mo : Nat) (ti : Nat) (si : Nat) (lo : Nat) (lh : Nat) (lk : Nat) (sp : Nat) (st : Nat) (pa : Nat) (br : Nat) (sg : Nat) (th : Int32) : va_W := [(mo, .inr (19, [.int 0, .int 0, .int 0, .int 0, .int 0, .int 0, .int 0, .ref ti, .ref si, .ref lo, .ref lh, .ref lk, .ref sp, .ref st, .ref pa, .ref br, .ref sg, .int 0, .int 0, .int 0, .int 0, .int 0, .int 0, .long 0, .long 0, .long 0, .long 0, .int th])), (lo, .inr (3, [.int 0, .ref (z 0), .int 0]))]
set_option maxHeartbeats 4000000 in
set_option maxRecDepth 100000 in
theorem k_m_belay (l : Launch) (dC : Nat → ClassId) (dI : Nat → Nat → Nat) (z zK zV : Nat → Nat) (p0 : Int32) (mo : Nat) (ti : Nat) (si : Nat) (lo : Nat) (lh : Nat) (lk : Nat) (sp : Nat) (st : Nat) (pa : Nat) (br : Nat) (sg : Nat) (th : Int32) (sz : Nat)  : Met l yX15_belay wsX15_belay ({ frames := 1, cells := 0, slots := 0, locals := 25 }) (kP dC dI z zK zV [.ref mo, .int p0] sz (wd_k_m_belay z p0 mo ti si lo lh lk sp st pa br sg th) []) (va_Qi (fun (r : Int32) (_ : Unit) => (-1) = r) (fun _ t => kB (dC, dI) (va_A (wd_k_m_belay z p0 mo ti si lo lh lk sp st pa br sg th) sz) [(mo, .inr (19, [.int 0, .int 0, .int 0, .int 0, .int 0, .int 0, .int 0, .ref ti, .ref si, .ref lo, .ref lh, .ref lk, .ref sp, .ref st, .ref pa, .ref br, .ref sg, .int 0, .int 0, .int 0, .int 0, .int 0, .int 0, .long 0, .long 0, .long 0, .long 0, .int 1]))] [] t) (va_A (wd_k_m_belay z p0 mo ti si lo lh lk sp st pa br sg th) sz)) 0 0 (va_A (wd_k_m_belay z p0 mo ti si lo lh lk sp st pa br sg th) sz) := by
  refine Met.ofW (cc := cX15_belay) (maxL := 5) (ret := (some .int)) (by decide) rfl ?_
  intro p e s m args below meth c s₁ B hml hv
  obtain ⟨rfl, hsz, hP, hK, hD0, hM⟩ := hv
  have hx := B.exec
  have hb := B.bytes
  have hr := B.returns
  have hts := atoms_spec (ws := wsX15_belay) B.pre
  have hown : s.vm.findClass RX15 = some m.cls := findClass_of_methodNamed B.named
  have hlocks := B.notSynchronized
  have hiX15 : ∀ w ∈ u_ws RX15 TX15 28, w ∈ wsX15_belay := by decide +kernel
  subst hsz
  have hD := hD0.self (sz := s.heap.size)
  generalize hAe : va_A (wd_k_m_belay z p0 mo ti si lo lh lk sp st pa br sg th) s.heap.size = A at hD hM ⊢
  have hA : ∀ q : Nat, s.heap.size ≤ q → A q := fun q h => by rw [← hAe]; exact Or.inr h
  have hS : va_S A s.heap s.heap [] := va_S.rf
  have hP : va_P (dC, dI) vwCl [(mo, .inr (19, [.int 0, .int 0, .int 0, .int 0, .int 0, .int 0, .int 0, .ref ti, .ref si, .ref lo, .ref lh, .ref lk, .ref sp, .ref st, .ref pa, .ref br, .ref sg, .int 0, .int 0, .int 0, .int 0, .int 0, .int 0, .long 0, .long 0, .long 0, .long 0, .int th])), (lo, .inr (3, [.int 0, .ref (z 0), .int 0]))] s.heap := hP
  have hD : va_D A [(mo, .inr (19, [.int 0, .int 0, .int 0, .int 0, .int 0, .int 0, .int 0, .ref ti, .ref si, .ref lo, .ref lh, .ref lk, .ref sp, .ref st, .ref pa, .ref br, .ref sg, .int 0, .int 0, .int 0, .int 0, .int 0, .int 0, .long 0, .long 0, .long 0, .long 0, .int th])), (lo, .inr (3, [.int 0, .ref (z 0), .int 0]))] := hD
  have hl := lv_entry ([.ref mo, .int p0]) (n := 5) (Nat.le_of_ble_eq_true rfl)
  rw [lg_entry_eq]
  generalize (lg_sl ([.ref mo, .int p0]) ++ List.replicate (5 - (lg_sl ([.ref mo, .int p0])).length) Slot.unset).toArray = ls at hl ⊢
  have hl : lv_has ls 5 [(0, .ref mo), (1, .int p0)] := hl
  refine lv_aload_n hx hb dX15_belay_0 rfl (lv_at hl 0 rfl) ?_
  refine lv_iload_n hx hb dX15_belay_1 rfl (lv_at hl 1 rfl) ?_
  refine lv_i2l (v := p0.toInt64) hx hb dX15_belay_2 rfl ?_
  refine lv_lconst (v := 0) hx hb dX15_belay_3 (by decide) ?_
  refine lv_aload_n hx hb dX15_belay_4 rfl (lv_at hl 0 rfl) ?_
  refine va_get (D := (dC, dI)) (ci := 19) (v := .ref lo) (C := RX15) (T := TX15) (N := 28) hx hb hts hiX15 hown hK hP 0 rfl rfl 9 (by decide) (hts (.fieldLink RX15 19 "SquareRigModel" "orders" "Ljava/util/List;") (by decide +kernel)) (fun _ h9 => h9) rfl dX15_belay_5 ?_
  have hPc := hP.sub (ws' := [(lo, .inr (3, [.int 0, .ref (z 0), .int 0]))]) [1] rfl
  have hDc := hD.sub (ws' := [(lo, .inr (3, [.int 0, .ref (z 0), .int 0]))]) [1] (by decide) rfl
  have hKc := hK.sub (tys' := []) [] rfl
  have hFc := va_free (wc := [(lo, .inr (3, [.int 0, .ref (z 0), .int 0]))]) hD hS hA [1] rfl
  refine va_callFi (va_runF (hK.1 3 _ rfl).2 (As := []) (rest := [.long 0, .long p0.toInt64, .ref mo]) ⟨hx, hb, hml, hown, hts⟩ (k_size0 l dC dI z zK zV lo s.heap.size) (va_cwF 0 hts gX15_belay_Jx4a65c_size_8abf5_f156Jx4a65c rfl rfl rfl hM.2.2.2.2.2.2.2.2.2.2.1.2.2.1 (by decide +kernel) ⟨Nat.le_of_ble_eq_true rfl, Nat.le_of_ble_eq_true rfl⟩) ⟨kP_blind, va_recv hKc hPc (ci := 3) (q0 := 0) rfl rfl, kP_go hPc hKc hDc hFc hM hS⟩ rfl rfl hl.1 rfl (lv_room (Nat.le_of_ble_eq_true rfl)) dX15_belay_8 ⟨Nat.le_of_ble_eq_true rfl, Nat.le_of_ble_eq_true rfl⟩) hS (fun q _ h => hFc q h) hFc (fun r1 u t H1 locs ht hvm hw hB hz1 hk1 hS => ?_)
  obtain ⟨hP, hD, hK⟩ := kJ (wr := [(mo, .inr (19, [.int 0, .int 0, .int 0, .int 0, .int 0, .int 0, .int 0, .ref ti, .ref si, .ref lo, .ref lh, .ref lk, .ref sp, .ref st, .ref pa, .ref br, .ref sg, .int 0, .int 0, .int 0, .int 0, .int 0, .int 0, .long 0, .long 0, .long 0, .long 0, .int th]))]) (w1 := [(lo, .inr (3, [.int 0, .ref (z 0), .int 0]))]) (t1 := []) hP hD hK [1] [0] rfl rfl (by decide) (by decide) hk1 hFc ht hvm hB
  generalize H1 = H at hP hS ⊢
  have hP : va_P (dC, dI) vwCl [(mo, .inr (19, [.int 0, .int 0, .int 0, .int 0, .int 0, .int 0, .int 0, .ref ti, .ref si, .ref lo, .ref lh, .ref lk, .ref sp, .ref st, .ref pa, .ref br, .ref sg, .int 0, .int 0, .int 0, .int 0, .int 0, .int 0, .long 0, .long 0, .long 0, .long 0, .int th])), (lo, .inr (3, [.int 0, .ref (z 0), .int 0]))] H := hP
  have hD : va_D A [(mo, .inr (19, [.int 0, .int 0, .int 0, .int 0, .int 0, .int 0, .int 0, .ref ti, .ref si, .ref lo, .ref lh, .ref lk, .ref sp, .ref st, .ref pa, .ref br, .ref sg, .int 0, .int 0, .int 0, .int 0, .int 0, .int 0, .long 0, .long 0, .long 0, .long 0, .int th])), (lo, .inr (3, [.int 0, .ref (z 0), .int 0]))] := hD
  have hK : va_K (dC, dI) vwCl [] s := hK
  obtain rfl : 0 = r1 := hw
  refine lv_iconst (v := 1) hx hb dX15_belay_13 (by decide) ?_
  refine lv_isub hx hb dX15_belay_14 ?_
  refine kc_i (y := (-1)) (by decide +kernel) ?_
  refine lv_i2l (v := (-1)) hx hb dX15_belay_15 (by decide +kernel) ?_
  have hPc := hP.sub (ws' := []) [] rfl
  have hDc := hD.sub (ws' := []) [] (by decide) rfl
  have hKc := hK.sub (tys' := []) [] rfl
  have hFc := va_free (wc := []) hD hS hA [] rfl
  refine va_calli (va_runS (As := [.long p0.toInt64, .long 0, .long (-1)]) (rest := [.ref mo]) ⟨hx, hb, hml, hown, hts⟩ (k_in l dC dI z zK zV p0.toInt64 0 (-1) H.size) (va_cwS 3 hts gX15_belay_X15_in rfl rfl rfl (by decide +kernel) ⟨Nat.le_of_ble_eq_true rfl, Nat.le_of_ble_eq_true rfl⟩) ⟨kP_blind, kP_go hPc hKc hDc hFc hM hS⟩ rfl rfl hl.1 rfl (lv_room (Nat.le_of_ble_eq_true rfl)) dX15_belay_16 ⟨Nat.le_of_ble_eq_true rfl, Nat.le_of_ble_eq_true rfl⟩) hS (fun q _ h => hFc q h) hFc (fun r2 u t H1 locs ht hvm hw hB hz1 hk1 hS => ?_)
  obtain ⟨hP, hD, hK⟩ := kJ (wr := [(mo, .inr (19, [.int 0, .int 0, .int 0, .int 0, .int 0, .int 0, .int 0, .ref ti, .ref si, .ref lo, .ref lh, .ref lk, .ref sp, .ref st, .ref pa, .ref br, .ref sg, .int 0, .int 0, .int 0, .int 0, .int 0, .int 0, .long 0, .long 0, .long 0, .long 0, .int th])), (lo, .inr (3, [.int 0, .ref (z 0), .int 0]))]) (w1 := []) (t1 := []) hP hD hK [] [0, 1] rfl rfl (by decide) (by decide) hk1 hFc ht hvm hB
  generalize H1 = H at hP hS ⊢
  have hP : va_P (dC, dI) vwCl [(mo, .inr (19, [.int 0, .int 0, .int 0, .int 0, .int 0, .int 0, .int 0, .ref ti, .ref si, .ref lo, .ref lh, .ref lk, .ref sp, .ref st, .ref pa, .ref br, .ref sg, .int 0, .int 0, .int 0, .int 0, .int 0, .int 0, .long 0, .long 0, .long 0, .long 0, .int th])), (lo, .inr (3, [.int 0, .ref (z 0), .int 0]))] H := hP
  have hD : va_D A [(mo, .inr (19, [.int 0, .int 0, .int 0, .int 0, .int 0, .int 0, .int 0, .ref ti, .ref si, .ref lo, .ref lh, .ref lk, .ref sp, .ref st, .ref pa, .ref br, .ref sg, .int 0, .int 0, .int 0, .int 0, .int 0, .int 0, .long 0, .long 0, .long 0, .long 0, .int th])), (lo, .inr (3, [.int 0, .ref (z 0), .int 0]))] := hD
  have hK : va_K (dC, dI) vwCl [] s := hK
  obtain rfl : (if 0 ≤ (p0.toInt64) ∧ (p0.toInt64) ≤ (-1) then (1 : Int32) else 0) = r2 := hw
  refine kc_i (y := (if 0 ≤ p0 ∧ p0 ≤ (-1) then (1 : Int32) else 0)) (k_inP (a := 0) (b := (-1)) (by decide +kernel) (by decide +kernel)) ?_
  refine lv_if_ne (tgt := 26) hx hb dX15_belay_19 (by decide) (fun c_ => absurd (if_neg (k_none p0)) c_) (fun _ => ?_)
  refine lv_iconst (v := 1) hx hb dX15_belay_22 (by decide) ?_
  refine lv_goto (tgt := 52) hx hb dX15_belay_23 (by decide) ?_
  refine va_put (D := (dC, dI)) (ci := 19) (v := .int 1) (ty := .int) (C := RX15) (T := TX15) (N := 28) hx hb hts hiX15 tyX15 tyX15_ok nmX15 hown hK hP hD hS 0 rfl rfl 27 (by decide) (hts (.fieldLink RX15 45 "SquareRigModel" "thrown" "I") (by decide +kernel)) (fun _ h9 => h9) rfl (by decide +kernel) rfl rfl (Nat.le_of_ble_eq_true rfl) dX15_belay_52 (fun H locs hP hD hS => ?_)
  have hP : va_P (dC, dI) vwCl [(mo, .inr (19, [.int 0, .int 0, .int 0, .int 0, .int 0, .int 0, .int 0, .ref ti, .ref si, .ref lo, .ref lh, .ref lk, .ref sp, .ref st, .ref pa, .ref br, .ref sg, .int 0, .int 0, .int 0, .int 0, .int 0, .int 0, .long 0, .long 0, .long 0, .long 0, .int 1])), (lo, .inr (3, [.int 0, .ref (z 0), .int 0]))] H := hP
  have hD : va_D A [(mo, .inr (19, [.int 0, .int 0, .int 0, .int 0, .int 0, .int 0, .int 0, .ref ti, .ref si, .ref lo, .ref lh, .ref lk, .ref sp, .ref st, .ref pa, .ref br, .ref sg, .int 0, .int 0, .int 0, .int 0, .int 0, .int 0, .long 0, .long 0, .long 0, .long 0, .int 1])), (lo, .inr (3, [.int 0, .ref (z 0), .int 0]))] := hD
  refine lv_aload_n hx hb dX15_belay_55 rfl (lv_at hl 0 rfl) ?_
  refine va_get (D := (dC, dI)) (ci := 19) (v := .int 1) (C := RX15) (T := TX15) (N := 28) hx hb hts hiX15 hown hK hP 0 rfl rfl 27 (by decide) (hts (.fieldLink RX15 45 "SquareRigModel" "thrown" "I") (by decide +kernel)) (fun _ h9 => h9) rfl dX15_belay_56 ?_
  refine lv_if_le (tgt := 64) hx hb dX15_belay_59 (by decide) (fun c_ => absurd c_ (by decide +kernel)) (fun _ => ?_)
  refine lv_iconst (v := (-1)) hx hb dX15_belay_62 (by decide) ?_
  exact W.iret (v := (-1)) hx hb hr (fun t ht hW => ⟨⟨(-1), (), rfl, rfl, kB_end (w9 := [(mo, .inr (19, [.int 0, .int 0, .int 0, .int 0, .int 0, .int 0, .int 0, .ref ti, .ref si, .ref lo, .ref lh, .ref lk, .ref sp, .ref st, .ref pa, .ref br, .ref sg, .int 0, .int 0, .int 0, .int 0, .int 0, .int 0, .long 0, .long 0, .long 0, .long 0, .int 1]))]) (t9 := []) hP hK hD [0] [] rfl (by decide) rfl rfl t ht hW⟩, hS.F ht⟩) hS.2.2 dX15_belay_63
abbrev wd_k_isEmpty (z : Nat → Nat) (lh : Nat) : va_W := [(lh, .inr (3, [.int 0, .ref (z 0), .int 0]))]
set_option maxHeartbeats 4000000 in
set_option maxRecDepth 100000 in
theorem k_isEmpty (l : Launch) (dC : Nat → ClassId) (dI : Nat → Nat → Nat) (z zK zV : Nat → Nat) (lh : Nat) (sz : Nat)  : Met l yJx4a65c_isEmpty_aae02 wsJx4a65c_isEmpty_aae02 ({ frames := 0, cells := 0, slots := 0, locals := 0 }) (kP dC dI z zK zV [.ref lh] sz (wd_k_isEmpty z lh) []) (va_Qi (fun (r : Int32) (_ : Unit) => 1 = r) (fun _ t => kB (dC, dI) (va_A (wd_k_isEmpty z lh) sz) [(lh, .inr (3, [.int 0, .ref (z 0), .int 0]))] [] t) (va_A (wd_k_isEmpty z lh) sz)) 0 0 (va_A (wd_k_isEmpty z lh) sz) := by
  refine Met.ofW (cc := cJx4a65c_isEmpty_aae02) (maxL := 1) (ret := (some .boolean)) (by decide) rfl ?_
  intro p e s m args below meth c s₁ B hml hv
  obtain ⟨rfl, hsz, hP, hK, hD0, hM⟩ := hv
  have hx := B.exec
  have hb := B.bytes
  have hr := B.returns
  have hts := atoms_spec (ws := wsJx4a65c_isEmpty_aae02) B.pre
  have hown : s.vm.findClass RJx4a65c = some m.cls := findClass_of_methodNamed B.named
  have hlocks := B.notSynchronized
  have hiJx4a65c : ∀ w ∈ u_ws RJx4a65c TJx4a65c 3, w ∈ wsJx4a65c_isEmpty_aae02 := by decide +kernel
  subst hsz
  have hD := hD0.self (sz := s.heap.size)
  generalize hAe : va_A (wd_k_isEmpty z lh) s.heap.size = A at hD hM ⊢
  have hA : ∀ q : Nat, s.heap.size ≤ q → A q := fun q h => by rw [← hAe]; exact Or.inr h
  have hS : va_S A s.heap s.heap [] := va_S.rf
  have hP : va_P (dC, dI) vwCl [(lh, .inr (3, [.int 0, .ref (z 0), .int 0]))] s.heap := hP
  have hD : va_D A [(lh, .inr (3, [.int 0, .ref (z 0), .int 0]))] := hD
  have hl := lv_entry ([.ref lh]) (n := 1) (Nat.le_of_ble_eq_true rfl)
  rw [lg_entry_eq]
  generalize (lg_sl ([.ref lh]) ++ List.replicate (1 - (lg_sl ([.ref lh])).length) Slot.unset).toArray = ls at hl ⊢
  have hl : lv_has ls 1 [(0, .ref lh)] := hl
  refine lv_aload_n hx hb dJx4a65c_isEmpty_aae02_0 rfl (lv_at hl 0 rfl) ?_
  refine va_get (D := (dC, dI)) (ci := 3) (v := .int 0) (C := RJx4a65c) (T := TJx4a65c) (N := 3) hx hb hts hiJx4a65c hown hK hP 0 rfl rfl 2 (by decide) (hts (.fieldLink RJx4a65c 48 "java/util/ArrayList" "size" "I") (by decide +kernel)) (fun _ h9 => h9) rfl dJx4a65c_isEmpty_aae02_1 ?_
  refine lv_if_ne (tgt := 11) hx hb dJx4a65c_isEmpty_aae02_4 (by decide) (fun c_ => absurd (by decide +kernel) c_) (fun _ => ?_)
  refine lv_iconst (v := 1) hx hb dJx4a65c_isEmpty_aae02_7 (by decide) ?_
  refine lv_goto (tgt := 12) hx hb dJx4a65c_isEmpty_aae02_8 (by decide) ?_
  exact W.zret (v := 1) hx hb hr (by decide +kernel) (fun t ht hW => ⟨⟨1, (), rfl, rfl, kB_end (w9 := [(lh, .inr (3, [.int 0, .ref (z 0), .int 0]))]) (t9 := []) hP hK hD [0] [] rfl (by decide) rfl rfl t ht hW⟩, hS.F ht⟩) hS.2.2 dJx4a65c_isEmpty_aae02_12
abbrev wd_k_m_jettison (z : Nat → Nat) (mo : Nat) (ti : Nat) (si : Nat) (lo : Nat) (lh : Nat) (lk : Nat) (sp : Nat) (st : Nat) (pa : Nat) (br : Nat) (sg : Nat) (th : Int32) : va_W := [(mo, .inr (19, [.int 0, .int 0, .int 0, .int 0, .int 0, .int 0, .int 0, .ref ti, .ref si, .ref lo, .ref lh, .ref lk, .ref sp, .ref st, .ref pa, .ref br, .ref sg, .int 0, .int 0, .int 0, .int 0, .int 0, .int 0, .long 0, .long 0, .long 0, .long 0, .int th])), (lh, .inr (3, [.int 0, .ref (z 0), .int 0]))]
set_option maxHeartbeats 4000000 in
set_option maxRecDepth 100000 in
theorem k_m_jettison (l : Launch) (dC : Nat → ClassId) (dI : Nat → Nat → Nat) (z zK zV : Nat → Nat) (mo : Nat) (ti : Nat) (si : Nat) (lo : Nat) (lh : Nat) (lk : Nat) (sp : Nat) (st : Nat) (pa : Nat) (br : Nat) (sg : Nat) (th : Int32) (sz : Nat)  : Met l yX15_jettison wsX15_jettison ({ frames := 1, cells := 0, slots := 0, locals := 20 }) (kP dC dI z zK zV [.ref mo] sz (wd_k_m_jettison z mo ti si lo lh lk sp st pa br sg th) []) (va_Qi (fun (r : Int32) (_ : Unit) => (-1) = r) (fun _ t => kB (dC, dI) (va_A (wd_k_m_jettison z mo ti si lo lh lk sp st pa br sg th) sz) [(mo, .inr (19, [.int 0, .int 0, .int 0, .int 0, .int 0, .int 0, .int 0, .ref ti, .ref si, .ref lo, .ref lh, .ref lk, .ref sp, .ref st, .ref pa, .ref br, .ref sg, .int 0, .int 0, .int 0, .int 0, .int 0, .int 0, .long 0, .long 0, .long 0, .long 0, .int 1]))] [] t) (va_A (wd_k_m_jettison z mo ti si lo lh lk sp st pa br sg th) sz)) 0 0 (va_A (wd_k_m_jettison z mo ti si lo lh lk sp st pa br sg th) sz) := by
  refine Met.ofW (cc := cX15_jettison) (maxL := 1) (ret := (some .int)) (by decide) rfl ?_
  intro p e s m args below meth c s₁ B hml hv
  obtain ⟨rfl, hsz, hP, hK, hD0, hM⟩ := hv
  have hx := B.exec
  have hb := B.bytes
  have hr := B.returns
  have hts := atoms_spec (ws := wsX15_jettison) B.pre
  have hown : s.vm.findClass RX15 = some m.cls := findClass_of_methodNamed B.named
  have hlocks := B.notSynchronized
  have hiX15 : ∀ w ∈ u_ws RX15 TX15 28, w ∈ wsX15_jettison := by decide +kernel
  subst hsz
  have hD := hD0.self (sz := s.heap.size)
  generalize hAe : va_A (wd_k_m_jettison z mo ti si lo lh lk sp st pa br sg th) s.heap.size = A at hD hM ⊢
  have hA : ∀ q : Nat, s.heap.size ≤ q → A q := fun q h => by rw [← hAe]; exact Or.inr h
  have hS : va_S A s.heap s.heap [] := va_S.rf
  have hP : va_P (dC, dI) vwCl [(mo, .inr (19, [.int 0, .int 0, .int 0, .int 0, .int 0, .int 0, .int 0, .ref ti, .ref si, .ref lo, .ref lh, .ref lk, .ref sp, .ref st, .ref pa, .ref br, .ref sg, .int 0, .int 0, .int 0, .int 0, .int 0, .int 0, .long 0, .long 0, .long 0, .long 0, .int th])), (lh, .inr (3, [.int 0, .ref (z 0), .int 0]))] s.heap := hP
  have hD : va_D A [(mo, .inr (19, [.int 0, .int 0, .int 0, .int 0, .int 0, .int 0, .int 0, .ref ti, .ref si, .ref lo, .ref lh, .ref lk, .ref sp, .ref st, .ref pa, .ref br, .ref sg, .int 0, .int 0, .int 0, .int 0, .int 0, .int 0, .long 0, .long 0, .long 0, .long 0, .int th])), (lh, .inr (3, [.int 0, .ref (z 0), .int 0]))] := hD
  have hl := lv_entry ([.ref mo]) (n := 1) (Nat.le_of_ble_eq_true rfl)
  rw [lg_entry_eq]
  generalize (lg_sl ([.ref mo]) ++ List.replicate (1 - (lg_sl ([.ref mo])).length) Slot.unset).toArray = ls at hl ⊢
  have hl : lv_has ls 1 [(0, .ref mo)] := hl
  refine lv_aload_n hx hb dX15_jettison_0 rfl (lv_at hl 0 rfl) ?_
  refine lv_aload_n hx hb dX15_jettison_1 rfl (lv_at hl 0 rfl) ?_
  refine va_get (D := (dC, dI)) (ci := 19) (v := .ref lh) (C := RX15) (T := TX15) (N := 28) hx hb hts hiX15 hown hK hP 0 rfl rfl 10 (by decide) (hts (.fieldLink RX15 23 "SquareRigModel" "hold" "Ljava/util/List;") (by decide +kernel)) (fun _ h9 => h9) rfl dX15_jettison_2 ?_
  have hPc := hP.sub (ws' := [(lh, .inr (3, [.int 0, .ref (z 0), .int 0]))]) [1] rfl
  have hDc := hD.sub (ws' := [(lh, .inr (3, [.int 0, .ref (z 0), .int 0]))]) [1] (by decide) rfl
  have hKc := hK.sub (tys' := []) [] rfl
  have hFc := va_free (wc := [(lh, .inr (3, [.int 0, .ref (z 0), .int 0]))]) hD hS hA [1] rfl
  refine va_callFi (va_runF (hK.1 3 _ rfl).2 (As := []) (rest := [.ref mo]) ⟨hx, hb, hml, hown, hts⟩ (k_isEmpty l dC dI z zK zV lh s.heap.size) (va_cwF 0 hts gX15_jettison_Jx4a65c_isEmpty_aae02_f227Jx4a65c rfl rfl rfl hM.2.2.2.2.2.2.2.2.2.2.1.2.2.2.1 (by decide +kernel) ⟨Nat.le_of_ble_eq_true rfl, Nat.le_of_ble_eq_true rfl⟩) ⟨kP_blind, va_recv hKc hPc (ci := 3) (q0 := 0) rfl rfl, kP_go hPc hKc hDc hFc hM hS⟩ rfl rfl hl.1 rfl (lv_room (Nat.le_of_ble_eq_true rfl)) dX15_jettison_5 ⟨Nat.le_of_ble_eq_true rfl, Nat.le_of_ble_eq_true rfl⟩) hS (fun q _ h => hFc q h) hFc (fun r1 u t H1 locs ht hvm hw hB hz1 hk1 hS => ?_)
  obtain ⟨hP, hD, hK⟩ := kJ (wr := [(mo, .inr (19, [.int 0, .int 0, .int 0, .int 0, .int 0, .int 0, .int 0, .ref ti, .ref si, .ref lo, .ref lh, .ref lk, .ref sp, .ref st, .ref pa, .ref br, .ref sg, .int 0, .int 0, .int 0, .int 0, .int 0, .int 0, .long 0, .long 0, .long 0, .long 0, .int th]))]) (w1 := [(lh, .inr (3, [.int 0, .ref (z 0), .int 0]))]) (t1 := []) hP hD hK [1] [0] rfl rfl (by decide) (by decide) hk1 hFc ht hvm hB
  generalize H1 = H at hP hS ⊢
  have hP : va_P (dC, dI) vwCl [(mo, .inr (19, [.int 0, .int 0, .int 0, .int 0, .int 0, .int 0, .int 0, .ref ti, .ref si, .ref lo, .ref lh, .ref lk, .ref sp, .ref st, .ref pa, .ref br, .ref sg, .int 0, .int 0, .int 0, .int 0, .int 0, .int 0, .long 0, .long 0, .long 0, .long 0, .int th])), (lh, .inr (3, [.int 0, .ref (z 0), .int 0]))] H := hP
  have hD : va_D A [(mo, .inr (19, [.int 0, .int 0, .int 0, .int 0, .int 0, .int 0, .int 0, .ref ti, .ref si, .ref lo, .ref lh, .ref lk, .ref sp, .ref st, .ref pa, .ref br, .ref sg, .int 0, .int 0, .int 0, .int 0, .int 0, .int 0, .long 0, .long 0, .long 0, .long 0, .int th])), (lh, .inr (3, [.int 0, .ref (z 0), .int 0]))] := hD
  have hK : va_K (dC, dI) vwCl [] s := hK
  obtain rfl : 1 = r1 := hw
  refine lv_if_eq (tgt := 17) hx hb dX15_jettison_10 (by decide) (fun c_ => absurd c_ (by decide +kernel)) (fun _ => ?_)
  refine lv_iconst (v := 1) hx hb dX15_jettison_13 (by decide) ?_
  refine lv_goto (tgt := 18) hx hb dX15_jettison_14 (by decide) ?_
  refine va_put (D := (dC, dI)) (ci := 19) (v := .int 1) (ty := .int) (C := RX15) (T := TX15) (N := 28) hx hb hts hiX15 tyX15 tyX15_ok nmX15 hown hK hP hD hS 0 rfl rfl 27 (by decide) (hts (.fieldLink RX15 45 "SquareRigModel" "thrown" "I") (by decide +kernel)) (fun _ h9 => h9) rfl (by decide +kernel) rfl rfl (Nat.le_of_ble_eq_true rfl) dX15_jettison_18 (fun H locs hP hD hS => ?_)
  have hP : va_P (dC, dI) vwCl [(mo, .inr (19, [.int 0, .int 0, .int 0, .int 0, .int 0, .int 0, .int 0, .ref ti, .ref si, .ref lo, .ref lh, .ref lk, .ref sp, .ref st, .ref pa, .ref br, .ref sg, .int 0, .int 0, .int 0, .int 0, .int 0, .int 0, .long 0, .long 0, .long 0, .long 0, .int 1])), (lh, .inr (3, [.int 0, .ref (z 0), .int 0]))] H := hP
  have hD : va_D A [(mo, .inr (19, [.int 0, .int 0, .int 0, .int 0, .int 0, .int 0, .int 0, .ref ti, .ref si, .ref lo, .ref lh, .ref lk, .ref sp, .ref st, .ref pa, .ref br, .ref sg, .int 0, .int 0, .int 0, .int 0, .int 0, .int 0, .long 0, .long 0, .long 0, .long 0, .int 1])), (lh, .inr (3, [.int 0, .ref (z 0), .int 0]))] := hD
  refine lv_aload_n hx hb dX15_jettison_21 rfl (lv_at hl 0 rfl) ?_
  refine va_get (D := (dC, dI)) (ci := 19) (v := .int 1) (C := RX15) (T := TX15) (N := 28) hx hb hts hiX15 hown hK hP 0 rfl rfl 27 (by decide) (hts (.fieldLink RX15 45 "SquareRigModel" "thrown" "I") (by decide +kernel)) (fun _ h9 => h9) rfl dX15_jettison_22 ?_
  refine lv_if_ne (tgt := 57) hx hb dX15_jettison_25 (by decide) (fun _ => ?_) (fun c_ => absurd c_ (by decide +kernel))
  refine lv_iconst (v := (-1)) hx hb dX15_jettison_57 (by decide) ?_
  exact W.iret (v := (-1)) hx hb hr (fun t ht hW => ⟨⟨(-1), (), rfl, rfl, kB_end (w9 := [(mo, .inr (19, [.int 0, .int 0, .int 0, .int 0, .int 0, .int 0, .int 0, .ref ti, .ref si, .ref lo, .ref lh, .ref lk, .ref sp, .ref st, .ref pa, .ref br, .ref sg, .int 0, .int 0, .int 0, .int 0, .int 0, .int 0, .long 0, .long 0, .long 0, .long 0, .int 1]))]) (t9 := []) hP hK hD [0] [] rfl (by decide) rfl rfl t ht hW⟩, hS.F ht⟩) hS.2.2 dX15_jettison_58
