theorem dX7_bestBrace_0 : decode cX7_bestBrace 0 = .ok (.bipush 16, 2) := by decide +kernel
theorem dX7_bestBrace_2 : decode cX7_bestBrace 2 = .ok (.iload_n 0, 1) := by decide +kernel
theorem dX7_bestBrace_3 : decode cX7_bestBrace 3 = .ok (.invokestatic 48, 3) := by decide +kernel
theorem dX7_bestBrace_6 : decode cX7_bestBrace 6 = .ok (.isub, 1) := by decide +kernel
theorem dX7_bestBrace_7 : decode cX7_bestBrace 7 = .ok (.iconst 2, 1) := by decide +kernel
theorem dX7_bestBrace_8 : decode cX7_bestBrace 8 = .ok (.idiv, 1) := by decide +kernel
theorem dX7_bestBrace_9 : decode cX7_bestBrace 9 = .ok (.istore_n 1, 1) := by decide +kernel
theorem dX7_bestBrace_10 : decode cX7_bestBrace 10 = .ok (.iload_n 1, 1) := by decide +kernel
theorem dX7_bestBrace_11 : decode cX7_bestBrace 11 = .ok (.iconst 4, 1) := by decide +kernel
theorem dX7_bestBrace_12 : decode cX7_bestBrace 12 = .ok (.if_icmp .le 5, 3) := by decide +kernel
theorem dX7_bestBrace_15 : decode cX7_bestBrace 15 = .ok (.iconst 4, 1) := by decide +kernel
theorem dX7_bestBrace_16 : decode cX7_bestBrace 16 = .ok (.istore_n 1, 1) := by decide +kernel
theorem dX7_bestBrace_17 : decode cX7_bestBrace 17 = .ok (.iload_n 0, 1) := by decide +kernel
theorem dX7_bestBrace_18 : decode cX7_bestBrace 18 = .ok (.ifCond .ge 8, 3) := by decide +kernel
theorem dX7_bestBrace_26 : decode cX7_bestBrace 26 = .ok (.iload_n 1, 1) := by decide +kernel
theorem dX7_bestBrace_27 : decode cX7_bestBrace 27 = .ok (.ireturn, 1) := by decide +kernel
theorem dX7_pushAt_0 : decode cX7_pushAt 0 = .ok (.iload_n 1, 1) := by decide +kernel
theorem dX7_pushAt_1 : decode cX7_pushAt 1 = .ok (.ifCond .lt 15, 3) := by decide +kernel
theorem dX7_pushAt_4 : decode cX7_pushAt 4 = .ok (.iload_n 1, 1) := by decide +kernel
theorem dX7_pushAt_5 : decode cX7_pushAt 5 = .ok (.aload_n 0, 1) := by decide +kernel
theorem dX7_pushAt_6 : decode cX7_pushAt 6 = .ok (.arraylength, 1) := by decide +kernel
theorem dX7_pushAt_7 : decode cX7_pushAt 7 = .ok (.if_icmp .ge 9, 3) := by decide +kernel
theorem dX7_pushAt_10 : decode cX7_pushAt 10 = .ok (.aload_n 0, 1) := by decide +kernel
theorem dX7_pushAt_11 : decode cX7_pushAt 11 = .ok (.iload_n 1, 1) := by decide +kernel
theorem dX7_pushAt_12 : decode cX7_pushAt 12 = .ok (.iaload, 1) := by decide +kernel
theorem dX7_pushAt_13 : decode cX7_pushAt 13 = .ok (.goto 4, 3) := by decide +kernel
theorem dX7_pushAt_17 : decode cX7_pushAt 17 = .ok (.ireturn, 1) := by decide +kernel
set_option maxRecDepth 20000 in
theorem ggX7_feel_X7_bestBrace : GoodIn wsX7_feel wsX7_bestBrace := goodIn_r _ [13, 2, 3, 4, 5] (by decide +kernel) (by decide +kernel)
set_option maxRecDepth 20000 in
theorem gX7_feel_X7_bestBrace : GoodIn wsX7_feel (va_wsS RX7 54 yX7_bestBrace wsX7_bestBrace) := goodIn_app (goodIn_of _ (by decide +kernel)) ggX7_feel_X7_bestBrace
set_option maxRecDepth 20000 in
theorem ggX7_feel_X7_pushAt : GoodIn wsX7_feel wsX7_pushAt := goodIn_ca (goodIn_r _ [16] (by decide +kernel) (by decide +kernel)) (goodIn_sub (fun _ h => List.mem_cons_of_mem _ (List.mem_append_right _ h)) (by decide +kernel))
set_option maxRecDepth 20000 in
theorem gX7_feel_X7_pushAt : GoodIn wsX7_feel (va_wsS RX7 61 yX7_pushAt wsX7_pushAt) := goodIn_app (goodIn_of _ (by decide +kernel)) ggX7_feel_X7_pushAt
set_option maxRecDepth 20000 in
theorem ggX7_feel_X7_bracedPush : GoodIn wsX7_feel wsX7_bracedPush := goodIn_r _ [19, 2, 3, 4, 5] (by decide +kernel) (by decide +kernel)
set_option maxRecDepth 20000 in
theorem gX7_feel_X7_bracedPush : GoodIn wsX7_feel (va_wsS RX7 81 yX7_bracedPush wsX7_bracedPush) := goodIn_app (goodIn_of _ (by decide +kernel)) ggX7_feel_X7_bracedPush
theorem dX7_feel_0 : decode cX7_feel 0 = .ok (.iload_n 1, 1) := by decide +kernel
theorem dX7_feel_1 : decode cX7_feel 1 = .ok (.invokestatic 54, 3) := by decide +kernel
theorem dX7_feel_4 : decode cX7_feel 4 = .ok (.istore_n 3, 1) := by decide +kernel
theorem dX7_feel_5 : decode cX7_feel 5 = .ok (.getstatic 57, 3) := by decide +kernel
theorem dX7_feel_8 : decode cX7_feel 8 = .ok (.iload_n 1, 1) := by decide +kernel
theorem dX7_feel_9 : decode cX7_feel 9 = .ok (.invokestatic 48, 3) := by decide +kernel
theorem dX7_feel_12 : decode cX7_feel 12 = .ok (.invokestatic 61, 3) := by decide +kernel
theorem dX7_feel_15 : decode cX7_feel 15 = .ok (.istore 4, 2) := by decide +kernel
theorem dX7_feel_17 : decode cX7_feel 17 = .ok (.getstatic 65, 3) := by decide +kernel
theorem dX7_feel_20 : decode cX7_feel 20 = .ok (.iload_n 1, 1) := by decide +kernel
theorem dX7_feel_21 : decode cX7_feel 21 = .ok (.invokestatic 48, 3) := by decide +kernel
theorem dX7_feel_24 : decode cX7_feel 24 = .ok (.invokestatic 61, 3) := by decide +kernel
theorem dX7_feel_27 : decode cX7_feel 27 = .ok (.istore 5, 2) := by decide +kernel
theorem dX7_feel_29 : decode cX7_feel 29 = .ok (.aload_n 0, 1) := by decide +kernel
theorem dX7_feel_30 : decode cX7_feel 30 = .ok (.iconst 0, 1) := by decide +kernel
theorem dX7_feel_31 : decode cX7_feel 31 = .ok (.putfield 37, 3) := by decide +kernel
theorem dX7_feel_34 : decode cX7_feel 34 = .ok (.aload_n 0, 1) := by decide +kernel
theorem dX7_feel_35 : decode cX7_feel 35 = .ok (.getfield 24, 3) := by decide +kernel
theorem dX7_feel_38 : decode cX7_feel 38 = .ok (.astore 6, 2) := by decide +kernel
theorem dX7_feel_40 : decode cX7_feel 40 = .ok (.aload 6, 2) := by decide +kernel
theorem dX7_feel_42 : decode cX7_feel 42 = .ok (.arraylength, 1) := by decide +kernel
theorem dX7_feel_43 : decode cX7_feel 43 = .ok (.istore 7, 2) := by decide +kernel
theorem dX7_feel_45 : decode cX7_feel 45 = .ok (.iconst 0, 1) := by decide +kernel
theorem dX7_feel_46 : decode cX7_feel 46 = .ok (.istore 8, 2) := by decide +kernel
theorem dX7_feel_48 : decode cX7_feel 48 = .ok (.iload 8, 2) := by decide +kernel
theorem dX7_feel_50 : decode cX7_feel 50 = .ok (.iload 7, 2) := by decide +kernel
theorem dX7_feel_52 : decode cX7_feel 52 = .ok (.if_icmp .ge 22, 3) := by decide +kernel
theorem dX7_feel_55 : decode cX7_feel 55 = .ok (.aload 6, 2) := by decide +kernel
theorem dX7_feel_57 : decode cX7_feel 57 = .ok (.iload 8, 2) := by decide +kernel
theorem dX7_feel_59 : decode cX7_feel 59 = .ok (.aaload, 1) := by decide +kernel
theorem dX7_feel_60 : decode cX7_feel 60 = .ok (.astore 9, 2) := by decide +kernel
theorem dX7_feel_62 : decode cX7_feel 62 = .ok (.aload 9, 2) := by decide +kernel
theorem dX7_feel_64 : decode cX7_feel 64 = .ok (.iconst 0, 1) := by decide +kernel
theorem dX7_feel_65 : decode cX7_feel 65 = .ok (.putfield 68, 3) := by decide +kernel
theorem dX7_feel_68 : decode cX7_feel 68 = .ok (.iinc 8 1, 3) := by decide +kernel
theorem dX7_feel_71 : decode cX7_feel 71 = .ok (.goto (-23), 3) := by decide +kernel
theorem dX7_feel_74 : decode cX7_feel 74 = .ok (.aload_n 0, 1) := by decide +kernel
theorem dX7_feel_75 : decode cX7_feel 75 = .ok (.getfield 33, 3) := by decide +kernel
theorem dX7_feel_78 : decode cX7_feel 78 = .ok (.astore 6, 2) := by decide +kernel
theorem dX7_feel_80 : decode cX7_feel 80 = .ok (.aload 6, 2) := by decide +kernel
theorem dX7_feel_82 : decode cX7_feel 82 = .ok (.arraylength, 1) := by decide +kernel
theorem dX7_feel_83 : decode cX7_feel 83 = .ok (.istore 7, 2) := by decide +kernel
theorem dX7_feel_85 : decode cX7_feel 85 = .ok (.iconst 0, 1) := by decide +kernel
theorem dX7_feel_86 : decode cX7_feel 86 = .ok (.istore 8, 2) := by decide +kernel
theorem dX7_feel_88 : decode cX7_feel 88 = .ok (.iload 8, 2) := by decide +kernel
theorem dX7_feel_90 : decode cX7_feel 90 = .ok (.iload 7, 2) := by decide +kernel
theorem dX7_feel_92 : decode cX7_feel 92 = .ok (.if_icmp .ge 104, 3) := by decide +kernel
theorem dX7_feel_95 : decode cX7_feel 95 = .ok (.aload 6, 2) := by decide +kernel
theorem dX7_feel_97 : decode cX7_feel 97 = .ok (.iload 8, 2) := by decide +kernel
theorem dX7_feel_99 : decode cX7_feel 99 = .ok (.aaload, 1) := by decide +kernel
theorem dX7_feel_100 : decode cX7_feel 100 = .ok (.astore 9, 2) := by decide +kernel
theorem dX7_feel_102 : decode cX7_feel 102 = .ok (.aload 9, 2) := by decide +kernel
theorem dX7_feel_104 : decode cX7_feel 104 = .ok (.getfield 71, 3) := by decide +kernel
theorem dX7_feel_107 : decode cX7_feel 107 = .ok (.ifCond .eq 21, 3) := by decide +kernel
theorem dX7_feel_110 : decode cX7_feel 110 = .ok (.iload 4, 2) := by decide +kernel
theorem dX7_feel_112 : decode cX7_feel 112 = .ok (.aload 9, 2) := by decide +kernel
theorem dX7_feel_114 : decode cX7_feel 114 = .ok (.getfield 75, 3) := by decide +kernel
theorem dX7_feel_117 : decode cX7_feel 117 = .ok (.getfield 78, 3) := by decide +kernel
theorem dX7_feel_120 : decode cX7_feel 120 = .ok (.iload_n 3, 1) := by decide +kernel
theorem dX7_feel_121 : decode cX7_feel 121 = .ok (.isub, 1) := by decide +kernel
theorem dX7_feel_122 : decode cX7_feel 122 = .ok (.invokestatic 81, 3) := by decide +kernel
theorem dX7_feel_125 : decode cX7_feel 125 = .ok (.goto 5, 3) := by decide +kernel
theorem dX7_feel_128 : decode cX7_feel 128 = .ok (.iload 5, 2) := by decide +kernel
theorem dX7_feel_130 : decode cX7_feel 130 = .ok (.istore 10, 2) := by decide +kernel
theorem dX7_feel_132 : decode cX7_feel 132 = .ok (.aload 9, 2) := by decide +kernel
theorem dX7_feel_134 : decode cX7_feel 134 = .ok (.aload 9, 2) := by decide +kernel
theorem dX7_feel_136 : decode cX7_feel 136 = .ok (.getfield 85, 3) := by decide +kernel
theorem dX7_feel_139 : decode cX7_feel 139 = .ok (.aload 9, 2) := by decide +kernel
theorem dX7_feel_141 : decode cX7_feel 141 = .ok (.getfield 88, 3) := by decide +kernel
theorem dX7_feel_144 : decode cX7_feel 144 = .ok (.imul, 1) := by decide +kernel
theorem dX7_feel_145 : decode cX7_feel 145 = .ok (.iload_n 2, 1) := by decide +kernel
theorem dX7_feel_146 : decode cX7_feel 146 = .ok (.imul, 1) := by decide +kernel
theorem dX7_feel_147 : decode cX7_feel 147 = .ok (.iload 10, 2) := by decide +kernel
theorem dX7_feel_149 : decode cX7_feel 149 = .ok (.imul, 1) := by decide +kernel
theorem dX7_feel_150 : decode cX7_feel 150 = .ok (.iconst 2, 1) := by decide +kernel
theorem dX7_feel_151 : decode cX7_feel 151 = .ok (.idiv, 1) := by decide +kernel
theorem dX7_feel_152 : decode cX7_feel 152 = .ok (.putfield 91, 3) := by decide +kernel
theorem dX7_feel_155 : decode cX7_feel 155 = .ok (.aload_n 0, 1) := by decide +kernel
theorem dX7_feel_156 : decode cX7_feel 156 = .ok (.dup, 1) := by decide +kernel
theorem dX7_feel_157 : decode cX7_feel 157 = .ok (.getfield 37, 3) := by decide +kernel
theorem dX7_feel_160 : decode cX7_feel 160 = .ok (.aload 9, 2) := by decide +kernel
theorem dX7_feel_162 : decode cX7_feel 162 = .ok (.getfield 91, 3) := by decide +kernel
theorem dX7_feel_165 : decode cX7_feel 165 = .ok (.iadd, 1) := by decide +kernel
theorem dX7_feel_166 : decode cX7_feel 166 = .ok (.putfield 37, 3) := by decide +kernel
theorem dX7_feel_169 : decode cX7_feel 169 = .ok (.aload 9, 2) := by decide +kernel
theorem dX7_feel_171 : decode cX7_feel 171 = .ok (.getfield 75, 3) := by decide +kernel
theorem dX7_feel_174 : decode cX7_feel 174 = .ok (.dup, 1) := by decide +kernel
theorem dX7_feel_175 : decode cX7_feel 175 = .ok (.getfield 68, 3) := by decide +kernel
theorem dX7_feel_178 : decode cX7_feel 178 = .ok (.aload 9, 2) := by decide +kernel
theorem dX7_feel_180 : decode cX7_feel 180 = .ok (.getfield 91, 3) := by decide +kernel
theorem dX7_feel_183 : decode cX7_feel 183 = .ok (.invokestatic 48, 3) := by decide +kernel
theorem dX7_feel_186 : decode cX7_feel 186 = .ok (.iadd, 1) := by decide +kernel
theorem dX7_feel_187 : decode cX7_feel 187 = .ok (.putfield 68, 3) := by decide +kernel
theorem dX7_feel_190 : decode cX7_feel 190 = .ok (.iinc 8 1, 3) := by decide +kernel
theorem dX7_feel_193 : decode cX7_feel 193 = .ok (.goto (-105), 3) := by decide +kernel
theorem dX7_feel_196 : decode cX7_feel 196 = .ok (.return_, 1) := by decide +kernel
theorem dX7_bracedPush_0 : decode cX7_bracedPush 0 = .ok (.iload_n 0, 1) := by decide +kernel
theorem dX7_bracedPush_1 : decode cX7_bracedPush 1 = .ok (.iconst 2, 1) := by decide +kernel
theorem dX7_bracedPush_2 : decode cX7_bracedPush 2 = .ok (.iload_n 1, 1) := by decide +kernel
theorem dX7_bracedPush_3 : decode cX7_bracedPush 3 = .ok (.invokestatic 48, 3) := by decide +kernel
theorem dX7_bracedPush_6 : decode cX7_bracedPush 6 = .ok (.imul, 1) := by decide +kernel
theorem dX7_bracedPush_7 : decode cX7_bracedPush 7 = .ok (.isub, 1) := by decide +kernel
theorem dX7_bracedPush_8 : decode cX7_bracedPush 8 = .ok (.istore_n 2, 1) := by decide +kernel
theorem dX7_bracedPush_9 : decode cX7_bracedPush 9 = .ok (.iload_n 2, 1) := by decide +kernel
theorem dX7_bracedPush_10 : decode cX7_bracedPush 10 = .ok (.bipush (-12), 2) := by decide +kernel
theorem dX7_bracedPush_12 : decode cX7_bracedPush 12 = .ok (.if_icmp .ge 8, 3) := by decide +kernel
theorem dX7_bracedPush_15 : decode cX7_bracedPush 15 = .ok (.bipush (-12), 2) := by decide +kernel
theorem dX7_bracedPush_17 : decode cX7_bracedPush 17 = .ok (.goto 4, 3) := by decide +kernel
theorem dX7_bracedPush_21 : decode cX7_bracedPush 21 = .ok (.ireturn, 1) := by decide +kernel
theorem dX7_wholeStrain_0 : decode cX7_wholeStrain 0 = .ok (.aload_n 0, 1) := by decide +kernel
theorem dX7_wholeStrain_1 : decode cX7_wholeStrain 1 = .ok (.getfield 12, 3) := by decide +kernel
theorem dX7_wholeStrain_4 : decode cX7_wholeStrain 4 = .ok (.getfield 68, 3) := by decide +kernel
theorem dX7_wholeStrain_7 : decode cX7_wholeStrain 7 = .ok (.aload_n 0, 1) := by decide +kernel
theorem dX7_wholeStrain_8 : decode cX7_wholeStrain 8 = .ok (.getfield 18, 3) := by decide +kernel
theorem dX7_wholeStrain_11 : decode cX7_wholeStrain 11 = .ok (.getfield 68, 3) := by decide +kernel
theorem dX7_wholeStrain_14 : decode cX7_wholeStrain 14 = .ok (.iadd, 1) := by decide +kernel
theorem dX7_wholeStrain_15 : decode cX7_wholeStrain 15 = .ok (.aload_n 0, 1) := by decide +kernel
theorem dX7_wholeStrain_16 : decode cX7_wholeStrain 16 = .ok (.getfield 21, 3) := by decide +kernel
theorem dX7_wholeStrain_19 : decode cX7_wholeStrain 19 = .ok (.getfield 68, 3) := by decide +kernel
theorem dX7_wholeStrain_22 : decode cX7_wholeStrain 22 = .ok (.iadd, 1) := by decide +kernel
theorem dX7_wholeStrain_23 : decode cX7_wholeStrain 23 = .ok (.ireturn, 1) := by decide +kernel
theorem dX7_strainAll_0 : decode cX7_strainAll 0 = .ok (.iconst 0, 1) := by decide +kernel
theorem dX7_strainAll_1 : decode cX7_strainAll 1 = .ok (.istore_n 3, 1) := by decide +kernel
theorem dX7_strainAll_2 : decode cX7_strainAll 2 = .ok (.aload_n 0, 1) := by decide +kernel
theorem dX7_strainAll_3 : decode cX7_strainAll 3 = .ok (.getfield 33, 3) := by decide +kernel
theorem dX7_strainAll_6 : decode cX7_strainAll 6 = .ok (.astore 4, 2) := by decide +kernel
theorem dX7_strainAll_8 : decode cX7_strainAll 8 = .ok (.aload 4, 2) := by decide +kernel
theorem dX7_strainAll_10 : decode cX7_strainAll 10 = .ok (.arraylength, 1) := by decide +kernel
theorem dX7_strainAll_11 : decode cX7_strainAll 11 = .ok (.istore 5, 2) := by decide +kernel
theorem dX7_strainAll_13 : decode cX7_strainAll 13 = .ok (.iconst 0, 1) := by decide +kernel
theorem dX7_strainAll_14 : decode cX7_strainAll 14 = .ok (.istore 6, 2) := by decide +kernel
theorem dX7_strainAll_16 : decode cX7_strainAll 16 = .ok (.iload 6, 2) := by decide +kernel
theorem dX7_strainAll_18 : decode cX7_strainAll 18 = .ok (.iload 5, 2) := by decide +kernel
theorem dX7_strainAll_20 : decode cX7_strainAll 20 = .ok (.if_icmp .ge 91, 3) := by decide +kernel
theorem dX7_strainAll_23 : decode cX7_strainAll 23 = .ok (.aload 4, 2) := by decide +kernel
theorem dX7_strainAll_25 : decode cX7_strainAll 25 = .ok (.iload 6, 2) := by decide +kernel
theorem dX7_strainAll_27 : decode cX7_strainAll 27 = .ok (.aaload, 1) := by decide +kernel
theorem dX7_strainAll_28 : decode cX7_strainAll 28 = .ok (.astore 7, 2) := by decide +kernel
theorem dX7_strainAll_30 : decode cX7_strainAll 30 = .ok (.aload 7, 2) := by decide +kernel
theorem dX7_strainAll_32 : decode cX7_strainAll 32 = .ok (.getfield 91, 3) := by decide +kernel
theorem dX7_strainAll_35 : decode cX7_strainAll 35 = .ok (.invokestatic 48, 3) := by decide +kernel
theorem dX7_strainAll_38 : decode cX7_strainAll 38 = .ok (.istore 8, 2) := by decide +kernel
theorem dX7_strainAll_40 : decode cX7_strainAll 40 = .ok (.iload 8, 2) := by decide +kernel
theorem dX7_strainAll_42 : decode cX7_strainAll 42 = .ok (.aload 7, 2) := by decide +kernel
theorem dX7_strainAll_44 : decode cX7_strainAll 44 = .ok (.getfield 94, 3) := by decide +kernel
theorem dX7_strainAll_47 : decode cX7_strainAll 47 = .ok (.if_icmp .le 35, 3) := by decide +kernel
theorem dX7_strainAll_82 : decode cX7_strainAll 82 = .ok (.iconst 2, 1) := by decide +kernel
theorem dX7_strainAll_83 : decode cX7_strainAll 83 = .ok (.iload 8, 2) := by decide +kernel
theorem dX7_strainAll_85 : decode cX7_strainAll 85 = .ok (.imul, 1) := by decide +kernel
theorem dX7_strainAll_86 : decode cX7_strainAll 86 = .ok (.aload 7, 2) := by decide +kernel
theorem dX7_strainAll_88 : decode cX7_strainAll 88 = .ok (.getfield 94, 3) := by decide +kernel
theorem dX7_strainAll_91 : decode cX7_strainAll 91 = .ok (.if_icmp .le 14, 3) := by decide +kernel
theorem dX7_strainAll_105 : decode cX7_strainAll 105 = .ok (.iinc 6 1, 3) := by decide +kernel
theorem dX7_strainAll_108 : decode cX7_strainAll 108 = .ok (.goto (-92), 3) := by decide +kernel
theorem dX7_strainAll_111 : decode cX7_strainAll 111 = .ok (.aload_n 0, 1) := by decide +kernel
theorem dX7_strainAll_112 : decode cX7_strainAll 112 = .ok (.getfield 24, 3) := by decide +kernel
theorem dX7_strainAll_115 : decode cX7_strainAll 115 = .ok (.astore 4, 2) := by decide +kernel
theorem dX7_strainAll_117 : decode cX7_strainAll 117 = .ok (.aload 4, 2) := by decide +kernel
theorem dX7_strainAll_119 : decode cX7_strainAll 119 = .ok (.arraylength, 1) := by decide +kernel
theorem dX7_strainAll_120 : decode cX7_strainAll 120 = .ok (.istore 5, 2) := by decide +kernel
theorem dX7_strainAll_122 : decode cX7_strainAll 122 = .ok (.iconst 0, 1) := by decide +kernel
theorem dX7_strainAll_123 : decode cX7_strainAll 123 = .ok (.istore 6, 2) := by decide +kernel
theorem dX7_strainAll_125 : decode cX7_strainAll 125 = .ok (.iload 6, 2) := by decide +kernel
theorem dX7_strainAll_127 : decode cX7_strainAll 127 = .ok (.iload 5, 2) := by decide +kernel
theorem dX7_strainAll_129 : decode cX7_strainAll 129 = .ok (.if_icmp .ge 42, 3) := by decide +kernel
theorem dX7_strainAll_132 : decode cX7_strainAll 132 = .ok (.aload 4, 2) := by decide +kernel
theorem dX7_strainAll_134 : decode cX7_strainAll 134 = .ok (.iload 6, 2) := by decide +kernel
theorem dX7_strainAll_136 : decode cX7_strainAll 136 = .ok (.aaload, 1) := by decide +kernel
theorem dX7_strainAll_137 : decode cX7_strainAll 137 = .ok (.astore 7, 2) := by decide +kernel
theorem dX7_strainAll_139 : decode cX7_strainAll 139 = .ok (.aload 7, 2) := by decide +kernel
theorem dX7_strainAll_141 : decode cX7_strainAll 141 = .ok (.getfield 68, 3) := by decide +kernel
theorem dX7_strainAll_144 : decode cX7_strainAll 144 = .ok (.sipush 2000, 3) := by decide +kernel
theorem dX7_strainAll_147 : decode cX7_strainAll 147 = .ok (.if_icmp .le 18, 3) := by decide +kernel
theorem dX7_strainAll_165 : decode cX7_strainAll 165 = .ok (.iinc 6 1, 3) := by decide +kernel
theorem dX7_strainAll_168 : decode cX7_strainAll 168 = .ok (.goto (-43), 3) := by decide +kernel
theorem dX7_strainAll_171 : decode cX7_strainAll 171 = .ok (.iload_n 3, 1) := by decide +kernel
theorem dX7_strainAll_172 : decode cX7_strainAll 172 = .ok (.ireturn, 1) := by decide +kernel
set_option maxRecDepth 20000 in
theorem ggX9_feelWind_X9_offBow : GoodIn wsX9_feelWind wsX9_offBow := goodIn_r _ [7, 8, 9, 33, 34, 35, 36, 37, 38, 39, 40, 41, 42, 43, 44, 45, 46, 47, 48, 49] (by decide +kernel) (by decide +kernel)
set_option maxRecDepth 20000 in
theorem gX9_feelWind_X9_offBow : GoodIn wsX9_feelWind (wsV RX9 166 RX9 yX9_offBow wsX9_offBow) := goodIn_app (goodIn_of _ (by decide +kernel)) ggX9_feelWind_X9_offBow
set_option maxRecDepth 20000 in
theorem ggX9_feelWind_X7_feel : GoodIn wsX9_feelWind wsX7_feel := goodIn_ca (goodIn_r _ [14, 15, 16, 17, 18, 19, 20, 21, 22, 23, 24, 25, 13, 26, 27, 28, 29, 30, 31, 32, 50, 51, 52, 53, 54, 55, 56, 57, 58, 59, 60, 61, 62, 63, 64, 65, 66] (by decide +kernel) (by decide +kernel)) (goodIn_sub (fun _ h => List.mem_cons_of_mem _ (List.mem_append_right _ h)) (by decide +kernel))
set_option maxRecDepth 20000 in
theorem gX9_feelWind_X7_feel : GoodIn wsX9_feelWind (wsV RX9 170 RX7 yX7_feel wsX7_feel) := goodIn_app (goodIn_of _ (by decide +kernel)) ggX9_feelWind_X7_feel
theorem dX9_feelWind_0 : decode cX9_feelWind 0 = .ok (.aload_n 0, 1) := by decide +kernel
theorem dX9_feelWind_1 : decode cX9_feelWind 1 = .ok (.getfield 12, 3) := by decide +kernel
theorem dX9_feelWind_4 : decode cX9_feelWind 4 = .ok (.aload_n 0, 1) := by decide +kernel
theorem dX9_feelWind_5 : decode cX9_feelWind 5 = .ok (.invokevirtual 166, 3) := by decide +kernel
theorem dX9_feelWind_8 : decode cX9_feelWind 8 = .ok (.aload_n 0, 1) := by decide +kernel
theorem dX9_feelWind_9 : decode cX9_feelWind 9 = .ok (.getfield 53, 3) := by decide +kernel
theorem dX9_feelWind_12 : decode cX9_feelWind 12 = .ok (.invokevirtual 170, 3) := by decide +kernel
theorem dX9_feelWind_15 : decode cX9_feelWind 15 = .ok (.return_, 1) := by decide +kernel
theorem dX9_offBow_0 : decode cX9_offBow 0 = .ok (.aload_n 0, 1) := by decide +kernel
theorem dX9_offBow_1 : decode cX9_offBow 1 = .ok (.getfield 49, 3) := by decide +kernel
theorem dX9_offBow_4 : decode cX9_offBow 4 = .ok (.aload_n 0, 1) := by decide +kernel
theorem dX9_offBow_5 : decode cX9_offBow 5 = .ok (.getfield 68, 3) := by decide +kernel
theorem dX9_offBow_8 : decode cX9_offBow 8 = .ok (.isub, 1) := by decide +kernel
theorem dX9_offBow_9 : decode cX9_offBow 9 = .ok (.bipush 31, 2) := by decide +kernel
theorem dX9_offBow_11 : decode cX9_offBow 11 = .ok (.iand, 1) := by decide +kernel
theorem dX9_offBow_12 : decode cX9_offBow 12 = .ok (.istore_n 1, 1) := by decide +kernel
theorem dX9_offBow_13 : decode cX9_offBow 13 = .ok (.iload_n 1, 1) := by decide +kernel
theorem dX9_offBow_14 : decode cX9_offBow 14 = .ok (.bipush 16, 2) := by decide +kernel
theorem dX9_offBow_16 : decode cX9_offBow 16 = .ok (.if_icmp .le 10, 3) := by decide +kernel
theorem dX9_offBow_26 : decode cX9_offBow 26 = .ok (.iload_n 1, 1) := by decide +kernel
theorem dX9_offBow_27 : decode cX9_offBow 27 = .ok (.ireturn, 1) := by decide +kernel
set_option maxRecDepth 20000 in
theorem ggX9_windSide_X9_offBow : GoodIn wsX9_windSide wsX9_offBow := goodIn_r _ [5, 6, 7, 8, 9, 10, 11, 12, 13, 14, 15, 16, 17, 18, 19, 20, 21, 22, 23, 24] (by decide +kernel) (by decide +kernel)
set_option maxRecDepth 20000 in
theorem gX9_windSide_X9_offBow : GoodIn wsX9_windSide (wsV RX9 166 RX9 yX9_offBow wsX9_offBow) := goodIn_app (goodIn_of _ (by decide +kernel)) ggX9_windSide_X9_offBow
theorem dX9_windSide_0 : decode cX9_windSide 0 = .ok (.aload_n 0, 1) := by decide +kernel
theorem dX9_windSide_1 : decode cX9_windSide 1 = .ok (.invokevirtual 166, 3) := by decide +kernel
theorem dX9_windSide_4 : decode cX9_windSide 4 = .ok (.istore_n 1, 1) := by decide +kernel
theorem dX9_windSide_5 : decode cX9_windSide 5 = .ok (.iload_n 1, 1) := by decide +kernel
theorem dX9_windSide_6 : decode cX9_windSide 6 = .ok (.ifCond .eq 9, 3) := by decide +kernel
theorem dX9_windSide_15 : decode cX9_windSide 15 = .ok (.iconst 0, 1) := by decide +kernel
theorem dX9_windSide_16 : decode cX9_windSide 16 = .ok (.ireturn, 1) := by decide +kernel
abbrev wd_k_bestBrace0 (_z : Nat → Nat) : va_W := []
set_option maxHeartbeats 4000000 in
set_option maxRecDepth 100000 in
theorem k_bestBrace0 (l : Launch) (dC : Nat → ClassId) (dI : Nat → Nat → Nat) (z zK zV : Nat → Nat)  (sz : Nat)  : Met l yX7_bestBrace wsX7_bestBrace ({ frames := 1, cells := 0, slots := 0, locals := 14 }) (kP dC dI z zK zV [.int 0] sz (wd_k_bestBrace0 z) []) (va_Qi (fun (r : Int32) (_ : Unit) => 4 = r) (fun _ t => kB (dC, dI) (va_A (wd_k_bestBrace0 z) sz) [] [] t) (va_A (wd_k_bestBrace0 z) sz)) 0 0 (va_A (wd_k_bestBrace0 z) sz) := by
  refine Met.ofW (cc := cX7_bestBrace) (maxL := 2) (ret := (some .int)) (by decide) rfl ?_
  intro p e s m args below meth c s₁ B hml hv
  obtain ⟨rfl, hsz, hP, hK, hD0, hM⟩ := hv
  have hx := B.exec
  have hb := B.bytes
  have hr := B.returns
  have hts := atoms_spec (ws := wsX7_bestBrace) B.pre
  have hown : s.vm.findClass RX7 = some m.cls := findClass_of_methodNamed B.named
  have hlocks := B.notSynchronized
  subst hsz
  have hD := hD0.self (sz := s.heap.size)
  generalize hAe : va_A (wd_k_bestBrace0 z) s.heap.size = A at hD hM ⊢
  have hA : ∀ q : Nat, s.heap.size ≤ q → A q := fun q h => by rw [← hAe]; exact Or.inr h
  have hS : va_S A s.heap s.heap [] := va_S.rf
  have hP : va_P (dC, dI) vwCl [] s.heap := hP
  have hD : va_D A [] := hD
  have hl := lv_entry ([.int 0]) (n := 2) (Nat.le_of_ble_eq_true rfl)
  rw [lg_entry_eq]
  generalize (lg_sl ([.int 0]) ++ List.replicate (2 - (lg_sl ([.int 0])).length) Slot.unset).toArray = ls at hl ⊢
  have hl : lv_has ls 2 [(0, .int 0)] := hl
  refine lv_bipush (v := 16) hx hb dX7_bestBrace_0 (by decide) ?_
  refine lv_iload_n hx hb dX7_bestBrace_2 rfl (lv_at hl 0 rfl) ?_
  refine va_mabs hx hb (hml.trans hl.1.symm) hown (hts (.methodLink RX7 48 Lib.Math.abs.name) (by decide +kernel)) (hts (.static Lib.Math.abs.name) (by decide +kernel)) (hts (.initialized "java/lang/Math") (by decide +kernel)) (hts (.code Lib.Math.abs.name Lib.Math.abs.code 1 (some .int)) (by decide +kernel)) (Nat.le_of_ble_eq_true rfl) (Nat.le_of_ble_eq_true rfl) (Nat.le_of_ble_eq_true rfl) (Nat.le_of_ble_eq_true rfl) dX7_bestBrace_3 ?_
  refine kc_i (y := 0) (by decide +kernel) ?_
  refine lv_isub hx hb dX7_bestBrace_6 ?_
  refine kc_i (y := 16) (by decide +kernel) ?_
  refine lv_iconst (v := 2) hx hb dX7_bestBrace_7 (by decide) ?_
  refine lv_idiv hx hb dX7_bestBrace_8 (by decide +kernel) ?_
  refine kc_i (y := 8) (by decide +kernel) ?_
  refine lv_istore_n (lv' := [(1, .int 8), (0, .int 0)]) hx hb dX7_bestBrace_9 rfl hl (by decide) rfl (fun ls hl => ?_)
  refine lv_iload_n hx hb dX7_bestBrace_10 rfl (lv_at hl 0 rfl) ?_
  refine lv_iconst (v := 4) hx hb dX7_bestBrace_11 (by decide) ?_
  refine lv_icmp_le (tgt := 17) hx hb dX7_bestBrace_12 (by decide) (fun c_ => absurd c_ (by decide +kernel)) (fun _ => ?_)
  refine lv_iconst (v := 4) hx hb dX7_bestBrace_15 (by decide) ?_
  refine lv_istore_n (lv' := [(1, .int 4), (0, .int 0)]) hx hb dX7_bestBrace_16 rfl hl (by decide) rfl (fun ls hl => ?_)
  refine lv_iload_n hx hb dX7_bestBrace_17 rfl (lv_at hl 1 rfl) ?_
  refine lv_if_ge (tgt := 26) hx hb dX7_bestBrace_18 (by decide) (fun _ => ?_) (fun c_ => absurd (by decide +kernel) c_)
  refine lv_iload_n hx hb dX7_bestBrace_26 rfl (lv_at hl 0 rfl) ?_
  exact W.iret (v := 4) hx hb hr (fun t ht hW => ⟨⟨4, (), rfl, rfl, kB_end (w9 := []) (t9 := []) hP hK hD [] [] rfl (by decide) rfl rfl t ht hW⟩, hS.F ht⟩) hS.2.2 dX7_bestBrace_27
abbrev wd_k_pushAt1 (_z : Nat → Nat) : va_W := []
set_option maxHeartbeats 4000000 in
set_option maxRecDepth 100000 in
theorem k_pushAt1 (l : Launch) (dC : Nat → ClassId) (dI : Nat → Nat → Nat) (z zK zV : Nat → Nat)  (sz : Nat)  : Met l yX7_pushAt wsX7_pushAt ({ frames := 0, cells := 0, slots := 0, locals := 0 }) (kP dC dI z zK zV [.ref (z 1), .int 0] sz (wd_k_pushAt1 z) []) (va_Qi (fun (r : Int32) (_ : Unit) => (-12) = r) (fun _ t => kB (dC, dI) (va_A (wd_k_pushAt1 z) sz) [] [] t) (va_A (wd_k_pushAt1 z) sz)) 0 0 (va_A (wd_k_pushAt1 z) sz) := by
  refine Met.ofW (cc := cX7_pushAt) (maxL := 2) (ret := (some .int)) (by decide) rfl ?_
  intro p e s m args below meth c s₁ B hml hv
  obtain ⟨rfl, hsz, hP, hK, hD0, hM⟩ := hv
  have hx := B.exec
  have hb := B.bytes
  have hr := B.returns
  have hts := atoms_spec (ws := wsX7_pushAt) B.pre
  have hown : s.vm.findClass RX7 = some m.cls := findClass_of_methodNamed B.named
  have hlocks := B.notSynchronized
  subst hsz
  have hD := hD0.self (sz := s.heap.size)
  generalize hAe : va_A (wd_k_pushAt1 z) s.heap.size = A at hD hM ⊢
  have hA : ∀ q : Nat, s.heap.size ≤ q → A q := fun q h => by rw [← hAe]; exact Or.inr h
  have hS : va_S A s.heap s.heap [] := va_S.rf
  have hP : va_P (dC, dI) vwCl [] s.heap := hP
  have hD : va_D A [] := hD
  have hl := lv_entry ([.ref (z 1), .int 0]) (n := 2) (Nat.le_of_ble_eq_true rfl)
  rw [lg_entry_eq]
  generalize (lg_sl ([.ref (z 1), .int 0]) ++ List.replicate (2 - (lg_sl ([.ref (z 1), .int 0])).length) Slot.unset).toArray = ls at hl ⊢
  have hl : lv_has ls 2 [(0, .ref (z 1)), (1, .int 0)] := hl
  refine lv_iload_n hx hb dX7_pushAt_0 rfl (lv_at hl 1 rfl) ?_
  refine lv_if_lt (tgt := 16) hx hb dX7_pushAt_1 (by decide) (fun c_ => absurd c_ (by decide +kernel)) (fun _ => ?_)
  refine lv_iload_n hx hb dX7_pushAt_4 rfl (lv_at hl 1 rfl) ?_
  refine lv_aload_n hx hb dX7_pushAt_5 rfl (lv_at hl 0 rfl) ?_
  refine va_tlen (v := 17) hx hb ((hM.2.2.2.2.1 1 (by decide) (by decide)).2) hS rfl dX7_pushAt_6 ?_
  refine lv_icmp_ge (tgt := 16) hx hb dX7_pushAt_7 (by decide) (fun c_ => absurd c_ (by decide +kernel)) (fun _ => ?_)
  refine lv_aload_n hx hb dX7_pushAt_10 rfl (lv_at hl 0 rfl) ?_
  refine lv_iload_n hx hb dX7_pushAt_11 rfl (lv_at hl 1 rfl) ?_
  refine va_ti (v := .int (-12)) hx hb ((hM.2.2.2.2.1 1 (by decide) (by decide)).2) hS (pk_in 0 17 (by decide) rfl) rfl dX7_pushAt_12 ?_
  refine lv_goto (tgt := 17) hx hb dX7_pushAt_13 (by decide) ?_
  exact W.iret (v := (-12)) hx hb hr (fun t ht hW => ⟨⟨(-12), (), rfl, rfl, kB_end (w9 := []) (t9 := []) hP hK hD [] [] rfl (by decide) rfl rfl t ht hW⟩, hS.F ht⟩) hS.2.2 dX7_pushAt_17
abbrev wd_k_pushAt2 (_z : Nat → Nat) : va_W := []
set_option maxHeartbeats 4000000 in
set_option maxRecDepth 100000 in
theorem k_pushAt2 (l : Launch) (dC : Nat → ClassId) (dI : Nat → Nat → Nat) (z zK zV : Nat → Nat)  (sz : Nat)  : Met l yX7_pushAt wsX7_pushAt ({ frames := 0, cells := 0, slots := 0, locals := 0 }) (kP dC dI z zK zV [.ref (z 2), .int 0] sz (wd_k_pushAt2 z) []) (va_Qi (fun (r : Int32) (_ : Unit) => 0 = r) (fun _ t => kB (dC, dI) (va_A (wd_k_pushAt2 z) sz) [] [] t) (va_A (wd_k_pushAt2 z) sz)) 0 0 (va_A (wd_k_pushAt2 z) sz) := by
  refine Met.ofW (cc := cX7_pushAt) (maxL := 2) (ret := (some .int)) (by decide) rfl ?_
  intro p e s m args below meth c s₁ B hml hv
  obtain ⟨rfl, hsz, hP, hK, hD0, hM⟩ := hv
  have hx := B.exec
  have hb := B.bytes
  have hr := B.returns
  have hts := atoms_spec (ws := wsX7_pushAt) B.pre
  have hown : s.vm.findClass RX7 = some m.cls := findClass_of_methodNamed B.named
  have hlocks := B.notSynchronized
  subst hsz
  have hD := hD0.self (sz := s.heap.size)
  generalize hAe : va_A (wd_k_pushAt2 z) s.heap.size = A at hD hM ⊢
  have hA : ∀ q : Nat, s.heap.size ≤ q → A q := fun q h => by rw [← hAe]; exact Or.inr h
  have hS : va_S A s.heap s.heap [] := va_S.rf
  have hP : va_P (dC, dI) vwCl [] s.heap := hP
  have hD : va_D A [] := hD
  have hl := lv_entry ([.ref (z 2), .int 0]) (n := 2) (Nat.le_of_ble_eq_true rfl)
  rw [lg_entry_eq]
  generalize (lg_sl ([.ref (z 2), .int 0]) ++ List.replicate (2 - (lg_sl ([.ref (z 2), .int 0])).length) Slot.unset).toArray = ls at hl ⊢
  have hl : lv_has ls 2 [(0, .ref (z 2)), (1, .int 0)] := hl
  refine lv_iload_n hx hb dX7_pushAt_0 rfl (lv_at hl 1 rfl) ?_
  refine lv_if_lt (tgt := 16) hx hb dX7_pushAt_1 (by decide) (fun c_ => absurd c_ (by decide +kernel)) (fun _ => ?_)
  refine lv_iload_n hx hb dX7_pushAt_4 rfl (lv_at hl 1 rfl) ?_
  refine lv_aload_n hx hb dX7_pushAt_5 rfl (lv_at hl 0 rfl) ?_
  refine va_tlen (v := 17) hx hb ((hM.2.2.2.2.1 2 (by decide) (by decide)).2) hS rfl dX7_pushAt_6 ?_
  refine lv_icmp_ge (tgt := 16) hx hb dX7_pushAt_7 (by decide) (fun c_ => absurd c_ (by decide +kernel)) (fun _ => ?_)
  refine lv_aload_n hx hb dX7_pushAt_10 rfl (lv_at hl 0 rfl) ?_
  refine lv_iload_n hx hb dX7_pushAt_11 rfl (lv_at hl 1 rfl) ?_
  refine va_ti (v := .int 0) hx hb ((hM.2.2.2.2.1 2 (by decide) (by decide)).2) hS (pk_in 0 17 (by decide) rfl) rfl dX7_pushAt_12 ?_
  refine lv_goto (tgt := 17) hx hb dX7_pushAt_13 (by decide) ?_
  exact W.iret (v := 0) hx hb hr (fun t ht hW => ⟨⟨0, (), rfl, rfl, kB_end (w9 := []) (t9 := []) hP hK hD [] [] rfl (by decide) rfl rfl t ht hW⟩, hS.F ht⟩) hS.2.2 dX7_pushAt_17
abbrev wd_k_bracedPush (_z : Nat → Nat) : va_W := []
set_option maxHeartbeats 4000000 in
set_option maxRecDepth 100000 in
theorem k_bracedPush (l : Launch) (dC : Nat → ClassId) (dI : Nat → Nat → Nat) (z zK zV : Nat → Nat)  (sz : Nat)  : Met l yX7_bracedPush wsX7_bracedPush ({ frames := 1, cells := 0, slots := 0, locals := 15 }) (kP dC dI z zK zV [.int (-12), .int (-4)] sz (wd_k_bracedPush z) []) (va_Qi (fun (r : Int32) (_ : Unit) => (-12) = r) (fun _ t => kB (dC, dI) (va_A (wd_k_bracedPush z) sz) [] [] t) (va_A (wd_k_bracedPush z) sz)) 0 0 (va_A (wd_k_bracedPush z) sz) := by
  refine Met.ofW (cc := cX7_bracedPush) (maxL := 3) (ret := (some .int)) (by decide) rfl ?_
  intro p e s m args below meth c s₁ B hml hv
  obtain ⟨rfl, hsz, hP, hK, hD0, hM⟩ := hv
  have hx := B.exec
  have hb := B.bytes
  have hr := B.returns
  have hts := atoms_spec (ws := wsX7_bracedPush) B.pre
  have hown : s.vm.findClass RX7 = some m.cls := findClass_of_methodNamed B.named
  have hlocks := B.notSynchronized
  subst hsz
  have hD := hD0.self (sz := s.heap.size)
  generalize hAe : va_A (wd_k_bracedPush z) s.heap.size = A at hD hM ⊢
  have hA : ∀ q : Nat, s.heap.size ≤ q → A q := fun q h => by rw [← hAe]; exact Or.inr h
  have hS : va_S A s.heap s.heap [] := va_S.rf
  have hP : va_P (dC, dI) vwCl [] s.heap := hP
  have hD : va_D A [] := hD
  have hl := lv_entry ([.int (-12), .int (-4)]) (n := 3) (Nat.le_of_ble_eq_true rfl)
  rw [lg_entry_eq]
  generalize (lg_sl ([.int (-12), .int (-4)]) ++ List.replicate (3 - (lg_sl ([.int (-12), .int (-4)])).length) Slot.unset).toArray = ls at hl ⊢
  have hl : lv_has ls 3 [(0, .int (-12)), (1, .int (-4))] := hl
  refine lv_iload_n hx hb dX7_bracedPush_0 rfl (lv_at hl 0 rfl) ?_
  refine lv_iconst (v := 2) hx hb dX7_bracedPush_1 (by decide) ?_
  refine lv_iload_n hx hb dX7_bracedPush_2 rfl (lv_at hl 1 rfl) ?_
  refine va_mabs hx hb (hml.trans hl.1.symm) hown (hts (.methodLink RX7 48 Lib.Math.abs.name) (by decide +kernel)) (hts (.static Lib.Math.abs.name) (by decide +kernel)) (hts (.initialized "java/lang/Math") (by decide +kernel)) (hts (.code Lib.Math.abs.name Lib.Math.abs.code 1 (some .int)) (by decide +kernel)) (Nat.le_of_ble_eq_true rfl) (Nat.le_of_ble_eq_true rfl) (Nat.le_of_ble_eq_true rfl) (Nat.le_of_ble_eq_true rfl) dX7_bracedPush_3 ?_
  refine kc_i (y := 4) (by decide +kernel) ?_
  refine lv_imul hx hb dX7_bracedPush_6 ?_
  refine kc_i (y := 8) (by decide +kernel) ?_
  refine lv_isub hx hb dX7_bracedPush_7 ?_
  refine kc_i (y := (-20)) (by decide +kernel) ?_
  refine lv_istore_n (lv' := [(2, .int (-20)), (0, .int (-12)), (1, .int (-4))]) hx hb dX7_bracedPush_8 rfl hl (by decide) rfl (fun ls hl => ?_)
  refine lv_iload_n hx hb dX7_bracedPush_9 rfl (lv_at hl 0 rfl) ?_
  refine lv_bipush (v := (-12)) hx hb dX7_bracedPush_10 (by decide) ?_
  refine lv_icmp_ge (tgt := 20) hx hb dX7_bracedPush_12 (by decide) (fun c_ => absurd c_ (by decide +kernel)) (fun _ => ?_)
  refine lv_bipush (v := (-12)) hx hb dX7_bracedPush_15 (by decide) ?_
  refine lv_goto (tgt := 21) hx hb dX7_bracedPush_17 (by decide) ?_
  exact W.iret (v := (-12)) hx hb hr (fun t ht hW => ⟨⟨(-12), (), rfl, rfl, kB_end (w9 := []) (t9 := []) hP hK hD [] [] rfl (by decide) rfl rfl t ht hW⟩, hS.F ht⟩) hS.2.2 dX7_bracedPush_21
abbrev wd_k_feel (z : Nat → Nat) (rg : Nat) (mf : Nat) (mm : Nat) (mz : Nat) (ma : Nat) (sa : Nat) (s0 : Nat) (s1 : Nat) (s2 : Nat) (s3 : Nat) (s4 : Nat) (s5 : Nat) (s6 : Nat) (s7 : Nat) (s8 : Nat) (cM : ClassId) (cS : ClassId) : va_W := [(rg, .inr (11, [.ref mf, .ref mm, .ref mz, .ref ma, .ref sa, .int 0])), (mf, .inr (8, [.int 0, .int 0, .int 0])), (mm, .inr (8, [.int 0, .int 0, .int 0])), (mz, .inr (8, [.int 0, .int 0, .int 0])), (ma, .inl (cM, 3, .inr (.inr (.inr (.inr (va_up (va_up (va_up (fun _ => none) 0 (some mf)) 1 (some mm)) 2 (some mz))))))), (sa, .inl (cS, 9, .inr (.inr (.inr (.inr (va_up (va_up (va_up (va_up (va_up (va_up (va_up (va_up (va_up (fun _ => none) 0 (some s0)) 1 (some s1)) 2 (some s2)) 3 (some s3)) 4 (some s4)) 5 (some s5)) 6 (some s6)) 7 (some s7)) 8 (some s8))))))), (s0, .inr (12, [.int 8, .int 6, .ref mf, .int 1, .int 0, .int 900, .int 0, .int 0])), (s1, .inr (12, [.int 7, .int 5, .ref mf, .int 1, .int 0, .int 900, .int 0, .int 0])), (s2, .inr (12, [.int 3, .int 3, .ref mf, .int 1, .int 0, .int 900, .int 0, .int 0])), (s3, .inr (12, [.int 10, .int 8, .ref mm, .int 1, .int 0, .int 900, .int 0, .int 0])), (s4, .inr (12, [.int 9, .int 6, .ref mm, .int 1, .int 0, .int 900, .int 0, .int 0])), (s5, .inr (12, [.int 4, .int 3, .ref mm, .int 1, .int 0, .int 900, .int 0, .int 0])), (s6, .inr (12, [.int 5, .int 4, .ref mz, .int 1, .int 0, .int 900, .int 0, .int 0])), (s7, .inr (12, [.int 4, .int 3, .ref mf, .int 0, .int 0, .int 900, .int 0, .int 0])), (s8, .inr (12, [.int 6, .int 4, .ref mz, .int 0, .int 0, .int 900, .int 0, .int 0]))]
set_option maxHeartbeats 4000000 in
set_option maxRecDepth 100000 in
theorem k_feel (l : Launch) (dC : Nat → ClassId) (dI : Nat → Nat → Nat) (z zK zV : Nat → Nat) (rg : Nat) (mf : Nat) (mm : Nat) (mz : Nat) (ma : Nat) (sa : Nat) (s0 : Nat) (s1 : Nat) (s2 : Nat) (s3 : Nat) (s4 : Nat) (s5 : Nat) (s6 : Nat) (s7 : Nat) (s8 : Nat) (cM : ClassId) (cS : ClassId) (sz : Nat)  : Met l yX7_feel wsX7_feel ({ frames := 2, cells := 0, slots := 0, locals := 37 }) (kP dC dI z zK zV [.ref rg, .int 0, .int 0] sz (wd_k_feel z rg mf mm mz ma sa s0 s1 s2 s3 s4 s5 s6 s7 s8 cM cS) [(cM, .object RX4), (cS, .object RX8)]) (va_Qv (fun _ : Unit => True) (fun _ t => kB (dC, dI) (va_A (wd_k_feel z rg mf mm mz ma sa s0 s1 s2 s3 s4 s5 s6 s7 s8 cM cS) sz) [(rg, .inr (11, [.ref mf, .ref mm, .ref mz, .ref ma, .ref sa, .int 0])), (mf, .inr (8, [.int 0, .int 0, .int 0])), (mm, .inr (8, [.int 0, .int 0, .int 0])), (mz, .inr (8, [.int 0, .int 0, .int 0])), (ma, .inl (cM, 3, .inr (.inr (.inr (.inr (va_up (va_up (va_up (fun _ => none) 0 (some mf)) 1 (some mm)) 2 (some mz))))))), (sa, .inl (cS, 9, .inr (.inr (.inr (.inr (va_up (va_up (va_up (va_up (va_up (va_up (va_up (va_up (va_up (fun _ => none) 0 (some s0)) 1 (some s1)) 2 (some s2)) 3 (some s3)) 4 (some s4)) 5 (some s5)) 6 (some s6)) 7 (some s7)) 8 (some s8))))))), (s0, .inr (12, [.int 8, .int 6, .ref mf, .int 1, .int 0, .int 900, .int 0, .int 0])), (s1, .inr (12, [.int 7, .int 5, .ref mf, .int 1, .int 0, .int 900, .int 0, .int 0])), (s2, .inr (12, [.int 3, .int 3, .ref mf, .int 1, .int 0, .int 900, .int 0, .int 0])), (s3, .inr (12, [.int 10, .int 8, .ref mm, .int 1, .int 0, .int 900, .int 0, .int 0])), (s4, .inr (12, [.int 9, .int 6, .ref mm, .int 1, .int 0, .int 900, .int 0, .int 0])), (s5, .inr (12, [.int 4, .int 3, .ref mm, .int 1, .int 0, .int 900, .int 0, .int 0])), (s6, .inr (12, [.int 5, .int 4, .ref mz, .int 1, .int 0, .int 900, .int 0, .int 0])), (s7, .inr (12, [.int 4, .int 3, .ref mf, .int 0, .int 0, .int 900, .int 0, .int 0])), (s8, .inr (12, [.int 6, .int 4, .ref mz, .int 0, .int 0, .int 900, .int 0, .int 0]))] [] t) (va_A (wd_k_feel z rg mf mm mz ma sa s0 s1 s2 s3 s4 s5 s6 s7 s8 cM cS) sz)) 0 0 (va_A (wd_k_feel z rg mf mm mz ma sa s0 s1 s2 s3 s4 s5 s6 s7 s8 cM cS) sz) := by
  refine Met.ofW (cc := cX7_feel) (maxL := 11) (ret := none) (by decide) rfl ?_
  intro p e s m args below meth c s₁ B hml hv
  obtain ⟨rfl, hsz, hP, hK, hD0, hM⟩ := hv
  have hx := B.exec
  have hb := B.bytes
  have hr := B.returns
  have hts := atoms_spec (ws := wsX7_feel) B.pre
  have hown : s.vm.findClass RX7 = some m.cls := findClass_of_methodNamed B.named
  have hlocks := B.notSynchronized
  have hiX7 : ∀ w ∈ u_ws RX7 TX7 6, w ∈ wsX7_feel := by decide +kernel
  have hiX4 : ∀ w ∈ u_ws RX4 TX4 3, w ∈ wsX7_feel := by decide +kernel
  have hiX8 : ∀ w ∈ u_ws RX8 TX8 8, w ∈ wsX7_feel := by decide +kernel
  subst hsz
  have hD := hD0.self (sz := s.heap.size)
  generalize hAe : va_A (wd_k_feel z rg mf mm mz ma sa s0 s1 s2 s3 s4 s5 s6 s7 s8 cM cS) s.heap.size = A at hD hM ⊢
  have hA : ∀ q : Nat, s.heap.size ≤ q → A q := fun q h => by rw [← hAe]; exact Or.inr h
  have hS : va_S A s.heap s.heap [] := va_S.rf
  have hP : va_P (dC, dI) vwCl [(rg, .inr (11, [.ref mf, .ref mm, .ref mz, .ref ma, .ref sa, .int 0])), (mf, .inr (8, [.int 0, .int 0, .int 0])), (mm, .inr (8, [.int 0, .int 0, .int 0])), (mz, .inr (8, [.int 0, .int 0, .int 0])), (ma, .inl (cM, 3, .inr (.inr (.inr (.inr (va_up (va_up (va_up (fun _ => none) 0 (some mf)) 1 (some mm)) 2 (some mz))))))), (sa, .inl (cS, 9, .inr (.inr (.inr (.inr (va_up (va_up (va_up (va_up (va_up (va_up (va_up (va_up (va_up (fun _ => none) 0 (some s0)) 1 (some s1)) 2 (some s2)) 3 (some s3)) 4 (some s4)) 5 (some s5)) 6 (some s6)) 7 (some s7)) 8 (some s8))))))), (s0, .inr (12, [.int 8, .int 6, .ref mf, .int 1, .int 0, .int 900, .int 0, .int 0])), (s1, .inr (12, [.int 7, .int 5, .ref mf, .int 1, .int 0, .int 900, .int 0, .int 0])), (s2, .inr (12, [.int 3, .int 3, .ref mf, .int 1, .int 0, .int 900, .int 0, .int 0])), (s3, .inr (12, [.int 10, .int 8, .ref mm, .int 1, .int 0, .int 900, .int 0, .int 0])), (s4, .inr (12, [.int 9, .int 6, .ref mm, .int 1, .int 0, .int 900, .int 0, .int 0])), (s5, .inr (12, [.int 4, .int 3, .ref mm, .int 1, .int 0, .int 900, .int 0, .int 0])), (s6, .inr (12, [.int 5, .int 4, .ref mz, .int 1, .int 0, .int 900, .int 0, .int 0])), (s7, .inr (12, [.int 4, .int 3, .ref mf, .int 0, .int 0, .int 900, .int 0, .int 0])), (s8, .inr (12, [.int 6, .int 4, .ref mz, .int 0, .int 0, .int 900, .int 0, .int 0]))] s.heap := hP
  have hD : va_D A [(rg, .inr (11, [.ref mf, .ref mm, .ref mz, .ref ma, .ref sa, .int 0])), (mf, .inr (8, [.int 0, .int 0, .int 0])), (mm, .inr (8, [.int 0, .int 0, .int 0])), (mz, .inr (8, [.int 0, .int 0, .int 0])), (ma, .inl (cM, 3, .inr (.inr (.inr (.inr (va_up (va_up (va_up (fun _ => none) 0 (some mf)) 1 (some mm)) 2 (some mz))))))), (sa, .inl (cS, 9, .inr (.inr (.inr (.inr (va_up (va_up (va_up (va_up (va_up (va_up (va_up (va_up (va_up (fun _ => none) 0 (some s0)) 1 (some s1)) 2 (some s2)) 3 (some s3)) 4 (some s4)) 5 (some s5)) 6 (some s6)) 7 (some s7)) 8 (some s8))))))), (s0, .inr (12, [.int 8, .int 6, .ref mf, .int 1, .int 0, .int 900, .int 0, .int 0])), (s1, .inr (12, [.int 7, .int 5, .ref mf, .int 1, .int 0, .int 900, .int 0, .int 0])), (s2, .inr (12, [.int 3, .int 3, .ref mf, .int 1, .int 0, .int 900, .int 0, .int 0])), (s3, .inr (12, [.int 10, .int 8, .ref mm, .int 1, .int 0, .int 900, .int 0, .int 0])), (s4, .inr (12, [.int 9, .int 6, .ref mm, .int 1, .int 0, .int 900, .int 0, .int 0])), (s5, .inr (12, [.int 4, .int 3, .ref mm, .int 1, .int 0, .int 900, .int 0, .int 0])), (s6, .inr (12, [.int 5, .int 4, .ref mz, .int 1, .int 0, .int 900, .int 0, .int 0])), (s7, .inr (12, [.int 4, .int 3, .ref mf, .int 0, .int 0, .int 900, .int 0, .int 0])), (s8, .inr (12, [.int 6, .int 4, .ref mz, .int 0, .int 0, .int 900, .int 0, .int 0]))] := hD
  have hl := lv_entry ([.ref rg, .int 0, .int 0]) (n := 11) (Nat.le_of_ble_eq_true rfl)
  rw [lg_entry_eq]
  generalize (lg_sl ([.ref rg, .int 0, .int 0]) ++ List.replicate (11 - (lg_sl ([.ref rg, .int 0, .int 0])).length) Slot.unset).toArray = ls at hl ⊢
  have hl : lv_has ls 11 [(0, .ref rg), (1, .int 0), (2, .int 0)] := hl
  refine lv_iload_n hx hb dX7_feel_0 rfl (lv_at hl 1 rfl) ?_
  have hPc := hP.sub (ws' := []) [] rfl
  have hDc := hD.sub (ws' := []) [] (by decide) rfl
  have hKc := hK.sub (tys' := []) [] rfl
  have hFc := va_free (wc := []) hD hS hA [] rfl
  refine va_calli (va_runS (As := [.int 0]) (rest := []) ⟨hx, hb, hml, hown, hts⟩ (k_bestBrace0 l dC dI z zK zV  s.heap.size) (va_cwS 1 hts gX7_feel_X7_bestBrace rfl rfl rfl (by decide +kernel) ⟨Nat.le_of_ble_eq_true rfl, Nat.le_of_ble_eq_true rfl⟩) ⟨kP_blind, kP_go hPc hKc hDc hFc hM hS⟩ rfl rfl hl.1 rfl (lv_room (Nat.le_of_ble_eq_true rfl)) dX7_feel_1 ⟨Nat.le_of_ble_eq_true rfl, Nat.le_of_ble_eq_true rfl⟩) hS (fun q _ h => hFc q h) hFc (fun r1 u t H1 locs ht hvm hw hB hz1 hk1 hS => ?_)
  obtain ⟨hP, hD, hK⟩ := kJ (wr := [(rg, .inr (11, [.ref mf, .ref mm, .ref mz, .ref ma, .ref sa, .int 0])), (mf, .inr (8, [.int 0, .int 0, .int 0])), (mm, .inr (8, [.int 0, .int 0, .int 0])), (mz, .inr (8, [.int 0, .int 0, .int 0])), (ma, .inl (cM, 3, .inr (.inr (.inr (.inr (va_up (va_up (va_up (fun _ => none) 0 (some mf)) 1 (some mm)) 2 (some mz))))))), (sa, .inl (cS, 9, .inr (.inr (.inr (.inr (va_up (va_up (va_up (va_up (va_up (va_up (va_up (va_up (va_up (fun _ => none) 0 (some s0)) 1 (some s1)) 2 (some s2)) 3 (some s3)) 4 (some s4)) 5 (some s5)) 6 (some s6)) 7 (some s7)) 8 (some s8))))))), (s0, .inr (12, [.int 8, .int 6, .ref mf, .int 1, .int 0, .int 900, .int 0, .int 0])), (s1, .inr (12, [.int 7, .int 5, .ref mf, .int 1, .int 0, .int 900, .int 0, .int 0])), (s2, .inr (12, [.int 3, .int 3, .ref mf, .int 1, .int 0, .int 900, .int 0, .int 0])), (s3, .inr (12, [.int 10, .int 8, .ref mm, .int 1, .int 0, .int 900, .int 0, .int 0])), (s4, .inr (12, [.int 9, .int 6, .ref mm, .int 1, .int 0, .int 900, .int 0, .int 0])), (s5, .inr (12, [.int 4, .int 3, .ref mm, .int 1, .int 0, .int 900, .int 0, .int 0])), (s6, .inr (12, [.int 5, .int 4, .ref mz, .int 1, .int 0, .int 900, .int 0, .int 0])), (s7, .inr (12, [.int 4, .int 3, .ref mf, .int 0, .int 0, .int 900, .int 0, .int 0])), (s8, .inr (12, [.int 6, .int 4, .ref mz, .int 0, .int 0, .int 900, .int 0, .int 0]))]) (w1 := []) (t1 := []) hP hD hK [] [0, 1, 2, 3, 4, 5, 6, 7, 8, 9, 10, 11, 12, 13, 14] rfl rfl (by decide) (by decide) hk1 hFc ht hvm hB
  generalize H1 = H at hP hS ⊢
  have hP : va_P (dC, dI) vwCl [(rg, .inr (11, [.ref mf, .ref mm, .ref mz, .ref ma, .ref sa, .int 0])), (mf, .inr (8, [.int 0, .int 0, .int 0])), (mm, .inr (8, [.int 0, .int 0, .int 0])), (mz, .inr (8, [.int 0, .int 0, .int 0])), (ma, .inl (cM, 3, .inr (.inr (.inr (.inr (va_up (va_up (va_up (fun _ => none) 0 (some mf)) 1 (some mm)) 2 (some mz))))))), (sa, .inl (cS, 9, .inr (.inr (.inr (.inr (va_up (va_up (va_up (va_up (va_up (va_up (va_up (va_up (va_up (fun _ => none) 0 (some s0)) 1 (some s1)) 2 (some s2)) 3 (some s3)) 4 (some s4)) 5 (some s5)) 6 (some s6)) 7 (some s7)) 8 (some s8))))))), (s0, .inr (12, [.int 8, .int 6, .ref mf, .int 1, .int 0, .int 900, .int 0, .int 0])), (s1, .inr (12, [.int 7, .int 5, .ref mf, .int 1, .int 0, .int 900, .int 0, .int 0])), (s2, .inr (12, [.int 3, .int 3, .ref mf, .int 1, .int 0, .int 900, .int 0, .int 0])), (s3, .inr (12, [.int 10, .int 8, .ref mm, .int 1, .int 0, .int 900, .int 0, .int 0])), (s4, .inr (12, [.int 9, .int 6, .ref mm, .int 1, .int 0, .int 900, .int 0, .int 0])), (s5, .inr (12, [.int 4, .int 3, .ref mm, .int 1, .int 0, .int 900, .int 0, .int 0])), (s6, .inr (12, [.int 5, .int 4, .ref mz, .int 1, .int 0, .int 900, .int 0, .int 0])), (s7, .inr (12, [.int 4, .int 3, .ref mf, .int 0, .int 0, .int 900, .int 0, .int 0])), (s8, .inr (12, [.int 6, .int 4, .ref mz, .int 0, .int 0, .int 900, .int 0, .int 0]))] H := hP
  have hD : va_D A [(rg, .inr (11, [.ref mf, .ref mm, .ref mz, .ref ma, .ref sa, .int 0])), (mf, .inr (8, [.int 0, .int 0, .int 0])), (mm, .inr (8, [.int 0, .int 0, .int 0])), (mz, .inr (8, [.int 0, .int 0, .int 0])), (ma, .inl (cM, 3, .inr (.inr (.inr (.inr (va_up (va_up (va_up (fun _ => none) 0 (some mf)) 1 (some mm)) 2 (some mz))))))), (sa, .inl (cS, 9, .inr (.inr (.inr (.inr (va_up (va_up (va_up (va_up (va_up (va_up (va_up (va_up (va_up (fun _ => none) 0 (some s0)) 1 (some s1)) 2 (some s2)) 3 (some s3)) 4 (some s4)) 5 (some s5)) 6 (some s6)) 7 (some s7)) 8 (some s8))))))), (s0, .inr (12, [.int 8, .int 6, .ref mf, .int 1, .int 0, .int 900, .int 0, .int 0])), (s1, .inr (12, [.int 7, .int 5, .ref mf, .int 1, .int 0, .int 900, .int 0, .int 0])), (s2, .inr (12, [.int 3, .int 3, .ref mf, .int 1, .int 0, .int 900, .int 0, .int 0])), (s3, .inr (12, [.int 10, .int 8, .ref mm, .int 1, .int 0, .int 900, .int 0, .int 0])), (s4, .inr (12, [.int 9, .int 6, .ref mm, .int 1, .int 0, .int 900, .int 0, .int 0])), (s5, .inr (12, [.int 4, .int 3, .ref mm, .int 1, .int 0, .int 900, .int 0, .int 0])), (s6, .inr (12, [.int 5, .int 4, .ref mz, .int 1, .int 0, .int 900, .int 0, .int 0])), (s7, .inr (12, [.int 4, .int 3, .ref mf, .int 0, .int 0, .int 900, .int 0, .int 0])), (s8, .inr (12, [.int 6, .int 4, .ref mz, .int 0, .int 0, .int 900, .int 0, .int 0]))] := hD
  have hK : va_K (dC, dI) vwCl [(cM, .object RX4), (cS, .object RX8)] s := hK
  obtain rfl : 4 = r1 := hw
  refine lv_istore_n (lv' := [(3, .int 4), (0, .ref rg), (1, .int 0), (2, .int 0)]) hx hb dX7_feel_4 rfl hl (by decide) rfl (fun ls hl => ?_)
  refine va_gets hx hb ((hM.2.2.2.2.1 1 (by decide) (by decide)).1) hS hown (hts (.fieldLink RX7 57 "SquareRig$Rig" "SQUARE_PUSH" "[I") (by decide +kernel)) (fun _ h9 => h9) dX7_feel_5 ?_
  refine lv_iload_n hx hb dX7_feel_8 rfl (lv_at hl 2 rfl) ?_
  refine va_mabs hx hb (hml.trans hl.1.symm) hown (hts (.methodLink RX7 48 Lib.Math.abs.name) (by decide +kernel)) (hts (.static Lib.Math.abs.name) (by decide +kernel)) (hts (.initialized "java/lang/Math") (by decide +kernel)) (hts (.code Lib.Math.abs.name Lib.Math.abs.code 1 (some .int)) (by decide +kernel)) (Nat.le_of_ble_eq_true rfl) (Nat.le_of_ble_eq_true rfl) (Nat.le_of_ble_eq_true rfl) (Nat.le_of_ble_eq_true rfl) dX7_feel_9 ?_
  refine kc_i (y := 0) (by decide +kernel) ?_
  have hPc := hP.sub (ws' := []) [] rfl
  have hDc := hD.sub (ws' := []) [] (by decide) rfl
  have hKc := hK.sub (tys' := []) [] rfl
  have hFc := va_free (wc := []) hD hS hA [] rfl
  refine va_calli (va_runS (As := [.ref (z 1), .int 0]) (rest := []) ⟨hx, hb, hml, hown, hts⟩ (k_pushAt1 l dC dI z zK zV  H.size) (va_cwS 2 hts gX7_feel_X7_pushAt rfl rfl rfl (by decide +kernel) ⟨Nat.le_of_ble_eq_true rfl, Nat.le_of_ble_eq_true rfl⟩) ⟨kP_blind, kP_go hPc hKc hDc hFc hM hS⟩ rfl rfl hl.1 rfl (lv_room (Nat.le_of_ble_eq_true rfl)) dX7_feel_12 ⟨Nat.le_of_ble_eq_true rfl, Nat.le_of_ble_eq_true rfl⟩) hS (fun q _ h => hFc q h) hFc (fun r2 u t H1 locs ht hvm hw hB hz1 hk1 hS => ?_)
  obtain ⟨hP, hD, hK⟩ := kJ (wr := [(rg, .inr (11, [.ref mf, .ref mm, .ref mz, .ref ma, .ref sa, .int 0])), (mf, .inr (8, [.int 0, .int 0, .int 0])), (mm, .inr (8, [.int 0, .int 0, .int 0])), (mz, .inr (8, [.int 0, .int 0, .int 0])), (ma, .inl (cM, 3, .inr (.inr (.inr (.inr (va_up (va_up (va_up (fun _ => none) 0 (some mf)) 1 (some mm)) 2 (some mz))))))), (sa, .inl (cS, 9, .inr (.inr (.inr (.inr (va_up (va_up (va_up (va_up (va_up (va_up (va_up (va_up (va_up (fun _ => none) 0 (some s0)) 1 (some s1)) 2 (some s2)) 3 (some s3)) 4 (some s4)) 5 (some s5)) 6 (some s6)) 7 (some s7)) 8 (some s8))))))), (s0, .inr (12, [.int 8, .int 6, .ref mf, .int 1, .int 0, .int 900, .int 0, .int 0])), (s1, .inr (12, [.int 7, .int 5, .ref mf, .int 1, .int 0, .int 900, .int 0, .int 0])), (s2, .inr (12, [.int 3, .int 3, .ref mf, .int 1, .int 0, .int 900, .int 0, .int 0])), (s3, .inr (12, [.int 10, .int 8, .ref mm, .int 1, .int 0, .int 900, .int 0, .int 0])), (s4, .inr (12, [.int 9, .int 6, .ref mm, .int 1, .int 0, .int 900, .int 0, .int 0])), (s5, .inr (12, [.int 4, .int 3, .ref mm, .int 1, .int 0, .int 900, .int 0, .int 0])), (s6, .inr (12, [.int 5, .int 4, .ref mz, .int 1, .int 0, .int 900, .int 0, .int 0])), (s7, .inr (12, [.int 4, .int 3, .ref mf, .int 0, .int 0, .int 900, .int 0, .int 0])), (s8, .inr (12, [.int 6, .int 4, .ref mz, .int 0, .int 0, .int 900, .int 0, .int 0]))]) (w1 := []) (t1 := []) hP hD hK [] [0, 1, 2, 3, 4, 5, 6, 7, 8, 9, 10, 11, 12, 13, 14] rfl rfl (by decide) (by decide) hk1 hFc ht hvm hB
  generalize H1 = H at hP hS ⊢
  have hP : va_P (dC, dI) vwCl [(rg, .inr (11, [.ref mf, .ref mm, .ref mz, .ref ma, .ref sa, .int 0])), (mf, .inr (8, [.int 0, .int 0, .int 0])), (mm, .inr (8, [.int 0, .int 0, .int 0])), (mz, .inr (8, [.int 0, .int 0, .int 0])), (ma, .inl (cM, 3, .inr (.inr (.inr (.inr (va_up (va_up (va_up (fun _ => none) 0 (some mf)) 1 (some mm)) 2 (some mz))))))), (sa, .inl (cS, 9, .inr (.inr (.inr (.inr (va_up (va_up (va_up (va_up (va_up (va_up (va_up (va_up (va_up (fun _ => none) 0 (some s0)) 1 (some s1)) 2 (some s2)) 3 (some s3)) 4 (some s4)) 5 (some s5)) 6 (some s6)) 7 (some s7)) 8 (some s8))))))), (s0, .inr (12, [.int 8, .int 6, .ref mf, .int 1, .int 0, .int 900, .int 0, .int 0])), (s1, .inr (12, [.int 7, .int 5, .ref mf, .int 1, .int 0, .int 900, .int 0, .int 0])), (s2, .inr (12, [.int 3, .int 3, .ref mf, .int 1, .int 0, .int 900, .int 0, .int 0])), (s3, .inr (12, [.int 10, .int 8, .ref mm, .int 1, .int 0, .int 900, .int 0, .int 0])), (s4, .inr (12, [.int 9, .int 6, .ref mm, .int 1, .int 0, .int 900, .int 0, .int 0])), (s5, .inr (12, [.int 4, .int 3, .ref mm, .int 1, .int 0, .int 900, .int 0, .int 0])), (s6, .inr (12, [.int 5, .int 4, .ref mz, .int 1, .int 0, .int 900, .int 0, .int 0])), (s7, .inr (12, [.int 4, .int 3, .ref mf, .int 0, .int 0, .int 900, .int 0, .int 0])), (s8, .inr (12, [.int 6, .int 4, .ref mz, .int 0, .int 0, .int 900, .int 0, .int 0]))] H := hP
  have hD : va_D A [(rg, .inr (11, [.ref mf, .ref mm, .ref mz, .ref ma, .ref sa, .int 0])), (mf, .inr (8, [.int 0, .int 0, .int 0])), (mm, .inr (8, [.int 0, .int 0, .int 0])), (mz, .inr (8, [.int 0, .int 0, .int 0])), (ma, .inl (cM, 3, .inr (.inr (.inr (.inr (va_up (va_up (va_up (fun _ => none) 0 (some mf)) 1 (some mm)) 2 (some mz))))))), (sa, .inl (cS, 9, .inr (.inr (.inr (.inr (va_up (va_up (va_up (va_up (va_up (va_up (va_up (va_up (va_up (fun _ => none) 0 (some s0)) 1 (some s1)) 2 (some s2)) 3 (some s3)) 4 (some s4)) 5 (some s5)) 6 (some s6)) 7 (some s7)) 8 (some s8))))))), (s0, .inr (12, [.int 8, .int 6, .ref mf, .int 1, .int 0, .int 900, .int 0, .int 0])), (s1, .inr (12, [.int 7, .int 5, .ref mf, .int 1, .int 0, .int 900, .int 0, .int 0])), (s2, .inr (12, [.int 3, .int 3, .ref mf, .int 1, .int 0, .int 900, .int 0, .int 0])), (s3, .inr (12, [.int 10, .int 8, .ref mm, .int 1, .int 0, .int 900, .int 0, .int 0])), (s4, .inr (12, [.int 9, .int 6, .ref mm, .int 1, .int 0, .int 900, .int 0, .int 0])), (s5, .inr (12, [.int 4, .int 3, .ref mm, .int 1, .int 0, .int 900, .int 0, .int 0])), (s6, .inr (12, [.int 5, .int 4, .ref mz, .int 1, .int 0, .int 900, .int 0, .int 0])), (s7, .inr (12, [.int 4, .int 3, .ref mf, .int 0, .int 0, .int 900, .int 0, .int 0])), (s8, .inr (12, [.int 6, .int 4, .ref mz, .int 0, .int 0, .int 900, .int 0, .int 0]))] := hD
  have hK : va_K (dC, dI) vwCl [(cM, .object RX4), (cS, .object RX8)] s := hK
  obtain rfl : (-12) = r2 := hw
  refine lv_istore (lv' := [(4, .int (-12)), (3, .int 4), (0, .ref rg), (1, .int 0), (2, .int 0)]) hx hb dX7_feel_15 hl (by decide) rfl (fun ls hl => ?_)
  refine va_gets hx hb ((hM.2.2.2.2.1 2 (by decide) (by decide)).1) hS hown (hts (.fieldLink RX7 65 "SquareRig$Rig" "FORE_AND_AFT_PUSH" "[I") (by decide +kernel)) (fun _ h9 => h9) dX7_feel_17 ?_
  refine lv_iload_n hx hb dX7_feel_20 rfl (lv_at hl 3 rfl) ?_
  refine va_mabs hx hb (hml.trans hl.1.symm) hown (hts (.methodLink RX7 48 Lib.Math.abs.name) (by decide +kernel)) (hts (.static Lib.Math.abs.name) (by decide +kernel)) (hts (.initialized "java/lang/Math") (by decide +kernel)) (hts (.code Lib.Math.abs.name Lib.Math.abs.code 1 (some .int)) (by decide +kernel)) (Nat.le_of_ble_eq_true rfl) (Nat.le_of_ble_eq_true rfl) (Nat.le_of_ble_eq_true rfl) (Nat.le_of_ble_eq_true rfl) dX7_feel_21 ?_
  refine kc_i (y := 0) (by decide +kernel) ?_
  have hPc := hP.sub (ws' := []) [] rfl
  have hDc := hD.sub (ws' := []) [] (by decide) rfl
  have hKc := hK.sub (tys' := []) [] rfl
  have hFc := va_free (wc := []) hD hS hA [] rfl
  refine va_calli (va_runS (As := [.ref (z 2), .int 0]) (rest := []) ⟨hx, hb, hml, hown, hts⟩ (k_pushAt2 l dC dI z zK zV  H.size) (va_cwS 2 hts gX7_feel_X7_pushAt rfl rfl rfl (by decide +kernel) ⟨Nat.le_of_ble_eq_true rfl, Nat.le_of_ble_eq_true rfl⟩) ⟨kP_blind, kP_go hPc hKc hDc hFc hM hS⟩ rfl rfl hl.1 rfl (lv_room (Nat.le_of_ble_eq_true rfl)) dX7_feel_24 ⟨Nat.le_of_ble_eq_true rfl, Nat.le_of_ble_eq_true rfl⟩) hS (fun q _ h => hFc q h) hFc (fun r3 u t H1 locs ht hvm hw hB hz1 hk1 hS => ?_)
  obtain ⟨hP, hD, hK⟩ := kJ (wr := [(rg, .inr (11, [.ref mf, .ref mm, .ref mz, .ref ma, .ref sa, .int 0])), (mf, .inr (8, [.int 0, .int 0, .int 0])), (mm, .inr (8, [.int 0, .int 0, .int 0])), (mz, .inr (8, [.int 0, .int 0, .int 0])), (ma, .inl (cM, 3, .inr (.inr (.inr (.inr (va_up (va_up (va_up (fun _ => none) 0 (some mf)) 1 (some mm)) 2 (some mz))))))), (sa, .inl (cS, 9, .inr (.inr (.inr (.inr (va_up (va_up (va_up (va_up (va_up (va_up (va_up (va_up (va_up (fun _ => none) 0 (some s0)) 1 (some s1)) 2 (some s2)) 3 (some s3)) 4 (some s4)) 5 (some s5)) 6 (some s6)) 7 (some s7)) 8 (some s8))))))), (s0, .inr (12, [.int 8, .int 6, .ref mf, .int 1, .int 0, .int 900, .int 0, .int 0])), (s1, .inr (12, [.int 7, .int 5, .ref mf, .int 1, .int 0, .int 900, .int 0, .int 0])), (s2, .inr (12, [.int 3, .int 3, .ref mf, .int 1, .int 0, .int 900, .int 0, .int 0])), (s3, .inr (12, [.int 10, .int 8, .ref mm, .int 1, .int 0, .int 900, .int 0, .int 0])), (s4, .inr (12, [.int 9, .int 6, .ref mm, .int 1, .int 0, .int 900, .int 0, .int 0])), (s5, .inr (12, [.int 4, .int 3, .ref mm, .int 1, .int 0, .int 900, .int 0, .int 0])), (s6, .inr (12, [.int 5, .int 4, .ref mz, .int 1, .int 0, .int 900, .int 0, .int 0])), (s7, .inr (12, [.int 4, .int 3, .ref mf, .int 0, .int 0, .int 900, .int 0, .int 0])), (s8, .inr (12, [.int 6, .int 4, .ref mz, .int 0, .int 0, .int 900, .int 0, .int 0]))]) (w1 := []) (t1 := []) hP hD hK [] [0, 1, 2, 3, 4, 5, 6, 7, 8, 9, 10, 11, 12, 13, 14] rfl rfl (by decide) (by decide) hk1 hFc ht hvm hB
  generalize H1 = H at hP hS ⊢
  have hP : va_P (dC, dI) vwCl [(rg, .inr (11, [.ref mf, .ref mm, .ref mz, .ref ma, .ref sa, .int 0])), (mf, .inr (8, [.int 0, .int 0, .int 0])), (mm, .inr (8, [.int 0, .int 0, .int 0])), (mz, .inr (8, [.int 0, .int 0, .int 0])), (ma, .inl (cM, 3, .inr (.inr (.inr (.inr (va_up (va_up (va_up (fun _ => none) 0 (some mf)) 1 (some mm)) 2 (some mz))))))), (sa, .inl (cS, 9, .inr (.inr (.inr (.inr (va_up (va_up (va_up (va_up (va_up (va_up (va_up (va_up (va_up (fun _ => none) 0 (some s0)) 1 (some s1)) 2 (some s2)) 3 (some s3)) 4 (some s4)) 5 (some s5)) 6 (some s6)) 7 (some s7)) 8 (some s8))))))), (s0, .inr (12, [.int 8, .int 6, .ref mf, .int 1, .int 0, .int 900, .int 0, .int 0])), (s1, .inr (12, [.int 7, .int 5, .ref mf, .int 1, .int 0, .int 900, .int 0, .int 0])), (s2, .inr (12, [.int 3, .int 3, .ref mf, .int 1, .int 0, .int 900, .int 0, .int 0])), (s3, .inr (12, [.int 10, .int 8, .ref mm, .int 1, .int 0, .int 900, .int 0, .int 0])), (s4, .inr (12, [.int 9, .int 6, .ref mm, .int 1, .int 0, .int 900, .int 0, .int 0])), (s5, .inr (12, [.int 4, .int 3, .ref mm, .int 1, .int 0, .int 900, .int 0, .int 0])), (s6, .inr (12, [.int 5, .int 4, .ref mz, .int 1, .int 0, .int 900, .int 0, .int 0])), (s7, .inr (12, [.int 4, .int 3, .ref mf, .int 0, .int 0, .int 900, .int 0, .int 0])), (s8, .inr (12, [.int 6, .int 4, .ref mz, .int 0, .int 0, .int 900, .int 0, .int 0]))] H := hP
  have hD : va_D A [(rg, .inr (11, [.ref mf, .ref mm, .ref mz, .ref ma, .ref sa, .int 0])), (mf, .inr (8, [.int 0, .int 0, .int 0])), (mm, .inr (8, [.int 0, .int 0, .int 0])), (mz, .inr (8, [.int 0, .int 0, .int 0])), (ma, .inl (cM, 3, .inr (.inr (.inr (.inr (va_up (va_up (va_up (fun _ => none) 0 (some mf)) 1 (some mm)) 2 (some mz))))))), (sa, .inl (cS, 9, .inr (.inr (.inr (.inr (va_up (va_up (va_up (va_up (va_up (va_up (va_up (va_up (va_up (fun _ => none) 0 (some s0)) 1 (some s1)) 2 (some s2)) 3 (some s3)) 4 (some s4)) 5 (some s5)) 6 (some s6)) 7 (some s7)) 8 (some s8))))))), (s0, .inr (12, [.int 8, .int 6, .ref mf, .int 1, .int 0, .int 900, .int 0, .int 0])), (s1, .inr (12, [.int 7, .int 5, .ref mf, .int 1, .int 0, .int 900, .int 0, .int 0])), (s2, .inr (12, [.int 3, .int 3, .ref mf, .int 1, .int 0, .int 900, .int 0, .int 0])), (s3, .inr (12, [.int 10, .int 8, .ref mm, .int 1, .int 0, .int 900, .int 0, .int 0])), (s4, .inr (12, [.int 9, .int 6, .ref mm, .int 1, .int 0, .int 900, .int 0, .int 0])), (s5, .inr (12, [.int 4, .int 3, .ref mm, .int 1, .int 0, .int 900, .int 0, .int 0])), (s6, .inr (12, [.int 5, .int 4, .ref mz, .int 1, .int 0, .int 900, .int 0, .int 0])), (s7, .inr (12, [.int 4, .int 3, .ref mf, .int 0, .int 0, .int 900, .int 0, .int 0])), (s8, .inr (12, [.int 6, .int 4, .ref mz, .int 0, .int 0, .int 900, .int 0, .int 0]))] := hD
  have hK : va_K (dC, dI) vwCl [(cM, .object RX4), (cS, .object RX8)] s := hK
  obtain rfl : 0 = r3 := hw
  refine lv_istore (lv' := [(5, .int 0), (4, .int (-12)), (3, .int 4), (0, .ref rg), (1, .int 0), (2, .int 0)]) hx hb dX7_feel_27 hl (by decide) rfl (fun ls hl => ?_)
  refine lv_aload_n hx hb dX7_feel_29 rfl (lv_at hl 3 rfl) ?_
  refine lv_iconst (v := 0) hx hb dX7_feel_30 (by decide) ?_
  refine va_put (D := (dC, dI)) (ci := 11) (v := .int 0) (ty := .int) (C := RX7) (T := TX7) (N := 6) hx hb hts hiX7 tyX7 tyX7_ok nmX7 hown hK hP hD hS 0 rfl rfl 5 (by decide) (hts (.fieldLink RX7 37 "SquareRig$Rig" "drive" "I") (by decide +kernel)) (fun _ h9 => h9) rfl (by decide +kernel) rfl rfl (Nat.le_of_ble_eq_true rfl) dX7_feel_31 (fun H locs hP hD hS => ?_)
  have hP : va_P (dC, dI) vwCl [(rg, .inr (11, [.ref mf, .ref mm, .ref mz, .ref ma, .ref sa, .int 0])), (mf, .inr (8, [.int 0, .int 0, .int 0])), (mm, .inr (8, [.int 0, .int 0, .int 0])), (mz, .inr (8, [.int 0, .int 0, .int 0])), (ma, .inl (cM, 3, .inr (.inr (.inr (.inr (va_up (va_up (va_up (fun _ => none) 0 (some mf)) 1 (some mm)) 2 (some mz))))))), (sa, .inl (cS, 9, .inr (.inr (.inr (.inr (va_up (va_up (va_up (va_up (va_up (va_up (va_up (va_up (va_up (fun _ => none) 0 (some s0)) 1 (some s1)) 2 (some s2)) 3 (some s3)) 4 (some s4)) 5 (some s5)) 6 (some s6)) 7 (some s7)) 8 (some s8))))))), (s0, .inr (12, [.int 8, .int 6, .ref mf, .int 1, .int 0, .int 900, .int 0, .int 0])), (s1, .inr (12, [.int 7, .int 5, .ref mf, .int 1, .int 0, .int 900, .int 0, .int 0])), (s2, .inr (12, [.int 3, .int 3, .ref mf, .int 1, .int 0, .int 900, .int 0, .int 0])), (s3, .inr (12, [.int 10, .int 8, .ref mm, .int 1, .int 0, .int 900, .int 0, .int 0])), (s4, .inr (12, [.int 9, .int 6, .ref mm, .int 1, .int 0, .int 900, .int 0, .int 0])), (s5, .inr (12, [.int 4, .int 3, .ref mm, .int 1, .int 0, .int 900, .int 0, .int 0])), (s6, .inr (12, [.int 5, .int 4, .ref mz, .int 1, .int 0, .int 900, .int 0, .int 0])), (s7, .inr (12, [.int 4, .int 3, .ref mf, .int 0, .int 0, .int 900, .int 0, .int 0])), (s8, .inr (12, [.int 6, .int 4, .ref mz, .int 0, .int 0, .int 900, .int 0, .int 0]))] H := hP
  have hD : va_D A [(rg, .inr (11, [.ref mf, .ref mm, .ref mz, .ref ma, .ref sa, .int 0])), (mf, .inr (8, [.int 0, .int 0, .int 0])), (mm, .inr (8, [.int 0, .int 0, .int 0])), (mz, .inr (8, [.int 0, .int 0, .int 0])), (ma, .inl (cM, 3, .inr (.inr (.inr (.inr (va_up (va_up (va_up (fun _ => none) 0 (some mf)) 1 (some mm)) 2 (some mz))))))), (sa, .inl (cS, 9, .inr (.inr (.inr (.inr (va_up (va_up (va_up (va_up (va_up (va_up (va_up (va_up (va_up (fun _ => none) 0 (some s0)) 1 (some s1)) 2 (some s2)) 3 (some s3)) 4 (some s4)) 5 (some s5)) 6 (some s6)) 7 (some s7)) 8 (some s8))))))), (s0, .inr (12, [.int 8, .int 6, .ref mf, .int 1, .int 0, .int 900, .int 0, .int 0])), (s1, .inr (12, [.int 7, .int 5, .ref mf, .int 1, .int 0, .int 900, .int 0, .int 0])), (s2, .inr (12, [.int 3, .int 3, .ref mf, .int 1, .int 0, .int 900, .int 0, .int 0])), (s3, .inr (12, [.int 10, .int 8, .ref mm, .int 1, .int 0, .int 900, .int 0, .int 0])), (s4, .inr (12, [.int 9, .int 6, .ref mm, .int 1, .int 0, .int 900, .int 0, .int 0])), (s5, .inr (12, [.int 4, .int 3, .ref mm, .int 1, .int 0, .int 900, .int 0, .int 0])), (s6, .inr (12, [.int 5, .int 4, .ref mz, .int 1, .int 0, .int 900, .int 0, .int 0])), (s7, .inr (12, [.int 4, .int 3, .ref mf, .int 0, .int 0, .int 900, .int 0, .int 0])), (s8, .inr (12, [.int 6, .int 4, .ref mz, .int 0, .int 0, .int 900, .int 0, .int 0]))] := hD
  refine lv_aload_n hx hb dX7_feel_34 rfl (lv_at hl 3 rfl) ?_
  refine va_get (D := (dC, dI)) (ci := 11) (v := .ref ma) (C := RX7) (T := TX7) (N := 6) hx hb hts hiX7 hown hK hP 0 rfl rfl 3 (by decide) (hts (.fieldLink RX7 24 "SquareRig$Rig" "masts" "[LSquareRig$Mast;") (by decide +kernel)) (fun _ h9 => h9) rfl dX7_feel_35 ?_
  refine lv_astore (lv' := [(6, .ref ma), (5, .int 0), (4, .int (-12)), (3, .int 4), (0, .ref rg), (1, .int 0), (2, .int 0)]) hx hb dX7_feel_38 hl (by decide) rfl (fun ls hl => ?_)
  refine lv_aload hx hb dX7_feel_40 (lv_at hl 0 rfl) ?_
  refine va_alen (v := 3) hx hb hK hP 4 0 rfl rfl rfl dX7_feel_42 ?_
  refine lv_istore (lv' := [(7, .int 3), (6, .ref ma), (5, .int 0), (4, .int (-12)), (3, .int 4), (0, .ref rg), (1, .int 0), (2, .int 0)]) hx hb dX7_feel_43 hl (by decide) rfl (fun ls hl => ?_)
  refine lv_iconst (v := 0) hx hb dX7_feel_45 (by decide) ?_
  refine lv_istore (lv' := [(8, .int 0), (7, .int 3), (6, .ref ma), (5, .int 0), (4, .int (-12)), (3, .int 4), (0, .ref rg), (1, .int 0), (2, .int 0)]) hx hb dX7_feel_46 hl (by decide) rfl (fun ls hl => ?_)
  refine lv_iload hx hb dX7_feel_48 (lv_at hl 0 rfl) ?_
  refine lv_iload hx hb dX7_feel_50 (lv_at hl 1 rfl) ?_
  refine lv_icmp_ge (tgt := 74) hx hb dX7_feel_52 (by decide) (fun c_ => absurd c_ (by decide +kernel)) (fun _ => ?_)
  refine lv_aload hx hb dX7_feel_55 (lv_at hl 2 rfl) ?_
  refine lv_iload hx hb dX7_feel_57 (lv_at hl 0 rfl) ?_
  refine va_aldq hx hb hK hP 4 0 rfl rfl (pk_in 0 3 (by decide) rfl) dX7_feel_59 ?_
  refine kc_v (y := .ref mf) rfl ?_
  refine lv_astore (lv' := [(9, .ref mf), (8, .int 0), (7, .int 3), (6, .ref ma), (5, .int 0), (4, .int (-12)), (3, .int 4), (0, .ref rg), (1, .int 0), (2, .int 0)]) hx hb dX7_feel_60 hl (by decide) rfl (fun ls hl => ?_)
  refine lv_aload hx hb dX7_feel_62 (lv_at hl 0 rfl) ?_
  refine lv_iconst (v := 0) hx hb dX7_feel_64 (by decide) ?_
  refine va_putN (D := (dC, dI)) (ci := 8) (v := .int 0) (ty := .int) (C := RX4) (T := TX4) (N := 3) hx hb hts hiX4 tyX4 tyX4_ok nmX4 hown hK hP hD hS 1 rfl rfl 2 (by decide) (va_Nw.use rfl (hM.1 _ (List.mem_of_getElem? (i := 4) rfl))) (fun _ h9 => h9) rfl (by decide +kernel) rfl rfl (Nat.le_of_ble_eq_true rfl) dX7_feel_65 (fun H locs hP hD hS => ?_)
  have hP : va_P (dC, dI) vwCl [(rg, .inr (11, [.ref mf, .ref mm, .ref mz, .ref ma, .ref sa, .int 0])), (mf, .inr (8, [.int 0, .int 0, .int 0])), (mm, .inr (8, [.int 0, .int 0, .int 0])), (mz, .inr (8, [.int 0, .int 0, .int 0])), (ma, .inl (cM, 3, .inr (.inr (.inr (.inr (va_up (va_up (va_up (fun _ => none) 0 (some mf)) 1 (some mm)) 2 (some mz))))))), (sa, .inl (cS, 9, .inr (.inr (.inr (.inr (va_up (va_up (va_up (va_up (va_up (va_up (va_up (va_up (va_up (fun _ => none) 0 (some s0)) 1 (some s1)) 2 (some s2)) 3 (some s3)) 4 (some s4)) 5 (some s5)) 6 (some s6)) 7 (some s7)) 8 (some s8))))))), (s0, .inr (12, [.int 8, .int 6, .ref mf, .int 1, .int 0, .int 900, .int 0, .int 0])), (s1, .inr (12, [.int 7, .int 5, .ref mf, .int 1, .int 0, .int 900, .int 0, .int 0])), (s2, .inr (12, [.int 3, .int 3, .ref mf, .int 1, .int 0, .int 900, .int 0, .int 0])), (s3, .inr (12, [.int 10, .int 8, .ref mm, .int 1, .int 0, .int 900, .int 0, .int 0])), (s4, .inr (12, [.int 9, .int 6, .ref mm, .int 1, .int 0, .int 900, .int 0, .int 0])), (s5, .inr (12, [.int 4, .int 3, .ref mm, .int 1, .int 0, .int 900, .int 0, .int 0])), (s6, .inr (12, [.int 5, .int 4, .ref mz, .int 1, .int 0, .int 900, .int 0, .int 0])), (s7, .inr (12, [.int 4, .int 3, .ref mf, .int 0, .int 0, .int 900, .int 0, .int 0])), (s8, .inr (12, [.int 6, .int 4, .ref mz, .int 0, .int 0, .int 900, .int 0, .int 0]))] H := hP
  have hD : va_D A [(rg, .inr (11, [.ref mf, .ref mm, .ref mz, .ref ma, .ref sa, .int 0])), (mf, .inr (8, [.int 0, .int 0, .int 0])), (mm, .inr (8, [.int 0, .int 0, .int 0])), (mz, .inr (8, [.int 0, .int 0, .int 0])), (ma, .inl (cM, 3, .inr (.inr (.inr (.inr (va_up (va_up (va_up (fun _ => none) 0 (some mf)) 1 (some mm)) 2 (some mz))))))), (sa, .inl (cS, 9, .inr (.inr (.inr (.inr (va_up (va_up (va_up (va_up (va_up (va_up (va_up (va_up (va_up (fun _ => none) 0 (some s0)) 1 (some s1)) 2 (some s2)) 3 (some s3)) 4 (some s4)) 5 (some s5)) 6 (some s6)) 7 (some s7)) 8 (some s8))))))), (s0, .inr (12, [.int 8, .int 6, .ref mf, .int 1, .int 0, .int 900, .int 0, .int 0])), (s1, .inr (12, [.int 7, .int 5, .ref mf, .int 1, .int 0, .int 900, .int 0, .int 0])), (s2, .inr (12, [.int 3, .int 3, .ref mf, .int 1, .int 0, .int 900, .int 0, .int 0])), (s3, .inr (12, [.int 10, .int 8, .ref mm, .int 1, .int 0, .int 900, .int 0, .int 0])), (s4, .inr (12, [.int 9, .int 6, .ref mm, .int 1, .int 0, .int 900, .int 0, .int 0])), (s5, .inr (12, [.int 4, .int 3, .ref mm, .int 1, .int 0, .int 900, .int 0, .int 0])), (s6, .inr (12, [.int 5, .int 4, .ref mz, .int 1, .int 0, .int 900, .int 0, .int 0])), (s7, .inr (12, [.int 4, .int 3, .ref mf, .int 0, .int 0, .int 900, .int 0, .int 0])), (s8, .inr (12, [.int 6, .int 4, .ref mz, .int 0, .int 0, .int 900, .int 0, .int 0]))] := hD
  refine lv_iinc (v := 1) (lv' := [(8, .int 1), (9, .ref mf), (7, .int 3), (6, .ref ma), (5, .int 0), (4, .int (-12)), (3, .int 4), (0, .ref rg), (1, .int 0), (2, .int 0)]) hx hb dX7_feel_68 hl (k := 1) rfl (by decide +kernel) (by decide) rfl (fun ls hl => ?_)
  refine lv_goto (tgt := 48) hx hb dX7_feel_71 (by decide) ?_
  refine lv_iload hx hb dX7_feel_48 (lv_at hl 0 rfl) ?_
  refine lv_iload hx hb dX7_feel_50 (lv_at hl 2 rfl) ?_
  refine lv_icmp_ge (tgt := 74) hx hb dX7_feel_52 (by decide) (fun c_ => absurd c_ (by decide +kernel)) (fun _ => ?_)
  refine lv_aload hx hb dX7_feel_55 (lv_at hl 3 rfl) ?_
  refine lv_iload hx hb dX7_feel_57 (lv_at hl 0 rfl) ?_
  refine va_aldq hx hb hK hP 4 0 rfl rfl (pk_in 1 3 (by decide) rfl) dX7_feel_59 ?_
  refine kc_v (y := .ref mm) rfl ?_
  refine lv_astore (lv' := [(9, .ref mm), (8, .int 1), (7, .int 3), (6, .ref ma), (5, .int 0), (4, .int (-12)), (3, .int 4), (0, .ref rg), (1, .int 0), (2, .int 0)]) hx hb dX7_feel_60 hl (by decide) rfl (fun ls hl => ?_)
  refine lv_aload hx hb dX7_feel_62 (lv_at hl 0 rfl) ?_
  refine lv_iconst (v := 0) hx hb dX7_feel_64 (by decide) ?_
  refine va_putN (D := (dC, dI)) (ci := 8) (v := .int 0) (ty := .int) (C := RX4) (T := TX4) (N := 3) hx hb hts hiX4 tyX4 tyX4_ok nmX4 hown hK hP hD hS 2 rfl rfl 2 (by decide) (va_Nw.use rfl (hM.1 _ (List.mem_of_getElem? (i := 4) rfl))) (fun _ h9 => h9) rfl (by decide +kernel) rfl rfl (Nat.le_of_ble_eq_true rfl) dX7_feel_65 (fun H locs hP hD hS => ?_)
  have hP : va_P (dC, dI) vwCl [(rg, .inr (11, [.ref mf, .ref mm, .ref mz, .ref ma, .ref sa, .int 0])), (mf, .inr (8, [.int 0, .int 0, .int 0])), (mm, .inr (8, [.int 0, .int 0, .int 0])), (mz, .inr (8, [.int 0, .int 0, .int 0])), (ma, .inl (cM, 3, .inr (.inr (.inr (.inr (va_up (va_up (va_up (fun _ => none) 0 (some mf)) 1 (some mm)) 2 (some mz))))))), (sa, .inl (cS, 9, .inr (.inr (.inr (.inr (va_up (va_up (va_up (va_up (va_up (va_up (va_up (va_up (va_up (fun _ => none) 0 (some s0)) 1 (some s1)) 2 (some s2)) 3 (some s3)) 4 (some s4)) 5 (some s5)) 6 (some s6)) 7 (some s7)) 8 (some s8))))))), (s0, .inr (12, [.int 8, .int 6, .ref mf, .int 1, .int 0, .int 900, .int 0, .int 0])), (s1, .inr (12, [.int 7, .int 5, .ref mf, .int 1, .int 0, .int 900, .int 0, .int 0])), (s2, .inr (12, [.int 3, .int 3, .ref mf, .int 1, .int 0, .int 900, .int 0, .int 0])), (s3, .inr (12, [.int 10, .int 8, .ref mm, .int 1, .int 0, .int 900, .int 0, .int 0])), (s4, .inr (12, [.int 9, .int 6, .ref mm, .int 1, .int 0, .int 900, .int 0, .int 0])), (s5, .inr (12, [.int 4, .int 3, .ref mm, .int 1, .int 0, .int 900, .int 0, .int 0])), (s6, .inr (12, [.int 5, .int 4, .ref mz, .int 1, .int 0, .int 900, .int 0, .int 0])), (s7, .inr (12, [.int 4, .int 3, .ref mf, .int 0, .int 0, .int 900, .int 0, .int 0])), (s8, .inr (12, [.int 6, .int 4, .ref mz, .int 0, .int 0, .int 900, .int 0, .int 0]))] H := hP
  have hD : va_D A [(rg, .inr (11, [.ref mf, .ref mm, .ref mz, .ref ma, .ref sa, .int 0])), (mf, .inr (8, [.int 0, .int 0, .int 0])), (mm, .inr (8, [.int 0, .int 0, .int 0])), (mz, .inr (8, [.int 0, .int 0, .int 0])), (ma, .inl (cM, 3, .inr (.inr (.inr (.inr (va_up (va_up (va_up (fun _ => none) 0 (some mf)) 1 (some mm)) 2 (some mz))))))), (sa, .inl (cS, 9, .inr (.inr (.inr (.inr (va_up (va_up (va_up (va_up (va_up (va_up (va_up (va_up (va_up (fun _ => none) 0 (some s0)) 1 (some s1)) 2 (some s2)) 3 (some s3)) 4 (some s4)) 5 (some s5)) 6 (some s6)) 7 (some s7)) 8 (some s8))))))), (s0, .inr (12, [.int 8, .int 6, .ref mf, .int 1, .int 0, .int 900, .int 0, .int 0])), (s1, .inr (12, [.int 7, .int 5, .ref mf, .int 1, .int 0, .int 900, .int 0, .int 0])), (s2, .inr (12, [.int 3, .int 3, .ref mf, .int 1, .int 0, .int 900, .int 0, .int 0])), (s3, .inr (12, [.int 10, .int 8, .ref mm, .int 1, .int 0, .int 900, .int 0, .int 0])), (s4, .inr (12, [.int 9, .int 6, .ref mm, .int 1, .int 0, .int 900, .int 0, .int 0])), (s5, .inr (12, [.int 4, .int 3, .ref mm, .int 1, .int 0, .int 900, .int 0, .int 0])), (s6, .inr (12, [.int 5, .int 4, .ref mz, .int 1, .int 0, .int 900, .int 0, .int 0])), (s7, .inr (12, [.int 4, .int 3, .ref mf, .int 0, .int 0, .int 900, .int 0, .int 0])), (s8, .inr (12, [.int 6, .int 4, .ref mz, .int 0, .int 0, .int 900, .int 0, .int 0]))] := hD
  refine lv_iinc (v := 2) (lv' := [(8, .int 2), (9, .ref mm), (7, .int 3), (6, .ref ma), (5, .int 0), (4, .int (-12)), (3, .int 4), (0, .ref rg), (1, .int 0), (2, .int 0)]) hx hb dX7_feel_68 hl (k := 1) rfl (by decide +kernel) (by decide) rfl (fun ls hl => ?_)
  refine lv_goto (tgt := 48) hx hb dX7_feel_71 (by decide) ?_
  refine lv_iload hx hb dX7_feel_48 (lv_at hl 0 rfl) ?_
  refine lv_iload hx hb dX7_feel_50 (lv_at hl 2 rfl) ?_
  refine lv_icmp_ge (tgt := 74) hx hb dX7_feel_52 (by decide) (fun c_ => absurd c_ (by decide +kernel)) (fun _ => ?_)
  refine lv_aload hx hb dX7_feel_55 (lv_at hl 3 rfl) ?_
  refine lv_iload hx hb dX7_feel_57 (lv_at hl 0 rfl) ?_
  refine va_aldq hx hb hK hP 4 0 rfl rfl (pk_in 2 3 (by decide) rfl) dX7_feel_59 ?_
  refine kc_v (y := .ref mz) rfl ?_
  refine lv_astore (lv' := [(9, .ref mz), (8, .int 2), (7, .int 3), (6, .ref ma), (5, .int 0), (4, .int (-12)), (3, .int 4), (0, .ref rg), (1, .int 0), (2, .int 0)]) hx hb dX7_feel_60 hl (by decide) rfl (fun ls hl => ?_)
  refine lv_aload hx hb dX7_feel_62 (lv_at hl 0 rfl) ?_
  refine lv_iconst (v := 0) hx hb dX7_feel_64 (by decide) ?_
  refine va_putN (D := (dC, dI)) (ci := 8) (v := .int 0) (ty := .int) (C := RX4) (T := TX4) (N := 3) hx hb hts hiX4 tyX4 tyX4_ok nmX4 hown hK hP hD hS 3 rfl rfl 2 (by decide) (va_Nw.use rfl (hM.1 _ (List.mem_of_getElem? (i := 4) rfl))) (fun _ h9 => h9) rfl (by decide +kernel) rfl rfl (Nat.le_of_ble_eq_true rfl) dX7_feel_65 (fun H locs hP hD hS => ?_)
  have hP : va_P (dC, dI) vwCl [(rg, .inr (11, [.ref mf, .ref mm, .ref mz, .ref ma, .ref sa, .int 0])), (mf, .inr (8, [.int 0, .int 0, .int 0])), (mm, .inr (8, [.int 0, .int 0, .int 0])), (mz, .inr (8, [.int 0, .int 0, .int 0])), (ma, .inl (cM, 3, .inr (.inr (.inr (.inr (va_up (va_up (va_up (fun _ => none) 0 (some mf)) 1 (some mm)) 2 (some mz))))))), (sa, .inl (cS, 9, .inr (.inr (.inr (.inr (va_up (va_up (va_up (va_up (va_up (va_up (va_up (va_up (va_up (fun _ => none) 0 (some s0)) 1 (some s1)) 2 (some s2)) 3 (some s3)) 4 (some s4)) 5 (some s5)) 6 (some s6)) 7 (some s7)) 8 (some s8))))))), (s0, .inr (12, [.int 8, .int 6, .ref mf, .int 1, .int 0, .int 900, .int 0, .int 0])), (s1, .inr (12, [.int 7, .int 5, .ref mf, .int 1, .int 0, .int 900, .int 0, .int 0])), (s2, .inr (12, [.int 3, .int 3, .ref mf, .int 1, .int 0, .int 900, .int 0, .int 0])), (s3, .inr (12, [.int 10, .int 8, .ref mm, .int 1, .int 0, .int 900, .int 0, .int 0])), (s4, .inr (12, [.int 9, .int 6, .ref mm, .int 1, .int 0, .int 900, .int 0, .int 0])), (s5, .inr (12, [.int 4, .int 3, .ref mm, .int 1, .int 0, .int 900, .int 0, .int 0])), (s6, .inr (12, [.int 5, .int 4, .ref mz, .int 1, .int 0, .int 900, .int 0, .int 0])), (s7, .inr (12, [.int 4, .int 3, .ref mf, .int 0, .int 0, .int 900, .int 0, .int 0])), (s8, .inr (12, [.int 6, .int 4, .ref mz, .int 0, .int 0, .int 900, .int 0, .int 0]))] H := hP
  have hD : va_D A [(rg, .inr (11, [.ref mf, .ref mm, .ref mz, .ref ma, .ref sa, .int 0])), (mf, .inr (8, [.int 0, .int 0, .int 0])), (mm, .inr (8, [.int 0, .int 0, .int 0])), (mz, .inr (8, [.int 0, .int 0, .int 0])), (ma, .inl (cM, 3, .inr (.inr (.inr (.inr (va_up (va_up (va_up (fun _ => none) 0 (some mf)) 1 (some mm)) 2 (some mz))))))), (sa, .inl (cS, 9, .inr (.inr (.inr (.inr (va_up (va_up (va_up (va_up (va_up (va_up (va_up (va_up (va_up (fun _ => none) 0 (some s0)) 1 (some s1)) 2 (some s2)) 3 (some s3)) 4 (some s4)) 5 (some s5)) 6 (some s6)) 7 (some s7)) 8 (some s8))))))), (s0, .inr (12, [.int 8, .int 6, .ref mf, .int 1, .int 0, .int 900, .int 0, .int 0])), (s1, .inr (12, [.int 7, .int 5, .ref mf, .int 1, .int 0, .int 900, .int 0, .int 0])), (s2, .inr (12, [.int 3, .int 3, .ref mf, .int 1, .int 0, .int 900, .int 0, .int 0])), (s3, .inr (12, [.int 10, .int 8, .ref mm, .int 1, .int 0, .int 900, .int 0, .int 0])), (s4, .inr (12, [.int 9, .int 6, .ref mm, .int 1, .int 0, .int 900, .int 0, .int 0])), (s5, .inr (12, [.int 4, .int 3, .ref mm, .int 1, .int 0, .int 900, .int 0, .int 0])), (s6, .inr (12, [.int 5, .int 4, .ref mz, .int 1, .int 0, .int 900, .int 0, .int 0])), (s7, .inr (12, [.int 4, .int 3, .ref mf, .int 0, .int 0, .int 900, .int 0, .int 0])), (s8, .inr (12, [.int 6, .int 4, .ref mz, .int 0, .int 0, .int 900, .int 0, .int 0]))] := hD
  refine lv_iinc (v := 3) (lv' := [(8, .int 3), (9, .ref mz), (7, .int 3), (6, .ref ma), (5, .int 0), (4, .int (-12)), (3, .int 4), (0, .ref rg), (1, .int 0), (2, .int 0)]) hx hb dX7_feel_68 hl (k := 1) rfl (by decide +kernel) (by decide) rfl (fun ls hl => ?_)
  refine lv_goto (tgt := 48) hx hb dX7_feel_71 (by decide) ?_
  refine lv_iload hx hb dX7_feel_48 (lv_at hl 0 rfl) ?_
  refine lv_iload hx hb dX7_feel_50 (lv_at hl 2 rfl) ?_
  refine lv_icmp_ge (tgt := 74) hx hb dX7_feel_52 (by decide) (fun _ => ?_) (fun c_ => absurd (by decide +kernel) c_)
  refine lv_aload_n hx hb dX7_feel_74 rfl (lv_at hl 7 rfl) ?_
  refine va_get (D := (dC, dI)) (ci := 11) (v := .ref sa) (C := RX7) (T := TX7) (N := 6) hx hb hts hiX7 hown hK hP 0 rfl rfl 4 (by decide) (hts (.fieldLink RX7 33 "SquareRig$Rig" "sails" "[LSquareRig$Sail;") (by decide +kernel)) (fun _ h9 => h9) rfl dX7_feel_75 ?_
  refine lv_astore (lv' := [(6, .ref sa), (8, .int 3), (9, .ref mz), (7, .int 3), (5, .int 0), (4, .int (-12)), (3, .int 4), (0, .ref rg), (1, .int 0), (2, .int 0)]) hx hb dX7_feel_78 hl (by decide) rfl (fun ls hl => ?_)
  refine lv_aload hx hb dX7_feel_80 (lv_at hl 0 rfl) ?_
  refine va_alen (v := 9) hx hb hK hP 5 1 rfl rfl rfl dX7_feel_82 ?_
  refine lv_istore (lv' := [(7, .int 9), (6, .ref sa), (8, .int 3), (9, .ref mz), (5, .int 0), (4, .int (-12)), (3, .int 4), (0, .ref rg), (1, .int 0), (2, .int 0)]) hx hb dX7_feel_83 hl (by decide) rfl (fun ls hl => ?_)
  refine lv_iconst (v := 0) hx hb dX7_feel_85 (by decide) ?_
  refine lv_istore (lv' := [(8, .int 0), (7, .int 9), (6, .ref sa), (9, .ref mz), (5, .int 0), (4, .int (-12)), (3, .int 4), (0, .ref rg), (1, .int 0), (2, .int 0)]) hx hb dX7_feel_86 hl (by decide) rfl (fun ls hl => ?_)
  refine lv_iload hx hb dX7_feel_88 (lv_at hl 0 rfl) ?_
  refine lv_iload hx hb dX7_feel_90 (lv_at hl 1 rfl) ?_
  refine lv_icmp_ge (tgt := 196) hx hb dX7_feel_92 (by decide) (fun c_ => absurd c_ (by decide +kernel)) (fun _ => ?_)
  refine lv_aload hx hb dX7_feel_95 (lv_at hl 2 rfl) ?_
  refine lv_iload hx hb dX7_feel_97 (lv_at hl 0 rfl) ?_
  refine va_aldq hx hb hK hP 5 1 rfl rfl (pk_in 0 9 (by decide) rfl) dX7_feel_99 ?_
  refine kc_v (y := .ref s0) rfl ?_
  refine lv_astore (lv' := [(9, .ref s0), (8, .int 0), (7, .int 9), (6, .ref sa), (5, .int 0), (4, .int (-12)), (3, .int 4), (0, .ref rg), (1, .int 0), (2, .int 0)]) hx hb dX7_feel_100 hl (by decide) rfl (fun ls hl => ?_)
  refine lv_aload hx hb dX7_feel_102 (lv_at hl 0 rfl) ?_
  refine va_getN (D := (dC, dI)) (ci := 12) (v := .int 1) (C := RX8) (T := TX8) (N := 8) hx hb hts hiX8 hown hK hP 6 rfl rfl 3 (by decide) (va_Nw.use rfl (hM.1 _ (List.mem_of_getElem? (i := 9) rfl))) (fun _ h9 => h9) rfl dX7_feel_104 ?_
  refine lv_if_eq (tgt := 128) hx hb dX7_feel_107 (by decide) (fun c_ => absurd c_ (by decide +kernel)) (fun _ => ?_)
  refine lv_iload hx hb dX7_feel_110 (lv_at hl 5 rfl) ?_
  refine lv_aload hx hb dX7_feel_112 (lv_at hl 0 rfl) ?_
  refine va_getN (D := (dC, dI)) (ci := 12) (v := .ref mf) (C := RX8) (T := TX8) (N := 8) hx hb hts hiX8 hown hK hP 6 rfl rfl 2 (by decide) (va_Nw.use rfl (hM.1 _ (List.mem_of_getElem? (i := 8) rfl))) (fun _ h9 => h9) rfl dX7_feel_114 ?_
  refine va_getN (D := (dC, dI)) (ci := 8) (v := .int 0) (C := RX4) (T := TX4) (N := 3) hx hb hts hiX4 hown hK hP 1 rfl rfl 0 (by decide) (va_Nw.use rfl (hM.1 _ (List.mem_of_getElem? (i := 0) rfl))) (fun _ h9 => h9) rfl dX7_feel_117 ?_
  refine lv_iload_n hx hb dX7_feel_120 rfl (lv_at hl 6 rfl) ?_
  refine lv_isub hx hb dX7_feel_121 ?_
  refine kc_i (y := (-4)) (by decide +kernel) ?_
  have hPc := hP.sub (ws' := []) [] rfl
  have hDc := hD.sub (ws' := []) [] (by decide) rfl
  have hKc := hK.sub (tys' := []) [] rfl
  have hFc := va_free (wc := []) hD hS hA [] rfl
  refine va_calli (va_runS (As := [.int (-12), .int (-4)]) (rest := []) ⟨hx, hb, hml, hown, hts⟩ (k_bracedPush l dC dI z zK zV  H.size) (va_cwS 2 hts gX7_feel_X7_bracedPush rfl rfl rfl (by decide +kernel) ⟨Nat.le_of_ble_eq_true rfl, Nat.le_of_ble_eq_true rfl⟩) ⟨kP_blind, kP_go hPc hKc hDc hFc hM hS⟩ rfl rfl hl.1 rfl (lv_room (Nat.le_of_ble_eq_true rfl)) dX7_feel_122 ⟨Nat.le_of_ble_eq_true rfl, Nat.le_of_ble_eq_true rfl⟩) hS (fun q _ h => hFc q h) hFc (fun r4 u t H1 locs ht hvm hw hB hz1 hk1 hS => ?_)
  obtain ⟨hP, hD, hK⟩ := kJ (wr := [(rg, .inr (11, [.ref mf, .ref mm, .ref mz, .ref ma, .ref sa, .int 0])), (mf, .inr (8, [.int 0, .int 0, .int 0])), (mm, .inr (8, [.int 0, .int 0, .int 0])), (mz, .inr (8, [.int 0, .int 0, .int 0])), (ma, .inl (cM, 3, .inr (.inr (.inr (.inr (va_up (va_up (va_up (fun _ => none) 0 (some mf)) 1 (some mm)) 2 (some mz))))))), (sa, .inl (cS, 9, .inr (.inr (.inr (.inr (va_up (va_up (va_up (va_up (va_up (va_up (va_up (va_up (va_up (fun _ => none) 0 (some s0)) 1 (some s1)) 2 (some s2)) 3 (some s3)) 4 (some s4)) 5 (some s5)) 6 (some s6)) 7 (some s7)) 8 (some s8))))))), (s0, .inr (12, [.int 8, .int 6, .ref mf, .int 1, .int 0, .int 900, .int 0, .int 0])), (s1, .inr (12, [.int 7, .int 5, .ref mf, .int 1, .int 0, .int 900, .int 0, .int 0])), (s2, .inr (12, [.int 3, .int 3, .ref mf, .int 1, .int 0, .int 900, .int 0, .int 0])), (s3, .inr (12, [.int 10, .int 8, .ref mm, .int 1, .int 0, .int 900, .int 0, .int 0])), (s4, .inr (12, [.int 9, .int 6, .ref mm, .int 1, .int 0, .int 900, .int 0, .int 0])), (s5, .inr (12, [.int 4, .int 3, .ref mm, .int 1, .int 0, .int 900, .int 0, .int 0])), (s6, .inr (12, [.int 5, .int 4, .ref mz, .int 1, .int 0, .int 900, .int 0, .int 0])), (s7, .inr (12, [.int 4, .int 3, .ref mf, .int 0, .int 0, .int 900, .int 0, .int 0])), (s8, .inr (12, [.int 6, .int 4, .ref mz, .int 0, .int 0, .int 900, .int 0, .int 0]))]) (w1 := []) (t1 := []) hP hD hK [] [0, 1, 2, 3, 4, 5, 6, 7, 8, 9, 10, 11, 12, 13, 14] rfl rfl (by decide) (by decide) hk1 hFc ht hvm hB
  generalize H1 = H at hP hS ⊢
  have hP : va_P (dC, dI) vwCl [(rg, .inr (11, [.ref mf, .ref mm, .ref mz, .ref ma, .ref sa, .int 0])), (mf, .inr (8, [.int 0, .int 0, .int 0])), (mm, .inr (8, [.int 0, .int 0, .int 0])), (mz, .inr (8, [.int 0, .int 0, .int 0])), (ma, .inl (cM, 3, .inr (.inr (.inr (.inr (va_up (va_up (va_up (fun _ => none) 0 (some mf)) 1 (some mm)) 2 (some mz))))))), (sa, .inl (cS, 9, .inr (.inr (.inr (.inr (va_up (va_up (va_up (va_up (va_up (va_up (va_up (va_up (va_up (fun _ => none) 0 (some s0)) 1 (some s1)) 2 (some s2)) 3 (some s3)) 4 (some s4)) 5 (some s5)) 6 (some s6)) 7 (some s7)) 8 (some s8))))))), (s0, .inr (12, [.int 8, .int 6, .ref mf, .int 1, .int 0, .int 900, .int 0, .int 0])), (s1, .inr (12, [.int 7, .int 5, .ref mf, .int 1, .int 0, .int 900, .int 0, .int 0])), (s2, .inr (12, [.int 3, .int 3, .ref mf, .int 1, .int 0, .int 900, .int 0, .int 0])), (s3, .inr (12, [.int 10, .int 8, .ref mm, .int 1, .int 0, .int 900, .int 0, .int 0])), (s4, .inr (12, [.int 9, .int 6, .ref mm, .int 1, .int 0, .int 900, .int 0, .int 0])), (s5, .inr (12, [.int 4, .int 3, .ref mm, .int 1, .int 0, .int 900, .int 0, .int 0])), (s6, .inr (12, [.int 5, .int 4, .ref mz, .int 1, .int 0, .int 900, .int 0, .int 0])), (s7, .inr (12, [.int 4, .int 3, .ref mf, .int 0, .int 0, .int 900, .int 0, .int 0])), (s8, .inr (12, [.int 6, .int 4, .ref mz, .int 0, .int 0, .int 900, .int 0, .int 0]))] H := hP
  have hD : va_D A [(rg, .inr (11, [.ref mf, .ref mm, .ref mz, .ref ma, .ref sa, .int 0])), (mf, .inr (8, [.int 0, .int 0, .int 0])), (mm, .inr (8, [.int 0, .int 0, .int 0])), (mz, .inr (8, [.int 0, .int 0, .int 0])), (ma, .inl (cM, 3, .inr (.inr (.inr (.inr (va_up (va_up (va_up (fun _ => none) 0 (some mf)) 1 (some mm)) 2 (some mz))))))), (sa, .inl (cS, 9, .inr (.inr (.inr (.inr (va_up (va_up (va_up (va_up (va_up (va_up (va_up (va_up (va_up (fun _ => none) 0 (some s0)) 1 (some s1)) 2 (some s2)) 3 (some s3)) 4 (some s4)) 5 (some s5)) 6 (some s6)) 7 (some s7)) 8 (some s8))))))), (s0, .inr (12, [.int 8, .int 6, .ref mf, .int 1, .int 0, .int 900, .int 0, .int 0])), (s1, .inr (12, [.int 7, .int 5, .ref mf, .int 1, .int 0, .int 900, .int 0, .int 0])), (s2, .inr (12, [.int 3, .int 3, .ref mf, .int 1, .int 0, .int 900, .int 0, .int 0])), (s3, .inr (12, [.int 10, .int 8, .ref mm, .int 1, .int 0, .int 900, .int 0, .int 0])), (s4, .inr (12, [.int 9, .int 6, .ref mm, .int 1, .int 0, .int 900, .int 0, .int 0])), (s5, .inr (12, [.int 4, .int 3, .ref mm, .int 1, .int 0, .int 900, .int 0, .int 0])), (s6, .inr (12, [.int 5, .int 4, .ref mz, .int 1, .int 0, .int 900, .int 0, .int 0])), (s7, .inr (12, [.int 4, .int 3, .ref mf, .int 0, .int 0, .int 900, .int 0, .int 0])), (s8, .inr (12, [.int 6, .int 4, .ref mz, .int 0, .int 0, .int 900, .int 0, .int 0]))] := hD
  have hK : va_K (dC, dI) vwCl [(cM, .object RX4), (cS, .object RX8)] s := hK
  obtain rfl : (-12) = r4 := hw
  refine lv_goto (tgt := 130) hx hb dX7_feel_125 (by decide) ?_
  refine lv_istore (lv' := [(10, .int (-12)), (9, .ref s0), (8, .int 0), (7, .int 9), (6, .ref sa), (5, .int 0), (4, .int (-12)), (3, .int 4), (0, .ref rg), (1, .int 0), (2, .int 0)]) hx hb dX7_feel_130 hl (by decide) rfl (fun ls hl => ?_)
  refine lv_aload hx hb dX7_feel_132 (lv_at hl 1 rfl) ?_
  refine lv_aload hx hb dX7_feel_134 (lv_at hl 1 rfl) ?_
  refine va_getN (D := (dC, dI)) (ci := 12) (v := .int 8) (C := RX8) (T := TX8) (N := 8) hx hb hts hiX8 hown hK hP 6 rfl rfl 0 (by decide) (va_Nw.use rfl (hM.1 _ (List.mem_of_getElem? (i := 6) rfl))) (fun _ h9 => h9) rfl dX7_feel_136 ?_
  refine lv_aload hx hb dX7_feel_139 (lv_at hl 1 rfl) ?_
  refine va_getN (D := (dC, dI)) (ci := 12) (v := .int 0) (C := RX8) (T := TX8) (N := 8) hx hb hts hiX8 hown hK hP 6 rfl rfl 4 (by decide) (va_Nw.use rfl (hM.1 _ (List.mem_of_getElem? (i := 10) rfl))) (fun _ h9 => h9) rfl dX7_feel_141 ?_
  refine lv_imul hx hb dX7_feel_144 ?_
  refine kc_i (y := 0) (by decide +kernel) ?_
  refine lv_iload_n hx hb dX7_feel_145 rfl (lv_at hl 10 rfl) ?_
  refine lv_imul hx hb dX7_feel_146 ?_
  refine kc_i (y := 0) (by decide +kernel) ?_
  refine lv_iload hx hb dX7_feel_147 (lv_at hl 0 rfl) ?_
  refine lv_imul hx hb dX7_feel_149 ?_
  refine kc_i (y := 0) (by decide +kernel) ?_
  refine lv_iconst (v := 2) hx hb dX7_feel_150 (by decide) ?_
  refine lv_idiv hx hb dX7_feel_151 (by decide +kernel) ?_
  refine kc_i (y := 0) (by decide +kernel) ?_
  refine va_putN (D := (dC, dI)) (ci := 12) (v := .int 0) (ty := .int) (C := RX8) (T := TX8) (N := 8) hx hb hts hiX8 tyX8 tyX8_ok nmX8 hown hK hP hD hS 6 rfl rfl 7 (by decide) (va_Nw.use rfl (hM.1 _ (List.mem_of_getElem? (i := 16) rfl))) (fun _ h9 => h9) rfl (by decide +kernel) rfl rfl (Nat.le_of_ble_eq_true rfl) dX7_feel_152 (fun H locs hP hD hS => ?_)
  have hP : va_P (dC, dI) vwCl [(rg, .inr (11, [.ref mf, .ref mm, .ref mz, .ref ma, .ref sa, .int 0])), (mf, .inr (8, [.int 0, .int 0, .int 0])), (mm, .inr (8, [.int 0, .int 0, .int 0])), (mz, .inr (8, [.int 0, .int 0, .int 0])), (ma, .inl (cM, 3, .inr (.inr (.inr (.inr (va_up (va_up (va_up (fun _ => none) 0 (some mf)) 1 (some mm)) 2 (some mz))))))), (sa, .inl (cS, 9, .inr (.inr (.inr (.inr (va_up (va_up (va_up (va_up (va_up (va_up (va_up (va_up (va_up (fun _ => none) 0 (some s0)) 1 (some s1)) 2 (some s2)) 3 (some s3)) 4 (some s4)) 5 (some s5)) 6 (some s6)) 7 (some s7)) 8 (some s8))))))), (s0, .inr (12, [.int 8, .int 6, .ref mf, .int 1, .int 0, .int 900, .int 0, .int 0])), (s1, .inr (12, [.int 7, .int 5, .ref mf, .int 1, .int 0, .int 900, .int 0, .int 0])), (s2, .inr (12, [.int 3, .int 3, .ref mf, .int 1, .int 0, .int 900, .int 0, .int 0])), (s3, .inr (12, [.int 10, .int 8, .ref mm, .int 1, .int 0, .int 900, .int 0, .int 0])), (s4, .inr (12, [.int 9, .int 6, .ref mm, .int 1, .int 0, .int 900, .int 0, .int 0])), (s5, .inr (12, [.int 4, .int 3, .ref mm, .int 1, .int 0, .int 900, .int 0, .int 0])), (s6, .inr (12, [.int 5, .int 4, .ref mz, .int 1, .int 0, .int 900, .int 0, .int 0])), (s7, .inr (12, [.int 4, .int 3, .ref mf, .int 0, .int 0, .int 900, .int 0, .int 0])), (s8, .inr (12, [.int 6, .int 4, .ref mz, .int 0, .int 0, .int 900, .int 0, .int 0]))] H := hP
  have hD : va_D A [(rg, .inr (11, [.ref mf, .ref mm, .ref mz, .ref ma, .ref sa, .int 0])), (mf, .inr (8, [.int 0, .int 0, .int 0])), (mm, .inr (8, [.int 0, .int 0, .int 0])), (mz, .inr (8, [.int 0, .int 0, .int 0])), (ma, .inl (cM, 3, .inr (.inr (.inr (.inr (va_up (va_up (va_up (fun _ => none) 0 (some mf)) 1 (some mm)) 2 (some mz))))))), (sa, .inl (cS, 9, .inr (.inr (.inr (.inr (va_up (va_up (va_up (va_up (va_up (va_up (va_up (va_up (va_up (fun _ => none) 0 (some s0)) 1 (some s1)) 2 (some s2)) 3 (some s3)) 4 (some s4)) 5 (some s5)) 6 (some s6)) 7 (some s7)) 8 (some s8))))))), (s0, .inr (12, [.int 8, .int 6, .ref mf, .int 1, .int 0, .int 900, .int 0, .int 0])), (s1, .inr (12, [.int 7, .int 5, .ref mf, .int 1, .int 0, .int 900, .int 0, .int 0])), (s2, .inr (12, [.int 3, .int 3, .ref mf, .int 1, .int 0, .int 900, .int 0, .int 0])), (s3, .inr (12, [.int 10, .int 8, .ref mm, .int 1, .int 0, .int 900, .int 0, .int 0])), (s4, .inr (12, [.int 9, .int 6, .ref mm, .int 1, .int 0, .int 900, .int 0, .int 0])), (s5, .inr (12, [.int 4, .int 3, .ref mm, .int 1, .int 0, .int 900, .int 0, .int 0])), (s6, .inr (12, [.int 5, .int 4, .ref mz, .int 1, .int 0, .int 900, .int 0, .int 0])), (s7, .inr (12, [.int 4, .int 3, .ref mf, .int 0, .int 0, .int 900, .int 0, .int 0])), (s8, .inr (12, [.int 6, .int 4, .ref mz, .int 0, .int 0, .int 900, .int 0, .int 0]))] := hD
  refine lv_aload_n hx hb dX7_feel_155 rfl (lv_at hl 8 rfl) ?_
  refine lv_dup hx hb dX7_feel_156 rfl ?_
  refine va_get (D := (dC, dI)) (ci := 11) (v := .int 0) (C := RX7) (T := TX7) (N := 6) hx hb hts hiX7 hown hK hP 0 rfl rfl 5 (by decide) (hts (.fieldLink RX7 37 "SquareRig$Rig" "drive" "I") (by decide +kernel)) (fun _ h9 => h9) rfl dX7_feel_157 ?_
  refine lv_aload hx hb dX7_feel_160 (lv_at hl 1 rfl) ?_
  refine va_getN (D := (dC, dI)) (ci := 12) (v := .int 0) (C := RX8) (T := TX8) (N := 8) hx hb hts hiX8 hown hK hP 6 rfl rfl 7 (by decide) (va_Nw.use rfl (hM.1 _ (List.mem_of_getElem? (i := 16) rfl))) (fun _ h9 => h9) rfl dX7_feel_162 ?_
  refine lv_iadd hx hb dX7_feel_165 ?_
  refine kc_i (y := 0) (by decide +kernel) ?_
  refine va_put (D := (dC, dI)) (ci := 11) (v := .int 0) (ty := .int) (C := RX7) (T := TX7) (N := 6) hx hb hts hiX7 tyX7 tyX7_ok nmX7 hown hK hP hD hS 0 rfl rfl 5 (by decide) (hts (.fieldLink RX7 37 "SquareRig$Rig" "drive" "I") (by decide +kernel)) (fun _ h9 => h9) rfl (by decide +kernel) rfl rfl (Nat.le_of_ble_eq_true rfl) dX7_feel_166 (fun H locs hP hD hS => ?_)
  have hP : va_P (dC, dI) vwCl [(rg, .inr (11, [.ref mf, .ref mm, .ref mz, .ref ma, .ref sa, .int 0])), (mf, .inr (8, [.int 0, .int 0, .int 0])), (mm, .inr (8, [.int 0, .int 0, .int 0])), (mz, .inr (8, [.int 0, .int 0, .int 0])), (ma, .inl (cM, 3, .inr (.inr (.inr (.inr (va_up (va_up (va_up (fun _ => none) 0 (some mf)) 1 (some mm)) 2 (some mz))))))), (sa, .inl (cS, 9, .inr (.inr (.inr (.inr (va_up (va_up (va_up (va_up (va_up (va_up (va_up (va_up (va_up (fun _ => none) 0 (some s0)) 1 (some s1)) 2 (some s2)) 3 (some s3)) 4 (some s4)) 5 (some s5)) 6 (some s6)) 7 (some s7)) 8 (some s8))))))), (s0, .inr (12, [.int 8, .int 6, .ref mf, .int 1, .int 0, .int 900, .int 0, .int 0])), (s1, .inr (12, [.int 7, .int 5, .ref mf, .int 1, .int 0, .int 900, .int 0, .int 0])), (s2, .inr (12, [.int 3, .int 3, .ref mf, .int 1, .int 0, .int 900, .int 0, .int 0])), (s3, .inr (12, [.int 10, .int 8, .ref mm, .int 1, .int 0, .int 900, .int 0, .int 0])), (s4, .inr (12, [.int 9, .int 6, .ref mm, .int 1, .int 0, .int 900, .int 0, .int 0])), (s5, .inr (12, [.int 4, .int 3, .ref mm, .int 1, .int 0, .int 900, .int 0, .int 0])), (s6, .inr (12, [.int 5, .int 4, .ref mz, .int 1, .int 0, .int 900, .int 0, .int 0])), (s7, .inr (12, [.int 4, .int 3, .ref mf, .int 0, .int 0, .int 900, .int 0, .int 0])), (s8, .inr (12, [.int 6, .int 4, .ref mz, .int 0, .int 0, .int 900, .int 0, .int 0]))] H := hP
  have hD : va_D A [(rg, .inr (11, [.ref mf, .ref mm, .ref mz, .ref ma, .ref sa, .int 0])), (mf, .inr (8, [.int 0, .int 0, .int 0])), (mm, .inr (8, [.int 0, .int 0, .int 0])), (mz, .inr (8, [.int 0, .int 0, .int 0])), (ma, .inl (cM, 3, .inr (.inr (.inr (.inr (va_up (va_up (va_up (fun _ => none) 0 (some mf)) 1 (some mm)) 2 (some mz))))))), (sa, .inl (cS, 9, .inr (.inr (.inr (.inr (va_up (va_up (va_up (va_up (va_up (va_up (va_up (va_up (va_up (fun _ => none) 0 (some s0)) 1 (some s1)) 2 (some s2)) 3 (some s3)) 4 (some s4)) 5 (some s5)) 6 (some s6)) 7 (some s7)) 8 (some s8))))))), (s0, .inr (12, [.int 8, .int 6, .ref mf, .int 1, .int 0, .int 900, .int 0, .int 0])), (s1, .inr (12, [.int 7, .int 5, .ref mf, .int 1, .int 0, .int 900, .int 0, .int 0])), (s2, .inr (12, [.int 3, .int 3, .ref mf, .int 1, .int 0, .int 900, .int 0, .int 0])), (s3, .inr (12, [.int 10, .int 8, .ref mm, .int 1, .int 0, .int 900, .int 0, .int 0])), (s4, .inr (12, [.int 9, .int 6, .ref mm, .int 1, .int 0, .int 900, .int 0, .int 0])), (s5, .inr (12, [.int 4, .int 3, .ref mm, .int 1, .int 0, .int 900, .int 0, .int 0])), (s6, .inr (12, [.int 5, .int 4, .ref mz, .int 1, .int 0, .int 900, .int 0, .int 0])), (s7, .inr (12, [.int 4, .int 3, .ref mf, .int 0, .int 0, .int 900, .int 0, .int 0])), (s8, .inr (12, [.int 6, .int 4, .ref mz, .int 0, .int 0, .int 900, .int 0, .int 0]))] := hD
  refine lv_aload hx hb dX7_feel_169 (lv_at hl 1 rfl) ?_
  refine va_getN (D := (dC, dI)) (ci := 12) (v := .ref mf) (C := RX8) (T := TX8) (N := 8) hx hb hts hiX8 hown hK hP 6 rfl rfl 2 (by decide) (va_Nw.use rfl (hM.1 _ (List.mem_of_getElem? (i := 8) rfl))) (fun _ h9 => h9) rfl dX7_feel_171 ?_
  refine lv_dup hx hb dX7_feel_174 rfl ?_
  refine va_getN (D := (dC, dI)) (ci := 8) (v := .int 0) (C := RX4) (T := TX4) (N := 3) hx hb hts hiX4 hown hK hP 1 rfl rfl 2 (by decide) (va_Nw.use rfl (hM.1 _ (List.mem_of_getElem? (i := 4) rfl))) (fun _ h9 => h9) rfl dX7_feel_175 ?_
  refine lv_aload hx hb dX7_feel_178 (lv_at hl 1 rfl) ?_
  refine va_getN (D := (dC, dI)) (ci := 12) (v := .int 0) (C := RX8) (T := TX8) (N := 8) hx hb hts hiX8 hown hK hP 6 rfl rfl 7 (by decide) (va_Nw.use rfl (hM.1 _ (List.mem_of_getElem? (i := 16) rfl))) (fun _ h9 => h9) rfl dX7_feel_180 ?_
  refine va_mabs hx hb (hml.trans hl.1.symm) hown (hts (.methodLink RX7 48 Lib.Math.abs.name) (by decide +kernel)) (hts (.static Lib.Math.abs.name) (by decide +kernel)) (hts (.initialized "java/lang/Math") (by decide +kernel)) (hts (.code Lib.Math.abs.name Lib.Math.abs.code 1 (some .int)) (by decide +kernel)) (Nat.le_of_ble_eq_true rfl) (Nat.le_of_ble_eq_true rfl) (Nat.le_of_ble_eq_true rfl) (Nat.le_of_ble_eq_true rfl) dX7_feel_183 ?_
  refine kc_i (y := 0) (by decide +kernel) ?_
  refine lv_iadd hx hb dX7_feel_186 ?_
  refine kc_i (y := 0) (by decide +kernel) ?_
  refine va_putN (D := (dC, dI)) (ci := 8) (v := .int 0) (ty := .int) (C := RX4) (T := TX4) (N := 3) hx hb hts hiX4 tyX4 tyX4_ok nmX4 hown hK hP hD hS 1 rfl rfl 2 (by decide) (va_Nw.use rfl (hM.1 _ (List.mem_of_getElem? (i := 4) rfl))) (fun _ h9 => h9) rfl (by decide +kernel) rfl rfl (Nat.le_of_ble_eq_true rfl) dX7_feel_187 (fun H locs hP hD hS => ?_)
  have hP : va_P (dC, dI) vwCl [(rg, .inr (11, [.ref mf, .ref mm, .ref mz, .ref ma, .ref sa, .int 0])), (mf, .inr (8, [.int 0, .int 0, .int 0])), (mm, .inr (8, [.int 0, .int 0, .int 0])), (mz, .inr (8, [.int 0, .int 0, .int 0])), (ma, .inl (cM, 3, .inr (.inr (.inr (.inr (va_up (va_up (va_up (fun _ => none) 0 (some mf)) 1 (some mm)) 2 (some mz))))))), (sa, .inl (cS, 9, .inr (.inr (.inr (.inr (va_up (va_up (va_up (va_up (va_up (va_up (va_up (va_up (va_up (fun _ => none) 0 (some s0)) 1 (some s1)) 2 (some s2)) 3 (some s3)) 4 (some s4)) 5 (some s5)) 6 (some s6)) 7 (some s7)) 8 (some s8))))))), (s0, .inr (12, [.int 8, .int 6, .ref mf, .int 1, .int 0, .int 900, .int 0, .int 0])), (s1, .inr (12, [.int 7, .int 5, .ref mf, .int 1, .int 0, .int 900, .int 0, .int 0])), (s2, .inr (12, [.int 3, .int 3, .ref mf, .int 1, .int 0, .int 900, .int 0, .int 0])), (s3, .inr (12, [.int 10, .int 8, .ref mm, .int 1, .int 0, .int 900, .int 0, .int 0])), (s4, .inr (12, [.int 9, .int 6, .ref mm, .int 1, .int 0, .int 900, .int 0, .int 0])), (s5, .inr (12, [.int 4, .int 3, .ref mm, .int 1, .int 0, .int 900, .int 0, .int 0])), (s6, .inr (12, [.int 5, .int 4, .ref mz, .int 1, .int 0, .int 900, .int 0, .int 0])), (s7, .inr (12, [.int 4, .int 3, .ref mf, .int 0, .int 0, .int 900, .int 0, .int 0])), (s8, .inr (12, [.int 6, .int 4, .ref mz, .int 0, .int 0, .int 900, .int 0, .int 0]))] H := hP
  have hD : va_D A [(rg, .inr (11, [.ref mf, .ref mm, .ref mz, .ref ma, .ref sa, .int 0])), (mf, .inr (8, [.int 0, .int 0, .int 0])), (mm, .inr (8, [.int 0, .int 0, .int 0])), (mz, .inr (8, [.int 0, .int 0, .int 0])), (ma, .inl (cM, 3, .inr (.inr (.inr (.inr (va_up (va_up (va_up (fun _ => none) 0 (some mf)) 1 (some mm)) 2 (some mz))))))), (sa, .inl (cS, 9, .inr (.inr (.inr (.inr (va_up (va_up (va_up (va_up (va_up (va_up (va_up (va_up (va_up (fun _ => none) 0 (some s0)) 1 (some s1)) 2 (some s2)) 3 (some s3)) 4 (some s4)) 5 (some s5)) 6 (some s6)) 7 (some s7)) 8 (some s8))))))), (s0, .inr (12, [.int 8, .int 6, .ref mf, .int 1, .int 0, .int 900, .int 0, .int 0])), (s1, .inr (12, [.int 7, .int 5, .ref mf, .int 1, .int 0, .int 900, .int 0, .int 0])), (s2, .inr (12, [.int 3, .int 3, .ref mf, .int 1, .int 0, .int 900, .int 0, .int 0])), (s3, .inr (12, [.int 10, .int 8, .ref mm, .int 1, .int 0, .int 900, .int 0, .int 0])), (s4, .inr (12, [.int 9, .int 6, .ref mm, .int 1, .int 0, .int 900, .int 0, .int 0])), (s5, .inr (12, [.int 4, .int 3, .ref mm, .int 1, .int 0, .int 900, .int 0, .int 0])), (s6, .inr (12, [.int 5, .int 4, .ref mz, .int 1, .int 0, .int 900, .int 0, .int 0])), (s7, .inr (12, [.int 4, .int 3, .ref mf, .int 0, .int 0, .int 900, .int 0, .int 0])), (s8, .inr (12, [.int 6, .int 4, .ref mz, .int 0, .int 0, .int 900, .int 0, .int 0]))] := hD
  refine lv_iinc (v := 1) (lv' := [(8, .int 1), (10, .int (-12)), (9, .ref s0), (7, .int 9), (6, .ref sa), (5, .int 0), (4, .int (-12)), (3, .int 4), (0, .ref rg), (1, .int 0), (2, .int 0)]) hx hb dX7_feel_190 hl (k := 2) rfl (by decide +kernel) (by decide) rfl (fun ls hl => ?_)
  refine lv_goto (tgt := 88) hx hb dX7_feel_193 (by decide) ?_
  refine lv_iload hx hb dX7_feel_88 (lv_at hl 0 rfl) ?_
  refine lv_iload hx hb dX7_feel_90 (lv_at hl 3 rfl) ?_
  refine lv_icmp_ge (tgt := 196) hx hb dX7_feel_92 (by decide) (fun c_ => absurd c_ (by decide +kernel)) (fun _ => ?_)
  refine lv_aload hx hb dX7_feel_95 (lv_at hl 4 rfl) ?_
  refine lv_iload hx hb dX7_feel_97 (lv_at hl 0 rfl) ?_
  refine va_aldq hx hb hK hP 5 1 rfl rfl (pk_in 1 9 (by decide) rfl) dX7_feel_99 ?_
  refine kc_v (y := .ref s1) rfl ?_
  refine lv_astore (lv' := [(9, .ref s1), (8, .int 1), (10, .int (-12)), (7, .int 9), (6, .ref sa), (5, .int 0), (4, .int (-12)), (3, .int 4), (0, .ref rg), (1, .int 0), (2, .int 0)]) hx hb dX7_feel_100 hl (by decide) rfl (fun ls hl => ?_)
  refine lv_aload hx hb dX7_feel_102 (lv_at hl 0 rfl) ?_
  refine va_getN (D := (dC, dI)) (ci := 12) (v := .int 1) (C := RX8) (T := TX8) (N := 8) hx hb hts hiX8 hown hK hP 7 rfl rfl 3 (by decide) (va_Nw.use rfl (hM.1 _ (List.mem_of_getElem? (i := 9) rfl))) (fun _ h9 => h9) rfl dX7_feel_104 ?_
  refine lv_if_eq (tgt := 128) hx hb dX7_feel_107 (by decide) (fun c_ => absurd c_ (by decide +kernel)) (fun _ => ?_)
  refine lv_iload hx hb dX7_feel_110 (lv_at hl 6 rfl) ?_
  refine lv_aload hx hb dX7_feel_112 (lv_at hl 0 rfl) ?_
  refine va_getN (D := (dC, dI)) (ci := 12) (v := .ref mf) (C := RX8) (T := TX8) (N := 8) hx hb hts hiX8 hown hK hP 7 rfl rfl 2 (by decide) (va_Nw.use rfl (hM.1 _ (List.mem_of_getElem? (i := 8) rfl))) (fun _ h9 => h9) rfl dX7_feel_114 ?_
  refine va_getN (D := (dC, dI)) (ci := 8) (v := .int 0) (C := RX4) (T := TX4) (N := 3) hx hb hts hiX4 hown hK hP 1 rfl rfl 0 (by decide) (va_Nw.use rfl (hM.1 _ (List.mem_of_getElem? (i := 0) rfl))) (fun _ h9 => h9) rfl dX7_feel_117 ?_
  refine lv_iload_n hx hb dX7_feel_120 rfl (lv_at hl 7 rfl) ?_
  refine lv_isub hx hb dX7_feel_121 ?_
  refine kc_i (y := (-4)) (by decide +kernel) ?_
  have hPc := hP.sub (ws' := []) [] rfl
  have hDc := hD.sub (ws' := []) [] (by decide) rfl
  have hKc := hK.sub (tys' := []) [] rfl
  have hFc := va_free (wc := []) hD hS hA [] rfl
  refine va_calli (va_runS (As := [.int (-12), .int (-4)]) (rest := []) ⟨hx, hb, hml, hown, hts⟩ (k_bracedPush l dC dI z zK zV  H.size) (va_cwS 2 hts gX7_feel_X7_bracedPush rfl rfl rfl (by decide +kernel) ⟨Nat.le_of_ble_eq_true rfl, Nat.le_of_ble_eq_true rfl⟩) ⟨kP_blind, kP_go hPc hKc hDc hFc hM hS⟩ rfl rfl hl.1 rfl (lv_room (Nat.le_of_ble_eq_true rfl)) dX7_feel_122 ⟨Nat.le_of_ble_eq_true rfl, Nat.le_of_ble_eq_true rfl⟩) hS (fun q _ h => hFc q h) hFc (fun r5 u t H1 locs ht hvm hw hB hz1 hk1 hS => ?_)
  obtain ⟨hP, hD, hK⟩ := kJ (wr := [(rg, .inr (11, [.ref mf, .ref mm, .ref mz, .ref ma, .ref sa, .int 0])), (mf, .inr (8, [.int 0, .int 0, .int 0])), (mm, .inr (8, [.int 0, .int 0, .int 0])), (mz, .inr (8, [.int 0, .int 0, .int 0])), (ma, .inl (cM, 3, .inr (.inr (.inr (.inr (va_up (va_up (va_up (fun _ => none) 0 (some mf)) 1 (some mm)) 2 (some mz))))))), (sa, .inl (cS, 9, .inr (.inr (.inr (.inr (va_up (va_up (va_up (va_up (va_up (va_up (va_up (va_up (va_up (fun _ => none) 0 (some s0)) 1 (some s1)) 2 (some s2)) 3 (some s3)) 4 (some s4)) 5 (some s5)) 6 (some s6)) 7 (some s7)) 8 (some s8))))))), (s0, .inr (12, [.int 8, .int 6, .ref mf, .int 1, .int 0, .int 900, .int 0, .int 0])), (s1, .inr (12, [.int 7, .int 5, .ref mf, .int 1, .int 0, .int 900, .int 0, .int 0])), (s2, .inr (12, [.int 3, .int 3, .ref mf, .int 1, .int 0, .int 900, .int 0, .int 0])), (s3, .inr (12, [.int 10, .int 8, .ref mm, .int 1, .int 0, .int 900, .int 0, .int 0])), (s4, .inr (12, [.int 9, .int 6, .ref mm, .int 1, .int 0, .int 900, .int 0, .int 0])), (s5, .inr (12, [.int 4, .int 3, .ref mm, .int 1, .int 0, .int 900, .int 0, .int 0])), (s6, .inr (12, [.int 5, .int 4, .ref mz, .int 1, .int 0, .int 900, .int 0, .int 0])), (s7, .inr (12, [.int 4, .int 3, .ref mf, .int 0, .int 0, .int 900, .int 0, .int 0])), (s8, .inr (12, [.int 6, .int 4, .ref mz, .int 0, .int 0, .int 900, .int 0, .int 0]))]) (w1 := []) (t1 := []) hP hD hK [] [0, 1, 2, 3, 4, 5, 6, 7, 8, 9, 10, 11, 12, 13, 14] rfl rfl (by decide) (by decide) hk1 hFc ht hvm hB
  generalize H1 = H at hP hS ⊢
  have hP : va_P (dC, dI) vwCl [(rg, .inr (11, [.ref mf, .ref mm, .ref mz, .ref ma, .ref sa, .int 0])), (mf, .inr (8, [.int 0, .int 0, .int 0])), (mm, .inr (8, [.int 0, .int 0, .int 0])), (mz, .inr (8, [.int 0, .int 0, .int 0])), (ma, .inl (cM, 3, .inr (.inr (.inr (.inr (va_up (va_up (va_up (fun _ => none) 0 (some mf)) 1 (some mm)) 2 (some mz))))))), (sa, .inl (cS, 9, .inr (.inr (.inr (.inr (va_up (va_up (va_up (va_up (va_up (va_up (va_up (va_up (va_up (fun _ => none) 0 (some s0)) 1 (some s1)) 2 (some s2)) 3 (some s3)) 4 (some s4)) 5 (some s5)) 6 (some s6)) 7 (some s7)) 8 (some s8))))))), (s0, .inr (12, [.int 8, .int 6, .ref mf, .int 1, .int 0, .int 900, .int 0, .int 0])), (s1, .inr (12, [.int 7, .int 5, .ref mf, .int 1, .int 0, .int 900, .int 0, .int 0])), (s2, .inr (12, [.int 3, .int 3, .ref mf, .int 1, .int 0, .int 900, .int 0, .int 0])), (s3, .inr (12, [.int 10, .int 8, .ref mm, .int 1, .int 0, .int 900, .int 0, .int 0])), (s4, .inr (12, [.int 9, .int 6, .ref mm, .int 1, .int 0, .int 900, .int 0, .int 0])), (s5, .inr (12, [.int 4, .int 3, .ref mm, .int 1, .int 0, .int 900, .int 0, .int 0])), (s6, .inr (12, [.int 5, .int 4, .ref mz, .int 1, .int 0, .int 900, .int 0, .int 0])), (s7, .inr (12, [.int 4, .int 3, .ref mf, .int 0, .int 0, .int 900, .int 0, .int 0])), (s8, .inr (12, [.int 6, .int 4, .ref mz, .int 0, .int 0, .int 900, .int 0, .int 0]))] H := hP
  have hD : va_D A [(rg, .inr (11, [.ref mf, .ref mm, .ref mz, .ref ma, .ref sa, .int 0])), (mf, .inr (8, [.int 0, .int 0, .int 0])), (mm, .inr (8, [.int 0, .int 0, .int 0])), (mz, .inr (8, [.int 0, .int 0, .int 0])), (ma, .inl (cM, 3, .inr (.inr (.inr (.inr (va_up (va_up (va_up (fun _ => none) 0 (some mf)) 1 (some mm)) 2 (some mz))))))), (sa, .inl (cS, 9, .inr (.inr (.inr (.inr (va_up (va_up (va_up (va_up (va_up (va_up (va_up (va_up (va_up (fun _ => none) 0 (some s0)) 1 (some s1)) 2 (some s2)) 3 (some s3)) 4 (some s4)) 5 (some s5)) 6 (some s6)) 7 (some s7)) 8 (some s8))))))), (s0, .inr (12, [.int 8, .int 6, .ref mf, .int 1, .int 0, .int 900, .int 0, .int 0])), (s1, .inr (12, [.int 7, .int 5, .ref mf, .int 1, .int 0, .int 900, .int 0, .int 0])), (s2, .inr (12, [.int 3, .int 3, .ref mf, .int 1, .int 0, .int 900, .int 0, .int 0])), (s3, .inr (12, [.int 10, .int 8, .ref mm, .int 1, .int 0, .int 900, .int 0, .int 0])), (s4, .inr (12, [.int 9, .int 6, .ref mm, .int 1, .int 0, .int 900, .int 0, .int 0])), (s5, .inr (12, [.int 4, .int 3, .ref mm, .int 1, .int 0, .int 900, .int 0, .int 0])), (s6, .inr (12, [.int 5, .int 4, .ref mz, .int 1, .int 0, .int 900, .int 0, .int 0])), (s7, .inr (12, [.int 4, .int 3, .ref mf, .int 0, .int 0, .int 900, .int 0, .int 0])), (s8, .inr (12, [.int 6, .int 4, .ref mz, .int 0, .int 0, .int 900, .int 0, .int 0]))] := hD
  have hK : va_K (dC, dI) vwCl [(cM, .object RX4), (cS, .object RX8)] s := hK
  obtain rfl : (-12) = r5 := hw
  refine lv_goto (tgt := 130) hx hb dX7_feel_125 (by decide) ?_
  refine lv_istore (lv' := [(10, .int (-12)), (9, .ref s1), (8, .int 1), (7, .int 9), (6, .ref sa), (5, .int 0), (4, .int (-12)), (3, .int 4), (0, .ref rg), (1, .int 0), (2, .int 0)]) hx hb dX7_feel_130 hl (by decide) rfl (fun ls hl => ?_)
  refine lv_aload hx hb dX7_feel_132 (lv_at hl 1 rfl) ?_
  refine lv_aload hx hb dX7_feel_134 (lv_at hl 1 rfl) ?_
  refine va_getN (D := (dC, dI)) (ci := 12) (v := .int 7) (C := RX8) (T := TX8) (N := 8) hx hb hts hiX8 hown hK hP 7 rfl rfl 0 (by decide) (va_Nw.use rfl (hM.1 _ (List.mem_of_getElem? (i := 6) rfl))) (fun _ h9 => h9) rfl dX7_feel_136 ?_
  refine lv_aload hx hb dX7_feel_139 (lv_at hl 1 rfl) ?_
  refine va_getN (D := (dC, dI)) (ci := 12) (v := .int 0) (C := RX8) (T := TX8) (N := 8) hx hb hts hiX8 hown hK hP 7 rfl rfl 4 (by decide) (va_Nw.use rfl (hM.1 _ (List.mem_of_getElem? (i := 10) rfl))) (fun _ h9 => h9) rfl dX7_feel_141 ?_
  refine lv_imul hx hb dX7_feel_144 ?_
  refine kc_i (y := 0) (by decide +kernel) ?_
  refine lv_iload_n hx hb dX7_feel_145 rfl (lv_at hl 10 rfl) ?_
  refine lv_imul hx hb dX7_feel_146 ?_
  refine kc_i (y := 0) (by decide +kernel) ?_
  refine lv_iload hx hb dX7_feel_147 (lv_at hl 0 rfl) ?_
  refine lv_imul hx hb dX7_feel_149 ?_
  refine kc_i (y := 0) (by decide +kernel) ?_
  refine lv_iconst (v := 2) hx hb dX7_feel_150 (by decide) ?_
  refine lv_idiv hx hb dX7_feel_151 (by decide +kernel) ?_
  refine kc_i (y := 0) (by decide +kernel) ?_
  refine va_putN (D := (dC, dI)) (ci := 12) (v := .int 0) (ty := .int) (C := RX8) (T := TX8) (N := 8) hx hb hts hiX8 tyX8 tyX8_ok nmX8 hown hK hP hD hS 7 rfl rfl 7 (by decide) (va_Nw.use rfl (hM.1 _ (List.mem_of_getElem? (i := 16) rfl))) (fun _ h9 => h9) rfl (by decide +kernel) rfl rfl (Nat.le_of_ble_eq_true rfl) dX7_feel_152 (fun H locs hP hD hS => ?_)
  have hP : va_P (dC, dI) vwCl [(rg, .inr (11, [.ref mf, .ref mm, .ref mz, .ref ma, .ref sa, .int 0])), (mf, .inr (8, [.int 0, .int 0, .int 0])), (mm, .inr (8, [.int 0, .int 0, .int 0])), (mz, .inr (8, [.int 0, .int 0, .int 0])), (ma, .inl (cM, 3, .inr (.inr (.inr (.inr (va_up (va_up (va_up (fun _ => none) 0 (some mf)) 1 (some mm)) 2 (some mz))))))), (sa, .inl (cS, 9, .inr (.inr (.inr (.inr (va_up (va_up (va_up (va_up (va_up (va_up (va_up (va_up (va_up (fun _ => none) 0 (some s0)) 1 (some s1)) 2 (some s2)) 3 (some s3)) 4 (some s4)) 5 (some s5)) 6 (some s6)) 7 (some s7)) 8 (some s8))))))), (s0, .inr (12, [.int 8, .int 6, .ref mf, .int 1, .int 0, .int 900, .int 0, .int 0])), (s1, .inr (12, [.int 7, .int 5, .ref mf, .int 1, .int 0, .int 900, .int 0, .int 0])), (s2, .inr (12, [.int 3, .int 3, .ref mf, .int 1, .int 0, .int 900, .int 0, .int 0])), (s3, .inr (12, [.int 10, .int 8, .ref mm, .int 1, .int 0, .int 900, .int 0, .int 0])), (s4, .inr (12, [.int 9, .int 6, .ref mm, .int 1, .int 0, .int 900, .int 0, .int 0])), (s5, .inr (12, [.int 4, .int 3, .ref mm, .int 1, .int 0, .int 900, .int 0, .int 0])), (s6, .inr (12, [.int 5, .int 4, .ref mz, .int 1, .int 0, .int 900, .int 0, .int 0])), (s7, .inr (12, [.int 4, .int 3, .ref mf, .int 0, .int 0, .int 900, .int 0, .int 0])), (s8, .inr (12, [.int 6, .int 4, .ref mz, .int 0, .int 0, .int 900, .int 0, .int 0]))] H := hP
  have hD : va_D A [(rg, .inr (11, [.ref mf, .ref mm, .ref mz, .ref ma, .ref sa, .int 0])), (mf, .inr (8, [.int 0, .int 0, .int 0])), (mm, .inr (8, [.int 0, .int 0, .int 0])), (mz, .inr (8, [.int 0, .int 0, .int 0])), (ma, .inl (cM, 3, .inr (.inr (.inr (.inr (va_up (va_up (va_up (fun _ => none) 0 (some mf)) 1 (some mm)) 2 (some mz))))))), (sa, .inl (cS, 9, .inr (.inr (.inr (.inr (va_up (va_up (va_up (va_up (va_up (va_up (va_up (va_up (va_up (fun _ => none) 0 (some s0)) 1 (some s1)) 2 (some s2)) 3 (some s3)) 4 (some s4)) 5 (some s5)) 6 (some s6)) 7 (some s7)) 8 (some s8))))))), (s0, .inr (12, [.int 8, .int 6, .ref mf, .int 1, .int 0, .int 900, .int 0, .int 0])), (s1, .inr (12, [.int 7, .int 5, .ref mf, .int 1, .int 0, .int 900, .int 0, .int 0])), (s2, .inr (12, [.int 3, .int 3, .ref mf, .int 1, .int 0, .int 900, .int 0, .int 0])), (s3, .inr (12, [.int 10, .int 8, .ref mm, .int 1, .int 0, .int 900, .int 0, .int 0])), (s4, .inr (12, [.int 9, .int 6, .ref mm, .int 1, .int 0, .int 900, .int 0, .int 0])), (s5, .inr (12, [.int 4, .int 3, .ref mm, .int 1, .int 0, .int 900, .int 0, .int 0])), (s6, .inr (12, [.int 5, .int 4, .ref mz, .int 1, .int 0, .int 900, .int 0, .int 0])), (s7, .inr (12, [.int 4, .int 3, .ref mf, .int 0, .int 0, .int 900, .int 0, .int 0])), (s8, .inr (12, [.int 6, .int 4, .ref mz, .int 0, .int 0, .int 900, .int 0, .int 0]))] := hD
  refine lv_aload_n hx hb dX7_feel_155 rfl (lv_at hl 8 rfl) ?_
  refine lv_dup hx hb dX7_feel_156 rfl ?_
  refine va_get (D := (dC, dI)) (ci := 11) (v := .int 0) (C := RX7) (T := TX7) (N := 6) hx hb hts hiX7 hown hK hP 0 rfl rfl 5 (by decide) (hts (.fieldLink RX7 37 "SquareRig$Rig" "drive" "I") (by decide +kernel)) (fun _ h9 => h9) rfl dX7_feel_157 ?_
  refine lv_aload hx hb dX7_feel_160 (lv_at hl 1 rfl) ?_
  refine va_getN (D := (dC, dI)) (ci := 12) (v := .int 0) (C := RX8) (T := TX8) (N := 8) hx hb hts hiX8 hown hK hP 7 rfl rfl 7 (by decide) (va_Nw.use rfl (hM.1 _ (List.mem_of_getElem? (i := 16) rfl))) (fun _ h9 => h9) rfl dX7_feel_162 ?_
  refine lv_iadd hx hb dX7_feel_165 ?_
  refine kc_i (y := 0) (by decide +kernel) ?_
  refine va_put (D := (dC, dI)) (ci := 11) (v := .int 0) (ty := .int) (C := RX7) (T := TX7) (N := 6) hx hb hts hiX7 tyX7 tyX7_ok nmX7 hown hK hP hD hS 0 rfl rfl 5 (by decide) (hts (.fieldLink RX7 37 "SquareRig$Rig" "drive" "I") (by decide +kernel)) (fun _ h9 => h9) rfl (by decide +kernel) rfl rfl (Nat.le_of_ble_eq_true rfl) dX7_feel_166 (fun H locs hP hD hS => ?_)
  have hP : va_P (dC, dI) vwCl [(rg, .inr (11, [.ref mf, .ref mm, .ref mz, .ref ma, .ref sa, .int 0])), (mf, .inr (8, [.int 0, .int 0, .int 0])), (mm, .inr (8, [.int 0, .int 0, .int 0])), (mz, .inr (8, [.int 0, .int 0, .int 0])), (ma, .inl (cM, 3, .inr (.inr (.inr (.inr (va_up (va_up (va_up (fun _ => none) 0 (some mf)) 1 (some mm)) 2 (some mz))))))), (sa, .inl (cS, 9, .inr (.inr (.inr (.inr (va_up (va_up (va_up (va_up (va_up (va_up (va_up (va_up (va_up (fun _ => none) 0 (some s0)) 1 (some s1)) 2 (some s2)) 3 (some s3)) 4 (some s4)) 5 (some s5)) 6 (some s6)) 7 (some s7)) 8 (some s8))))))), (s0, .inr (12, [.int 8, .int 6, .ref mf, .int 1, .int 0, .int 900, .int 0, .int 0])), (s1, .inr (12, [.int 7, .int 5, .ref mf, .int 1, .int 0, .int 900, .int 0, .int 0])), (s2, .inr (12, [.int 3, .int 3, .ref mf, .int 1, .int 0, .int 900, .int 0, .int 0])), (s3, .inr (12, [.int 10, .int 8, .ref mm, .int 1, .int 0, .int 900, .int 0, .int 0])), (s4, .inr (12, [.int 9, .int 6, .ref mm, .int 1, .int 0, .int 900, .int 0, .int 0])), (s5, .inr (12, [.int 4, .int 3, .ref mm, .int 1, .int 0, .int 900, .int 0, .int 0])), (s6, .inr (12, [.int 5, .int 4, .ref mz, .int 1, .int 0, .int 900, .int 0, .int 0])), (s7, .inr (12, [.int 4, .int 3, .ref mf, .int 0, .int 0, .int 900, .int 0, .int 0])), (s8, .inr (12, [.int 6, .int 4, .ref mz, .int 0, .int 0, .int 900, .int 0, .int 0]))] H := hP
  have hD : va_D A [(rg, .inr (11, [.ref mf, .ref mm, .ref mz, .ref ma, .ref sa, .int 0])), (mf, .inr (8, [.int 0, .int 0, .int 0])), (mm, .inr (8, [.int 0, .int 0, .int 0])), (mz, .inr (8, [.int 0, .int 0, .int 0])), (ma, .inl (cM, 3, .inr (.inr (.inr (.inr (va_up (va_up (va_up (fun _ => none) 0 (some mf)) 1 (some mm)) 2 (some mz))))))), (sa, .inl (cS, 9, .inr (.inr (.inr (.inr (va_up (va_up (va_up (va_up (va_up (va_up (va_up (va_up (va_up (fun _ => none) 0 (some s0)) 1 (some s1)) 2 (some s2)) 3 (some s3)) 4 (some s4)) 5 (some s5)) 6 (some s6)) 7 (some s7)) 8 (some s8))))))), (s0, .inr (12, [.int 8, .int 6, .ref mf, .int 1, .int 0, .int 900, .int 0, .int 0])), (s1, .inr (12, [.int 7, .int 5, .ref mf, .int 1, .int 0, .int 900, .int 0, .int 0])), (s2, .inr (12, [.int 3, .int 3, .ref mf, .int 1, .int 0, .int 900, .int 0, .int 0])), (s3, .inr (12, [.int 10, .int 8, .ref mm, .int 1, .int 0, .int 900, .int 0, .int 0])), (s4, .inr (12, [.int 9, .int 6, .ref mm, .int 1, .int 0, .int 900, .int 0, .int 0])), (s5, .inr (12, [.int 4, .int 3, .ref mm, .int 1, .int 0, .int 900, .int 0, .int 0])), (s6, .inr (12, [.int 5, .int 4, .ref mz, .int 1, .int 0, .int 900, .int 0, .int 0])), (s7, .inr (12, [.int 4, .int 3, .ref mf, .int 0, .int 0, .int 900, .int 0, .int 0])), (s8, .inr (12, [.int 6, .int 4, .ref mz, .int 0, .int 0, .int 900, .int 0, .int 0]))] := hD
  refine lv_aload hx hb dX7_feel_169 (lv_at hl 1 rfl) ?_
  refine va_getN (D := (dC, dI)) (ci := 12) (v := .ref mf) (C := RX8) (T := TX8) (N := 8) hx hb hts hiX8 hown hK hP 7 rfl rfl 2 (by decide) (va_Nw.use rfl (hM.1 _ (List.mem_of_getElem? (i := 8) rfl))) (fun _ h9 => h9) rfl dX7_feel_171 ?_
  refine lv_dup hx hb dX7_feel_174 rfl ?_
  refine va_getN (D := (dC, dI)) (ci := 8) (v := .int 0) (C := RX4) (T := TX4) (N := 3) hx hb hts hiX4 hown hK hP 1 rfl rfl 2 (by decide) (va_Nw.use rfl (hM.1 _ (List.mem_of_getElem? (i := 4) rfl))) (fun _ h9 => h9) rfl dX7_feel_175 ?_
  refine lv_aload hx hb dX7_feel_178 (lv_at hl 1 rfl) ?_
  refine va_getN (D := (dC, dI)) (ci := 12) (v := .int 0) (C := RX8) (T := TX8) (N := 8) hx hb hts hiX8 hown hK hP 7 rfl rfl 7 (by decide) (va_Nw.use rfl (hM.1 _ (List.mem_of_getElem? (i := 16) rfl))) (fun _ h9 => h9) rfl dX7_feel_180 ?_
  refine va_mabs hx hb (hml.trans hl.1.symm) hown (hts (.methodLink RX7 48 Lib.Math.abs.name) (by decide +kernel)) (hts (.static Lib.Math.abs.name) (by decide +kernel)) (hts (.initialized "java/lang/Math") (by decide +kernel)) (hts (.code Lib.Math.abs.name Lib.Math.abs.code 1 (some .int)) (by decide +kernel)) (Nat.le_of_ble_eq_true rfl) (Nat.le_of_ble_eq_true rfl) (Nat.le_of_ble_eq_true rfl) (Nat.le_of_ble_eq_true rfl) dX7_feel_183 ?_
  refine kc_i (y := 0) (by decide +kernel) ?_
  refine lv_iadd hx hb dX7_feel_186 ?_
  refine kc_i (y := 0) (by decide +kernel) ?_
  refine va_putN (D := (dC, dI)) (ci := 8) (v := .int 0) (ty := .int) (C := RX4) (T := TX4) (N := 3) hx hb hts hiX4 tyX4 tyX4_ok nmX4 hown hK hP hD hS 1 rfl rfl 2 (by decide) (va_Nw.use rfl (hM.1 _ (List.mem_of_getElem? (i := 4) rfl))) (fun _ h9 => h9) rfl (by decide +kernel) rfl rfl (Nat.le_of_ble_eq_true rfl) dX7_feel_187 (fun H locs hP hD hS => ?_)
  have hP : va_P (dC, dI) vwCl [(rg, .inr (11, [.ref mf, .ref mm, .ref mz, .ref ma, .ref sa, .int 0])), (mf, .inr (8, [.int 0, .int 0, .int 0])), (mm, .inr (8, [.int 0, .int 0, .int 0])), (mz, .inr (8, [.int 0, .int 0, .int 0])), (ma, .inl (cM, 3, .inr (.inr (.inr (.inr (va_up (va_up (va_up (fun _ => none) 0 (some mf)) 1 (some mm)) 2 (some mz))))))), (sa, .inl (cS, 9, .inr (.inr (.inr (.inr (va_up (va_up (va_up (va_up (va_up (va_up (va_up (va_up (va_up (fun _ => none) 0 (some s0)) 1 (some s1)) 2 (some s2)) 3 (some s3)) 4 (some s4)) 5 (some s5)) 6 (some s6)) 7 (some s7)) 8 (some s8))))))), (s0, .inr (12, [.int 8, .int 6, .ref mf, .int 1, .int 0, .int 900, .int 0, .int 0])), (s1, .inr (12, [.int 7, .int 5, .ref mf, .int 1, .int 0, .int 900, .int 0, .int 0])), (s2, .inr (12, [.int 3, .int 3, .ref mf, .int 1, .int 0, .int 900, .int 0, .int 0])), (s3, .inr (12, [.int 10, .int 8, .ref mm, .int 1, .int 0, .int 900, .int 0, .int 0])), (s4, .inr (12, [.int 9, .int 6, .ref mm, .int 1, .int 0, .int 900, .int 0, .int 0])), (s5, .inr (12, [.int 4, .int 3, .ref mm, .int 1, .int 0, .int 900, .int 0, .int 0])), (s6, .inr (12, [.int 5, .int 4, .ref mz, .int 1, .int 0, .int 900, .int 0, .int 0])), (s7, .inr (12, [.int 4, .int 3, .ref mf, .int 0, .int 0, .int 900, .int 0, .int 0])), (s8, .inr (12, [.int 6, .int 4, .ref mz, .int 0, .int 0, .int 900, .int 0, .int 0]))] H := hP
  have hD : va_D A [(rg, .inr (11, [.ref mf, .ref mm, .ref mz, .ref ma, .ref sa, .int 0])), (mf, .inr (8, [.int 0, .int 0, .int 0])), (mm, .inr (8, [.int 0, .int 0, .int 0])), (mz, .inr (8, [.int 0, .int 0, .int 0])), (ma, .inl (cM, 3, .inr (.inr (.inr (.inr (va_up (va_up (va_up (fun _ => none) 0 (some mf)) 1 (some mm)) 2 (some mz))))))), (sa, .inl (cS, 9, .inr (.inr (.inr (.inr (va_up (va_up (va_up (va_up (va_up (va_up (va_up (va_up (va_up (fun _ => none) 0 (some s0)) 1 (some s1)) 2 (some s2)) 3 (some s3)) 4 (some s4)) 5 (some s5)) 6 (some s6)) 7 (some s7)) 8 (some s8))))))), (s0, .inr (12, [.int 8, .int 6, .ref mf, .int 1, .int 0, .int 900, .int 0, .int 0])), (s1, .inr (12, [.int 7, .int 5, .ref mf, .int 1, .int 0, .int 900, .int 0, .int 0])), (s2, .inr (12, [.int 3, .int 3, .ref mf, .int 1, .int 0, .int 900, .int 0, .int 0])), (s3, .inr (12, [.int 10, .int 8, .ref mm, .int 1, .int 0, .int 900, .int 0, .int 0])), (s4, .inr (12, [.int 9, .int 6, .ref mm, .int 1, .int 0, .int 900, .int 0, .int 0])), (s5, .inr (12, [.int 4, .int 3, .ref mm, .int 1, .int 0, .int 900, .int 0, .int 0])), (s6, .inr (12, [.int 5, .int 4, .ref mz, .int 1, .int 0, .int 900, .int 0, .int 0])), (s7, .inr (12, [.int 4, .int 3, .ref mf, .int 0, .int 0, .int 900, .int 0, .int 0])), (s8, .inr (12, [.int 6, .int 4, .ref mz, .int 0, .int 0, .int 900, .int 0, .int 0]))] := hD
  refine lv_iinc (v := 2) (lv' := [(8, .int 2), (10, .int (-12)), (9, .ref s1), (7, .int 9), (6, .ref sa), (5, .int 0), (4, .int (-12)), (3, .int 4), (0, .ref rg), (1, .int 0), (2, .int 0)]) hx hb dX7_feel_190 hl (k := 2) rfl (by decide +kernel) (by decide) rfl (fun ls hl => ?_)
  refine lv_goto (tgt := 88) hx hb dX7_feel_193 (by decide) ?_
  refine lv_iload hx hb dX7_feel_88 (lv_at hl 0 rfl) ?_
  refine lv_iload hx hb dX7_feel_90 (lv_at hl 3 rfl) ?_
  refine lv_icmp_ge (tgt := 196) hx hb dX7_feel_92 (by decide) (fun c_ => absurd c_ (by decide +kernel)) (fun _ => ?_)
  refine lv_aload hx hb dX7_feel_95 (lv_at hl 4 rfl) ?_
  refine lv_iload hx hb dX7_feel_97 (lv_at hl 0 rfl) ?_
  refine va_aldq hx hb hK hP 5 1 rfl rfl (pk_in 2 9 (by decide) rfl) dX7_feel_99 ?_
  refine kc_v (y := .ref s2) rfl ?_
  refine lv_astore (lv' := [(9, .ref s2), (8, .int 2), (10, .int (-12)), (7, .int 9), (6, .ref sa), (5, .int 0), (4, .int (-12)), (3, .int 4), (0, .ref rg), (1, .int 0), (2, .int 0)]) hx hb dX7_feel_100 hl (by decide) rfl (fun ls hl => ?_)
  refine lv_aload hx hb dX7_feel_102 (lv_at hl 0 rfl) ?_
  refine va_getN (D := (dC, dI)) (ci := 12) (v := .int 1) (C := RX8) (T := TX8) (N := 8) hx hb hts hiX8 hown hK hP 8 rfl rfl 3 (by decide) (va_Nw.use rfl (hM.1 _ (List.mem_of_getElem? (i := 9) rfl))) (fun _ h9 => h9) rfl dX7_feel_104 ?_
  refine lv_if_eq (tgt := 128) hx hb dX7_feel_107 (by decide) (fun c_ => absurd c_ (by decide +kernel)) (fun _ => ?_)
  refine lv_iload hx hb dX7_feel_110 (lv_at hl 6 rfl) ?_
  refine lv_aload hx hb dX7_feel_112 (lv_at hl 0 rfl) ?_
  refine va_getN (D := (dC, dI)) (ci := 12) (v := .ref mf) (C := RX8) (T := TX8) (N := 8) hx hb hts hiX8 hown hK hP 8 rfl rfl 2 (by decide) (va_Nw.use rfl (hM.1 _ (List.mem_of_getElem? (i := 8) rfl))) (fun _ h9 => h9) rfl dX7_feel_114 ?_
  refine va_getN (D := (dC, dI)) (ci := 8) (v := .int 0) (C := RX4) (T := TX4) (N := 3) hx hb hts hiX4 hown hK hP 1 rfl rfl 0 (by decide) (va_Nw.use rfl (hM.1 _ (List.mem_of_getElem? (i := 0) rfl))) (fun _ h9 => h9) rfl dX7_feel_117 ?_
  refine lv_iload_n hx hb dX7_feel_120 rfl (lv_at hl 7 rfl) ?_
  refine lv_isub hx hb dX7_feel_121 ?_
  refine kc_i (y := (-4)) (by decide +kernel) ?_
  have hPc := hP.sub (ws' := []) [] rfl
  have hDc := hD.sub (ws' := []) [] (by decide) rfl
  have hKc := hK.sub (tys' := []) [] rfl
  have hFc := va_free (wc := []) hD hS hA [] rfl
  refine va_calli (va_runS (As := [.int (-12), .int (-4)]) (rest := []) ⟨hx, hb, hml, hown, hts⟩ (k_bracedPush l dC dI z zK zV  H.size) (va_cwS 2 hts gX7_feel_X7_bracedPush rfl rfl rfl (by decide +kernel) ⟨Nat.le_of_ble_eq_true rfl, Nat.le_of_ble_eq_true rfl⟩) ⟨kP_blind, kP_go hPc hKc hDc hFc hM hS⟩ rfl rfl hl.1 rfl (lv_room (Nat.le_of_ble_eq_true rfl)) dX7_feel_122 ⟨Nat.le_of_ble_eq_true rfl, Nat.le_of_ble_eq_true rfl⟩) hS (fun q _ h => hFc q h) hFc (fun r6 u t H1 locs ht hvm hw hB hz1 hk1 hS => ?_)
  obtain ⟨hP, hD, hK⟩ := kJ (wr := [(rg, .inr (11, [.ref mf, .ref mm, .ref mz, .ref ma, .ref sa, .int 0])), (mf, .inr (8, [.int 0, .int 0, .int 0])), (mm, .inr (8, [.int 0, .int 0, .int 0])), (mz, .inr (8, [.int 0, .int 0, .int 0])), (ma, .inl (cM, 3, .inr (.inr (.inr (.inr (va_up (va_up (va_up (fun _ => none) 0 (some mf)) 1 (some mm)) 2 (some mz))))))), (sa, .inl (cS, 9, .inr (.inr (.inr (.inr (va_up (va_up (va_up (va_up (va_up (va_up (va_up (va_up (va_up (fun _ => none) 0 (some s0)) 1 (some s1)) 2 (some s2)) 3 (some s3)) 4 (some s4)) 5 (some s5)) 6 (some s6)) 7 (some s7)) 8 (some s8))))))), (s0, .inr (12, [.int 8, .int 6, .ref mf, .int 1, .int 0, .int 900, .int 0, .int 0])), (s1, .inr (12, [.int 7, .int 5, .ref mf, .int 1, .int 0, .int 900, .int 0, .int 0])), (s2, .inr (12, [.int 3, .int 3, .ref mf, .int 1, .int 0, .int 900, .int 0, .int 0])), (s3, .inr (12, [.int 10, .int 8, .ref mm, .int 1, .int 0, .int 900, .int 0, .int 0])), (s4, .inr (12, [.int 9, .int 6, .ref mm, .int 1, .int 0, .int 900, .int 0, .int 0])), (s5, .inr (12, [.int 4, .int 3, .ref mm, .int 1, .int 0, .int 900, .int 0, .int 0])), (s6, .inr (12, [.int 5, .int 4, .ref mz, .int 1, .int 0, .int 900, .int 0, .int 0])), (s7, .inr (12, [.int 4, .int 3, .ref mf, .int 0, .int 0, .int 900, .int 0, .int 0])), (s8, .inr (12, [.int 6, .int 4, .ref mz, .int 0, .int 0, .int 900, .int 0, .int 0]))]) (w1 := []) (t1 := []) hP hD hK [] [0, 1, 2, 3, 4, 5, 6, 7, 8, 9, 10, 11, 12, 13, 14] rfl rfl (by decide) (by decide) hk1 hFc ht hvm hB
  generalize H1 = H at hP hS ⊢
  have hP : va_P (dC, dI) vwCl [(rg, .inr (11, [.ref mf, .ref mm, .ref mz, .ref ma, .ref sa, .int 0])), (mf, .inr (8, [.int 0, .int 0, .int 0])), (mm, .inr (8, [.int 0, .int 0, .int 0])), (mz, .inr (8, [.int 0, .int 0, .int 0])), (ma, .inl (cM, 3, .inr (.inr (.inr (.inr (va_up (va_up (va_up (fun _ => none) 0 (some mf)) 1 (some mm)) 2 (some mz))))))), (sa, .inl (cS, 9, .inr (.inr (.inr (.inr (va_up (va_up (va_up (va_up (va_up (va_up (va_up (va_up (va_up (fun _ => none) 0 (some s0)) 1 (some s1)) 2 (some s2)) 3 (some s3)) 4 (some s4)) 5 (some s5)) 6 (some s6)) 7 (some s7)) 8 (some s8))))))), (s0, .inr (12, [.int 8, .int 6, .ref mf, .int 1, .int 0, .int 900, .int 0, .int 0])), (s1, .inr (12, [.int 7, .int 5, .ref mf, .int 1, .int 0, .int 900, .int 0, .int 0])), (s2, .inr (12, [.int 3, .int 3, .ref mf, .int 1, .int 0, .int 900, .int 0, .int 0])), (s3, .inr (12, [.int 10, .int 8, .ref mm, .int 1, .int 0, .int 900, .int 0, .int 0])), (s4, .inr (12, [.int 9, .int 6, .ref mm, .int 1, .int 0, .int 900, .int 0, .int 0])), (s5, .inr (12, [.int 4, .int 3, .ref mm, .int 1, .int 0, .int 900, .int 0, .int 0])), (s6, .inr (12, [.int 5, .int 4, .ref mz, .int 1, .int 0, .int 900, .int 0, .int 0])), (s7, .inr (12, [.int 4, .int 3, .ref mf, .int 0, .int 0, .int 900, .int 0, .int 0])), (s8, .inr (12, [.int 6, .int 4, .ref mz, .int 0, .int 0, .int 900, .int 0, .int 0]))] H := hP
  have hD : va_D A [(rg, .inr (11, [.ref mf, .ref mm, .ref mz, .ref ma, .ref sa, .int 0])), (mf, .inr (8, [.int 0, .int 0, .int 0])), (mm, .inr (8, [.int 0, .int 0, .int 0])), (mz, .inr (8, [.int 0, .int 0, .int 0])), (ma, .inl (cM, 3, .inr (.inr (.inr (.inr (va_up (va_up (va_up (fun _ => none) 0 (some mf)) 1 (some mm)) 2 (some mz))))))), (sa, .inl (cS, 9, .inr (.inr (.inr (.inr (va_up (va_up (va_up (va_up (va_up (va_up (va_up (va_up (va_up (fun _ => none) 0 (some s0)) 1 (some s1)) 2 (some s2)) 3 (some s3)) 4 (some s4)) 5 (some s5)) 6 (some s6)) 7 (some s7)) 8 (some s8))))))), (s0, .inr (12, [.int 8, .int 6, .ref mf, .int 1, .int 0, .int 900, .int 0, .int 0])), (s1, .inr (12, [.int 7, .int 5, .ref mf, .int 1, .int 0, .int 900, .int 0, .int 0])), (s2, .inr (12, [.int 3, .int 3, .ref mf, .int 1, .int 0, .int 900, .int 0, .int 0])), (s3, .inr (12, [.int 10, .int 8, .ref mm, .int 1, .int 0, .int 900, .int 0, .int 0])), (s4, .inr (12, [.int 9, .int 6, .ref mm, .int 1, .int 0, .int 900, .int 0, .int 0])), (s5, .inr (12, [.int 4, .int 3, .ref mm, .int 1, .int 0, .int 900, .int 0, .int 0])), (s6, .inr (12, [.int 5, .int 4, .ref mz, .int 1, .int 0, .int 900, .int 0, .int 0])), (s7, .inr (12, [.int 4, .int 3, .ref mf, .int 0, .int 0, .int 900, .int 0, .int 0])), (s8, .inr (12, [.int 6, .int 4, .ref mz, .int 0, .int 0, .int 900, .int 0, .int 0]))] := hD
  have hK : va_K (dC, dI) vwCl [(cM, .object RX4), (cS, .object RX8)] s := hK
  obtain rfl : (-12) = r6 := hw
  refine lv_goto (tgt := 130) hx hb dX7_feel_125 (by decide) ?_
  refine lv_istore (lv' := [(10, .int (-12)), (9, .ref s2), (8, .int 2), (7, .int 9), (6, .ref sa), (5, .int 0), (4, .int (-12)), (3, .int 4), (0, .ref rg), (1, .int 0), (2, .int 0)]) hx hb dX7_feel_130 hl (by decide) rfl (fun ls hl => ?_)
  refine lv_aload hx hb dX7_feel_132 (lv_at hl 1 rfl) ?_
  refine lv_aload hx hb dX7_feel_134 (lv_at hl 1 rfl) ?_
  refine va_getN (D := (dC, dI)) (ci := 12) (v := .int 3) (C := RX8) (T := TX8) (N := 8) hx hb hts hiX8 hown hK hP 8 rfl rfl 0 (by decide) (va_Nw.use rfl (hM.1 _ (List.mem_of_getElem? (i := 6) rfl))) (fun _ h9 => h9) rfl dX7_feel_136 ?_
  refine lv_aload hx hb dX7_feel_139 (lv_at hl 1 rfl) ?_
  refine va_getN (D := (dC, dI)) (ci := 12) (v := .int 0) (C := RX8) (T := TX8) (N := 8) hx hb hts hiX8 hown hK hP 8 rfl rfl 4 (by decide) (va_Nw.use rfl (hM.1 _ (List.mem_of_getElem? (i := 10) rfl))) (fun _ h9 => h9) rfl dX7_feel_141 ?_
  refine lv_imul hx hb dX7_feel_144 ?_
  refine kc_i (y := 0) (by decide +kernel) ?_
  refine lv_iload_n hx hb dX7_feel_145 rfl (lv_at hl 10 rfl) ?_
  refine lv_imul hx hb dX7_feel_146 ?_
  refine kc_i (y := 0) (by decide +kernel) ?_
  refine lv_iload hx hb dX7_feel_147 (lv_at hl 0 rfl) ?_
  refine lv_imul hx hb dX7_feel_149 ?_
  refine kc_i (y := 0) (by decide +kernel) ?_
  refine lv_iconst (v := 2) hx hb dX7_feel_150 (by decide) ?_
  refine lv_idiv hx hb dX7_feel_151 (by decide +kernel) ?_
  refine kc_i (y := 0) (by decide +kernel) ?_
  refine va_putN (D := (dC, dI)) (ci := 12) (v := .int 0) (ty := .int) (C := RX8) (T := TX8) (N := 8) hx hb hts hiX8 tyX8 tyX8_ok nmX8 hown hK hP hD hS 8 rfl rfl 7 (by decide) (va_Nw.use rfl (hM.1 _ (List.mem_of_getElem? (i := 16) rfl))) (fun _ h9 => h9) rfl (by decide +kernel) rfl rfl (Nat.le_of_ble_eq_true rfl) dX7_feel_152 (fun H locs hP hD hS => ?_)
  have hP : va_P (dC, dI) vwCl [(rg, .inr (11, [.ref mf, .ref mm, .ref mz, .ref ma, .ref sa, .int 0])), (mf, .inr (8, [.int 0, .int 0, .int 0])), (mm, .inr (8, [.int 0, .int 0, .int 0])), (mz, .inr (8, [.int 0, .int 0, .int 0])), (ma, .inl (cM, 3, .inr (.inr (.inr (.inr (va_up (va_up (va_up (fun _ => none) 0 (some mf)) 1 (some mm)) 2 (some mz))))))), (sa, .inl (cS, 9, .inr (.inr (.inr (.inr (va_up (va_up (va_up (va_up (va_up (va_up (va_up (va_up (va_up (fun _ => none) 0 (some s0)) 1 (some s1)) 2 (some s2)) 3 (some s3)) 4 (some s4)) 5 (some s5)) 6 (some s6)) 7 (some s7)) 8 (some s8))))))), (s0, .inr (12, [.int 8, .int 6, .ref mf, .int 1, .int 0, .int 900, .int 0, .int 0])), (s1, .inr (12, [.int 7, .int 5, .ref mf, .int 1, .int 0, .int 900, .int 0, .int 0])), (s2, .inr (12, [.int 3, .int 3, .ref mf, .int 1, .int 0, .int 900, .int 0, .int 0])), (s3, .inr (12, [.int 10, .int 8, .ref mm, .int 1, .int 0, .int 900, .int 0, .int 0])), (s4, .inr (12, [.int 9, .int 6, .ref mm, .int 1, .int 0, .int 900, .int 0, .int 0])), (s5, .inr (12, [.int 4, .int 3, .ref mm, .int 1, .int 0, .int 900, .int 0, .int 0])), (s6, .inr (12, [.int 5, .int 4, .ref mz, .int 1, .int 0, .int 900, .int 0, .int 0])), (s7, .inr (12, [.int 4, .int 3, .ref mf, .int 0, .int 0, .int 900, .int 0, .int 0])), (s8, .inr (12, [.int 6, .int 4, .ref mz, .int 0, .int 0, .int 900, .int 0, .int 0]))] H := hP
  have hD : va_D A [(rg, .inr (11, [.ref mf, .ref mm, .ref mz, .ref ma, .ref sa, .int 0])), (mf, .inr (8, [.int 0, .int 0, .int 0])), (mm, .inr (8, [.int 0, .int 0, .int 0])), (mz, .inr (8, [.int 0, .int 0, .int 0])), (ma, .inl (cM, 3, .inr (.inr (.inr (.inr (va_up (va_up (va_up (fun _ => none) 0 (some mf)) 1 (some mm)) 2 (some mz))))))), (sa, .inl (cS, 9, .inr (.inr (.inr (.inr (va_up (va_up (va_up (va_up (va_up (va_up (va_up (va_up (va_up (fun _ => none) 0 (some s0)) 1 (some s1)) 2 (some s2)) 3 (some s3)) 4 (some s4)) 5 (some s5)) 6 (some s6)) 7 (some s7)) 8 (some s8))))))), (s0, .inr (12, [.int 8, .int 6, .ref mf, .int 1, .int 0, .int 900, .int 0, .int 0])), (s1, .inr (12, [.int 7, .int 5, .ref mf, .int 1, .int 0, .int 900, .int 0, .int 0])), (s2, .inr (12, [.int 3, .int 3, .ref mf, .int 1, .int 0, .int 900, .int 0, .int 0])), (s3, .inr (12, [.int 10, .int 8, .ref mm, .int 1, .int 0, .int 900, .int 0, .int 0])), (s4, .inr (12, [.int 9, .int 6, .ref mm, .int 1, .int 0, .int 900, .int 0, .int 0])), (s5, .inr (12, [.int 4, .int 3, .ref mm, .int 1, .int 0, .int 900, .int 0, .int 0])), (s6, .inr (12, [.int 5, .int 4, .ref mz, .int 1, .int 0, .int 900, .int 0, .int 0])), (s7, .inr (12, [.int 4, .int 3, .ref mf, .int 0, .int 0, .int 900, .int 0, .int 0])), (s8, .inr (12, [.int 6, .int 4, .ref mz, .int 0, .int 0, .int 900, .int 0, .int 0]))] := hD
  refine lv_aload_n hx hb dX7_feel_155 rfl (lv_at hl 8 rfl) ?_
  refine lv_dup hx hb dX7_feel_156 rfl ?_
  refine va_get (D := (dC, dI)) (ci := 11) (v := .int 0) (C := RX7) (T := TX7) (N := 6) hx hb hts hiX7 hown hK hP 0 rfl rfl 5 (by decide) (hts (.fieldLink RX7 37 "SquareRig$Rig" "drive" "I") (by decide +kernel)) (fun _ h9 => h9) rfl dX7_feel_157 ?_
  refine lv_aload hx hb dX7_feel_160 (lv_at hl 1 rfl) ?_
  refine va_getN (D := (dC, dI)) (ci := 12) (v := .int 0) (C := RX8) (T := TX8) (N := 8) hx hb hts hiX8 hown hK hP 8 rfl rfl 7 (by decide) (va_Nw.use rfl (hM.1 _ (List.mem_of_getElem? (i := 16) rfl))) (fun _ h9 => h9) rfl dX7_feel_162 ?_
  refine lv_iadd hx hb dX7_feel_165 ?_
  refine kc_i (y := 0) (by decide +kernel) ?_
  refine va_put (D := (dC, dI)) (ci := 11) (v := .int 0) (ty := .int) (C := RX7) (T := TX7) (N := 6) hx hb hts hiX7 tyX7 tyX7_ok nmX7 hown hK hP hD hS 0 rfl rfl 5 (by decide) (hts (.fieldLink RX7 37 "SquareRig$Rig" "drive" "I") (by decide +kernel)) (fun _ h9 => h9) rfl (by decide +kernel) rfl rfl (Nat.le_of_ble_eq_true rfl) dX7_feel_166 (fun H locs hP hD hS => ?_)
  have hP : va_P (dC, dI) vwCl [(rg, .inr (11, [.ref mf, .ref mm, .ref mz, .ref ma, .ref sa, .int 0])), (mf, .inr (8, [.int 0, .int 0, .int 0])), (mm, .inr (8, [.int 0, .int 0, .int 0])), (mz, .inr (8, [.int 0, .int 0, .int 0])), (ma, .inl (cM, 3, .inr (.inr (.inr (.inr (va_up (va_up (va_up (fun _ => none) 0 (some mf)) 1 (some mm)) 2 (some mz))))))), (sa, .inl (cS, 9, .inr (.inr (.inr (.inr (va_up (va_up (va_up (va_up (va_up (va_up (va_up (va_up (va_up (fun _ => none) 0 (some s0)) 1 (some s1)) 2 (some s2)) 3 (some s3)) 4 (some s4)) 5 (some s5)) 6 (some s6)) 7 (some s7)) 8 (some s8))))))), (s0, .inr (12, [.int 8, .int 6, .ref mf, .int 1, .int 0, .int 900, .int 0, .int 0])), (s1, .inr (12, [.int 7, .int 5, .ref mf, .int 1, .int 0, .int 900, .int 0, .int 0])), (s2, .inr (12, [.int 3, .int 3, .ref mf, .int 1, .int 0, .int 900, .int 0, .int 0])), (s3, .inr (12, [.int 10, .int 8, .ref mm, .int 1, .int 0, .int 900, .int 0, .int 0])), (s4, .inr (12, [.int 9, .int 6, .ref mm, .int 1, .int 0, .int 900, .int 0, .int 0])), (s5, .inr (12, [.int 4, .int 3, .ref mm, .int 1, .int 0, .int 900, .int 0, .int 0])), (s6, .inr (12, [.int 5, .int 4, .ref mz, .int 1, .int 0, .int 900, .int 0, .int 0])), (s7, .inr (12, [.int 4, .int 3, .ref mf, .int 0, .int 0, .int 900, .int 0, .int 0])), (s8, .inr (12, [.int 6, .int 4, .ref mz, .int 0, .int 0, .int 900, .int 0, .int 0]))] H := hP
  have hD : va_D A [(rg, .inr (11, [.ref mf, .ref mm, .ref mz, .ref ma, .ref sa, .int 0])), (mf, .inr (8, [.int 0, .int 0, .int 0])), (mm, .inr (8, [.int 0, .int 0, .int 0])), (mz, .inr (8, [.int 0, .int 0, .int 0])), (ma, .inl (cM, 3, .inr (.inr (.inr (.inr (va_up (va_up (va_up (fun _ => none) 0 (some mf)) 1 (some mm)) 2 (some mz))))))), (sa, .inl (cS, 9, .inr (.inr (.inr (.inr (va_up (va_up (va_up (va_up (va_up (va_up (va_up (va_up (va_up (fun _ => none) 0 (some s0)) 1 (some s1)) 2 (some s2)) 3 (some s3)) 4 (some s4)) 5 (some s5)) 6 (some s6)) 7 (some s7)) 8 (some s8))))))), (s0, .inr (12, [.int 8, .int 6, .ref mf, .int 1, .int 0, .int 900, .int 0, .int 0])), (s1, .inr (12, [.int 7, .int 5, .ref mf, .int 1, .int 0, .int 900, .int 0, .int 0])), (s2, .inr (12, [.int 3, .int 3, .ref mf, .int 1, .int 0, .int 900, .int 0, .int 0])), (s3, .inr (12, [.int 10, .int 8, .ref mm, .int 1, .int 0, .int 900, .int 0, .int 0])), (s4, .inr (12, [.int 9, .int 6, .ref mm, .int 1, .int 0, .int 900, .int 0, .int 0])), (s5, .inr (12, [.int 4, .int 3, .ref mm, .int 1, .int 0, .int 900, .int 0, .int 0])), (s6, .inr (12, [.int 5, .int 4, .ref mz, .int 1, .int 0, .int 900, .int 0, .int 0])), (s7, .inr (12, [.int 4, .int 3, .ref mf, .int 0, .int 0, .int 900, .int 0, .int 0])), (s8, .inr (12, [.int 6, .int 4, .ref mz, .int 0, .int 0, .int 900, .int 0, .int 0]))] := hD
  refine lv_aload hx hb dX7_feel_169 (lv_at hl 1 rfl) ?_
  refine va_getN (D := (dC, dI)) (ci := 12) (v := .ref mf) (C := RX8) (T := TX8) (N := 8) hx hb hts hiX8 hown hK hP 8 rfl rfl 2 (by decide) (va_Nw.use rfl (hM.1 _ (List.mem_of_getElem? (i := 8) rfl))) (fun _ h9 => h9) rfl dX7_feel_171 ?_
  refine lv_dup hx hb dX7_feel_174 rfl ?_
  refine va_getN (D := (dC, dI)) (ci := 8) (v := .int 0) (C := RX4) (T := TX4) (N := 3) hx hb hts hiX4 hown hK hP 1 rfl rfl 2 (by decide) (va_Nw.use rfl (hM.1 _ (List.mem_of_getElem? (i := 4) rfl))) (fun _ h9 => h9) rfl dX7_feel_175 ?_
  refine lv_aload hx hb dX7_feel_178 (lv_at hl 1 rfl) ?_
  refine va_getN (D := (dC, dI)) (ci := 12) (v := .int 0) (C := RX8) (T := TX8) (N := 8) hx hb hts hiX8 hown hK hP 8 rfl rfl 7 (by decide) (va_Nw.use rfl (hM.1 _ (List.mem_of_getElem? (i := 16) rfl))) (fun _ h9 => h9) rfl dX7_feel_180 ?_
  refine va_mabs hx hb (hml.trans hl.1.symm) hown (hts (.methodLink RX7 48 Lib.Math.abs.name) (by decide +kernel)) (hts (.static Lib.Math.abs.name) (by decide +kernel)) (hts (.initialized "java/lang/Math") (by decide +kernel)) (hts (.code Lib.Math.abs.name Lib.Math.abs.code 1 (some .int)) (by decide +kernel)) (Nat.le_of_ble_eq_true rfl) (Nat.le_of_ble_eq_true rfl) (Nat.le_of_ble_eq_true rfl) (Nat.le_of_ble_eq_true rfl) dX7_feel_183 ?_
  refine kc_i (y := 0) (by decide +kernel) ?_
  refine lv_iadd hx hb dX7_feel_186 ?_
  refine kc_i (y := 0) (by decide +kernel) ?_
  refine va_putN (D := (dC, dI)) (ci := 8) (v := .int 0) (ty := .int) (C := RX4) (T := TX4) (N := 3) hx hb hts hiX4 tyX4 tyX4_ok nmX4 hown hK hP hD hS 1 rfl rfl 2 (by decide) (va_Nw.use rfl (hM.1 _ (List.mem_of_getElem? (i := 4) rfl))) (fun _ h9 => h9) rfl (by decide +kernel) rfl rfl (Nat.le_of_ble_eq_true rfl) dX7_feel_187 (fun H locs hP hD hS => ?_)
  have hP : va_P (dC, dI) vwCl [(rg, .inr (11, [.ref mf, .ref mm, .ref mz, .ref ma, .ref sa, .int 0])), (mf, .inr (8, [.int 0, .int 0, .int 0])), (mm, .inr (8, [.int 0, .int 0, .int 0])), (mz, .inr (8, [.int 0, .int 0, .int 0])), (ma, .inl (cM, 3, .inr (.inr (.inr (.inr (va_up (va_up (va_up (fun _ => none) 0 (some mf)) 1 (some mm)) 2 (some mz))))))), (sa, .inl (cS, 9, .inr (.inr (.inr (.inr (va_up (va_up (va_up (va_up (va_up (va_up (va_up (va_up (va_up (fun _ => none) 0 (some s0)) 1 (some s1)) 2 (some s2)) 3 (some s3)) 4 (some s4)) 5 (some s5)) 6 (some s6)) 7 (some s7)) 8 (some s8))))))), (s0, .inr (12, [.int 8, .int 6, .ref mf, .int 1, .int 0, .int 900, .int 0, .int 0])), (s1, .inr (12, [.int 7, .int 5, .ref mf, .int 1, .int 0, .int 900, .int 0, .int 0])), (s2, .inr (12, [.int 3, .int 3, .ref mf, .int 1, .int 0, .int 900, .int 0, .int 0])), (s3, .inr (12, [.int 10, .int 8, .ref mm, .int 1, .int 0, .int 900, .int 0, .int 0])), (s4, .inr (12, [.int 9, .int 6, .ref mm, .int 1, .int 0, .int 900, .int 0, .int 0])), (s5, .inr (12, [.int 4, .int 3, .ref mm, .int 1, .int 0, .int 900, .int 0, .int 0])), (s6, .inr (12, [.int 5, .int 4, .ref mz, .int 1, .int 0, .int 900, .int 0, .int 0])), (s7, .inr (12, [.int 4, .int 3, .ref mf, .int 0, .int 0, .int 900, .int 0, .int 0])), (s8, .inr (12, [.int 6, .int 4, .ref mz, .int 0, .int 0, .int 900, .int 0, .int 0]))] H := hP
  have hD : va_D A [(rg, .inr (11, [.ref mf, .ref mm, .ref mz, .ref ma, .ref sa, .int 0])), (mf, .inr (8, [.int 0, .int 0, .int 0])), (mm, .inr (8, [.int 0, .int 0, .int 0])), (mz, .inr (8, [.int 0, .int 0, .int 0])), (ma, .inl (cM, 3, .inr (.inr (.inr (.inr (va_up (va_up (va_up (fun _ => none) 0 (some mf)) 1 (some mm)) 2 (some mz))))))), (sa, .inl (cS, 9, .inr (.inr (.inr (.inr (va_up (va_up (va_up (va_up (va_up (va_up (va_up (va_up (va_up (fun _ => none) 0 (some s0)) 1 (some s1)) 2 (some s2)) 3 (some s3)) 4 (some s4)) 5 (some s5)) 6 (some s6)) 7 (some s7)) 8 (some s8))))))), (s0, .inr (12, [.int 8, .int 6, .ref mf, .int 1, .int 0, .int 900, .int 0, .int 0])), (s1, .inr (12, [.int 7, .int 5, .ref mf, .int 1, .int 0, .int 900, .int 0, .int 0])), (s2, .inr (12, [.int 3, .int 3, .ref mf, .int 1, .int 0, .int 900, .int 0, .int 0])), (s3, .inr (12, [.int 10, .int 8, .ref mm, .int 1, .int 0, .int 900, .int 0, .int 0])), (s4, .inr (12, [.int 9, .int 6, .ref mm, .int 1, .int 0, .int 900, .int 0, .int 0])), (s5, .inr (12, [.int 4, .int 3, .ref mm, .int 1, .int 0, .int 900, .int 0, .int 0])), (s6, .inr (12, [.int 5, .int 4, .ref mz, .int 1, .int 0, .int 900, .int 0, .int 0])), (s7, .inr (12, [.int 4, .int 3, .ref mf, .int 0, .int 0, .int 900, .int 0, .int 0])), (s8, .inr (12, [.int 6, .int 4, .ref mz, .int 0, .int 0, .int 900, .int 0, .int 0]))] := hD
  refine lv_iinc (v := 3) (lv' := [(8, .int 3), (10, .int (-12)), (9, .ref s2), (7, .int 9), (6, .ref sa), (5, .int 0), (4, .int (-12)), (3, .int 4), (0, .ref rg), (1, .int 0), (2, .int 0)]) hx hb dX7_feel_190 hl (k := 2) rfl (by decide +kernel) (by decide) rfl (fun ls hl => ?_)
  refine lv_goto (tgt := 88) hx hb dX7_feel_193 (by decide) ?_
  refine lv_iload hx hb dX7_feel_88 (lv_at hl 0 rfl) ?_
  refine lv_iload hx hb dX7_feel_90 (lv_at hl 3 rfl) ?_
  refine lv_icmp_ge (tgt := 196) hx hb dX7_feel_92 (by decide) (fun c_ => absurd c_ (by decide +kernel)) (fun _ => ?_)
  refine lv_aload hx hb dX7_feel_95 (lv_at hl 4 rfl) ?_
  refine lv_iload hx hb dX7_feel_97 (lv_at hl 0 rfl) ?_
  refine va_aldq hx hb hK hP 5 1 rfl rfl (pk_in 3 9 (by decide) rfl) dX7_feel_99 ?_
  refine kc_v (y := .ref s3) rfl ?_
  refine lv_astore (lv' := [(9, .ref s3), (8, .int 3), (10, .int (-12)), (7, .int 9), (6, .ref sa), (5, .int 0), (4, .int (-12)), (3, .int 4), (0, .ref rg), (1, .int 0), (2, .int 0)]) hx hb dX7_feel_100 hl (by decide) rfl (fun ls hl => ?_)
  refine lv_aload hx hb dX7_feel_102 (lv_at hl 0 rfl) ?_
  refine va_getN (D := (dC, dI)) (ci := 12) (v := .int 1) (C := RX8) (T := TX8) (N := 8) hx hb hts hiX8 hown hK hP 9 rfl rfl 3 (by decide) (va_Nw.use rfl (hM.1 _ (List.mem_of_getElem? (i := 9) rfl))) (fun _ h9 => h9) rfl dX7_feel_104 ?_
  refine lv_if_eq (tgt := 128) hx hb dX7_feel_107 (by decide) (fun c_ => absurd c_ (by decide +kernel)) (fun _ => ?_)
  refine lv_iload hx hb dX7_feel_110 (lv_at hl 6 rfl) ?_
  refine lv_aload hx hb dX7_feel_112 (lv_at hl 0 rfl) ?_
  refine va_getN (D := (dC, dI)) (ci := 12) (v := .ref mm) (C := RX8) (T := TX8) (N := 8) hx hb hts hiX8 hown hK hP 9 rfl rfl 2 (by decide) (va_Nw.use rfl (hM.1 _ (List.mem_of_getElem? (i := 8) rfl))) (fun _ h9 => h9) rfl dX7_feel_114 ?_
  refine va_getN (D := (dC, dI)) (ci := 8) (v := .int 0) (C := RX4) (T := TX4) (N := 3) hx hb hts hiX4 hown hK hP 2 rfl rfl 0 (by decide) (va_Nw.use rfl (hM.1 _ (List.mem_of_getElem? (i := 0) rfl))) (fun _ h9 => h9) rfl dX7_feel_117 ?_
  refine lv_iload_n hx hb dX7_feel_120 rfl (lv_at hl 7 rfl) ?_
  refine lv_isub hx hb dX7_feel_121 ?_
  refine kc_i (y := (-4)) (by decide +kernel) ?_
  have hPc := hP.sub (ws' := []) [] rfl
  have hDc := hD.sub (ws' := []) [] (by decide) rfl
  have hKc := hK.sub (tys' := []) [] rfl
  have hFc := va_free (wc := []) hD hS hA [] rfl
  refine va_calli (va_runS (As := [.int (-12), .int (-4)]) (rest := []) ⟨hx, hb, hml, hown, hts⟩ (k_bracedPush l dC dI z zK zV  H.size) (va_cwS 2 hts gX7_feel_X7_bracedPush rfl rfl rfl (by decide +kernel) ⟨Nat.le_of_ble_eq_true rfl, Nat.le_of_ble_eq_true rfl⟩) ⟨kP_blind, kP_go hPc hKc hDc hFc hM hS⟩ rfl rfl hl.1 rfl (lv_room (Nat.le_of_ble_eq_true rfl)) dX7_feel_122 ⟨Nat.le_of_ble_eq_true rfl, Nat.le_of_ble_eq_true rfl⟩) hS (fun q _ h => hFc q h) hFc (fun r7 u t H1 locs ht hvm hw hB hz1 hk1 hS => ?_)
  obtain ⟨hP, hD, hK⟩ := kJ (wr := [(rg, .inr (11, [.ref mf, .ref mm, .ref mz, .ref ma, .ref sa, .int 0])), (mf, .inr (8, [.int 0, .int 0, .int 0])), (mm, .inr (8, [.int 0, .int 0, .int 0])), (mz, .inr (8, [.int 0, .int 0, .int 0])), (ma, .inl (cM, 3, .inr (.inr (.inr (.inr (va_up (va_up (va_up (fun _ => none) 0 (some mf)) 1 (some mm)) 2 (some mz))))))), (sa, .inl (cS, 9, .inr (.inr (.inr (.inr (va_up (va_up (va_up (va_up (va_up (va_up (va_up (va_up (va_up (fun _ => none) 0 (some s0)) 1 (some s1)) 2 (some s2)) 3 (some s3)) 4 (some s4)) 5 (some s5)) 6 (some s6)) 7 (some s7)) 8 (some s8))))))), (s0, .inr (12, [.int 8, .int 6, .ref mf, .int 1, .int 0, .int 900, .int 0, .int 0])), (s1, .inr (12, [.int 7, .int 5, .ref mf, .int 1, .int 0, .int 900, .int 0, .int 0])), (s2, .inr (12, [.int 3, .int 3, .ref mf, .int 1, .int 0, .int 900, .int 0, .int 0])), (s3, .inr (12, [.int 10, .int 8, .ref mm, .int 1, .int 0, .int 900, .int 0, .int 0])), (s4, .inr (12, [.int 9, .int 6, .ref mm, .int 1, .int 0, .int 900, .int 0, .int 0])), (s5, .inr (12, [.int 4, .int 3, .ref mm, .int 1, .int 0, .int 900, .int 0, .int 0])), (s6, .inr (12, [.int 5, .int 4, .ref mz, .int 1, .int 0, .int 900, .int 0, .int 0])), (s7, .inr (12, [.int 4, .int 3, .ref mf, .int 0, .int 0, .int 900, .int 0, .int 0])), (s8, .inr (12, [.int 6, .int 4, .ref mz, .int 0, .int 0, .int 900, .int 0, .int 0]))]) (w1 := []) (t1 := []) hP hD hK [] [0, 1, 2, 3, 4, 5, 6, 7, 8, 9, 10, 11, 12, 13, 14] rfl rfl (by decide) (by decide) hk1 hFc ht hvm hB
  generalize H1 = H at hP hS ⊢
  have hP : va_P (dC, dI) vwCl [(rg, .inr (11, [.ref mf, .ref mm, .ref mz, .ref ma, .ref sa, .int 0])), (mf, .inr (8, [.int 0, .int 0, .int 0])), (mm, .inr (8, [.int 0, .int 0, .int 0])), (mz, .inr (8, [.int 0, .int 0, .int 0])), (ma, .inl (cM, 3, .inr (.inr (.inr (.inr (va_up (va_up (va_up (fun _ => none) 0 (some mf)) 1 (some mm)) 2 (some mz))))))), (sa, .inl (cS, 9, .inr (.inr (.inr (.inr (va_up (va_up (va_up (va_up (va_up (va_up (va_up (va_up (va_up (fun _ => none) 0 (some s0)) 1 (some s1)) 2 (some s2)) 3 (some s3)) 4 (some s4)) 5 (some s5)) 6 (some s6)) 7 (some s7)) 8 (some s8))))))), (s0, .inr (12, [.int 8, .int 6, .ref mf, .int 1, .int 0, .int 900, .int 0, .int 0])), (s1, .inr (12, [.int 7, .int 5, .ref mf, .int 1, .int 0, .int 900, .int 0, .int 0])), (s2, .inr (12, [.int 3, .int 3, .ref mf, .int 1, .int 0, .int 900, .int 0, .int 0])), (s3, .inr (12, [.int 10, .int 8, .ref mm, .int 1, .int 0, .int 900, .int 0, .int 0])), (s4, .inr (12, [.int 9, .int 6, .ref mm, .int 1, .int 0, .int 900, .int 0, .int 0])), (s5, .inr (12, [.int 4, .int 3, .ref mm, .int 1, .int 0, .int 900, .int 0, .int 0])), (s6, .inr (12, [.int 5, .int 4, .ref mz, .int 1, .int 0, .int 900, .int 0, .int 0])), (s7, .inr (12, [.int 4, .int 3, .ref mf, .int 0, .int 0, .int 900, .int 0, .int 0])), (s8, .inr (12, [.int 6, .int 4, .ref mz, .int 0, .int 0, .int 900, .int 0, .int 0]))] H := hP
  have hD : va_D A [(rg, .inr (11, [.ref mf, .ref mm, .ref mz, .ref ma, .ref sa, .int 0])), (mf, .inr (8, [.int 0, .int 0, .int 0])), (mm, .inr (8, [.int 0, .int 0, .int 0])), (mz, .inr (8, [.int 0, .int 0, .int 0])), (ma, .inl (cM, 3, .inr (.inr (.inr (.inr (va_up (va_up (va_up (fun _ => none) 0 (some mf)) 1 (some mm)) 2 (some mz))))))), (sa, .inl (cS, 9, .inr (.inr (.inr (.inr (va_up (va_up (va_up (va_up (va_up (va_up (va_up (va_up (va_up (fun _ => none) 0 (some s0)) 1 (some s1)) 2 (some s2)) 3 (some s3)) 4 (some s4)) 5 (some s5)) 6 (some s6)) 7 (some s7)) 8 (some s8))))))), (s0, .inr (12, [.int 8, .int 6, .ref mf, .int 1, .int 0, .int 900, .int 0, .int 0])), (s1, .inr (12, [.int 7, .int 5, .ref mf, .int 1, .int 0, .int 900, .int 0, .int 0])), (s2, .inr (12, [.int 3, .int 3, .ref mf, .int 1, .int 0, .int 900, .int 0, .int 0])), (s3, .inr (12, [.int 10, .int 8, .ref mm, .int 1, .int 0, .int 900, .int 0, .int 0])), (s4, .inr (12, [.int 9, .int 6, .ref mm, .int 1, .int 0, .int 900, .int 0, .int 0])), (s5, .inr (12, [.int 4, .int 3, .ref mm, .int 1, .int 0, .int 900, .int 0, .int 0])), (s6, .inr (12, [.int 5, .int 4, .ref mz, .int 1, .int 0, .int 900, .int 0, .int 0])), (s7, .inr (12, [.int 4, .int 3, .ref mf, .int 0, .int 0, .int 900, .int 0, .int 0])), (s8, .inr (12, [.int 6, .int 4, .ref mz, .int 0, .int 0, .int 900, .int 0, .int 0]))] := hD
  have hK : va_K (dC, dI) vwCl [(cM, .object RX4), (cS, .object RX8)] s := hK
  obtain rfl : (-12) = r7 := hw
  refine lv_goto (tgt := 130) hx hb dX7_feel_125 (by decide) ?_
  refine lv_istore (lv' := [(10, .int (-12)), (9, .ref s3), (8, .int 3), (7, .int 9), (6, .ref sa), (5, .int 0), (4, .int (-12)), (3, .int 4), (0, .ref rg), (1, .int 0), (2, .int 0)]) hx hb dX7_feel_130 hl (by decide) rfl (fun ls hl => ?_)
  refine lv_aload hx hb dX7_feel_132 (lv_at hl 1 rfl) ?_
  refine lv_aload hx hb dX7_feel_134 (lv_at hl 1 rfl) ?_
  refine va_getN (D := (dC, dI)) (ci := 12) (v := .int 10) (C := RX8) (T := TX8) (N := 8) hx hb hts hiX8 hown hK hP 9 rfl rfl 0 (by decide) (va_Nw.use rfl (hM.1 _ (List.mem_of_getElem? (i := 6) rfl))) (fun _ h9 => h9) rfl dX7_feel_136 ?_
  refine lv_aload hx hb dX7_feel_139 (lv_at hl 1 rfl) ?_
  refine va_getN (D := (dC, dI)) (ci := 12) (v := .int 0) (C := RX8) (T := TX8) (N := 8) hx hb hts hiX8 hown hK hP 9 rfl rfl 4 (by decide) (va_Nw.use rfl (hM.1 _ (List.mem_of_getElem? (i := 10) rfl))) (fun _ h9 => h9) rfl dX7_feel_141 ?_
  refine lv_imul hx hb dX7_feel_144 ?_
  refine kc_i (y := 0) (by decide +kernel) ?_
  refine lv_iload_n hx hb dX7_feel_145 rfl (lv_at hl 10 rfl) ?_
  refine lv_imul hx hb dX7_feel_146 ?_
  refine kc_i (y := 0) (by decide +kernel) ?_
  refine lv_iload hx hb dX7_feel_147 (lv_at hl 0 rfl) ?_
  refine lv_imul hx hb dX7_feel_149 ?_
  refine kc_i (y := 0) (by decide +kernel) ?_
  refine lv_iconst (v := 2) hx hb dX7_feel_150 (by decide) ?_
  refine lv_idiv hx hb dX7_feel_151 (by decide +kernel) ?_
  refine kc_i (y := 0) (by decide +kernel) ?_
  refine va_putN (D := (dC, dI)) (ci := 12) (v := .int 0) (ty := .int) (C := RX8) (T := TX8) (N := 8) hx hb hts hiX8 tyX8 tyX8_ok nmX8 hown hK hP hD hS 9 rfl rfl 7 (by decide) (va_Nw.use rfl (hM.1 _ (List.mem_of_getElem? (i := 16) rfl))) (fun _ h9 => h9) rfl (by decide +kernel) rfl rfl (Nat.le_of_ble_eq_true rfl) dX7_feel_152 (fun H locs hP hD hS => ?_)
  have hP : va_P (dC, dI) vwCl [(rg, .inr (11, [.ref mf, .ref mm, .ref mz, .ref ma, .ref sa, .int 0])), (mf, .inr (8, [.int 0, .int 0, .int 0])), (mm, .inr (8, [.int 0, .int 0, .int 0])), (mz, .inr (8, [.int 0, .int 0, .int 0])), (ma, .inl (cM, 3, .inr (.inr (.inr (.inr (va_up (va_up (va_up (fun _ => none) 0 (some mf)) 1 (some mm)) 2 (some mz))))))), (sa, .inl (cS, 9, .inr (.inr (.inr (.inr (va_up (va_up (va_up (va_up (va_up (va_up (va_up (va_up (va_up (fun _ => none) 0 (some s0)) 1 (some s1)) 2 (some s2)) 3 (some s3)) 4 (some s4)) 5 (some s5)) 6 (some s6)) 7 (some s7)) 8 (some s8))))))), (s0, .inr (12, [.int 8, .int 6, .ref mf, .int 1, .int 0, .int 900, .int 0, .int 0])), (s1, .inr (12, [.int 7, .int 5, .ref mf, .int 1, .int 0, .int 900, .int 0, .int 0])), (s2, .inr (12, [.int 3, .int 3, .ref mf, .int 1, .int 0, .int 900, .int 0, .int 0])), (s3, .inr (12, [.int 10, .int 8, .ref mm, .int 1, .int 0, .int 900, .int 0, .int 0])), (s4, .inr (12, [.int 9, .int 6, .ref mm, .int 1, .int 0, .int 900, .int 0, .int 0])), (s5, .inr (12, [.int 4, .int 3, .ref mm, .int 1, .int 0, .int 900, .int 0, .int 0])), (s6, .inr (12, [.int 5, .int 4, .ref mz, .int 1, .int 0, .int 900, .int 0, .int 0])), (s7, .inr (12, [.int 4, .int 3, .ref mf, .int 0, .int 0, .int 900, .int 0, .int 0])), (s8, .inr (12, [.int 6, .int 4, .ref mz, .int 0, .int 0, .int 900, .int 0, .int 0]))] H := hP
  have hD : va_D A [(rg, .inr (11, [.ref mf, .ref mm, .ref mz, .ref ma, .ref sa, .int 0])), (mf, .inr (8, [.int 0, .int 0, .int 0])), (mm, .inr (8, [.int 0, .int 0, .int 0])), (mz, .inr (8, [.int 0, .int 0, .int 0])), (ma, .inl (cM, 3, .inr (.inr (.inr (.inr (va_up (va_up (va_up (fun _ => none) 0 (some mf)) 1 (some mm)) 2 (some mz))))))), (sa, .inl (cS, 9, .inr (.inr (.inr (.inr (va_up (va_up (va_up (va_up (va_up (va_up (va_up (va_up (va_up (fun _ => none) 0 (some s0)) 1 (some s1)) 2 (some s2)) 3 (some s3)) 4 (some s4)) 5 (some s5)) 6 (some s6)) 7 (some s7)) 8 (some s8))))))), (s0, .inr (12, [.int 8, .int 6, .ref mf, .int 1, .int 0, .int 900, .int 0, .int 0])), (s1, .inr (12, [.int 7, .int 5, .ref mf, .int 1, .int 0, .int 900, .int 0, .int 0])), (s2, .inr (12, [.int 3, .int 3, .ref mf, .int 1, .int 0, .int 900, .int 0, .int 0])), (s3, .inr (12, [.int 10, .int 8, .ref mm, .int 1, .int 0, .int 900, .int 0, .int 0])), (s4, .inr (12, [.int 9, .int 6, .ref mm, .int 1, .int 0, .int 900, .int 0, .int 0])), (s5, .inr (12, [.int 4, .int 3, .ref mm, .int 1, .int 0, .int 900, .int 0, .int 0])), (s6, .inr (12, [.int 5, .int 4, .ref mz, .int 1, .int 0, .int 900, .int 0, .int 0])), (s7, .inr (12, [.int 4, .int 3, .ref mf, .int 0, .int 0, .int 900, .int 0, .int 0])), (s8, .inr (12, [.int 6, .int 4, .ref mz, .int 0, .int 0, .int 900, .int 0, .int 0]))] := hD
  refine lv_aload_n hx hb dX7_feel_155 rfl (lv_at hl 8 rfl) ?_
  refine lv_dup hx hb dX7_feel_156 rfl ?_
  refine va_get (D := (dC, dI)) (ci := 11) (v := .int 0) (C := RX7) (T := TX7) (N := 6) hx hb hts hiX7 hown hK hP 0 rfl rfl 5 (by decide) (hts (.fieldLink RX7 37 "SquareRig$Rig" "drive" "I") (by decide +kernel)) (fun _ h9 => h9) rfl dX7_feel_157 ?_
  refine lv_aload hx hb dX7_feel_160 (lv_at hl 1 rfl) ?_
  refine va_getN (D := (dC, dI)) (ci := 12) (v := .int 0) (C := RX8) (T := TX8) (N := 8) hx hb hts hiX8 hown hK hP 9 rfl rfl 7 (by decide) (va_Nw.use rfl (hM.1 _ (List.mem_of_getElem? (i := 16) rfl))) (fun _ h9 => h9) rfl dX7_feel_162 ?_
  refine lv_iadd hx hb dX7_feel_165 ?_
  refine kc_i (y := 0) (by decide +kernel) ?_
  refine va_put (D := (dC, dI)) (ci := 11) (v := .int 0) (ty := .int) (C := RX7) (T := TX7) (N := 6) hx hb hts hiX7 tyX7 tyX7_ok nmX7 hown hK hP hD hS 0 rfl rfl 5 (by decide) (hts (.fieldLink RX7 37 "SquareRig$Rig" "drive" "I") (by decide +kernel)) (fun _ h9 => h9) rfl (by decide +kernel) rfl rfl (Nat.le_of_ble_eq_true rfl) dX7_feel_166 (fun H locs hP hD hS => ?_)
  have hP : va_P (dC, dI) vwCl [(rg, .inr (11, [.ref mf, .ref mm, .ref mz, .ref ma, .ref sa, .int 0])), (mf, .inr (8, [.int 0, .int 0, .int 0])), (mm, .inr (8, [.int 0, .int 0, .int 0])), (mz, .inr (8, [.int 0, .int 0, .int 0])), (ma, .inl (cM, 3, .inr (.inr (.inr (.inr (va_up (va_up (va_up (fun _ => none) 0 (some mf)) 1 (some mm)) 2 (some mz))))))), (sa, .inl (cS, 9, .inr (.inr (.inr (.inr (va_up (va_up (va_up (va_up (va_up (va_up (va_up (va_up (va_up (fun _ => none) 0 (some s0)) 1 (some s1)) 2 (some s2)) 3 (some s3)) 4 (some s4)) 5 (some s5)) 6 (some s6)) 7 (some s7)) 8 (some s8))))))), (s0, .inr (12, [.int 8, .int 6, .ref mf, .int 1, .int 0, .int 900, .int 0, .int 0])), (s1, .inr (12, [.int 7, .int 5, .ref mf, .int 1, .int 0, .int 900, .int 0, .int 0])), (s2, .inr (12, [.int 3, .int 3, .ref mf, .int 1, .int 0, .int 900, .int 0, .int 0])), (s3, .inr (12, [.int 10, .int 8, .ref mm, .int 1, .int 0, .int 900, .int 0, .int 0])), (s4, .inr (12, [.int 9, .int 6, .ref mm, .int 1, .int 0, .int 900, .int 0, .int 0])), (s5, .inr (12, [.int 4, .int 3, .ref mm, .int 1, .int 0, .int 900, .int 0, .int 0])), (s6, .inr (12, [.int 5, .int 4, .ref mz, .int 1, .int 0, .int 900, .int 0, .int 0])), (s7, .inr (12, [.int 4, .int 3, .ref mf, .int 0, .int 0, .int 900, .int 0, .int 0])), (s8, .inr (12, [.int 6, .int 4, .ref mz, .int 0, .int 0, .int 900, .int 0, .int 0]))] H := hP
  have hD : va_D A [(rg, .inr (11, [.ref mf, .ref mm, .ref mz, .ref ma, .ref sa, .int 0])), (mf, .inr (8, [.int 0, .int 0, .int 0])), (mm, .inr (8, [.int 0, .int 0, .int 0])), (mz, .inr (8, [.int 0, .int 0, .int 0])), (ma, .inl (cM, 3, .inr (.inr (.inr (.inr (va_up (va_up (va_up (fun _ => none) 0 (some mf)) 1 (some mm)) 2 (some mz))))))), (sa, .inl (cS, 9, .inr (.inr (.inr (.inr (va_up (va_up (va_up (va_up (va_up (va_up (va_up (va_up (va_up (fun _ => none) 0 (some s0)) 1 (some s1)) 2 (some s2)) 3 (some s3)) 4 (some s4)) 5 (some s5)) 6 (some s6)) 7 (some s7)) 8 (some s8))))))), (s0, .inr (12, [.int 8, .int 6, .ref mf, .int 1, .int 0, .int 900, .int 0, .int 0])), (s1, .inr (12, [.int 7, .int 5, .ref mf, .int 1, .int 0, .int 900, .int 0, .int 0])), (s2, .inr (12, [.int 3, .int 3, .ref mf, .int 1, .int 0, .int 900, .int 0, .int 0])), (s3, .inr (12, [.int 10, .int 8, .ref mm, .int 1, .int 0, .int 900, .int 0, .int 0])), (s4, .inr (12, [.int 9, .int 6, .ref mm, .int 1, .int 0, .int 900, .int 0, .int 0])), (s5, .inr (12, [.int 4, .int 3, .ref mm, .int 1, .int 0, .int 900, .int 0, .int 0])), (s6, .inr (12, [.int 5, .int 4, .ref mz, .int 1, .int 0, .int 900, .int 0, .int 0])), (s7, .inr (12, [.int 4, .int 3, .ref mf, .int 0, .int 0, .int 900, .int 0, .int 0])), (s8, .inr (12, [.int 6, .int 4, .ref mz, .int 0, .int 0, .int 900, .int 0, .int 0]))] := hD
  refine lv_aload hx hb dX7_feel_169 (lv_at hl 1 rfl) ?_
  refine va_getN (D := (dC, dI)) (ci := 12) (v := .ref mm) (C := RX8) (T := TX8) (N := 8) hx hb hts hiX8 hown hK hP 9 rfl rfl 2 (by decide) (va_Nw.use rfl (hM.1 _ (List.mem_of_getElem? (i := 8) rfl))) (fun _ h9 => h9) rfl dX7_feel_171 ?_
  refine lv_dup hx hb dX7_feel_174 rfl ?_
  refine va_getN (D := (dC, dI)) (ci := 8) (v := .int 0) (C := RX4) (T := TX4) (N := 3) hx hb hts hiX4 hown hK hP 2 rfl rfl 2 (by decide) (va_Nw.use rfl (hM.1 _ (List.mem_of_getElem? (i := 4) rfl))) (fun _ h9 => h9) rfl dX7_feel_175 ?_
  refine lv_aload hx hb dX7_feel_178 (lv_at hl 1 rfl) ?_
  refine va_getN (D := (dC, dI)) (ci := 12) (v := .int 0) (C := RX8) (T := TX8) (N := 8) hx hb hts hiX8 hown hK hP 9 rfl rfl 7 (by decide) (va_Nw.use rfl (hM.1 _ (List.mem_of_getElem? (i := 16) rfl))) (fun _ h9 => h9) rfl dX7_feel_180 ?_
  refine va_mabs hx hb (hml.trans hl.1.symm) hown (hts (.methodLink RX7 48 Lib.Math.abs.name) (by decide +kernel)) (hts (.static Lib.Math.abs.name) (by decide +kernel)) (hts (.initialized "java/lang/Math") (by decide +kernel)) (hts (.code Lib.Math.abs.name Lib.Math.abs.code 1 (some .int)) (by decide +kernel)) (Nat.le_of_ble_eq_true rfl) (Nat.le_of_ble_eq_true rfl) (Nat.le_of_ble_eq_true rfl) (Nat.le_of_ble_eq_true rfl) dX7_feel_183 ?_
  refine kc_i (y := 0) (by decide +kernel) ?_
  refine lv_iadd hx hb dX7_feel_186 ?_
  refine kc_i (y := 0) (by decide +kernel) ?_
  refine va_putN (D := (dC, dI)) (ci := 8) (v := .int 0) (ty := .int) (C := RX4) (T := TX4) (N := 3) hx hb hts hiX4 tyX4 tyX4_ok nmX4 hown hK hP hD hS 2 rfl rfl 2 (by decide) (va_Nw.use rfl (hM.1 _ (List.mem_of_getElem? (i := 4) rfl))) (fun _ h9 => h9) rfl (by decide +kernel) rfl rfl (Nat.le_of_ble_eq_true rfl) dX7_feel_187 (fun H locs hP hD hS => ?_)
  have hP : va_P (dC, dI) vwCl [(rg, .inr (11, [.ref mf, .ref mm, .ref mz, .ref ma, .ref sa, .int 0])), (mf, .inr (8, [.int 0, .int 0, .int 0])), (mm, .inr (8, [.int 0, .int 0, .int 0])), (mz, .inr (8, [.int 0, .int 0, .int 0])), (ma, .inl (cM, 3, .inr (.inr (.inr (.inr (va_up (va_up (va_up (fun _ => none) 0 (some mf)) 1 (some mm)) 2 (some mz))))))), (sa, .inl (cS, 9, .inr (.inr (.inr (.inr (va_up (va_up (va_up (va_up (va_up (va_up (va_up (va_up (va_up (fun _ => none) 0 (some s0)) 1 (some s1)) 2 (some s2)) 3 (some s3)) 4 (some s4)) 5 (some s5)) 6 (some s6)) 7 (some s7)) 8 (some s8))))))), (s0, .inr (12, [.int 8, .int 6, .ref mf, .int 1, .int 0, .int 900, .int 0, .int 0])), (s1, .inr (12, [.int 7, .int 5, .ref mf, .int 1, .int 0, .int 900, .int 0, .int 0])), (s2, .inr (12, [.int 3, .int 3, .ref mf, .int 1, .int 0, .int 900, .int 0, .int 0])), (s3, .inr (12, [.int 10, .int 8, .ref mm, .int 1, .int 0, .int 900, .int 0, .int 0])), (s4, .inr (12, [.int 9, .int 6, .ref mm, .int 1, .int 0, .int 900, .int 0, .int 0])), (s5, .inr (12, [.int 4, .int 3, .ref mm, .int 1, .int 0, .int 900, .int 0, .int 0])), (s6, .inr (12, [.int 5, .int 4, .ref mz, .int 1, .int 0, .int 900, .int 0, .int 0])), (s7, .inr (12, [.int 4, .int 3, .ref mf, .int 0, .int 0, .int 900, .int 0, .int 0])), (s8, .inr (12, [.int 6, .int 4, .ref mz, .int 0, .int 0, .int 900, .int 0, .int 0]))] H := hP
  have hD : va_D A [(rg, .inr (11, [.ref mf, .ref mm, .ref mz, .ref ma, .ref sa, .int 0])), (mf, .inr (8, [.int 0, .int 0, .int 0])), (mm, .inr (8, [.int 0, .int 0, .int 0])), (mz, .inr (8, [.int 0, .int 0, .int 0])), (ma, .inl (cM, 3, .inr (.inr (.inr (.inr (va_up (va_up (va_up (fun _ => none) 0 (some mf)) 1 (some mm)) 2 (some mz))))))), (sa, .inl (cS, 9, .inr (.inr (.inr (.inr (va_up (va_up (va_up (va_up (va_up (va_up (va_up (va_up (va_up (fun _ => none) 0 (some s0)) 1 (some s1)) 2 (some s2)) 3 (some s3)) 4 (some s4)) 5 (some s5)) 6 (some s6)) 7 (some s7)) 8 (some s8))))))), (s0, .inr (12, [.int 8, .int 6, .ref mf, .int 1, .int 0, .int 900, .int 0, .int 0])), (s1, .inr (12, [.int 7, .int 5, .ref mf, .int 1, .int 0, .int 900, .int 0, .int 0])), (s2, .inr (12, [.int 3, .int 3, .ref mf, .int 1, .int 0, .int 900, .int 0, .int 0])), (s3, .inr (12, [.int 10, .int 8, .ref mm, .int 1, .int 0, .int 900, .int 0, .int 0])), (s4, .inr (12, [.int 9, .int 6, .ref mm, .int 1, .int 0, .int 900, .int 0, .int 0])), (s5, .inr (12, [.int 4, .int 3, .ref mm, .int 1, .int 0, .int 900, .int 0, .int 0])), (s6, .inr (12, [.int 5, .int 4, .ref mz, .int 1, .int 0, .int 900, .int 0, .int 0])), (s7, .inr (12, [.int 4, .int 3, .ref mf, .int 0, .int 0, .int 900, .int 0, .int 0])), (s8, .inr (12, [.int 6, .int 4, .ref mz, .int 0, .int 0, .int 900, .int 0, .int 0]))] := hD
  refine lv_iinc (v := 4) (lv' := [(8, .int 4), (10, .int (-12)), (9, .ref s3), (7, .int 9), (6, .ref sa), (5, .int 0), (4, .int (-12)), (3, .int 4), (0, .ref rg), (1, .int 0), (2, .int 0)]) hx hb dX7_feel_190 hl (k := 2) rfl (by decide +kernel) (by decide) rfl (fun ls hl => ?_)
  refine lv_goto (tgt := 88) hx hb dX7_feel_193 (by decide) ?_
  refine lv_iload hx hb dX7_feel_88 (lv_at hl 0 rfl) ?_
  refine lv_iload hx hb dX7_feel_90 (lv_at hl 3 rfl) ?_
  refine lv_icmp_ge (tgt := 196) hx hb dX7_feel_92 (by decide) (fun c_ => absurd c_ (by decide +kernel)) (fun _ => ?_)
  refine lv_aload hx hb dX7_feel_95 (lv_at hl 4 rfl) ?_
  refine lv_iload hx hb dX7_feel_97 (lv_at hl 0 rfl) ?_
  refine va_aldq hx hb hK hP 5 1 rfl rfl (pk_in 4 9 (by decide) rfl) dX7_feel_99 ?_
  refine kc_v (y := .ref s4) rfl ?_
  refine lv_astore (lv' := [(9, .ref s4), (8, .int 4), (10, .int (-12)), (7, .int 9), (6, .ref sa), (5, .int 0), (4, .int (-12)), (3, .int 4), (0, .ref rg), (1, .int 0), (2, .int 0)]) hx hb dX7_feel_100 hl (by decide) rfl (fun ls hl => ?_)
  refine lv_aload hx hb dX7_feel_102 (lv_at hl 0 rfl) ?_
  refine va_getN (D := (dC, dI)) (ci := 12) (v := .int 1) (C := RX8) (T := TX8) (N := 8) hx hb hts hiX8 hown hK hP 10 rfl rfl 3 (by decide) (va_Nw.use rfl (hM.1 _ (List.mem_of_getElem? (i := 9) rfl))) (fun _ h9 => h9) rfl dX7_feel_104 ?_
  refine lv_if_eq (tgt := 128) hx hb dX7_feel_107 (by decide) (fun c_ => absurd c_ (by decide +kernel)) (fun _ => ?_)
  refine lv_iload hx hb dX7_feel_110 (lv_at hl 6 rfl) ?_
  refine lv_aload hx hb dX7_feel_112 (lv_at hl 0 rfl) ?_
  refine va_getN (D := (dC, dI)) (ci := 12) (v := .ref mm) (C := RX8) (T := TX8) (N := 8) hx hb hts hiX8 hown hK hP 10 rfl rfl 2 (by decide) (va_Nw.use rfl (hM.1 _ (List.mem_of_getElem? (i := 8) rfl))) (fun _ h9 => h9) rfl dX7_feel_114 ?_
  refine va_getN (D := (dC, dI)) (ci := 8) (v := .int 0) (C := RX4) (T := TX4) (N := 3) hx hb hts hiX4 hown hK hP 2 rfl rfl 0 (by decide) (va_Nw.use rfl (hM.1 _ (List.mem_of_getElem? (i := 0) rfl))) (fun _ h9 => h9) rfl dX7_feel_117 ?_
  refine lv_iload_n hx hb dX7_feel_120 rfl (lv_at hl 7 rfl) ?_
  refine lv_isub hx hb dX7_feel_121 ?_
  refine kc_i (y := (-4)) (by decide +kernel) ?_
  have hPc := hP.sub (ws' := []) [] rfl
  have hDc := hD.sub (ws' := []) [] (by decide) rfl
  have hKc := hK.sub (tys' := []) [] rfl
  have hFc := va_free (wc := []) hD hS hA [] rfl
  refine va_calli (va_runS (As := [.int (-12), .int (-4)]) (rest := []) ⟨hx, hb, hml, hown, hts⟩ (k_bracedPush l dC dI z zK zV  H.size) (va_cwS 2 hts gX7_feel_X7_bracedPush rfl rfl rfl (by decide +kernel) ⟨Nat.le_of_ble_eq_true rfl, Nat.le_of_ble_eq_true rfl⟩) ⟨kP_blind, kP_go hPc hKc hDc hFc hM hS⟩ rfl rfl hl.1 rfl (lv_room (Nat.le_of_ble_eq_true rfl)) dX7_feel_122 ⟨Nat.le_of_ble_eq_true rfl, Nat.le_of_ble_eq_true rfl⟩) hS (fun q _ h => hFc q h) hFc (fun r8 u t H1 locs ht hvm hw hB hz1 hk1 hS => ?_)
  obtain ⟨hP, hD, hK⟩ := kJ (wr := [(rg, .inr (11, [.ref mf, .ref mm, .ref mz, .ref ma, .ref sa, .int 0])), (mf, .inr (8, [.int 0, .int 0, .int 0])), (mm, .inr (8, [.int 0, .int 0, .int 0])), (mz, .inr (8, [.int 0, .int 0, .int 0])), (ma, .inl (cM, 3, .inr (.inr (.inr (.inr (va_up (va_up (va_up (fun _ => none) 0 (some mf)) 1 (some mm)) 2 (some mz))))))), (sa, .inl (cS, 9, .inr (.inr (.inr (.inr (va_up (va_up (va_up (va_up (va_up (va_up (va_up (va_up (va_up (fun _ => none) 0 (some s0)) 1 (some s1)) 2 (some s2)) 3 (some s3)) 4 (some s4)) 5 (some s5)) 6 (some s6)) 7 (some s7)) 8 (some s8))))))), (s0, .inr (12, [.int 8, .int 6, .ref mf, .int 1, .int 0, .int 900, .int 0, .int 0])), (s1, .inr (12, [.int 7, .int 5, .ref mf, .int 1, .int 0, .int 900, .int 0, .int 0])), (s2, .inr (12, [.int 3, .int 3, .ref mf, .int 1, .int 0, .int 900, .int 0, .int 0])), (s3, .inr (12, [.int 10, .int 8, .ref mm, .int 1, .int 0, .int 900, .int 0, .int 0])), (s4, .inr (12, [.int 9, .int 6, .ref mm, .int 1, .int 0, .int 900, .int 0, .int 0])), (s5, .inr (12, [.int 4, .int 3, .ref mm, .int 1, .int 0, .int 900, .int 0, .int 0])), (s6, .inr (12, [.int 5, .int 4, .ref mz, .int 1, .int 0, .int 900, .int 0, .int 0])), (s7, .inr (12, [.int 4, .int 3, .ref mf, .int 0, .int 0, .int 900, .int 0, .int 0])), (s8, .inr (12, [.int 6, .int 4, .ref mz, .int 0, .int 0, .int 900, .int 0, .int 0]))]) (w1 := []) (t1 := []) hP hD hK [] [0, 1, 2, 3, 4, 5, 6, 7, 8, 9, 10, 11, 12, 13, 14] rfl rfl (by decide) (by decide) hk1 hFc ht hvm hB
  generalize H1 = H at hP hS ⊢
  have hP : va_P (dC, dI) vwCl [(rg, .inr (11, [.ref mf, .ref mm, .ref mz, .ref ma, .ref sa, .int 0])), (mf, .inr (8, [.int 0, .int 0, .int 0])), (mm, .inr (8, [.int 0, .int 0, .int 0])), (mz, .inr (8, [.int 0, .int 0, .int 0])), (ma, .inl (cM, 3, .inr (.inr (.inr (.inr (va_up (va_up (va_up (fun _ => none) 0 (some mf)) 1 (some mm)) 2 (some mz))))))), (sa, .inl (cS, 9, .inr (.inr (.inr (.inr (va_up (va_up (va_up (va_up (va_up (va_up (va_up (va_up (va_up (fun _ => none) 0 (some s0)) 1 (some s1)) 2 (some s2)) 3 (some s3)) 4 (some s4)) 5 (some s5)) 6 (some s6)) 7 (some s7)) 8 (some s8))))))), (s0, .inr (12, [.int 8, .int 6, .ref mf, .int 1, .int 0, .int 900, .int 0, .int 0])), (s1, .inr (12, [.int 7, .int 5, .ref mf, .int 1, .int 0, .int 900, .int 0, .int 0])), (s2, .inr (12, [.int 3, .int 3, .ref mf, .int 1, .int 0, .int 900, .int 0, .int 0])), (s3, .inr (12, [.int 10, .int 8, .ref mm, .int 1, .int 0, .int 900, .int 0, .int 0])), (s4, .inr (12, [.int 9, .int 6, .ref mm, .int 1, .int 0, .int 900, .int 0, .int 0])), (s5, .inr (12, [.int 4, .int 3, .ref mm, .int 1, .int 0, .int 900, .int 0, .int 0])), (s6, .inr (12, [.int 5, .int 4, .ref mz, .int 1, .int 0, .int 900, .int 0, .int 0])), (s7, .inr (12, [.int 4, .int 3, .ref mf, .int 0, .int 0, .int 900, .int 0, .int 0])), (s8, .inr (12, [.int 6, .int 4, .ref mz, .int 0, .int 0, .int 900, .int 0, .int 0]))] H := hP
  have hD : va_D A [(rg, .inr (11, [.ref mf, .ref mm, .ref mz, .ref ma, .ref sa, .int 0])), (mf, .inr (8, [.int 0, .int 0, .int 0])), (mm, .inr (8, [.int 0, .int 0, .int 0])), (mz, .inr (8, [.int 0, .int 0, .int 0])), (ma, .inl (cM, 3, .inr (.inr (.inr (.inr (va_up (va_up (va_up (fun _ => none) 0 (some mf)) 1 (some mm)) 2 (some mz))))))), (sa, .inl (cS, 9, .inr (.inr (.inr (.inr (va_up (va_up (va_up (va_up (va_up (va_up (va_up (va_up (va_up (fun _ => none) 0 (some s0)) 1 (some s1)) 2 (some s2)) 3 (some s3)) 4 (some s4)) 5 (some s5)) 6 (some s6)) 7 (some s7)) 8 (some s8))))))), (s0, .inr (12, [.int 8, .int 6, .ref mf, .int 1, .int 0, .int 900, .int 0, .int 0])), (s1, .inr (12, [.int 7, .int 5, .ref mf, .int 1, .int 0, .int 900, .int 0, .int 0])), (s2, .inr (12, [.int 3, .int 3, .ref mf, .int 1, .int 0, .int 900, .int 0, .int 0])), (s3, .inr (12, [.int 10, .int 8, .ref mm, .int 1, .int 0, .int 900, .int 0, .int 0])), (s4, .inr (12, [.int 9, .int 6, .ref mm, .int 1, .int 0, .int 900, .int 0, .int 0])), (s5, .inr (12, [.int 4, .int 3, .ref mm, .int 1, .int 0, .int 900, .int 0, .int 0])), (s6, .inr (12, [.int 5, .int 4, .ref mz, .int 1, .int 0, .int 900, .int 0, .int 0])), (s7, .inr (12, [.int 4, .int 3, .ref mf, .int 0, .int 0, .int 900, .int 0, .int 0])), (s8, .inr (12, [.int 6, .int 4, .ref mz, .int 0, .int 0, .int 900, .int 0, .int 0]))] := hD
  have hK : va_K (dC, dI) vwCl [(cM, .object RX4), (cS, .object RX8)] s := hK
  obtain rfl : (-12) = r8 := hw
  refine lv_goto (tgt := 130) hx hb dX7_feel_125 (by decide) ?_
  refine lv_istore (lv' := [(10, .int (-12)), (9, .ref s4), (8, .int 4), (7, .int 9), (6, .ref sa), (5, .int 0), (4, .int (-12)), (3, .int 4), (0, .ref rg), (1, .int 0), (2, .int 0)]) hx hb dX7_feel_130 hl (by decide) rfl (fun ls hl => ?_)
  refine lv_aload hx hb dX7_feel_132 (lv_at hl 1 rfl) ?_
  refine lv_aload hx hb dX7_feel_134 (lv_at hl 1 rfl) ?_
  refine va_getN (D := (dC, dI)) (ci := 12) (v := .int 9) (C := RX8) (T := TX8) (N := 8) hx hb hts hiX8 hown hK hP 10 rfl rfl 0 (by decide) (va_Nw.use rfl (hM.1 _ (List.mem_of_getElem? (i := 6) rfl))) (fun _ h9 => h9) rfl dX7_feel_136 ?_
  refine lv_aload hx hb dX7_feel_139 (lv_at hl 1 rfl) ?_
  refine va_getN (D := (dC, dI)) (ci := 12) (v := .int 0) (C := RX8) (T := TX8) (N := 8) hx hb hts hiX8 hown hK hP 10 rfl rfl 4 (by decide) (va_Nw.use rfl (hM.1 _ (List.mem_of_getElem? (i := 10) rfl))) (fun _ h9 => h9) rfl dX7_feel_141 ?_
  refine lv_imul hx hb dX7_feel_144 ?_
  refine kc_i (y := 0) (by decide +kernel) ?_
  refine lv_iload_n hx hb dX7_feel_145 rfl (lv_at hl 10 rfl) ?_
  refine lv_imul hx hb dX7_feel_146 ?_
  refine kc_i (y := 0) (by decide +kernel) ?_
  refine lv_iload hx hb dX7_feel_147 (lv_at hl 0 rfl) ?_
  refine lv_imul hx hb dX7_feel_149 ?_
  refine kc_i (y := 0) (by decide +kernel) ?_
  refine lv_iconst (v := 2) hx hb dX7_feel_150 (by decide) ?_
  refine lv_idiv hx hb dX7_feel_151 (by decide +kernel) ?_
  refine kc_i (y := 0) (by decide +kernel) ?_
  refine va_putN (D := (dC, dI)) (ci := 12) (v := .int 0) (ty := .int) (C := RX8) (T := TX8) (N := 8) hx hb hts hiX8 tyX8 tyX8_ok nmX8 hown hK hP hD hS 10 rfl rfl 7 (by decide) (va_Nw.use rfl (hM.1 _ (List.mem_of_getElem? (i := 16) rfl))) (fun _ h9 => h9) rfl (by decide +kernel) rfl rfl (Nat.le_of_ble_eq_true rfl) dX7_feel_152 (fun H locs hP hD hS => ?_)
  have hP : va_P (dC, dI) vwCl [(rg, .inr (11, [.ref mf, .ref mm, .ref mz, .ref ma, .ref sa, .int 0])), (mf, .inr (8, [.int 0, .int 0, .int 0])), (mm, .inr (8, [.int 0, .int 0, .int 0])), (mz, .inr (8, [.int 0, .int 0, .int 0])), (ma, .inl (cM, 3, .inr (.inr (.inr (.inr (va_up (va_up (va_up (fun _ => none) 0 (some mf)) 1 (some mm)) 2 (some mz))))))), (sa, .inl (cS, 9, .inr (.inr (.inr (.inr (va_up (va_up (va_up (va_up (va_up (va_up (va_up (va_up (va_up (fun _ => none) 0 (some s0)) 1 (some s1)) 2 (some s2)) 3 (some s3)) 4 (some s4)) 5 (some s5)) 6 (some s6)) 7 (some s7)) 8 (some s8))))))), (s0, .inr (12, [.int 8, .int 6, .ref mf, .int 1, .int 0, .int 900, .int 0, .int 0])), (s1, .inr (12, [.int 7, .int 5, .ref mf, .int 1, .int 0, .int 900, .int 0, .int 0])), (s2, .inr (12, [.int 3, .int 3, .ref mf, .int 1, .int 0, .int 900, .int 0, .int 0])), (s3, .inr (12, [.int 10, .int 8, .ref mm, .int 1, .int 0, .int 900, .int 0, .int 0])), (s4, .inr (12, [.int 9, .int 6, .ref mm, .int 1, .int 0, .int 900, .int 0, .int 0])), (s5, .inr (12, [.int 4, .int 3, .ref mm, .int 1, .int 0, .int 900, .int 0, .int 0])), (s6, .inr (12, [.int 5, .int 4, .ref mz, .int 1, .int 0, .int 900, .int 0, .int 0])), (s7, .inr (12, [.int 4, .int 3, .ref mf, .int 0, .int 0, .int 900, .int 0, .int 0])), (s8, .inr (12, [.int 6, .int 4, .ref mz, .int 0, .int 0, .int 900, .int 0, .int 0]))] H := hP
  have hD : va_D A [(rg, .inr (11, [.ref mf, .ref mm, .ref mz, .ref ma, .ref sa, .int 0])), (mf, .inr (8, [.int 0, .int 0, .int 0])), (mm, .inr (8, [.int 0, .int 0, .int 0])), (mz, .inr (8, [.int 0, .int 0, .int 0])), (ma, .inl (cM, 3, .inr (.inr (.inr (.inr (va_up (va_up (va_up (fun _ => none) 0 (some mf)) 1 (some mm)) 2 (some mz))))))), (sa, .inl (cS, 9, .inr (.inr (.inr (.inr (va_up (va_up (va_up (va_up (va_up (va_up (va_up (va_up (va_up (fun _ => none) 0 (some s0)) 1 (some s1)) 2 (some s2)) 3 (some s3)) 4 (some s4)) 5 (some s5)) 6 (some s6)) 7 (some s7)) 8 (some s8))))))), (s0, .inr (12, [.int 8, .int 6, .ref mf, .int 1, .int 0, .int 900, .int 0, .int 0])), (s1, .inr (12, [.int 7, .int 5, .ref mf, .int 1, .int 0, .int 900, .int 0, .int 0])), (s2, .inr (12, [.int 3, .int 3, .ref mf, .int 1, .int 0, .int 900, .int 0, .int 0])), (s3, .inr (12, [.int 10, .int 8, .ref mm, .int 1, .int 0, .int 900, .int 0, .int 0])), (s4, .inr (12, [.int 9, .int 6, .ref mm, .int 1, .int 0, .int 900, .int 0, .int 0])), (s5, .inr (12, [.int 4, .int 3, .ref mm, .int 1, .int 0, .int 900, .int 0, .int 0])), (s6, .inr (12, [.int 5, .int 4, .ref mz, .int 1, .int 0, .int 900, .int 0, .int 0])), (s7, .inr (12, [.int 4, .int 3, .ref mf, .int 0, .int 0, .int 900, .int 0, .int 0])), (s8, .inr (12, [.int 6, .int 4, .ref mz, .int 0, .int 0, .int 900, .int 0, .int 0]))] := hD
  refine lv_aload_n hx hb dX7_feel_155 rfl (lv_at hl 8 rfl) ?_
  refine lv_dup hx hb dX7_feel_156 rfl ?_
  refine va_get (D := (dC, dI)) (ci := 11) (v := .int 0) (C := RX7) (T := TX7) (N := 6) hx hb hts hiX7 hown hK hP 0 rfl rfl 5 (by decide) (hts (.fieldLink RX7 37 "SquareRig$Rig" "drive" "I") (by decide +kernel)) (fun _ h9 => h9) rfl dX7_feel_157 ?_
  refine lv_aload hx hb dX7_feel_160 (lv_at hl 1 rfl) ?_
  refine va_getN (D := (dC, dI)) (ci := 12) (v := .int 0) (C := RX8) (T := TX8) (N := 8) hx hb hts hiX8 hown hK hP 10 rfl rfl 7 (by decide) (va_Nw.use rfl (hM.1 _ (List.mem_of_getElem? (i := 16) rfl))) (fun _ h9 => h9) rfl dX7_feel_162 ?_
  refine lv_iadd hx hb dX7_feel_165 ?_
  refine kc_i (y := 0) (by decide +kernel) ?_
  refine va_put (D := (dC, dI)) (ci := 11) (v := .int 0) (ty := .int) (C := RX7) (T := TX7) (N := 6) hx hb hts hiX7 tyX7 tyX7_ok nmX7 hown hK hP hD hS 0 rfl rfl 5 (by decide) (hts (.fieldLink RX7 37 "SquareRig$Rig" "drive" "I") (by decide +kernel)) (fun _ h9 => h9) rfl (by decide +kernel) rfl rfl (Nat.le_of_ble_eq_true rfl) dX7_feel_166 (fun H locs hP hD hS => ?_)
  have hP : va_P (dC, dI) vwCl [(rg, .inr (11, [.ref mf, .ref mm, .ref mz, .ref ma, .ref sa, .int 0])), (mf, .inr (8, [.int 0, .int 0, .int 0])), (mm, .inr (8, [.int 0, .int 0, .int 0])), (mz, .inr (8, [.int 0, .int 0, .int 0])), (ma, .inl (cM, 3, .inr (.inr (.inr (.inr (va_up (va_up (va_up (fun _ => none) 0 (some mf)) 1 (some mm)) 2 (some mz))))))), (sa, .inl (cS, 9, .inr (.inr (.inr (.inr (va_up (va_up (va_up (va_up (va_up (va_up (va_up (va_up (va_up (fun _ => none) 0 (some s0)) 1 (some s1)) 2 (some s2)) 3 (some s3)) 4 (some s4)) 5 (some s5)) 6 (some s6)) 7 (some s7)) 8 (some s8))))))), (s0, .inr (12, [.int 8, .int 6, .ref mf, .int 1, .int 0, .int 900, .int 0, .int 0])), (s1, .inr (12, [.int 7, .int 5, .ref mf, .int 1, .int 0, .int 900, .int 0, .int 0])), (s2, .inr (12, [.int 3, .int 3, .ref mf, .int 1, .int 0, .int 900, .int 0, .int 0])), (s3, .inr (12, [.int 10, .int 8, .ref mm, .int 1, .int 0, .int 900, .int 0, .int 0])), (s4, .inr (12, [.int 9, .int 6, .ref mm, .int 1, .int 0, .int 900, .int 0, .int 0])), (s5, .inr (12, [.int 4, .int 3, .ref mm, .int 1, .int 0, .int 900, .int 0, .int 0])), (s6, .inr (12, [.int 5, .int 4, .ref mz, .int 1, .int 0, .int 900, .int 0, .int 0])), (s7, .inr (12, [.int 4, .int 3, .ref mf, .int 0, .int 0, .int 900, .int 0, .int 0])), (s8, .inr (12, [.int 6, .int 4, .ref mz, .int 0, .int 0, .int 900, .int 0, .int 0]))] H := hP
  have hD : va_D A [(rg, .inr (11, [.ref mf, .ref mm, .ref mz, .ref ma, .ref sa, .int 0])), (mf, .inr (8, [.int 0, .int 0, .int 0])), (mm, .inr (8, [.int 0, .int 0, .int 0])), (mz, .inr (8, [.int 0, .int 0, .int 0])), (ma, .inl (cM, 3, .inr (.inr (.inr (.inr (va_up (va_up (va_up (fun _ => none) 0 (some mf)) 1 (some mm)) 2 (some mz))))))), (sa, .inl (cS, 9, .inr (.inr (.inr (.inr (va_up (va_up (va_up (va_up (va_up (va_up (va_up (va_up (va_up (fun _ => none) 0 (some s0)) 1 (some s1)) 2 (some s2)) 3 (some s3)) 4 (some s4)) 5 (some s5)) 6 (some s6)) 7 (some s7)) 8 (some s8))))))), (s0, .inr (12, [.int 8, .int 6, .ref mf, .int 1, .int 0, .int 900, .int 0, .int 0])), (s1, .inr (12, [.int 7, .int 5, .ref mf, .int 1, .int 0, .int 900, .int 0, .int 0])), (s2, .inr (12, [.int 3, .int 3, .ref mf, .int 1, .int 0, .int 900, .int 0, .int 0])), (s3, .inr (12, [.int 10, .int 8, .ref mm, .int 1, .int 0, .int 900, .int 0, .int 0])), (s4, .inr (12, [.int 9, .int 6, .ref mm, .int 1, .int 0, .int 900, .int 0, .int 0])), (s5, .inr (12, [.int 4, .int 3, .ref mm, .int 1, .int 0, .int 900, .int 0, .int 0])), (s6, .inr (12, [.int 5, .int 4, .ref mz, .int 1, .int 0, .int 900, .int 0, .int 0])), (s7, .inr (12, [.int 4, .int 3, .ref mf, .int 0, .int 0, .int 900, .int 0, .int 0])), (s8, .inr (12, [.int 6, .int 4, .ref mz, .int 0, .int 0, .int 900, .int 0, .int 0]))] := hD
  refine lv_aload hx hb dX7_feel_169 (lv_at hl 1 rfl) ?_
  refine va_getN (D := (dC, dI)) (ci := 12) (v := .ref mm) (C := RX8) (T := TX8) (N := 8) hx hb hts hiX8 hown hK hP 10 rfl rfl 2 (by decide) (va_Nw.use rfl (hM.1 _ (List.mem_of_getElem? (i := 8) rfl))) (fun _ h9 => h9) rfl dX7_feel_171 ?_
  refine lv_dup hx hb dX7_feel_174 rfl ?_
  refine va_getN (D := (dC, dI)) (ci := 8) (v := .int 0) (C := RX4) (T := TX4) (N := 3) hx hb hts hiX4 hown hK hP 2 rfl rfl 2 (by decide) (va_Nw.use rfl (hM.1 _ (List.mem_of_getElem? (i := 4) rfl))) (fun _ h9 => h9) rfl dX7_feel_175 ?_
  refine lv_aload hx hb dX7_feel_178 (lv_at hl 1 rfl) ?_
  refine va_getN (D := (dC, dI)) (ci := 12) (v := .int 0) (C := RX8) (T := TX8) (N := 8) hx hb hts hiX8 hown hK hP 10 rfl rfl 7 (by decide) (va_Nw.use rfl (hM.1 _ (List.mem_of_getElem? (i := 16) rfl))) (fun _ h9 => h9) rfl dX7_feel_180 ?_
  refine va_mabs hx hb (hml.trans hl.1.symm) hown (hts (.methodLink RX7 48 Lib.Math.abs.name) (by decide +kernel)) (hts (.static Lib.Math.abs.name) (by decide +kernel)) (hts (.initialized "java/lang/Math") (by decide +kernel)) (hts (.code Lib.Math.abs.name Lib.Math.abs.code 1 (some .int)) (by decide +kernel)) (Nat.le_of_ble_eq_true rfl) (Nat.le_of_ble_eq_true rfl) (Nat.le_of_ble_eq_true rfl) (Nat.le_of_ble_eq_true rfl) dX7_feel_183 ?_
  refine kc_i (y := 0) (by decide +kernel) ?_
  refine lv_iadd hx hb dX7_feel_186 ?_
  refine kc_i (y := 0) (by decide +kernel) ?_
  refine va_putN (D := (dC, dI)) (ci := 8) (v := .int 0) (ty := .int) (C := RX4) (T := TX4) (N := 3) hx hb hts hiX4 tyX4 tyX4_ok nmX4 hown hK hP hD hS 2 rfl rfl 2 (by decide) (va_Nw.use rfl (hM.1 _ (List.mem_of_getElem? (i := 4) rfl))) (fun _ h9 => h9) rfl (by decide +kernel) rfl rfl (Nat.le_of_ble_eq_true rfl) dX7_feel_187 (fun H locs hP hD hS => ?_)
  have hP : va_P (dC, dI) vwCl [(rg, .inr (11, [.ref mf, .ref mm, .ref mz, .ref ma, .ref sa, .int 0])), (mf, .inr (8, [.int 0, .int 0, .int 0])), (mm, .inr (8, [.int 0, .int 0, .int 0])), (mz, .inr (8, [.int 0, .int 0, .int 0])), (ma, .inl (cM, 3, .inr (.inr (.inr (.inr (va_up (va_up (va_up (fun _ => none) 0 (some mf)) 1 (some mm)) 2 (some mz))))))), (sa, .inl (cS, 9, .inr (.inr (.inr (.inr (va_up (va_up (va_up (va_up (va_up (va_up (va_up (va_up (va_up (fun _ => none) 0 (some s0)) 1 (some s1)) 2 (some s2)) 3 (some s3)) 4 (some s4)) 5 (some s5)) 6 (some s6)) 7 (some s7)) 8 (some s8))))))), (s0, .inr (12, [.int 8, .int 6, .ref mf, .int 1, .int 0, .int 900, .int 0, .int 0])), (s1, .inr (12, [.int 7, .int 5, .ref mf, .int 1, .int 0, .int 900, .int 0, .int 0])), (s2, .inr (12, [.int 3, .int 3, .ref mf, .int 1, .int 0, .int 900, .int 0, .int 0])), (s3, .inr (12, [.int 10, .int 8, .ref mm, .int 1, .int 0, .int 900, .int 0, .int 0])), (s4, .inr (12, [.int 9, .int 6, .ref mm, .int 1, .int 0, .int 900, .int 0, .int 0])), (s5, .inr (12, [.int 4, .int 3, .ref mm, .int 1, .int 0, .int 900, .int 0, .int 0])), (s6, .inr (12, [.int 5, .int 4, .ref mz, .int 1, .int 0, .int 900, .int 0, .int 0])), (s7, .inr (12, [.int 4, .int 3, .ref mf, .int 0, .int 0, .int 900, .int 0, .int 0])), (s8, .inr (12, [.int 6, .int 4, .ref mz, .int 0, .int 0, .int 900, .int 0, .int 0]))] H := hP
  have hD : va_D A [(rg, .inr (11, [.ref mf, .ref mm, .ref mz, .ref ma, .ref sa, .int 0])), (mf, .inr (8, [.int 0, .int 0, .int 0])), (mm, .inr (8, [.int 0, .int 0, .int 0])), (mz, .inr (8, [.int 0, .int 0, .int 0])), (ma, .inl (cM, 3, .inr (.inr (.inr (.inr (va_up (va_up (va_up (fun _ => none) 0 (some mf)) 1 (some mm)) 2 (some mz))))))), (sa, .inl (cS, 9, .inr (.inr (.inr (.inr (va_up (va_up (va_up (va_up (va_up (va_up (va_up (va_up (va_up (fun _ => none) 0 (some s0)) 1 (some s1)) 2 (some s2)) 3 (some s3)) 4 (some s4)) 5 (some s5)) 6 (some s6)) 7 (some s7)) 8 (some s8))))))), (s0, .inr (12, [.int 8, .int 6, .ref mf, .int 1, .int 0, .int 900, .int 0, .int 0])), (s1, .inr (12, [.int 7, .int 5, .ref mf, .int 1, .int 0, .int 900, .int 0, .int 0])), (s2, .inr (12, [.int 3, .int 3, .ref mf, .int 1, .int 0, .int 900, .int 0, .int 0])), (s3, .inr (12, [.int 10, .int 8, .ref mm, .int 1, .int 0, .int 900, .int 0, .int 0])), (s4, .inr (12, [.int 9, .int 6, .ref mm, .int 1, .int 0, .int 900, .int 0, .int 0])), (s5, .inr (12, [.int 4, .int 3, .ref mm, .int 1, .int 0, .int 900, .int 0, .int 0])), (s6, .inr (12, [.int 5, .int 4, .ref mz, .int 1, .int 0, .int 900, .int 0, .int 0])), (s7, .inr (12, [.int 4, .int 3, .ref mf, .int 0, .int 0, .int 900, .int 0, .int 0])), (s8, .inr (12, [.int 6, .int 4, .ref mz, .int 0, .int 0, .int 900, .int 0, .int 0]))] := hD
  refine lv_iinc (v := 5) (lv' := [(8, .int 5), (10, .int (-12)), (9, .ref s4), (7, .int 9), (6, .ref sa), (5, .int 0), (4, .int (-12)), (3, .int 4), (0, .ref rg), (1, .int 0), (2, .int 0)]) hx hb dX7_feel_190 hl (k := 2) rfl (by decide +kernel) (by decide) rfl (fun ls hl => ?_)
  refine lv_goto (tgt := 88) hx hb dX7_feel_193 (by decide) ?_
  refine lv_iload hx hb dX7_feel_88 (lv_at hl 0 rfl) ?_
  refine lv_iload hx hb dX7_feel_90 (lv_at hl 3 rfl) ?_
  refine lv_icmp_ge (tgt := 196) hx hb dX7_feel_92 (by decide) (fun c_ => absurd c_ (by decide +kernel)) (fun _ => ?_)
  refine lv_aload hx hb dX7_feel_95 (lv_at hl 4 rfl) ?_
  refine lv_iload hx hb dX7_feel_97 (lv_at hl 0 rfl) ?_
  refine va_aldq hx hb hK hP 5 1 rfl rfl (pk_in 5 9 (by decide) rfl) dX7_feel_99 ?_
  refine kc_v (y := .ref s5) rfl ?_
  refine lv_astore (lv' := [(9, .ref s5), (8, .int 5), (10, .int (-12)), (7, .int 9), (6, .ref sa), (5, .int 0), (4, .int (-12)), (3, .int 4), (0, .ref rg), (1, .int 0), (2, .int 0)]) hx hb dX7_feel_100 hl (by decide) rfl (fun ls hl => ?_)
  refine lv_aload hx hb dX7_feel_102 (lv_at hl 0 rfl) ?_
  refine va_getN (D := (dC, dI)) (ci := 12) (v := .int 1) (C := RX8) (T := TX8) (N := 8) hx hb hts hiX8 hown hK hP 11 rfl rfl 3 (by decide) (va_Nw.use rfl (hM.1 _ (List.mem_of_getElem? (i := 9) rfl))) (fun _ h9 => h9) rfl dX7_feel_104 ?_
  refine lv_if_eq (tgt := 128) hx hb dX7_feel_107 (by decide) (fun c_ => absurd c_ (by decide +kernel)) (fun _ => ?_)
  refine lv_iload hx hb dX7_feel_110 (lv_at hl 6 rfl) ?_
  refine lv_aload hx hb dX7_feel_112 (lv_at hl 0 rfl) ?_
  refine va_getN (D := (dC, dI)) (ci := 12) (v := .ref mm) (C := RX8) (T := TX8) (N := 8) hx hb hts hiX8 hown hK hP 11 rfl rfl 2 (by decide) (va_Nw.use rfl (hM.1 _ (List.mem_of_getElem? (i := 8) rfl))) (fun _ h9 => h9) rfl dX7_feel_114 ?_
  refine va_getN (D := (dC, dI)) (ci := 8) (v := .int 0) (C := RX4) (T := TX4) (N := 3) hx hb hts hiX4 hown hK hP 2 rfl rfl 0 (by decide) (va_Nw.use rfl (hM.1 _ (List.mem_of_getElem? (i := 0) rfl))) (fun _ h9 => h9) rfl dX7_feel_117 ?_
  refine lv_iload_n hx hb dX7_feel_120 rfl (lv_at hl 7 rfl) ?_
  refine lv_isub hx hb dX7_feel_121 ?_
  refine kc_i (y := (-4)) (by decide +kernel) ?_
  have hPc := hP.sub (ws' := []) [] rfl
  have hDc := hD.sub (ws' := []) [] (by decide) rfl
  have hKc := hK.sub (tys' := []) [] rfl
  have hFc := va_free (wc := []) hD hS hA [] rfl
  refine va_calli (va_runS (As := [.int (-12), .int (-4)]) (rest := []) ⟨hx, hb, hml, hown, hts⟩ (k_bracedPush l dC dI z zK zV  H.size) (va_cwS 2 hts gX7_feel_X7_bracedPush rfl rfl rfl (by decide +kernel) ⟨Nat.le_of_ble_eq_true rfl, Nat.le_of_ble_eq_true rfl⟩) ⟨kP_blind, kP_go hPc hKc hDc hFc hM hS⟩ rfl rfl hl.1 rfl (lv_room (Nat.le_of_ble_eq_true rfl)) dX7_feel_122 ⟨Nat.le_of_ble_eq_true rfl, Nat.le_of_ble_eq_true rfl⟩) hS (fun q _ h => hFc q h) hFc (fun r9 u t H1 locs ht hvm hw hB hz1 hk1 hS => ?_)
  obtain ⟨hP, hD, hK⟩ := kJ (wr := [(rg, .inr (11, [.ref mf, .ref mm, .ref mz, .ref ma, .ref sa, .int 0])), (mf, .inr (8, [.int 0, .int 0, .int 0])), (mm, .inr (8, [.int 0, .int 0, .int 0])), (mz, .inr (8, [.int 0, .int 0, .int 0])), (ma, .inl (cM, 3, .inr (.inr (.inr (.inr (va_up (va_up (va_up (fun _ => none) 0 (some mf)) 1 (some mm)) 2 (some mz))))))), (sa, .inl (cS, 9, .inr (.inr (.inr (.inr (va_up (va_up (va_up (va_up (va_up (va_up (va_up (va_up (va_up (fun _ => none) 0 (some s0)) 1 (some s1)) 2 (some s2)) 3 (some s3)) 4 (some s4)) 5 (some s5)) 6 (some s6)) 7 (some s7)) 8 (some s8))))))), (s0, .inr (12, [.int 8, .int 6, .ref mf, .int 1, .int 0, .int 900, .int 0, .int 0])), (s1, .inr (12, [.int 7, .int 5, .ref mf, .int 1, .int 0, .int 900, .int 0, .int 0])), (s2, .inr (12, [.int 3, .int 3, .ref mf, .int 1, .int 0, .int 900, .int 0, .int 0])), (s3, .inr (12, [.int 10, .int 8, .ref mm, .int 1, .int 0, .int 900, .int 0, .int 0])), (s4, .inr (12, [.int 9, .int 6, .ref mm, .int 1, .int 0, .int 900, .int 0, .int 0])), (s5, .inr (12, [.int 4, .int 3, .ref mm, .int 1, .int 0, .int 900, .int 0, .int 0])), (s6, .inr (12, [.int 5, .int 4, .ref mz, .int 1, .int 0, .int 900, .int 0, .int 0])), (s7, .inr (12, [.int 4, .int 3, .ref mf, .int 0, .int 0, .int 900, .int 0, .int 0])), (s8, .inr (12, [.int 6, .int 4, .ref mz, .int 0, .int 0, .int 900, .int 0, .int 0]))]) (w1 := []) (t1 := []) hP hD hK [] [0, 1, 2, 3, 4, 5, 6, 7, 8, 9, 10, 11, 12, 13, 14] rfl rfl (by decide) (by decide) hk1 hFc ht hvm hB
  generalize H1 = H at hP hS ⊢
  have hP : va_P (dC, dI) vwCl [(rg, .inr (11, [.ref mf, .ref mm, .ref mz, .ref ma, .ref sa, .int 0])), (mf, .inr (8, [.int 0, .int 0, .int 0])), (mm, .inr (8, [.int 0, .int 0, .int 0])), (mz, .inr (8, [.int 0, .int 0, .int 0])), (ma, .inl (cM, 3, .inr (.inr (.inr (.inr (va_up (va_up (va_up (fun _ => none) 0 (some mf)) 1 (some mm)) 2 (some mz))))))), (sa, .inl (cS, 9, .inr (.inr (.inr (.inr (va_up (va_up (va_up (va_up (va_up (va_up (va_up (va_up (va_up (fun _ => none) 0 (some s0)) 1 (some s1)) 2 (some s2)) 3 (some s3)) 4 (some s4)) 5 (some s5)) 6 (some s6)) 7 (some s7)) 8 (some s8))))))), (s0, .inr (12, [.int 8, .int 6, .ref mf, .int 1, .int 0, .int 900, .int 0, .int 0])), (s1, .inr (12, [.int 7, .int 5, .ref mf, .int 1, .int 0, .int 900, .int 0, .int 0])), (s2, .inr (12, [.int 3, .int 3, .ref mf, .int 1, .int 0, .int 900, .int 0, .int 0])), (s3, .inr (12, [.int 10, .int 8, .ref mm, .int 1, .int 0, .int 900, .int 0, .int 0])), (s4, .inr (12, [.int 9, .int 6, .ref mm, .int 1, .int 0, .int 900, .int 0, .int 0])), (s5, .inr (12, [.int 4, .int 3, .ref mm, .int 1, .int 0, .int 900, .int 0, .int 0])), (s6, .inr (12, [.int 5, .int 4, .ref mz, .int 1, .int 0, .int 900, .int 0, .int 0])), (s7, .inr (12, [.int 4, .int 3, .ref mf, .int 0, .int 0, .int 900, .int 0, .int 0])), (s8, .inr (12, [.int 6, .int 4, .ref mz, .int 0, .int 0, .int 900, .int 0, .int 0]))] H := hP
  have hD : va_D A [(rg, .inr (11, [.ref mf, .ref mm, .ref mz, .ref ma, .ref sa, .int 0])), (mf, .inr (8, [.int 0, .int 0, .int 0])), (mm, .inr (8, [.int 0, .int 0, .int 0])), (mz, .inr (8, [.int 0, .int 0, .int 0])), (ma, .inl (cM, 3, .inr (.inr (.inr (.inr (va_up (va_up (va_up (fun _ => none) 0 (some mf)) 1 (some mm)) 2 (some mz))))))), (sa, .inl (cS, 9, .inr (.inr (.inr (.inr (va_up (va_up (va_up (va_up (va_up (va_up (va_up (va_up (va_up (fun _ => none) 0 (some s0)) 1 (some s1)) 2 (some s2)) 3 (some s3)) 4 (some s4)) 5 (some s5)) 6 (some s6)) 7 (some s7)) 8 (some s8))))))), (s0, .inr (12, [.int 8, .int 6, .ref mf, .int 1, .int 0, .int 900, .int 0, .int 0])), (s1, .inr (12, [.int 7, .int 5, .ref mf, .int 1, .int 0, .int 900, .int 0, .int 0])), (s2, .inr (12, [.int 3, .int 3, .ref mf, .int 1, .int 0, .int 900, .int 0, .int 0])), (s3, .inr (12, [.int 10, .int 8, .ref mm, .int 1, .int 0, .int 900, .int 0, .int 0])), (s4, .inr (12, [.int 9, .int 6, .ref mm, .int 1, .int 0, .int 900, .int 0, .int 0])), (s5, .inr (12, [.int 4, .int 3, .ref mm, .int 1, .int 0, .int 900, .int 0, .int 0])), (s6, .inr (12, [.int 5, .int 4, .ref mz, .int 1, .int 0, .int 900, .int 0, .int 0])), (s7, .inr (12, [.int 4, .int 3, .ref mf, .int 0, .int 0, .int 900, .int 0, .int 0])), (s8, .inr (12, [.int 6, .int 4, .ref mz, .int 0, .int 0, .int 900, .int 0, .int 0]))] := hD
  have hK : va_K (dC, dI) vwCl [(cM, .object RX4), (cS, .object RX8)] s := hK
  obtain rfl : (-12) = r9 := hw
  refine lv_goto (tgt := 130) hx hb dX7_feel_125 (by decide) ?_
  refine lv_istore (lv' := [(10, .int (-12)), (9, .ref s5), (8, .int 5), (7, .int 9), (6, .ref sa), (5, .int 0), (4, .int (-12)), (3, .int 4), (0, .ref rg), (1, .int 0), (2, .int 0)]) hx hb dX7_feel_130 hl (by decide) rfl (fun ls hl => ?_)
  refine lv_aload hx hb dX7_feel_132 (lv_at hl 1 rfl) ?_
  refine lv_aload hx hb dX7_feel_134 (lv_at hl 1 rfl) ?_
  refine va_getN (D := (dC, dI)) (ci := 12) (v := .int 4) (C := RX8) (T := TX8) (N := 8) hx hb hts hiX8 hown hK hP 11 rfl rfl 0 (by decide) (va_Nw.use rfl (hM.1 _ (List.mem_of_getElem? (i := 6) rfl))) (fun _ h9 => h9) rfl dX7_feel_136 ?_
  refine lv_aload hx hb dX7_feel_139 (lv_at hl 1 rfl) ?_
  refine va_getN (D := (dC, dI)) (ci := 12) (v := .int 0) (C := RX8) (T := TX8) (N := 8) hx hb hts hiX8 hown hK hP 11 rfl rfl 4 (by decide) (va_Nw.use rfl (hM.1 _ (List.mem_of_getElem? (i := 10) rfl))) (fun _ h9 => h9) rfl dX7_feel_141 ?_
  refine lv_imul hx hb dX7_feel_144 ?_
  refine kc_i (y := 0) (by decide +kernel) ?_
  refine lv_iload_n hx hb dX7_feel_145 rfl (lv_at hl 10 rfl) ?_
  refine lv_imul hx hb dX7_feel_146 ?_
  refine kc_i (y := 0) (by decide +kernel) ?_
  refine lv_iload hx hb dX7_feel_147 (lv_at hl 0 rfl) ?_
  refine lv_imul hx hb dX7_feel_149 ?_
  refine kc_i (y := 0) (by decide +kernel) ?_
  refine lv_iconst (v := 2) hx hb dX7_feel_150 (by decide) ?_
  refine lv_idiv hx hb dX7_feel_151 (by decide +kernel) ?_
  refine kc_i (y := 0) (by decide +kernel) ?_
  refine va_putN (D := (dC, dI)) (ci := 12) (v := .int 0) (ty := .int) (C := RX8) (T := TX8) (N := 8) hx hb hts hiX8 tyX8 tyX8_ok nmX8 hown hK hP hD hS 11 rfl rfl 7 (by decide) (va_Nw.use rfl (hM.1 _ (List.mem_of_getElem? (i := 16) rfl))) (fun _ h9 => h9) rfl (by decide +kernel) rfl rfl (Nat.le_of_ble_eq_true rfl) dX7_feel_152 (fun H locs hP hD hS => ?_)
  have hP : va_P (dC, dI) vwCl [(rg, .inr (11, [.ref mf, .ref mm, .ref mz, .ref ma, .ref sa, .int 0])), (mf, .inr (8, [.int 0, .int 0, .int 0])), (mm, .inr (8, [.int 0, .int 0, .int 0])), (mz, .inr (8, [.int 0, .int 0, .int 0])), (ma, .inl (cM, 3, .inr (.inr (.inr (.inr (va_up (va_up (va_up (fun _ => none) 0 (some mf)) 1 (some mm)) 2 (some mz))))))), (sa, .inl (cS, 9, .inr (.inr (.inr (.inr (va_up (va_up (va_up (va_up (va_up (va_up (va_up (va_up (va_up (fun _ => none) 0 (some s0)) 1 (some s1)) 2 (some s2)) 3 (some s3)) 4 (some s4)) 5 (some s5)) 6 (some s6)) 7 (some s7)) 8 (some s8))))))), (s0, .inr (12, [.int 8, .int 6, .ref mf, .int 1, .int 0, .int 900, .int 0, .int 0])), (s1, .inr (12, [.int 7, .int 5, .ref mf, .int 1, .int 0, .int 900, .int 0, .int 0])), (s2, .inr (12, [.int 3, .int 3, .ref mf, .int 1, .int 0, .int 900, .int 0, .int 0])), (s3, .inr (12, [.int 10, .int 8, .ref mm, .int 1, .int 0, .int 900, .int 0, .int 0])), (s4, .inr (12, [.int 9, .int 6, .ref mm, .int 1, .int 0, .int 900, .int 0, .int 0])), (s5, .inr (12, [.int 4, .int 3, .ref mm, .int 1, .int 0, .int 900, .int 0, .int 0])), (s6, .inr (12, [.int 5, .int 4, .ref mz, .int 1, .int 0, .int 900, .int 0, .int 0])), (s7, .inr (12, [.int 4, .int 3, .ref mf, .int 0, .int 0, .int 900, .int 0, .int 0])), (s8, .inr (12, [.int 6, .int 4, .ref mz, .int 0, .int 0, .int 900, .int 0, .int 0]))] H := hP
  have hD : va_D A [(rg, .inr (11, [.ref mf, .ref mm, .ref mz, .ref ma, .ref sa, .int 0])), (mf, .inr (8, [.int 0, .int 0, .int 0])), (mm, .inr (8, [.int 0, .int 0, .int 0])), (mz, .inr (8, [.int 0, .int 0, .int 0])), (ma, .inl (cM, 3, .inr (.inr (.inr (.inr (va_up (va_up (va_up (fun _ => none) 0 (some mf)) 1 (some mm)) 2 (some mz))))))), (sa, .inl (cS, 9, .inr (.inr (.inr (.inr (va_up (va_up (va_up (va_up (va_up (va_up (va_up (va_up (va_up (fun _ => none) 0 (some s0)) 1 (some s1)) 2 (some s2)) 3 (some s3)) 4 (some s4)) 5 (some s5)) 6 (some s6)) 7 (some s7)) 8 (some s8))))))), (s0, .inr (12, [.int 8, .int 6, .ref mf, .int 1, .int 0, .int 900, .int 0, .int 0])), (s1, .inr (12, [.int 7, .int 5, .ref mf, .int 1, .int 0, .int 900, .int 0, .int 0])), (s2, .inr (12, [.int 3, .int 3, .ref mf, .int 1, .int 0, .int 900, .int 0, .int 0])), (s3, .inr (12, [.int 10, .int 8, .ref mm, .int 1, .int 0, .int 900, .int 0, .int 0])), (s4, .inr (12, [.int 9, .int 6, .ref mm, .int 1, .int 0, .int 900, .int 0, .int 0])), (s5, .inr (12, [.int 4, .int 3, .ref mm, .int 1, .int 0, .int 900, .int 0, .int 0])), (s6, .inr (12, [.int 5, .int 4, .ref mz, .int 1, .int 0, .int 900, .int 0, .int 0])), (s7, .inr (12, [.int 4, .int 3, .ref mf, .int 0, .int 0, .int 900, .int 0, .int 0])), (s8, .inr (12, [.int 6, .int 4, .ref mz, .int 0, .int 0, .int 900, .int 0, .int 0]))] := hD
  refine lv_aload_n hx hb dX7_feel_155 rfl (lv_at hl 8 rfl) ?_
  refine lv_dup hx hb dX7_feel_156 rfl ?_
  refine va_get (D := (dC, dI)) (ci := 11) (v := .int 0) (C := RX7) (T := TX7) (N := 6) hx hb hts hiX7 hown hK hP 0 rfl rfl 5 (by decide) (hts (.fieldLink RX7 37 "SquareRig$Rig" "drive" "I") (by decide +kernel)) (fun _ h9 => h9) rfl dX7_feel_157 ?_
  refine lv_aload hx hb dX7_feel_160 (lv_at hl 1 rfl) ?_
  refine va_getN (D := (dC, dI)) (ci := 12) (v := .int 0) (C := RX8) (T := TX8) (N := 8) hx hb hts hiX8 hown hK hP 11 rfl rfl 7 (by decide) (va_Nw.use rfl (hM.1 _ (List.mem_of_getElem? (i := 16) rfl))) (fun _ h9 => h9) rfl dX7_feel_162 ?_
  refine lv_iadd hx hb dX7_feel_165 ?_
  refine kc_i (y := 0) (by decide +kernel) ?_
  refine va_put (D := (dC, dI)) (ci := 11) (v := .int 0) (ty := .int) (C := RX7) (T := TX7) (N := 6) hx hb hts hiX7 tyX7 tyX7_ok nmX7 hown hK hP hD hS 0 rfl rfl 5 (by decide) (hts (.fieldLink RX7 37 "SquareRig$Rig" "drive" "I") (by decide +kernel)) (fun _ h9 => h9) rfl (by decide +kernel) rfl rfl (Nat.le_of_ble_eq_true rfl) dX7_feel_166 (fun H locs hP hD hS => ?_)
  have hP : va_P (dC, dI) vwCl [(rg, .inr (11, [.ref mf, .ref mm, .ref mz, .ref ma, .ref sa, .int 0])), (mf, .inr (8, [.int 0, .int 0, .int 0])), (mm, .inr (8, [.int 0, .int 0, .int 0])), (mz, .inr (8, [.int 0, .int 0, .int 0])), (ma, .inl (cM, 3, .inr (.inr (.inr (.inr (va_up (va_up (va_up (fun _ => none) 0 (some mf)) 1 (some mm)) 2 (some mz))))))), (sa, .inl (cS, 9, .inr (.inr (.inr (.inr (va_up (va_up (va_up (va_up (va_up (va_up (va_up (va_up (va_up (fun _ => none) 0 (some s0)) 1 (some s1)) 2 (some s2)) 3 (some s3)) 4 (some s4)) 5 (some s5)) 6 (some s6)) 7 (some s7)) 8 (some s8))))))), (s0, .inr (12, [.int 8, .int 6, .ref mf, .int 1, .int 0, .int 900, .int 0, .int 0])), (s1, .inr (12, [.int 7, .int 5, .ref mf, .int 1, .int 0, .int 900, .int 0, .int 0])), (s2, .inr (12, [.int 3, .int 3, .ref mf, .int 1, .int 0, .int 900, .int 0, .int 0])), (s3, .inr (12, [.int 10, .int 8, .ref mm, .int 1, .int 0, .int 900, .int 0, .int 0])), (s4, .inr (12, [.int 9, .int 6, .ref mm, .int 1, .int 0, .int 900, .int 0, .int 0])), (s5, .inr (12, [.int 4, .int 3, .ref mm, .int 1, .int 0, .int 900, .int 0, .int 0])), (s6, .inr (12, [.int 5, .int 4, .ref mz, .int 1, .int 0, .int 900, .int 0, .int 0])), (s7, .inr (12, [.int 4, .int 3, .ref mf, .int 0, .int 0, .int 900, .int 0, .int 0])), (s8, .inr (12, [.int 6, .int 4, .ref mz, .int 0, .int 0, .int 900, .int 0, .int 0]))] H := hP
  have hD : va_D A [(rg, .inr (11, [.ref mf, .ref mm, .ref mz, .ref ma, .ref sa, .int 0])), (mf, .inr (8, [.int 0, .int 0, .int 0])), (mm, .inr (8, [.int 0, .int 0, .int 0])), (mz, .inr (8, [.int 0, .int 0, .int 0])), (ma, .inl (cM, 3, .inr (.inr (.inr (.inr (va_up (va_up (va_up (fun _ => none) 0 (some mf)) 1 (some mm)) 2 (some mz))))))), (sa, .inl (cS, 9, .inr (.inr (.inr (.inr (va_up (va_up (va_up (va_up (va_up (va_up (va_up (va_up (va_up (fun _ => none) 0 (some s0)) 1 (some s1)) 2 (some s2)) 3 (some s3)) 4 (some s4)) 5 (some s5)) 6 (some s6)) 7 (some s7)) 8 (some s8))))))), (s0, .inr (12, [.int 8, .int 6, .ref mf, .int 1, .int 0, .int 900, .int 0, .int 0])), (s1, .inr (12, [.int 7, .int 5, .ref mf, .int 1, .int 0, .int 900, .int 0, .int 0])), (s2, .inr (12, [.int 3, .int 3, .ref mf, .int 1, .int 0, .int 900, .int 0, .int 0])), (s3, .inr (12, [.int 10, .int 8, .ref mm, .int 1, .int 0, .int 900, .int 0, .int 0])), (s4, .inr (12, [.int 9, .int 6, .ref mm, .int 1, .int 0, .int 900, .int 0, .int 0])), (s5, .inr (12, [.int 4, .int 3, .ref mm, .int 1, .int 0, .int 900, .int 0, .int 0])), (s6, .inr (12, [.int 5, .int 4, .ref mz, .int 1, .int 0, .int 900, .int 0, .int 0])), (s7, .inr (12, [.int 4, .int 3, .ref mf, .int 0, .int 0, .int 900, .int 0, .int 0])), (s8, .inr (12, [.int 6, .int 4, .ref mz, .int 0, .int 0, .int 900, .int 0, .int 0]))] := hD
  refine lv_aload hx hb dX7_feel_169 (lv_at hl 1 rfl) ?_
  refine va_getN (D := (dC, dI)) (ci := 12) (v := .ref mm) (C := RX8) (T := TX8) (N := 8) hx hb hts hiX8 hown hK hP 11 rfl rfl 2 (by decide) (va_Nw.use rfl (hM.1 _ (List.mem_of_getElem? (i := 8) rfl))) (fun _ h9 => h9) rfl dX7_feel_171 ?_
  refine lv_dup hx hb dX7_feel_174 rfl ?_
  refine va_getN (D := (dC, dI)) (ci := 8) (v := .int 0) (C := RX4) (T := TX4) (N := 3) hx hb hts hiX4 hown hK hP 2 rfl rfl 2 (by decide) (va_Nw.use rfl (hM.1 _ (List.mem_of_getElem? (i := 4) rfl))) (fun _ h9 => h9) rfl dX7_feel_175 ?_
  refine lv_aload hx hb dX7_feel_178 (lv_at hl 1 rfl) ?_
  refine va_getN (D := (dC, dI)) (ci := 12) (v := .int 0) (C := RX8) (T := TX8) (N := 8) hx hb hts hiX8 hown hK hP 11 rfl rfl 7 (by decide) (va_Nw.use rfl (hM.1 _ (List.mem_of_getElem? (i := 16) rfl))) (fun _ h9 => h9) rfl dX7_feel_180 ?_
  refine va_mabs hx hb (hml.trans hl.1.symm) hown (hts (.methodLink RX7 48 Lib.Math.abs.name) (by decide +kernel)) (hts (.static Lib.Math.abs.name) (by decide +kernel)) (hts (.initialized "java/lang/Math") (by decide +kernel)) (hts (.code Lib.Math.abs.name Lib.Math.abs.code 1 (some .int)) (by decide +kernel)) (Nat.le_of_ble_eq_true rfl) (Nat.le_of_ble_eq_true rfl) (Nat.le_of_ble_eq_true rfl) (Nat.le_of_ble_eq_true rfl) dX7_feel_183 ?_
  refine kc_i (y := 0) (by decide +kernel) ?_
  refine lv_iadd hx hb dX7_feel_186 ?_
  refine kc_i (y := 0) (by decide +kernel) ?_
  refine va_putN (D := (dC, dI)) (ci := 8) (v := .int 0) (ty := .int) (C := RX4) (T := TX4) (N := 3) hx hb hts hiX4 tyX4 tyX4_ok nmX4 hown hK hP hD hS 2 rfl rfl 2 (by decide) (va_Nw.use rfl (hM.1 _ (List.mem_of_getElem? (i := 4) rfl))) (fun _ h9 => h9) rfl (by decide +kernel) rfl rfl (Nat.le_of_ble_eq_true rfl) dX7_feel_187 (fun H locs hP hD hS => ?_)
  have hP : va_P (dC, dI) vwCl [(rg, .inr (11, [.ref mf, .ref mm, .ref mz, .ref ma, .ref sa, .int 0])), (mf, .inr (8, [.int 0, .int 0, .int 0])), (mm, .inr (8, [.int 0, .int 0, .int 0])), (mz, .inr (8, [.int 0, .int 0, .int 0])), (ma, .inl (cM, 3, .inr (.inr (.inr (.inr (va_up (va_up (va_up (fun _ => none) 0 (some mf)) 1 (some mm)) 2 (some mz))))))), (sa, .inl (cS, 9, .inr (.inr (.inr (.inr (va_up (va_up (va_up (va_up (va_up (va_up (va_up (va_up (va_up (fun _ => none) 0 (some s0)) 1 (some s1)) 2 (some s2)) 3 (some s3)) 4 (some s4)) 5 (some s5)) 6 (some s6)) 7 (some s7)) 8 (some s8))))))), (s0, .inr (12, [.int 8, .int 6, .ref mf, .int 1, .int 0, .int 900, .int 0, .int 0])), (s1, .inr (12, [.int 7, .int 5, .ref mf, .int 1, .int 0, .int 900, .int 0, .int 0])), (s2, .inr (12, [.int 3, .int 3, .ref mf, .int 1, .int 0, .int 900, .int 0, .int 0])), (s3, .inr (12, [.int 10, .int 8, .ref mm, .int 1, .int 0, .int 900, .int 0, .int 0])), (s4, .inr (12, [.int 9, .int 6, .ref mm, .int 1, .int 0, .int 900, .int 0, .int 0])), (s5, .inr (12, [.int 4, .int 3, .ref mm, .int 1, .int 0, .int 900, .int 0, .int 0])), (s6, .inr (12, [.int 5, .int 4, .ref mz, .int 1, .int 0, .int 900, .int 0, .int 0])), (s7, .inr (12, [.int 4, .int 3, .ref mf, .int 0, .int 0, .int 900, .int 0, .int 0])), (s8, .inr (12, [.int 6, .int 4, .ref mz, .int 0, .int 0, .int 900, .int 0, .int 0]))] H := hP
  have hD : va_D A [(rg, .inr (11, [.ref mf, .ref mm, .ref mz, .ref ma, .ref sa, .int 0])), (mf, .inr (8, [.int 0, .int 0, .int 0])), (mm, .inr (8, [.int 0, .int 0, .int 0])), (mz, .inr (8, [.int 0, .int 0, .int 0])), (ma, .inl (cM, 3, .inr (.inr (.inr (.inr (va_up (va_up (va_up (fun _ => none) 0 (some mf)) 1 (some mm)) 2 (some mz))))))), (sa, .inl (cS, 9, .inr (.inr (.inr (.inr (va_up (va_up (va_up (va_up (va_up (va_up (va_up (va_up (va_up (fun _ => none) 0 (some s0)) 1 (some s1)) 2 (some s2)) 3 (some s3)) 4 (some s4)) 5 (some s5)) 6 (some s6)) 7 (some s7)) 8 (some s8))))))), (s0, .inr (12, [.int 8, .int 6, .ref mf, .int 1, .int 0, .int 900, .int 0, .int 0])), (s1, .inr (12, [.int 7, .int 5, .ref mf, .int 1, .int 0, .int 900, .int 0, .int 0])), (s2, .inr (12, [.int 3, .int 3, .ref mf, .int 1, .int 0, .int 900, .int 0, .int 0])), (s3, .inr (12, [.int 10, .int 8, .ref mm, .int 1, .int 0, .int 900, .int 0, .int 0])), (s4, .inr (12, [.int 9, .int 6, .ref mm, .int 1, .int 0, .int 900, .int 0, .int 0])), (s5, .inr (12, [.int 4, .int 3, .ref mm, .int 1, .int 0, .int 900, .int 0, .int 0])), (s6, .inr (12, [.int 5, .int 4, .ref mz, .int 1, .int 0, .int 900, .int 0, .int 0])), (s7, .inr (12, [.int 4, .int 3, .ref mf, .int 0, .int 0, .int 900, .int 0, .int 0])), (s8, .inr (12, [.int 6, .int 4, .ref mz, .int 0, .int 0, .int 900, .int 0, .int 0]))] := hD
  refine lv_iinc (v := 6) (lv' := [(8, .int 6), (10, .int (-12)), (9, .ref s5), (7, .int 9), (6, .ref sa), (5, .int 0), (4, .int (-12)), (3, .int 4), (0, .ref rg), (1, .int 0), (2, .int 0)]) hx hb dX7_feel_190 hl (k := 2) rfl (by decide +kernel) (by decide) rfl (fun ls hl => ?_)
  refine lv_goto (tgt := 88) hx hb dX7_feel_193 (by decide) ?_
  refine lv_iload hx hb dX7_feel_88 (lv_at hl 0 rfl) ?_
  refine lv_iload hx hb dX7_feel_90 (lv_at hl 3 rfl) ?_
  refine lv_icmp_ge (tgt := 196) hx hb dX7_feel_92 (by decide) (fun c_ => absurd c_ (by decide +kernel)) (fun _ => ?_)
  refine lv_aload hx hb dX7_feel_95 (lv_at hl 4 rfl) ?_
  refine lv_iload hx hb dX7_feel_97 (lv_at hl 0 rfl) ?_
  refine va_aldq hx hb hK hP 5 1 rfl rfl (pk_in 6 9 (by decide) rfl) dX7_feel_99 ?_
  refine kc_v (y := .ref s6) rfl ?_
  refine lv_astore (lv' := [(9, .ref s6), (8, .int 6), (10, .int (-12)), (7, .int 9), (6, .ref sa), (5, .int 0), (4, .int (-12)), (3, .int 4), (0, .ref rg), (1, .int 0), (2, .int 0)]) hx hb dX7_feel_100 hl (by decide) rfl (fun ls hl => ?_)
  refine lv_aload hx hb dX7_feel_102 (lv_at hl 0 rfl) ?_
  refine va_getN (D := (dC, dI)) (ci := 12) (v := .int 1) (C := RX8) (T := TX8) (N := 8) hx hb hts hiX8 hown hK hP 12 rfl rfl 3 (by decide) (va_Nw.use rfl (hM.1 _ (List.mem_of_getElem? (i := 9) rfl))) (fun _ h9 => h9) rfl dX7_feel_104 ?_
  refine lv_if_eq (tgt := 128) hx hb dX7_feel_107 (by decide) (fun c_ => absurd c_ (by decide +kernel)) (fun _ => ?_)
  refine lv_iload hx hb dX7_feel_110 (lv_at hl 6 rfl) ?_
  refine lv_aload hx hb dX7_feel_112 (lv_at hl 0 rfl) ?_
  refine va_getN (D := (dC, dI)) (ci := 12) (v := .ref mz) (C := RX8) (T := TX8) (N := 8) hx hb hts hiX8 hown hK hP 12 rfl rfl 2 (by decide) (va_Nw.use rfl (hM.1 _ (List.mem_of_getElem? (i := 8) rfl))) (fun _ h9 => h9) rfl dX7_feel_114 ?_
  refine va_getN (D := (dC, dI)) (ci := 8) (v := .int 0) (C := RX4) (T := TX4) (N := 3) hx hb hts hiX4 hown hK hP 3 rfl rfl 0 (by decide) (va_Nw.use rfl (hM.1 _ (List.mem_of_getElem? (i := 0) rfl))) (fun _ h9 => h9) rfl dX7_feel_117 ?_
  refine lv_iload_n hx hb dX7_feel_120 rfl (lv_at hl 7 rfl) ?_
  refine lv_isub hx hb dX7_feel_121 ?_
  refine kc_i (y := (-4)) (by decide +kernel) ?_
  have hPc := hP.sub (ws' := []) [] rfl
  have hDc := hD.sub (ws' := []) [] (by decide) rfl
  have hKc := hK.sub (tys' := []) [] rfl
  have hFc := va_free (wc := []) hD hS hA [] rfl
  refine va_calli (va_runS (As := [.int (-12), .int (-4)]) (rest := []) ⟨hx, hb, hml, hown, hts⟩ (k_bracedPush l dC dI z zK zV  H.size) (va_cwS 2 hts gX7_feel_X7_bracedPush rfl rfl rfl (by decide +kernel) ⟨Nat.le_of_ble_eq_true rfl, Nat.le_of_ble_eq_true rfl⟩) ⟨kP_blind, kP_go hPc hKc hDc hFc hM hS⟩ rfl rfl hl.1 rfl (lv_room (Nat.le_of_ble_eq_true rfl)) dX7_feel_122 ⟨Nat.le_of_ble_eq_true rfl, Nat.le_of_ble_eq_true rfl⟩) hS (fun q _ h => hFc q h) hFc (fun r10 u t H1 locs ht hvm hw hB hz1 hk1 hS => ?_)
  obtain ⟨hP, hD, hK⟩ := kJ (wr := [(rg, .inr (11, [.ref mf, .ref mm, .ref mz, .ref ma, .ref sa, .int 0])), (mf, .inr (8, [.int 0, .int 0, .int 0])), (mm, .inr (8, [.int 0, .int 0, .int 0])), (mz, .inr (8, [.int 0, .int 0, .int 0])), (ma, .inl (cM, 3, .inr (.inr (.inr (.inr (va_up (va_up (va_up (fun _ => none) 0 (some mf)) 1 (some mm)) 2 (some mz))))))), (sa, .inl (cS, 9, .inr (.inr (.inr (.inr (va_up (va_up (va_up (va_up (va_up (va_up (va_up (va_up (va_up (fun _ => none) 0 (some s0)) 1 (some s1)) 2 (some s2)) 3 (some s3)) 4 (some s4)) 5 (some s5)) 6 (some s6)) 7 (some s7)) 8 (some s8))))))), (s0, .inr (12, [.int 8, .int 6, .ref mf, .int 1, .int 0, .int 900, .int 0, .int 0])), (s1, .inr (12, [.int 7, .int 5, .ref mf, .int 1, .int 0, .int 900, .int 0, .int 0])), (s2, .inr (12, [.int 3, .int 3, .ref mf, .int 1, .int 0, .int 900, .int 0, .int 0])), (s3, .inr (12, [.int 10, .int 8, .ref mm, .int 1, .int 0, .int 900, .int 0, .int 0])), (s4, .inr (12, [.int 9, .int 6, .ref mm, .int 1, .int 0, .int 900, .int 0, .int 0])), (s5, .inr (12, [.int 4, .int 3, .ref mm, .int 1, .int 0, .int 900, .int 0, .int 0])), (s6, .inr (12, [.int 5, .int 4, .ref mz, .int 1, .int 0, .int 900, .int 0, .int 0])), (s7, .inr (12, [.int 4, .int 3, .ref mf, .int 0, .int 0, .int 900, .int 0, .int 0])), (s8, .inr (12, [.int 6, .int 4, .ref mz, .int 0, .int 0, .int 900, .int 0, .int 0]))]) (w1 := []) (t1 := []) hP hD hK [] [0, 1, 2, 3, 4, 5, 6, 7, 8, 9, 10, 11, 12, 13, 14] rfl rfl (by decide) (by decide) hk1 hFc ht hvm hB
  generalize H1 = H at hP hS ⊢
  have hP : va_P (dC, dI) vwCl [(rg, .inr (11, [.ref mf, .ref mm, .ref mz, .ref ma, .ref sa, .int 0])), (mf, .inr (8, [.int 0, .int 0, .int 0])), (mm, .inr (8, [.int 0, .int 0, .int 0])), (mz, .inr (8, [.int 0, .int 0, .int 0])), (ma, .inl (cM, 3, .inr (.inr (.inr (.inr (va_up (va_up (va_up (fun _ => none) 0 (some mf)) 1 (some mm)) 2 (some mz))))))), (sa, .inl (cS, 9, .inr (.inr (.inr (.inr (va_up (va_up (va_up (va_up (va_up (va_up (va_up (va_up (va_up (fun _ => none) 0 (some s0)) 1 (some s1)) 2 (some s2)) 3 (some s3)) 4 (some s4)) 5 (some s5)) 6 (some s6)) 7 (some s7)) 8 (some s8))))))), (s0, .inr (12, [.int 8, .int 6, .ref mf, .int 1, .int 0, .int 900, .int 0, .int 0])), (s1, .inr (12, [.int 7, .int 5, .ref mf, .int 1, .int 0, .int 900, .int 0, .int 0])), (s2, .inr (12, [.int 3, .int 3, .ref mf, .int 1, .int 0, .int 900, .int 0, .int 0])), (s3, .inr (12, [.int 10, .int 8, .ref mm, .int 1, .int 0, .int 900, .int 0, .int 0])), (s4, .inr (12, [.int 9, .int 6, .ref mm, .int 1, .int 0, .int 900, .int 0, .int 0])), (s5, .inr (12, [.int 4, .int 3, .ref mm, .int 1, .int 0, .int 900, .int 0, .int 0])), (s6, .inr (12, [.int 5, .int 4, .ref mz, .int 1, .int 0, .int 900, .int 0, .int 0])), (s7, .inr (12, [.int 4, .int 3, .ref mf, .int 0, .int 0, .int 900, .int 0, .int 0])), (s8, .inr (12, [.int 6, .int 4, .ref mz, .int 0, .int 0, .int 900, .int 0, .int 0]))] H := hP
  have hD : va_D A [(rg, .inr (11, [.ref mf, .ref mm, .ref mz, .ref ma, .ref sa, .int 0])), (mf, .inr (8, [.int 0, .int 0, .int 0])), (mm, .inr (8, [.int 0, .int 0, .int 0])), (mz, .inr (8, [.int 0, .int 0, .int 0])), (ma, .inl (cM, 3, .inr (.inr (.inr (.inr (va_up (va_up (va_up (fun _ => none) 0 (some mf)) 1 (some mm)) 2 (some mz))))))), (sa, .inl (cS, 9, .inr (.inr (.inr (.inr (va_up (va_up (va_up (va_up (va_up (va_up (va_up (va_up (va_up (fun _ => none) 0 (some s0)) 1 (some s1)) 2 (some s2)) 3 (some s3)) 4 (some s4)) 5 (some s5)) 6 (some s6)) 7 (some s7)) 8 (some s8))))))), (s0, .inr (12, [.int 8, .int 6, .ref mf, .int 1, .int 0, .int 900, .int 0, .int 0])), (s1, .inr (12, [.int 7, .int 5, .ref mf, .int 1, .int 0, .int 900, .int 0, .int 0])), (s2, .inr (12, [.int 3, .int 3, .ref mf, .int 1, .int 0, .int 900, .int 0, .int 0])), (s3, .inr (12, [.int 10, .int 8, .ref mm, .int 1, .int 0, .int 900, .int 0, .int 0])), (s4, .inr (12, [.int 9, .int 6, .ref mm, .int 1, .int 0, .int 900, .int 0, .int 0])), (s5, .inr (12, [.int 4, .int 3, .ref mm, .int 1, .int 0, .int 900, .int 0, .int 0])), (s6, .inr (12, [.int 5, .int 4, .ref mz, .int 1, .int 0, .int 900, .int 0, .int 0])), (s7, .inr (12, [.int 4, .int 3, .ref mf, .int 0, .int 0, .int 900, .int 0, .int 0])), (s8, .inr (12, [.int 6, .int 4, .ref mz, .int 0, .int 0, .int 900, .int 0, .int 0]))] := hD
  have hK : va_K (dC, dI) vwCl [(cM, .object RX4), (cS, .object RX8)] s := hK
  obtain rfl : (-12) = r10 := hw
  refine lv_goto (tgt := 130) hx hb dX7_feel_125 (by decide) ?_
  refine lv_istore (lv' := [(10, .int (-12)), (9, .ref s6), (8, .int 6), (7, .int 9), (6, .ref sa), (5, .int 0), (4, .int (-12)), (3, .int 4), (0, .ref rg), (1, .int 0), (2, .int 0)]) hx hb dX7_feel_130 hl (by decide) rfl (fun ls hl => ?_)
  refine lv_aload hx hb dX7_feel_132 (lv_at hl 1 rfl) ?_
  refine lv_aload hx hb dX7_feel_134 (lv_at hl 1 rfl) ?_
  refine va_getN (D := (dC, dI)) (ci := 12) (v := .int 5) (C := RX8) (T := TX8) (N := 8) hx hb hts hiX8 hown hK hP 12 rfl rfl 0 (by decide) (va_Nw.use rfl (hM.1 _ (List.mem_of_getElem? (i := 6) rfl))) (fun _ h9 => h9) rfl dX7_feel_136 ?_
  refine lv_aload hx hb dX7_feel_139 (lv_at hl 1 rfl) ?_
  refine va_getN (D := (dC, dI)) (ci := 12) (v := .int 0) (C := RX8) (T := TX8) (N := 8) hx hb hts hiX8 hown hK hP 12 rfl rfl 4 (by decide) (va_Nw.use rfl (hM.1 _ (List.mem_of_getElem? (i := 10) rfl))) (fun _ h9 => h9) rfl dX7_feel_141 ?_
  refine lv_imul hx hb dX7_feel_144 ?_
  refine kc_i (y := 0) (by decide +kernel) ?_
  refine lv_iload_n hx hb dX7_feel_145 rfl (lv_at hl 10 rfl) ?_
  refine lv_imul hx hb dX7_feel_146 ?_
  refine kc_i (y := 0) (by decide +kernel) ?_
  refine lv_iload hx hb dX7_feel_147 (lv_at hl 0 rfl) ?_
  refine lv_imul hx hb dX7_feel_149 ?_
  refine kc_i (y := 0) (by decide +kernel) ?_
  refine lv_iconst (v := 2) hx hb dX7_feel_150 (by decide) ?_
  refine lv_idiv hx hb dX7_feel_151 (by decide +kernel) ?_
  refine kc_i (y := 0) (by decide +kernel) ?_
  refine va_putN (D := (dC, dI)) (ci := 12) (v := .int 0) (ty := .int) (C := RX8) (T := TX8) (N := 8) hx hb hts hiX8 tyX8 tyX8_ok nmX8 hown hK hP hD hS 12 rfl rfl 7 (by decide) (va_Nw.use rfl (hM.1 _ (List.mem_of_getElem? (i := 16) rfl))) (fun _ h9 => h9) rfl (by decide +kernel) rfl rfl (Nat.le_of_ble_eq_true rfl) dX7_feel_152 (fun H locs hP hD hS => ?_)
  have hP : va_P (dC, dI) vwCl [(rg, .inr (11, [.ref mf, .ref mm, .ref mz, .ref ma, .ref sa, .int 0])), (mf, .inr (8, [.int 0, .int 0, .int 0])), (mm, .inr (8, [.int 0, .int 0, .int 0])), (mz, .inr (8, [.int 0, .int 0, .int 0])), (ma, .inl (cM, 3, .inr (.inr (.inr (.inr (va_up (va_up (va_up (fun _ => none) 0 (some mf)) 1 (some mm)) 2 (some mz))))))), (sa, .inl (cS, 9, .inr (.inr (.inr (.inr (va_up (va_up (va_up (va_up (va_up (va_up (va_up (va_up (va_up (fun _ => none) 0 (some s0)) 1 (some s1)) 2 (some s2)) 3 (some s3)) 4 (some s4)) 5 (some s5)) 6 (some s6)) 7 (some s7)) 8 (some s8))))))), (s0, .inr (12, [.int 8, .int 6, .ref mf, .int 1, .int 0, .int 900, .int 0, .int 0])), (s1, .inr (12, [.int 7, .int 5, .ref mf, .int 1, .int 0, .int 900, .int 0, .int 0])), (s2, .inr (12, [.int 3, .int 3, .ref mf, .int 1, .int 0, .int 900, .int 0, .int 0])), (s3, .inr (12, [.int 10, .int 8, .ref mm, .int 1, .int 0, .int 900, .int 0, .int 0])), (s4, .inr (12, [.int 9, .int 6, .ref mm, .int 1, .int 0, .int 900, .int 0, .int 0])), (s5, .inr (12, [.int 4, .int 3, .ref mm, .int 1, .int 0, .int 900, .int 0, .int 0])), (s6, .inr (12, [.int 5, .int 4, .ref mz, .int 1, .int 0, .int 900, .int 0, .int 0])), (s7, .inr (12, [.int 4, .int 3, .ref mf, .int 0, .int 0, .int 900, .int 0, .int 0])), (s8, .inr (12, [.int 6, .int 4, .ref mz, .int 0, .int 0, .int 900, .int 0, .int 0]))] H := hP
  have hD : va_D A [(rg, .inr (11, [.ref mf, .ref mm, .ref mz, .ref ma, .ref sa, .int 0])), (mf, .inr (8, [.int 0, .int 0, .int 0])), (mm, .inr (8, [.int 0, .int 0, .int 0])), (mz, .inr (8, [.int 0, .int 0, .int 0])), (ma, .inl (cM, 3, .inr (.inr (.inr (.inr (va_up (va_up (va_up (fun _ => none) 0 (some mf)) 1 (some mm)) 2 (some mz))))))), (sa, .inl (cS, 9, .inr (.inr (.inr (.inr (va_up (va_up (va_up (va_up (va_up (va_up (va_up (va_up (va_up (fun _ => none) 0 (some s0)) 1 (some s1)) 2 (some s2)) 3 (some s3)) 4 (some s4)) 5 (some s5)) 6 (some s6)) 7 (some s7)) 8 (some s8))))))), (s0, .inr (12, [.int 8, .int 6, .ref mf, .int 1, .int 0, .int 900, .int 0, .int 0])), (s1, .inr (12, [.int 7, .int 5, .ref mf, .int 1, .int 0, .int 900, .int 0, .int 0])), (s2, .inr (12, [.int 3, .int 3, .ref mf, .int 1, .int 0, .int 900, .int 0, .int 0])), (s3, .inr (12, [.int 10, .int 8, .ref mm, .int 1, .int 0, .int 900, .int 0, .int 0])), (s4, .inr (12, [.int 9, .int 6, .ref mm, .int 1, .int 0, .int 900, .int 0, .int 0])), (s5, .inr (12, [.int 4, .int 3, .ref mm, .int 1, .int 0, .int 900, .int 0, .int 0])), (s6, .inr (12, [.int 5, .int 4, .ref mz, .int 1, .int 0, .int 900, .int 0, .int 0])), (s7, .inr (12, [.int 4, .int 3, .ref mf, .int 0, .int 0, .int 900, .int 0, .int 0])), (s8, .inr (12, [.int 6, .int 4, .ref mz, .int 0, .int 0, .int 900, .int 0, .int 0]))] := hD
  refine lv_aload_n hx hb dX7_feel_155 rfl (lv_at hl 8 rfl) ?_
  refine lv_dup hx hb dX7_feel_156 rfl ?_
  refine va_get (D := (dC, dI)) (ci := 11) (v := .int 0) (C := RX7) (T := TX7) (N := 6) hx hb hts hiX7 hown hK hP 0 rfl rfl 5 (by decide) (hts (.fieldLink RX7 37 "SquareRig$Rig" "drive" "I") (by decide +kernel)) (fun _ h9 => h9) rfl dX7_feel_157 ?_
  refine lv_aload hx hb dX7_feel_160 (lv_at hl 1 rfl) ?_
  refine va_getN (D := (dC, dI)) (ci := 12) (v := .int 0) (C := RX8) (T := TX8) (N := 8) hx hb hts hiX8 hown hK hP 12 rfl rfl 7 (by decide) (va_Nw.use rfl (hM.1 _ (List.mem_of_getElem? (i := 16) rfl))) (fun _ h9 => h9) rfl dX7_feel_162 ?_
  refine lv_iadd hx hb dX7_feel_165 ?_
  refine kc_i (y := 0) (by decide +kernel) ?_
  refine va_put (D := (dC, dI)) (ci := 11) (v := .int 0) (ty := .int) (C := RX7) (T := TX7) (N := 6) hx hb hts hiX7 tyX7 tyX7_ok nmX7 hown hK hP hD hS 0 rfl rfl 5 (by decide) (hts (.fieldLink RX7 37 "SquareRig$Rig" "drive" "I") (by decide +kernel)) (fun _ h9 => h9) rfl (by decide +kernel) rfl rfl (Nat.le_of_ble_eq_true rfl) dX7_feel_166 (fun H locs hP hD hS => ?_)
  have hP : va_P (dC, dI) vwCl [(rg, .inr (11, [.ref mf, .ref mm, .ref mz, .ref ma, .ref sa, .int 0])), (mf, .inr (8, [.int 0, .int 0, .int 0])), (mm, .inr (8, [.int 0, .int 0, .int 0])), (mz, .inr (8, [.int 0, .int 0, .int 0])), (ma, .inl (cM, 3, .inr (.inr (.inr (.inr (va_up (va_up (va_up (fun _ => none) 0 (some mf)) 1 (some mm)) 2 (some mz))))))), (sa, .inl (cS, 9, .inr (.inr (.inr (.inr (va_up (va_up (va_up (va_up (va_up (va_up (va_up (va_up (va_up (fun _ => none) 0 (some s0)) 1 (some s1)) 2 (some s2)) 3 (some s3)) 4 (some s4)) 5 (some s5)) 6 (some s6)) 7 (some s7)) 8 (some s8))))))), (s0, .inr (12, [.int 8, .int 6, .ref mf, .int 1, .int 0, .int 900, .int 0, .int 0])), (s1, .inr (12, [.int 7, .int 5, .ref mf, .int 1, .int 0, .int 900, .int 0, .int 0])), (s2, .inr (12, [.int 3, .int 3, .ref mf, .int 1, .int 0, .int 900, .int 0, .int 0])), (s3, .inr (12, [.int 10, .int 8, .ref mm, .int 1, .int 0, .int 900, .int 0, .int 0])), (s4, .inr (12, [.int 9, .int 6, .ref mm, .int 1, .int 0, .int 900, .int 0, .int 0])), (s5, .inr (12, [.int 4, .int 3, .ref mm, .int 1, .int 0, .int 900, .int 0, .int 0])), (s6, .inr (12, [.int 5, .int 4, .ref mz, .int 1, .int 0, .int 900, .int 0, .int 0])), (s7, .inr (12, [.int 4, .int 3, .ref mf, .int 0, .int 0, .int 900, .int 0, .int 0])), (s8, .inr (12, [.int 6, .int 4, .ref mz, .int 0, .int 0, .int 900, .int 0, .int 0]))] H := hP
  have hD : va_D A [(rg, .inr (11, [.ref mf, .ref mm, .ref mz, .ref ma, .ref sa, .int 0])), (mf, .inr (8, [.int 0, .int 0, .int 0])), (mm, .inr (8, [.int 0, .int 0, .int 0])), (mz, .inr (8, [.int 0, .int 0, .int 0])), (ma, .inl (cM, 3, .inr (.inr (.inr (.inr (va_up (va_up (va_up (fun _ => none) 0 (some mf)) 1 (some mm)) 2 (some mz))))))), (sa, .inl (cS, 9, .inr (.inr (.inr (.inr (va_up (va_up (va_up (va_up (va_up (va_up (va_up (va_up (va_up (fun _ => none) 0 (some s0)) 1 (some s1)) 2 (some s2)) 3 (some s3)) 4 (some s4)) 5 (some s5)) 6 (some s6)) 7 (some s7)) 8 (some s8))))))), (s0, .inr (12, [.int 8, .int 6, .ref mf, .int 1, .int 0, .int 900, .int 0, .int 0])), (s1, .inr (12, [.int 7, .int 5, .ref mf, .int 1, .int 0, .int 900, .int 0, .int 0])), (s2, .inr (12, [.int 3, .int 3, .ref mf, .int 1, .int 0, .int 900, .int 0, .int 0])), (s3, .inr (12, [.int 10, .int 8, .ref mm, .int 1, .int 0, .int 900, .int 0, .int 0])), (s4, .inr (12, [.int 9, .int 6, .ref mm, .int 1, .int 0, .int 900, .int 0, .int 0])), (s5, .inr (12, [.int 4, .int 3, .ref mm, .int 1, .int 0, .int 900, .int 0, .int 0])), (s6, .inr (12, [.int 5, .int 4, .ref mz, .int 1, .int 0, .int 900, .int 0, .int 0])), (s7, .inr (12, [.int 4, .int 3, .ref mf, .int 0, .int 0, .int 900, .int 0, .int 0])), (s8, .inr (12, [.int 6, .int 4, .ref mz, .int 0, .int 0, .int 900, .int 0, .int 0]))] := hD
  refine lv_aload hx hb dX7_feel_169 (lv_at hl 1 rfl) ?_
  refine va_getN (D := (dC, dI)) (ci := 12) (v := .ref mz) (C := RX8) (T := TX8) (N := 8) hx hb hts hiX8 hown hK hP 12 rfl rfl 2 (by decide) (va_Nw.use rfl (hM.1 _ (List.mem_of_getElem? (i := 8) rfl))) (fun _ h9 => h9) rfl dX7_feel_171 ?_
  refine lv_dup hx hb dX7_feel_174 rfl ?_
  refine va_getN (D := (dC, dI)) (ci := 8) (v := .int 0) (C := RX4) (T := TX4) (N := 3) hx hb hts hiX4 hown hK hP 3 rfl rfl 2 (by decide) (va_Nw.use rfl (hM.1 _ (List.mem_of_getElem? (i := 4) rfl))) (fun _ h9 => h9) rfl dX7_feel_175 ?_
  refine lv_aload hx hb dX7_feel_178 (lv_at hl 1 rfl) ?_
  refine va_getN (D := (dC, dI)) (ci := 12) (v := .int 0) (C := RX8) (T := TX8) (N := 8) hx hb hts hiX8 hown hK hP 12 rfl rfl 7 (by decide) (va_Nw.use rfl (hM.1 _ (List.mem_of_getElem? (i := 16) rfl))) (fun _ h9 => h9) rfl dX7_feel_180 ?_
  refine va_mabs hx hb (hml.trans hl.1.symm) hown (hts (.methodLink RX7 48 Lib.Math.abs.name) (by decide +kernel)) (hts (.static Lib.Math.abs.name) (by decide +kernel)) (hts (.initialized "java/lang/Math") (by decide +kernel)) (hts (.code Lib.Math.abs.name Lib.Math.abs.code 1 (some .int)) (by decide +kernel)) (Nat.le_of_ble_eq_true rfl) (Nat.le_of_ble_eq_true rfl) (Nat.le_of_ble_eq_true rfl) (Nat.le_of_ble_eq_true rfl) dX7_feel_183 ?_
  refine kc_i (y := 0) (by decide +kernel) ?_
  refine lv_iadd hx hb dX7_feel_186 ?_
  refine kc_i (y := 0) (by decide +kernel) ?_
  refine va_putN (D := (dC, dI)) (ci := 8) (v := .int 0) (ty := .int) (C := RX4) (T := TX4) (N := 3) hx hb hts hiX4 tyX4 tyX4_ok nmX4 hown hK hP hD hS 3 rfl rfl 2 (by decide) (va_Nw.use rfl (hM.1 _ (List.mem_of_getElem? (i := 4) rfl))) (fun _ h9 => h9) rfl (by decide +kernel) rfl rfl (Nat.le_of_ble_eq_true rfl) dX7_feel_187 (fun H locs hP hD hS => ?_)
  have hP : va_P (dC, dI) vwCl [(rg, .inr (11, [.ref mf, .ref mm, .ref mz, .ref ma, .ref sa, .int 0])), (mf, .inr (8, [.int 0, .int 0, .int 0])), (mm, .inr (8, [.int 0, .int 0, .int 0])), (mz, .inr (8, [.int 0, .int 0, .int 0])), (ma, .inl (cM, 3, .inr (.inr (.inr (.inr (va_up (va_up (va_up (fun _ => none) 0 (some mf)) 1 (some mm)) 2 (some mz))))))), (sa, .inl (cS, 9, .inr (.inr (.inr (.inr (va_up (va_up (va_up (va_up (va_up (va_up (va_up (va_up (va_up (fun _ => none) 0 (some s0)) 1 (some s1)) 2 (some s2)) 3 (some s3)) 4 (some s4)) 5 (some s5)) 6 (some s6)) 7 (some s7)) 8 (some s8))))))), (s0, .inr (12, [.int 8, .int 6, .ref mf, .int 1, .int 0, .int 900, .int 0, .int 0])), (s1, .inr (12, [.int 7, .int 5, .ref mf, .int 1, .int 0, .int 900, .int 0, .int 0])), (s2, .inr (12, [.int 3, .int 3, .ref mf, .int 1, .int 0, .int 900, .int 0, .int 0])), (s3, .inr (12, [.int 10, .int 8, .ref mm, .int 1, .int 0, .int 900, .int 0, .int 0])), (s4, .inr (12, [.int 9, .int 6, .ref mm, .int 1, .int 0, .int 900, .int 0, .int 0])), (s5, .inr (12, [.int 4, .int 3, .ref mm, .int 1, .int 0, .int 900, .int 0, .int 0])), (s6, .inr (12, [.int 5, .int 4, .ref mz, .int 1, .int 0, .int 900, .int 0, .int 0])), (s7, .inr (12, [.int 4, .int 3, .ref mf, .int 0, .int 0, .int 900, .int 0, .int 0])), (s8, .inr (12, [.int 6, .int 4, .ref mz, .int 0, .int 0, .int 900, .int 0, .int 0]))] H := hP
  have hD : va_D A [(rg, .inr (11, [.ref mf, .ref mm, .ref mz, .ref ma, .ref sa, .int 0])), (mf, .inr (8, [.int 0, .int 0, .int 0])), (mm, .inr (8, [.int 0, .int 0, .int 0])), (mz, .inr (8, [.int 0, .int 0, .int 0])), (ma, .inl (cM, 3, .inr (.inr (.inr (.inr (va_up (va_up (va_up (fun _ => none) 0 (some mf)) 1 (some mm)) 2 (some mz))))))), (sa, .inl (cS, 9, .inr (.inr (.inr (.inr (va_up (va_up (va_up (va_up (va_up (va_up (va_up (va_up (va_up (fun _ => none) 0 (some s0)) 1 (some s1)) 2 (some s2)) 3 (some s3)) 4 (some s4)) 5 (some s5)) 6 (some s6)) 7 (some s7)) 8 (some s8))))))), (s0, .inr (12, [.int 8, .int 6, .ref mf, .int 1, .int 0, .int 900, .int 0, .int 0])), (s1, .inr (12, [.int 7, .int 5, .ref mf, .int 1, .int 0, .int 900, .int 0, .int 0])), (s2, .inr (12, [.int 3, .int 3, .ref mf, .int 1, .int 0, .int 900, .int 0, .int 0])), (s3, .inr (12, [.int 10, .int 8, .ref mm, .int 1, .int 0, .int 900, .int 0, .int 0])), (s4, .inr (12, [.int 9, .int 6, .ref mm, .int 1, .int 0, .int 900, .int 0, .int 0])), (s5, .inr (12, [.int 4, .int 3, .ref mm, .int 1, .int 0, .int 900, .int 0, .int 0])), (s6, .inr (12, [.int 5, .int 4, .ref mz, .int 1, .int 0, .int 900, .int 0, .int 0])), (s7, .inr (12, [.int 4, .int 3, .ref mf, .int 0, .int 0, .int 900, .int 0, .int 0])), (s8, .inr (12, [.int 6, .int 4, .ref mz, .int 0, .int 0, .int 900, .int 0, .int 0]))] := hD
  refine lv_iinc (v := 7) (lv' := [(8, .int 7), (10, .int (-12)), (9, .ref s6), (7, .int 9), (6, .ref sa), (5, .int 0), (4, .int (-12)), (3, .int 4), (0, .ref rg), (1, .int 0), (2, .int 0)]) hx hb dX7_feel_190 hl (k := 2) rfl (by decide +kernel) (by decide) rfl (fun ls hl => ?_)
  refine lv_goto (tgt := 88) hx hb dX7_feel_193 (by decide) ?_
  refine lv_iload hx hb dX7_feel_88 (lv_at hl 0 rfl) ?_
  refine lv_iload hx hb dX7_feel_90 (lv_at hl 3 rfl) ?_
  refine lv_icmp_ge (tgt := 196) hx hb dX7_feel_92 (by decide) (fun c_ => absurd c_ (by decide +kernel)) (fun _ => ?_)
  refine lv_aload hx hb dX7_feel_95 (lv_at hl 4 rfl) ?_
  refine lv_iload hx hb dX7_feel_97 (lv_at hl 0 rfl) ?_
  refine va_aldq hx hb hK hP 5 1 rfl rfl (pk_in 7 9 (by decide) rfl) dX7_feel_99 ?_
  refine kc_v (y := .ref s7) rfl ?_
  refine lv_astore (lv' := [(9, .ref s7), (8, .int 7), (10, .int (-12)), (7, .int 9), (6, .ref sa), (5, .int 0), (4, .int (-12)), (3, .int 4), (0, .ref rg), (1, .int 0), (2, .int 0)]) hx hb dX7_feel_100 hl (by decide) rfl (fun ls hl => ?_)
  refine lv_aload hx hb dX7_feel_102 (lv_at hl 0 rfl) ?_
  refine va_getN (D := (dC, dI)) (ci := 12) (v := .int 0) (C := RX8) (T := TX8) (N := 8) hx hb hts hiX8 hown hK hP 13 rfl rfl 3 (by decide) (va_Nw.use rfl (hM.1 _ (List.mem_of_getElem? (i := 9) rfl))) (fun _ h9 => h9) rfl dX7_feel_104 ?_
  refine lv_if_eq (tgt := 128) hx hb dX7_feel_107 (by decide) (fun _ => ?_) (fun c_ => absurd (by decide +kernel) c_)
  refine lv_iload hx hb dX7_feel_128 (lv_at hl 5 rfl) ?_
  refine lv_istore (lv' := [(10, .int 0), (9, .ref s7), (8, .int 7), (7, .int 9), (6, .ref sa), (5, .int 0), (4, .int (-12)), (3, .int 4), (0, .ref rg), (1, .int 0), (2, .int 0)]) hx hb dX7_feel_130 hl (by decide) rfl (fun ls hl => ?_)
  refine lv_aload hx hb dX7_feel_132 (lv_at hl 1 rfl) ?_
  refine lv_aload hx hb dX7_feel_134 (lv_at hl 1 rfl) ?_
  refine va_getN (D := (dC, dI)) (ci := 12) (v := .int 4) (C := RX8) (T := TX8) (N := 8) hx hb hts hiX8 hown hK hP 13 rfl rfl 0 (by decide) (va_Nw.use rfl (hM.1 _ (List.mem_of_getElem? (i := 6) rfl))) (fun _ h9 => h9) rfl dX7_feel_136 ?_
  refine lv_aload hx hb dX7_feel_139 (lv_at hl 1 rfl) ?_
  refine va_getN (D := (dC, dI)) (ci := 12) (v := .int 0) (C := RX8) (T := TX8) (N := 8) hx hb hts hiX8 hown hK hP 13 rfl rfl 4 (by decide) (va_Nw.use rfl (hM.1 _ (List.mem_of_getElem? (i := 10) rfl))) (fun _ h9 => h9) rfl dX7_feel_141 ?_
  refine lv_imul hx hb dX7_feel_144 ?_
  refine kc_i (y := 0) (by decide +kernel) ?_
  refine lv_iload_n hx hb dX7_feel_145 rfl (lv_at hl 10 rfl) ?_
  refine lv_imul hx hb dX7_feel_146 ?_
  refine kc_i (y := 0) (by decide +kernel) ?_
  refine lv_iload hx hb dX7_feel_147 (lv_at hl 0 rfl) ?_
  refine lv_imul hx hb dX7_feel_149 ?_
  refine kc_i (y := 0) (by decide +kernel) ?_
  refine lv_iconst (v := 2) hx hb dX7_feel_150 (by decide) ?_
  refine lv_idiv hx hb dX7_feel_151 (by decide +kernel) ?_
  refine kc_i (y := 0) (by decide +kernel) ?_
  refine va_putN (D := (dC, dI)) (ci := 12) (v := .int 0) (ty := .int) (C := RX8) (T := TX8) (N := 8) hx hb hts hiX8 tyX8 tyX8_ok nmX8 hown hK hP hD hS 13 rfl rfl 7 (by decide) (va_Nw.use rfl (hM.1 _ (List.mem_of_getElem? (i := 16) rfl))) (fun _ h9 => h9) rfl (by decide +kernel) rfl rfl (Nat.le_of_ble_eq_true rfl) dX7_feel_152 (fun H locs hP hD hS => ?_)
  have hP : va_P (dC, dI) vwCl [(rg, .inr (11, [.ref mf, .ref mm, .ref mz, .ref ma, .ref sa, .int 0])), (mf, .inr (8, [.int 0, .int 0, .int 0])), (mm, .inr (8, [.int 0, .int 0, .int 0])), (mz, .inr (8, [.int 0, .int 0, .int 0])), (ma, .inl (cM, 3, .inr (.inr (.inr (.inr (va_up (va_up (va_up (fun _ => none) 0 (some mf)) 1 (some mm)) 2 (some mz))))))), (sa, .inl (cS, 9, .inr (.inr (.inr (.inr (va_up (va_up (va_up (va_up (va_up (va_up (va_up (va_up (va_up (fun _ => none) 0 (some s0)) 1 (some s1)) 2 (some s2)) 3 (some s3)) 4 (some s4)) 5 (some s5)) 6 (some s6)) 7 (some s7)) 8 (some s8))))))), (s0, .inr (12, [.int 8, .int 6, .ref mf, .int 1, .int 0, .int 900, .int 0, .int 0])), (s1, .inr (12, [.int 7, .int 5, .ref mf, .int 1, .int 0, .int 900, .int 0, .int 0])), (s2, .inr (12, [.int 3, .int 3, .ref mf, .int 1, .int 0, .int 900, .int 0, .int 0])), (s3, .inr (12, [.int 10, .int 8, .ref mm, .int 1, .int 0, .int 900, .int 0, .int 0])), (s4, .inr (12, [.int 9, .int 6, .ref mm, .int 1, .int 0, .int 900, .int 0, .int 0])), (s5, .inr (12, [.int 4, .int 3, .ref mm, .int 1, .int 0, .int 900, .int 0, .int 0])), (s6, .inr (12, [.int 5, .int 4, .ref mz, .int 1, .int 0, .int 900, .int 0, .int 0])), (s7, .inr (12, [.int 4, .int 3, .ref mf, .int 0, .int 0, .int 900, .int 0, .int 0])), (s8, .inr (12, [.int 6, .int 4, .ref mz, .int 0, .int 0, .int 900, .int 0, .int 0]))] H := hP
  have hD : va_D A [(rg, .inr (11, [.ref mf, .ref mm, .ref mz, .ref ma, .ref sa, .int 0])), (mf, .inr (8, [.int 0, .int 0, .int 0])), (mm, .inr (8, [.int 0, .int 0, .int 0])), (mz, .inr (8, [.int 0, .int 0, .int 0])), (ma, .inl (cM, 3, .inr (.inr (.inr (.inr (va_up (va_up (va_up (fun _ => none) 0 (some mf)) 1 (some mm)) 2 (some mz))))))), (sa, .inl (cS, 9, .inr (.inr (.inr (.inr (va_up (va_up (va_up (va_up (va_up (va_up (va_up (va_up (va_up (fun _ => none) 0 (some s0)) 1 (some s1)) 2 (some s2)) 3 (some s3)) 4 (some s4)) 5 (some s5)) 6 (some s6)) 7 (some s7)) 8 (some s8))))))), (s0, .inr (12, [.int 8, .int 6, .ref mf, .int 1, .int 0, .int 900, .int 0, .int 0])), (s1, .inr (12, [.int 7, .int 5, .ref mf, .int 1, .int 0, .int 900, .int 0, .int 0])), (s2, .inr (12, [.int 3, .int 3, .ref mf, .int 1, .int 0, .int 900, .int 0, .int 0])), (s3, .inr (12, [.int 10, .int 8, .ref mm, .int 1, .int 0, .int 900, .int 0, .int 0])), (s4, .inr (12, [.int 9, .int 6, .ref mm, .int 1, .int 0, .int 900, .int 0, .int 0])), (s5, .inr (12, [.int 4, .int 3, .ref mm, .int 1, .int 0, .int 900, .int 0, .int 0])), (s6, .inr (12, [.int 5, .int 4, .ref mz, .int 1, .int 0, .int 900, .int 0, .int 0])), (s7, .inr (12, [.int 4, .int 3, .ref mf, .int 0, .int 0, .int 900, .int 0, .int 0])), (s8, .inr (12, [.int 6, .int 4, .ref mz, .int 0, .int 0, .int 900, .int 0, .int 0]))] := hD
  refine lv_aload_n hx hb dX7_feel_155 rfl (lv_at hl 8 rfl) ?_
  refine lv_dup hx hb dX7_feel_156 rfl ?_
  refine va_get (D := (dC, dI)) (ci := 11) (v := .int 0) (C := RX7) (T := TX7) (N := 6) hx hb hts hiX7 hown hK hP 0 rfl rfl 5 (by decide) (hts (.fieldLink RX7 37 "SquareRig$Rig" "drive" "I") (by decide +kernel)) (fun _ h9 => h9) rfl dX7_feel_157 ?_
  refine lv_aload hx hb dX7_feel_160 (lv_at hl 1 rfl) ?_
  refine va_getN (D := (dC, dI)) (ci := 12) (v := .int 0) (C := RX8) (T := TX8) (N := 8) hx hb hts hiX8 hown hK hP 13 rfl rfl 7 (by decide) (va_Nw.use rfl (hM.1 _ (List.mem_of_getElem? (i := 16) rfl))) (fun _ h9 => h9) rfl dX7_feel_162 ?_
  refine lv_iadd hx hb dX7_feel_165 ?_
  refine kc_i (y := 0) (by decide +kernel) ?_
  refine va_put (D := (dC, dI)) (ci := 11) (v := .int 0) (ty := .int) (C := RX7) (T := TX7) (N := 6) hx hb hts hiX7 tyX7 tyX7_ok nmX7 hown hK hP hD hS 0 rfl rfl 5 (by decide) (hts (.fieldLink RX7 37 "SquareRig$Rig" "drive" "I") (by decide +kernel)) (fun _ h9 => h9) rfl (by decide +kernel) rfl rfl (Nat.le_of_ble_eq_true rfl) dX7_feel_166 (fun H locs hP hD hS => ?_)
  have hP : va_P (dC, dI) vwCl [(rg, .inr (11, [.ref mf, .ref mm, .ref mz, .ref ma, .ref sa, .int 0])), (mf, .inr (8, [.int 0, .int 0, .int 0])), (mm, .inr (8, [.int 0, .int 0, .int 0])), (mz, .inr (8, [.int 0, .int 0, .int 0])), (ma, .inl (cM, 3, .inr (.inr (.inr (.inr (va_up (va_up (va_up (fun _ => none) 0 (some mf)) 1 (some mm)) 2 (some mz))))))), (sa, .inl (cS, 9, .inr (.inr (.inr (.inr (va_up (va_up (va_up (va_up (va_up (va_up (va_up (va_up (va_up (fun _ => none) 0 (some s0)) 1 (some s1)) 2 (some s2)) 3 (some s3)) 4 (some s4)) 5 (some s5)) 6 (some s6)) 7 (some s7)) 8 (some s8))))))), (s0, .inr (12, [.int 8, .int 6, .ref mf, .int 1, .int 0, .int 900, .int 0, .int 0])), (s1, .inr (12, [.int 7, .int 5, .ref mf, .int 1, .int 0, .int 900, .int 0, .int 0])), (s2, .inr (12, [.int 3, .int 3, .ref mf, .int 1, .int 0, .int 900, .int 0, .int 0])), (s3, .inr (12, [.int 10, .int 8, .ref mm, .int 1, .int 0, .int 900, .int 0, .int 0])), (s4, .inr (12, [.int 9, .int 6, .ref mm, .int 1, .int 0, .int 900, .int 0, .int 0])), (s5, .inr (12, [.int 4, .int 3, .ref mm, .int 1, .int 0, .int 900, .int 0, .int 0])), (s6, .inr (12, [.int 5, .int 4, .ref mz, .int 1, .int 0, .int 900, .int 0, .int 0])), (s7, .inr (12, [.int 4, .int 3, .ref mf, .int 0, .int 0, .int 900, .int 0, .int 0])), (s8, .inr (12, [.int 6, .int 4, .ref mz, .int 0, .int 0, .int 900, .int 0, .int 0]))] H := hP
  have hD : va_D A [(rg, .inr (11, [.ref mf, .ref mm, .ref mz, .ref ma, .ref sa, .int 0])), (mf, .inr (8, [.int 0, .int 0, .int 0])), (mm, .inr (8, [.int 0, .int 0, .int 0])), (mz, .inr (8, [.int 0, .int 0, .int 0])), (ma, .inl (cM, 3, .inr (.inr (.inr (.inr (va_up (va_up (va_up (fun _ => none) 0 (some mf)) 1 (some mm)) 2 (some mz))))))), (sa, .inl (cS, 9, .inr (.inr (.inr (.inr (va_up (va_up (va_up (va_up (va_up (va_up (va_up (va_up (va_up (fun _ => none) 0 (some s0)) 1 (some s1)) 2 (some s2)) 3 (some s3)) 4 (some s4)) 5 (some s5)) 6 (some s6)) 7 (some s7)) 8 (some s8))))))), (s0, .inr (12, [.int 8, .int 6, .ref mf, .int 1, .int 0, .int 900, .int 0, .int 0])), (s1, .inr (12, [.int 7, .int 5, .ref mf, .int 1, .int 0, .int 900, .int 0, .int 0])), (s2, .inr (12, [.int 3, .int 3, .ref mf, .int 1, .int 0, .int 900, .int 0, .int 0])), (s3, .inr (12, [.int 10, .int 8, .ref mm, .int 1, .int 0, .int 900, .int 0, .int 0])), (s4, .inr (12, [.int 9, .int 6, .ref mm, .int 1, .int 0, .int 900, .int 0, .int 0])), (s5, .inr (12, [.int 4, .int 3, .ref mm, .int 1, .int 0, .int 900, .int 0, .int 0])), (s6, .inr (12, [.int 5, .int 4, .ref mz, .int 1, .int 0, .int 900, .int 0, .int 0])), (s7, .inr (12, [.int 4, .int 3, .ref mf, .int 0, .int 0, .int 900, .int 0, .int 0])), (s8, .inr (12, [.int 6, .int 4, .ref mz, .int 0, .int 0, .int 900, .int 0, .int 0]))] := hD
  refine lv_aload hx hb dX7_feel_169 (lv_at hl 1 rfl) ?_
  refine va_getN (D := (dC, dI)) (ci := 12) (v := .ref mf) (C := RX8) (T := TX8) (N := 8) hx hb hts hiX8 hown hK hP 13 rfl rfl 2 (by decide) (va_Nw.use rfl (hM.1 _ (List.mem_of_getElem? (i := 8) rfl))) (fun _ h9 => h9) rfl dX7_feel_171 ?_
  refine lv_dup hx hb dX7_feel_174 rfl ?_
  refine va_getN (D := (dC, dI)) (ci := 8) (v := .int 0) (C := RX4) (T := TX4) (N := 3) hx hb hts hiX4 hown hK hP 1 rfl rfl 2 (by decide) (va_Nw.use rfl (hM.1 _ (List.mem_of_getElem? (i := 4) rfl))) (fun _ h9 => h9) rfl dX7_feel_175 ?_
  refine lv_aload hx hb dX7_feel_178 (lv_at hl 1 rfl) ?_
  refine va_getN (D := (dC, dI)) (ci := 12) (v := .int 0) (C := RX8) (T := TX8) (N := 8) hx hb hts hiX8 hown hK hP 13 rfl rfl 7 (by decide) (va_Nw.use rfl (hM.1 _ (List.mem_of_getElem? (i := 16) rfl))) (fun _ h9 => h9) rfl dX7_feel_180 ?_
  refine va_mabs hx hb (hml.trans hl.1.symm) hown (hts (.methodLink RX7 48 Lib.Math.abs.name) (by decide +kernel)) (hts (.static Lib.Math.abs.name) (by decide +kernel)) (hts (.initialized "java/lang/Math") (by decide +kernel)) (hts (.code Lib.Math.abs.name Lib.Math.abs.code 1 (some .int)) (by decide +kernel)) (Nat.le_of_ble_eq_true rfl) (Nat.le_of_ble_eq_true rfl) (Nat.le_of_ble_eq_true rfl) (Nat.le_of_ble_eq_true rfl) dX7_feel_183 ?_
  refine kc_i (y := 0) (by decide +kernel) ?_
  refine lv_iadd hx hb dX7_feel_186 ?_
  refine kc_i (y := 0) (by decide +kernel) ?_
  refine va_putN (D := (dC, dI)) (ci := 8) (v := .int 0) (ty := .int) (C := RX4) (T := TX4) (N := 3) hx hb hts hiX4 tyX4 tyX4_ok nmX4 hown hK hP hD hS 1 rfl rfl 2 (by decide) (va_Nw.use rfl (hM.1 _ (List.mem_of_getElem? (i := 4) rfl))) (fun _ h9 => h9) rfl (by decide +kernel) rfl rfl (Nat.le_of_ble_eq_true rfl) dX7_feel_187 (fun H locs hP hD hS => ?_)
  have hP : va_P (dC, dI) vwCl [(rg, .inr (11, [.ref mf, .ref mm, .ref mz, .ref ma, .ref sa, .int 0])), (mf, .inr (8, [.int 0, .int 0, .int 0])), (mm, .inr (8, [.int 0, .int 0, .int 0])), (mz, .inr (8, [.int 0, .int 0, .int 0])), (ma, .inl (cM, 3, .inr (.inr (.inr (.inr (va_up (va_up (va_up (fun _ => none) 0 (some mf)) 1 (some mm)) 2 (some mz))))))), (sa, .inl (cS, 9, .inr (.inr (.inr (.inr (va_up (va_up (va_up (va_up (va_up (va_up (va_up (va_up (va_up (fun _ => none) 0 (some s0)) 1 (some s1)) 2 (some s2)) 3 (some s3)) 4 (some s4)) 5 (some s5)) 6 (some s6)) 7 (some s7)) 8 (some s8))))))), (s0, .inr (12, [.int 8, .int 6, .ref mf, .int 1, .int 0, .int 900, .int 0, .int 0])), (s1, .inr (12, [.int 7, .int 5, .ref mf, .int 1, .int 0, .int 900, .int 0, .int 0])), (s2, .inr (12, [.int 3, .int 3, .ref mf, .int 1, .int 0, .int 900, .int 0, .int 0])), (s3, .inr (12, [.int 10, .int 8, .ref mm, .int 1, .int 0, .int 900, .int 0, .int 0])), (s4, .inr (12, [.int 9, .int 6, .ref mm, .int 1, .int 0, .int 900, .int 0, .int 0])), (s5, .inr (12, [.int 4, .int 3, .ref mm, .int 1, .int 0, .int 900, .int 0, .int 0])), (s6, .inr (12, [.int 5, .int 4, .ref mz, .int 1, .int 0, .int 900, .int 0, .int 0])), (s7, .inr (12, [.int 4, .int 3, .ref mf, .int 0, .int 0, .int 900, .int 0, .int 0])), (s8, .inr (12, [.int 6, .int 4, .ref mz, .int 0, .int 0, .int 900, .int 0, .int 0]))] H := hP
  have hD : va_D A [(rg, .inr (11, [.ref mf, .ref mm, .ref mz, .ref ma, .ref sa, .int 0])), (mf, .inr (8, [.int 0, .int 0, .int 0])), (mm, .inr (8, [.int 0, .int 0, .int 0])), (mz, .inr (8, [.int 0, .int 0, .int 0])), (ma, .inl (cM, 3, .inr (.inr (.inr (.inr (va_up (va_up (va_up (fun _ => none) 0 (some mf)) 1 (some mm)) 2 (some mz))))))), (sa, .inl (cS, 9, .inr (.inr (.inr (.inr (va_up (va_up (va_up (va_up (va_up (va_up (va_up (va_up (va_up (fun _ => none) 0 (some s0)) 1 (some s1)) 2 (some s2)) 3 (some s3)) 4 (some s4)) 5 (some s5)) 6 (some s6)) 7 (some s7)) 8 (some s8))))))), (s0, .inr (12, [.int 8, .int 6, .ref mf, .int 1, .int 0, .int 900, .int 0, .int 0])), (s1, .inr (12, [.int 7, .int 5, .ref mf, .int 1, .int 0, .int 900, .int 0, .int 0])), (s2, .inr (12, [.int 3, .int 3, .ref mf, .int 1, .int 0, .int 900, .int 0, .int 0])), (s3, .inr (12, [.int 10, .int 8, .ref mm, .int 1, .int 0, .int 900, .int 0, .int 0])), (s4, .inr (12, [.int 9, .int 6, .ref mm, .int 1, .int 0, .int 900, .int 0, .int 0])), (s5, .inr (12, [.int 4, .int 3, .ref mm, .int 1, .int 0, .int 900, .int 0, .int 0])), (s6, .inr (12, [.int 5, .int 4, .ref mz, .int 1, .int 0, .int 900, .int 0, .int 0])), (s7, .inr (12, [.int 4, .int 3, .ref mf, .int 0, .int 0, .int 900, .int 0, .int 0])), (s8, .inr (12, [.int 6, .int 4, .ref mz, .int 0, .int 0, .int 900, .int 0, .int 0]))] := hD
  refine lv_iinc (v := 8) (lv' := [(8, .int 8), (10, .int 0), (9, .ref s7), (7, .int 9), (6, .ref sa), (5, .int 0), (4, .int (-12)), (3, .int 4), (0, .ref rg), (1, .int 0), (2, .int 0)]) hx hb dX7_feel_190 hl (k := 2) rfl (by decide +kernel) (by decide) rfl (fun ls hl => ?_)
  refine lv_goto (tgt := 88) hx hb dX7_feel_193 (by decide) ?_
  refine lv_iload hx hb dX7_feel_88 (lv_at hl 0 rfl) ?_
  refine lv_iload hx hb dX7_feel_90 (lv_at hl 3 rfl) ?_
  refine lv_icmp_ge (tgt := 196) hx hb dX7_feel_92 (by decide) (fun c_ => absurd c_ (by decide +kernel)) (fun _ => ?_)
  refine lv_aload hx hb dX7_feel_95 (lv_at hl 4 rfl) ?_
  refine lv_iload hx hb dX7_feel_97 (lv_at hl 0 rfl) ?_
  refine va_aldq hx hb hK hP 5 1 rfl rfl (pk_in 8 9 (by decide) rfl) dX7_feel_99 ?_
  refine kc_v (y := .ref s8) rfl ?_
  refine lv_astore (lv' := [(9, .ref s8), (8, .int 8), (10, .int 0), (7, .int 9), (6, .ref sa), (5, .int 0), (4, .int (-12)), (3, .int 4), (0, .ref rg), (1, .int 0), (2, .int 0)]) hx hb dX7_feel_100 hl (by decide) rfl (fun ls hl => ?_)
  refine lv_aload hx hb dX7_feel_102 (lv_at hl 0 rfl) ?_
  refine va_getN (D := (dC, dI)) (ci := 12) (v := .int 0) (C := RX8) (T := TX8) (N := 8) hx hb hts hiX8 hown hK hP 14 rfl rfl 3 (by decide) (va_Nw.use rfl (hM.1 _ (List.mem_of_getElem? (i := 9) rfl))) (fun _ h9 => h9) rfl dX7_feel_104 ?_
  refine lv_if_eq (tgt := 128) hx hb dX7_feel_107 (by decide) (fun _ => ?_) (fun c_ => absurd (by decide +kernel) c_)
  refine lv_iload hx hb dX7_feel_128 (lv_at hl 5 rfl) ?_
  refine lv_istore (lv' := [(10, .int 0), (9, .ref s8), (8, .int 8), (7, .int 9), (6, .ref sa), (5, .int 0), (4, .int (-12)), (3, .int 4), (0, .ref rg), (1, .int 0), (2, .int 0)]) hx hb dX7_feel_130 hl (by decide) rfl (fun ls hl => ?_)
  refine lv_aload hx hb dX7_feel_132 (lv_at hl 1 rfl) ?_
  refine lv_aload hx hb dX7_feel_134 (lv_at hl 1 rfl) ?_
  refine va_getN (D := (dC, dI)) (ci := 12) (v := .int 6) (C := RX8) (T := TX8) (N := 8) hx hb hts hiX8 hown hK hP 14 rfl rfl 0 (by decide) (va_Nw.use rfl (hM.1 _ (List.mem_of_getElem? (i := 6) rfl))) (fun _ h9 => h9) rfl dX7_feel_136 ?_
  refine lv_aload hx hb dX7_feel_139 (lv_at hl 1 rfl) ?_
  refine va_getN (D := (dC, dI)) (ci := 12) (v := .int 0) (C := RX8) (T := TX8) (N := 8) hx hb hts hiX8 hown hK hP 14 rfl rfl 4 (by decide) (va_Nw.use rfl (hM.1 _ (List.mem_of_getElem? (i := 10) rfl))) (fun _ h9 => h9) rfl dX7_feel_141 ?_
  refine lv_imul hx hb dX7_feel_144 ?_
  refine kc_i (y := 0) (by decide +kernel) ?_
  refine lv_iload_n hx hb dX7_feel_145 rfl (lv_at hl 10 rfl) ?_
  refine lv_imul hx hb dX7_feel_146 ?_
  refine kc_i (y := 0) (by decide +kernel) ?_
  refine lv_iload hx hb dX7_feel_147 (lv_at hl 0 rfl) ?_
  refine lv_imul hx hb dX7_feel_149 ?_
  refine kc_i (y := 0) (by decide +kernel) ?_
  refine lv_iconst (v := 2) hx hb dX7_feel_150 (by decide) ?_
  refine lv_idiv hx hb dX7_feel_151 (by decide +kernel) ?_
  refine kc_i (y := 0) (by decide +kernel) ?_
  refine va_putN (D := (dC, dI)) (ci := 12) (v := .int 0) (ty := .int) (C := RX8) (T := TX8) (N := 8) hx hb hts hiX8 tyX8 tyX8_ok nmX8 hown hK hP hD hS 14 rfl rfl 7 (by decide) (va_Nw.use rfl (hM.1 _ (List.mem_of_getElem? (i := 16) rfl))) (fun _ h9 => h9) rfl (by decide +kernel) rfl rfl (Nat.le_of_ble_eq_true rfl) dX7_feel_152 (fun H locs hP hD hS => ?_)
  have hP : va_P (dC, dI) vwCl [(rg, .inr (11, [.ref mf, .ref mm, .ref mz, .ref ma, .ref sa, .int 0])), (mf, .inr (8, [.int 0, .int 0, .int 0])), (mm, .inr (8, [.int 0, .int 0, .int 0])), (mz, .inr (8, [.int 0, .int 0, .int 0])), (ma, .inl (cM, 3, .inr (.inr (.inr (.inr (va_up (va_up (va_up (fun _ => none) 0 (some mf)) 1 (some mm)) 2 (some mz))))))), (sa, .inl (cS, 9, .inr (.inr (.inr (.inr (va_up (va_up (va_up (va_up (va_up (va_up (va_up (va_up (va_up (fun _ => none) 0 (some s0)) 1 (some s1)) 2 (some s2)) 3 (some s3)) 4 (some s4)) 5 (some s5)) 6 (some s6)) 7 (some s7)) 8 (some s8))))))), (s0, .inr (12, [.int 8, .int 6, .ref mf, .int 1, .int 0, .int 900, .int 0, .int 0])), (s1, .inr (12, [.int 7, .int 5, .ref mf, .int 1, .int 0, .int 900, .int 0, .int 0])), (s2, .inr (12, [.int 3, .int 3, .ref mf, .int 1, .int 0, .int 900, .int 0, .int 0])), (s3, .inr (12, [.int 10, .int 8, .ref mm, .int 1, .int 0, .int 900, .int 0, .int 0])), (s4, .inr (12, [.int 9, .int 6, .ref mm, .int 1, .int 0, .int 900, .int 0, .int 0])), (s5, .inr (12, [.int 4, .int 3, .ref mm, .int 1, .int 0, .int 900, .int 0, .int 0])), (s6, .inr (12, [.int 5, .int 4, .ref mz, .int 1, .int 0, .int 900, .int 0, .int 0])), (s7, .inr (12, [.int 4, .int 3, .ref mf, .int 0, .int 0, .int 900, .int 0, .int 0])), (s8, .inr (12, [.int 6, .int 4, .ref mz, .int 0, .int 0, .int 900, .int 0, .int 0]))] H := hP
  have hD : va_D A [(rg, .inr (11, [.ref mf, .ref mm, .ref mz, .ref ma, .ref sa, .int 0])), (mf, .inr (8, [.int 0, .int 0, .int 0])), (mm, .inr (8, [.int 0, .int 0, .int 0])), (mz, .inr (8, [.int 0, .int 0, .int 0])), (ma, .inl (cM, 3, .inr (.inr (.inr (.inr (va_up (va_up (va_up (fun _ => none) 0 (some mf)) 1 (some mm)) 2 (some mz))))))), (sa, .inl (cS, 9, .inr (.inr (.inr (.inr (va_up (va_up (va_up (va_up (va_up (va_up (va_up (va_up (va_up (fun _ => none) 0 (some s0)) 1 (some s1)) 2 (some s2)) 3 (some s3)) 4 (some s4)) 5 (some s5)) 6 (some s6)) 7 (some s7)) 8 (some s8))))))), (s0, .inr (12, [.int 8, .int 6, .ref mf, .int 1, .int 0, .int 900, .int 0, .int 0])), (s1, .inr (12, [.int 7, .int 5, .ref mf, .int 1, .int 0, .int 900, .int 0, .int 0])), (s2, .inr (12, [.int 3, .int 3, .ref mf, .int 1, .int 0, .int 900, .int 0, .int 0])), (s3, .inr (12, [.int 10, .int 8, .ref mm, .int 1, .int 0, .int 900, .int 0, .int 0])), (s4, .inr (12, [.int 9, .int 6, .ref mm, .int 1, .int 0, .int 900, .int 0, .int 0])), (s5, .inr (12, [.int 4, .int 3, .ref mm, .int 1, .int 0, .int 900, .int 0, .int 0])), (s6, .inr (12, [.int 5, .int 4, .ref mz, .int 1, .int 0, .int 900, .int 0, .int 0])), (s7, .inr (12, [.int 4, .int 3, .ref mf, .int 0, .int 0, .int 900, .int 0, .int 0])), (s8, .inr (12, [.int 6, .int 4, .ref mz, .int 0, .int 0, .int 900, .int 0, .int 0]))] := hD
  refine lv_aload_n hx hb dX7_feel_155 rfl (lv_at hl 8 rfl) ?_
  refine lv_dup hx hb dX7_feel_156 rfl ?_
  refine va_get (D := (dC, dI)) (ci := 11) (v := .int 0) (C := RX7) (T := TX7) (N := 6) hx hb hts hiX7 hown hK hP 0 rfl rfl 5 (by decide) (hts (.fieldLink RX7 37 "SquareRig$Rig" "drive" "I") (by decide +kernel)) (fun _ h9 => h9) rfl dX7_feel_157 ?_
  refine lv_aload hx hb dX7_feel_160 (lv_at hl 1 rfl) ?_
  refine va_getN (D := (dC, dI)) (ci := 12) (v := .int 0) (C := RX8) (T := TX8) (N := 8) hx hb hts hiX8 hown hK hP 14 rfl rfl 7 (by decide) (va_Nw.use rfl (hM.1 _ (List.mem_of_getElem? (i := 16) rfl))) (fun _ h9 => h9) rfl dX7_feel_162 ?_
  refine lv_iadd hx hb dX7_feel_165 ?_
  refine kc_i (y := 0) (by decide +kernel) ?_
  refine va_put (D := (dC, dI)) (ci := 11) (v := .int 0) (ty := .int) (C := RX7) (T := TX7) (N := 6) hx hb hts hiX7 tyX7 tyX7_ok nmX7 hown hK hP hD hS 0 rfl rfl 5 (by decide) (hts (.fieldLink RX7 37 "SquareRig$Rig" "drive" "I") (by decide +kernel)) (fun _ h9 => h9) rfl (by decide +kernel) rfl rfl (Nat.le_of_ble_eq_true rfl) dX7_feel_166 (fun H locs hP hD hS => ?_)
  have hP : va_P (dC, dI) vwCl [(rg, .inr (11, [.ref mf, .ref mm, .ref mz, .ref ma, .ref sa, .int 0])), (mf, .inr (8, [.int 0, .int 0, .int 0])), (mm, .inr (8, [.int 0, .int 0, .int 0])), (mz, .inr (8, [.int 0, .int 0, .int 0])), (ma, .inl (cM, 3, .inr (.inr (.inr (.inr (va_up (va_up (va_up (fun _ => none) 0 (some mf)) 1 (some mm)) 2 (some mz))))))), (sa, .inl (cS, 9, .inr (.inr (.inr (.inr (va_up (va_up (va_up (va_up (va_up (va_up (va_up (va_up (va_up (fun _ => none) 0 (some s0)) 1 (some s1)) 2 (some s2)) 3 (some s3)) 4 (some s4)) 5 (some s5)) 6 (some s6)) 7 (some s7)) 8 (some s8))))))), (s0, .inr (12, [.int 8, .int 6, .ref mf, .int 1, .int 0, .int 900, .int 0, .int 0])), (s1, .inr (12, [.int 7, .int 5, .ref mf, .int 1, .int 0, .int 900, .int 0, .int 0])), (s2, .inr (12, [.int 3, .int 3, .ref mf, .int 1, .int 0, .int 900, .int 0, .int 0])), (s3, .inr (12, [.int 10, .int 8, .ref mm, .int 1, .int 0, .int 900, .int 0, .int 0])), (s4, .inr (12, [.int 9, .int 6, .ref mm, .int 1, .int 0, .int 900, .int 0, .int 0])), (s5, .inr (12, [.int 4, .int 3, .ref mm, .int 1, .int 0, .int 900, .int 0, .int 0])), (s6, .inr (12, [.int 5, .int 4, .ref mz, .int 1, .int 0, .int 900, .int 0, .int 0])), (s7, .inr (12, [.int 4, .int 3, .ref mf, .int 0, .int 0, .int 900, .int 0, .int 0])), (s8, .inr (12, [.int 6, .int 4, .ref mz, .int 0, .int 0, .int 900, .int 0, .int 0]))] H := hP
  have hD : va_D A [(rg, .inr (11, [.ref mf, .ref mm, .ref mz, .ref ma, .ref sa, .int 0])), (mf, .inr (8, [.int 0, .int 0, .int 0])), (mm, .inr (8, [.int 0, .int 0, .int 0])), (mz, .inr (8, [.int 0, .int 0, .int 0])), (ma, .inl (cM, 3, .inr (.inr (.inr (.inr (va_up (va_up (va_up (fun _ => none) 0 (some mf)) 1 (some mm)) 2 (some mz))))))), (sa, .inl (cS, 9, .inr (.inr (.inr (.inr (va_up (va_up (va_up (va_up (va_up (va_up (va_up (va_up (va_up (fun _ => none) 0 (some s0)) 1 (some s1)) 2 (some s2)) 3 (some s3)) 4 (some s4)) 5 (some s5)) 6 (some s6)) 7 (some s7)) 8 (some s8))))))), (s0, .inr (12, [.int 8, .int 6, .ref mf, .int 1, .int 0, .int 900, .int 0, .int 0])), (s1, .inr (12, [.int 7, .int 5, .ref mf, .int 1, .int 0, .int 900, .int 0, .int 0])), (s2, .inr (12, [.int 3, .int 3, .ref mf, .int 1, .int 0, .int 900, .int 0, .int 0])), (s3, .inr (12, [.int 10, .int 8, .ref mm, .int 1, .int 0, .int 900, .int 0, .int 0])), (s4, .inr (12, [.int 9, .int 6, .ref mm, .int 1, .int 0, .int 900, .int 0, .int 0])), (s5, .inr (12, [.int 4, .int 3, .ref mm, .int 1, .int 0, .int 900, .int 0, .int 0])), (s6, .inr (12, [.int 5, .int 4, .ref mz, .int 1, .int 0, .int 900, .int 0, .int 0])), (s7, .inr (12, [.int 4, .int 3, .ref mf, .int 0, .int 0, .int 900, .int 0, .int 0])), (s8, .inr (12, [.int 6, .int 4, .ref mz, .int 0, .int 0, .int 900, .int 0, .int 0]))] := hD
  refine lv_aload hx hb dX7_feel_169 (lv_at hl 1 rfl) ?_
  refine va_getN (D := (dC, dI)) (ci := 12) (v := .ref mz) (C := RX8) (T := TX8) (N := 8) hx hb hts hiX8 hown hK hP 14 rfl rfl 2 (by decide) (va_Nw.use rfl (hM.1 _ (List.mem_of_getElem? (i := 8) rfl))) (fun _ h9 => h9) rfl dX7_feel_171 ?_
  refine lv_dup hx hb dX7_feel_174 rfl ?_
  refine va_getN (D := (dC, dI)) (ci := 8) (v := .int 0) (C := RX4) (T := TX4) (N := 3) hx hb hts hiX4 hown hK hP 3 rfl rfl 2 (by decide) (va_Nw.use rfl (hM.1 _ (List.mem_of_getElem? (i := 4) rfl))) (fun _ h9 => h9) rfl dX7_feel_175 ?_
  refine lv_aload hx hb dX7_feel_178 (lv_at hl 1 rfl) ?_
  refine va_getN (D := (dC, dI)) (ci := 12) (v := .int 0) (C := RX8) (T := TX8) (N := 8) hx hb hts hiX8 hown hK hP 14 rfl rfl 7 (by decide) (va_Nw.use rfl (hM.1 _ (List.mem_of_getElem? (i := 16) rfl))) (fun _ h9 => h9) rfl dX7_feel_180 ?_
  refine va_mabs hx hb (hml.trans hl.1.symm) hown (hts (.methodLink RX7 48 Lib.Math.abs.name) (by decide +kernel)) (hts (.static Lib.Math.abs.name) (by decide +kernel)) (hts (.initialized "java/lang/Math") (by decide +kernel)) (hts (.code Lib.Math.abs.name Lib.Math.abs.code 1 (some .int)) (by decide +kernel)) (Nat.le_of_ble_eq_true rfl) (Nat.le_of_ble_eq_true rfl) (Nat.le_of_ble_eq_true rfl) (Nat.le_of_ble_eq_true rfl) dX7_feel_183 ?_
  refine kc_i (y := 0) (by decide +kernel) ?_
  refine lv_iadd hx hb dX7_feel_186 ?_
  refine kc_i (y := 0) (by decide +kernel) ?_
  refine va_putN (D := (dC, dI)) (ci := 8) (v := .int 0) (ty := .int) (C := RX4) (T := TX4) (N := 3) hx hb hts hiX4 tyX4 tyX4_ok nmX4 hown hK hP hD hS 3 rfl rfl 2 (by decide) (va_Nw.use rfl (hM.1 _ (List.mem_of_getElem? (i := 4) rfl))) (fun _ h9 => h9) rfl (by decide +kernel) rfl rfl (Nat.le_of_ble_eq_true rfl) dX7_feel_187 (fun H locs hP hD hS => ?_)
  have hP : va_P (dC, dI) vwCl [(rg, .inr (11, [.ref mf, .ref mm, .ref mz, .ref ma, .ref sa, .int 0])), (mf, .inr (8, [.int 0, .int 0, .int 0])), (mm, .inr (8, [.int 0, .int 0, .int 0])), (mz, .inr (8, [.int 0, .int 0, .int 0])), (ma, .inl (cM, 3, .inr (.inr (.inr (.inr (va_up (va_up (va_up (fun _ => none) 0 (some mf)) 1 (some mm)) 2 (some mz))))))), (sa, .inl (cS, 9, .inr (.inr (.inr (.inr (va_up (va_up (va_up (va_up (va_up (va_up (va_up (va_up (va_up (fun _ => none) 0 (some s0)) 1 (some s1)) 2 (some s2)) 3 (some s3)) 4 (some s4)) 5 (some s5)) 6 (some s6)) 7 (some s7)) 8 (some s8))))))), (s0, .inr (12, [.int 8, .int 6, .ref mf, .int 1, .int 0, .int 900, .int 0, .int 0])), (s1, .inr (12, [.int 7, .int 5, .ref mf, .int 1, .int 0, .int 900, .int 0, .int 0])), (s2, .inr (12, [.int 3, .int 3, .ref mf, .int 1, .int 0, .int 900, .int 0, .int 0])), (s3, .inr (12, [.int 10, .int 8, .ref mm, .int 1, .int 0, .int 900, .int 0, .int 0])), (s4, .inr (12, [.int 9, .int 6, .ref mm, .int 1, .int 0, .int 900, .int 0, .int 0])), (s5, .inr (12, [.int 4, .int 3, .ref mm, .int 1, .int 0, .int 900, .int 0, .int 0])), (s6, .inr (12, [.int 5, .int 4, .ref mz, .int 1, .int 0, .int 900, .int 0, .int 0])), (s7, .inr (12, [.int 4, .int 3, .ref mf, .int 0, .int 0, .int 900, .int 0, .int 0])), (s8, .inr (12, [.int 6, .int 4, .ref mz, .int 0, .int 0, .int 900, .int 0, .int 0]))] H := hP
  have hD : va_D A [(rg, .inr (11, [.ref mf, .ref mm, .ref mz, .ref ma, .ref sa, .int 0])), (mf, .inr (8, [.int 0, .int 0, .int 0])), (mm, .inr (8, [.int 0, .int 0, .int 0])), (mz, .inr (8, [.int 0, .int 0, .int 0])), (ma, .inl (cM, 3, .inr (.inr (.inr (.inr (va_up (va_up (va_up (fun _ => none) 0 (some mf)) 1 (some mm)) 2 (some mz))))))), (sa, .inl (cS, 9, .inr (.inr (.inr (.inr (va_up (va_up (va_up (va_up (va_up (va_up (va_up (va_up (va_up (fun _ => none) 0 (some s0)) 1 (some s1)) 2 (some s2)) 3 (some s3)) 4 (some s4)) 5 (some s5)) 6 (some s6)) 7 (some s7)) 8 (some s8))))))), (s0, .inr (12, [.int 8, .int 6, .ref mf, .int 1, .int 0, .int 900, .int 0, .int 0])), (s1, .inr (12, [.int 7, .int 5, .ref mf, .int 1, .int 0, .int 900, .int 0, .int 0])), (s2, .inr (12, [.int 3, .int 3, .ref mf, .int 1, .int 0, .int 900, .int 0, .int 0])), (s3, .inr (12, [.int 10, .int 8, .ref mm, .int 1, .int 0, .int 900, .int 0, .int 0])), (s4, .inr (12, [.int 9, .int 6, .ref mm, .int 1, .int 0, .int 900, .int 0, .int 0])), (s5, .inr (12, [.int 4, .int 3, .ref mm, .int 1, .int 0, .int 900, .int 0, .int 0])), (s6, .inr (12, [.int 5, .int 4, .ref mz, .int 1, .int 0, .int 900, .int 0, .int 0])), (s7, .inr (12, [.int 4, .int 3, .ref mf, .int 0, .int 0, .int 900, .int 0, .int 0])), (s8, .inr (12, [.int 6, .int 4, .ref mz, .int 0, .int 0, .int 900, .int 0, .int 0]))] := hD
  refine lv_iinc (v := 9) (lv' := [(8, .int 9), (10, .int 0), (9, .ref s8), (7, .int 9), (6, .ref sa), (5, .int 0), (4, .int (-12)), (3, .int 4), (0, .ref rg), (1, .int 0), (2, .int 0)]) hx hb dX7_feel_190 hl (k := 2) rfl (by decide +kernel) (by decide) rfl (fun ls hl => ?_)
  refine lv_goto (tgt := 88) hx hb dX7_feel_193 (by decide) ?_
  refine lv_iload hx hb dX7_feel_88 (lv_at hl 0 rfl) ?_
  refine lv_iload hx hb dX7_feel_90 (lv_at hl 3 rfl) ?_
  refine lv_icmp_ge (tgt := 196) hx hb dX7_feel_92 (by decide) (fun _ => ?_) (fun c_ => absurd (by decide +kernel) c_)
  exact W.vret hx hb hr (fun t ht hW => ⟨⟨(), rfl, trivial, kB_end (w9 := [(rg, .inr (11, [.ref mf, .ref mm, .ref mz, .ref ma, .ref sa, .int 0])), (mf, .inr (8, [.int 0, .int 0, .int 0])), (mm, .inr (8, [.int 0, .int 0, .int 0])), (mz, .inr (8, [.int 0, .int 0, .int 0])), (ma, .inl (cM, 3, .inr (.inr (.inr (.inr (va_up (va_up (va_up (fun _ => none) 0 (some mf)) 1 (some mm)) 2 (some mz))))))), (sa, .inl (cS, 9, .inr (.inr (.inr (.inr (va_up (va_up (va_up (va_up (va_up (va_up (va_up (va_up (va_up (fun _ => none) 0 (some s0)) 1 (some s1)) 2 (some s2)) 3 (some s3)) 4 (some s4)) 5 (some s5)) 6 (some s6)) 7 (some s7)) 8 (some s8))))))), (s0, .inr (12, [.int 8, .int 6, .ref mf, .int 1, .int 0, .int 900, .int 0, .int 0])), (s1, .inr (12, [.int 7, .int 5, .ref mf, .int 1, .int 0, .int 900, .int 0, .int 0])), (s2, .inr (12, [.int 3, .int 3, .ref mf, .int 1, .int 0, .int 900, .int 0, .int 0])), (s3, .inr (12, [.int 10, .int 8, .ref mm, .int 1, .int 0, .int 900, .int 0, .int 0])), (s4, .inr (12, [.int 9, .int 6, .ref mm, .int 1, .int 0, .int 900, .int 0, .int 0])), (s5, .inr (12, [.int 4, .int 3, .ref mm, .int 1, .int 0, .int 900, .int 0, .int 0])), (s6, .inr (12, [.int 5, .int 4, .ref mz, .int 1, .int 0, .int 900, .int 0, .int 0])), (s7, .inr (12, [.int 4, .int 3, .ref mf, .int 0, .int 0, .int 900, .int 0, .int 0])), (s8, .inr (12, [.int 6, .int 4, .ref mz, .int 0, .int 0, .int 900, .int 0, .int 0]))]) (t9 := []) hP hK hD [0, 1, 2, 3, 4, 5, 6, 7, 8, 9, 10, 11, 12, 13, 14] [] rfl (by decide) rfl rfl t ht hW⟩, hS.F ht⟩) hS.2.2 dX7_feel_196
abbrev wd_k_strainAll (z : Nat → Nat) (rg : Nat) (mf : Nat) (mm : Nat) (mz : Nat) (ma : Nat) (sa : Nat) (s0 : Nat) (s1 : Nat) (s2 : Nat) (s3 : Nat) (s4 : Nat) (s5 : Nat) (s6 : Nat) (s7 : Nat) (s8 : Nat) (lg : Nat) (cM : ClassId) (cS : ClassId) (mi : Int32) : va_W := [(rg, .inr (11, [.ref mf, .ref mm, .ref mz, .ref ma, .ref sa, .int 0])), (mf, .inr (8, [.int 0, .int 0, .int 0])), (mm, .inr (8, [.int 0, .int 0, .int 0])), (mz, .inr (8, [.int 0, .int 0, .int 0])), (ma, .inl (cM, 3, .inr (.inr (.inr (.inr (va_up (va_up (va_up (fun _ => none) 0 (some mf)) 1 (some mm)) 2 (some mz))))))), (sa, .inl (cS, 9, .inr (.inr (.inr (.inr (va_up (va_up (va_up (va_up (va_up (va_up (va_up (va_up (va_up (fun _ => none) 0 (some s0)) 1 (some s1)) 2 (some s2)) 3 (some s3)) 4 (some s4)) 5 (some s5)) 6 (some s6)) 7 (some s7)) 8 (some s8))))))), (s0, .inr (12, [.int 8, .int 6, .ref mf, .int 1, .int 0, .int 900, .int 0, .int 0])), (s1, .inr (12, [.int 7, .int 5, .ref mf, .int 1, .int 0, .int 900, .int 0, .int 0])), (s2, .inr (12, [.int 3, .int 3, .ref mf, .int 1, .int 0, .int 900, .int 0, .int 0])), (s3, .inr (12, [.int 10, .int 8, .ref mm, .int 1, .int 0, .int 900, .int 0, .int 0])), (s4, .inr (12, [.int 9, .int 6, .ref mm, .int 1, .int 0, .int 900, .int 0, .int 0])), (s5, .inr (12, [.int 4, .int 3, .ref mm, .int 1, .int 0, .int 900, .int 0, .int 0])), (s6, .inr (12, [.int 5, .int 4, .ref mz, .int 1, .int 0, .int 900, .int 0, .int 0])), (s7, .inr (12, [.int 4, .int 3, .ref mf, .int 0, .int 0, .int 900, .int 0, .int 0])), (s8, .inr (12, [.int 6, .int 4, .ref mz, .int 0, .int 0, .int 900, .int 0, .int 0]))]
set_option maxHeartbeats 4000000 in
set_option maxRecDepth 100000 in
theorem k_strainAll (l : Launch) (dC : Nat → ClassId) (dI : Nat → Nat → Nat) (z zK zV : Nat → Nat) (rg : Nat) (mf : Nat) (mm : Nat) (mz : Nat) (ma : Nat) (sa : Nat) (s0 : Nat) (s1 : Nat) (s2 : Nat) (s3 : Nat) (s4 : Nat) (s5 : Nat) (s6 : Nat) (s7 : Nat) (s8 : Nat) (lg : Nat) (cM : ClassId) (cS : ClassId) (mi : Int32) (sz : Nat)  : Met l yX7_strainAll wsX7_strainAll ({ frames := 1, cells := 0, slots := 0, locals := 13 }) (kP dC dI z zK zV [.ref rg, .ref lg, .int mi] sz (wd_k_strainAll z rg mf mm mz ma sa s0 s1 s2 s3 s4 s5 s6 s7 s8 lg cM cS mi) [(cM, .object RX4), (cS, .object RX8)]) (va_Qi (fun (r : Int32) (_ : Unit) => 0 = r) (fun _ t => kB (dC, dI) (va_A (wd_k_strainAll z rg mf mm mz ma sa s0 s1 s2 s3 s4 s5 s6 s7 s8 lg cM cS mi) sz) [(rg, .inr (11, [.ref mf, .ref mm, .ref mz, .ref ma, .ref sa, .int 0])), (mf, .inr (8, [.int 0, .int 0, .int 0])), (mm, .inr (8, [.int 0, .int 0, .int 0])), (mz, .inr (8, [.int 0, .int 0, .int 0])), (ma, .inl (cM, 3, .inr (.inr (.inr (.inr (va_up (va_up (va_up (fun _ => none) 0 (some mf)) 1 (some mm)) 2 (some mz))))))), (sa, .inl (cS, 9, .inr (.inr (.inr (.inr (va_up (va_up (va_up (va_up (va_up (va_up (va_up (va_up (va_up (fun _ => none) 0 (some s0)) 1 (some s1)) 2 (some s2)) 3 (some s3)) 4 (some s4)) 5 (some s5)) 6 (some s6)) 7 (some s7)) 8 (some s8))))))), (s0, .inr (12, [.int 8, .int 6, .ref mf, .int 1, .int 0, .int 900, .int 0, .int 0])), (s1, .inr (12, [.int 7, .int 5, .ref mf, .int 1, .int 0, .int 900, .int 0, .int 0])), (s2, .inr (12, [.int 3, .int 3, .ref mf, .int 1, .int 0, .int 900, .int 0, .int 0])), (s3, .inr (12, [.int 10, .int 8, .ref mm, .int 1, .int 0, .int 900, .int 0, .int 0])), (s4, .inr (12, [.int 9, .int 6, .ref mm, .int 1, .int 0, .int 900, .int 0, .int 0])), (s5, .inr (12, [.int 4, .int 3, .ref mm, .int 1, .int 0, .int 900, .int 0, .int 0])), (s6, .inr (12, [.int 5, .int 4, .ref mz, .int 1, .int 0, .int 900, .int 0, .int 0])), (s7, .inr (12, [.int 4, .int 3, .ref mf, .int 0, .int 0, .int 900, .int 0, .int 0])), (s8, .inr (12, [.int 6, .int 4, .ref mz, .int 0, .int 0, .int 900, .int 0, .int 0]))] [] t) (va_A (wd_k_strainAll z rg mf mm mz ma sa s0 s1 s2 s3 s4 s5 s6 s7 s8 lg cM cS mi) sz)) 0 0 (va_A (wd_k_strainAll z rg mf mm mz ma sa s0 s1 s2 s3 s4 s5 s6 s7 s8 lg cM cS mi) sz) := by
  refine Met.ofW (cc := cX7_strainAll) (maxL := 9) (ret := (some .boolean)) (by decide) rfl ?_
  intro p e s m args below meth c s₁ B hml hv
  obtain ⟨rfl, hsz, hP, hK, hD0, hM⟩ := hv
  have hx := B.exec
  have hb := B.bytes
  have hr := B.returns
  have hts := atoms_spec (ws := wsX7_strainAll) B.pre
  have hown : s.vm.findClass RX7 = some m.cls := findClass_of_methodNamed B.named
  have hlocks := B.notSynchronized
  have hiX7 : ∀ w ∈ u_ws RX7 TX7 6, w ∈ wsX7_strainAll := by decide +kernel
  have hiX8 : ∀ w ∈ u_ws RX8 TX8 8, w ∈ wsX7_strainAll := by decide +kernel
  have hiX4 : ∀ w ∈ u_ws RX4 TX4 3, w ∈ wsX7_strainAll := by decide +kernel
  subst hsz
  have hD := hD0.self (sz := s.heap.size)
  generalize hAe : va_A (wd_k_strainAll z rg mf mm mz ma sa s0 s1 s2 s3 s4 s5 s6 s7 s8 lg cM cS mi) s.heap.size = A at hD hM ⊢
  have hA : ∀ q : Nat, s.heap.size ≤ q → A q := fun q h => by rw [← hAe]; exact Or.inr h
  have hS : va_S A s.heap s.heap [] := va_S.rf
  have hP : va_P (dC, dI) vwCl [(rg, .inr (11, [.ref mf, .ref mm, .ref mz, .ref ma, .ref sa, .int 0])), (mf, .inr (8, [.int 0, .int 0, .int 0])), (mm, .inr (8, [.int 0, .int 0, .int 0])), (mz, .inr (8, [.int 0, .int 0, .int 0])), (ma, .inl (cM, 3, .inr (.inr (.inr (.inr (va_up (va_up (va_up (fun _ => none) 0 (some mf)) 1 (some mm)) 2 (some mz))))))), (sa, .inl (cS, 9, .inr (.inr (.inr (.inr (va_up (va_up (va_up (va_up (va_up (va_up (va_up (va_up (va_up (fun _ => none) 0 (some s0)) 1 (some s1)) 2 (some s2)) 3 (some s3)) 4 (some s4)) 5 (some s5)) 6 (some s6)) 7 (some s7)) 8 (some s8))))))), (s0, .inr (12, [.int 8, .int 6, .ref mf, .int 1, .int 0, .int 900, .int 0, .int 0])), (s1, .inr (12, [.int 7, .int 5, .ref mf, .int 1, .int 0, .int 900, .int 0, .int 0])), (s2, .inr (12, [.int 3, .int 3, .ref mf, .int 1, .int 0, .int 900, .int 0, .int 0])), (s3, .inr (12, [.int 10, .int 8, .ref mm, .int 1, .int 0, .int 900, .int 0, .int 0])), (s4, .inr (12, [.int 9, .int 6, .ref mm, .int 1, .int 0, .int 900, .int 0, .int 0])), (s5, .inr (12, [.int 4, .int 3, .ref mm, .int 1, .int 0, .int 900, .int 0, .int 0])), (s6, .inr (12, [.int 5, .int 4, .ref mz, .int 1, .int 0, .int 900, .int 0, .int 0])), (s7, .inr (12, [.int 4, .int 3, .ref mf, .int 0, .int 0, .int 900, .int 0, .int 0])), (s8, .inr (12, [.int 6, .int 4, .ref mz, .int 0, .int 0, .int 900, .int 0, .int 0]))] s.heap := hP
  have hD : va_D A [(rg, .inr (11, [.ref mf, .ref mm, .ref mz, .ref ma, .ref sa, .int 0])), (mf, .inr (8, [.int 0, .int 0, .int 0])), (mm, .inr (8, [.int 0, .int 0, .int 0])), (mz, .inr (8, [.int 0, .int 0, .int 0])), (ma, .inl (cM, 3, .inr (.inr (.inr (.inr (va_up (va_up (va_up (fun _ => none) 0 (some mf)) 1 (some mm)) 2 (some mz))))))), (sa, .inl (cS, 9, .inr (.inr (.inr (.inr (va_up (va_up (va_up (va_up (va_up (va_up (va_up (va_up (va_up (fun _ => none) 0 (some s0)) 1 (some s1)) 2 (some s2)) 3 (some s3)) 4 (some s4)) 5 (some s5)) 6 (some s6)) 7 (some s7)) 8 (some s8))))))), (s0, .inr (12, [.int 8, .int 6, .ref mf, .int 1, .int 0, .int 900, .int 0, .int 0])), (s1, .inr (12, [.int 7, .int 5, .ref mf, .int 1, .int 0, .int 900, .int 0, .int 0])), (s2, .inr (12, [.int 3, .int 3, .ref mf, .int 1, .int 0, .int 900, .int 0, .int 0])), (s3, .inr (12, [.int 10, .int 8, .ref mm, .int 1, .int 0, .int 900, .int 0, .int 0])), (s4, .inr (12, [.int 9, .int 6, .ref mm, .int 1, .int 0, .int 900, .int 0, .int 0])), (s5, .inr (12, [.int 4, .int 3, .ref mm, .int 1, .int 0, .int 900, .int 0, .int 0])), (s6, .inr (12, [.int 5, .int 4, .ref mz, .int 1, .int 0, .int 900, .int 0, .int 0])), (s7, .inr (12, [.int 4, .int 3, .ref mf, .int 0, .int 0, .int 900, .int 0, .int 0])), (s8, .inr (12, [.int 6, .int 4, .ref mz, .int 0, .int 0, .int 900, .int 0, .int 0]))] := hD
  have hl := lv_entry ([.ref rg, .ref lg, .int mi]) (n := 9) (Nat.le_of_ble_eq_true rfl)
  rw [lg_entry_eq]
  generalize (lg_sl ([.ref rg, .ref lg, .int mi]) ++ List.replicate (9 - (lg_sl ([.ref rg, .ref lg, .int mi])).length) Slot.unset).toArray = ls at hl ⊢
  have hl : lv_has ls 9 [(0, .ref rg), (1, .ref lg), (2, .int mi)] := hl
  refine lv_iconst (v := 0) hx hb dX7_strainAll_0 (by decide) ?_
  refine lv_istore_n (lv' := [(3, .int 0), (0, .ref rg), (1, .ref lg), (2, .int mi)]) hx hb dX7_strainAll_1 rfl hl (by decide) rfl (fun ls hl => ?_)
  refine lv_aload_n hx hb dX7_strainAll_2 rfl (lv_at hl 1 rfl) ?_
  refine va_get (D := (dC, dI)) (ci := 11) (v := .ref sa) (C := RX7) (T := TX7) (N := 6) hx hb hts hiX7 hown hK hP 0 rfl rfl 4 (by decide) (hts (.fieldLink RX7 33 "SquareRig$Rig" "sails" "[LSquareRig$Sail;") (by decide +kernel)) (fun _ h9 => h9) rfl dX7_strainAll_3 ?_
  refine lv_astore (lv' := [(4, .ref sa), (3, .int 0), (0, .ref rg), (1, .ref lg), (2, .int mi)]) hx hb dX7_strainAll_6 hl (by decide) rfl (fun ls hl => ?_)
  refine lv_aload hx hb dX7_strainAll_8 (lv_at hl 0 rfl) ?_
  refine va_alen (v := 9) hx hb hK hP 5 1 rfl rfl rfl dX7_strainAll_10 ?_
  refine lv_istore (lv' := [(5, .int 9), (4, .ref sa), (3, .int 0), (0, .ref rg), (1, .ref lg), (2, .int mi)]) hx hb dX7_strainAll_11 hl (by decide) rfl (fun ls hl => ?_)
  refine lv_iconst (v := 0) hx hb dX7_strainAll_13 (by decide) ?_
  refine lv_istore (lv' := [(6, .int 0), (5, .int 9), (4, .ref sa), (3, .int 0), (0, .ref rg), (1, .ref lg), (2, .int mi)]) hx hb dX7_strainAll_14 hl (by decide) rfl (fun ls hl => ?_)
  refine lv_iload hx hb dX7_strainAll_16 (lv_at hl 0 rfl) ?_
  refine lv_iload hx hb dX7_strainAll_18 (lv_at hl 1 rfl) ?_
  refine lv_icmp_ge (tgt := 111) hx hb dX7_strainAll_20 (by decide) (fun c_ => absurd c_ (by decide +kernel)) (fun _ => ?_)
  refine lv_aload hx hb dX7_strainAll_23 (lv_at hl 2 rfl) ?_
  refine lv_iload hx hb dX7_strainAll_25 (lv_at hl 0 rfl) ?_
  refine va_aldq hx hb hK hP 5 1 rfl rfl (pk_in 0 9 (by decide) rfl) dX7_strainAll_27 ?_
  refine kc_v (y := .ref s0) rfl ?_
  refine lv_astore (lv' := [(7, .ref s0), (6, .int 0), (5, .int 9), (4, .ref sa), (3, .int 0), (0, .ref rg), (1, .ref lg), (2, .int mi)]) hx hb dX7_strainAll_28 hl (by decide) rfl (fun ls hl => ?_)
  refine lv_aload hx hb dX7_strainAll_30 (lv_at hl 0 rfl) ?_
  refine va_getN (D := (dC, dI)) (ci := 12) (v := .int 0) (C := RX8) (T := TX8) (N := 8) hx hb hts hiX8 hown hK hP 6 rfl rfl 7 (by decide) (va_Nw.use rfl (hM.1 _ (List.mem_of_getElem? (i := 16) rfl))) (fun _ h9 => h9) rfl dX7_strainAll_32 ?_
  refine va_mabs hx hb (hml.trans hl.1.symm) hown (hts (.methodLink RX7 48 Lib.Math.abs.name) (by decide +kernel)) (hts (.static Lib.Math.abs.name) (by decide +kernel)) (hts (.initialized "java/lang/Math") (by decide +kernel)) (hts (.code Lib.Math.abs.name Lib.Math.abs.code 1 (some .int)) (by decide +kernel)) (Nat.le_of_ble_eq_true rfl) (Nat.le_of_ble_eq_true rfl) (Nat.le_of_ble_eq_true rfl) (Nat.le_of_ble_eq_true rfl) dX7_strainAll_35 ?_
  refine kc_i (y := 0) (by decide +kernel) ?_
  refine lv_istore (lv' := [(8, .int 0), (7, .ref s0), (6, .int 0), (5, .int 9), (4, .ref sa), (3, .int 0), (0, .ref rg), (1, .ref lg), (2, .int mi)]) hx hb dX7_strainAll_38 hl (by decide) rfl (fun ls hl => ?_)
  refine lv_iload hx hb dX7_strainAll_40 (lv_at hl 0 rfl) ?_
  refine lv_aload hx hb dX7_strainAll_42 (lv_at hl 1 rfl) ?_
  refine va_getN (D := (dC, dI)) (ci := 12) (v := .int 900) (C := RX8) (T := TX8) (N := 8) hx hb hts hiX8 hown hK hP 6 rfl rfl 5 (by decide) (va_Nw.use rfl (hM.1 _ (List.mem_of_getElem? (i := 12) rfl))) (fun _ h9 => h9) rfl dX7_strainAll_44 ?_
  refine lv_icmp_le (tgt := 82) hx hb dX7_strainAll_47 (by decide) (fun _ => ?_) (fun c_ => absurd (by decide +kernel) c_)
  refine lv_iconst (v := 2) hx hb dX7_strainAll_82 (by decide) ?_
  refine lv_iload hx hb dX7_strainAll_83 (lv_at hl 0 rfl) ?_
  refine lv_imul hx hb dX7_strainAll_85 ?_
  refine kc_i (y := 0) (by decide +kernel) ?_
  refine lv_aload hx hb dX7_strainAll_86 (lv_at hl 1 rfl) ?_
  refine va_getN (D := (dC, dI)) (ci := 12) (v := .int 900) (C := RX8) (T := TX8) (N := 8) hx hb hts hiX8 hown hK hP 6 rfl rfl 5 (by decide) (va_Nw.use rfl (hM.1 _ (List.mem_of_getElem? (i := 12) rfl))) (fun _ h9 => h9) rfl dX7_strainAll_88 ?_
  refine lv_icmp_le (tgt := 105) hx hb dX7_strainAll_91 (by decide) (fun _ => ?_) (fun c_ => absurd (by decide +kernel) c_)
  refine lv_iinc (v := 1) (lv' := [(6, .int 1), (8, .int 0), (7, .ref s0), (5, .int 9), (4, .ref sa), (3, .int 0), (0, .ref rg), (1, .ref lg), (2, .int mi)]) hx hb dX7_strainAll_105 hl (k := 2) rfl (by decide +kernel) (by decide) rfl (fun ls hl => ?_)
  refine lv_goto (tgt := 16) hx hb dX7_strainAll_108 (by decide) ?_
  refine lv_iload hx hb dX7_strainAll_16 (lv_at hl 0 rfl) ?_
  refine lv_iload hx hb dX7_strainAll_18 (lv_at hl 3 rfl) ?_
  refine lv_icmp_ge (tgt := 111) hx hb dX7_strainAll_20 (by decide) (fun c_ => absurd c_ (by decide +kernel)) (fun _ => ?_)
  refine lv_aload hx hb dX7_strainAll_23 (lv_at hl 4 rfl) ?_
  refine lv_iload hx hb dX7_strainAll_25 (lv_at hl 0 rfl) ?_
  refine va_aldq hx hb hK hP 5 1 rfl rfl (pk_in 1 9 (by decide) rfl) dX7_strainAll_27 ?_
  refine kc_v (y := .ref s1) rfl ?_
  refine lv_astore (lv' := [(7, .ref s1), (6, .int 1), (8, .int 0), (5, .int 9), (4, .ref sa), (3, .int 0), (0, .ref rg), (1, .ref lg), (2, .int mi)]) hx hb dX7_strainAll_28 hl (by decide) rfl (fun ls hl => ?_)
  refine lv_aload hx hb dX7_strainAll_30 (lv_at hl 0 rfl) ?_
  refine va_getN (D := (dC, dI)) (ci := 12) (v := .int 0) (C := RX8) (T := TX8) (N := 8) hx hb hts hiX8 hown hK hP 7 rfl rfl 7 (by decide) (va_Nw.use rfl (hM.1 _ (List.mem_of_getElem? (i := 16) rfl))) (fun _ h9 => h9) rfl dX7_strainAll_32 ?_
  refine va_mabs hx hb (hml.trans hl.1.symm) hown (hts (.methodLink RX7 48 Lib.Math.abs.name) (by decide +kernel)) (hts (.static Lib.Math.abs.name) (by decide +kernel)) (hts (.initialized "java/lang/Math") (by decide +kernel)) (hts (.code Lib.Math.abs.name Lib.Math.abs.code 1 (some .int)) (by decide +kernel)) (Nat.le_of_ble_eq_true rfl) (Nat.le_of_ble_eq_true rfl) (Nat.le_of_ble_eq_true rfl) (Nat.le_of_ble_eq_true rfl) dX7_strainAll_35 ?_
  refine kc_i (y := 0) (by decide +kernel) ?_
  refine lv_istore (lv' := [(8, .int 0), (7, .ref s1), (6, .int 1), (5, .int 9), (4, .ref sa), (3, .int 0), (0, .ref rg), (1, .ref lg), (2, .int mi)]) hx hb dX7_strainAll_38 hl (by decide) rfl (fun ls hl => ?_)
  refine lv_iload hx hb dX7_strainAll_40 (lv_at hl 0 rfl) ?_
  refine lv_aload hx hb dX7_strainAll_42 (lv_at hl 1 rfl) ?_
  refine va_getN (D := (dC, dI)) (ci := 12) (v := .int 900) (C := RX8) (T := TX8) (N := 8) hx hb hts hiX8 hown hK hP 7 rfl rfl 5 (by decide) (va_Nw.use rfl (hM.1 _ (List.mem_of_getElem? (i := 12) rfl))) (fun _ h9 => h9) rfl dX7_strainAll_44 ?_
  refine lv_icmp_le (tgt := 82) hx hb dX7_strainAll_47 (by decide) (fun _ => ?_) (fun c_ => absurd (by decide +kernel) c_)
  refine lv_iconst (v := 2) hx hb dX7_strainAll_82 (by decide) ?_
  refine lv_iload hx hb dX7_strainAll_83 (lv_at hl 0 rfl) ?_
  refine lv_imul hx hb dX7_strainAll_85 ?_
  refine kc_i (y := 0) (by decide +kernel) ?_
  refine lv_aload hx hb dX7_strainAll_86 (lv_at hl 1 rfl) ?_
  refine va_getN (D := (dC, dI)) (ci := 12) (v := .int 900) (C := RX8) (T := TX8) (N := 8) hx hb hts hiX8 hown hK hP 7 rfl rfl 5 (by decide) (va_Nw.use rfl (hM.1 _ (List.mem_of_getElem? (i := 12) rfl))) (fun _ h9 => h9) rfl dX7_strainAll_88 ?_
  refine lv_icmp_le (tgt := 105) hx hb dX7_strainAll_91 (by decide) (fun _ => ?_) (fun c_ => absurd (by decide +kernel) c_)
  refine lv_iinc (v := 2) (lv' := [(6, .int 2), (8, .int 0), (7, .ref s1), (5, .int 9), (4, .ref sa), (3, .int 0), (0, .ref rg), (1, .ref lg), (2, .int mi)]) hx hb dX7_strainAll_105 hl (k := 2) rfl (by decide +kernel) (by decide) rfl (fun ls hl => ?_)
  refine lv_goto (tgt := 16) hx hb dX7_strainAll_108 (by decide) ?_
  refine lv_iload hx hb dX7_strainAll_16 (lv_at hl 0 rfl) ?_
  refine lv_iload hx hb dX7_strainAll_18 (lv_at hl 3 rfl) ?_
  refine lv_icmp_ge (tgt := 111) hx hb dX7_strainAll_20 (by decide) (fun c_ => absurd c_ (by decide +kernel)) (fun _ => ?_)
  refine lv_aload hx hb dX7_strainAll_23 (lv_at hl 4 rfl) ?_
  refine lv_iload hx hb dX7_strainAll_25 (lv_at hl 0 rfl) ?_
  refine va_aldq hx hb hK hP 5 1 rfl rfl (pk_in 2 9 (by decide) rfl) dX7_strainAll_27 ?_
  refine kc_v (y := .ref s2) rfl ?_
  refine lv_astore (lv' := [(7, .ref s2), (6, .int 2), (8, .int 0), (5, .int 9), (4, .ref sa), (3, .int 0), (0, .ref rg), (1, .ref lg), (2, .int mi)]) hx hb dX7_strainAll_28 hl (by decide) rfl (fun ls hl => ?_)
  refine lv_aload hx hb dX7_strainAll_30 (lv_at hl 0 rfl) ?_
  refine va_getN (D := (dC, dI)) (ci := 12) (v := .int 0) (C := RX8) (T := TX8) (N := 8) hx hb hts hiX8 hown hK hP 8 rfl rfl 7 (by decide) (va_Nw.use rfl (hM.1 _ (List.mem_of_getElem? (i := 16) rfl))) (fun _ h9 => h9) rfl dX7_strainAll_32 ?_
  refine va_mabs hx hb (hml.trans hl.1.symm) hown (hts (.methodLink RX7 48 Lib.Math.abs.name) (by decide +kernel)) (hts (.static Lib.Math.abs.name) (by decide +kernel)) (hts (.initialized "java/lang/Math") (by decide +kernel)) (hts (.code Lib.Math.abs.name Lib.Math.abs.code 1 (some .int)) (by decide +kernel)) (Nat.le_of_ble_eq_true rfl) (Nat.le_of_ble_eq_true rfl) (Nat.le_of_ble_eq_true rfl) (Nat.le_of_ble_eq_true rfl) dX7_strainAll_35 ?_
  refine kc_i (y := 0) (by decide +kernel) ?_
  refine lv_istore (lv' := [(8, .int 0), (7, .ref s2), (6, .int 2), (5, .int 9), (4, .ref sa), (3, .int 0), (0, .ref rg), (1, .ref lg), (2, .int mi)]) hx hb dX7_strainAll_38 hl (by decide) rfl (fun ls hl => ?_)
  refine lv_iload hx hb dX7_strainAll_40 (lv_at hl 0 rfl) ?_
  refine lv_aload hx hb dX7_strainAll_42 (lv_at hl 1 rfl) ?_
  refine va_getN (D := (dC, dI)) (ci := 12) (v := .int 900) (C := RX8) (T := TX8) (N := 8) hx hb hts hiX8 hown hK hP 8 rfl rfl 5 (by decide) (va_Nw.use rfl (hM.1 _ (List.mem_of_getElem? (i := 12) rfl))) (fun _ h9 => h9) rfl dX7_strainAll_44 ?_
  refine lv_icmp_le (tgt := 82) hx hb dX7_strainAll_47 (by decide) (fun _ => ?_) (fun c_ => absurd (by decide +kernel) c_)
  refine lv_iconst (v := 2) hx hb dX7_strainAll_82 (by decide) ?_
  refine lv_iload hx hb dX7_strainAll_83 (lv_at hl 0 rfl) ?_
  refine lv_imul hx hb dX7_strainAll_85 ?_
  refine kc_i (y := 0) (by decide +kernel) ?_
  refine lv_aload hx hb dX7_strainAll_86 (lv_at hl 1 rfl) ?_
  refine va_getN (D := (dC, dI)) (ci := 12) (v := .int 900) (C := RX8) (T := TX8) (N := 8) hx hb hts hiX8 hown hK hP 8 rfl rfl 5 (by decide) (va_Nw.use rfl (hM.1 _ (List.mem_of_getElem? (i := 12) rfl))) (fun _ h9 => h9) rfl dX7_strainAll_88 ?_
  refine lv_icmp_le (tgt := 105) hx hb dX7_strainAll_91 (by decide) (fun _ => ?_) (fun c_ => absurd (by decide +kernel) c_)
  refine lv_iinc (v := 3) (lv' := [(6, .int 3), (8, .int 0), (7, .ref s2), (5, .int 9), (4, .ref sa), (3, .int 0), (0, .ref rg), (1, .ref lg), (2, .int mi)]) hx hb dX7_strainAll_105 hl (k := 2) rfl (by decide +kernel) (by decide) rfl (fun ls hl => ?_)
  refine lv_goto (tgt := 16) hx hb dX7_strainAll_108 (by decide) ?_
  refine lv_iload hx hb dX7_strainAll_16 (lv_at hl 0 rfl) ?_
  refine lv_iload hx hb dX7_strainAll_18 (lv_at hl 3 rfl) ?_
  refine lv_icmp_ge (tgt := 111) hx hb dX7_strainAll_20 (by decide) (fun c_ => absurd c_ (by decide +kernel)) (fun _ => ?_)
  refine lv_aload hx hb dX7_strainAll_23 (lv_at hl 4 rfl) ?_
  refine lv_iload hx hb dX7_strainAll_25 (lv_at hl 0 rfl) ?_
  refine va_aldq hx hb hK hP 5 1 rfl rfl (pk_in 3 9 (by decide) rfl) dX7_strainAll_27 ?_
  refine kc_v (y := .ref s3) rfl ?_
  refine lv_astore (lv' := [(7, .ref s3), (6, .int 3), (8, .int 0), (5, .int 9), (4, .ref sa), (3, .int 0), (0, .ref rg), (1, .ref lg), (2, .int mi)]) hx hb dX7_strainAll_28 hl (by decide) rfl (fun ls hl => ?_)
  refine lv_aload hx hb dX7_strainAll_30 (lv_at hl 0 rfl) ?_
  refine va_getN (D := (dC, dI)) (ci := 12) (v := .int 0) (C := RX8) (T := TX8) (N := 8) hx hb hts hiX8 hown hK hP 9 rfl rfl 7 (by decide) (va_Nw.use rfl (hM.1 _ (List.mem_of_getElem? (i := 16) rfl))) (fun _ h9 => h9) rfl dX7_strainAll_32 ?_
  refine va_mabs hx hb (hml.trans hl.1.symm) hown (hts (.methodLink RX7 48 Lib.Math.abs.name) (by decide +kernel)) (hts (.static Lib.Math.abs.name) (by decide +kernel)) (hts (.initialized "java/lang/Math") (by decide +kernel)) (hts (.code Lib.Math.abs.name Lib.Math.abs.code 1 (some .int)) (by decide +kernel)) (Nat.le_of_ble_eq_true rfl) (Nat.le_of_ble_eq_true rfl) (Nat.le_of_ble_eq_true rfl) (Nat.le_of_ble_eq_true rfl) dX7_strainAll_35 ?_
  refine kc_i (y := 0) (by decide +kernel) ?_
  refine lv_istore (lv' := [(8, .int 0), (7, .ref s3), (6, .int 3), (5, .int 9), (4, .ref sa), (3, .int 0), (0, .ref rg), (1, .ref lg), (2, .int mi)]) hx hb dX7_strainAll_38 hl (by decide) rfl (fun ls hl => ?_)
  refine lv_iload hx hb dX7_strainAll_40 (lv_at hl 0 rfl) ?_
  refine lv_aload hx hb dX7_strainAll_42 (lv_at hl 1 rfl) ?_
  refine va_getN (D := (dC, dI)) (ci := 12) (v := .int 900) (C := RX8) (T := TX8) (N := 8) hx hb hts hiX8 hown hK hP 9 rfl rfl 5 (by decide) (va_Nw.use rfl (hM.1 _ (List.mem_of_getElem? (i := 12) rfl))) (fun _ h9 => h9) rfl dX7_strainAll_44 ?_
  refine lv_icmp_le (tgt := 82) hx hb dX7_strainAll_47 (by decide) (fun _ => ?_) (fun c_ => absurd (by decide +kernel) c_)
  refine lv_iconst (v := 2) hx hb dX7_strainAll_82 (by decide) ?_
  refine lv_iload hx hb dX7_strainAll_83 (lv_at hl 0 rfl) ?_
  refine lv_imul hx hb dX7_strainAll_85 ?_
  refine kc_i (y := 0) (by decide +kernel) ?_
  refine lv_aload hx hb dX7_strainAll_86 (lv_at hl 1 rfl) ?_
  refine va_getN (D := (dC, dI)) (ci := 12) (v := .int 900) (C := RX8) (T := TX8) (N := 8) hx hb hts hiX8 hown hK hP 9 rfl rfl 5 (by decide) (va_Nw.use rfl (hM.1 _ (List.mem_of_getElem? (i := 12) rfl))) (fun _ h9 => h9) rfl dX7_strainAll_88 ?_
  refine lv_icmp_le (tgt := 105) hx hb dX7_strainAll_91 (by decide) (fun _ => ?_) (fun c_ => absurd (by decide +kernel) c_)
  refine lv_iinc (v := 4) (lv' := [(6, .int 4), (8, .int 0), (7, .ref s3), (5, .int 9), (4, .ref sa), (3, .int 0), (0, .ref rg), (1, .ref lg), (2, .int mi)]) hx hb dX7_strainAll_105 hl (k := 2) rfl (by decide +kernel) (by decide) rfl (fun ls hl => ?_)
  refine lv_goto (tgt := 16) hx hb dX7_strainAll_108 (by decide) ?_
  refine lv_iload hx hb dX7_strainAll_16 (lv_at hl 0 rfl) ?_
  refine lv_iload hx hb dX7_strainAll_18 (lv_at hl 3 rfl) ?_
  refine lv_icmp_ge (tgt := 111) hx hb dX7_strainAll_20 (by decide) (fun c_ => absurd c_ (by decide +kernel)) (fun _ => ?_)
  refine lv_aload hx hb dX7_strainAll_23 (lv_at hl 4 rfl) ?_
  refine lv_iload hx hb dX7_strainAll_25 (lv_at hl 0 rfl) ?_
  refine va_aldq hx hb hK hP 5 1 rfl rfl (pk_in 4 9 (by decide) rfl) dX7_strainAll_27 ?_
  refine kc_v (y := .ref s4) rfl ?_
  refine lv_astore (lv' := [(7, .ref s4), (6, .int 4), (8, .int 0), (5, .int 9), (4, .ref sa), (3, .int 0), (0, .ref rg), (1, .ref lg), (2, .int mi)]) hx hb dX7_strainAll_28 hl (by decide) rfl (fun ls hl => ?_)
  refine lv_aload hx hb dX7_strainAll_30 (lv_at hl 0 rfl) ?_
  refine va_getN (D := (dC, dI)) (ci := 12) (v := .int 0) (C := RX8) (T := TX8) (N := 8) hx hb hts hiX8 hown hK hP 10 rfl rfl 7 (by decide) (va_Nw.use rfl (hM.1 _ (List.mem_of_getElem? (i := 16) rfl))) (fun _ h9 => h9) rfl dX7_strainAll_32 ?_
  refine va_mabs hx hb (hml.trans hl.1.symm) hown (hts (.methodLink RX7 48 Lib.Math.abs.name) (by decide +kernel)) (hts (.static Lib.Math.abs.name) (by decide +kernel)) (hts (.initialized "java/lang/Math") (by decide +kernel)) (hts (.code Lib.Math.abs.name Lib.Math.abs.code 1 (some .int)) (by decide +kernel)) (Nat.le_of_ble_eq_true rfl) (Nat.le_of_ble_eq_true rfl) (Nat.le_of_ble_eq_true rfl) (Nat.le_of_ble_eq_true rfl) dX7_strainAll_35 ?_
  refine kc_i (y := 0) (by decide +kernel) ?_
  refine lv_istore (lv' := [(8, .int 0), (7, .ref s4), (6, .int 4), (5, .int 9), (4, .ref sa), (3, .int 0), (0, .ref rg), (1, .ref lg), (2, .int mi)]) hx hb dX7_strainAll_38 hl (by decide) rfl (fun ls hl => ?_)
  refine lv_iload hx hb dX7_strainAll_40 (lv_at hl 0 rfl) ?_
  refine lv_aload hx hb dX7_strainAll_42 (lv_at hl 1 rfl) ?_
  refine va_getN (D := (dC, dI)) (ci := 12) (v := .int 900) (C := RX8) (T := TX8) (N := 8) hx hb hts hiX8 hown hK hP 10 rfl rfl 5 (by decide) (va_Nw.use rfl (hM.1 _ (List.mem_of_getElem? (i := 12) rfl))) (fun _ h9 => h9) rfl dX7_strainAll_44 ?_
  refine lv_icmp_le (tgt := 82) hx hb dX7_strainAll_47 (by decide) (fun _ => ?_) (fun c_ => absurd (by decide +kernel) c_)
  refine lv_iconst (v := 2) hx hb dX7_strainAll_82 (by decide) ?_
  refine lv_iload hx hb dX7_strainAll_83 (lv_at hl 0 rfl) ?_
  refine lv_imul hx hb dX7_strainAll_85 ?_
  refine kc_i (y := 0) (by decide +kernel) ?_
  refine lv_aload hx hb dX7_strainAll_86 (lv_at hl 1 rfl) ?_
  refine va_getN (D := (dC, dI)) (ci := 12) (v := .int 900) (C := RX8) (T := TX8) (N := 8) hx hb hts hiX8 hown hK hP 10 rfl rfl 5 (by decide) (va_Nw.use rfl (hM.1 _ (List.mem_of_getElem? (i := 12) rfl))) (fun _ h9 => h9) rfl dX7_strainAll_88 ?_
  refine lv_icmp_le (tgt := 105) hx hb dX7_strainAll_91 (by decide) (fun _ => ?_) (fun c_ => absurd (by decide +kernel) c_)
  refine lv_iinc (v := 5) (lv' := [(6, .int 5), (8, .int 0), (7, .ref s4), (5, .int 9), (4, .ref sa), (3, .int 0), (0, .ref rg), (1, .ref lg), (2, .int mi)]) hx hb dX7_strainAll_105 hl (k := 2) rfl (by decide +kernel) (by decide) rfl (fun ls hl => ?_)
  refine lv_goto (tgt := 16) hx hb dX7_strainAll_108 (by decide) ?_
  refine lv_iload hx hb dX7_strainAll_16 (lv_at hl 0 rfl) ?_
  refine lv_iload hx hb dX7_strainAll_18 (lv_at hl 3 rfl) ?_
  refine lv_icmp_ge (tgt := 111) hx hb dX7_strainAll_20 (by decide) (fun c_ => absurd c_ (by decide +kernel)) (fun _ => ?_)
  refine lv_aload hx hb dX7_strainAll_23 (lv_at hl 4 rfl) ?_
  refine lv_iload hx hb dX7_strainAll_25 (lv_at hl 0 rfl) ?_
  refine va_aldq hx hb hK hP 5 1 rfl rfl (pk_in 5 9 (by decide) rfl) dX7_strainAll_27 ?_
  refine kc_v (y := .ref s5) rfl ?_
  refine lv_astore (lv' := [(7, .ref s5), (6, .int 5), (8, .int 0), (5, .int 9), (4, .ref sa), (3, .int 0), (0, .ref rg), (1, .ref lg), (2, .int mi)]) hx hb dX7_strainAll_28 hl (by decide) rfl (fun ls hl => ?_)
  refine lv_aload hx hb dX7_strainAll_30 (lv_at hl 0 rfl) ?_
  refine va_getN (D := (dC, dI)) (ci := 12) (v := .int 0) (C := RX8) (T := TX8) (N := 8) hx hb hts hiX8 hown hK hP 11 rfl rfl 7 (by decide) (va_Nw.use rfl (hM.1 _ (List.mem_of_getElem? (i := 16) rfl))) (fun _ h9 => h9) rfl dX7_strainAll_32 ?_
  refine va_mabs hx hb (hml.trans hl.1.symm) hown (hts (.methodLink RX7 48 Lib.Math.abs.name) (by decide +kernel)) (hts (.static Lib.Math.abs.name) (by decide +kernel)) (hts (.initialized "java/lang/Math") (by decide +kernel)) (hts (.code Lib.Math.abs.name Lib.Math.abs.code 1 (some .int)) (by decide +kernel)) (Nat.le_of_ble_eq_true rfl) (Nat.le_of_ble_eq_true rfl) (Nat.le_of_ble_eq_true rfl) (Nat.le_of_ble_eq_true rfl) dX7_strainAll_35 ?_
  refine kc_i (y := 0) (by decide +kernel) ?_
  refine lv_istore (lv' := [(8, .int 0), (7, .ref s5), (6, .int 5), (5, .int 9), (4, .ref sa), (3, .int 0), (0, .ref rg), (1, .ref lg), (2, .int mi)]) hx hb dX7_strainAll_38 hl (by decide) rfl (fun ls hl => ?_)
  refine lv_iload hx hb dX7_strainAll_40 (lv_at hl 0 rfl) ?_
  refine lv_aload hx hb dX7_strainAll_42 (lv_at hl 1 rfl) ?_
  refine va_getN (D := (dC, dI)) (ci := 12) (v := .int 900) (C := RX8) (T := TX8) (N := 8) hx hb hts hiX8 hown hK hP 11 rfl rfl 5 (by decide) (va_Nw.use rfl (hM.1 _ (List.mem_of_getElem? (i := 12) rfl))) (fun _ h9 => h9) rfl dX7_strainAll_44 ?_
  refine lv_icmp_le (tgt := 82) hx hb dX7_strainAll_47 (by decide) (fun _ => ?_) (fun c_ => absurd (by decide +kernel) c_)
  refine lv_iconst (v := 2) hx hb dX7_strainAll_82 (by decide) ?_
  refine lv_iload hx hb dX7_strainAll_83 (lv_at hl 0 rfl) ?_
  refine lv_imul hx hb dX7_strainAll_85 ?_
  refine kc_i (y := 0) (by decide +kernel) ?_
  refine lv_aload hx hb dX7_strainAll_86 (lv_at hl 1 rfl) ?_
  refine va_getN (D := (dC, dI)) (ci := 12) (v := .int 900) (C := RX8) (T := TX8) (N := 8) hx hb hts hiX8 hown hK hP 11 rfl rfl 5 (by decide) (va_Nw.use rfl (hM.1 _ (List.mem_of_getElem? (i := 12) rfl))) (fun _ h9 => h9) rfl dX7_strainAll_88 ?_
  refine lv_icmp_le (tgt := 105) hx hb dX7_strainAll_91 (by decide) (fun _ => ?_) (fun c_ => absurd (by decide +kernel) c_)
  refine lv_iinc (v := 6) (lv' := [(6, .int 6), (8, .int 0), (7, .ref s5), (5, .int 9), (4, .ref sa), (3, .int 0), (0, .ref rg), (1, .ref lg), (2, .int mi)]) hx hb dX7_strainAll_105 hl (k := 2) rfl (by decide +kernel) (by decide) rfl (fun ls hl => ?_)
  refine lv_goto (tgt := 16) hx hb dX7_strainAll_108 (by decide) ?_
  refine lv_iload hx hb dX7_strainAll_16 (lv_at hl 0 rfl) ?_
  refine lv_iload hx hb dX7_strainAll_18 (lv_at hl 3 rfl) ?_
  refine lv_icmp_ge (tgt := 111) hx hb dX7_strainAll_20 (by decide) (fun c_ => absurd c_ (by decide +kernel)) (fun _ => ?_)
  refine lv_aload hx hb dX7_strainAll_23 (lv_at hl 4 rfl) ?_
  refine lv_iload hx hb dX7_strainAll_25 (lv_at hl 0 rfl) ?_
  refine va_aldq hx hb hK hP 5 1 rfl rfl (pk_in 6 9 (by decide) rfl) dX7_strainAll_27 ?_
  refine kc_v (y := .ref s6) rfl ?_
  refine lv_astore (lv' := [(7, .ref s6), (6, .int 6), (8, .int 0), (5, .int 9), (4, .ref sa), (3, .int 0), (0, .ref rg), (1, .ref lg), (2, .int mi)]) hx hb dX7_strainAll_28 hl (by decide) rfl (fun ls hl => ?_)
  refine lv_aload hx hb dX7_strainAll_30 (lv_at hl 0 rfl) ?_
  refine va_getN (D := (dC, dI)) (ci := 12) (v := .int 0) (C := RX8) (T := TX8) (N := 8) hx hb hts hiX8 hown hK hP 12 rfl rfl 7 (by decide) (va_Nw.use rfl (hM.1 _ (List.mem_of_getElem? (i := 16) rfl))) (fun _ h9 => h9) rfl dX7_strainAll_32 ?_
  refine va_mabs hx hb (hml.trans hl.1.symm) hown (hts (.methodLink RX7 48 Lib.Math.abs.name) (by decide +kernel)) (hts (.static Lib.Math.abs.name) (by decide +kernel)) (hts (.initialized "java/lang/Math") (by decide +kernel)) (hts (.code Lib.Math.abs.name Lib.Math.abs.code 1 (some .int)) (by decide +kernel)) (Nat.le_of_ble_eq_true rfl) (Nat.le_of_ble_eq_true rfl) (Nat.le_of_ble_eq_true rfl) (Nat.le_of_ble_eq_true rfl) dX7_strainAll_35 ?_
  refine kc_i (y := 0) (by decide +kernel) ?_
  refine lv_istore (lv' := [(8, .int 0), (7, .ref s6), (6, .int 6), (5, .int 9), (4, .ref sa), (3, .int 0), (0, .ref rg), (1, .ref lg), (2, .int mi)]) hx hb dX7_strainAll_38 hl (by decide) rfl (fun ls hl => ?_)
  refine lv_iload hx hb dX7_strainAll_40 (lv_at hl 0 rfl) ?_
  refine lv_aload hx hb dX7_strainAll_42 (lv_at hl 1 rfl) ?_
  refine va_getN (D := (dC, dI)) (ci := 12) (v := .int 900) (C := RX8) (T := TX8) (N := 8) hx hb hts hiX8 hown hK hP 12 rfl rfl 5 (by decide) (va_Nw.use rfl (hM.1 _ (List.mem_of_getElem? (i := 12) rfl))) (fun _ h9 => h9) rfl dX7_strainAll_44 ?_
  refine lv_icmp_le (tgt := 82) hx hb dX7_strainAll_47 (by decide) (fun _ => ?_) (fun c_ => absurd (by decide +kernel) c_)
  refine lv_iconst (v := 2) hx hb dX7_strainAll_82 (by decide) ?_
  refine lv_iload hx hb dX7_strainAll_83 (lv_at hl 0 rfl) ?_
  refine lv_imul hx hb dX7_strainAll_85 ?_
  refine kc_i (y := 0) (by decide +kernel) ?_
  refine lv_aload hx hb dX7_strainAll_86 (lv_at hl 1 rfl) ?_
  refine va_getN (D := (dC, dI)) (ci := 12) (v := .int 900) (C := RX8) (T := TX8) (N := 8) hx hb hts hiX8 hown hK hP 12 rfl rfl 5 (by decide) (va_Nw.use rfl (hM.1 _ (List.mem_of_getElem? (i := 12) rfl))) (fun _ h9 => h9) rfl dX7_strainAll_88 ?_
  refine lv_icmp_le (tgt := 105) hx hb dX7_strainAll_91 (by decide) (fun _ => ?_) (fun c_ => absurd (by decide +kernel) c_)
  refine lv_iinc (v := 7) (lv' := [(6, .int 7), (8, .int 0), (7, .ref s6), (5, .int 9), (4, .ref sa), (3, .int 0), (0, .ref rg), (1, .ref lg), (2, .int mi)]) hx hb dX7_strainAll_105 hl (k := 2) rfl (by decide +kernel) (by decide) rfl (fun ls hl => ?_)
  refine lv_goto (tgt := 16) hx hb dX7_strainAll_108 (by decide) ?_
  refine lv_iload hx hb dX7_strainAll_16 (lv_at hl 0 rfl) ?_
  refine lv_iload hx hb dX7_strainAll_18 (lv_at hl 3 rfl) ?_
  refine lv_icmp_ge (tgt := 111) hx hb dX7_strainAll_20 (by decide) (fun c_ => absurd c_ (by decide +kernel)) (fun _ => ?_)
  refine lv_aload hx hb dX7_strainAll_23 (lv_at hl 4 rfl) ?_
  refine lv_iload hx hb dX7_strainAll_25 (lv_at hl 0 rfl) ?_
  refine va_aldq hx hb hK hP 5 1 rfl rfl (pk_in 7 9 (by decide) rfl) dX7_strainAll_27 ?_
  refine kc_v (y := .ref s7) rfl ?_
  refine lv_astore (lv' := [(7, .ref s7), (6, .int 7), (8, .int 0), (5, .int 9), (4, .ref sa), (3, .int 0), (0, .ref rg), (1, .ref lg), (2, .int mi)]) hx hb dX7_strainAll_28 hl (by decide) rfl (fun ls hl => ?_)
  refine lv_aload hx hb dX7_strainAll_30 (lv_at hl 0 rfl) ?_
  refine va_getN (D := (dC, dI)) (ci := 12) (v := .int 0) (C := RX8) (T := TX8) (N := 8) hx hb hts hiX8 hown hK hP 13 rfl rfl 7 (by decide) (va_Nw.use rfl (hM.1 _ (List.mem_of_getElem? (i := 16) rfl))) (fun _ h9 => h9) rfl dX7_strainAll_32 ?_
  refine va_mabs hx hb (hml.trans hl.1.symm) hown (hts (.methodLink RX7 48 Lib.Math.abs.name) (by decide +kernel)) (hts (.static Lib.Math.abs.name) (by decide +kernel)) (hts (.initialized "java/lang/Math") (by decide +kernel)) (hts (.code Lib.Math.abs.name Lib.Math.abs.code 1 (some .int)) (by decide +kernel)) (Nat.le_of_ble_eq_true rfl) (Nat.le_of_ble_eq_true rfl) (Nat.le_of_ble_eq_true rfl) (Nat.le_of_ble_eq_true rfl) dX7_strainAll_35 ?_
  refine kc_i (y := 0) (by decide +kernel) ?_
  refine lv_istore (lv' := [(8, .int 0), (7, .ref s7), (6, .int 7), (5, .int 9), (4, .ref sa), (3, .int 0), (0, .ref rg), (1, .ref lg), (2, .int mi)]) hx hb dX7_strainAll_38 hl (by decide) rfl (fun ls hl => ?_)
  refine lv_iload hx hb dX7_strainAll_40 (lv_at hl 0 rfl) ?_
  refine lv_aload hx hb dX7_strainAll_42 (lv_at hl 1 rfl) ?_
  refine va_getN (D := (dC, dI)) (ci := 12) (v := .int 900) (C := RX8) (T := TX8) (N := 8) hx hb hts hiX8 hown hK hP 13 rfl rfl 5 (by decide) (va_Nw.use rfl (hM.1 _ (List.mem_of_getElem? (i := 12) rfl))) (fun _ h9 => h9) rfl dX7_strainAll_44 ?_
  refine lv_icmp_le (tgt := 82) hx hb dX7_strainAll_47 (by decide) (fun _ => ?_) (fun c_ => absurd (by decide +kernel) c_)
  refine lv_iconst (v := 2) hx hb dX7_strainAll_82 (by decide) ?_
  refine lv_iload hx hb dX7_strainAll_83 (lv_at hl 0 rfl) ?_
  refine lv_imul hx hb dX7_strainAll_85 ?_
  refine kc_i (y := 0) (by decide +kernel) ?_
  refine lv_aload hx hb dX7_strainAll_86 (lv_at hl 1 rfl) ?_
  refine va_getN (D := (dC, dI)) (ci := 12) (v := .int 900) (C := RX8) (T := TX8) (N := 8) hx hb hts hiX8 hown hK hP 13 rfl rfl 5 (by decide) (va_Nw.use rfl (hM.1 _ (List.mem_of_getElem? (i := 12) rfl))) (fun _ h9 => h9) rfl dX7_strainAll_88 ?_
  refine lv_icmp_le (tgt := 105) hx hb dX7_strainAll_91 (by decide) (fun _ => ?_) (fun c_ => absurd (by decide +kernel) c_)
  refine lv_iinc (v := 8) (lv' := [(6, .int 8), (8, .int 0), (7, .ref s7), (5, .int 9), (4, .ref sa), (3, .int 0), (0, .ref rg), (1, .ref lg), (2, .int mi)]) hx hb dX7_strainAll_105 hl (k := 2) rfl (by decide +kernel) (by decide) rfl (fun ls hl => ?_)
  refine lv_goto (tgt := 16) hx hb dX7_strainAll_108 (by decide) ?_
  refine lv_iload hx hb dX7_strainAll_16 (lv_at hl 0 rfl) ?_
  refine lv_iload hx hb dX7_strainAll_18 (lv_at hl 3 rfl) ?_
  refine lv_icmp_ge (tgt := 111) hx hb dX7_strainAll_20 (by decide) (fun c_ => absurd c_ (by decide +kernel)) (fun _ => ?_)
  refine lv_aload hx hb dX7_strainAll_23 (lv_at hl 4 rfl) ?_
  refine lv_iload hx hb dX7_strainAll_25 (lv_at hl 0 rfl) ?_
  refine va_aldq hx hb hK hP 5 1 rfl rfl (pk_in 8 9 (by decide) rfl) dX7_strainAll_27 ?_
  refine kc_v (y := .ref s8) rfl ?_
  refine lv_astore (lv' := [(7, .ref s8), (6, .int 8), (8, .int 0), (5, .int 9), (4, .ref sa), (3, .int 0), (0, .ref rg), (1, .ref lg), (2, .int mi)]) hx hb dX7_strainAll_28 hl (by decide) rfl (fun ls hl => ?_)
  refine lv_aload hx hb dX7_strainAll_30 (lv_at hl 0 rfl) ?_
  refine va_getN (D := (dC, dI)) (ci := 12) (v := .int 0) (C := RX8) (T := TX8) (N := 8) hx hb hts hiX8 hown hK hP 14 rfl rfl 7 (by decide) (va_Nw.use rfl (hM.1 _ (List.mem_of_getElem? (i := 16) rfl))) (fun _ h9 => h9) rfl dX7_strainAll_32 ?_
  refine va_mabs hx hb (hml.trans hl.1.symm) hown (hts (.methodLink RX7 48 Lib.Math.abs.name) (by decide +kernel)) (hts (.static Lib.Math.abs.name) (by decide +kernel)) (hts (.initialized "java/lang/Math") (by decide +kernel)) (hts (.code Lib.Math.abs.name Lib.Math.abs.code 1 (some .int)) (by decide +kernel)) (Nat.le_of_ble_eq_true rfl) (Nat.le_of_ble_eq_true rfl) (Nat.le_of_ble_eq_true rfl) (Nat.le_of_ble_eq_true rfl) dX7_strainAll_35 ?_
  refine kc_i (y := 0) (by decide +kernel) ?_
  refine lv_istore (lv' := [(8, .int 0), (7, .ref s8), (6, .int 8), (5, .int 9), (4, .ref sa), (3, .int 0), (0, .ref rg), (1, .ref lg), (2, .int mi)]) hx hb dX7_strainAll_38 hl (by decide) rfl (fun ls hl => ?_)
  refine lv_iload hx hb dX7_strainAll_40 (lv_at hl 0 rfl) ?_
  refine lv_aload hx hb dX7_strainAll_42 (lv_at hl 1 rfl) ?_
  refine va_getN (D := (dC, dI)) (ci := 12) (v := .int 900) (C := RX8) (T := TX8) (N := 8) hx hb hts hiX8 hown hK hP 14 rfl rfl 5 (by decide) (va_Nw.use rfl (hM.1 _ (List.mem_of_getElem? (i := 12) rfl))) (fun _ h9 => h9) rfl dX7_strainAll_44 ?_
  refine lv_icmp_le (tgt := 82) hx hb dX7_strainAll_47 (by decide) (fun _ => ?_) (fun c_ => absurd (by decide +kernel) c_)
  refine lv_iconst (v := 2) hx hb dX7_strainAll_82 (by decide) ?_
  refine lv_iload hx hb dX7_strainAll_83 (lv_at hl 0 rfl) ?_
  refine lv_imul hx hb dX7_strainAll_85 ?_
  refine kc_i (y := 0) (by decide +kernel) ?_
  refine lv_aload hx hb dX7_strainAll_86 (lv_at hl 1 rfl) ?_
  refine va_getN (D := (dC, dI)) (ci := 12) (v := .int 900) (C := RX8) (T := TX8) (N := 8) hx hb hts hiX8 hown hK hP 14 rfl rfl 5 (by decide) (va_Nw.use rfl (hM.1 _ (List.mem_of_getElem? (i := 12) rfl))) (fun _ h9 => h9) rfl dX7_strainAll_88 ?_
  refine lv_icmp_le (tgt := 105) hx hb dX7_strainAll_91 (by decide) (fun _ => ?_) (fun c_ => absurd (by decide +kernel) c_)
  refine lv_iinc (v := 9) (lv' := [(6, .int 9), (8, .int 0), (7, .ref s8), (5, .int 9), (4, .ref sa), (3, .int 0), (0, .ref rg), (1, .ref lg), (2, .int mi)]) hx hb dX7_strainAll_105 hl (k := 2) rfl (by decide +kernel) (by decide) rfl (fun ls hl => ?_)
  refine lv_goto (tgt := 16) hx hb dX7_strainAll_108 (by decide) ?_
  refine lv_iload hx hb dX7_strainAll_16 (lv_at hl 0 rfl) ?_
  refine lv_iload hx hb dX7_strainAll_18 (lv_at hl 3 rfl) ?_
  refine lv_icmp_ge (tgt := 111) hx hb dX7_strainAll_20 (by decide) (fun _ => ?_) (fun c_ => absurd (by decide +kernel) c_)
  refine lv_aload_n hx hb dX7_strainAll_111 rfl (lv_at hl 6 rfl) ?_
  refine va_get (D := (dC, dI)) (ci := 11) (v := .ref ma) (C := RX7) (T := TX7) (N := 6) hx hb hts hiX7 hown hK hP 0 rfl rfl 3 (by decide) (hts (.fieldLink RX7 24 "SquareRig$Rig" "masts" "[LSquareRig$Mast;") (by decide +kernel)) (fun _ h9 => h9) rfl dX7_strainAll_112 ?_
  refine lv_astore (lv' := [(4, .ref ma), (6, .int 9), (8, .int 0), (7, .ref s8), (5, .int 9), (3, .int 0), (0, .ref rg), (1, .ref lg), (2, .int mi)]) hx hb dX7_strainAll_115 hl (by decide) rfl (fun ls hl => ?_)
  refine lv_aload hx hb dX7_strainAll_117 (lv_at hl 0 rfl) ?_
  refine va_alen (v := 3) hx hb hK hP 4 0 rfl rfl rfl dX7_strainAll_119 ?_
  refine lv_istore (lv' := [(5, .int 3), (4, .ref ma), (6, .int 9), (8, .int 0), (7, .ref s8), (3, .int 0), (0, .ref rg), (1, .ref lg), (2, .int mi)]) hx hb dX7_strainAll_120 hl (by decide) rfl (fun ls hl => ?_)
  refine lv_iconst (v := 0) hx hb dX7_strainAll_122 (by decide) ?_
  refine lv_istore (lv' := [(6, .int 0), (5, .int 3), (4, .ref ma), (8, .int 0), (7, .ref s8), (3, .int 0), (0, .ref rg), (1, .ref lg), (2, .int mi)]) hx hb dX7_strainAll_123 hl (by decide) rfl (fun ls hl => ?_)
  refine lv_iload hx hb dX7_strainAll_125 (lv_at hl 0 rfl) ?_
  refine lv_iload hx hb dX7_strainAll_127 (lv_at hl 1 rfl) ?_
  refine lv_icmp_ge (tgt := 171) hx hb dX7_strainAll_129 (by decide) (fun c_ => absurd c_ (by decide +kernel)) (fun _ => ?_)
  refine lv_aload hx hb dX7_strainAll_132 (lv_at hl 2 rfl) ?_
  refine lv_iload hx hb dX7_strainAll_134 (lv_at hl 0 rfl) ?_
  refine va_aldq hx hb hK hP 4 0 rfl rfl (pk_in 0 3 (by decide) rfl) dX7_strainAll_136 ?_
  refine kc_v (y := .ref mf) rfl ?_
  refine lv_astore (lv' := [(7, .ref mf), (6, .int 0), (5, .int 3), (4, .ref ma), (8, .int 0), (3, .int 0), (0, .ref rg), (1, .ref lg), (2, .int mi)]) hx hb dX7_strainAll_137 hl (by decide) rfl (fun ls hl => ?_)
  refine lv_aload hx hb dX7_strainAll_139 (lv_at hl 0 rfl) ?_
  refine va_getN (D := (dC, dI)) (ci := 8) (v := .int 0) (C := RX4) (T := TX4) (N := 3) hx hb hts hiX4 hown hK hP 1 rfl rfl 2 (by decide) (va_Nw.use rfl (hM.1 _ (List.mem_of_getElem? (i := 4) rfl))) (fun _ h9 => h9) rfl dX7_strainAll_141 ?_
  refine lv_sipush (v := 2000) hx hb dX7_strainAll_144 (by decide) ?_
  refine lv_icmp_le (tgt := 165) hx hb dX7_strainAll_147 (by decide) (fun _ => ?_) (fun c_ => absurd (by decide +kernel) c_)
  refine lv_iinc (v := 1) (lv' := [(6, .int 1), (7, .ref mf), (5, .int 3), (4, .ref ma), (8, .int 0), (3, .int 0), (0, .ref rg), (1, .ref lg), (2, .int mi)]) hx hb dX7_strainAll_165 hl (k := 1) rfl (by decide +kernel) (by decide) rfl (fun ls hl => ?_)
  refine lv_goto (tgt := 125) hx hb dX7_strainAll_168 (by decide) ?_
  refine lv_iload hx hb dX7_strainAll_125 (lv_at hl 0 rfl) ?_
  refine lv_iload hx hb dX7_strainAll_127 (lv_at hl 2 rfl) ?_
  refine lv_icmp_ge (tgt := 171) hx hb dX7_strainAll_129 (by decide) (fun c_ => absurd c_ (by decide +kernel)) (fun _ => ?_)
  refine lv_aload hx hb dX7_strainAll_132 (lv_at hl 3 rfl) ?_
  refine lv_iload hx hb dX7_strainAll_134 (lv_at hl 0 rfl) ?_
  refine va_aldq hx hb hK hP 4 0 rfl rfl (pk_in 1 3 (by decide) rfl) dX7_strainAll_136 ?_
  refine kc_v (y := .ref mm) rfl ?_
  refine lv_astore (lv' := [(7, .ref mm), (6, .int 1), (5, .int 3), (4, .ref ma), (8, .int 0), (3, .int 0), (0, .ref rg), (1, .ref lg), (2, .int mi)]) hx hb dX7_strainAll_137 hl (by decide) rfl (fun ls hl => ?_)
  refine lv_aload hx hb dX7_strainAll_139 (lv_at hl 0 rfl) ?_
  refine va_getN (D := (dC, dI)) (ci := 8) (v := .int 0) (C := RX4) (T := TX4) (N := 3) hx hb hts hiX4 hown hK hP 2 rfl rfl 2 (by decide) (va_Nw.use rfl (hM.1 _ (List.mem_of_getElem? (i := 4) rfl))) (fun _ h9 => h9) rfl dX7_strainAll_141 ?_
  refine lv_sipush (v := 2000) hx hb dX7_strainAll_144 (by decide) ?_
  refine lv_icmp_le (tgt := 165) hx hb dX7_strainAll_147 (by decide) (fun _ => ?_) (fun c_ => absurd (by decide +kernel) c_)
  refine lv_iinc (v := 2) (lv' := [(6, .int 2), (7, .ref mm), (5, .int 3), (4, .ref ma), (8, .int 0), (3, .int 0), (0, .ref rg), (1, .ref lg), (2, .int mi)]) hx hb dX7_strainAll_165 hl (k := 1) rfl (by decide +kernel) (by decide) rfl (fun ls hl => ?_)
  refine lv_goto (tgt := 125) hx hb dX7_strainAll_168 (by decide) ?_
  refine lv_iload hx hb dX7_strainAll_125 (lv_at hl 0 rfl) ?_
  refine lv_iload hx hb dX7_strainAll_127 (lv_at hl 2 rfl) ?_
  refine lv_icmp_ge (tgt := 171) hx hb dX7_strainAll_129 (by decide) (fun c_ => absurd c_ (by decide +kernel)) (fun _ => ?_)
  refine lv_aload hx hb dX7_strainAll_132 (lv_at hl 3 rfl) ?_
  refine lv_iload hx hb dX7_strainAll_134 (lv_at hl 0 rfl) ?_
  refine va_aldq hx hb hK hP 4 0 rfl rfl (pk_in 2 3 (by decide) rfl) dX7_strainAll_136 ?_
  refine kc_v (y := .ref mz) rfl ?_
  refine lv_astore (lv' := [(7, .ref mz), (6, .int 2), (5, .int 3), (4, .ref ma), (8, .int 0), (3, .int 0), (0, .ref rg), (1, .ref lg), (2, .int mi)]) hx hb dX7_strainAll_137 hl (by decide) rfl (fun ls hl => ?_)
  refine lv_aload hx hb dX7_strainAll_139 (lv_at hl 0 rfl) ?_
  refine va_getN (D := (dC, dI)) (ci := 8) (v := .int 0) (C := RX4) (T := TX4) (N := 3) hx hb hts hiX4 hown hK hP 3 rfl rfl 2 (by decide) (va_Nw.use rfl (hM.1 _ (List.mem_of_getElem? (i := 4) rfl))) (fun _ h9 => h9) rfl dX7_strainAll_141 ?_
  refine lv_sipush (v := 2000) hx hb dX7_strainAll_144 (by decide) ?_
  refine lv_icmp_le (tgt := 165) hx hb dX7_strainAll_147 (by decide) (fun _ => ?_) (fun c_ => absurd (by decide +kernel) c_)
  refine lv_iinc (v := 3) (lv' := [(6, .int 3), (7, .ref mz), (5, .int 3), (4, .ref ma), (8, .int 0), (3, .int 0), (0, .ref rg), (1, .ref lg), (2, .int mi)]) hx hb dX7_strainAll_165 hl (k := 1) rfl (by decide +kernel) (by decide) rfl (fun ls hl => ?_)
  refine lv_goto (tgt := 125) hx hb dX7_strainAll_168 (by decide) ?_
  refine lv_iload hx hb dX7_strainAll_125 (lv_at hl 0 rfl) ?_
  refine lv_iload hx hb dX7_strainAll_127 (lv_at hl 2 rfl) ?_
  refine lv_icmp_ge (tgt := 171) hx hb dX7_strainAll_129 (by decide) (fun _ => ?_) (fun c_ => absurd (by decide +kernel) c_)
  refine lv_iload_n hx hb dX7_strainAll_171 rfl (lv_at hl 5 rfl) ?_
  exact W.zret (v := 0) hx hb hr (by decide +kernel) (fun t ht hW => ⟨⟨0, (), rfl, rfl, kB_end (w9 := [(rg, .inr (11, [.ref mf, .ref mm, .ref mz, .ref ma, .ref sa, .int 0])), (mf, .inr (8, [.int 0, .int 0, .int 0])), (mm, .inr (8, [.int 0, .int 0, .int 0])), (mz, .inr (8, [.int 0, .int 0, .int 0])), (ma, .inl (cM, 3, .inr (.inr (.inr (.inr (va_up (va_up (va_up (fun _ => none) 0 (some mf)) 1 (some mm)) 2 (some mz))))))), (sa, .inl (cS, 9, .inr (.inr (.inr (.inr (va_up (va_up (va_up (va_up (va_up (va_up (va_up (va_up (va_up (fun _ => none) 0 (some s0)) 1 (some s1)) 2 (some s2)) 3 (some s3)) 4 (some s4)) 5 (some s5)) 6 (some s6)) 7 (some s7)) 8 (some s8))))))), (s0, .inr (12, [.int 8, .int 6, .ref mf, .int 1, .int 0, .int 900, .int 0, .int 0])), (s1, .inr (12, [.int 7, .int 5, .ref mf, .int 1, .int 0, .int 900, .int 0, .int 0])), (s2, .inr (12, [.int 3, .int 3, .ref mf, .int 1, .int 0, .int 900, .int 0, .int 0])), (s3, .inr (12, [.int 10, .int 8, .ref mm, .int 1, .int 0, .int 900, .int 0, .int 0])), (s4, .inr (12, [.int 9, .int 6, .ref mm, .int 1, .int 0, .int 900, .int 0, .int 0])), (s5, .inr (12, [.int 4, .int 3, .ref mm, .int 1, .int 0, .int 900, .int 0, .int 0])), (s6, .inr (12, [.int 5, .int 4, .ref mz, .int 1, .int 0, .int 900, .int 0, .int 0])), (s7, .inr (12, [.int 4, .int 3, .ref mf, .int 0, .int 0, .int 900, .int 0, .int 0])), (s8, .inr (12, [.int 6, .int 4, .ref mz, .int 0, .int 0, .int 900, .int 0, .int 0]))]) (t9 := []) hP hK hD [0, 1, 2, 3, 4, 5, 6, 7, 8, 9, 10, 11, 12, 13, 14] [] rfl (by decide) rfl rfl t ht hW⟩, hS.F ht⟩) hS.2.2 dX7_strainAll_172
abbrev wd_k_wholeStrain (z : Nat → Nat) (rg : Nat) (mf : Nat) (mm : Nat) (mz : Nat) (ma : Nat) (sa : Nat) : va_W := [(rg, .inr (11, [.ref mf, .ref mm, .ref mz, .ref ma, .ref sa, .int 0])), (mf, .inr (8, [.int 0, .int 0, .int 0])), (mm, .inr (8, [.int 0, .int 0, .int 0])), (mz, .inr (8, [.int 0, .int 0, .int 0]))]
set_option maxHeartbeats 4000000 in
set_option maxRecDepth 100000 in
theorem k_wholeStrain (l : Launch) (dC : Nat → ClassId) (dI : Nat → Nat → Nat) (z zK zV : Nat → Nat) (rg : Nat) (mf : Nat) (mm : Nat) (mz : Nat) (ma : Nat) (sa : Nat) (sz : Nat)  : Met l yX7_wholeStrain wsX7_wholeStrain ({ frames := 0, cells := 0, slots := 0, locals := 0 }) (kP dC dI z zK zV [.ref rg] sz (wd_k_wholeStrain z rg mf mm mz ma sa) []) (va_Qi (fun (r : Int32) (_ : Unit) => 0 = r) (fun _ t => kB (dC, dI) (va_A (wd_k_wholeStrain z rg mf mm mz ma sa) sz) [(rg, .inr (11, [.ref mf, .ref mm, .ref mz, .ref ma, .ref sa, .int 0])), (mf, .inr (8, [.int 0, .int 0, .int 0])), (mm, .inr (8, [.int 0, .int 0, .int 0])), (mz, .inr (8, [.int 0, .int 0, .int 0]))] [] t) (va_A (wd_k_wholeStrain z rg mf mm mz ma sa) sz)) 0 0 (va_A (wd_k_wholeStrain z rg mf mm mz ma sa) sz) := by
  refine Met.ofW (cc := cX7_wholeStrain) (maxL := 1) (ret := (some .int)) (by decide) rfl ?_
  intro p e s m args below meth c s₁ B hml hv
  obtain ⟨rfl, hsz, hP, hK, hD0, hM⟩ := hv
  have hx := B.exec
  have hb := B.bytes
  have hr := B.returns
  have hts := atoms_spec (ws := wsX7_wholeStrain) B.pre
  have hown : s.vm.findClass RX7 = some m.cls := findClass_of_methodNamed B.named
  have hlocks := B.notSynchronized
  have hiX7 : ∀ w ∈ u_ws RX7 TX7 6, w ∈ wsX7_wholeStrain := by decide +kernel
  have hiX4 : ∀ w ∈ u_ws RX4 TX4 3, w ∈ wsX7_wholeStrain := by decide +kernel
  subst hsz
  have hD := hD0.self (sz := s.heap.size)
  generalize hAe : va_A (wd_k_wholeStrain z rg mf mm mz ma sa) s.heap.size = A at hD hM ⊢
  have hA : ∀ q : Nat, s.heap.size ≤ q → A q := fun q h => by rw [← hAe]; exact Or.inr h
  have hS : va_S A s.heap s.heap [] := va_S.rf
  have hP : va_P (dC, dI) vwCl [(rg, .inr (11, [.ref mf, .ref mm, .ref mz, .ref ma, .ref sa, .int 0])), (mf, .inr (8, [.int 0, .int 0, .int 0])), (mm, .inr (8, [.int 0, .int 0, .int 0])), (mz, .inr (8, [.int 0, .int 0, .int 0]))] s.heap := hP
  have hD : va_D A [(rg, .inr (11, [.ref mf, .ref mm, .ref mz, .ref ma, .ref sa, .int 0])), (mf, .inr (8, [.int 0, .int 0, .int 0])), (mm, .inr (8, [.int 0, .int 0, .int 0])), (mz, .inr (8, [.int 0, .int 0, .int 0]))] := hD
  have hl := lv_entry ([.ref rg]) (n := 1) (Nat.le_of_ble_eq_true rfl)
  rw [lg_entry_eq]
  generalize (lg_sl ([.ref rg]) ++ List.replicate (1 - (lg_sl ([.ref rg])).length) Slot.unset).toArray = ls at hl ⊢
  have hl : lv_has ls 1 [(0, .ref rg)] := hl
  refine lv_aload_n hx hb dX7_wholeStrain_0 rfl (lv_at hl 0 rfl) ?_
  refine va_get (D := (dC, dI)) (ci := 11) (v := .ref mf) (C := RX7) (T := TX7) (N := 6) hx hb hts hiX7 hown hK hP 0 rfl rfl 0 (by decide) (hts (.fieldLink RX7 12 "SquareRig$Rig" "fore" "LSquareRig$Mast;") (by decide +kernel)) (fun _ h9 => h9) rfl dX7_wholeStrain_1 ?_
  refine va_getN (D := (dC, dI)) (ci := 8) (v := .int 0) (C := RX4) (T := TX4) (N := 3) hx hb hts hiX4 hown hK hP 1 rfl rfl 2 (by decide) (va_Nw.use rfl (hM.1 _ (List.mem_of_getElem? (i := 4) rfl))) (fun _ h9 => h9) rfl dX7_wholeStrain_4 ?_
  refine lv_aload_n hx hb dX7_wholeStrain_7 rfl (lv_at hl 0 rfl) ?_
  refine va_get (D := (dC, dI)) (ci := 11) (v := .ref mm) (C := RX7) (T := TX7) (N := 6) hx hb hts hiX7 hown hK hP 0 rfl rfl 1 (by decide) (hts (.fieldLink RX7 18 "SquareRig$Rig" "main" "LSquareRig$Mast;") (by decide +kernel)) (fun _ h9 => h9) rfl dX7_wholeStrain_8 ?_
  refine va_getN (D := (dC, dI)) (ci := 8) (v := .int 0) (C := RX4) (T := TX4) (N := 3) hx hb hts hiX4 hown hK hP 2 rfl rfl 2 (by decide) (va_Nw.use rfl (hM.1 _ (List.mem_of_getElem? (i := 4) rfl))) (fun _ h9 => h9) rfl dX7_wholeStrain_11 ?_
  refine lv_iadd hx hb dX7_wholeStrain_14 ?_
  refine kc_i (y := 0) (by decide +kernel) ?_
  refine lv_aload_n hx hb dX7_wholeStrain_15 rfl (lv_at hl 0 rfl) ?_
  refine va_get (D := (dC, dI)) (ci := 11) (v := .ref mz) (C := RX7) (T := TX7) (N := 6) hx hb hts hiX7 hown hK hP 0 rfl rfl 2 (by decide) (hts (.fieldLink RX7 21 "SquareRig$Rig" "mizzen" "LSquareRig$Mast;") (by decide +kernel)) (fun _ h9 => h9) rfl dX7_wholeStrain_16 ?_
  refine va_getN (D := (dC, dI)) (ci := 8) (v := .int 0) (C := RX4) (T := TX4) (N := 3) hx hb hts hiX4 hown hK hP 3 rfl rfl 2 (by decide) (va_Nw.use rfl (hM.1 _ (List.mem_of_getElem? (i := 4) rfl))) (fun _ h9 => h9) rfl dX7_wholeStrain_19 ?_
  refine lv_iadd hx hb dX7_wholeStrain_22 ?_
  refine kc_i (y := 0) (by decide +kernel) ?_
  exact W.iret (v := 0) hx hb hr (fun t ht hW => ⟨⟨0, (), rfl, rfl, kB_end (w9 := [(rg, .inr (11, [.ref mf, .ref mm, .ref mz, .ref ma, .ref sa, .int 0])), (mf, .inr (8, [.int 0, .int 0, .int 0])), (mm, .inr (8, [.int 0, .int 0, .int 0])), (mz, .inr (8, [.int 0, .int 0, .int 0]))]) (t9 := []) hP hK hD [0, 1, 2, 3] [] rfl (by decide) rfl rfl t ht hW⟩, hS.F ht⟩) hS.2.2 dX7_wholeStrain_23
abbrev wd_k_offBow (z : Nat → Nat) (sh : Nat) (rg : Nat) (dk : Nat) (hd : Nat) (lg : Nat) (pl : Nat) (pr : Nat) (mi : Int32) (fo : Int32) : va_W := [(sh, .inr (13, [.ref rg, .ref dk, .ref hd, .ref lg, .ref pl, .ref pr, .int 0, .int 0, .int 0, .int 0, .int 0, .int mi, .int 0, .int 0, .int 0, .int fo, .int 0]))]
set_option maxHeartbeats 4000000 in
set_option maxRecDepth 100000 in
theorem k_offBow (l : Launch) (dC : Nat → ClassId) (dI : Nat → Nat → Nat) (z zK zV : Nat → Nat) (sh : Nat) (rg : Nat) (dk : Nat) (hd : Nat) (lg : Nat) (pl : Nat) (pr : Nat) (mi : Int32) (fo : Int32) (sz : Nat)  : Met l yX9_offBow wsX9_offBow ({ frames := 0, cells := 0, slots := 0, locals := 0 }) (kP dC dI z zK zV [.ref sh] sz (wd_k_offBow z sh rg dk hd lg pl pr mi fo) []) (va_Qi (fun (r : Int32) (_ : Unit) => 0 = r) (fun _ t => kB (dC, dI) (va_A (wd_k_offBow z sh rg dk hd lg pl pr mi fo) sz) [(sh, .inr (13, [.ref rg, .ref dk, .ref hd, .ref lg, .ref pl, .ref pr, .int 0, .int 0, .int 0, .int 0, .int 0, .int mi, .int 0, .int 0, .int 0, .int fo, .int 0]))] [] t) (va_A (wd_k_offBow z sh rg dk hd lg pl pr mi fo) sz)) 0 0 (va_A (wd_k_offBow z sh rg dk hd lg pl pr mi fo) sz) := by
  refine Met.ofW (cc := cX9_offBow) (maxL := 2) (ret := (some .int)) (by decide) rfl ?_
  intro p e s m args below meth c s₁ B hml hv
  obtain ⟨rfl, hsz, hP, hK, hD0, hM⟩ := hv
  have hx := B.exec
  have hb := B.bytes
  have hr := B.returns
  have hts := atoms_spec (ws := wsX9_offBow) B.pre
  have hown : s.vm.findClass RX9 = some m.cls := findClass_of_methodNamed B.named
  have hlocks := B.notSynchronized
  have hiX9 : ∀ w ∈ u_ws RX9 TX9 17, w ∈ wsX9_offBow := by decide +kernel
  subst hsz
  have hD := hD0.self (sz := s.heap.size)
  generalize hAe : va_A (wd_k_offBow z sh rg dk hd lg pl pr mi fo) s.heap.size = A at hD hM ⊢
  have hA : ∀ q : Nat, s.heap.size ≤ q → A q := fun q h => by rw [← hAe]; exact Or.inr h
  have hS : va_S A s.heap s.heap [] := va_S.rf
  have hP : va_P (dC, dI) vwCl [(sh, .inr (13, [.ref rg, .ref dk, .ref hd, .ref lg, .ref pl, .ref pr, .int 0, .int 0, .int 0, .int 0, .int 0, .int mi, .int 0, .int 0, .int 0, .int fo, .int 0]))] s.heap := hP
  have hD : va_D A [(sh, .inr (13, [.ref rg, .ref dk, .ref hd, .ref lg, .ref pl, .ref pr, .int 0, .int 0, .int 0, .int 0, .int 0, .int mi, .int 0, .int 0, .int 0, .int fo, .int 0]))] := hD
  have hl := lv_entry ([.ref sh]) (n := 2) (Nat.le_of_ble_eq_true rfl)
  rw [lg_entry_eq]
  generalize (lg_sl ([.ref sh]) ++ List.replicate (2 - (lg_sl ([.ref sh])).length) Slot.unset).toArray = ls at hl ⊢
  have hl : lv_has ls 2 [(0, .ref sh)] := hl
  refine lv_aload_n hx hb dX9_offBow_0 rfl (lv_at hl 0 rfl) ?_
  refine va_get (D := (dC, dI)) (ci := 13) (v := .int 0) (C := RX9) (T := TX9) (N := 17) hx hb hts hiX9 hown hK hP 0 rfl rfl 6 (by decide) (hts (.fieldLink RX9 49 "SquareRig$Ship" "windFrom" "I") (by decide +kernel)) (fun _ h9 => h9) rfl dX9_offBow_1 ?_
  refine lv_aload_n hx hb dX9_offBow_4 rfl (lv_at hl 0 rfl) ?_
  refine va_get (D := (dC, dI)) (ci := 13) (v := .int 0) (C := RX9) (T := TX9) (N := 17) hx hb hts hiX9 hown hK hP 0 rfl rfl 12 (by decide) (hts (.fieldLink RX9 68 "SquareRig$Ship" "heading" "I") (by decide +kernel)) (fun _ h9 => h9) rfl dX9_offBow_5 ?_
  refine lv_isub hx hb dX9_offBow_8 ?_
  refine kc_i (y := 0) (by decide +kernel) ?_
  refine lv_bipush (v := 31) hx hb dX9_offBow_9 (by decide) ?_
  refine lv_iand hx hb dX9_offBow_11 ?_
  refine kc_i (y := 0) (by decide +kernel) ?_
  refine lv_istore_n (lv' := [(1, .int 0), (0, .ref sh)]) hx hb dX9_offBow_12 rfl hl (by decide) rfl (fun ls hl => ?_)
  refine lv_iload_n hx hb dX9_offBow_13 rfl (lv_at hl 0 rfl) ?_
  refine lv_bipush (v := 16) hx hb dX9_offBow_14 (by decide) ?_
  refine lv_icmp_le (tgt := 26) hx hb dX9_offBow_16 (by decide) (fun _ => ?_) (fun c_ => absurd (by decide +kernel) c_)
  refine lv_iload_n hx hb dX9_offBow_26 rfl (lv_at hl 0 rfl) ?_
  exact W.iret (v := 0) hx hb hr (fun t ht hW => ⟨⟨0, (), rfl, rfl, kB_end (w9 := [(sh, .inr (13, [.ref rg, .ref dk, .ref hd, .ref lg, .ref pl, .ref pr, .int 0, .int 0, .int 0, .int 0, .int 0, .int mi, .int 0, .int 0, .int 0, .int fo, .int 0]))]) (t9 := []) hP hK hD [0] [] rfl (by decide) rfl rfl t ht hW⟩, hS.F ht⟩) hS.2.2 dX9_offBow_27
abbrev wd_k_windSide (z : Nat → Nat) (sh : Nat) (rg : Nat) (dk : Nat) (hd : Nat) (lg : Nat) (pl : Nat) (pr : Nat) (mi : Int32) (fo : Int32) : va_W := [(sh, .inr (13, [.ref rg, .ref dk, .ref hd, .ref lg, .ref pl, .ref pr, .int 0, .int 0, .int 0, .int 0, .int 0, .int mi, .int 0, .int 0, .int 0, .int fo, .int 0]))]
set_option maxHeartbeats 4000000 in
set_option maxRecDepth 100000 in
theorem k_windSide (l : Launch) (dC : Nat → ClassId) (dI : Nat → Nat → Nat) (z zK zV : Nat → Nat) (sh : Nat) (rg : Nat) (dk : Nat) (hd : Nat) (lg : Nat) (pl : Nat) (pr : Nat) (mi : Int32) (fo : Int32) (sz : Nat)  : Met l yX9_windSide wsX9_windSide ({ frames := 1, cells := 0, slots := 0, locals := 21 }) (kP dC dI z zK zV [.ref sh] sz (wd_k_windSide z sh rg dk hd lg pl pr mi fo) []) (va_Qi (fun (r : Int32) (_ : Unit) => 0 = r) (fun _ t => kB (dC, dI) (va_A (wd_k_windSide z sh rg dk hd lg pl pr mi fo) sz) [(sh, .inr (13, [.ref rg, .ref dk, .ref hd, .ref lg, .ref pl, .ref pr, .int 0, .int 0, .int 0, .int 0, .int 0, .int mi, .int 0, .int 0, .int 0, .int fo, .int 0]))] [] t) (va_A (wd_k_windSide z sh rg dk hd lg pl pr mi fo) sz)) 0 0 (va_A (wd_k_windSide z sh rg dk hd lg pl pr mi fo) sz) := by
  refine Met.ofW (cc := cX9_windSide) (maxL := 2) (ret := (some .int)) (by decide) rfl ?_
  intro p e s m args below meth c s₁ B hml hv
  obtain ⟨rfl, hsz, hP, hK, hD0, hM⟩ := hv
  have hx := B.exec
  have hb := B.bytes
  have hr := B.returns
  have hts := atoms_spec (ws := wsX9_windSide) B.pre
  have hown : s.vm.findClass RX9 = some m.cls := findClass_of_methodNamed B.named
  have hlocks := B.notSynchronized
  subst hsz
  have hD := hD0.self (sz := s.heap.size)
  generalize hAe : va_A (wd_k_windSide z sh rg dk hd lg pl pr mi fo) s.heap.size = A at hD hM ⊢
  have hA : ∀ q : Nat, s.heap.size ≤ q → A q := fun q h => by rw [← hAe]; exact Or.inr h
  have hS : va_S A s.heap s.heap [] := va_S.rf
  have hP : va_P (dC, dI) vwCl [(sh, .inr (13, [.ref rg, .ref dk, .ref hd, .ref lg, .ref pl, .ref pr, .int 0, .int 0, .int 0, .int 0, .int 0, .int mi, .int 0, .int 0, .int 0, .int fo, .int 0]))] s.heap := hP
  have hD : va_D A [(sh, .inr (13, [.ref rg, .ref dk, .ref hd, .ref lg, .ref pl, .ref pr, .int 0, .int 0, .int 0, .int 0, .int 0, .int mi, .int 0, .int 0, .int 0, .int fo, .int 0]))] := hD
  have hl := lv_entry ([.ref sh]) (n := 2) (Nat.le_of_ble_eq_true rfl)
  rw [lg_entry_eq]
  generalize (lg_sl ([.ref sh]) ++ List.replicate (2 - (lg_sl ([.ref sh])).length) Slot.unset).toArray = ls at hl ⊢
  have hl : lv_has ls 2 [(0, .ref sh)] := hl
  refine lv_aload_n hx hb dX9_windSide_0 rfl (lv_at hl 0 rfl) ?_
  have hPc := hP.sub (ws' := [(sh, .inr (13, [.ref rg, .ref dk, .ref hd, .ref lg, .ref pl, .ref pr, .int 0, .int 0, .int 0, .int 0, .int 0, .int mi, .int 0, .int 0, .int 0, .int fo, .int 0]))]) [0] rfl
  have hDc := hD.sub (ws' := [(sh, .inr (13, [.ref rg, .ref dk, .ref hd, .ref lg, .ref pl, .ref pr, .int 0, .int 0, .int 0, .int 0, .int 0, .int mi, .int 0, .int 0, .int 0, .int fo, .int 0]))]) [0] (by decide) rfl
  have hKc := hK.sub (tys' := []) [] rfl
  have hFc := va_free (wc := [(sh, .inr (13, [.ref rg, .ref dk, .ref hd, .ref lg, .ref pl, .ref pr, .int 0, .int 0, .int 0, .int 0, .int 0, .int mi, .int 0, .int 0, .int 0, .int fo, .int 0]))]) hD hS hA [0] rfl
  refine va_calli (va_runV (As := []) (rest := []) ⟨hx, hb, hml, hown, hts⟩ (k_offBow l dC dI z zK zV sh rg dk hd lg pl pr mi fo s.heap.size) (cwV 0 hts gX9_windSide_X9_offBow rfl rfl rfl (by decide +kernel) ⟨Nat.le_of_ble_eq_true rfl, Nat.le_of_ble_eq_true rfl⟩) ⟨kP_blind, va_recv hKc hPc (ci := 13) (q0 := 0) rfl rfl, kP_go hPc hKc hDc hFc hM hS⟩ rfl rfl hl.1 rfl (lv_room (Nat.le_of_ble_eq_true rfl)) dX9_windSide_1 ⟨Nat.le_of_ble_eq_true rfl, Nat.le_of_ble_eq_true rfl⟩) hS (fun q _ h => hFc q h) hFc (fun r1 u t H1 locs ht hvm hw hB hz1 hk1 hS => ?_)
  obtain ⟨hP, hD, hK⟩ := kJ (wr := []) (w1 := [(sh, .inr (13, [.ref rg, .ref dk, .ref hd, .ref lg, .ref pl, .ref pr, .int 0, .int 0, .int 0, .int 0, .int 0, .int mi, .int 0, .int 0, .int 0, .int fo, .int 0]))]) (t1 := []) hP hD hK [0] [] rfl rfl (by decide) (by decide) hk1 hFc ht hvm hB
  generalize H1 = H at hP hS ⊢
  have hP : va_P (dC, dI) vwCl [(sh, .inr (13, [.ref rg, .ref dk, .ref hd, .ref lg, .ref pl, .ref pr, .int 0, .int 0, .int 0, .int 0, .int 0, .int mi, .int 0, .int 0, .int 0, .int fo, .int 0]))] H := hP
  have hD : va_D A [(sh, .inr (13, [.ref rg, .ref dk, .ref hd, .ref lg, .ref pl, .ref pr, .int 0, .int 0, .int 0, .int 0, .int 0, .int mi, .int 0, .int 0, .int 0, .int fo, .int 0]))] := hD
  have hK : va_K (dC, dI) vwCl [] s := hK
  obtain rfl : 0 = r1 := hw
  refine lv_istore_n (lv' := [(1, .int 0), (0, .ref sh)]) hx hb dX9_windSide_4 rfl hl (by decide) rfl (fun ls hl => ?_)
  refine lv_iload_n hx hb dX9_windSide_5 rfl (lv_at hl 0 rfl) ?_
  refine lv_if_eq (tgt := 15) hx hb dX9_windSide_6 (by decide) (fun _ => ?_) (fun c_ => absurd (by decide +kernel) c_)
  refine lv_iconst (v := 0) hx hb dX9_windSide_15 (by decide) ?_
  exact W.iret (v := 0) hx hb hr (fun t ht hW => ⟨⟨0, (), rfl, rfl, kB_end (w9 := [(sh, .inr (13, [.ref rg, .ref dk, .ref hd, .ref lg, .ref pl, .ref pr, .int 0, .int 0, .int 0, .int 0, .int 0, .int mi, .int 0, .int 0, .int 0, .int fo, .int 0]))]) (t9 := []) hP hK hD [0] [] rfl (by decide) rfl rfl t ht hW⟩, hS.F ht⟩) hS.2.2 dX9_windSide_16
abbrev wd_k_feelWind (z : Nat → Nat) (sh : Nat) (rg : Nat) (mf : Nat) (mm : Nat) (mz : Nat) (ma : Nat) (sa : Nat) (s0 : Nat) (s1 : Nat) (s2 : Nat) (s3 : Nat) (s4 : Nat) (s5 : Nat) (s6 : Nat) (s7 : Nat) (s8 : Nat) (dk : Nat) (hd : Nat) (lg : Nat) (pl : Nat) (pr : Nat) (cM : ClassId) (cS : ClassId) (mi : Int32) (fo : Int32) : va_W := [(sh, .inr (13, [.ref rg, .ref dk, .ref hd, .ref lg, .ref pl, .ref pr, .int 0, .int 0, .int 0, .int 0, .int 0, .int mi, .int 0, .int 0, .int 0, .int fo, .int 0])), (rg, .inr (11, [.ref mf, .ref mm, .ref mz, .ref ma, .ref sa, .int 0])), (mf, .inr (8, [.int 0, .int 0, .int 0])), (mm, .inr (8, [.int 0, .int 0, .int 0])), (mz, .inr (8, [.int 0, .int 0, .int 0])), (ma, .inl (cM, 3, .inr (.inr (.inr (.inr (va_up (va_up (va_up (fun _ => none) 0 (some mf)) 1 (some mm)) 2 (some mz))))))), (sa, .inl (cS, 9, .inr (.inr (.inr (.inr (va_up (va_up (va_up (va_up (va_up (va_up (va_up (va_up (va_up (fun _ => none) 0 (some s0)) 1 (some s1)) 2 (some s2)) 3 (some s3)) 4 (some s4)) 5 (some s5)) 6 (some s6)) 7 (some s7)) 8 (some s8))))))), (s0, .inr (12, [.int 8, .int 6, .ref mf, .int 1, .int 0, .int 900, .int 0, .int 0])), (s1, .inr (12, [.int 7, .int 5, .ref mf, .int 1, .int 0, .int 900, .int 0, .int 0])), (s2, .inr (12, [.int 3, .int 3, .ref mf, .int 1, .int 0, .int 900, .int 0, .int 0])), (s3, .inr (12, [.int 10, .int 8, .ref mm, .int 1, .int 0, .int 900, .int 0, .int 0])), (s4, .inr (12, [.int 9, .int 6, .ref mm, .int 1, .int 0, .int 900, .int 0, .int 0])), (s5, .inr (12, [.int 4, .int 3, .ref mm, .int 1, .int 0, .int 900, .int 0, .int 0])), (s6, .inr (12, [.int 5, .int 4, .ref mz, .int 1, .int 0, .int 900, .int 0, .int 0])), (s7, .inr (12, [.int 4, .int 3, .ref mf, .int 0, .int 0, .int 900, .int 0, .int 0])), (s8, .inr (12, [.int 6, .int 4, .ref mz, .int 0, .int 0, .int 900, .int 0, .int 0]))]
set_option maxHeartbeats 4000000 in
set_option maxRecDepth 100000 in
theorem k_feelWind (l : Launch) (dC : Nat → ClassId) (dI : Nat → Nat → Nat) (z zK zV : Nat → Nat) (sh : Nat) (rg : Nat) (mf : Nat) (mm : Nat) (mz : Nat) (ma : Nat) (sa : Nat) (s0 : Nat) (s1 : Nat) (s2 : Nat) (s3 : Nat) (s4 : Nat) (s5 : Nat) (s6 : Nat) (s7 : Nat) (s8 : Nat) (dk : Nat) (hd : Nat) (lg : Nat) (pl : Nat) (pr : Nat) (cM : ClassId) (cS : ClassId) (mi : Int32) (fo : Int32) (sz : Nat)  : Met l yX9_feelWind wsX9_feelWind ({ frames := 3, cells := 0, slots := 0, locals := 67 }) (kP dC dI z zK zV [.ref sh] sz (wd_k_feelWind z sh rg mf mm mz ma sa s0 s1 s2 s3 s4 s5 s6 s7 s8 dk hd lg pl pr cM cS mi fo) [(cM, .object RX4), (cS, .object RX8)]) (va_Qv (fun _ : Unit => True) (fun _ t => kB (dC, dI) (va_A (wd_k_feelWind z sh rg mf mm mz ma sa s0 s1 s2 s3 s4 s5 s6 s7 s8 dk hd lg pl pr cM cS mi fo) sz) [(sh, .inr (13, [.ref rg, .ref dk, .ref hd, .ref lg, .ref pl, .ref pr, .int 0, .int 0, .int 0, .int 0, .int 0, .int mi, .int 0, .int 0, .int 0, .int fo, .int 0])), (rg, .inr (11, [.ref mf, .ref mm, .ref mz, .ref ma, .ref sa, .int 0])), (mf, .inr (8, [.int 0, .int 0, .int 0])), (mm, .inr (8, [.int 0, .int 0, .int 0])), (mz, .inr (8, [.int 0, .int 0, .int 0])), (ma, .inl (cM, 3, .inr (.inr (.inr (.inr (va_up (va_up (va_up (fun _ => none) 0 (some mf)) 1 (some mm)) 2 (some mz))))))), (sa, .inl (cS, 9, .inr (.inr (.inr (.inr (va_up (va_up (va_up (va_up (va_up (va_up (va_up (va_up (va_up (fun _ => none) 0 (some s0)) 1 (some s1)) 2 (some s2)) 3 (some s3)) 4 (some s4)) 5 (some s5)) 6 (some s6)) 7 (some s7)) 8 (some s8))))))), (s0, .inr (12, [.int 8, .int 6, .ref mf, .int 1, .int 0, .int 900, .int 0, .int 0])), (s1, .inr (12, [.int 7, .int 5, .ref mf, .int 1, .int 0, .int 900, .int 0, .int 0])), (s2, .inr (12, [.int 3, .int 3, .ref mf, .int 1, .int 0, .int 900, .int 0, .int 0])), (s3, .inr (12, [.int 10, .int 8, .ref mm, .int 1, .int 0, .int 900, .int 0, .int 0])), (s4, .inr (12, [.int 9, .int 6, .ref mm, .int 1, .int 0, .int 900, .int 0, .int 0])), (s5, .inr (12, [.int 4, .int 3, .ref mm, .int 1, .int 0, .int 900, .int 0, .int 0])), (s6, .inr (12, [.int 5, .int 4, .ref mz, .int 1, .int 0, .int 900, .int 0, .int 0])), (s7, .inr (12, [.int 4, .int 3, .ref mf, .int 0, .int 0, .int 900, .int 0, .int 0])), (s8, .inr (12, [.int 6, .int 4, .ref mz, .int 0, .int 0, .int 900, .int 0, .int 0]))] [] t) (va_A (wd_k_feelWind z sh rg mf mm mz ma sa s0 s1 s2 s3 s4 s5 s6 s7 s8 dk hd lg pl pr cM cS mi fo) sz)) 0 0 (va_A (wd_k_feelWind z sh rg mf mm mz ma sa s0 s1 s2 s3 s4 s5 s6 s7 s8 dk hd lg pl pr cM cS mi fo) sz) := by
  refine Met.ofW (cc := cX9_feelWind) (maxL := 1) (ret := none) (by decide) rfl ?_
  intro p e s m args below meth c s₁ B hml hv
  obtain ⟨rfl, hsz, hP, hK, hD0, hM⟩ := hv
  have hx := B.exec
  have hb := B.bytes
  have hr := B.returns
  have hts := atoms_spec (ws := wsX9_feelWind) B.pre
  have hown : s.vm.findClass RX9 = some m.cls := findClass_of_methodNamed B.named
  have hlocks := B.notSynchronized
  have hiX9 : ∀ w ∈ u_ws RX9 TX9 17, w ∈ wsX9_feelWind := by decide +kernel
  subst hsz
  have hD := hD0.self (sz := s.heap.size)
  generalize hAe : va_A (wd_k_feelWind z sh rg mf mm mz ma sa s0 s1 s2 s3 s4 s5 s6 s7 s8 dk hd lg pl pr cM cS mi fo) s.heap.size = A at hD hM ⊢
  have hA : ∀ q : Nat, s.heap.size ≤ q → A q := fun q h => by rw [← hAe]; exact Or.inr h
  have hS : va_S A s.heap s.heap [] := va_S.rf
  have hP : va_P (dC, dI) vwCl [(sh, .inr (13, [.ref rg, .ref dk, .ref hd, .ref lg, .ref pl, .ref pr, .int 0, .int 0, .int 0, .int 0, .int 0, .int mi, .int 0, .int 0, .int 0, .int fo, .int 0])), (rg, .inr (11, [.ref mf, .ref mm, .ref mz, .ref ma, .ref sa, .int 0])), (mf, .inr (8, [.int 0, .int 0, .int 0])), (mm, .inr (8, [.int 0, .int 0, .int 0])), (mz, .inr (8, [.int 0, .int 0, .int 0])), (ma, .inl (cM, 3, .inr (.inr (.inr (.inr (va_up (va_up (va_up (fun _ => none) 0 (some mf)) 1 (some mm)) 2 (some mz))))))), (sa, .inl (cS, 9, .inr (.inr (.inr (.inr (va_up (va_up (va_up (va_up (va_up (va_up (va_up (va_up (va_up (fun _ => none) 0 (some s0)) 1 (some s1)) 2 (some s2)) 3 (some s3)) 4 (some s4)) 5 (some s5)) 6 (some s6)) 7 (some s7)) 8 (some s8))))))), (s0, .inr (12, [.int 8, .int 6, .ref mf, .int 1, .int 0, .int 900, .int 0, .int 0])), (s1, .inr (12, [.int 7, .int 5, .ref mf, .int 1, .int 0, .int 900, .int 0, .int 0])), (s2, .inr (12, [.int 3, .int 3, .ref mf, .int 1, .int 0, .int 900, .int 0, .int 0])), (s3, .inr (12, [.int 10, .int 8, .ref mm, .int 1, .int 0, .int 900, .int 0, .int 0])), (s4, .inr (12, [.int 9, .int 6, .ref mm, .int 1, .int 0, .int 900, .int 0, .int 0])), (s5, .inr (12, [.int 4, .int 3, .ref mm, .int 1, .int 0, .int 900, .int 0, .int 0])), (s6, .inr (12, [.int 5, .int 4, .ref mz, .int 1, .int 0, .int 900, .int 0, .int 0])), (s7, .inr (12, [.int 4, .int 3, .ref mf, .int 0, .int 0, .int 900, .int 0, .int 0])), (s8, .inr (12, [.int 6, .int 4, .ref mz, .int 0, .int 0, .int 900, .int 0, .int 0]))] s.heap := hP
  have hD : va_D A [(sh, .inr (13, [.ref rg, .ref dk, .ref hd, .ref lg, .ref pl, .ref pr, .int 0, .int 0, .int 0, .int 0, .int 0, .int mi, .int 0, .int 0, .int 0, .int fo, .int 0])), (rg, .inr (11, [.ref mf, .ref mm, .ref mz, .ref ma, .ref sa, .int 0])), (mf, .inr (8, [.int 0, .int 0, .int 0])), (mm, .inr (8, [.int 0, .int 0, .int 0])), (mz, .inr (8, [.int 0, .int 0, .int 0])), (ma, .inl (cM, 3, .inr (.inr (.inr (.inr (va_up (va_up (va_up (fun _ => none) 0 (some mf)) 1 (some mm)) 2 (some mz))))))), (sa, .inl (cS, 9, .inr (.inr (.inr (.inr (va_up (va_up (va_up (va_up (va_up (va_up (va_up (va_up (va_up (fun _ => none) 0 (some s0)) 1 (some s1)) 2 (some s2)) 3 (some s3)) 4 (some s4)) 5 (some s5)) 6 (some s6)) 7 (some s7)) 8 (some s8))))))), (s0, .inr (12, [.int 8, .int 6, .ref mf, .int 1, .int 0, .int 900, .int 0, .int 0])), (s1, .inr (12, [.int 7, .int 5, .ref mf, .int 1, .int 0, .int 900, .int 0, .int 0])), (s2, .inr (12, [.int 3, .int 3, .ref mf, .int 1, .int 0, .int 900, .int 0, .int 0])), (s3, .inr (12, [.int 10, .int 8, .ref mm, .int 1, .int 0, .int 900, .int 0, .int 0])), (s4, .inr (12, [.int 9, .int 6, .ref mm, .int 1, .int 0, .int 900, .int 0, .int 0])), (s5, .inr (12, [.int 4, .int 3, .ref mm, .int 1, .int 0, .int 900, .int 0, .int 0])), (s6, .inr (12, [.int 5, .int 4, .ref mz, .int 1, .int 0, .int 900, .int 0, .int 0])), (s7, .inr (12, [.int 4, .int 3, .ref mf, .int 0, .int 0, .int 900, .int 0, .int 0])), (s8, .inr (12, [.int 6, .int 4, .ref mz, .int 0, .int 0, .int 900, .int 0, .int 0]))] := hD
  have hl := lv_entry ([.ref sh]) (n := 1) (Nat.le_of_ble_eq_true rfl)
  rw [lg_entry_eq]
  generalize (lg_sl ([.ref sh]) ++ List.replicate (1 - (lg_sl ([.ref sh])).length) Slot.unset).toArray = ls at hl ⊢
  have hl : lv_has ls 1 [(0, .ref sh)] := hl
  refine lv_aload_n hx hb dX9_feelWind_0 rfl (lv_at hl 0 rfl) ?_
  refine va_get (D := (dC, dI)) (ci := 13) (v := .ref rg) (C := RX9) (T := TX9) (N := 17) hx hb hts hiX9 hown hK hP 0 rfl rfl 0 (by decide) (hts (.fieldLink RX9 12 "SquareRig$Ship" "rig" "LSquareRig$Rig;") (by decide +kernel)) (fun _ h9 => h9) rfl dX9_feelWind_1 ?_
  refine lv_aload_n hx hb dX9_feelWind_4 rfl (lv_at hl 0 rfl) ?_
  have hPc := hP.sub (ws' := [(sh, .inr (13, [.ref rg, .ref dk, .ref hd, .ref lg, .ref pl, .ref pr, .int 0, .int 0, .int 0, .int 0, .int 0, .int mi, .int 0, .int 0, .int 0, .int fo, .int 0]))]) [0] rfl
  have hDc := hD.sub (ws' := [(sh, .inr (13, [.ref rg, .ref dk, .ref hd, .ref lg, .ref pl, .ref pr, .int 0, .int 0, .int 0, .int 0, .int 0, .int mi, .int 0, .int 0, .int 0, .int fo, .int 0]))]) [0] (by decide) rfl
  have hKc := hK.sub (tys' := []) [] rfl
  have hFc := va_free (wc := [(sh, .inr (13, [.ref rg, .ref dk, .ref hd, .ref lg, .ref pl, .ref pr, .int 0, .int 0, .int 0, .int 0, .int 0, .int mi, .int 0, .int 0, .int 0, .int fo, .int 0]))]) hD hS hA [0] rfl
  refine va_calli (va_runV (As := []) (rest := [.ref rg]) ⟨hx, hb, hml, hown, hts⟩ (k_offBow l dC dI z zK zV sh rg dk hd lg pl pr mi fo s.heap.size) (cwV 0 hts gX9_feelWind_X9_offBow rfl rfl rfl (by decide +kernel) ⟨Nat.le_of_ble_eq_true rfl, Nat.le_of_ble_eq_true rfl⟩) ⟨kP_blind, va_recv hKc hPc (ci := 13) (q0 := 0) rfl rfl, kP_go hPc hKc hDc hFc hM hS⟩ rfl rfl hl.1 rfl (lv_room (Nat.le_of_ble_eq_true rfl)) dX9_feelWind_5 ⟨Nat.le_of_ble_eq_true rfl, Nat.le_of_ble_eq_true rfl⟩) hS (fun q _ h => hFc q h) hFc (fun r1 u t H1 locs ht hvm hw hB hz1 hk1 hS => ?_)
  obtain ⟨hP, hD, hK⟩ := kJ (wr := [(rg, .inr (11, [.ref mf, .ref mm, .ref mz, .ref ma, .ref sa, .int 0])), (mf, .inr (8, [.int 0, .int 0, .int 0])), (mm, .inr (8, [.int 0, .int 0, .int 0])), (mz, .inr (8, [.int 0, .int 0, .int 0])), (ma, .inl (cM, 3, .inr (.inr (.inr (.inr (va_up (va_up (va_up (fun _ => none) 0 (some mf)) 1 (some mm)) 2 (some mz))))))), (sa, .inl (cS, 9, .inr (.inr (.inr (.inr (va_up (va_up (va_up (va_up (va_up (va_up (va_up (va_up (va_up (fun _ => none) 0 (some s0)) 1 (some s1)) 2 (some s2)) 3 (some s3)) 4 (some s4)) 5 (some s5)) 6 (some s6)) 7 (some s7)) 8 (some s8))))))), (s0, .inr (12, [.int 8, .int 6, .ref mf, .int 1, .int 0, .int 900, .int 0, .int 0])), (s1, .inr (12, [.int 7, .int 5, .ref mf, .int 1, .int 0, .int 900, .int 0, .int 0])), (s2, .inr (12, [.int 3, .int 3, .ref mf, .int 1, .int 0, .int 900, .int 0, .int 0])), (s3, .inr (12, [.int 10, .int 8, .ref mm, .int 1, .int 0, .int 900, .int 0, .int 0])), (s4, .inr (12, [.int 9, .int 6, .ref mm, .int 1, .int 0, .int 900, .int 0, .int 0])), (s5, .inr (12, [.int 4, .int 3, .ref mm, .int 1, .int 0, .int 900, .int 0, .int 0])), (s6, .inr (12, [.int 5, .int 4, .ref mz, .int 1, .int 0, .int 900, .int 0, .int 0])), (s7, .inr (12, [.int 4, .int 3, .ref mf, .int 0, .int 0, .int 900, .int 0, .int 0])), (s8, .inr (12, [.int 6, .int 4, .ref mz, .int 0, .int 0, .int 900, .int 0, .int 0]))]) (w1 := [(sh, .inr (13, [.ref rg, .ref dk, .ref hd, .ref lg, .ref pl, .ref pr, .int 0, .int 0, .int 0, .int 0, .int 0, .int mi, .int 0, .int 0, .int 0, .int fo, .int 0]))]) (t1 := []) hP hD hK [0] [1, 2, 3, 4, 5, 6, 7, 8, 9, 10, 11, 12, 13, 14, 15] rfl rfl (by decide) (by decide) hk1 hFc ht hvm hB
  generalize H1 = H at hP hS ⊢
  have hP : va_P (dC, dI) vwCl [(rg, .inr (11, [.ref mf, .ref mm, .ref mz, .ref ma, .ref sa, .int 0])), (mf, .inr (8, [.int 0, .int 0, .int 0])), (mm, .inr (8, [.int 0, .int 0, .int 0])), (mz, .inr (8, [.int 0, .int 0, .int 0])), (ma, .inl (cM, 3, .inr (.inr (.inr (.inr (va_up (va_up (va_up (fun _ => none) 0 (some mf)) 1 (some mm)) 2 (some mz))))))), (sa, .inl (cS, 9, .inr (.inr (.inr (.inr (va_up (va_up (va_up (va_up (va_up (va_up (va_up (va_up (va_up (fun _ => none) 0 (some s0)) 1 (some s1)) 2 (some s2)) 3 (some s3)) 4 (some s4)) 5 (some s5)) 6 (some s6)) 7 (some s7)) 8 (some s8))))))), (s0, .inr (12, [.int 8, .int 6, .ref mf, .int 1, .int 0, .int 900, .int 0, .int 0])), (s1, .inr (12, [.int 7, .int 5, .ref mf, .int 1, .int 0, .int 900, .int 0, .int 0])), (s2, .inr (12, [.int 3, .int 3, .ref mf, .int 1, .int 0, .int 900, .int 0, .int 0])), (s3, .inr (12, [.int 10, .int 8, .ref mm, .int 1, .int 0, .int 900, .int 0, .int 0])), (s4, .inr (12, [.int 9, .int 6, .ref mm, .int 1, .int 0, .int 900, .int 0, .int 0])), (s5, .inr (12, [.int 4, .int 3, .ref mm, .int 1, .int 0, .int 900, .int 0, .int 0])), (s6, .inr (12, [.int 5, .int 4, .ref mz, .int 1, .int 0, .int 900, .int 0, .int 0])), (s7, .inr (12, [.int 4, .int 3, .ref mf, .int 0, .int 0, .int 900, .int 0, .int 0])), (s8, .inr (12, [.int 6, .int 4, .ref mz, .int 0, .int 0, .int 900, .int 0, .int 0])), (sh, .inr (13, [.ref rg, .ref dk, .ref hd, .ref lg, .ref pl, .ref pr, .int 0, .int 0, .int 0, .int 0, .int 0, .int mi, .int 0, .int 0, .int 0, .int fo, .int 0]))] H := hP
  have hD : va_D A [(rg, .inr (11, [.ref mf, .ref mm, .ref mz, .ref ma, .ref sa, .int 0])), (mf, .inr (8, [.int 0, .int 0, .int 0])), (mm, .inr (8, [.int 0, .int 0, .int 0])), (mz, .inr (8, [.int 0, .int 0, .int 0])), (ma, .inl (cM, 3, .inr (.inr (.inr (.inr (va_up (va_up (va_up (fun _ => none) 0 (some mf)) 1 (some mm)) 2 (some mz))))))), (sa, .inl (cS, 9, .inr (.inr (.inr (.inr (va_up (va_up (va_up (va_up (va_up (va_up (va_up (va_up (va_up (fun _ => none) 0 (some s0)) 1 (some s1)) 2 (some s2)) 3 (some s3)) 4 (some s4)) 5 (some s5)) 6 (some s6)) 7 (some s7)) 8 (some s8))))))), (s0, .inr (12, [.int 8, .int 6, .ref mf, .int 1, .int 0, .int 900, .int 0, .int 0])), (s1, .inr (12, [.int 7, .int 5, .ref mf, .int 1, .int 0, .int 900, .int 0, .int 0])), (s2, .inr (12, [.int 3, .int 3, .ref mf, .int 1, .int 0, .int 900, .int 0, .int 0])), (s3, .inr (12, [.int 10, .int 8, .ref mm, .int 1, .int 0, .int 900, .int 0, .int 0])), (s4, .inr (12, [.int 9, .int 6, .ref mm, .int 1, .int 0, .int 900, .int 0, .int 0])), (s5, .inr (12, [.int 4, .int 3, .ref mm, .int 1, .int 0, .int 900, .int 0, .int 0])), (s6, .inr (12, [.int 5, .int 4, .ref mz, .int 1, .int 0, .int 900, .int 0, .int 0])), (s7, .inr (12, [.int 4, .int 3, .ref mf, .int 0, .int 0, .int 900, .int 0, .int 0])), (s8, .inr (12, [.int 6, .int 4, .ref mz, .int 0, .int 0, .int 900, .int 0, .int 0])), (sh, .inr (13, [.ref rg, .ref dk, .ref hd, .ref lg, .ref pl, .ref pr, .int 0, .int 0, .int 0, .int 0, .int 0, .int mi, .int 0, .int 0, .int 0, .int fo, .int 0]))] := hD
  have hK : va_K (dC, dI) vwCl [(cM, .object RX4), (cS, .object RX8)] s := hK
  obtain rfl : 0 = r1 := hw
  refine lv_aload_n hx hb dX9_feelWind_8 rfl (lv_at hl 0 rfl) ?_
  refine va_get (D := (dC, dI)) (ci := 13) (v := .int 0) (C := RX9) (T := TX9) (N := 17) hx hb hts hiX9 hown hK hP 15 rfl rfl 7 (by decide) (hts (.fieldLink RX9 53 "SquareRig$Ship" "windStrength" "I") (by decide +kernel)) (fun _ h9 => h9) rfl dX9_feelWind_9 ?_
  have hPc := hP.sub (ws' := [(rg, .inr (11, [.ref mf, .ref mm, .ref mz, .ref ma, .ref sa, .int 0])), (mf, .inr (8, [.int 0, .int 0, .int 0])), (mm, .inr (8, [.int 0, .int 0, .int 0])), (mz, .inr (8, [.int 0, .int 0, .int 0])), (ma, .inl (cM, 3, .inr (.inr (.inr (.inr (va_up (va_up (va_up (fun _ => none) 0 (some mf)) 1 (some mm)) 2 (some mz))))))), (sa, .inl (cS, 9, .inr (.inr (.inr (.inr (va_up (va_up (va_up (va_up (va_up (va_up (va_up (va_up (va_up (fun _ => none) 0 (some s0)) 1 (some s1)) 2 (some s2)) 3 (some s3)) 4 (some s4)) 5 (some s5)) 6 (some s6)) 7 (some s7)) 8 (some s8))))))), (s0, .inr (12, [.int 8, .int 6, .ref mf, .int 1, .int 0, .int 900, .int 0, .int 0])), (s1, .inr (12, [.int 7, .int 5, .ref mf, .int 1, .int 0, .int 900, .int 0, .int 0])), (s2, .inr (12, [.int 3, .int 3, .ref mf, .int 1, .int 0, .int 900, .int 0, .int 0])), (s3, .inr (12, [.int 10, .int 8, .ref mm, .int 1, .int 0, .int 900, .int 0, .int 0])), (s4, .inr (12, [.int 9, .int 6, .ref mm, .int 1, .int 0, .int 900, .int 0, .int 0])), (s5, .inr (12, [.int 4, .int 3, .ref mm, .int 1, .int 0, .int 900, .int 0, .int 0])), (s6, .inr (12, [.int 5, .int 4, .ref mz, .int 1, .int 0, .int 900, .int 0, .int 0])), (s7, .inr (12, [.int 4, .int 3, .ref mf, .int 0, .int 0, .int 900, .int 0, .int 0])), (s8, .inr (12, [.int 6, .int 4, .ref mz, .int 0, .int 0, .int 900, .int 0, .int 0]))]) [0, 1, 2, 3, 4, 5, 6, 7, 8, 9, 10, 11, 12, 13, 14] rfl
  have hDc := hD.sub (ws' := [(rg, .inr (11, [.ref mf, .ref mm, .ref mz, .ref ma, .ref sa, .int 0])), (mf, .inr (8, [.int 0, .int 0, .int 0])), (mm, .inr (8, [.int 0, .int 0, .int 0])), (mz, .inr (8, [.int 0, .int 0, .int 0])), (ma, .inl (cM, 3, .inr (.inr (.inr (.inr (va_up (va_up (va_up (fun _ => none) 0 (some mf)) 1 (some mm)) 2 (some mz))))))), (sa, .inl (cS, 9, .inr (.inr (.inr (.inr (va_up (va_up (va_up (va_up (va_up (va_up (va_up (va_up (va_up (fun _ => none) 0 (some s0)) 1 (some s1)) 2 (some s2)) 3 (some s3)) 4 (some s4)) 5 (some s5)) 6 (some s6)) 7 (some s7)) 8 (some s8))))))), (s0, .inr (12, [.int 8, .int 6, .ref mf, .int 1, .int 0, .int 900, .int 0, .int 0])), (s1, .inr (12, [.int 7, .int 5, .ref mf, .int 1, .int 0, .int 900, .int 0, .int 0])), (s2, .inr (12, [.int 3, .int 3, .ref mf, .int 1, .int 0, .int 900, .int 0, .int 0])), (s3, .inr (12, [.int 10, .int 8, .ref mm, .int 1, .int 0, .int 900, .int 0, .int 0])), (s4, .inr (12, [.int 9, .int 6, .ref mm, .int 1, .int 0, .int 900, .int 0, .int 0])), (s5, .inr (12, [.int 4, .int 3, .ref mm, .int 1, .int 0, .int 900, .int 0, .int 0])), (s6, .inr (12, [.int 5, .int 4, .ref mz, .int 1, .int 0, .int 900, .int 0, .int 0])), (s7, .inr (12, [.int 4, .int 3, .ref mf, .int 0, .int 0, .int 900, .int 0, .int 0])), (s8, .inr (12, [.int 6, .int 4, .ref mz, .int 0, .int 0, .int 900, .int 0, .int 0]))]) [0, 1, 2, 3, 4, 5, 6, 7, 8, 9, 10, 11, 12, 13, 14] (by decide) rfl
  have hKc := hK.sub (tys' := [(cM, .object RX4), (cS, .object RX8)]) [0, 1] rfl
  have hFc := va_free (wc := [(rg, .inr (11, [.ref mf, .ref mm, .ref mz, .ref ma, .ref sa, .int 0])), (mf, .inr (8, [.int 0, .int 0, .int 0])), (mm, .inr (8, [.int 0, .int 0, .int 0])), (mz, .inr (8, [.int 0, .int 0, .int 0])), (ma, .inl (cM, 3, .inr (.inr (.inr (.inr (va_up (va_up (va_up (fun _ => none) 0 (some mf)) 1 (some mm)) 2 (some mz))))))), (sa, .inl (cS, 9, .inr (.inr (.inr (.inr (va_up (va_up (va_up (va_up (va_up (va_up (va_up (va_up (va_up (fun _ => none) 0 (some s0)) 1 (some s1)) 2 (some s2)) 3 (some s3)) 4 (some s4)) 5 (some s5)) 6 (some s6)) 7 (some s7)) 8 (some s8))))))), (s0, .inr (12, [.int 8, .int 6, .ref mf, .int 1, .int 0, .int 900, .int 0, .int 0])), (s1, .inr (12, [.int 7, .int 5, .ref mf, .int 1, .int 0, .int 900, .int 0, .int 0])), (s2, .inr (12, [.int 3, .int 3, .ref mf, .int 1, .int 0, .int 900, .int 0, .int 0])), (s3, .inr (12, [.int 10, .int 8, .ref mm, .int 1, .int 0, .int 900, .int 0, .int 0])), (s4, .inr (12, [.int 9, .int 6, .ref mm, .int 1, .int 0, .int 900, .int 0, .int 0])), (s5, .inr (12, [.int 4, .int 3, .ref mm, .int 1, .int 0, .int 900, .int 0, .int 0])), (s6, .inr (12, [.int 5, .int 4, .ref mz, .int 1, .int 0, .int 900, .int 0, .int 0])), (s7, .inr (12, [.int 4, .int 3, .ref mf, .int 0, .int 0, .int 900, .int 0, .int 0])), (s8, .inr (12, [.int 6, .int 4, .ref mz, .int 0, .int 0, .int 900, .int 0, .int 0]))]) hD hS hA [0, 1, 2, 3, 4, 5, 6, 7, 8, 9, 10, 11, 12, 13, 14] rfl
  refine va_callv (va_runV (As := [.int 0, .int 0]) (rest := []) ⟨hx, hb, hml, hown, hts⟩ (k_feel l dC dI z zK zV rg mf mm mz ma sa s0 s1 s2 s3 s4 s5 s6 s7 s8 cM cS H.size) (cwV 2 hts gX9_feelWind_X7_feel rfl rfl rfl (by decide +kernel) ⟨Nat.le_of_ble_eq_true rfl, Nat.le_of_ble_eq_true rfl⟩) ⟨kP_blind, va_recv hKc hPc (ci := 11) (q0 := 0) rfl rfl, kP_go hPc hKc hDc hFc hM hS⟩ rfl rfl hl.1 rfl (lv_room (Nat.le_of_ble_eq_true rfl)) dX9_feelWind_12 ⟨Nat.le_of_ble_eq_true rfl, Nat.le_of_ble_eq_true rfl⟩) hS (fun q _ h => hFc q h) hFc (fun u t H1 locs ht hvm hw hB hz1 hk1 hS => ?_)
  obtain ⟨hP, hD, hK⟩ := kJ (wr := [(sh, .inr (13, [.ref rg, .ref dk, .ref hd, .ref lg, .ref pl, .ref pr, .int 0, .int 0, .int 0, .int 0, .int 0, .int mi, .int 0, .int 0, .int 0, .int fo, .int 0]))]) (w1 := [(rg, .inr (11, [.ref mf, .ref mm, .ref mz, .ref ma, .ref sa, .int 0])), (mf, .inr (8, [.int 0, .int 0, .int 0])), (mm, .inr (8, [.int 0, .int 0, .int 0])), (mz, .inr (8, [.int 0, .int 0, .int 0])), (ma, .inl (cM, 3, .inr (.inr (.inr (.inr (va_up (va_up (va_up (fun _ => none) 0 (some mf)) 1 (some mm)) 2 (some mz))))))), (sa, .inl (cS, 9, .inr (.inr (.inr (.inr (va_up (va_up (va_up (va_up (va_up (va_up (va_up (va_up (va_up (fun _ => none) 0 (some s0)) 1 (some s1)) 2 (some s2)) 3 (some s3)) 4 (some s4)) 5 (some s5)) 6 (some s6)) 7 (some s7)) 8 (some s8))))))), (s0, .inr (12, [.int 8, .int 6, .ref mf, .int 1, .int 0, .int 900, .int 0, .int 0])), (s1, .inr (12, [.int 7, .int 5, .ref mf, .int 1, .int 0, .int 900, .int 0, .int 0])), (s2, .inr (12, [.int 3, .int 3, .ref mf, .int 1, .int 0, .int 900, .int 0, .int 0])), (s3, .inr (12, [.int 10, .int 8, .ref mm, .int 1, .int 0, .int 900, .int 0, .int 0])), (s4, .inr (12, [.int 9, .int 6, .ref mm, .int 1, .int 0, .int 900, .int 0, .int 0])), (s5, .inr (12, [.int 4, .int 3, .ref mm, .int 1, .int 0, .int 900, .int 0, .int 0])), (s6, .inr (12, [.int 5, .int 4, .ref mz, .int 1, .int 0, .int 900, .int 0, .int 0])), (s7, .inr (12, [.int 4, .int 3, .ref mf, .int 0, .int 0, .int 900, .int 0, .int 0])), (s8, .inr (12, [.int 6, .int 4, .ref mz, .int 0, .int 0, .int 900, .int 0, .int 0]))]) (t1 := []) hP hD hK [0, 1, 2, 3, 4, 5, 6, 7, 8, 9, 10, 11, 12, 13, 14] [15] rfl rfl (by decide) (by decide) hk1 hFc ht hvm hB
  generalize H1 = H at hP hS ⊢
  have hP : va_P (dC, dI) vwCl [(sh, .inr (13, [.ref rg, .ref dk, .ref hd, .ref lg, .ref pl, .ref pr, .int 0, .int 0, .int 0, .int 0, .int 0, .int mi, .int 0, .int 0, .int 0, .int fo, .int 0])), (rg, .inr (11, [.ref mf, .ref mm, .ref mz, .ref ma, .ref sa, .int 0])), (mf, .inr (8, [.int 0, .int 0, .int 0])), (mm, .inr (8, [.int 0, .int 0, .int 0])), (mz, .inr (8, [.int 0, .int 0, .int 0])), (ma, .inl (cM, 3, .inr (.inr (.inr (.inr (va_up (va_up (va_up (fun _ => none) 0 (some mf)) 1 (some mm)) 2 (some mz))))))), (sa, .inl (cS, 9, .inr (.inr (.inr (.inr (va_up (va_up (va_up (va_up (va_up (va_up (va_up (va_up (va_up (fun _ => none) 0 (some s0)) 1 (some s1)) 2 (some s2)) 3 (some s3)) 4 (some s4)) 5 (some s5)) 6 (some s6)) 7 (some s7)) 8 (some s8))))))), (s0, .inr (12, [.int 8, .int 6, .ref mf, .int 1, .int 0, .int 900, .int 0, .int 0])), (s1, .inr (12, [.int 7, .int 5, .ref mf, .int 1, .int 0, .int 900, .int 0, .int 0])), (s2, .inr (12, [.int 3, .int 3, .ref mf, .int 1, .int 0, .int 900, .int 0, .int 0])), (s3, .inr (12, [.int 10, .int 8, .ref mm, .int 1, .int 0, .int 900, .int 0, .int 0])), (s4, .inr (12, [.int 9, .int 6, .ref mm, .int 1, .int 0, .int 900, .int 0, .int 0])), (s5, .inr (12, [.int 4, .int 3, .ref mm, .int 1, .int 0, .int 900, .int 0, .int 0])), (s6, .inr (12, [.int 5, .int 4, .ref mz, .int 1, .int 0, .int 900, .int 0, .int 0])), (s7, .inr (12, [.int 4, .int 3, .ref mf, .int 0, .int 0, .int 900, .int 0, .int 0])), (s8, .inr (12, [.int 6, .int 4, .ref mz, .int 0, .int 0, .int 900, .int 0, .int 0]))] H := hP
  have hD : va_D A [(sh, .inr (13, [.ref rg, .ref dk, .ref hd, .ref lg, .ref pl, .ref pr, .int 0, .int 0, .int 0, .int 0, .int 0, .int mi, .int 0, .int 0, .int 0, .int fo, .int 0])), (rg, .inr (11, [.ref mf, .ref mm, .ref mz, .ref ma, .ref sa, .int 0])), (mf, .inr (8, [.int 0, .int 0, .int 0])), (mm, .inr (8, [.int 0, .int 0, .int 0])), (mz, .inr (8, [.int 0, .int 0, .int 0])), (ma, .inl (cM, 3, .inr (.inr (.inr (.inr (va_up (va_up (va_up (fun _ => none) 0 (some mf)) 1 (some mm)) 2 (some mz))))))), (sa, .inl (cS, 9, .inr (.inr (.inr (.inr (va_up (va_up (va_up (va_up (va_up (va_up (va_up (va_up (va_up (fun _ => none) 0 (some s0)) 1 (some s1)) 2 (some s2)) 3 (some s3)) 4 (some s4)) 5 (some s5)) 6 (some s6)) 7 (some s7)) 8 (some s8))))))), (s0, .inr (12, [.int 8, .int 6, .ref mf, .int 1, .int 0, .int 900, .int 0, .int 0])), (s1, .inr (12, [.int 7, .int 5, .ref mf, .int 1, .int 0, .int 900, .int 0, .int 0])), (s2, .inr (12, [.int 3, .int 3, .ref mf, .int 1, .int 0, .int 900, .int 0, .int 0])), (s3, .inr (12, [.int 10, .int 8, .ref mm, .int 1, .int 0, .int 900, .int 0, .int 0])), (s4, .inr (12, [.int 9, .int 6, .ref mm, .int 1, .int 0, .int 900, .int 0, .int 0])), (s5, .inr (12, [.int 4, .int 3, .ref mm, .int 1, .int 0, .int 900, .int 0, .int 0])), (s6, .inr (12, [.int 5, .int 4, .ref mz, .int 1, .int 0, .int 900, .int 0, .int 0])), (s7, .inr (12, [.int 4, .int 3, .ref mf, .int 0, .int 0, .int 900, .int 0, .int 0])), (s8, .inr (12, [.int 6, .int 4, .ref mz, .int 0, .int 0, .int 900, .int 0, .int 0]))] := hD
  have hK : va_K (dC, dI) vwCl [(cM, .object RX4), (cS, .object RX8)] s := hK
  clear hw
  exact W.vret hx hb hr (fun t ht hW => ⟨⟨(), rfl, trivial, kB_end (w9 := [(sh, .inr (13, [.ref rg, .ref dk, .ref hd, .ref lg, .ref pl, .ref pr, .int 0, .int 0, .int 0, .int 0, .int 0, .int mi, .int 0, .int 0, .int 0, .int fo, .int 0])), (rg, .inr (11, [.ref mf, .ref mm, .ref mz, .ref ma, .ref sa, .int 0])), (mf, .inr (8, [.int 0, .int 0, .int 0])), (mm, .inr (8, [.int 0, .int 0, .int 0])), (mz, .inr (8, [.int 0, .int 0, .int 0])), (ma, .inl (cM, 3, .inr (.inr (.inr (.inr (va_up (va_up (va_up (fun _ => none) 0 (some mf)) 1 (some mm)) 2 (some mz))))))), (sa, .inl (cS, 9, .inr (.inr (.inr (.inr (va_up (va_up (va_up (va_up (va_up (va_up (va_up (va_up (va_up (fun _ => none) 0 (some s0)) 1 (some s1)) 2 (some s2)) 3 (some s3)) 4 (some s4)) 5 (some s5)) 6 (some s6)) 7 (some s7)) 8 (some s8))))))), (s0, .inr (12, [.int 8, .int 6, .ref mf, .int 1, .int 0, .int 900, .int 0, .int 0])), (s1, .inr (12, [.int 7, .int 5, .ref mf, .int 1, .int 0, .int 900, .int 0, .int 0])), (s2, .inr (12, [.int 3, .int 3, .ref mf, .int 1, .int 0, .int 900, .int 0, .int 0])), (s3, .inr (12, [.int 10, .int 8, .ref mm, .int 1, .int 0, .int 900, .int 0, .int 0])), (s4, .inr (12, [.int 9, .int 6, .ref mm, .int 1, .int 0, .int 900, .int 0, .int 0])), (s5, .inr (12, [.int 4, .int 3, .ref mm, .int 1, .int 0, .int 900, .int 0, .int 0])), (s6, .inr (12, [.int 5, .int 4, .ref mz, .int 1, .int 0, .int 900, .int 0, .int 0])), (s7, .inr (12, [.int 4, .int 3, .ref mf, .int 0, .int 0, .int 900, .int 0, .int 0])), (s8, .inr (12, [.int 6, .int 4, .ref mz, .int 0, .int 0, .int 900, .int 0, .int 0]))]) (t9 := []) hP hK hD [0, 1, 2, 3, 4, 5, 6, 7, 8, 9, 10, 11, 12, 13, 14, 15] [] rfl (by decide) rfl rfl t ht hW⟩, hS.F ht⟩) hS.2.2 dX9_feelWind_15
