set_option maxRecDepth 20000 in
theorem ggX11_wind_X11_isIn : GoodIn wsX11_wind wsX11_isIn := goodIn_r _ [7] (by decide +kernel) (by decide +kernel)
set_option maxRecDepth 20000 in
theorem gX11_wind_X11_isIn : GoodIn wsX11_wind (va_wsS RX11 30 yX11_isIn wsX11_isIn) := goodIn_app (goodIn_of _ (by decide +kernel)) ggX11_wind_X11_isIn
set_option maxRecDepth 20000 in
theorem ggX11_wind_X11_keep : GoodIn wsX11_wind wsX11_keep := goodIn_r _ [11, 12, 13, 14, 15, 16, 17, 18, 19, 20, 21, 22, 23, 24, 25, 26, 27, 28, 29, 30, 31, 32, 33, 34, 35, 36, 37, 38, 39, 40, 41, 42, 43, 44, 45, 46, 47, 48, 49, 50, 51, 52, 53, 54, 55, 56, 57, 58, 59, 60, 61, 62, 63, 64, 65, 66, 67, 68, 69, 70, 71, 72, 73, 74, 75, 76, 77, 78, 79, 80, 81, 82, 83, 84, 85, 402, 403, 404, 405, 381, 382, 383, 384, 406, 407, 408] (by decide +kernel) (by decide +kernel)
set_option maxRecDepth 20000 in
theorem gX11_wind_X11_keep : GoodIn wsX11_wind (wsV RX11 44 RX11 yX11_keep wsX11_keep) := goodIn_app (goodIn_of _ (by decide +kernel)) ggX11_wind_X11_keep
set_option maxRecDepth 20000 in
theorem ggX11_wind_X9_obey : GoodIn wsX11_wind wsX9_obey := goodIn_ca (goodIn_ca (goodIn_r _ [90, 91, 92, 93, 94, 95, 96, 97, 98, 99, 100, 101, 102, 89, 103, 104, 105, 106, 107, 108, 109, 110, 111, 112, 113, 114, 115, 116, 117, 118, 119, 120, 121, 122, 20, 21, 123, 124, 125, 126, 127, 128, 129, 130, 131, 132, 133, 134, 135, 136, 137, 27, 28, 29, 30, 31, 138, 33, 34, 35, 36, 37, 38, 39, 40, 41, 42, 43, 44, 45, 46, 47, 48, 49, 50, 51, 52, 53, 54, 55, 56, 57, 58, 59, 60, 61, 62, 63, 64, 65, 66, 67, 68, 69, 70, 71, 72, 73, 74, 75, 76, 77, 78, 79, 80, 81, 82, 83, 84, 85, 139, 140, 141, 142, 143, 144, 145, 146, 147, 148, 149, 150, 151, 152, 153, 154, 155, 156, 157, 158, 159, 160, 161, 162, 163, 164, 165, 166, 167, 168, 169, 170, 171, 172, 173, 174, 175, 176, 177, 178, 179, 180, 181, 182, 183, 184, 185, 186, 187, 188, 189, 190, 191, 192, 193, 194, 195, 196, 197, 198, 199, 200, 201, 202, 203, 204, 205, 206, 207, 208, 209, 210, 211, 212, 213, 214, 215, 216, 217, 218, 219, 220, 221, 222, 223, 224, 225, 226, 227, 228, 229, 230, 231, 232, 233, 234, 235, 236, 237, 238, 239, 240, 241, 242, 243, 244, 245, 246, 247, 248, 249, 250, 251, 252, 253, 254, 255, 256, 257, 258, 259, 260, 261, 262, 263, 264, 265, 266, 267, 268, 269, 270, 271, 272, 273, 274, 275, 276, 277, 278, 279, 280, 281, 282, 283, 284, 285, 286, 287, 288, 289, 290, 291, 292, 293, 294, 295, 296, 297, 298, 299, 300, 301, 302, 303, 304, 305, 306, 307, 308, 309, 310, 311, 312, 313, 314, 315, 316, 317, 318, 319, 320, 321, 322, 323, 324, 325, 326, 327, 328, 329, 330, 331, 332, 333, 334, 335, 336, 337, 338, 339, 340, 341, 342, 343, 344, 345, 346, 347, 348, 349, 350, 351, 352, 353, 354, 355, 356, 357, 358, 359, 360, 361, 362, 363, 364, 365, 366, 367, 368, 369, 370, 371, 372, 373, 374, 375, 376, 377, 378, 379, 380, 402, 403, 404, 405, 385, 386, 387, 388, 389, 390, 391, 392, 393, 394, 395, 396, 397, 398, 399, 400, 401, 409, 410, 411, 412, 413, 414, 415, 416, 417, 418, 419, 420, 421, 422, 423, 424, 425, 426, 427, 428, 429, 430, 431, 432, 433, 434, 435, 436, 437, 438, 406, 407, 408, 439, 440, 441, 442, 443, 444, 445, 446, 447, 448, 449, 450] (by decide +kernel) (by decide +kernel)) (goodIn_sub (fun _ h => List.mem_cons_of_mem _ (List.mem_append_left _ (List.mem_append_right _ h))) (by decide +kernel))) (goodIn_sub (fun _ h => List.mem_cons_of_mem _ (List.mem_append_right _ h)) (by decide +kernel))
set_option maxRecDepth 20000 in
theorem gX11_wind_X9_obey : GoodIn wsX11_wind (wsV RX11 48 RX9 yX9_obey wsX9_obey) := goodIn_app (goodIn_of _ (by decide +kernel)) ggX11_wind_X9_obey
theorem dX11_wind_0 : decode cX11_wind 0 = .ok (.iload_n 1, 1) := by decide +kernel
theorem dX11_wind_1 : decode cX11_wind 1 = .ok (.iconst 0, 1) := by decide +kernel
theorem dX11_wind_2 : decode cX11_wind 2 = .ok (.bipush 31, 2) := by decide +kernel
theorem dX11_wind_4 : decode cX11_wind 4 = .ok (.invokestatic 30, 3) := by decide +kernel
theorem dX11_wind_7 : decode cX11_wind 7 = .ok (.ifCond .eq 13, 3) := by decide +kernel
theorem dX11_wind_10 : decode cX11_wind 10 = .ok (.iload_n 2, 1) := by decide +kernel
theorem dX11_wind_11 : decode cX11_wind 11 = .ok (.iconst 0, 1) := by decide +kernel
theorem dX11_wind_12 : decode cX11_wind 12 = .ok (.bipush 12, 2) := by decide +kernel
theorem dX11_wind_14 : decode cX11_wind 14 = .ok (.invokestatic 30, 3) := by decide +kernel
theorem dX11_wind_17 : decode cX11_wind 17 = .ok (.ifCond .ne 13, 3) := by decide +kernel
theorem dX11_wind_20 : decode cX11_wind 20 = .ok (.new 34, 3) := by decide +kernel
theorem dX11_wind_23 : decode cX11_wind 23 = .ok (.dup, 1) := by decide +kernel
theorem dX11_wind_24 : decode cX11_wind 24 = .ok (.ldc 36, 2) := by decide +kernel
theorem dX11_wind_26 : decode cX11_wind 26 = .ok (.invokespecial 38, 3) := by decide +kernel
theorem dX11_wind_29 : decode cX11_wind 29 = .ok (.athrow, 1) := by decide +kernel
theorem dX11_wind_30 : decode cX11_wind 30 = .ok (.aload_n 0, 1) := by decide +kernel
theorem dX11_wind_31 : decode cX11_wind 31 = .ok (.getfield 10, 3) := by decide +kernel
theorem dX11_wind_34 : decode cX11_wind 34 = .ok (.getfield 41, 3) := by decide +kernel
theorem dX11_wind_37 : decode cX11_wind 37 = .ok (.istore_n 3, 1) := by decide +kernel
theorem dX11_wind_38 : decode cX11_wind 38 = .ok (.aload_n 0, 1) := by decide +kernel
theorem dX11_wind_39 : decode cX11_wind 39 = .ok (.getfield 10, 3) := by decide +kernel
theorem dX11_wind_42 : decode cX11_wind 42 = .ok (.aload_n 0, 1) := by decide +kernel
theorem dX11_wind_43 : decode cX11_wind 43 = .ok (.iconst 0, 1) := by decide +kernel
theorem dX11_wind_44 : decode cX11_wind 44 = .ok (.iload_n 1, 1) := by decide +kernel
theorem dX11_wind_45 : decode cX11_wind 45 = .ok (.iload_n 2, 1) := by decide +kernel
theorem dX11_wind_46 : decode cX11_wind 46 = .ok (.iconst 0, 1) := by decide +kernel
theorem dX11_wind_47 : decode cX11_wind 47 = .ok (.invokevirtual 44, 3) := by decide +kernel
theorem dX11_wind_50 : decode cX11_wind 50 = .ok (.invokevirtual 48, 3) := by decide +kernel
theorem dX11_wind_53 : decode cX11_wind 53 = .ok (.iload_n 3, 1) := by decide +kernel
theorem dX11_wind_54 : decode cX11_wind 54 = .ok (.ireturn, 1) := by decide +kernel
abbrev wd_k_wind (z : Nat → Nat) (sh : Nat) (rg : Nat) (dk : Nat) (hd : Nat) (lg : Nat) (pl : Nat) (pr : Nat) (x : Nat) (tl : Nat) (tw : Nat) (p0 : Int32) (p1 : Int32) : va_W := [(x, .inr (15, [.ref sh, .ref tl, .ref tw, .int 0])), (tl, .inr (3, [.int 0, .ref (z 0), .int 0])), (sh, .inr (13, [.ref rg, .ref dk, .ref hd, .ref lg, .ref pl, .ref pr, .int 0, .int 0, .int 0, .int 0, .int 0, .int 0, .int 0, .int 0, .int 0, .int 0, .int 0]))]
set_option maxHeartbeats 4000000 in
set_option maxRecDepth 100000 in
theorem k_wind (l : Launch) (dC : Nat → ClassId) (dI : Nat → Nat → Nat) (z zK zV : Nat → Nat) (sh : Nat) (rg : Nat) (dk : Nat) (hd : Nat) (lg : Nat) (pl : Nat) (pr : Nat) (x : Nat) (tl : Nat) (tw : Nat) (p0 : Int32) (p1 : Int32) (sz : Nat) (hst : l.stackTraces = false)  : vx_Met l yX11_wind wsX11_wind ({ frames := 6, cells := 2, slots := 14, locals := 126 }) (kP dC dI z zK zV [.ref x, .int p0, .int p1] sz (wd_k_wind z sh rg dk hd lg pl pr x tl tw p0 p1) []) (va_Qi (fun (r : Int32) (_ : Unit) => (((0 : Int32) ≤ p0 ∧ p0 ≤ 31) ∧ (0 : Int32) ≤ p1 ∧ p1 ≤ 12) ∧ 0 = r) (fun _ t => kB (dC, dI) (va_A (wd_k_wind z sh rg dk hd lg pl pr x tl tw p0 p1) sz) [] [] t) (va_A (wd_k_wind z sh rg dk hd lg pl pr x tl tw p0 p1) sz)) (vx_X (fun _ : Unit => ¬ (((0 : Int32) ≤ p0 ∧ p0 ≤ 31) ∧ (0 : Int32) ≤ p1 ∧ p1 ≤ 12)) (fun E _ _ => "java/lang/IllegalArgumentException" = E) (va_A (wd_k_wind z sh rg dk hd lg pl pr x tl tw p0 p1) sz)) 2 14 (va_A (wd_k_wind z sh rg dk hd lg pl pr x tl tw p0 p1) sz) := by
  refine vx_ofW (cc := cX11_wind) (maxL := 4) (ret := (some .int)) (by decide) rfl ?_
  intro p e s m args below meth c s₁ B hml hnt hv
  obtain ⟨rfl, hsz, hP, hK, hD0, hM⟩ := hv
  have hx := B.exec
  have hb := B.bytes
  have hr := B.returns
  have hts := atoms_spec (ws := wsX11_wind) B.pre
  have hown : s.vm.findClass RX11 = some m.cls := findClass_of_methodNamed B.named
  have hlocks := B.notSynchronized
  have hiX11 : ∀ w ∈ u_ws RX11 TX11 4, w ∈ wsX11_wind := by decide +kernel
  have hiX9 : ∀ w ∈ u_ws RX9 TX9 17, w ∈ wsX11_wind := by decide +kernel
  subst hsz
  have hD := hD0.self (sz := s.heap.size)
  generalize hAe : va_A (wd_k_wind z sh rg dk hd lg pl pr x tl tw p0 p1) s.heap.size = A at hD hM ⊢
  have hA : ∀ q : Nat, s.heap.size ≤ q → A q := fun q h => by rw [← hAe]; exact Or.inr h
  have hS : va_S A s.heap s.heap [] := va_S.rf
  have hP : va_P (dC, dI) vwCl [(x, .inr (15, [.ref sh, .ref tl, .ref tw, .int 0])), (tl, .inr (3, [.int 0, .ref (z 0), .int 0])), (sh, .inr (13, [.ref rg, .ref dk, .ref hd, .ref lg, .ref pl, .ref pr, .int 0, .int 0, .int 0, .int 0, .int 0, .int 0, .int 0, .int 0, .int 0, .int 0, .int 0]))] s.heap := hP
  have hD : va_D A [(x, .inr (15, [.ref sh, .ref tl, .ref tw, .int 0])), (tl, .inr (3, [.int 0, .ref (z 0), .int 0])), (sh, .inr (13, [.ref rg, .ref dk, .ref hd, .ref lg, .ref pl, .ref pr, .int 0, .int 0, .int 0, .int 0, .int 0, .int 0, .int 0, .int 0, .int 0, .int 0, .int 0]))] := hD
  have hl := lv_entry ([.ref x, .int p0, .int p1]) (n := 4) (Nat.le_of_ble_eq_true rfl)
  rw [lg_entry_eq]
  generalize (lg_sl ([.ref x, .int p0, .int p1]) ++ List.replicate (4 - (lg_sl ([.ref x, .int p0, .int p1])).length) Slot.unset).toArray = ls at hl ⊢
  have hl : lv_has ls 4 [(0, .ref x), (1, .int p0), (2, .int p1)] := hl
  refine lv_iload_n hx hb dX11_wind_0 rfl (lv_at hl 1 rfl) ?_
  refine lv_iconst (v := 0) hx hb dX11_wind_1 (by decide) ?_
  refine lv_bipush (v := 31) hx hb dX11_wind_2 (by decide) ?_
  have hPc := hP.sub (ws' := []) [] rfl
  have hDc := hD.sub (ws' := []) [] (by decide) rfl
  have hKc := hK.sub (tys' := []) [] rfl
  have hFc := va_free (wc := []) hD hS hA [] rfl
  refine va_calli (va_runS (As := [.int p0, .int 0, .int 31]) (rest := []) ⟨hx, hb, hml, hown, hts⟩ (k_isIn l dC dI z zK zV p0 0 31 s.heap.size) (va_cwS 3 hts gX11_wind_X11_isIn rfl rfl rfl (by decide +kernel) ⟨Nat.le_of_ble_eq_true rfl, Nat.le_of_ble_eq_true rfl⟩) ⟨kP_blind, kP_go hPc hKc hDc hFc hM hS⟩ rfl rfl hl.1 rfl (lv_room (Nat.le_of_ble_eq_true rfl)) dX11_wind_4 ⟨Nat.le_of_ble_eq_true rfl, Nat.le_of_ble_eq_true rfl⟩) hS (fun q _ h => hFc q h) hFc (fun r1 u t H1 locs ht hvm hw hB hz1 hk1 hS => ?_)
  obtain ⟨hP, hD, hK⟩ := kJ (wr := [(x, .inr (15, [.ref sh, .ref tl, .ref tw, .int 0])), (tl, .inr (3, [.int 0, .ref (z 0), .int 0])), (sh, .inr (13, [.ref rg, .ref dk, .ref hd, .ref lg, .ref pl, .ref pr, .int 0, .int 0, .int 0, .int 0, .int 0, .int 0, .int 0, .int 0, .int 0, .int 0, .int 0]))]) (w1 := []) (t1 := []) hP hD hK [] [0, 1, 2] rfl rfl (by decide) (by decide) hk1 hFc ht hvm hB
  generalize H1 = H at hP hS ⊢
  have hP : va_P (dC, dI) vwCl [(x, .inr (15, [.ref sh, .ref tl, .ref tw, .int 0])), (tl, .inr (3, [.int 0, .ref (z 0), .int 0])), (sh, .inr (13, [.ref rg, .ref dk, .ref hd, .ref lg, .ref pl, .ref pr, .int 0, .int 0, .int 0, .int 0, .int 0, .int 0, .int 0, .int 0, .int 0, .int 0, .int 0]))] H := hP
  have hD : va_D A [(x, .inr (15, [.ref sh, .ref tl, .ref tw, .int 0])), (tl, .inr (3, [.int 0, .ref (z 0), .int 0])), (sh, .inr (13, [.ref rg, .ref dk, .ref hd, .ref lg, .ref pl, .ref pr, .int 0, .int 0, .int 0, .int 0, .int 0, .int 0, .int 0, .int 0, .int 0, .int 0, .int 0]))] := hD
  have hK : va_K (dC, dI) vwCl [] s := hK
  obtain rfl : (if 0 ≤ p0 ∧ p0 ≤ 31 then (1 : Int32) else 0) = r1 := hw
  refine lv_if_eq (tgt := 20) hx hb dX11_wind_7 (by decide) (fun c2 => ?_) (fun c2 => ?_)
  · skip
    obtain ⟨sa, hsa⟩ := hM.2.1 _ (List.mem_of_getElem? (i := 0) rfl)
    exact vx_throwS (own := RX11) (cls := "java/lang/IllegalArgumentException") (text := "no such wind") (names := ["java/lang/RuntimeException", "java/lang/Exception"]) (ik := 34) (is := 36) (ic := 38) (mc := 2) (ms := 14) (sa := sa) hx hb hst hown (by decide) (by decide) (hts (.classLink RX11 34 "java/lang/IllegalArgumentException") (by decide +kernel)) (hts (.initialized "java/lang/IllegalArgumentException") (by decide +kernel)) hsa (vx_hat (fun w h9 => hts w (List.mem_cons_of_mem _ (List.mem_append_left _ (List.mem_append_left _ (List.mem_append_right _ h9))))) (by decide +kernel) (fun w hw => va_Nw.use (List.all_eq_true.mp am_Bt w hw) (hM.2.2.2.2.2.2.2.2.2.1 w hw))) (by decide +kernel) hM.2.2.2.2.2.2.2.1.1 hM.2.2.2.2.2.2.2.1.2 hS (hl.1.trans hml.symm) dX11_wind_20 dX11_wind_23 dX11_wind_24 dX11_wind_26 dX11_wind_29 (fun x hx => (hnt x hx).elim) (Nat.le_of_ble_eq_true rfl) (Nat.le_of_ble_eq_true rfl) (Nat.le_of_ble_eq_true rfl) (Nat.le_of_ble_eq_true rfl) hlocks (fun t hvm hz hq => ⟨(), (fun h => k_iff c2 h.1), rfl, Nat.le_trans hS.1 hz, fun q h1 h2 => (hq q (Nat.lt_of_lt_of_le h1 hS.1)).trans (hS.2.1 q h1 h2)⟩) hS.2.2 (Nat.le_of_ble_eq_true rfl) (Nat.le_of_ble_eq_true rfl)
  · skip
    refine lv_iload_n hx hb dX11_wind_10 rfl (lv_at hl 2 rfl) ?_
    refine lv_iconst (v := 0) hx hb dX11_wind_11 (by decide) ?_
    refine lv_bipush (v := 12) hx hb dX11_wind_12 (by decide) ?_
    have hPc := hP.sub (ws' := []) [] rfl
    have hDc := hD.sub (ws' := []) [] (by decide) rfl
    have hKc := hK.sub (tys' := []) [] rfl
    have hFc := va_free (wc := []) hD hS hA [] rfl
    refine va_calli (va_runS (As := [.int p1, .int 0, .int 12]) (rest := []) ⟨hx, hb, hml, hown, hts⟩ (k_isIn l dC dI z zK zV p1 0 12 H.size) (va_cwS 3 hts gX11_wind_X11_isIn rfl rfl rfl (by decide +kernel) ⟨Nat.le_of_ble_eq_true rfl, Nat.le_of_ble_eq_true rfl⟩) ⟨kP_blind, kP_go hPc hKc hDc hFc hM hS⟩ rfl rfl hl.1 rfl (lv_room (Nat.le_of_ble_eq_true rfl)) dX11_wind_14 ⟨Nat.le_of_ble_eq_true rfl, Nat.le_of_ble_eq_true rfl⟩) hS (fun q _ h => hFc q h) hFc (fun r3 u t H1 locs ht hvm hw hB hz1 hk1 hS => ?_)
    obtain ⟨hP, hD, hK⟩ := kJ (wr := [(x, .inr (15, [.ref sh, .ref tl, .ref tw, .int 0])), (tl, .inr (3, [.int 0, .ref (z 0), .int 0])), (sh, .inr (13, [.ref rg, .ref dk, .ref hd, .ref lg, .ref pl, .ref pr, .int 0, .int 0, .int 0, .int 0, .int 0, .int 0, .int 0, .int 0, .int 0, .int 0, .int 0]))]) (w1 := []) (t1 := []) hP hD hK [] [0, 1, 2] rfl rfl (by decide) (by decide) hk1 hFc ht hvm hB
    generalize H1 = H at hP hS ⊢
    have hP : va_P (dC, dI) vwCl [(x, .inr (15, [.ref sh, .ref tl, .ref tw, .int 0])), (tl, .inr (3, [.int 0, .ref (z 0), .int 0])), (sh, .inr (13, [.ref rg, .ref dk, .ref hd, .ref lg, .ref pl, .ref pr, .int 0, .int 0, .int 0, .int 0, .int 0, .int 0, .int 0, .int 0, .int 0, .int 0, .int 0]))] H := hP
    have hD : va_D A [(x, .inr (15, [.ref sh, .ref tl, .ref tw, .int 0])), (tl, .inr (3, [.int 0, .ref (z 0), .int 0])), (sh, .inr (13, [.ref rg, .ref dk, .ref hd, .ref lg, .ref pl, .ref pr, .int 0, .int 0, .int 0, .int 0, .int 0, .int 0, .int 0, .int 0, .int 0, .int 0, .int 0]))] := hD
    have hK : va_K (dC, dI) vwCl [] s := hK
    obtain rfl : (if 0 ≤ p1 ∧ p1 ≤ 12 then (1 : Int32) else 0) = r3 := hw
    refine lv_if_ne (tgt := 30) hx hb dX11_wind_17 (by decide) (fun c4 => ?_) (fun c4 => ?_)
    · skip
      refine lv_aload_n hx hb dX11_wind_30 rfl (lv_at hl 0 rfl) ?_
      refine va_get (D := (dC, dI)) (ci := 15) (v := .ref sh) (C := RX11) (T := TX11) (N := 4) hx hb hts hiX11 hown hK hP 0 rfl rfl 0 (by decide) (hts (.fieldLink RX11 10 "SquareRig" "ship" "LSquareRig$Ship;") (by decide +kernel)) (fun _ h9 => h9) rfl dX11_wind_31 ?_
      refine va_getN (D := (dC, dI)) (ci := 13) (v := .int 0) (C := RX9) (T := TX9) (N := 17) hx hb hts hiX9 hown hK hP 2 rfl rfl 7 (by decide) (va_Nw.use rfl (hM.1 _ (List.mem_of_getElem? (i := 42) rfl))) (fun _ h9 => h9) rfl dX11_wind_34 ?_
      refine lv_istore_n (lv' := [(3, .int 0), (0, .ref x), (1, .int p0), (2, .int p1)]) hx hb dX11_wind_37 rfl hl (by decide) rfl (fun ls hl => ?_)
      refine lv_aload_n hx hb dX11_wind_38 rfl (lv_at hl 1 rfl) ?_
      refine va_get (D := (dC, dI)) (ci := 15) (v := .ref sh) (C := RX11) (T := TX11) (N := 4) hx hb hts hiX11 hown hK hP 0 rfl rfl 0 (by decide) (hts (.fieldLink RX11 10 "SquareRig" "ship" "LSquareRig$Ship;") (by decide +kernel)) (fun _ h9 => h9) rfl dX11_wind_39 ?_
      refine lv_aload_n hx hb dX11_wind_42 rfl (lv_at hl 1 rfl) ?_
      refine lv_iconst (v := 0) hx hb dX11_wind_43 (by decide) ?_
      refine lv_iload_n hx hb dX11_wind_44 rfl (lv_at hl 2 rfl) ?_
      refine lv_iload_n hx hb dX11_wind_45 rfl (lv_at hl 3 rfl) ?_
      refine lv_iconst (v := 0) hx hb dX11_wind_46 (by decide) ?_
      have hPc := hP.sub (ws' := [(x, .inr (15, [.ref sh, .ref tl, .ref tw, .int 0])), (tl, .inr (3, [.int 0, .ref (z 0), .int 0]))]) [0, 1] rfl
      have hDc := hD.sub (ws' := [(x, .inr (15, [.ref sh, .ref tl, .ref tw, .int 0])), (tl, .inr (3, [.int 0, .ref (z 0), .int 0]))]) [0, 1] (by decide) rfl
      have hKc := hK.sub (tys' := []) [] rfl
      have hFc := va_free (wc := [(x, .inr (15, [.ref sh, .ref tl, .ref tw, .int 0])), (tl, .inr (3, [.int 0, .ref (z 0), .int 0]))]) hD hS hA [0, 1] rfl
      refine va_callr (va_runV (As := [.int 0, .int p0, .int p1, .int 0]) (rest := [.ref sh]) ⟨hx, hb, hml, hown, hts⟩ (k_keep l dC dI z zK zV sh x tl tw 0 p0 p1 0 H.size) (cwV 4 hts gX11_wind_X11_keep rfl rfl rfl (by decide +kernel) ⟨Nat.le_of_ble_eq_true rfl, Nat.le_of_ble_eq_true rfl⟩) ⟨kP_blind, va_recv hKc hPc (ci := 15) (q0 := 0) rfl rfl, kP_go hPc hKc hDc hFc hM hS⟩ rfl rfl hl.1 rfl (lv_room (Nat.le_of_ble_eq_true rfl)) dX11_wind_47 ⟨Nat.le_of_ble_eq_true rfl, Nat.le_of_ble_eq_true rfl⟩) hS (fun q _ h => hFc q h) hFc (fun u ra5 t H1 locs ht hvm hw hB hz1 hk1 hS => ?_)
      obtain ⟨q6, q7, cA8, rfl, hB⟩ := hB
      obtain ⟨hP, hD, hK⟩ := kJ (wr := [(sh, .inr (13, [.ref rg, .ref dk, .ref hd, .ref lg, .ref pl, .ref pr, .int 0, .int 0, .int 0, .int 0, .int 0, .int 0, .int 0, .int 0, .int 0, .int 0, .int 0]))]) (w1 := [(x, .inr (15, [.ref sh, .ref tl, .ref tw, .int 0])), (q6, .inr (5, [.int 0, .int p0, .int p1, .int 0])), (tl, .inr (3, [.int (0 + 1), .ref q7, .int 1])), (q7, .inl (cA8, 10, .inr (.inr (.inr (.inr (va_up (fun _ => none) 0 (some q6)))))))]) (t1 := [(cA8, .object "java/lang/Object")]) hP hD hK [0, 1] [2] rfl rfl (by decide) (by decide) hk1 hFc ht hvm hB
      generalize H1 = H at hP hS ⊢
      have hP : va_P (dC, dI) vwCl [(sh, .inr (13, [.ref rg, .ref dk, .ref hd, .ref lg, .ref pl, .ref pr, .int 0, .int 0, .int 0, .int 0, .int 0, .int 0, .int 0, .int 0, .int 0, .int 0, .int 0])), (x, .inr (15, [.ref sh, .ref tl, .ref tw, .int 0])), (q6, .inr (5, [.int 0, .int p0, .int p1, .int 0])), (tl, .inr (3, [.int (0 + 1), .ref q7, .int 1])), (q7, .inl (cA8, 10, .inr (.inr (.inr (.inr (va_up (fun _ => none) 0 (some q6)))))))] H := hP
      have hD : va_D A [(sh, .inr (13, [.ref rg, .ref dk, .ref hd, .ref lg, .ref pl, .ref pr, .int 0, .int 0, .int 0, .int 0, .int 0, .int 0, .int 0, .int 0, .int 0, .int 0, .int 0])), (x, .inr (15, [.ref sh, .ref tl, .ref tw, .int 0])), (q6, .inr (5, [.int 0, .int p0, .int p1, .int 0])), (tl, .inr (3, [.int (0 + 1), .ref q7, .int 1])), (q7, .inl (cA8, 10, .inr (.inr (.inr (.inr (va_up (fun _ => none) 0 (some q6)))))))] := hD
      have hK : va_K (dC, dI) vwCl [(cA8, .object "java/lang/Object")] s := hK
      have hPc := hP.sub (ws' := [(sh, .inr (13, [.ref rg, .ref dk, .ref hd, .ref lg, .ref pl, .ref pr, .int 0, .int 0, .int 0, .int 0, .int 0, .int 0, .int 0, .int 0, .int 0, .int 0, .int 0])), (q6, .inr (5, [.int 0, .int p0, .int p1, .int 0]))]) [0, 2] rfl
      have hDc := hD.sub (ws' := [(sh, .inr (13, [.ref rg, .ref dk, .ref hd, .ref lg, .ref pl, .ref pr, .int 0, .int 0, .int 0, .int 0, .int 0, .int 0, .int 0, .int 0, .int 0, .int 0, .int 0])), (q6, .inr (5, [.int 0, .int p0, .int p1, .int 0]))]) [0, 2] (by decide) rfl
      have hKc := hK.sub (tys' := []) [] rfl
      have hFc := va_free (wc := [(sh, .inr (13, [.ref rg, .ref dk, .ref hd, .ref lg, .ref pl, .ref pr, .int 0, .int 0, .int 0, .int 0, .int 0, .int 0, .int 0, .int 0, .int 0, .int 0, .int 0])), (q6, .inr (5, [.int 0, .int p0, .int p1, .int 0]))]) hD hS hA [0, 2] rfl
      refine va_callv (va_runV (As := [.ref q6]) (rest := []) ⟨hx, hb, hml, hown, hts⟩ (k_obey_wind l dC dI z zK zV sh rg dk hd lg pl pr q6 p0 p1 0 H.size) (cwV 1 hts gX11_wind_X9_obey rfl rfl rfl (by decide +kernel) ⟨Nat.le_of_ble_eq_true rfl, Nat.le_of_ble_eq_true rfl⟩) ⟨kP_blind, va_recv hKc hPc (ci := 13) (q0 := 0) rfl rfl, kP_go hPc hKc hDc hFc hM hS⟩ rfl rfl hl.1 rfl (lv_room (Nat.le_of_ble_eq_true rfl)) dX11_wind_50 ⟨Nat.le_of_ble_eq_true rfl, Nat.le_of_ble_eq_true rfl⟩) hS (fun q _ h => hFc q h) hFc (fun u t H1 locs ht hvm hw hB hz1 hk1 hS => ?_)
      obtain ⟨hP, hD, hK⟩ := kJ (wr := [(x, .inr (15, [.ref sh, .ref tl, .ref tw, .int 0])), (tl, .inr (3, [.int (0 + 1), .ref q7, .int 1])), (q7, .inl (cA8, 10, .inr (.inr (.inr (.inr (va_up (fun _ => none) 0 (some q6)))))))]) (w1 := []) (t1 := []) hP hD hK [0, 2] [1, 3, 4] rfl rfl (by decide) (by decide) hk1 hFc ht hvm hB
      generalize H1 = H at hP hS ⊢
      have hP : va_P (dC, dI) vwCl [(x, .inr (15, [.ref sh, .ref tl, .ref tw, .int 0])), (tl, .inr (3, [.int (0 + 1), .ref q7, .int 1])), (q7, .inl (cA8, 10, .inr (.inr (.inr (.inr (va_up (fun _ => none) 0 (some q6)))))))] H := hP
      have hD : va_D A [(x, .inr (15, [.ref sh, .ref tl, .ref tw, .int 0])), (tl, .inr (3, [.int (0 + 1), .ref q7, .int 1])), (q7, .inl (cA8, 10, .inr (.inr (.inr (.inr (va_up (fun _ => none) 0 (some q6)))))))] := hD
      have hK : va_K (dC, dI) vwCl [(cA8, .object "java/lang/Object")] s := hK
      clear hw
      refine lv_iload_n hx hb dX11_wind_53 rfl (lv_at hl 0 rfl) ?_
      refine vx_ret ?_
      refine W.widen (k := 2) (n := 14) (Nat.le_of_ble_eq_true rfl) (Nat.le_of_ble_eq_true rfl) ?_
      exact W.iret (v := 0) hx hb hr (fun t ht hW => ⟨⟨0, (), rfl, ⟨⟨k_ift c2, k_ift c4⟩, rfl⟩, kB_end (w9 := []) (t9 := []) hP hK hD [] [] rfl (by decide) rfl rfl t ht hW⟩, hS.F ht⟩) hS.2.2 dX11_wind_54
    · skip
      obtain ⟨sa, hsa⟩ := hM.2.1 _ (List.mem_of_getElem? (i := 0) rfl)
      exact vx_throwS (own := RX11) (cls := "java/lang/IllegalArgumentException") (text := "no such wind") (names := ["java/lang/RuntimeException", "java/lang/Exception"]) (ik := 34) (is := 36) (ic := 38) (mc := 2) (ms := 14) (sa := sa) hx hb hst hown (by decide) (by decide) (hts (.classLink RX11 34 "java/lang/IllegalArgumentException") (by decide +kernel)) (hts (.initialized "java/lang/IllegalArgumentException") (by decide +kernel)) hsa (vx_hat (fun w h9 => hts w (List.mem_cons_of_mem _ (List.mem_append_left _ (List.mem_append_left _ (List.mem_append_right _ h9))))) (by decide +kernel) (fun w hw => va_Nw.use (List.all_eq_true.mp am_Bt w hw) (hM.2.2.2.2.2.2.2.2.2.1 w hw))) (by decide +kernel) hM.2.2.2.2.2.2.2.1.1 hM.2.2.2.2.2.2.2.1.2 hS (hl.1.trans hml.symm) dX11_wind_20 dX11_wind_23 dX11_wind_24 dX11_wind_26 dX11_wind_29 (fun x hx => (hnt x hx).elim) (Nat.le_of_ble_eq_true rfl) (Nat.le_of_ble_eq_true rfl) (Nat.le_of_ble_eq_true rfl) (Nat.le_of_ble_eq_true rfl) hlocks (fun t hvm hz hq => ⟨(), (fun h => k_iff c4 h.2), rfl, Nat.le_trans hS.1 hz, fun q h1 h2 => (hq q (Nat.lt_of_lt_of_le h1 hS.1)).trans (hS.2.1 q h1 h2)⟩) hS.2.2 (Nat.le_of_ble_eq_true rfl) (Nat.le_of_ble_eq_true rfl)
