
abbrev wd_k_x_stowg0 (z : Nat → Nat) (sh : Nat) (rg : Nat) (dk : Nat) (hd : Nat) (hu : Nat) (hy : Nat) (lg : Nat) (pl : Nat) (pr : Nat) (cU : ClassId) (cW : ClassId) (x : Nat) (tl : Nat) (tw : Nat) (p0 : Int32) : va_W := [(x, .inr (15, [.ref sh, .ref tl, .ref tw, .int 0])), (tl, .inr (3, [.int 0, .ref (z 0), .int 0])), (sh, .inr (13, [.ref rg, .ref dk, .ref hd, .ref lg, .ref pl, .ref pr, .int 0, .int 0, .int 0, .int 0, .int 0, .int 0, .int 0, .int 0, .int 0, .int 0, .int 0])), (hd, .inr (6, [.ref hu, .ref hy, .int 0])), (hu, .inl (cU, 20, .inl (fun _ => 0))), (hy, .inl (cW, 20, .inl (fun _ => 0)))]
set_option maxHeartbeats 4000000 in
set_option maxRecDepth 100000 in
theorem k_x_stowg0 (l : Launch) (dC : Nat → ClassId) (dI : Nat → Nat → Nat) (z zK zV : Nat → Nat) (sh : Nat) (rg : Nat) (dk : Nat) (hd : Nat) (hu : Nat) (hy : Nat) (lg : Nat) (pl : Nat) (pr : Nat) (cU : ClassId) (cW : ClassId) (x : Nat) (tl : Nat) (tw : Nat) (p0 : Int32) (sz : Nat) (hg0 : (1 : Int32) ≤ p0 ∧ p0 ≤ 500) : Met l yX11_stow wsX11_stow ({ frames := 6, cells := 2, slots := 14, locals := 126 }) (kP dC dI z zK zV [.ref x, .int 0, .int p0] sz (wd_k_x_stowg0 z sh rg dk hd hu hy lg pl pr cU cW x tl tw p0) [(cU, .int), (cW, .boolean)]) (va_Qi (fun (r : Int32) (_ : Unit) => 1 = r) (fun _ t => kB (dC, dI) (va_A (wd_k_x_stowg0 z sh rg dk hd hu hy lg pl pr cU cW x tl tw p0) sz) [] [] t) (va_A (wd_k_x_stowg0 z sh rg dk hd hu hy lg pl pr cU cW x tl tw p0) sz)) 2 14 (va_A (wd_k_x_stowg0 z sh rg dk hd hu hy lg pl pr cU cW x tl tw p0) sz) := by
  refine Met.ofW (cc := cX11_stow) (maxL := 3) (ret := (some .int)) (by decide) rfl ?_
  intro p e s m args below meth c s₁ B hml hv
  obtain ⟨rfl, hsz, hP, hK, hD0, hM⟩ := hv
  have hx := B.exec
  have hb := B.bytes
  have hr := B.returns
  have hts := atoms_spec (ws := wsX11_stow) B.pre
  have hown : s.vm.findClass RX11 = some m.cls := findClass_of_methodNamed B.named
  have hlocks := B.notSynchronized
  have hiX11 : ∀ w ∈ u_ws RX11 TX11 4, w ∈ wsX11_stow := by decide +kernel
  have hiX9 : ∀ w ∈ u_ws RX9 TX9 17, w ∈ wsX11_stow := by decide +kernel
  have hiX2 : ∀ w ∈ u_ws RX2 TX2 3, w ∈ wsX11_stow := by decide +kernel
  subst hsz
  have hD := hD0.self (sz := s.heap.size)
  generalize hAe : va_A (wd_k_x_stowg0 z sh rg dk hd hu hy lg pl pr cU cW x tl tw p0) s.heap.size = A at hD hM ⊢
  have hA : ∀ q : Nat, s.heap.size ≤ q → A q := fun q h => by rw [← hAe]; exact Or.inr h
  have hS : va_S A s.heap s.heap [] := va_S.rf
  have hP : va_P (dC, dI) vwCl [(x, .inr (15, [.ref sh, .ref tl, .ref tw, .int 0])), (tl, .inr (3, [.int 0, .ref (z 0), .int 0])), (sh, .inr (13, [.ref rg, .ref dk, .ref hd, .ref lg, .ref pl, .ref pr, .int 0, .int 0, .int 0, .int 0, .int 0, .int 0, .int 0, .int 0, .int 0, .int 0, .int 0])), (hd, .inr (6, [.ref hu, .ref hy, .int 0])), (hu, .inl (cU, 20, .inl (fun _ => 0))), (hy, .inl (cW, 20, .inl (fun _ => 0)))] s.heap := hP
  have hD : va_D A [(x, .inr (15, [.ref sh, .ref tl, .ref tw, .int 0])), (tl, .inr (3, [.int 0, .ref (z 0), .int 0])), (sh, .inr (13, [.ref rg, .ref dk, .ref hd, .ref lg, .ref pl, .ref pr, .int 0, .int 0, .int 0, .int 0, .int 0, .int 0, .int 0, .int 0, .int 0, .int 0, .int 0])), (hd, .inr (6, [.ref hu, .ref hy, .int 0])), (hu, .inl (cU, 20, .inl (fun _ => 0))), (hy, .inl (cW, 20, .inl (fun _ => 0)))] := hD
  have hl := lv_entry ([.ref x, .int 0, .int p0]) (n := 3) (Nat.le_of_ble_eq_true rfl)
  rw [lg_entry_eq]
  generalize (lg_sl ([.ref x, .int 0, .int p0]) ++ List.replicate (3 - (lg_sl ([.ref x, .int 0, .int p0])).length) Slot.unset).toArray = ls at hl ⊢
  have hl : lv_has ls 3 [(0, .ref x), (1, .int 0), (2, .int p0)] := hl
  refine lv_iload_n hx hb dX11_stow_0 rfl (lv_at hl 2 rfl) ?_
  refine lv_iconst (v := 1) hx hb dX11_stow_1 (by decide) ?_
  refine lv_sipush (v := 500) hx hb dX11_stow_2 (by decide) ?_
  have hPc := hP.sub (ws' := []) [] rfl
  have hDc := hD.sub (ws' := []) [] (by decide) rfl
  have hKc := hK.sub (tys' := []) [] rfl
  have hFc := va_free (wc := []) hD hS hA [] rfl
  refine va_calli (va_runS (As := [.int p0, .int 1, .int 500]) (rest := []) ⟨hx, hb, hml, hown, hts⟩ (k_isIn l dC dI z zK zV p0 1 500 s.heap.size) (va_cwS 3 hts gX11_stow_X11_isIn rfl rfl rfl (by decide +kernel) ⟨Nat.le_of_ble_eq_true rfl, Nat.le_of_ble_eq_true rfl⟩) ⟨kP_blind, kP_go hPc hKc hDc hFc hM hS⟩ rfl rfl hl.1 rfl (lv_room (Nat.le_of_ble_eq_true rfl)) dX11_stow_5 ⟨Nat.le_of_ble_eq_true rfl, Nat.le_of_ble_eq_true rfl⟩) hS (fun q _ h => hFc q h) hFc (fun r1 u t H1 locs ht hvm hw hB hz1 hk1 hS => ?_)
  obtain ⟨hP, hD, hK⟩ := kJ (wr := [(x, .inr (15, [.ref sh, .ref tl, .ref tw, .int 0])), (tl, .inr (3, [.int 0, .ref (z 0), .int 0])), (sh, .inr (13, [.ref rg, .ref dk, .ref hd, .ref lg, .ref pl, .ref pr, .int 0, .int 0, .int 0, .int 0, .int 0, .int 0, .int 0, .int 0, .int 0, .int 0, .int 0])), (hd, .inr (6, [.ref hu, .ref hy, .int 0])), (hu, .inl (cU, 20, .inl (fun _ => 0))), (hy, .inl (cW, 20, .inl (fun _ => 0)))]) (w1 := []) (t1 := []) hP hD hK [] [0, 1, 2, 3, 4, 5] rfl rfl (by decide) (by decide) hk1 hFc ht hvm hB
  generalize H1 = H at hP hS ⊢
  have hP : va_P (dC, dI) vwCl [(x, .inr (15, [.ref sh, .ref tl, .ref tw, .int 0])), (tl, .inr (3, [.int 0, .ref (z 0), .int 0])), (sh, .inr (13, [.ref rg, .ref dk, .ref hd, .ref lg, .ref pl, .ref pr, .int 0, .int 0, .int 0, .int 0, .int 0, .int 0, .int 0, .int 0, .int 0, .int 0, .int 0])), (hd, .inr (6, [.ref hu, .ref hy, .int 0])), (hu, .inl (cU, 20, .inl (fun _ => 0))), (hy, .inl (cW, 20, .inl (fun _ => 0)))] H := hP
  have hD : va_D A [(x, .inr (15, [.ref sh, .ref tl, .ref tw, .int 0])), (tl, .inr (3, [.int 0, .ref (z 0), .int 0])), (sh, .inr (13, [.ref rg, .ref dk, .ref hd, .ref lg, .ref pl, .ref pr, .int 0, .int 0, .int 0, .int 0, .int 0, .int 0, .int 0, .int 0, .int 0, .int 0, .int 0])), (hd, .inr (6, [.ref hu, .ref hy, .int 0])), (hu, .inl (cU, 20, .inl (fun _ => 0))), (hy, .inl (cW, 20, .inl (fun _ => 0)))] := hD
  have hK : va_K (dC, dI) vwCl [(cU, .int), (cW, .boolean)] s := hK
  obtain rfl : (if 1 ≤ p0 ∧ p0 ≤ 500 then (1 : Int32) else 0) = r1 := hw
  refine lv_if_ne (tgt := 21) hx hb dX11_stow_8 (by decide) (fun _ => ?_) (fun c_ => absurd c_ (by rw [if_pos hg0]; decide))
  refine lv_aload_n hx hb dX11_stow_21 rfl (lv_at hl 0 rfl) ?_
  refine va_get (D := (dC, dI)) (ci := 15) (v := .ref sh) (C := RX11) (T := TX11) (N := 4) hx hb hts hiX11 hown hK hP 0 rfl rfl 0 (by decide) (hts (.fieldLink RX11 10 "SquareRig" "ship" "LSquareRig$Ship;") (by decide +kernel)) (fun _ h9 => h9) rfl dX11_stow_22 ?_
  refine va_getN (D := (dC, dI)) (ci := 13) (v := .ref hd) (C := RX9) (T := TX9) (N := 17) hx hb hts hiX9 hown hK hP 2 rfl rfl 2 (by decide) (va_Nw.use rfl (hM.1 _ (List.mem_of_getElem? (i := 38) rfl))) (fun _ h9 => h9) rfl dX11_stow_25 ?_
  refine va_getN (D := (dC, dI)) (ci := 6) (v := .int 0) (C := RX2) (T := TX2) (N := 3) hx hb hts hiX2 hown hK hP 3 rfl rfl 2 (by decide) (va_Nw.use rfl (hM.1 _ (List.mem_of_getElem? (i := 30) rfl))) (fun _ h9 => h9) rfl dX11_stow_28 ?_
  refine lv_bipush (v := 20) hx hb dX11_stow_31 (by decide) ?_
  refine lv_icmp_lt (tgt := 46) hx hb dX11_stow_33 (by decide) (fun _ => ?_) (fun c_ => absurd (by decide +kernel) c_)
  refine lv_aload_n hx hb dX11_stow_46 rfl (lv_at hl 0 rfl) ?_
  refine va_get (D := (dC, dI)) (ci := 15) (v := .ref sh) (C := RX11) (T := TX11) (N := 4) hx hb hts hiX11 hown hK hP 0 rfl rfl 0 (by decide) (hts (.fieldLink RX11 10 "SquareRig" "ship" "LSquareRig$Ship;") (by decide +kernel)) (fun _ h9 => h9) rfl dX11_stow_47 ?_
  refine lv_aload_n hx hb dX11_stow_50 rfl (lv_at hl 0 rfl) ?_
  refine lv_bipush (v := 6) hx hb dX11_stow_51 (by decide) ?_
  refine lv_iload_n hx hb dX11_stow_53 rfl (lv_at hl 1 rfl) ?_
  refine lv_if_eq (tgt := 61) hx hb dX11_stow_54 (by decide) (fun _ => ?_) (fun c_ => absurd (by decide +kernel) c_)
  refine lv_iconst (v := 0) hx hb dX11_stow_61 (by decide) ?_
  refine lv_iload_n hx hb dX11_stow_62 rfl (lv_at hl 2 rfl) ?_
  refine lv_iconst (v := 0) hx hb dX11_stow_63 (by decide) ?_
  have hPc := hP.sub (ws' := [(x, .inr (15, [.ref sh, .ref tl, .ref tw, .int 0])), (tl, .inr (3, [.int 0, .ref (z 0), .int 0]))]) [0, 1] rfl
  have hDc := hD.sub (ws' := [(x, .inr (15, [.ref sh, .ref tl, .ref tw, .int 0])), (tl, .inr (3, [.int 0, .ref (z 0), .int 0]))]) [0, 1] (by decide) rfl
  have hKc := hK.sub (tys' := []) [] rfl
  have hFc := va_free (wc := [(x, .inr (15, [.ref sh, .ref tl, .ref tw, .int 0])), (tl, .inr (3, [.int 0, .ref (z 0), .int 0]))]) hD hS hA [0, 1] rfl
  refine va_callr (va_runV (As := [.int 6, .int 0, .int p0, .int 0]) (rest := [.ref sh]) ⟨hx, hb, hml, hown, hts⟩ (k_keep l dC dI z zK zV sh x tl tw 6 0 p0 0 H.size) (cwV 4 hts gX11_stow_X11_keep rfl rfl rfl (by decide +kernel) ⟨Nat.le_of_ble_eq_true rfl, Nat.le_of_ble_eq_true rfl⟩) ⟨kP_blind, va_recv hKc hPc (ci := 15) (q0 := 0) rfl rfl, kP_go hPc hKc hDc hFc hM hS⟩ rfl rfl hl.1 rfl (lv_room (Nat.le_of_ble_eq_true rfl)) dX11_stow_64 ⟨Nat.le_of_ble_eq_true rfl, Nat.le_of_ble_eq_true rfl⟩) hS (fun q _ h => hFc q h) hFc (fun u ra2 t H1 locs ht hvm hw hB hz1 hk1 hS => ?_)
  obtain ⟨q3, q4, cA5, rfl, hB⟩ := hB
  obtain ⟨hP, hD, hK⟩ := kJ (wr := [(sh, .inr (13, [.ref rg, .ref dk, .ref hd, .ref lg, .ref pl, .ref pr, .int 0, .int 0, .int 0, .int 0, .int 0, .int 0, .int 0, .int 0, .int 0, .int 0, .int 0])), (hd, .inr (6, [.ref hu, .ref hy, .int 0])), (hu, .inl (cU, 20, .inl (fun _ => 0))), (hy, .inl (cW, 20, .inl (fun _ => 0)))]) (w1 := [(x, .inr (15, [.ref sh, .ref tl, .ref tw, .int 0])), (q3, .inr (5, [.int 6, .int 0, .int p0, .int 0])), (tl, .inr (3, [.int (0 + 1), .ref q4, .int 1])), (q4, .inl (cA5, 10, .inr (.inr (.inr (.inr (va_up (fun _ => none) 0 (some q3)))))))]) (t1 := [(cA5, .object "java/lang/Object")]) hP hD hK [0, 1] [2, 3, 4, 5] rfl rfl (by decide) (by decide) hk1 hFc ht hvm hB
  generalize H1 = H at hP hS ⊢
  have hP : va_P (dC, dI) vwCl [(sh, .inr (13, [.ref rg, .ref dk, .ref hd, .ref lg, .ref pl, .ref pr, .int 0, .int 0, .int 0, .int 0, .int 0, .int 0, .int 0, .int 0, .int 0, .int 0, .int 0])), (hd, .inr (6, [.ref hu, .ref hy, .int 0])), (hu, .inl (cU, 20, .inl (fun _ => 0))), (hy, .inl (cW, 20, .inl (fun _ => 0))), (x, .inr (15, [.ref sh, .ref tl, .ref tw, .int 0])), (q3, .inr (5, [.int 6, .int 0, .int p0, .int 0])), (tl, .inr (3, [.int (0 + 1), .ref q4, .int 1])), (q4, .inl (cA5, 10, .inr (.inr (.inr (.inr (va_up (fun _ => none) 0 (some q3)))))))] H := hP
  have hD : va_D A [(sh, .inr (13, [.ref rg, .ref dk, .ref hd, .ref lg, .ref pl, .ref pr, .int 0, .int 0, .int 0, .int 0, .int 0, .int 0, .int 0, .int 0, .int 0, .int 0, .int 0])), (hd, .inr (6, [.ref hu, .ref hy, .int 0])), (hu, .inl (cU, 20, .inl (fun _ => 0))), (hy, .inl (cW, 20, .inl (fun _ => 0))), (x, .inr (15, [.ref sh, .ref tl, .ref tw, .int 0])), (q3, .inr (5, [.int 6, .int 0, .int p0, .int 0])), (tl, .inr (3, [.int (0 + 1), .ref q4, .int 1])), (q4, .inl (cA5, 10, .inr (.inr (.inr (.inr (va_up (fun _ => none) 0 (some q3)))))))] := hD
  have hK : va_K (dC, dI) vwCl [(cU, .int), (cW, .boolean), (cA5, .object "java/lang/Object")] s := hK
  have hPc := hP.sub (ws' := [(sh, .inr (13, [.ref rg, .ref dk, .ref hd, .ref lg, .ref pl, .ref pr, .int 0, .int 0, .int 0, .int 0, .int 0, .int 0, .int 0, .int 0, .int 0, .int 0, .int 0])), (q3, .inr (5, [.int 6, .int 0, .int p0, .int 0])), (hd, .inr (6, [.ref hu, .ref hy, .int 0])), (hu, .inl (cU, 20, .inl (fun _ => 0))), (hy, .inl (cW, 20, .inl (fun _ => 0)))]) [0, 5, 1, 2, 3] rfl
  have hDc := hD.sub (ws' := [(sh, .inr (13, [.ref rg, .ref dk, .ref hd, .ref lg, .ref pl, .ref pr, .int 0, .int 0, .int 0, .int 0, .int 0, .int 0, .int 0, .int 0, .int 0, .int 0, .int 0])), (q3, .inr (5, [.int 6, .int 0, .int p0, .int 0])), (hd, .inr (6, [.ref hu, .ref hy, .int 0])), (hu, .inl (cU, 20, .inl (fun _ => 0))), (hy, .inl (cW, 20, .inl (fun _ => 0)))]) [0, 5, 1, 2, 3] (by decide) rfl
  have hKc := hK.sub (tys' := [(cU, .int), (cW, .boolean)]) [0, 1] rfl
  have hFc := va_free (wc := [(sh, .inr (13, [.ref rg, .ref dk, .ref hd, .ref lg, .ref pl, .ref pr, .int 0, .int 0, .int 0, .int 0, .int 0, .int 0, .int 0, .int 0, .int 0, .int 0, .int 0])), (q3, .inr (5, [.int 6, .int 0, .int p0, .int 0])), (hd, .inr (6, [.ref hu, .ref hy, .int 0])), (hu, .inl (cU, 20, .inl (fun _ => 0))), (hy, .inl (cW, 20, .inl (fun _ => 0)))]) hD hS hA [0, 5, 1, 2, 3] rfl
  refine va_callv (va_runV (As := [.ref q3]) (rest := []) ⟨hx, hb, hml, hown, hts⟩ (k_obey_stow0 l dC dI z zK zV sh rg dk hd hu hy lg pl pr cU cW q3 p0 H.size) (cwV 1 hts gX11_stow_X9_obey rfl rfl rfl (by decide +kernel) ⟨Nat.le_of_ble_eq_true rfl, Nat.le_of_ble_eq_true rfl⟩) ⟨kP_blind, va_recv hKc hPc (ci := 13) (q0 := 0) rfl rfl, kP_go hPc hKc hDc hFc hM hS⟩ rfl rfl hl.1 rfl (lv_room (Nat.le_of_ble_eq_true rfl)) dX11_stow_67 ⟨Nat.le_of_ble_eq_true rfl, Nat.le_of_ble_eq_true rfl⟩) hS (fun q _ h => hFc q h) hFc (fun u t H1 locs ht hvm hw hB hz1 hk1 hS => ?_)
  obtain ⟨hP, hD, hK⟩ := kJ (wr := [(x, .inr (15, [.ref sh, .ref tl, .ref tw, .int 0])), (tl, .inr (3, [.int (0 + 1), .ref q4, .int 1])), (q4, .inl (cA5, 10, .inr (.inr (.inr (.inr (va_up (fun _ => none) 0 (some q3)))))))]) (w1 := [(sh, .inr (13, [.ref rg, .ref dk, .ref hd, .ref lg, .ref pl, .ref pr, .int 0, .int 0, .int 0, .int 0, .int 0, .int 0, .int 0, .int 0, .int 0, .int 0, .int 0])), (hd, .inr (6, [.ref hu, .ref hy, .int 1]))]) (t1 := []) hP hD hK [0, 5, 1, 2, 3] [4, 6, 7] rfl rfl (by decide) (by decide) hk1 hFc ht hvm hB
  generalize H1 = H at hP hS ⊢
  have hP : va_P (dC, dI) vwCl [(x, .inr (15, [.ref sh, .ref tl, .ref tw, .int 0])), (tl, .inr (3, [.int (0 + 1), .ref q4, .int 1])), (q4, .inl (cA5, 10, .inr (.inr (.inr (.inr (va_up (fun _ => none) 0 (some q3))))))), (sh, .inr (13, [.ref rg, .ref dk, .ref hd, .ref lg, .ref pl, .ref pr, .int 0, .int 0, .int 0, .int 0, .int 0, .int 0, .int 0, .int 0, .int 0, .int 0, .int 0])), (hd, .inr (6, [.ref hu, .ref hy, .int 1]))] H := hP
  have hD : va_D A [(x, .inr (15, [.ref sh, .ref tl, .ref tw, .int 0])), (tl, .inr (3, [.int (0 + 1), .ref q4, .int 1])), (q4, .inl (cA5, 10, .inr (.inr (.inr (.inr (va_up (fun _ => none) 0 (some q3))))))), (sh, .inr (13, [.ref rg, .ref dk, .ref hd, .ref lg, .ref pl, .ref pr, .int 0, .int 0, .int 0, .int 0, .int 0, .int 0, .int 0, .int 0, .int 0, .int 0, .int 0])), (hd, .inr (6, [.ref hu, .ref hy, .int 1]))] := hD
  have hK : va_K (dC, dI) vwCl [(cU, .int), (cW, .boolean), (cA5, .object "java/lang/Object")] s := hK
  clear hw
  refine lv_aload_n hx hb dX11_stow_70 rfl (lv_at hl 0 rfl) ?_
  refine va_get (D := (dC, dI)) (ci := 15) (v := .ref sh) (C := RX11) (T := TX11) (N := 4) hx hb hts hiX11 hown hK hP 0 rfl rfl 0 (by decide) (hts (.fieldLink RX11 10 "SquareRig" "ship" "LSquareRig$Ship;") (by decide +kernel)) (fun _ h9 => h9) rfl dX11_stow_71 ?_
  refine va_getN (D := (dC, dI)) (ci := 13) (v := .ref hd) (C := RX9) (T := TX9) (N := 17) hx hb hts hiX9 hown hK hP 3 rfl rfl 2 (by decide) (va_Nw.use rfl (hM.1 _ (List.mem_of_getElem? (i := 38) rfl))) (fun _ h9 => h9) rfl dX11_stow_74 ?_
  refine va_getN (D := (dC, dI)) (ci := 6) (v := .int 1) (C := RX2) (T := TX2) (N := 3) hx hb hts hiX2 hown hK hP 4 rfl rfl 2 (by decide) (va_Nw.use rfl (hM.1 _ (List.mem_of_getElem? (i := 30) rfl))) (fun _ h9 => h9) rfl dX11_stow_77 ?_
  refine W.widen (k := 2) (n := 14) (Nat.le_of_ble_eq_true rfl) (Nat.le_of_ble_eq_true rfl) ?_
  exact W.iret (v := 1) hx hb hr (fun t ht hW => ⟨⟨1, (), rfl, rfl, kB_end (w9 := []) (t9 := []) hP hK hD [] [] rfl (by decide) rfl rfl t ht hW⟩, hS.F ht⟩) hS.2.2 dX11_stow_80
abbrev wd_k_l_stowg0 (z : Nat → Nat) (sh : Nat) (rg : Nat) (dk : Nat) (hd : Nat) (hu : Nat) (hy : Nat) (lg : Nat) (pl : Nat) (pr : Nat) (cU : ClassId) (cW : ClassId) (x : Nat) (tl : Nat) (tw : Nat) (p0 : Int32) (ou : Nat) (co : ClassId) (of_ : Nat → Int64) : va_W := [(x, .inr (15, [.ref sh, .ref tl, .ref tw, .int 0])), (tl, .inr (3, [.int 0, .ref (z 0), .int 0])), (sh, .inr (13, [.ref rg, .ref dk, .ref hd, .ref lg, .ref pl, .ref pr, .int 0, .int 0, .int 0, .int 0, .int 0, .int 0, .int 0, .int 0, .int 0, .int 0, .int 0])), (hd, .inr (6, [.ref hu, .ref hy, .int 0])), (hu, .inl (cU, 20, .inl (fun _ => 0))), (hy, .inl (cW, 20, .inl (fun _ => 0))), (ou, .inl (co, 1, .inr (.inl of_)))]
set_option maxHeartbeats 4000000 in
set_option maxRecDepth 100000 in
theorem k_l_stowg0 (l : Launch) (dC : Nat → ClassId) (dI : Nat → Nat → Nat) (z zK zV : Nat → Nat) (sh : Nat) (rg : Nat) (dk : Nat) (hd : Nat) (hu : Nat) (hy : Nat) (lg : Nat) (pl : Nat) (pr : Nat) (cU : ClassId) (cW : ClassId) (x : Nat) (tl : Nat) (tw : Nat) (p0 : Int32) (ou : Nat) (co : ClassId) (of_ : Nat → Int64) (sz : Nat) (hg0 : (1 : Int32) ≤ p0 ∧ p0 ≤ 500) : Met l yL_stow wsL_stow ({ frames := 7, cells := 2, slots := 14, locals := 148 }) (kP dC dI z zK zV [.ref x, .int 0, .int p0, .ref ou] sz (wd_k_l_stowg0 z sh rg dk hd hu hy lg pl pr cU cW x tl tw p0 ou co of_) [(cU, .int), (cW, .boolean), (co, .long)]) (va_Qi (fun (r : Int32) (_ : Unit) => 0 = r) (fun _ t => kB (dC, dI) (va_A (wd_k_l_stowg0 z sh rg dk hd hu hy lg pl pr cU cW x tl tw p0 ou co of_) sz) [(ou, .inl (co, 1, .inr (.inl (vp_updL of_ 0 1))))] [] t) (va_A (wd_k_l_stowg0 z sh rg dk hd hu hy lg pl pr cU cW x tl tw p0 ou co of_) sz)) 2 14 (va_A (wd_k_l_stowg0 z sh rg dk hd hu hy lg pl pr cU cW x tl tw p0 ou co of_) sz) := by
  refine va_MetW (hh := [(0, 10, 13, 13), (0, 10, 17, 27)]) (cc := cL_stow) (maxL := 5) (ret := (some .int)) (by decide) rfl ?_
  intro p e s m args below meth c s₁ B hml hv
  obtain ⟨rfl, hsz, hP, hK, hD0, hM⟩ := hv
  have hx := B.exec
  have hb := B.bytes
  have hr := B.returns
  have hts := atoms_spec (ws := wsL_stow) B.pre
  have hown : s.vm.findClass RL = some m.cls := findClass_of_methodNamed B.named
  have hlocks := B.notSynchronized
  have htab := vx_table (x := yL_stow) B (hts _ List.mem_cons_self)
  subst hsz
  have hD := hD0.self (sz := s.heap.size)
  generalize hAe : va_A (wd_k_l_stowg0 z sh rg dk hd hu hy lg pl pr cU cW x tl tw p0 ou co of_) s.heap.size = A at hD hM ⊢
  have hA : ∀ q : Nat, s.heap.size ≤ q → A q := fun q h => by rw [← hAe]; exact Or.inr h
  have hS : va_S A s.heap s.heap [] := va_S.rf
  have hP : va_P (dC, dI) vwCl [(x, .inr (15, [.ref sh, .ref tl, .ref tw, .int 0])), (tl, .inr (3, [.int 0, .ref (z 0), .int 0])), (sh, .inr (13, [.ref rg, .ref dk, .ref hd, .ref lg, .ref pl, .ref pr, .int 0, .int 0, .int 0, .int 0, .int 0, .int 0, .int 0, .int 0, .int 0, .int 0, .int 0])), (hd, .inr (6, [.ref hu, .ref hy, .int 0])), (hu, .inl (cU, 20, .inl (fun _ => 0))), (hy, .inl (cW, 20, .inl (fun _ => 0))), (ou, .inl (co, 1, .inr (.inl of_)))] s.heap := hP
  have hD : va_D A [(x, .inr (15, [.ref sh, .ref tl, .ref tw, .int 0])), (tl, .inr (3, [.int 0, .ref (z 0), .int 0])), (sh, .inr (13, [.ref rg, .ref dk, .ref hd, .ref lg, .ref pl, .ref pr, .int 0, .int 0, .int 0, .int 0, .int 0, .int 0, .int 0, .int 0, .int 0, .int 0, .int 0])), (hd, .inr (6, [.ref hu, .ref hy, .int 0])), (hu, .inl (cU, 20, .inl (fun _ => 0))), (hy, .inl (cW, 20, .inl (fun _ => 0))), (ou, .inl (co, 1, .inr (.inl of_)))] := hD
  have hl := lv_entry ([.ref x, .int 0, .int p0, .ref ou]) (n := 5) (Nat.le_of_ble_eq_true rfl)
  rw [lg_entry_eq]
  generalize (lg_sl ([.ref x, .int 0, .int p0, .ref ou]) ++ List.replicate (5 - (lg_sl ([.ref x, .int 0, .int p0, .ref ou])).length) Slot.unset).toArray = ls at hl ⊢
  have hl : lv_has ls 5 [(0, .ref x), (1, .int 0), (2, .int p0), (3, .ref ou)] := hl
  refine lv_aload_n hx hb dL_stow_0 rfl (lv_at hl 3 rfl) ?_
  refine lv_iconst (v := 0) hx hb dL_stow_1 (by decide) ?_
  refine lv_aload_n hx hb dL_stow_2 rfl (lv_at hl 0 rfl) ?_
  refine lv_iload_n hx hb dL_stow_3 rfl (lv_at hl 1 rfl) ?_
  refine lv_iload_n hx hb dL_stow_4 rfl (lv_at hl 2 rfl) ?_
  have hPc := hP.sub (ws' := [(x, .inr (15, [.ref sh, .ref tl, .ref tw, .int 0])), (tl, .inr (3, [.int 0, .ref (z 0), .int 0])), (sh, .inr (13, [.ref rg, .ref dk, .ref hd, .ref lg, .ref pl, .ref pr, .int 0, .int 0, .int 0, .int 0, .int 0, .int 0, .int 0, .int 0, .int 0, .int 0, .int 0])), (hd, .inr (6, [.ref hu, .ref hy, .int 0])), (hu, .inl (cU, 20, .inl (fun _ => 0))), (hy, .inl (cW, 20, .inl (fun _ => 0)))]) [0, 1, 2, 3, 4, 5] rfl
  have hDc := hD.sub (ws' := [(x, .inr (15, [.ref sh, .ref tl, .ref tw, .int 0])), (tl, .inr (3, [.int 0, .ref (z 0), .int 0])), (sh, .inr (13, [.ref rg, .ref dk, .ref hd, .ref lg, .ref pl, .ref pr, .int 0, .int 0, .int 0, .int 0, .int 0, .int 0, .int 0, .int 0, .int 0, .int 0, .int 0])), (hd, .inr (6, [.ref hu, .ref hy, .int 0])), (hu, .inl (cU, 20, .inl (fun _ => 0))), (hy, .inl (cW, 20, .inl (fun _ => 0)))]) [0, 1, 2, 3, 4, 5] (by decide) rfl
  have hKc := hK.sub (tys' := [(cU, .int), (cW, .boolean)]) [0, 1] rfl
  have hFc := va_free (wc := [(x, .inr (15, [.ref sh, .ref tl, .ref tw, .int 0])), (tl, .inr (3, [.int 0, .ref (z 0), .int 0])), (sh, .inr (13, [.ref rg, .ref dk, .ref hd, .ref lg, .ref pl, .ref pr, .int 0, .int 0, .int 0, .int 0, .int 0, .int 0, .int 0, .int 0, .int 0, .int 0, .int 0])), (hd, .inr (6, [.ref hu, .ref hy, .int 0])), (hu, .inl (cU, 20, .inl (fun _ => 0))), (hy, .inl (cW, 20, .inl (fun _ => 0)))]) hD hS hA [0, 1, 2, 3, 4, 5] rfl
  refine va_calli (va_runV (As := [.int 0, .int p0]) (rest := [.int 0, .ref ou]) ⟨hx, hb, hml, hown, hts⟩ (k_x_stowg0 l dC dI z zK zV sh rg dk hd hu hy lg pl pr cU cW x tl tw p0 s.heap.size (hg0)) (cwV 2 hts gL_stow_X11_stow rfl rfl rfl (by decide +kernel) ⟨Nat.le_of_ble_eq_true rfl, Nat.le_of_ble_eq_true rfl⟩) ⟨kP_blind, va_recv hKc hPc (ci := 15) (q0 := 0) rfl rfl, kP_go hPc hKc hDc hFc hM hS⟩ rfl rfl hl.1 rfl (lv_room (Nat.le_of_ble_eq_true rfl)) dL_stow_5 ⟨Nat.le_of_ble_eq_true rfl, Nat.le_of_ble_eq_true rfl⟩) hS (fun q _ h => hFc q h) hFc (fun r1 u t H1 locs ht hvm hw hB hz1 hk1 hS => ?_)
  obtain ⟨hP, hD, hK⟩ := kJ (wr := [(ou, .inl (co, 1, .inr (.inl of_)))]) (w1 := []) (t1 := []) hP hD hK [0, 1, 2, 3, 4, 5] [6] rfl rfl (by decide) (by decide) hk1 hFc ht hvm hB
  generalize H1 = H at hP hS ⊢
  have hP : va_P (dC, dI) vwCl [(ou, .inl (co, 1, .inr (.inl of_)))] H := hP
  have hD : va_D A [(ou, .inl (co, 1, .inr (.inl of_)))] := hD
  have hK : va_K (dC, dI) vwCl [(cU, .int), (cW, .boolean), (co, .long)] s := hK
  obtain rfl : 1 = r1 := hw
  refine lv_i2l (v := 1) hx hb dL_stow_8 (by decide +kernel) ?_
  refine va_last hx hb hK hP hD hS 0 2 rfl rfl (pk_in 0 1 (by decide) rfl) dL_stow_9 (fun H locs hP hD hS => ?_)
  have hP : va_P (dC, dI) vwCl [(ou, .inl (co, 1, .inr (.inl (vp_updL of_ 0 1))))] H := hP
  have hD : va_D A [(ou, .inl (co, 1, .inr (.inl (vp_updL of_ 0 1))))] := hD
  refine lv_goto (tgt := 21) hx hb dL_stow_10 (by decide) ?_
  refine lv_iconst (v := 0) hx hb dL_stow_21 (by decide) ?_
  refine W.widen (k := 2) (n := 14) (Nat.le_of_ble_eq_true rfl) (Nat.le_of_ble_eq_true rfl) ?_
  exact W.iret (v := 0) hx hb hr (fun t ht hW => ⟨⟨0, (), rfl, rfl, kB_end (w9 := [(ou, .inl (co, 1, .inr (.inl (vp_updL of_ 0 1))))]) (t9 := []) hP hK hD [0] [] rfl (by decide) rfl rfl t ht hW⟩, hS.F ht⟩) hS.2.2 dL_stow_22
abbrev wd_k_x_stowg1 (z : Nat → Nat) (sh : Nat) (rg : Nat) (dk : Nat) (hd : Nat) (hu : Nat) (hy : Nat) (lg : Nat) (pl : Nat) (pr : Nat) (cU : ClassId) (cW : ClassId) (x : Nat) (tl : Nat) (tw : Nat) (p0 : Int32) : va_W := [(x, .inr (15, [.ref sh, .ref tl, .ref tw, .int 0])), (tl, .inr (3, [.int 0, .ref (z 0), .int 0])), (sh, .inr (13, [.ref rg, .ref dk, .ref hd, .ref lg, .ref pl, .ref pr, .int 0, .int 0, .int 0, .int 0, .int 0, .int 0, .int 0, .int 0, .int 0, .int 0, .int 0])), (hd, .inr (6, [.ref hu, .ref hy, .int 0])), (hu, .inl (cU, 20, .inl (fun _ => 0))), (hy, .inl (cW, 20, .inl (fun _ => 0)))]
set_option maxHeartbeats 4000000 in
set_option maxRecDepth 100000 in
theorem k_x_stowg1 (l : Launch) (dC : Nat → ClassId) (dI : Nat → Nat → Nat) (z zK zV : Nat → Nat) (sh : Nat) (rg : Nat) (dk : Nat) (hd : Nat) (hu : Nat) (hy : Nat) (lg : Nat) (pl : Nat) (pr : Nat) (cU : ClassId) (cW : ClassId) (x : Nat) (tl : Nat) (tw : Nat) (p0 : Int32) (sz : Nat) (hg0 : (1 : Int32) ≤ p0 ∧ p0 ≤ 500) : Met l yX11_stow wsX11_stow ({ frames := 6, cells := 2, slots := 14, locals := 126 }) (kP dC dI z zK zV [.ref x, .int 1, .int p0] sz (wd_k_x_stowg1 z sh rg dk hd hu hy lg pl pr cU cW x tl tw p0) [(cU, .int), (cW, .boolean)]) (va_Qi (fun (r : Int32) (_ : Unit) => 1 = r) (fun _ t => kB (dC, dI) (va_A (wd_k_x_stowg1 z sh rg dk hd hu hy lg pl pr cU cW x tl tw p0) sz) [] [] t) (va_A (wd_k_x_stowg1 z sh rg dk hd hu hy lg pl pr cU cW x tl tw p0) sz)) 2 14 (va_A (wd_k_x_stowg1 z sh rg dk hd hu hy lg pl pr cU cW x tl tw p0) sz) := by
  refine Met.ofW (cc := cX11_stow) (maxL := 3) (ret := (some .int)) (by decide) rfl ?_
  intro p e s m args below meth c s₁ B hml hv
  obtain ⟨rfl, hsz, hP, hK, hD0, hM⟩ := hv
  have hx := B.exec
  have hb := B.bytes
  have hr := B.returns
  have hts := atoms_spec (ws := wsX11_stow) B.pre
  have hown : s.vm.findClass RX11 = some m.cls := findClass_of_methodNamed B.named
  have hlocks := B.notSynchronized
  have hiX11 : ∀ w ∈ u_ws RX11 TX11 4, w ∈ wsX11_stow := by decide +kernel
  have hiX9 : ∀ w ∈ u_ws RX9 TX9 17, w ∈ wsX11_stow := by decide +kernel
  have hiX2 : ∀ w ∈ u_ws RX2 TX2 3, w ∈ wsX11_stow := by decide +kernel
  subst hsz
  have hD := hD0.self (sz := s.heap.size)
  generalize hAe : va_A (wd_k_x_stowg1 z sh rg dk hd hu hy lg pl pr cU cW x tl tw p0) s.heap.size = A at hD hM ⊢
  have hA : ∀ q : Nat, s.heap.size ≤ q → A q := fun q h => by rw [← hAe]; exact Or.inr h
  have hS : va_S A s.heap s.heap [] := va_S.rf
  have hP : va_P (dC, dI) vwCl [(x, .inr (15, [.ref sh, .ref tl, .ref tw, .int 0])), (tl, .inr (3, [.int 0, .ref (z 0), .int 0])), (sh, .inr (13, [.ref rg, .ref dk, .ref hd, .ref lg, .ref pl, .ref pr, .int 0, .int 0, .int 0, .int 0, .int 0, .int 0, .int 0, .int 0, .int 0, .int 0, .int 0])), (hd, .inr (6, [.ref hu, .ref hy, .int 0])), (hu, .inl (cU, 20, .inl (fun _ => 0))), (hy, .inl (cW, 20, .inl (fun _ => 0)))] s.heap := hP
  have hD : va_D A [(x, .inr (15, [.ref sh, .ref tl, .ref tw, .int 0])), (tl, .inr (3, [.int 0, .ref (z 0), .int 0])), (sh, .inr (13, [.ref rg, .ref dk, .ref hd, .ref lg, .ref pl, .ref pr, .int 0, .int 0, .int 0, .int 0, .int 0, .int 0, .int 0, .int 0, .int 0, .int 0, .int 0])), (hd, .inr (6, [.ref hu, .ref hy, .int 0])), (hu, .inl (cU, 20, .inl (fun _ => 0))), (hy, .inl (cW, 20, .inl (fun _ => 0)))] := hD
  have hl := lv_entry ([.ref x, .int 1, .int p0]) (n := 3) (Nat.le_of_ble_eq_true rfl)
  rw [lg_entry_eq]
  generalize (lg_sl ([.ref x, .int 1, .int p0]) ++ List.replicate (3 - (lg_sl ([.ref x, .int 1, .int p0])).length) Slot.unset).toArray = ls at hl ⊢
  have hl : lv_has ls 3 [(0, .ref x), (1, .int 1), (2, .int p0)] := hl
  refine lv_iload_n hx hb dX11_stow_0 rfl (lv_at hl 2 rfl) ?_
  refine lv_iconst (v := 1) hx hb dX11_stow_1 (by decide) ?_
  refine lv_sipush (v := 500) hx hb dX11_stow_2 (by decide) ?_
  have hPc := hP.sub (ws' := []) [] rfl
  have hDc := hD.sub (ws' := []) [] (by decide) rfl
  have hKc := hK.sub (tys' := []) [] rfl
  have hFc := va_free (wc := []) hD hS hA [] rfl
  refine va_calli (va_runS (As := [.int p0, .int 1, .int 500]) (rest := []) ⟨hx, hb, hml, hown, hts⟩ (k_isIn l dC dI z zK zV p0 1 500 s.heap.size) (va_cwS 3 hts gX11_stow_X11_isIn rfl rfl rfl (by decide +kernel) ⟨Nat.le_of_ble_eq_true rfl, Nat.le_of_ble_eq_true rfl⟩) ⟨kP_blind, kP_go hPc hKc hDc hFc hM hS⟩ rfl rfl hl.1 rfl (lv_room (Nat.le_of_ble_eq_true rfl)) dX11_stow_5 ⟨Nat.le_of_ble_eq_true rfl, Nat.le_of_ble_eq_true rfl⟩) hS (fun q _ h => hFc q h) hFc (fun r1 u t H1 locs ht hvm hw hB hz1 hk1 hS => ?_)
  obtain ⟨hP, hD, hK⟩ := kJ (wr := [(x, .inr (15, [.ref sh, .ref tl, .ref tw, .int 0])), (tl, .inr (3, [.int 0, .ref (z 0), .int 0])), (sh, .inr (13, [.ref rg, .ref dk, .ref hd, .ref lg, .ref pl, .ref pr, .int 0, .int 0, .int 0, .int 0, .int 0, .int 0, .int 0, .int 0, .int 0, .int 0, .int 0])), (hd, .inr (6, [.ref hu, .ref hy, .int 0])), (hu, .inl (cU, 20, .inl (fun _ => 0))), (hy, .inl (cW, 20, .inl (fun _ => 0)))]) (w1 := []) (t1 := []) hP hD hK [] [0, 1, 2, 3, 4, 5] rfl rfl (by decide) (by decide) hk1 hFc ht hvm hB
  generalize H1 = H at hP hS ⊢
  have hP : va_P (dC, dI) vwCl [(x, .inr (15, [.ref sh, .ref tl, .ref tw, .int 0])), (tl, .inr (3, [.int 0, .ref (z 0), .int 0])), (sh, .inr (13, [.ref rg, .ref dk, .ref hd, .ref lg, .ref pl, .ref pr, .int 0, .int 0, .int 0, .int 0, .int 0, .int 0, .int 0, .int 0, .int 0, .int 0, .int 0])), (hd, .inr (6, [.ref hu, .ref hy, .int 0])), (hu, .inl (cU, 20, .inl (fun _ => 0))), (hy, .inl (cW, 20, .inl (fun _ => 0)))] H := hP
  have hD : va_D A [(x, .inr (15, [.ref sh, .ref tl, .ref tw, .int 0])), (tl, .inr (3, [.int 0, .ref (z 0), .int 0])), (sh, .inr (13, [.ref rg, .ref dk, .ref hd, .ref lg, .ref pl, .ref pr, .int 0, .int 0, .int 0, .int 0, .int 0, .int 0, .int 0, .int 0, .int 0, .int 0, .int 0])), (hd, .inr (6, [.ref hu, .ref hy, .int 0])), (hu, .inl (cU, 20, .inl (fun _ => 0))), (hy, .inl (cW, 20, .inl (fun _ => 0)))] := hD
  have hK : va_K (dC, dI) vwCl [(cU, .int), (cW, .boolean)] s := hK
  obtain rfl : (if 1 ≤ p0 ∧ p0 ≤ 500 then (1 : Int32) else 0) = r1 := hw
  refine lv_if_ne (tgt := 21) hx hb dX11_stow_8 (by decide) (fun _ => ?_) (fun c_ => absurd c_ (by rw [if_pos hg0]; decide))
  refine lv_aload_n hx hb dX11_stow_21 rfl (lv_at hl 0 rfl) ?_
  refine va_get (D := (dC, dI)) (ci := 15) (v := .ref sh) (C := RX11) (T := TX11) (N := 4) hx hb hts hiX11 hown hK hP 0 rfl rfl 0 (by decide) (hts (.fieldLink RX11 10 "SquareRig" "ship" "LSquareRig$Ship;") (by decide +kernel)) (fun _ h9 => h9) rfl dX11_stow_22 ?_
  refine va_getN (D := (dC, dI)) (ci := 13) (v := .ref hd) (C := RX9) (T := TX9) (N := 17) hx hb hts hiX9 hown hK hP 2 rfl rfl 2 (by decide) (va_Nw.use rfl (hM.1 _ (List.mem_of_getElem? (i := 38) rfl))) (fun _ h9 => h9) rfl dX11_stow_25 ?_
  refine va_getN (D := (dC, dI)) (ci := 6) (v := .int 0) (C := RX2) (T := TX2) (N := 3) hx hb hts hiX2 hown hK hP 3 rfl rfl 2 (by decide) (va_Nw.use rfl (hM.1 _ (List.mem_of_getElem? (i := 30) rfl))) (fun _ h9 => h9) rfl dX11_stow_28 ?_
  refine lv_bipush (v := 20) hx hb dX11_stow_31 (by decide) ?_
  refine lv_icmp_lt (tgt := 46) hx hb dX11_stow_33 (by decide) (fun _ => ?_) (fun c_ => absurd (by decide +kernel) c_)
  refine lv_aload_n hx hb dX11_stow_46 rfl (lv_at hl 0 rfl) ?_
  refine va_get (D := (dC, dI)) (ci := 15) (v := .ref sh) (C := RX11) (T := TX11) (N := 4) hx hb hts hiX11 hown hK hP 0 rfl rfl 0 (by decide) (hts (.fieldLink RX11 10 "SquareRig" "ship" "LSquareRig$Ship;") (by decide +kernel)) (fun _ h9 => h9) rfl dX11_stow_47 ?_
  refine lv_aload_n hx hb dX11_stow_50 rfl (lv_at hl 0 rfl) ?_
  refine lv_bipush (v := 6) hx hb dX11_stow_51 (by decide) ?_
  refine lv_iload_n hx hb dX11_stow_53 rfl (lv_at hl 1 rfl) ?_
  refine lv_if_eq (tgt := 61) hx hb dX11_stow_54 (by decide) (fun c_ => absurd c_ (by decide +kernel)) (fun _ => ?_)
  refine lv_iconst (v := 1) hx hb dX11_stow_57 (by decide) ?_
  refine lv_goto (tgt := 62) hx hb dX11_stow_58 (by decide) ?_
  refine lv_iload_n hx hb dX11_stow_62 rfl (lv_at hl 2 rfl) ?_
  refine lv_iconst (v := 0) hx hb dX11_stow_63 (by decide) ?_
  have hPc := hP.sub (ws' := [(x, .inr (15, [.ref sh, .ref tl, .ref tw, .int 0])), (tl, .inr (3, [.int 0, .ref (z 0), .int 0]))]) [0, 1] rfl
  have hDc := hD.sub (ws' := [(x, .inr (15, [.ref sh, .ref tl, .ref tw, .int 0])), (tl, .inr (3, [.int 0, .ref (z 0), .int 0]))]) [0, 1] (by decide) rfl
  have hKc := hK.sub (tys' := []) [] rfl
  have hFc := va_free (wc := [(x, .inr (15, [.ref sh, .ref tl, .ref tw, .int 0])), (tl, .inr (3, [.int 0, .ref (z 0), .int 0]))]) hD hS hA [0, 1] rfl
  refine va_callr (va_runV (As := [.int 6, .int 1, .int p0, .int 0]) (rest := [.ref sh]) ⟨hx, hb, hml, hown, hts⟩ (k_keep l dC dI z zK zV sh x tl tw 6 1 p0 0 H.size) (cwV 4 hts gX11_stow_X11_keep rfl rfl rfl (by decide +kernel) ⟨Nat.le_of_ble_eq_true rfl, Nat.le_of_ble_eq_true rfl⟩) ⟨kP_blind, va_recv hKc hPc (ci := 15) (q0 := 0) rfl rfl, kP_go hPc hKc hDc hFc hM hS⟩ rfl rfl hl.1 rfl (lv_room (Nat.le_of_ble_eq_true rfl)) dX11_stow_64 ⟨Nat.le_of_ble_eq_true rfl, Nat.le_of_ble_eq_true rfl⟩) hS (fun q _ h => hFc q h) hFc (fun u ra2 t H1 locs ht hvm hw hB hz1 hk1 hS => ?_)
  obtain ⟨q3, q4, cA5, rfl, hB⟩ := hB
  obtain ⟨hP, hD, hK⟩ := kJ (wr := [(sh, .inr (13, [.ref rg, .ref dk, .ref hd, .ref lg, .ref pl, .ref pr, .int 0, .int 0, .int 0, .int 0, .int 0, .int 0, .int 0, .int 0, .int 0, .int 0, .int 0])), (hd, .inr (6, [.ref hu, .ref hy, .int 0])), (hu, .inl (cU, 20, .inl (fun _ => 0))), (hy, .inl (cW, 20, .inl (fun _ => 0)))]) (w1 := [(x, .inr (15, [.ref sh, .ref tl, .ref tw, .int 0])), (q3, .inr (5, [.int 6, .int 1, .int p0, .int 0])), (tl, .inr (3, [.int (0 + 1), .ref q4, .int 1])), (q4, .inl (cA5, 10, .inr (.inr (.inr (.inr (va_up (fun _ => none) 0 (some q3)))))))]) (t1 := [(cA5, .object "java/lang/Object")]) hP hD hK [0, 1] [2, 3, 4, 5] rfl rfl (by decide) (by decide) hk1 hFc ht hvm hB
  generalize H1 = H at hP hS ⊢
  have hP : va_P (dC, dI) vwCl [(sh, .inr (13, [.ref rg, .ref dk, .ref hd, .ref lg, .ref pl, .ref pr, .int 0, .int 0, .int 0, .int 0, .int 0, .int 0, .int 0, .int 0, .int 0, .int 0, .int 0])), (hd, .inr (6, [.ref hu, .ref hy, .int 0])), (hu, .inl (cU, 20, .inl (fun _ => 0))), (hy, .inl (cW, 20, .inl (fun _ => 0))), (x, .inr (15, [.ref sh, .ref tl, .ref tw, .int 0])), (q3, .inr (5, [.int 6, .int 1, .int p0, .int 0])), (tl, .inr (3, [.int (0 + 1), .ref q4, .int 1])), (q4, .inl (cA5, 10, .inr (.inr (.inr (.inr (va_up (fun _ => none) 0 (some q3)))))))] H := hP
  have hD : va_D A [(sh, .inr (13, [.ref rg, .ref dk, .ref hd, .ref lg, .ref pl, .ref pr, .int 0, .int 0, .int 0, .int 0, .int 0, .int 0, .int 0, .int 0, .int 0, .int 0, .int 0])), (hd, .inr (6, [.ref hu, .ref hy, .int 0])), (hu, .inl (cU, 20, .inl (fun _ => 0))), (hy, .inl (cW, 20, .inl (fun _ => 0))), (x, .inr (15, [.ref sh, .ref tl, .ref tw, .int 0])), (q3, .inr (5, [.int 6, .int 1, .int p0, .int 0])), (tl, .inr (3, [.int (0 + 1), .ref q4, .int 1])), (q4, .inl (cA5, 10, .inr (.inr (.inr (.inr (va_up (fun _ => none) 0 (some q3)))))))] := hD
  have hK : va_K (dC, dI) vwCl [(cU, .int), (cW, .boolean), (cA5, .object "java/lang/Object")] s := hK
  have hPc := hP.sub (ws' := [(sh, .inr (13, [.ref rg, .ref dk, .ref hd, .ref lg, .ref pl, .ref pr, .int 0, .int 0, .int 0, .int 0, .int 0, .int 0, .int 0, .int 0, .int 0, .int 0, .int 0])), (q3, .inr (5, [.int 6, .int 1, .int p0, .int 0])), (hd, .inr (6, [.ref hu, .ref hy, .int 0])), (hu, .inl (cU, 20, .inl (fun _ => 0))), (hy, .inl (cW, 20, .inl (fun _ => 0)))]) [0, 5, 1, 2, 3] rfl
  have hDc := hD.sub (ws' := [(sh, .inr (13, [.ref rg, .ref dk, .ref hd, .ref lg, .ref pl, .ref pr, .int 0, .int 0, .int 0, .int 0, .int 0, .int 0, .int 0, .int 0, .int 0, .int 0, .int 0])), (q3, .inr (5, [.int 6, .int 1, .int p0, .int 0])), (hd, .inr (6, [.ref hu, .ref hy, .int 0])), (hu, .inl (cU, 20, .inl (fun _ => 0))), (hy, .inl (cW, 20, .inl (fun _ => 0)))]) [0, 5, 1, 2, 3] (by decide) rfl
  have hKc := hK.sub (tys' := [(cU, .int), (cW, .boolean)]) [0, 1] rfl
  have hFc := va_free (wc := [(sh, .inr (13, [.ref rg, .ref dk, .ref hd, .ref lg, .ref pl, .ref pr, .int 0, .int 0, .int 0, .int 0, .int 0, .int 0, .int 0, .int 0, .int 0, .int 0, .int 0])), (q3, .inr (5, [.int 6, .int 1, .int p0, .int 0])), (hd, .inr (6, [.ref hu, .ref hy, .int 0])), (hu, .inl (cU, 20, .inl (fun _ => 0))), (hy, .inl (cW, 20, .inl (fun _ => 0)))]) hD hS hA [0, 5, 1, 2, 3] rfl
  refine va_callv (va_runV (As := [.ref q3]) (rest := []) ⟨hx, hb, hml, hown, hts⟩ (k_obey_stow1 l dC dI z zK zV sh rg dk hd hu hy lg pl pr cU cW q3 p0 H.size) (cwV 1 hts gX11_stow_X9_obey rfl rfl rfl (by decide +kernel) ⟨Nat.le_of_ble_eq_true rfl, Nat.le_of_ble_eq_true rfl⟩) ⟨kP_blind, va_recv hKc hPc (ci := 13) (q0 := 0) rfl rfl, kP_go hPc hKc hDc hFc hM hS⟩ rfl rfl hl.1 rfl (lv_room (Nat.le_of_ble_eq_true rfl)) dX11_stow_67 ⟨Nat.le_of_ble_eq_true rfl, Nat.le_of_ble_eq_true rfl⟩) hS (fun q _ h => hFc q h) hFc (fun u t H1 locs ht hvm hw hB hz1 hk1 hS => ?_)
  obtain ⟨hP, hD, hK⟩ := kJ (wr := [(x, .inr (15, [.ref sh, .ref tl, .ref tw, .int 0])), (tl, .inr (3, [.int (0 + 1), .ref q4, .int 1])), (q4, .inl (cA5, 10, .inr (.inr (.inr (.inr (va_up (fun _ => none) 0 (some q3)))))))]) (w1 := [(sh, .inr (13, [.ref rg, .ref dk, .ref hd, .ref lg, .ref pl, .ref pr, .int 0, .int 0, .int 0, .int 0, .int 0, .int 0, .int 0, .int 0, .int 0, .int 0, .int 0])), (hd, .inr (6, [.ref hu, .ref hy, .int 1]))]) (t1 := []) hP hD hK [0, 5, 1, 2, 3] [4, 6, 7] rfl rfl (by decide) (by decide) hk1 hFc ht hvm hB
  generalize H1 = H at hP hS ⊢
  have hP : va_P (dC, dI) vwCl [(x, .inr (15, [.ref sh, .ref tl, .ref tw, .int 0])), (tl, .inr (3, [.int (0 + 1), .ref q4, .int 1])), (q4, .inl (cA5, 10, .inr (.inr (.inr (.inr (va_up (fun _ => none) 0 (some q3))))))), (sh, .inr (13, [.ref rg, .ref dk, .ref hd, .ref lg, .ref pl, .ref pr, .int 0, .int 0, .int 0, .int 0, .int 0, .int 0, .int 0, .int 0, .int 0, .int 0, .int 0])), (hd, .inr (6, [.ref hu, .ref hy, .int 1]))] H := hP
  have hD : va_D A [(x, .inr (15, [.ref sh, .ref tl, .ref tw, .int 0])), (tl, .inr (3, [.int (0 + 1), .ref q4, .int 1])), (q4, .inl (cA5, 10, .inr (.inr (.inr (.inr (va_up (fun _ => none) 0 (some q3))))))), (sh, .inr (13, [.ref rg, .ref dk, .ref hd, .ref lg, .ref pl, .ref pr, .int 0, .int 0, .int 0, .int 0, .int 0, .int 0, .int 0, .int 0, .int 0, .int 0, .int 0])), (hd, .inr (6, [.ref hu, .ref hy, .int 1]))] := hD
  have hK : va_K (dC, dI) vwCl [(cU, .int), (cW, .boolean), (cA5, .object "java/lang/Object")] s := hK
  clear hw
  refine lv_aload_n hx hb dX11_stow_70 rfl (lv_at hl 0 rfl) ?_
  refine va_get (D := (dC, dI)) (ci := 15) (v := .ref sh) (C := RX11) (T := TX11) (N := 4) hx hb hts hiX11 hown hK hP 0 rfl rfl 0 (by decide) (hts (.fieldLink RX11 10 "SquareRig" "ship" "LSquareRig$Ship;") (by decide +kernel)) (fun _ h9 => h9) rfl dX11_stow_71 ?_
  refine va_getN (D := (dC, dI)) (ci := 13) (v := .ref hd) (C := RX9) (T := TX9) (N := 17) hx hb hts hiX9 hown hK hP 3 rfl rfl 2 (by decide) (va_Nw.use rfl (hM.1 _ (List.mem_of_getElem? (i := 38) rfl))) (fun _ h9 => h9) rfl dX11_stow_74 ?_
  refine va_getN (D := (dC, dI)) (ci := 6) (v := .int 1) (C := RX2) (T := TX2) (N := 3) hx hb hts hiX2 hown hK hP 4 rfl rfl 2 (by decide) (va_Nw.use rfl (hM.1 _ (List.mem_of_getElem? (i := 30) rfl))) (fun _ h9 => h9) rfl dX11_stow_77 ?_
  refine W.widen (k := 2) (n := 14) (Nat.le_of_ble_eq_true rfl) (Nat.le_of_ble_eq_true rfl) ?_
  exact W.iret (v := 1) hx hb hr (fun t ht hW => ⟨⟨1, (), rfl, rfl, kB_end (w9 := []) (t9 := []) hP hK hD [] [] rfl (by decide) rfl rfl t ht hW⟩, hS.F ht⟩) hS.2.2 dX11_stow_80
abbrev wd_k_l_stowg1 (z : Nat → Nat) (sh : Nat) (rg : Nat) (dk : Nat) (hd : Nat) (hu : Nat) (hy : Nat) (lg : Nat) (pl : Nat) (pr : Nat) (cU : ClassId) (cW : ClassId) (x : Nat) (tl : Nat) (tw : Nat) (p0 : Int32) (ou : Nat) (co : ClassId) (of_ : Nat → Int64) : va_W := [(x, .inr (15, [.ref sh, .ref tl, .ref tw, .int 0])), (tl, .inr (3, [.int 0, .ref (z 0), .int 0])), (sh, .inr (13, [.ref rg, .ref dk, .ref hd, .ref lg, .ref pl, .ref pr, .int 0, .int 0, .int 0, .int 0, .int 0, .int 0, .int 0, .int 0, .int 0, .int 0, .int 0])), (hd, .inr (6, [.ref hu, .ref hy, .int 0])), (hu, .inl (cU, 20, .inl (fun _ => 0))), (hy, .inl (cW, 20, .inl (fun _ => 0))), (ou, .inl (co, 1, .inr (.inl of_)))]
set_option maxHeartbeats 4000000 in
set_option maxRecDepth 100000 in
theorem k_l_stowg1 (l : Launch) (dC : Nat → ClassId) (dI : Nat → Nat → Nat) (z zK zV : Nat → Nat) (sh : Nat) (rg : Nat) (dk : Nat) (hd : Nat) (hu : Nat) (hy : Nat) (lg : Nat) (pl : Nat) (pr : Nat) (cU : ClassId) (cW : ClassId) (x : Nat) (tl : Nat) (tw : Nat) (p0 : Int32) (ou : Nat) (co : ClassId) (of_ : Nat → Int64) (sz : Nat) (hg0 : (1 : Int32) ≤ p0 ∧ p0 ≤ 500) : Met l yL_stow wsL_stow ({ frames := 7, cells := 2, slots := 14, locals := 148 }) (kP dC dI z zK zV [.ref x, .int 1, .int p0, .ref ou] sz (wd_k_l_stowg1 z sh rg dk hd hu hy lg pl pr cU cW x tl tw p0 ou co of_) [(cU, .int), (cW, .boolean), (co, .long)]) (va_Qi (fun (r : Int32) (_ : Unit) => 0 = r) (fun _ t => kB (dC, dI) (va_A (wd_k_l_stowg1 z sh rg dk hd hu hy lg pl pr cU cW x tl tw p0 ou co of_) sz) [(ou, .inl (co, 1, .inr (.inl (vp_updL of_ 0 1))))] [] t) (va_A (wd_k_l_stowg1 z sh rg dk hd hu hy lg pl pr cU cW x tl tw p0 ou co of_) sz)) 2 14 (va_A (wd_k_l_stowg1 z sh rg dk hd hu hy lg pl pr cU cW x tl tw p0 ou co of_) sz) := by
  refine va_MetW (hh := [(0, 10, 13, 13), (0, 10, 17, 27)]) (cc := cL_stow) (maxL := 5) (ret := (some .int)) (by decide) rfl ?_
  intro p e s m args below meth c s₁ B hml hv
  obtain ⟨rfl, hsz, hP, hK, hD0, hM⟩ := hv
  have hx := B.exec
  have hb := B.bytes
  have hr := B.returns
  have hts := atoms_spec (ws := wsL_stow) B.pre
  have hown : s.vm.findClass RL = some m.cls := findClass_of_methodNamed B.named
  have hlocks := B.notSynchronized
  have htab := vx_table (x := yL_stow) B (hts _ List.mem_cons_self)
  subst hsz
  have hD := hD0.self (sz := s.heap.size)
  generalize hAe : va_A (wd_k_l_stowg1 z sh rg dk hd hu hy lg pl pr cU cW x tl tw p0 ou co of_) s.heap.size = A at hD hM ⊢
  have hA : ∀ q : Nat, s.heap.size ≤ q → A q := fun q h => by rw [← hAe]; exact Or.inr h
  have hS : va_S A s.heap s.heap [] := va_S.rf
  have hP : va_P (dC, dI) vwCl [(x, .inr (15, [.ref sh, .ref tl, .ref tw, .int 0])), (tl, .inr (3, [.int 0, .ref (z 0), .int 0])), (sh, .inr (13, [.ref rg, .ref dk, .ref hd, .ref lg, .ref pl, .ref pr, .int 0, .int 0, .int 0, .int 0, .int 0, .int 0, .int 0, .int 0, .int 0, .int 0, .int 0])), (hd, .inr (6, [.ref hu, .ref hy, .int 0])), (hu, .inl (cU, 20, .inl (fun _ => 0))), (hy, .inl (cW, 20, .inl (fun _ => 0))), (ou, .inl (co, 1, .inr (.inl of_)))] s.heap := hP
  have hD : va_D A [(x, .inr (15, [.ref sh, .ref tl, .ref tw, .int 0])), (tl, .inr (3, [.int 0, .ref (z 0), .int 0])), (sh, .inr (13, [.ref rg, .ref dk, .ref hd, .ref lg, .ref pl, .ref pr, .int 0, .int 0, .int 0, .int 0, .int 0, .int 0, .int 0, .int 0, .int 0, .int 0, .int 0])), (hd, .inr (6, [.ref hu, .ref hy, .int 0])), (hu, .inl (cU, 20, .inl (fun _ => 0))), (hy, .inl (cW, 20, .inl (fun _ => 0))), (ou, .inl (co, 1, .inr (.inl of_)))] := hD
  have hl := lv_entry ([.ref x, .int 1, .int p0, .ref ou]) (n := 5) (Nat.le_of_ble_eq_true rfl)
  rw [lg_entry_eq]
  generalize (lg_sl ([.ref x, .int 1, .int p0, .ref ou]) ++ List.replicate (5 - (lg_sl ([.ref x, .int 1, .int p0, .ref ou])).length) Slot.unset).toArray = ls at hl ⊢
  have hl : lv_has ls 5 [(0, .ref x), (1, .int 1), (2, .int p0), (3, .ref ou)] := hl
  refine lv_aload_n hx hb dL_stow_0 rfl (lv_at hl 3 rfl) ?_
  refine lv_iconst (v := 0) hx hb dL_stow_1 (by decide) ?_
  refine lv_aload_n hx hb dL_stow_2 rfl (lv_at hl 0 rfl) ?_
  refine lv_iload_n hx hb dL_stow_3 rfl (lv_at hl 1 rfl) ?_
  refine lv_iload_n hx hb dL_stow_4 rfl (lv_at hl 2 rfl) ?_
  have hPc := hP.sub (ws' := [(x, .inr (15, [.ref sh, .ref tl, .ref tw, .int 0])), (tl, .inr (3, [.int 0, .ref (z 0), .int 0])), (sh, .inr (13, [.ref rg, .ref dk, .ref hd, .ref lg, .ref pl, .ref pr, .int 0, .int 0, .int 0, .int 0, .int 0, .int 0, .int 0, .int 0, .int 0, .int 0, .int 0])), (hd, .inr (6, [.ref hu, .ref hy, .int 0])), (hu, .inl (cU, 20, .inl (fun _ => 0))), (hy, .inl (cW, 20, .inl (fun _ => 0)))]) [0, 1, 2, 3, 4, 5] rfl
  have hDc := hD.sub (ws' := [(x, .inr (15, [.ref sh, .ref tl, .ref tw, .int 0])), (tl, .inr (3, [.int 0, .ref (z 0), .int 0])), (sh, .inr (13, [.ref rg, .ref dk, .ref hd, .ref lg, .ref pl, .ref pr, .int 0, .int 0, .int 0, .int 0, .int 0, .int 0, .int 0, .int 0, .int 0, .int 0, .int 0])), (hd, .inr (6, [.ref hu, .ref hy, .int 0])), (hu, .inl (cU, 20, .inl (fun _ => 0))), (hy, .inl (cW, 20, .inl (fun _ => 0)))]) [0, 1, 2, 3, 4, 5] (by decide) rfl
  have hKc := hK.sub (tys' := [(cU, .int), (cW, .boolean)]) [0, 1] rfl
  have hFc := va_free (wc := [(x, .inr (15, [.ref sh, .ref tl, .ref tw, .int 0])), (tl, .inr (3, [.int 0, .ref (z 0), .int 0])), (sh, .inr (13, [.ref rg, .ref dk, .ref hd, .ref lg, .ref pl, .ref pr, .int 0, .int 0, .int 0, .int 0, .int 0, .int 0, .int 0, .int 0, .int 0, .int 0, .int 0])), (hd, .inr (6, [.ref hu, .ref hy, .int 0])), (hu, .inl (cU, 20, .inl (fun _ => 0))), (hy, .inl (cW, 20, .inl (fun _ => 0)))]) hD hS hA [0, 1, 2, 3, 4, 5] rfl
  refine va_calli (va_runV (As := [.int 1, .int p0]) (rest := [.int 0, .ref ou]) ⟨hx, hb, hml, hown, hts⟩ (k_x_stowg1 l dC dI z zK zV sh rg dk hd hu hy lg pl pr cU cW x tl tw p0 s.heap.size (hg0)) (cwV 2 hts gL_stow_X11_stow rfl rfl rfl (by decide +kernel) ⟨Nat.le_of_ble_eq_true rfl, Nat.le_of_ble_eq_true rfl⟩) ⟨kP_blind, va_recv hKc hPc (ci := 15) (q0 := 0) rfl rfl, kP_go hPc hKc hDc hFc hM hS⟩ rfl rfl hl.1 rfl (lv_room (Nat.le_of_ble_eq_true rfl)) dL_stow_5 ⟨Nat.le_of_ble_eq_true rfl, Nat.le_of_ble_eq_true rfl⟩) hS (fun q _ h => hFc q h) hFc (fun r1 u t H1 locs ht hvm hw hB hz1 hk1 hS => ?_)
  obtain ⟨hP, hD, hK⟩ := kJ (wr := [(ou, .inl (co, 1, .inr (.inl of_)))]) (w1 := []) (t1 := []) hP hD hK [0, 1, 2, 3, 4, 5] [6] rfl rfl (by decide) (by decide) hk1 hFc ht hvm hB
  generalize H1 = H at hP hS ⊢
  have hP : va_P (dC, dI) vwCl [(ou, .inl (co, 1, .inr (.inl of_)))] H := hP
  have hD : va_D A [(ou, .inl (co, 1, .inr (.inl of_)))] := hD
  have hK : va_K (dC, dI) vwCl [(cU, .int), (cW, .boolean), (co, .long)] s := hK
  obtain rfl : 1 = r1 := hw
  refine lv_i2l (v := 1) hx hb dL_stow_8 (by decide +kernel) ?_
  refine va_last hx hb hK hP hD hS 0 2 rfl rfl (pk_in 0 1 (by decide) rfl) dL_stow_9 (fun H locs hP hD hS => ?_)
  have hP : va_P (dC, dI) vwCl [(ou, .inl (co, 1, .inr (.inl (vp_updL of_ 0 1))))] H := hP
  have hD : va_D A [(ou, .inl (co, 1, .inr (.inl (vp_updL of_ 0 1))))] := hD
  refine lv_goto (tgt := 21) hx hb dL_stow_10 (by decide) ?_
  refine lv_iconst (v := 0) hx hb dL_stow_21 (by decide) ?_
  refine W.widen (k := 2) (n := 14) (Nat.le_of_ble_eq_true rfl) (Nat.le_of_ble_eq_true rfl) ?_
  exact W.iret (v := 0) hx hb hr (fun t ht hW => ⟨⟨0, (), rfl, rfl, kB_end (w9 := [(ou, .inl (co, 1, .inr (.inl (vp_updL of_ 0 1))))]) (t9 := []) hP hK hD [0] [] rfl (by decide) rfl rfl t ht hW⟩, hS.F ht⟩) hS.2.2 dL_stow_22
