def wnX11_jettison : List Cond := .code yX11_jettison cX11_jettison 2 (some .int) :: ([.classLink RX11 155 "java/util/NoSuchElementException", .initialized "java/util/NoSuchElementException", .fieldLink RX11 10 "SquareRig" "ship" "LSquareRig$Ship;"] ++ wsX110 ++ wsX90 ++ wsX20 ++ vn_at.filter goodWord)
def wnL_jettison : List Cond := .codeWith yL_jettison cL_jettison 3 (some .int) [(0, 8, 11, 57)] :: ([.classLink RL 57 "java/util/NoSuchElementException"] ++ wsV RL 53 RX11 yX11_jettison wnX11_jettison)
theorem gn_jettison : GoodIn wnL_jettison (wsV RL 53 RX11 yX11_jettison wnX11_jettison) := goodIn_sub (fun _ h => List.mem_cons_of_mem _ (List.mem_append_right _ h)) (by decide +kernel)
theorem dX11_jettison_0 : decode cX11_jettison 0 = .ok (.aload_n 0, 1) := by decide +kernel
theorem dX11_jettison_1 : decode cX11_jettison 1 = .ok (.getfield 10, 3) := by decide +kernel
theorem dX11_jettison_4 : decode cX11_jettison 4 = .ok (.getfield 138, 3) := by decide +kernel
theorem dX11_jettison_7 : decode cX11_jettison 7 = .ok (.getfield 142, 3) := by decide +kernel
theorem dX11_jettison_10 : decode cX11_jettison 10 = .ok (.iconst 1, 1) := by decide +kernel
theorem dX11_jettison_11 : decode cX11_jettison 11 = .ok (.if_icmp .ge 13, 3) := by decide +kernel
theorem dX11_jettison_14 : decode cX11_jettison 14 = .ok (.new 155, 3) := by decide +kernel
theorem dX11_jettison_17 : decode cX11_jettison 17 = .ok (.dup, 1) := by decide +kernel
theorem dX11_jettison_18 : decode cX11_jettison 18 = .ok (.ldc 157, 2) := by decide +kernel
theorem dX11_jettison_20 : decode cX11_jettison 20 = .ok (.invokespecial 159, 3) := by decide +kernel
theorem dX11_jettison_23 : decode cX11_jettison 23 = .ok (.athrow, 1) := by decide +kernel
theorem dL_jettison_0 : decode cL_jettison 0 = .ok (.aload_n 1, 1) := by decide +kernel
theorem dL_jettison_1 : decode cL_jettison 1 = .ok (.iconst 0, 1) := by decide +kernel
theorem dL_jettison_2 : decode cL_jettison 2 = .ok (.aload_n 0, 1) := by decide +kernel
theorem dL_jettison_3 : decode cL_jettison 3 = .ok (.invokevirtual 53, 3) := by decide +kernel
theorem dL_jettison_11 : decode cL_jettison 11 = .ok (.astore_n 2, 1) := by decide +kernel
theorem dL_jettison_12 : decode cL_jettison 12 = .ok (.iconst 1, 1) := by decide +kernel
theorem dL_jettison_13 : decode cL_jettison 13 = .ok (.ireturn, 1) := by decide +kernel
abbrev wd_k_x_jettison (z : Nat → Nat) (sh : Nat) (rg : Nat) (dk : Nat) (hd : Nat) (hu : Nat) (hy : Nat) (lg : Nat) (pl : Nat) (pr : Nat) (x : Nat) (tl : Nat) (tw : Nat) : va_W := [(x, .inr (15, [.ref sh, .ref tl, .ref tw, .int 0])), (sh, .inr (13, [.ref rg, .ref dk, .ref hd, .ref lg, .ref pl, .ref pr, .int 0, .int 0, .int 0, .int 0, .int 0, .int 0, .int 0, .int 0, .int 0, .int 0, .int 0])), (hd, .inr (6, [.ref hu, .ref hy, .int 0]))]
set_option maxHeartbeats 4000000 in
set_option maxRecDepth 100000 in
theorem k_x_jettison (l : Launch) (dC : Nat → ClassId) (dI : Nat → Nat → Nat) (z zK zV : Nat → Nat) (sh : Nat) (rg : Nat) (dk : Nat) (hd : Nat) (hu : Nat) (hy : Nat) (lg : Nat) (pl : Nat) (pr : Nat) (x : Nat) (tl : Nat) (tw : Nat) (sz : Nat) (hst : l.stackTraces = false)  : vx_Met l yX11_jettison wnX11_jettison ({ frames := 6, cells := 1, slots := 6, locals := 82 }) (kP dC dI z zK zV [.ref x] sz (wd_k_x_jettison z sh rg dk hd hu hy lg pl pr x tl tw) []) (va_Qi (fun (r : Int32) (_ : Unit) => False) (fun _ t => kB (dC, dI) (va_A (wd_k_x_jettison z sh rg dk hd hu hy lg pl pr x tl tw) sz) [] [] t) (va_A (wd_k_x_jettison z sh rg dk hd hu hy lg pl pr x tl tw) sz)) (vx_X (fun _ : Unit => True) (fun E _ _ => "java/util/NoSuchElementException" = E) (va_A (wd_k_x_jettison z sh rg dk hd hu hy lg pl pr x tl tw) sz)) 1 6 (va_A (wd_k_x_jettison z sh rg dk hd hu hy lg pl pr x tl tw) sz) := by
  refine vx_ofW (cc := cX11_jettison) (maxL := 2) (ret := (some .int)) (by decide) rfl ?_
  intro p e s m args below meth c s₁ B hml hnt hv
  obtain ⟨rfl, hsz, hP, hK, hD0, hM⟩ := hv
  have hx := B.exec
  have hb := B.bytes
  have hr := B.returns
  have hts := atoms_spec (ws := wnX11_jettison) B.pre
  have hown : s.vm.findClass RX11 = some m.cls := findClass_of_methodNamed B.named
  have hlocks := B.notSynchronized
  have hiX11 : ∀ w ∈ u_ws RX11 TX11 4, w ∈ wnX11_jettison := by decide +kernel
  have hiX9 : ∀ w ∈ u_ws RX9 TX9 17, w ∈ wnX11_jettison := by decide +kernel
  have hiX2 : ∀ w ∈ u_ws RX2 TX2 3, w ∈ wnX11_jettison := by decide +kernel
  subst hsz
  have hD := hD0.self (sz := s.heap.size)
  generalize hAe : va_A (wd_k_x_jettison z sh rg dk hd hu hy lg pl pr x tl tw) s.heap.size = A at hD hM ⊢
  have hA : ∀ q : Nat, s.heap.size ≤ q → A q := fun q h => by rw [← hAe]; exact Or.inr h
  have hS : va_S A s.heap s.heap [] := va_S.rf
  have hP : va_P (dC, dI) vwCl [(x, .inr (15, [.ref sh, .ref tl, .ref tw, .int 0])), (sh, .inr (13, [.ref rg, .ref dk, .ref hd, .ref lg, .ref pl, .ref pr, .int 0, .int 0, .int 0, .int 0, .int 0, .int 0, .int 0, .int 0, .int 0, .int 0, .int 0])), (hd, .inr (6, [.ref hu, .ref hy, .int 0]))] s.heap := hP
  have hD : va_D A [(x, .inr (15, [.ref sh, .ref tl, .ref tw, .int 0])), (sh, .inr (13, [.ref rg, .ref dk, .ref hd, .ref lg, .ref pl, .ref pr, .int 0, .int 0, .int 0, .int 0, .int 0, .int 0, .int 0, .int 0, .int 0, .int 0, .int 0])), (hd, .inr (6, [.ref hu, .ref hy, .int 0]))] := hD
  have hl := lv_entry ([.ref x]) (n := 2) (Nat.le_of_ble_eq_true rfl)
  rw [lg_entry_eq]
  generalize (lg_sl ([.ref x]) ++ List.replicate (2 - (lg_sl ([.ref x])).length) Slot.unset).toArray = ls at hl ⊢
  have hl : lv_has ls 2 [(0, .ref x)] := hl
  refine lv_aload_n hx hb dX11_jettison_0 rfl (lv_at hl 0 rfl) ?_
  refine va_get (D := (dC, dI)) (ci := 15) (v := .ref sh) (C := RX11) (T := TX11) (N := 4) hx hb hts hiX11 hown hK hP 0 rfl rfl 0 (by decide) (hts (.fieldLink RX11 10 "SquareRig" "ship" "LSquareRig$Ship;") (by decide +kernel)) (fun _ h9 => h9) rfl dX11_jettison_1 ?_
  refine va_getN (D := (dC, dI)) (ci := 13) (v := .ref hd) (C := RX9) (T := TX9) (N := 17) hx hb hts hiX9 hown hK hP 1 rfl rfl 2 (by decide) (va_Nw.use rfl (hM.1 _ (List.mem_of_getElem? (i := 38) rfl))) (fun _ h9 => h9) rfl dX11_jettison_4 ?_
  refine va_getN (D := (dC, dI)) (ci := 6) (v := .int 0) (C := RX2) (T := TX2) (N := 3) hx hb hts hiX2 hown hK hP 2 rfl rfl 2 (by decide) (va_Nw.use rfl (hM.1 _ (List.mem_of_getElem? (i := 30) rfl))) (fun _ h9 => h9) rfl dX11_jettison_7 ?_
  refine lv_iconst (v := 1) hx hb dX11_jettison_10 (by decide) ?_
  refine lv_icmp_ge (tgt := 24) hx hb dX11_jettison_11 (by decide) (fun c_ => absurd c_ (by decide +kernel)) (fun _ => ?_)
  obtain ⟨sa, hsa⟩ := hM.2.1 _ (List.mem_of_getElem? (i := 11) rfl)
  exact vn_throwS (text := "there is no cask") (is := 157) (mc := 1) (ms := 6) (sa := sa) hx hb hst hown (hts (.classLink RX11 155 "java/util/NoSuchElementException") (by decide +kernel)) (hts (.initialized "java/util/NoSuchElementException") (by decide +kernel)) hsa (vx_hat (fun w h9 => hts w (List.mem_cons_of_mem _ (List.mem_append_right _ h9))) (by decide +kernel) (fun w hw => va_Nw.use (List.all_eq_true.mp am_Bt w hw) (hM.2.2.2.2.2.2.2.2.2.1 w hw))) hM.2.2.2.2.2.2.2.1.1 hM.2.2.2.2.2.2.2.1.2 hS (hl.1.trans hml.symm) dX11_jettison_14 dX11_jettison_17 dX11_jettison_18 dX11_jettison_20 dX11_jettison_23 (fun x hx => (hnt x hx).elim) (Nat.le_of_ble_eq_true rfl) (Nat.le_of_ble_eq_true rfl) (Nat.le_of_ble_eq_true rfl) (Nat.le_of_ble_eq_true rfl) hlocks (fun t hvm hz hq => ⟨(), trivial, rfl, Nat.le_trans hS.1 hz, fun q h1 h2 => (hq q (Nat.lt_of_lt_of_le h1 hS.1)).trans (hS.2.1 q h1 h2)⟩) hS.2.2 (Nat.le_of_ble_eq_true rfl) (Nat.le_of_ble_eq_true rfl)
abbrev wd_k_l_jettison (z : Nat → Nat) (sh : Nat) (rg : Nat) (dk : Nat) (hd : Nat) (hu : Nat) (hy : Nat) (lg : Nat) (pl : Nat) (pr : Nat) (x : Nat) (tl : Nat) (tw : Nat) (ou : Nat) (co : ClassId) (of_ : Nat → Int64) : va_W := [(x, .inr (15, [.ref sh, .ref tl, .ref tw, .int 0])), (sh, .inr (13, [.ref rg, .ref dk, .ref hd, .ref lg, .ref pl, .ref pr, .int 0, .int 0, .int 0, .int 0, .int 0, .int 0, .int 0, .int 0, .int 0, .int 0, .int 0])), (hd, .inr (6, [.ref hu, .ref hy, .int 0])), (ou, .inl (co, 1, .inr (.inl of_)))]
set_option maxHeartbeats 4000000 in
set_option maxRecDepth 100000 in
theorem k_l_jettison (l : Launch) (dC : Nat → ClassId) (dI : Nat → Nat → Nat) (z zK zV : Nat → Nat) (sh : Nat) (rg : Nat) (dk : Nat) (hd : Nat) (hu : Nat) (hy : Nat) (lg : Nat) (pl : Nat) (pr : Nat) (x : Nat) (tl : Nat) (tw : Nat) (ou : Nat) (co : ClassId) (of_ : Nat → Int64) (sz : Nat) (hst : l.stackTraces = false)  : Met l yL_jettison wnL_jettison ({ frames := 7, cells := 1, slots := 6, locals := 103 }) (kP dC dI z zK zV [.ref x, .ref ou] sz (wd_k_l_jettison z sh rg dk hd hu hy lg pl pr x tl tw ou co of_) [(co, .long)]) (va_Qi (fun (r : Int32) (_ : Unit) => 1 = r) (fun _ t => kB (dC, dI) (va_A (wd_k_l_jettison z sh rg dk hd hu hy lg pl pr x tl tw ou co of_) sz) [] [] t) (va_A (wd_k_l_jettison z sh rg dk hd hu hy lg pl pr x tl tw ou co of_) sz)) 1 6 (va_A (wd_k_l_jettison z sh rg dk hd hu hy lg pl pr x tl tw ou co of_) sz) := by
  refine va_MetW (hh := [(0, 8, 11, 57)]) (cc := cL_jettison) (maxL := 3) (ret := (some .int)) (by decide) rfl ?_
  intro p e s m args below meth c s₁ B hml hv
  obtain ⟨rfl, hsz, hP, hK, hD0, hM⟩ := hv
  have hx := B.exec
  have hb := B.bytes
  have hr := B.returns
  have hts := atoms_spec (ws := wnL_jettison) B.pre
  have hown : s.vm.findClass RL = some m.cls := findClass_of_methodNamed B.named
  have hlocks := B.notSynchronized
  have htab := vx_table (x := yL_jettison) B (hts _ List.mem_cons_self)
  subst hsz
  have hD := hD0.self (sz := s.heap.size)
  generalize hAe : va_A (wd_k_l_jettison z sh rg dk hd hu hy lg pl pr x tl tw ou co of_) s.heap.size = A at hD hM ⊢
  have hA : ∀ q : Nat, s.heap.size ≤ q → A q := fun q h => by rw [← hAe]; exact Or.inr h
  have hS : va_S A s.heap s.heap [] := va_S.rf
  have hP : va_P (dC, dI) vwCl [(x, .inr (15, [.ref sh, .ref tl, .ref tw, .int 0])), (sh, .inr (13, [.ref rg, .ref dk, .ref hd, .ref lg, .ref pl, .ref pr, .int 0, .int 0, .int 0, .int 0, .int 0, .int 0, .int 0, .int 0, .int 0, .int 0, .int 0])), (hd, .inr (6, [.ref hu, .ref hy, .int 0])), (ou, .inl (co, 1, .inr (.inl of_)))] s.heap := hP
  have hD : va_D A [(x, .inr (15, [.ref sh, .ref tl, .ref tw, .int 0])), (sh, .inr (13, [.ref rg, .ref dk, .ref hd, .ref lg, .ref pl, .ref pr, .int 0, .int 0, .int 0, .int 0, .int 0, .int 0, .int 0, .int 0, .int 0, .int 0, .int 0])), (hd, .inr (6, [.ref hu, .ref hy, .int 0])), (ou, .inl (co, 1, .inr (.inl of_)))] := hD
  have hl := lv_entry ([.ref x, .ref ou]) (n := 3) (Nat.le_of_ble_eq_true rfl)
  rw [lg_entry_eq]
  generalize (lg_sl ([.ref x, .ref ou]) ++ List.replicate (3 - (lg_sl ([.ref x, .ref ou])).length) Slot.unset).toArray = ls at hl ⊢
  have hl : lv_has ls 3 [(0, .ref x), (1, .ref ou)] := hl
  refine lv_aload_n hx hb dL_jettison_0 rfl (lv_at hl 1 rfl) ?_
  refine lv_iconst (v := 0) hx hb dL_jettison_1 (by decide) ?_
  refine lv_aload_n hx hb dL_jettison_2 rfl (lv_at hl 0 rfl) ?_
  have hPc := hP.sub (ws' := [(x, .inr (15, [.ref sh, .ref tl, .ref tw, .int 0])), (sh, .inr (13, [.ref rg, .ref dk, .ref hd, .ref lg, .ref pl, .ref pr, .int 0, .int 0, .int 0, .int 0, .int 0, .int 0, .int 0, .int 0, .int 0, .int 0, .int 0])), (hd, .inr (6, [.ref hu, .ref hy, .int 0]))]) [0, 1, 2] rfl
  have hDc := hD.sub (ws' := [(x, .inr (15, [.ref sh, .ref tl, .ref tw, .int 0])), (sh, .inr (13, [.ref rg, .ref dk, .ref hd, .ref lg, .ref pl, .ref pr, .int 0, .int 0, .int 0, .int 0, .int 0, .int 0, .int 0, .int 0, .int 0, .int 0, .int 0])), (hd, .inr (6, [.ref hu, .ref hy, .int 0]))]) [0, 1, 2] (by decide) rfl
  have hKc := hK.sub (tys' := []) [] rfl
  have hFc := va_free (wc := [(x, .inr (15, [.ref sh, .ref tl, .ref tw, .int 0])), (sh, .inr (13, [.ref rg, .ref dk, .ref hd, .ref lg, .ref pl, .ref pr, .int 0, .int 0, .int 0, .int 0, .int 0, .int 0, .int 0, .int 0, .int 0, .int 0, .int 0])), (hd, .inr (6, [.ref hu, .ref hy, .int 0]))]) hD hS hA [0, 1, 2] rfl
  refine vx_calli (vx_runV (As := []) (rest := [.int 0, .ref ou]) ⟨hx, hb, hml, hown, hts⟩ (k_x_jettison l dC dI z zK zV sh rg dk hd hu hy lg pl pr x tl tw s.heap.size hst) (cwV 0 hts gn_jettison rfl rfl rfl (by decide +kernel) ⟨Nat.le_of_ble_eq_true rfl, Nat.le_of_ble_eq_true rfl⟩) ⟨kP_blind, va_recv hKc hPc (ci := 15) (q0 := 0) rfl rfl, kP_go hPc hKc hDc hFc hM hS⟩ rfl rfl hl.1 rfl (lv_room (Nat.le_of_ble_eq_true rfl)) dL_jettison_3 ⟨Nat.le_of_ble_eq_true rfl, Nat.le_of_ble_eq_true rfl⟩) hS (fun q _ h => hFc q h) hFc (fun q _ h => hFc q h) (fun E ce q9 u t H1 locs ht hvm hpx hbx hz1 hk1 hS hcell hcv hcl => ?_) (fun r1 u t H1 locs ht hvm hw hB hz1 hk1 hS => ?_)
  · skip
    obtain rfl : "java/util/NoSuchElementException" = E := hbx
    obtain ⟨hP, hD, hK⟩ := kJ (wr := [(ou, .inl (co, 1, .inr (.inl of_)))]) (w1 := []) (t1 := []) hP hD hK [0, 1, 2] [3] rfl rfl (by decide) (by decide) hk1 hFc ht hvm (kB_nil t (va_K.moved hvm (hK.sub (tys' := []) [] rfl)))
    generalize H1 = H at hP hS hcell ⊢
    have hP : va_P (dC, dI) vwCl [(ou, .inl (co, 1, .inr (.inl of_)))] H := hP
    have hD : va_D A [(ou, .inl (co, 1, .inr (.inl of_)))] := hD
    have hK : va_K (dC, dI) vwCl [(co, .long)] s := hK
    refine vx_catch hown [] ⟨0, 8, 11, 57⟩ _ (htab.trans rfl) (fun z hz => absurd hz List.not_mem_nil) rfl (by decide) (hts (.classLink RL 57 "java/util/NoSuchElementException") (by decide +kernel)) (va_Nw.use rfl (hM.2.2.2.2.2.2.2.2.2.1 _ (List.mem_of_getElem? (i := 2) rfl))) hcell hcv hcl ?_
    refine lv_astore_n (lv' := [(2, .ref q9), (0, .ref x), (1, .ref ou)]) hx hb dL_jettison_11 rfl hl (by decide) rfl (fun ls hl => ?_)
    refine lv_iconst (v := 1) hx hb dL_jettison_12 (by decide) ?_
    refine W.widen (k := 1) (n := 6) (Nat.le_of_ble_eq_true rfl) (Nat.le_of_ble_eq_true rfl) ?_
    exact W.iret (v := 1) hx hb hr (fun t ht hW => ⟨⟨1, (), rfl, rfl, kB_end (w9 := []) (t9 := []) hP hK hD [] [] rfl (by decide) rfl rfl t ht hW⟩, hS.F ht⟩) hS.2.2 dL_jettison_13
  · skip
    exact hw.elim
