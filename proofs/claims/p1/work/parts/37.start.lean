
def am_fl : List Cond := flatC (Jvm.Cond.and given_1 narrow_1)
def am_tm (i : Nat) : Term := Term.string "SquareRigModel" (am_lit.getD i (0, "")).1
def am_tt (k : Nat) : Term := Term.static (am_tC k).1 (am_tC k).2 "[I"
theorem am_Wt : am_W.all (fun w => w.onTables) = true := by decide +kernel
theorem am_Wi : ∀ w ∈ am_W, w ∈ lw_tbl := by decide +kernel
theorem am_Bi : ∀ w ∈ am_Bw, w ∈ lw_tbl := by decide +kernel
theorem am_s1 : ∀ i, i < 5 → Cond.exactly (am_tm i) "java/lang/String" ∈ am_fl := by decide +kernel
theorem am_s2 : ∀ i, i < 5 → Cond.eq (.field (am_tm i) "java/lang/String" "coder" "B") (.int 0) ∈ am_fl := by decide +kernel
theorem am_s3 : ∀ i, i < 5 → Cond.arrayOf (.field (am_tm i) "java/lang/String" "value" "[B") .byte ∈ am_fl := by decide +kernel
theorem am_s4 : ∀ i, i < 5 → Cond.eq (.length (.field (am_tm i) "java/lang/String" "value" "[B")) (.int (Int32.ofNat (am_len.getD i 0))) ∈ am_fl := by decide +kernel
theorem am_s5 : ∀ i, i < 5 → ∀ j, j < am_len.getD i 0 → Cond.eq (.elem (.field (am_tm i) "java/lang/String" "value" "[B") (.int (Int32.ofNat j))) (.int ((am_byt.getD i []).getD j 0)) ∈ am_fl := by decide +kernel
theorem am_s6 : ∀ i, i < 5 → ∀ j, j < 5 → i ≠ j → Cond.not (Cond.eq (am_tm i) (am_tm j)) ∈ am_fl ∨ Cond.not (Cond.eq (am_tm j) (am_tm i)) ∈ am_fl := by decide +kernel
theorem am_s7 : ∀ i, i < 5 → Cond.stringRef "SquareRigModel" (am_lit.getD i (0, "")).1 (am_lit.getD i (0, "")).2 ∈ lw_tbl := by decide +kernel
theorem am_r1 : ∀ q ∈ am_M, Cond.stringRef "SquareRig" q.1 q.2 ∈ lw_tbl ∧ Cond.exactly (.string "SquareRig" q.1) "java/lang/String" ∈ am_fl := by decide +kernel
theorem am_t0 : ∀ k, k < 4 → (am_tb k).length < 2 ^ 31 := by decide +kernel
theorem am_t1 : ∀ k, k < 4 → 1 ≤ k → Cond.arrayOf (am_tt k) .int ∈ am_fl := by decide +kernel
theorem am_t2 : ∀ k, k < 4 → 1 ≤ k → Cond.eq (.length (am_tt k)) (.int (Int32.ofNat (am_tb k).length)) ∈ am_fl := by decide +kernel
theorem am_t3 : ∀ k, k < 4 → 1 ≤ k → ∀ j, j < (am_tb k).length → Cond.eq (.elem (am_tt k) (.int (Int32.ofNat j))) (.int ((am_tb k).getD j 0)) ∈ am_fl := by decide +kernel
theorem am_t4 : ∀ k, k < 4 → 1 ≤ k → Cond.laysStatic (am_tC k).1 (am_tC k).2 "[I" ∈ lw_tbl ∧ Cond.initialized (am_tC k).1 ∈ lw_tbl := by decide +kernel
set_option maxHeartbeats 4000000 in
theorem am_start {args : Array Value} {s : State} (hts : ∀ w ∈ lw_tbl, w.before args s = true) (hgv : (Jvm.Cond.and given_1 narrow_1).before args s = true) : ∃ z zK zV : Nat → Nat, am z zK zV (fun q : Nat => s.heap.size ≤ q) s s.heap := by
  have hs : ∀ w ∈ am_fl, w.before args s = true := flat_of_before _ hgv
  have hA : ∀ a : Nat, a < s.heap.size → ¬ (fun q : Nat => s.heap.size ≤ q) a := fun a h => Nat.not_le.mpr h
  obtain ⟨zK, zV, hSS, hSe⟩ := vk_Sof (args := args) (s := s) (N := 5) (tm := am_tm) (len := am_len) (byt := am_byt) (A := fun q : Nat => s.heap.size ≤ q) (by decide) (fun i hi => hs _ (am_s1 i hi)) (fun i hi => hs _ (am_s2 i hi)) (fun i hi => hs _ (am_s3 i hi)) (fun i hi => hs _ (am_s4 i hi)) (fun i hi j hj => hs _ (am_s5 i hi j hj)) (fun i j hi hj hij => (am_s6 i hi j hj hij).imp (hs _) (hs _)) hA
  have hT : ∀ k, k < 4 → 1 ≤ k → ∃ t : Nat, va_Z (am_tC k).1 (am_tC k).2 "[I" (.ref t) (fun q : Nat => s.heap.size ≤ q) s s.heap ∧ va_T .int t (am_tb k).length (fun j => .int ((am_tb k).getD j 0)) (fun q : Nat => s.heap.size ≤ q) s s.heap := by
    intro k h4 h1
    obtain ⟨t, e1, e2⟩ := va_Tof (tm := am_tt k) (ty := .int) (N := (am_tb k).length) (f := fun j => .int ((am_tb k).getD j 0)) (A := fun q : Nat => s.heap.size ≤ q) (am_t0 k h4) (hs _ (am_t1 k h4 h1)) (va_eqt (hs _ (am_t2 k h4 h1))) (fun j hj => va_eqt (hs _ (am_t3 k h4 h1 j hj))) hA
    exact ⟨t, va_Zref (hts _ (am_t4 k h4 h1).1) (hts _ (am_t4 k h4 h1).2) e1 hA, e2⟩
  obtain ⟨t1, hT1⟩ := hT 1 (by decide) (by decide)
  obtain ⟨t2, hT2⟩ := hT 2 (by decide) (by decide)
  obtain ⟨t3, hT3⟩ := hT 3 (by decide) (by decide)
  obtain ⟨t0, ht0, hT0⟩ := va_Tof (args := args) (s := s) (tm := .static "java/util/ArrayList" "DEFAULTCAPACITY_EMPTY_ELEMENTDATA" "[Ljava/lang/Object;") (ty := .object "java/lang/Object") (N := 0) (f := fun _ => .null) (A := fun q : Nat => s.heap.size ≤ q) (by decide) (hs _ (by decide +kernel)) (va_eqt (hs (Cond.eq (.length (.static "java/util/ArrayList" "DEFAULTCAPACITY_EMPTY_ELEMENTDATA" "[Ljava/lang/Object;")) (.int 0)) (by decide +kernel))) (fun j hj => absurd hj (Nat.not_lt_zero j)) hA
  refine ⟨fun k => match k with | 0 => t0 | 1 => t1 | 2 => t2 | _ => t3, zK, zV, fun w hw => va_Nw.of (List.all_eq_true.mp am_Wt w hw) (hts w (am_Wi w hw)), ?_, ?_, hSS, ?_, ⟨va_Zref (hts (.laysStatic "java/util/ArrayList" "DEFAULTCAPACITY_EMPTY_ELEMENTDATA" "[Ljava/lang/Object;") (by decide +kernel)) (hts (.initialized "java/util/ArrayList") (by decide +kernel)) ht0 hA, hT0⟩, ?_, ?_, ?_, fun w hw => va_Nw.of (List.all_eq_true.mp am_Bt w hw) (hts w (am_Bi w hw)), ?_, ?_⟩
  · intro q hq
    obtain ⟨h1, h2⟩ := am_r1 q hq
    obtain ⟨a, c, cell, k, ha, -⟩ := Cond.exactly_spec (args := args) (first := s) (o := none) (s := s) (idx := []) (t := .string "SquareRig" q.1) (cls := "java/lang/String") (hs _ h2)
    exact ⟨a, vk_R.of (hts _ h1) ha⟩
  · intro i q hq
    obtain ⟨h9, -⟩ := List.getElem?_eq_some_iff.mp hq
    have hi : i < 5 := Nat.lt_of_lt_of_eq h9 (by decide)
    have he : am_lit.getD i (0, "") = q := by rw [List.getD_eq_getElem?_getD, hq]; rfl
    have h1 := hts _ (am_s7 i hi)
    have h2 := hSe i hi
    unfold am_tm at h2
    rw [he] at h1 h2
    exact vk_R.of h1 h2
  · intro k h1 h3
    rcases (show k = 1 ∨ k = 2 ∨ k = 3 by omega) with rfl | rfl | rfl
    · exact hT1
    · exact hT2
    · exact hT3
  · exact va_Zof (hts (.laysStatic "java/lang/String" "COMPACT_STRINGS" "Z") (by decide +kernel)) (hts (.initialized "java/lang/String") (by decide +kernel)) (va_eqi (hs (Cond.eq (.static "java/lang/String" "COMPACT_STRINGS" "Z") (.int 1)) (by decide +kernel))) hA
  · exact ⟨vx_Zqof (hts (.laysStatic Bundle.tN "UNASSIGNED_STACK" Bundle.steD) (by decide +kernel)) (hts (.initialized Bundle.tN) (by decide +kernel)) (hs (Cond.isRef (.static Bundle.tN "UNASSIGNED_STACK" Bundle.steD)) (by decide +kernel)) hA, vx_Zqof (hts (.laysStatic Bundle.tN "SUPPRESSED_SENTINEL" Bundle.listD) (by decide +kernel)) (hts (.initialized Bundle.tN) (by decide +kernel)) (hs (Cond.isRef (.static Bundle.tN "SUPPRESSED_SENTINEL" Bundle.listD)) (by decide +kernel)) hA⟩
  · exact ⟨va_AO.of (hts (.arrayOver (.object RX4)) (by decide +kernel)), va_AO.of (hts (.arrayOver (.object RX8)) (by decide +kernel)), va_AO.of (hts (.arrayOver (.object "java/lang/Object")) (by decide +kernel))⟩
  · exact ⟨va_Fw.of (hts (.declares ⟨"java/util/List", "iterator", "()Ljava/util/Iterator;"⟩) (by decide +kernel)) (hts (.interfaceMethod "java/util/List" "java/util/List" "iterator" "()Ljava/util/Iterator;") (by decide +kernel)) (hts (.publicMethod yJx4a65c_iterator_32c93) (by decide +kernel)) (hts (.unhidden RJx4a65c "iterator" "()Ljava/util/Iterator;") (by decide +kernel)) (hts (.castable RJx4a65c "java/util/List") (by decide +kernel)), va_Fw.of (hts (.declares ⟨"java/util/Iterator", "hasNext", "()Z"⟩) (by decide +kernel)) (hts (.interfaceMethod "java/util/Iterator" "java/util/Iterator" "hasNext" "()Z") (by decide +kernel)) (hts (.publicMethod yJx35411_hasNext_aae02) (by decide +kernel)) (hts (.unhidden RJx35411 "hasNext" "()Z") (by decide +kernel)) (hts (.castable RJx35411 "java/util/Iterator") (by decide +kernel)), va_Fw.of (hts (.declares ⟨"java/util/List", "size", "()I"⟩) (by decide +kernel)) (hts (.interfaceMethod "java/util/List" "java/util/List" "size" "()I") (by decide +kernel)) (hts (.publicMethod yJx4a65c_size_8abf5) (by decide +kernel)) (hts (.unhidden RJx4a65c "size" "()I") (by decide +kernel)) (hts (.castable RJx4a65c "java/util/List") (by decide +kernel)), va_Fw.of (hts (.declares ⟨"java/util/List", "isEmpty", "()Z"⟩) (by decide +kernel)) (hts (.interfaceMethod "java/util/List" "java/util/List" "isEmpty" "()Z") (by decide +kernel)) (hts (.publicMethod yJx4a65c_isEmpty_aae02) (by decide +kernel)) (hts (.unhidden RJx4a65c "isEmpty" "()Z") (by decide +kernel)) (hts (.castable RJx4a65c "java/util/List") (by decide +kernel)), va_Fw.of (hts (.declares ⟨"java/util/List", "add", "(Ljava/lang/Object;)Z"⟩) (by decide +kernel)) (hts (.interfaceMethod "java/util/List" "java/util/List" "add" "(Ljava/lang/Object;)Z") (by decide +kernel)) (hts (.publicMethod yJx4a65c_add_9ea2d) (by decide +kernel)) (hts (.unhidden RJx4a65c "add" "(Ljava/lang/Object;)Z") (by decide +kernel)) (hts (.castable RJx4a65c "java/util/List") (by decide +kernel))⟩
  · exact va_Zqof (hts (.laysStatic "jdk/internal/util/Preconditions" "SIOOBE_FORMATTER" "Ljava/util/function/BiFunction;") (by decide +kernel)) (hts (.initialized "jdk/internal/util/Preconditions") (by decide +kernel)) (hs (Cond.isRef (.static "jdk/internal/util/Preconditions" "SIOOBE_FORMATTER" "Ljava/util/function/BiFunction;")) (by decide +kernel)) hA
set_option maxHeartbeats 4000000 in
theorem am_K {args : Array Value} {s : State} (hts : ∀ w ∈ lw_tbl, w.before args s = true) : ∃ (dC : Nat → ClassId) (dI : Nat → Nat → Nat), va_K (dC, dI) vwCl [] s := by
  have h : ∀ k : Nat, ∃ (cC : ClassId) (iS : Nat → Nat), ∀ q : vw_C, vwCl[k]? = some q → u_Kn s q.1 q.2.1 q.2.2 cC iS := by
    intro k
    by_cases hk : k < 20
    · rcases (show k = 0 ∨ k = 1 ∨ k = 2 ∨ k = 3 ∨ k = 4 ∨ k = 5 ∨ k = 6 ∨ k = 7 ∨ k = 8 ∨ k = 9 ∨ k = 10 ∨ k = 11 ∨ k = 12 ∨ k = 13 ∨ k = 14 ∨ k = 15 ∨ k = 16 ∨ k = 17 ∨ k = 18 ∨ k = 19 by omega) with rfl | rfl | rfl | rfl | rfl | rfl | rfl | rfl | rfl | rfl | rfl | rfl | rfl | rfl | rfl | rfl | rfl | rfl | rfl | rfl
      · obtain ⟨cC, iS, g⟩ := u_known (C := RJ0) (T := TJ0) (N := 2) (n := 2) hts (by decide +kernel) (hts (.instantiable RJ0 2) (by decide +kernel)); exact ⟨cC, iS, fun q hq => by cases hq; exact g⟩
      · obtain ⟨cC, iS, g⟩ := u_known (C := RJx00060) (T := TJx00060) (N := 6) (n := 6) hts (by decide +kernel) (hts (.instantiable RJx00060 6) (by decide +kernel)); exact ⟨cC, iS, fun q hq => by cases hq; exact g⟩
      · obtain ⟨cC, iS, g⟩ := u_known (C := RJx35411) (T := TJx35411) (N := 4) (n := 4) hts (by decide +kernel) (hts (.instantiable RJx35411 4) (by decide +kernel)); exact ⟨cC, iS, fun q hq => by cases hq; exact g⟩
      · obtain ⟨cC, iS, g⟩ := u_known (C := RJx4a65c) (T := TJx4a65c) (N := 3) (n := 3) hts (by decide +kernel) (hts (.instantiable RJx4a65c 3) (by decide +kernel)); exact ⟨cC, iS, fun q hq => by cases hq; exact g⟩
      · obtain ⟨cC, iS, g⟩ := u_known (C := RX0) (T := TX0) (N := 7) (n := 7) hts (by decide +kernel) (hts (.instantiable RX0 7) (by decide +kernel)); exact ⟨cC, iS, fun q hq => by cases hq; exact g⟩
      · obtain ⟨cC, iS, g⟩ := u_known (C := RX1) (T := TX1) (N := 4) (n := 4) hts (by decide +kernel) (hts (.instantiable RX1 4) (by decide +kernel)); exact ⟨cC, iS, fun q hq => by cases hq; exact g⟩
      · obtain ⟨cC, iS, g⟩ := u_known (C := RX2) (T := TX2) (N := 3) (n := 3) hts (by decide +kernel) (hts (.instantiable RX2 3) (by decide +kernel)); exact ⟨cC, iS, fun q hq => by cases hq; exact g⟩
      · obtain ⟨cC, iS, g⟩ := u_known (C := RX3) (T := TX3) (N := 4) (n := 4) hts (by decide +kernel) (hts (.instantiable RX3 4) (by decide +kernel)); exact ⟨cC, iS, fun q hq => by cases hq; exact g⟩
      · obtain ⟨cC, iS, g⟩ := u_known (C := RX4) (T := TX4) (N := 3) (n := 3) hts (by decide +kernel) (hts (.instantiable RX4 3) (by decide +kernel)); exact ⟨cC, iS, fun q hq => by cases hq; exact g⟩
      · obtain ⟨cC, iS, g⟩ := u_known (C := RX5) (T := TX5) (N := 7) (n := 7) hts (by decide +kernel) (hts (.instantiable RX5 7) (by decide +kernel)); exact ⟨cC, iS, fun q hq => by cases hq; exact g⟩
      · obtain ⟨cC, iS, g⟩ := u_known (C := RX6) (T := TX6) (N := 2) (n := 2) hts (by decide +kernel) (hts (.instantiable RX6 2) (by decide +kernel)); exact ⟨cC, iS, fun q hq => by cases hq; exact g⟩
      · obtain ⟨cC, iS, g⟩ := u_known (C := RX7) (T := TX7) (N := 6) (n := 6) hts (by decide +kernel) (hts (.instantiable RX7 6) (by decide +kernel)); exact ⟨cC, iS, fun q hq => by cases hq; exact g⟩
      · obtain ⟨cC, iS, g⟩ := u_known (C := RX8) (T := TX8) (N := 8) (n := 8) hts (by decide +kernel) (hts (.instantiable RX8 8) (by decide +kernel)); exact ⟨cC, iS, fun q hq => by cases hq; exact g⟩
      · obtain ⟨cC, iS, g⟩ := u_known (C := RX9) (T := TX9) (N := 17) (n := 17) hts (by decide +kernel) (hts (.instantiable RX9 17) (by decide +kernel)); exact ⟨cC, iS, fun q hq => by cases hq; exact g⟩
      · obtain ⟨cC, iS, g⟩ := u_known (C := RX10) (T := TX10) (N := 2) (n := 2) hts (by decide +kernel) (hts (.instantiable RX10 2) (by decide +kernel)); exact ⟨cC, iS, fun q hq => by cases hq; exact g⟩
      · obtain ⟨cC, iS, g⟩ := u_known (C := RX11) (T := TX11) (N := 4) (n := 4) hts (by decide +kernel) (hts (.instantiable RX11 4) (by decide +kernel)); exact ⟨cC, iS, fun q hq => by cases hq; exact g⟩
      · obtain ⟨cC, iS, g⟩ := u_known (C := RX12) (T := TX12) (N := 2) (n := 2) hts (by decide +kernel) (hts (.instantiable RX12 2) (by decide +kernel)); exact ⟨cC, iS, fun q hq => by cases hq; exact g⟩
      · obtain ⟨cC, iS, g⟩ := u_known (C := RX13) (T := TX13) (N := 2) (n := 2) hts (by decide +kernel) (hts (.instantiable RX13 2) (by decide +kernel)); exact ⟨cC, iS, fun q hq => by cases hq; exact g⟩
      · obtain ⟨cC, iS, g⟩ := u_known (C := RX14) (T := TX14) (N := 6) (n := 6) hts (by decide +kernel) (hts (.instantiable RX14 6) (by decide +kernel)); exact ⟨cC, iS, fun q hq => by cases hq; exact g⟩
      · obtain ⟨cC, iS, g⟩ := u_known (C := RX15) (T := TX15) (N := 28) (n := 28) hts (by decide +kernel) (hts (.instantiable RX15 28) (by decide +kernel)); exact ⟨cC, iS, fun q hq => by cases hq; exact g⟩
    · refine ⟨0, fun _ => 0, fun q hq => ?_⟩
      obtain ⟨h9, -⟩ := List.getElem?_eq_some_iff.mp hq
      exact absurd (Nat.lt_of_lt_of_eq h9 (by decide)) hk
  refine ⟨fun k => Classical.choose (h k), fun k => Classical.choose (Classical.choose_spec (h k)), ?_, fun k q hq => by simp at hq⟩
  exact fun k q hq => Classical.choose_spec (Classical.choose_spec (h k)) q hq

