
theorem am_e0_0 : Cond.eq (.elem (.field (am_tm 0) "java/lang/String" "value" "[B") (.int (Int32.ofNat 0))) (.int ((am_byt.getD 0 []).getD 0 0)) ∈ am_fl := List.mem_of_getElem? (i := 796) (by decide +kernel)
theorem am_e0_1 : Cond.eq (.elem (.field (am_tm 0) "java/lang/String" "value" "[B") (.int (Int32.ofNat 1))) (.int ((am_byt.getD 0 []).getD 1 0)) ∈ am_fl := List.mem_of_getElem? (i := 797) (by decide +kernel)
theorem am_e0_2 : Cond.eq (.elem (.field (am_tm 0) "java/lang/String" "value" "[B") (.int (Int32.ofNat 2))) (.int ((am_byt.getD 0 []).getD 2 0)) ∈ am_fl := List.mem_of_getElem? (i := 798) (by decide +kernel)
theorem am_e0_3 : Cond.eq (.elem (.field (am_tm 0) "java/lang/String" "value" "[B") (.int (Int32.ofNat 3))) (.int ((am_byt.getD 0 []).getD 3 0)) ∈ am_fl := List.mem_of_getElem? (i := 799) (by decide +kernel)
theorem am_e1_0 : Cond.eq (.elem (.field (am_tm 1) "java/lang/String" "value" "[B") (.int (Int32.ofNat 0))) (.int ((am_byt.getD 1 []).getD 0 0)) ∈ am_fl := List.mem_of_getElem? (i := 821) (by decide +kernel)
theorem am_e1_1 : Cond.eq (.elem (.field (am_tm 1) "java/lang/String" "value" "[B") (.int (Int32.ofNat 1))) (.int ((am_byt.getD 1 []).getD 1 0)) ∈ am_fl := List.mem_of_getElem? (i := 822) (by decide +kernel)
theorem am_e1_2 : Cond.eq (.elem (.field (am_tm 1) "java/lang/String" "value" "[B") (.int (Int32.ofNat 2))) (.int ((am_byt.getD 1 []).getD 2 0)) ∈ am_fl := List.mem_of_getElem? (i := 823) (by decide +kernel)
theorem am_e1_3 : Cond.eq (.elem (.field (am_tm 1) "java/lang/String" "value" "[B") (.int (Int32.ofNat 3))) (.int ((am_byt.getD 1 []).getD 3 0)) ∈ am_fl := List.mem_of_getElem? (i := 824) (by decide +kernel)
theorem am_e1_4 : Cond.eq (.elem (.field (am_tm 1) "java/lang/String" "value" "[B") (.int (Int32.ofNat 4))) (.int ((am_byt.getD 1 []).getD 4 0)) ∈ am_fl := List.mem_of_getElem? (i := 825) (by decide +kernel)
theorem am_e1_5 : Cond.eq (.elem (.field (am_tm 1) "java/lang/String" "value" "[B") (.int (Int32.ofNat 5))) (.int ((am_byt.getD 1 []).getD 5 0)) ∈ am_fl := List.mem_of_getElem? (i := 826) (by decide +kernel)
theorem am_e1_6 : Cond.eq (.elem (.field (am_tm 1) "java/lang/String" "value" "[B") (.int (Int32.ofNat 6))) (.int ((am_byt.getD 1 []).getD 6 0)) ∈ am_fl := List.mem_of_getElem? (i := 827) (by decide +kernel)
theorem am_e1_7 : Cond.eq (.elem (.field (am_tm 1) "java/lang/String" "value" "[B") (.int (Int32.ofNat 7))) (.int ((am_byt.getD 1 []).getD 7 0)) ∈ am_fl := List.mem_of_getElem? (i := 828) (by decide +kernel)
theorem am_e1_8 : Cond.eq (.elem (.field (am_tm 1) "java/lang/String" "value" "[B") (.int (Int32.ofNat 8))) (.int ((am_byt.getD 1 []).getD 8 0)) ∈ am_fl := List.mem_of_getElem? (i := 829) (by decide +kernel)
theorem am_e2_0 : Cond.eq (.elem (.field (am_tm 2) "java/lang/String" "value" "[B") (.int (Int32.ofNat 0))) (.int ((am_byt.getD 2 []).getD 0 0)) ∈ am_fl := List.mem_of_getElem? (i := 852) (by decide +kernel)
theorem am_e2_1 : Cond.eq (.elem (.field (am_tm 2) "java/lang/String" "value" "[B") (.int (Int32.ofNat 1))) (.int ((am_byt.getD 2 []).getD 1 0)) ∈ am_fl := List.mem_of_getElem? (i := 853) (by decide +kernel)
theorem am_e2_2 : Cond.eq (.elem (.field (am_tm 2) "java/lang/String" "value" "[B") (.int (Int32.ofNat 2))) (.int ((am_byt.getD 2 []).getD 2 0)) ∈ am_fl := List.mem_of_getElem? (i := 854) (by decide +kernel)
theorem am_e2_3 : Cond.eq (.elem (.field (am_tm 2) "java/lang/String" "value" "[B") (.int (Int32.ofNat 3))) (.int ((am_byt.getD 2 []).getD 3 0)) ∈ am_fl := List.mem_of_getElem? (i := 855) (by decide +kernel)
theorem am_e2_4 : Cond.eq (.elem (.field (am_tm 2) "java/lang/String" "value" "[B") (.int (Int32.ofNat 4))) (.int ((am_byt.getD 2 []).getD 4 0)) ∈ am_fl := List.mem_of_getElem? (i := 856) (by decide +kernel)
theorem am_e2_5 : Cond.eq (.elem (.field (am_tm 2) "java/lang/String" "value" "[B") (.int (Int32.ofNat 5))) (.int ((am_byt.getD 2 []).getD 5 0)) ∈ am_fl := List.mem_of_getElem? (i := 857) (by decide +kernel)
theorem am_e2_6 : Cond.eq (.elem (.field (am_tm 2) "java/lang/String" "value" "[B") (.int (Int32.ofNat 6))) (.int ((am_byt.getD 2 []).getD 6 0)) ∈ am_fl := List.mem_of_getElem? (i := 858) (by decide +kernel)
theorem am_e2_7 : Cond.eq (.elem (.field (am_tm 2) "java/lang/String" "value" "[B") (.int (Int32.ofNat 7))) (.int ((am_byt.getD 2 []).getD 7 0)) ∈ am_fl := List.mem_of_getElem? (i := 859) (by decide +kernel)
theorem am_e2_8 : Cond.eq (.elem (.field (am_tm 2) "java/lang/String" "value" "[B") (.int (Int32.ofNat 8))) (.int ((am_byt.getD 2 []).getD 8 0)) ∈ am_fl := List.mem_of_getElem? (i := 860) (by decide +kernel)
theorem am_e3_0 : Cond.eq (.elem (.field (am_tm 3) "java/lang/String" "value" "[B") (.int (Int32.ofNat 0))) (.int ((am_byt.getD 3 []).getD 0 0)) ∈ am_fl := List.mem_of_getElem? (i := 884) (by decide +kernel)
theorem am_e3_1 : Cond.eq (.elem (.field (am_tm 3) "java/lang/String" "value" "[B") (.int (Int32.ofNat 1))) (.int ((am_byt.getD 3 []).getD 1 0)) ∈ am_fl := List.mem_of_getElem? (i := 885) (by decide +kernel)
theorem am_e3_2 : Cond.eq (.elem (.field (am_tm 3) "java/lang/String" "value" "[B") (.int (Int32.ofNat 2))) (.int ((am_byt.getD 3 []).getD 2 0)) ∈ am_fl := List.mem_of_getElem? (i := 886) (by decide +kernel)
theorem am_e3_3 : Cond.eq (.elem (.field (am_tm 3) "java/lang/String" "value" "[B") (.int (Int32.ofNat 3))) (.int ((am_byt.getD 3 []).getD 3 0)) ∈ am_fl := List.mem_of_getElem? (i := 887) (by decide +kernel)
theorem am_e3_4 : Cond.eq (.elem (.field (am_tm 3) "java/lang/String" "value" "[B") (.int (Int32.ofNat 4))) (.int ((am_byt.getD 3 []).getD 4 0)) ∈ am_fl := List.mem_of_getElem? (i := 888) (by decide +kernel)
theorem am_e3_5 : Cond.eq (.elem (.field (am_tm 3) "java/lang/String" "value" "[B") (.int (Int32.ofNat 5))) (.int ((am_byt.getD 3 []).getD 5 0)) ∈ am_fl := List.mem_of_getElem? (i := 889) (by decide +kernel)
theorem am_e3_6 : Cond.eq (.elem (.field (am_tm 3) "java/lang/String" "value" "[B") (.int (Int32.ofNat 6))) (.int ((am_byt.getD 3 []).getD 6 0)) ∈ am_fl := List.mem_of_getElem? (i := 890) (by decide +kernel)
theorem am_e3_7 : Cond.eq (.elem (.field (am_tm 3) "java/lang/String" "value" "[B") (.int (Int32.ofNat 7))) (.int ((am_byt.getD 3 []).getD 7 0)) ∈ am_fl := List.mem_of_getElem? (i := 891) (by decide +kernel)
theorem am_e3_8 : Cond.eq (.elem (.field (am_tm 3) "java/lang/String" "value" "[B") (.int (Int32.ofNat 8))) (.int ((am_byt.getD 3 []).getD 8 0)) ∈ am_fl := List.mem_of_getElem? (i := 892) (by decide +kernel)
theorem am_e4_0 : Cond.eq (.elem (.field (am_tm 4) "java/lang/String" "value" "[B") (.int (Int32.ofNat 0))) (.int ((am_byt.getD 4 []).getD 0 0)) ∈ am_fl := List.mem_of_getElem? (i := 917) (by decide +kernel)
theorem am_e4_1 : Cond.eq (.elem (.field (am_tm 4) "java/lang/String" "value" "[B") (.int (Int32.ofNat 1))) (.int ((am_byt.getD 4 []).getD 1 0)) ∈ am_fl := List.mem_of_getElem? (i := 918) (by decide +kernel)
theorem am_e4_2 : Cond.eq (.elem (.field (am_tm 4) "java/lang/String" "value" "[B") (.int (Int32.ofNat 2))) (.int ((am_byt.getD 4 []).getD 2 0)) ∈ am_fl := List.mem_of_getElem? (i := 919) (by decide +kernel)
theorem am_e4_3 : Cond.eq (.elem (.field (am_tm 4) "java/lang/String" "value" "[B") (.int (Int32.ofNat 3))) (.int ((am_byt.getD 4 []).getD 3 0)) ∈ am_fl := List.mem_of_getElem? (i := 920) (by decide +kernel)
theorem am_e4_4 : Cond.eq (.elem (.field (am_tm 4) "java/lang/String" "value" "[B") (.int (Int32.ofNat 4))) (.int ((am_byt.getD 4 []).getD 4 0)) ∈ am_fl := List.mem_of_getElem? (i := 921) (by decide +kernel)
theorem am_e4_5 : Cond.eq (.elem (.field (am_tm 4) "java/lang/String" "value" "[B") (.int (Int32.ofNat 5))) (.int ((am_byt.getD 4 []).getD 5 0)) ∈ am_fl := List.mem_of_getElem? (i := 922) (by decide +kernel)
theorem am_e4_6 : Cond.eq (.elem (.field (am_tm 4) "java/lang/String" "value" "[B") (.int (Int32.ofNat 6))) (.int ((am_byt.getD 4 []).getD 6 0)) ∈ am_fl := List.mem_of_getElem? (i := 923) (by decide +kernel)
theorem am_e4_7 : Cond.eq (.elem (.field (am_tm 4) "java/lang/String" "value" "[B") (.int (Int32.ofNat 7))) (.int ((am_byt.getD 4 []).getD 7 0)) ∈ am_fl := List.mem_of_getElem? (i := 924) (by decide +kernel)
theorem am_e4_8 : Cond.eq (.elem (.field (am_tm 4) "java/lang/String" "value" "[B") (.int (Int32.ofNat 8))) (.int ((am_byt.getD 4 []).getD 8 0)) ∈ am_fl := List.mem_of_getElem? (i := 925) (by decide +kernel)
theorem am_e4_9 : Cond.eq (.elem (.field (am_tm 4) "java/lang/String" "value" "[B") (.int (Int32.ofNat 9))) (.int ((am_byt.getD 4 []).getD 9 0)) ∈ am_fl := List.mem_of_getElem? (i := 926) (by decide +kernel)
theorem am_e4_10 : Cond.eq (.elem (.field (am_tm 4) "java/lang/String" "value" "[B") (.int (Int32.ofNat 10))) (.int ((am_byt.getD 4 []).getD 10 0)) ∈ am_fl := List.mem_of_getElem? (i := 927) (by decide +kernel)
theorem am_e4_11 : Cond.eq (.elem (.field (am_tm 4) "java/lang/String" "value" "[B") (.int (Int32.ofNat 11))) (.int ((am_byt.getD 4 []).getD 11 0)) ∈ am_fl := List.mem_of_getElem? (i := 928) (by decide +kernel)
theorem am_e4_12 : Cond.eq (.elem (.field (am_tm 4) "java/lang/String" "value" "[B") (.int (Int32.ofNat 12))) (.int ((am_byt.getD 4 []).getD 12 0)) ∈ am_fl := List.mem_of_getElem? (i := 929) (by decide +kernel)
theorem am_s5 : ∀ i, i < 5 → ∀ j, j < am_len.getD i 0 → Cond.eq (.elem (.field (am_tm i) "java/lang/String" "value" "[B") (.int (Int32.ofNat j))) (.int ((am_byt.getD i []).getD j 0)) ∈ am_fl := by
  intro i hi j hj
  rcases (show i = 0 ∨ i = 1 ∨ i = 2 ∨ i = 3 ∨ i = 4 by omega) with rfl | rfl | rfl | rfl | rfl
  · have hj : j < 4 := Nat.lt_of_lt_of_eq hj (by decide)
    rcases (show j = 0 ∨ j = 1 ∨ j = 2 ∨ j = 3 by omega) with rfl | rfl | rfl | rfl
    · exact am_e0_0
    · exact am_e0_1
    · exact am_e0_2
    · exact am_e0_3
  · have hj : j < 9 := Nat.lt_of_lt_of_eq hj (by decide)
    rcases (show j = 0 ∨ j = 1 ∨ j = 2 ∨ j = 3 ∨ j = 4 ∨ j = 5 ∨ j = 6 ∨ j = 7 ∨ j = 8 by omega) with rfl | rfl | rfl | rfl | rfl | rfl | rfl | rfl | rfl
    · exact am_e1_0
    · exact am_e1_1
    · exact am_e1_2
    · exact am_e1_3
    · exact am_e1_4
    · exact am_e1_5
    · exact am_e1_6
    · exact am_e1_7
    · exact am_e1_8
  · have hj : j < 9 := Nat.lt_of_lt_of_eq hj (by decide)
    rcases (show j = 0 ∨ j = 1 ∨ j = 2 ∨ j = 3 ∨ j = 4 ∨ j = 5 ∨ j = 6 ∨ j = 7 ∨ j = 8 by omega) with rfl | rfl | rfl | rfl | rfl | rfl | rfl | rfl | rfl
    · exact am_e2_0
    · exact am_e2_1
    · exact am_e2_2
    · exact am_e2_3
    · exact am_e2_4
    · exact am_e2_5
    · exact am_e2_6
    · exact am_e2_7
    · exact am_e2_8
  · have hj : j < 9 := Nat.lt_of_lt_of_eq hj (by decide)
    rcases (show j = 0 ∨ j = 1 ∨ j = 2 ∨ j = 3 ∨ j = 4 ∨ j = 5 ∨ j = 6 ∨ j = 7 ∨ j = 8 by omega) with rfl | rfl | rfl | rfl | rfl | rfl | rfl | rfl | rfl
    · exact am_e3_0
    · exact am_e3_1
    · exact am_e3_2
    · exact am_e3_3
    · exact am_e3_4
    · exact am_e3_5
    · exact am_e3_6
    · exact am_e3_7
    · exact am_e3_8
  · have hj : j < 13 := Nat.lt_of_lt_of_eq hj (by decide)
    rcases (show j = 0 ∨ j = 1 ∨ j = 2 ∨ j = 3 ∨ j = 4 ∨ j = 5 ∨ j = 6 ∨ j = 7 ∨ j = 8 ∨ j = 9 ∨ j = 10 ∨ j = 11 ∨ j = 12 by omega) with rfl | rfl | rfl | rfl | rfl | rfl | rfl | rfl | rfl | rfl | rfl | rfl | rfl
    · exact am_e4_0
    · exact am_e4_1
    · exact am_e4_2
    · exact am_e4_3
    · exact am_e4_4
    · exact am_e4_5
    · exact am_e4_6
    · exact am_e4_7
    · exact am_e4_8
    · exact am_e4_9
    · exact am_e4_10
    · exact am_e4_11
    · exact am_e4_12
set_option maxHeartbeats 4000000 in
theorem am_start {args : Array Value} {s : State} (hts : ∀ w ∈ lw_tbl, w.before args s = true) (hgv : (Jvm.Cond.and given_1 narrow_1).before args s = true) : ∃ z zK zV : Nat → Nat, am z zK zV (fun q : Nat => s.heap.size ≤ q) s s.heap := by
  have hs : ∀ w ∈ am_fl, w.before args s = true := flat_of_before _ hgv
  have hA : ∀ a : Nat, a < s.heap.size → ¬ (fun q : Nat => s.heap.size ≤ q) a := fun a h => Nat.not_le.mpr h
  obtain ⟨zK, zV, hSS, hSe⟩ := vk_Sof (args := args) (s := s) (N := 5) (tm := am_tm) (len := am_len) (byt := am_byt) (A := fun q : Nat => s.heap.size ≤ q) (by decide) (fun i hi => hs _ (am_s1 i hi)) (fun i hi => hs _ (am_s2 i hi)) (fun i hi => hs _ (am_s3 i hi)) (fun i hi => hs _ (am_s4 i hi)) (fun i hi j hj => hs _ (am_s5 i hi j hj)) (fun i j hi hj hij => (am_s6 i hi j hj hij).imp (hs _) (hs _)) hA
  have hT : ∀ k, k < 4 → 1 ≤ k → ∃ t : Nat, va_Z (am_tC k).1 (am_tC k).2 "[I" (.ref t) (fun q : Nat => s.heap.size ≤ q) s s.heap ∧ va_T .int t (am_tb k).length (fun j => .int ((am_tb k).getD j 0)) (fun q : Nat => s.heap.size ≤ q) s s.heap := by
    intro k h4 h1
    obtain ⟨t, e1, e2⟩ := va_Tof (tm := am_tt k) (ty := .int) (N := (am_tb k).length) (f := fun j => .int ((am_tb k).getD j 0)) (A := fun q : Nat => s.heap.size ≤ q) (am_t0 k h4) (hs _ (am_t1 k h4 h1)) (va_eqt (hs _ (am_t2 k h4 h1))) (fun j hj => va_eqt (hs _ (am_t3 k h4 h1 j hj))) hA
    exact ⟨t, va_Zref (hts _ (am_t4 k h4 h1).1) (hts _ (am_t4 k h4 h1).2) e1 hA, e2⟩
  obtain ⟨t1, hT1⟩ := hT 1 (by decide) (by decide)
  obtain ⟨t2, hT2⟩ := hT 2 (by decide) (by decide)
  obtain ⟨t3, hT3⟩ := hT 3 (by decide) (by decide)
  obtain ⟨t0, ht0, hT0⟩ := va_Tof (args := args) (s := s) (tm := .static "java/util/ArrayList" "DEFAULTCAPACITY_EMPTY_ELEMENTDATA" "[Ljava/lang/Object;") (ty := .object "java/lang/Object") (N := 0) (f := fun _ => .null) (A := fun q : Nat => s.heap.size ≤ q) (by decide) (hs _ (by decide +kernel)) (va_eqt (hs (Cond.eq (.length (.static "java/util/ArrayList" "DEFAULTCAPACITY_EMPTY_ELEMENTDATA" "[Ljava/lang/Object;")) (.int 0)) (by decide +kernel))) (fun j hj => absurd hj (Nat.not_lt_zero j)) hA
  refine ⟨fun k => match k with | 0 => t0 | 1 => t1 | 2 => t2 | _ => t3, zK, zV, fun w hw => va_Nw.of (List.all_eq_true.mp am_Wt w hw) (hts w (am_Wi w hw)), ?_, ?_, hSS, ?_, ⟨va_Zref (hts (.laysStatic "java/util/ArrayList" "DEFAULTCAPACITY_EMPTY_ELEMENTDATA" "[Ljava/lang/Object;") (by decide +kernel)) (hts (.initialized "java/util/ArrayList") (by decide +kernel)) ht0 hA, hT0⟩, ?_, ?_, ?_, fun w hw => va_Nw.of (List.all_eq_true.mp am_Bt w hw) (hts w (am_Bi w hw)), ?_, ?_⟩
  · intro q hq
    obtain ⟨h1, h2⟩ := am_r1 q hq
    obtain ⟨a, c, cell, k, ha, -⟩ := Cond.exactly_spec (args := args) (first := s) (o := none) (s := s) (idx := []) (t := .string "SquareRig" q.1) (cls := "java/lang/String") (hs _ h2)
    exact ⟨a, vk_R.of (hts _ h1) ha⟩
  · intro i q hq
    obtain ⟨h9, -⟩ := List.getElem?_eq_some_iff.mp hq
    have hi : i < 5 := Nat.lt_of_lt_of_eq h9 (by decide)
    have he : am_lit.getD i (0, "") = q := by rw [List.getD_eq_getElem?_getD, hq]; rfl
    have h1 := hts _ (am_s7 i hi)
    have h2 := hSe i hi
    unfold am_tm at h2
    rw [he] at h1 h2
    exact vk_R.of h1 h2
  · intro k h1 h3
    rcases (show k = 1 ∨ k = 2 ∨ k = 3 by omega) with rfl | rfl | rfl
    · exact hT1
    · exact hT2
    · exact hT3
  · exact va_Zof (hts (.laysStatic "java/lang/String" "COMPACT_STRINGS" "Z") (by decide +kernel)) (hts (.initialized "java/lang/String") (by decide +kernel)) (va_eqi (hs (Cond.eq (.static "java/lang/String" "COMPACT_STRINGS" "Z") (.int 1)) (by decide +kernel))) hA
  · exact ⟨vx_Zqof (hts (.laysStatic Bundle.tN "UNASSIGNED_STACK" Bundle.steD) (by decide +kernel)) (hts (.initialized Bundle.tN) (by decide +kernel)) (hs (Cond.isRef (.static Bundle.tN "UNASSIGNED_STACK" Bundle.steD)) (by decide +kernel)) hA, vx_Zqof (hts (.laysStatic Bundle.tN "SUPPRESSED_SENTINEL" Bundle.listD) (by decide +kernel)) (hts (.initialized Bundle.tN) (by decide +kernel)) (hs (Cond.isRef (.static Bundle.tN "SUPPRESSED_SENTINEL" Bundle.listD)) (by decide +kernel)) hA⟩
  · exact ⟨va_AO.of (hts (.arrayOver (.object RX4)) (by decide +kernel)), va_AO.of (hts (.arrayOver (.object RX8)) (by decide +kernel)), va_AO.of (hts (.arrayOver (.object "java/lang/Object")) (by decide +kernel))⟩
  · exact ⟨va_Fw.of (hts (.declares ⟨"java/util/List", "iterator", "()Ljava/util/Iterator;"⟩) (by decide +kernel)) (hts (.interfaceMethod "java/util/List" "java/util/List" "iterator" "()Ljava/util/Iterator;") (by decide +kernel)) (hts (.publicMethod yJx4a65c_iterator_32c93) (by decide +kernel)) (hts (.unhidden RJx4a65c "iterator" "()Ljava/util/Iterator;") (by decide +kernel)) (hts (.castable RJx4a65c "java/util/List") (by decide +kernel)), va_Fw.of (hts (.declares ⟨"java/util/Iterator", "hasNext", "()Z"⟩) (by decide +kernel)) (hts (.interfaceMethod "java/util/Iterator" "java/util/Iterator" "hasNext" "()Z") (by decide +kernel)) (hts (.publicMethod yJx35411_hasNext_aae02) (by decide +kernel)) (hts (.unhidden RJx35411 "hasNext" "()Z") (by decide +kernel)) (hts (.castable RJx35411 "java/util/Iterator") (by decide +kernel)), va_Fw.of (hts (.declares ⟨"java/util/List", "size", "()I"⟩) (by decide +kernel)) (hts (.interfaceMethod "java/util/List" "java/util/List" "size" "()I") (by decide +kernel)) (hts (.publicMethod yJx4a65c_size_8abf5) (by decide +kernel)) (hts (.unhidden RJx4a65c "size" "()I") (by decide +kernel)) (hts (.castable RJx4a65c "java/util/List") (by decide +kernel)), va_Fw.of (hts (.declares ⟨"java/util/List", "isEmpty", "()Z"⟩) (by decide +kernel)) (hts (.interfaceMethod "java/util/List" "java/util/List" "isEmpty" "()Z") (by decide +kernel)) (hts (.publicMethod yJx4a65c_isEmpty_aae02) (by decide +kernel)) (hts (.unhidden RJx4a65c "isEmpty" "()Z") (by decide +kernel)) (hts (.castable RJx4a65c "java/util/List") (by decide +kernel)), va_Fw.of (hts (.declares ⟨"java/util/List", "add", "(Ljava/lang/Object;)Z"⟩) (by decide +kernel)) (hts (.interfaceMethod "java/util/List" "java/util/List" "add" "(Ljava/lang/Object;)Z") (by decide +kernel)) (hts (.publicMethod yJx4a65c_add_9ea2d) (by decide +kernel)) (hts (.unhidden RJx4a65c "add" "(Ljava/lang/Object;)Z") (by decide +kernel)) (hts (.castable RJx4a65c "java/util/List") (by decide +kernel))⟩
  · exact va_Zqof (hts (.laysStatic "jdk/internal/util/Preconditions" "SIOOBE_FORMATTER" "Ljava/util/function/BiFunction;") (by decide +kernel)) (hts (.initialized "jdk/internal/util/Preconditions") (by decide +kernel)) (hs (Cond.isRef (.static "jdk/internal/util/Preconditions" "SIOOBE_FORMATTER" "Ljava/util/function/BiFunction;")) (by decide +kernel)) hA
set_option maxHeartbeats 4000000 in
theorem am_K {args : Array Value} {s : State} (hts : ∀ w ∈ lw_tbl, w.before args s = true) : ∃ (dC : Nat → ClassId) (dI : Nat → Nat → Nat), va_K (dC, dI) vwCl [] s := by
  have h : ∀ k : Nat, ∃ (cC : ClassId) (iS : Nat → Nat), ∀ q : vw_C, vwCl[k]? = some q → u_Kn s q.1 q.2.1 q.2.2 cC iS := by
    intro k
    by_cases hk : k < 20
    · rcases (show k = 0 ∨ k = 1 ∨ k = 2 ∨ k = 3 ∨ k = 4 ∨ k = 5 ∨ k = 6 ∨ k = 7 ∨ k = 8 ∨ k = 9 ∨ k = 10 ∨ k = 11 ∨ k = 12 ∨ k = 13 ∨ k = 14 ∨ k = 15 ∨ k = 16 ∨ k = 17 ∨ k = 18 ∨ k = 19 by omega) with rfl | rfl | rfl | rfl | rfl | rfl | rfl | rfl | rfl | rfl | rfl | rfl | rfl | rfl | rfl | rfl | rfl | rfl | rfl | rfl
      · obtain ⟨cC, iS, g⟩ := u_known (C := RJ0) (T := TJ0) (N := 2) (n := 4) hts wl_wsJ00 (hts (.instantiable RJ0 4) (by decide +kernel)); exact ⟨cC, iS, fun q hq => by cases hq; exact g⟩
      · obtain ⟨cC, iS, g⟩ := u_known (C := RJx00060) (T := TJx00060) (N := 6) (n := 6) hts (by decide +kernel) (hts (.instantiable RJx00060 6) (by decide +kernel)); exact ⟨cC, iS, fun q hq => by cases hq; exact g⟩
      · obtain ⟨cC, iS, g⟩ := u_known (C := RJx35411) (T := TJx35411) (N := 4) (n := 4) hts wl_wsJx354110 (hts (.instantiable RJx35411 4) (by decide +kernel)); exact ⟨cC, iS, fun q hq => by cases hq; exact g⟩
      · obtain ⟨cC, iS, g⟩ := u_known (C := RJx4a65c) (T := TJx4a65c) (N := 3) (n := 3) hts wl_wsJx4a65c0 (hts (.instantiable RJx4a65c 3) (by decide +kernel)); exact ⟨cC, iS, fun q hq => by cases hq; exact g⟩
      · obtain ⟨cC, iS, g⟩ := u_known (C := RX0) (T := TX0) (N := 7) (n := 7) hts wl_wsX00 (hts (.instantiable RX0 7) (by decide +kernel)); exact ⟨cC, iS, fun q hq => by cases hq; exact g⟩
      · obtain ⟨cC, iS, g⟩ := u_known (C := RX1) (T := TX1) (N := 4) (n := 4) hts wl_wsX10 (hts (.instantiable RX1 4) (by decide +kernel)); exact ⟨cC, iS, fun q hq => by cases hq; exact g⟩
      · obtain ⟨cC, iS, g⟩ := u_known (C := RX2) (T := TX2) (N := 3) (n := 3) hts wl_wsX20 (hts (.instantiable RX2 3) (by decide +kernel)); exact ⟨cC, iS, fun q hq => by cases hq; exact g⟩
      · obtain ⟨cC, iS, g⟩ := u_known (C := RX3) (T := TX3) (N := 4) (n := 4) hts wl_wsX30 (hts (.instantiable RX3 4) (by decide +kernel)); exact ⟨cC, iS, fun q hq => by cases hq; exact g⟩
      · obtain ⟨cC, iS, g⟩ := u_known (C := RX4) (T := TX4) (N := 3) (n := 3) hts wl_wsX40 (hts (.instantiable RX4 3) (by decide +kernel)); exact ⟨cC, iS, fun q hq => by cases hq; exact g⟩
      · obtain ⟨cC, iS, g⟩ := u_known (C := RX5) (T := TX5) (N := 7) (n := 7) hts wl_wsX50 (hts (.instantiable RX5 7) (by decide +kernel)); exact ⟨cC, iS, fun q hq => by cases hq; exact g⟩
      · obtain ⟨cC, iS, g⟩ := u_known (C := RX6) (T := TX6) (N := 2) (n := 2) hts wl_wsX60 (hts (.instantiable RX6 2) (by decide +kernel)); exact ⟨cC, iS, fun q hq => by cases hq; exact g⟩
      · obtain ⟨cC, iS, g⟩ := u_known (C := RX7) (T := TX7) (N := 6) (n := 6) hts wl_wsX70 (hts (.instantiable RX7 6) (by decide +kernel)); exact ⟨cC, iS, fun q hq => by cases hq; exact g⟩
      · obtain ⟨cC, iS, g⟩ := u_known (C := RX8) (T := TX8) (N := 8) (n := 8) hts wl_wsX80 (hts (.instantiable RX8 8) (by decide +kernel)); exact ⟨cC, iS, fun q hq => by cases hq; exact g⟩
      · obtain ⟨cC, iS, g⟩ := u_known (C := RX9) (T := TX9) (N := 17) (n := 17) hts wl_wsX90 (hts (.instantiable RX9 17) (by decide +kernel)); exact ⟨cC, iS, fun q hq => by cases hq; exact g⟩
      · obtain ⟨cC, iS, g⟩ := u_known (C := RX10) (T := TX10) (N := 2) (n := 2) hts wl_wsX100 (hts (.instantiable RX10 2) (by decide +kernel)); exact ⟨cC, iS, fun q hq => by cases hq; exact g⟩
      · obtain ⟨cC, iS, g⟩ := u_known (C := RX11) (T := TX11) (N := 4) (n := 4) hts wl_wsX110 (hts (.instantiable RX11 4) (by decide +kernel)); exact ⟨cC, iS, fun q hq => by cases hq; exact g⟩
      · obtain ⟨cC, iS, g⟩ := u_known (C := RX12) (T := TX12) (N := 2) (n := 2) hts wl_wsX120 (hts (.instantiable RX12 2) (by decide +kernel)); exact ⟨cC, iS, fun q hq => by cases hq; exact g⟩
      · obtain ⟨cC, iS, g⟩ := u_known (C := RX13) (T := TX13) (N := 2) (n := 2) hts wl_wsX130 (hts (.instantiable RX13 2) (by decide +kernel)); exact ⟨cC, iS, fun q hq => by cases hq; exact g⟩
      · obtain ⟨cC, iS, g⟩ := u_known (C := RX14) (T := TX14) (N := 6) (n := 6) hts wl_wsX140 (hts (.instantiable RX14 6) (by decide +kernel)); exact ⟨cC, iS, fun q hq => by cases hq; exact g⟩
      · obtain ⟨cC, iS, g⟩ := u_known (C := RX15) (T := TX15) (N := 28) (n := 28) hts wl_wsX150 (hts (.instantiable RX15 28) (by decide +kernel)); exact ⟨cC, iS, fun q hq => by cases hq; exact g⟩
    · refine ⟨0, fun _ => 0, fun q hq => ?_⟩
      obtain ⟨h9, -⟩ := List.getElem?_eq_some_iff.mp hq
      exact absurd (Nat.lt_of_lt_of_eq h9 (by decide)) hk
  refine ⟨fun k => Classical.choose (h k), fun k => Classical.choose (Classical.choose_spec (h k)), ?_, fun k q hq => by simp at hq⟩
  exact fun k q hq => Classical.choose_spec (Classical.choose_spec (h k)) q hq

