
def am_fl : List Cond := flatC (Jvm.Cond.and given_1 narrow_1)
def am_tm (i : Nat) : Term := Term.string "SquareRigModel" (am_lit.getD i (0, "")).1
def am_tt (k : Nat) : Term := Term.static (am_tC k).1 (am_tC k).2 "[I"
theorem am_Wt : am_W.all (fun w => w.onTables) = true := by decide +kernel
theorem am_Wi : ∀ w ∈ am_W, w ∈ lw_tbl := by decide +kernel
theorem am_Bi : ∀ w ∈ am_Bw, w ∈ lw_tbl := by decide +kernel
theorem am_s1 : ∀ i, i < 5 → Cond.exactly (am_tm i) "java/lang/String" ∈ am_fl := by decide +kernel
theorem am_s2 : ∀ i, i < 5 → Cond.eq (.field (am_tm i) "java/lang/String" "coder" "B") (.int 0) ∈ am_fl := by decide +kernel
theorem am_s3 : ∀ i, i < 5 → Cond.arrayOf (.field (am_tm i) "java/lang/String" "value" "[B") .byte ∈ am_fl := by decide +kernel
theorem am_s4 : ∀ i, i < 5 → Cond.eq (.length (.field (am_tm i) "java/lang/String" "value" "[B")) (.int (Int32.ofNat (am_len.getD i 0))) ∈ am_fl := by decide +kernel
theorem am_s6 : ∀ i, i < 5 → ∀ j, j < 5 → i ≠ j → Cond.not (Cond.eq (am_tm i) (am_tm j)) ∈ am_fl ∨ Cond.not (Cond.eq (am_tm j) (am_tm i)) ∈ am_fl := by decide +kernel
theorem am_s7 : ∀ i, i < 5 → Cond.stringRef "SquareRigModel" (am_lit.getD i (0, "")).1 (am_lit.getD i (0, "")).2 ∈ lw_tbl := by decide +kernel
theorem am_r1 : ∀ q ∈ am_M, Cond.stringRef "SquareRig" q.1 q.2 ∈ lw_tbl ∧ Cond.exactly (.string "SquareRig" q.1) "java/lang/String" ∈ am_fl := by decide +kernel
theorem am_t0 : ∀ k, k < 4 → (am_tb k).length < 2 ^ 31 := by decide +kernel
theorem am_t1 : ∀ k, k < 4 → 1 ≤ k → Cond.arrayOf (am_tt k) .int ∈ am_fl := by decide +kernel
theorem am_t2 : ∀ k, k < 4 → 1 ≤ k → Cond.eq (.length (am_tt k)) (.int (Int32.ofNat (am_tb k).length)) ∈ am_fl := by decide +kernel
theorem am_t3 : ∀ k, k < 4 → 1 ≤ k → ∀ j, j < (am_tb k).length → Cond.eq (.elem (am_tt k) (.int (Int32.ofNat j))) (.int ((am_tb k).getD j 0)) ∈ am_fl := by decide +kernel
theorem am_t4 : ∀ k, k < 4 → 1 ≤ k → Cond.laysStatic (am_tC k).1 (am_tC k).2 "[I" ∈ lw_tbl ∧ Cond.initialized (am_tC k).1 ∈ lw_tbl := by decide +kernel

