theorem dL_law_28 : decode cL_law 28 = .ok (.iload 5, 2) := by decide +kernel
theorem dL_law_30 : decode cL_law 30 = .ok (.aload_n 0, 1) := by decide +kernel
theorem dL_law_31 : decode cL_law 31 = .ok (.arraylength, 1) := by decide +kernel
theorem dL_law_32 : decode cL_law 32 = .ok (.iconst 4, 1) := by decide +kernel
theorem dL_law_33 : decode cL_law 33 = .ok (.isub, 1) := by decide +kernel
theorem dL_law_34 : decode cL_law 34 = .ok (.if_icmp .gt 1656, 3) := by decide +kernel
theorem dL_law_1684 : decode cL_law 1684 = .ok (.iinc 5 4, 3) := by decide +kernel
theorem dL_law_1687 : decode cL_law 1687 = .ok (.goto (-1659), 3) := by decide +kernel
theorem dL_law_1690 : decode cL_law 1690 = .ok (.iconst 1, 1) := by decide +kernel
theorem dL_law_1691 : decode cL_law 1691 = .ok (.ireturn, 1) := by decide +kernel
/-! THE CLAIM OUT OF ONE WALK OF THE LAW'S BODY. Your part is whole_start (and what it stands on); all else here is the same for every law, but numbers. -/
def R_law : String := "SquareRigLaw"
def lw_P (b : Addr) (xs : List Int32) (args : Array Value) (s : State) : Prop := args = #[.ref b] ∧ s.IntsAt b xs ∧ xs.length ≤ 4 ∧ (Jvm.Cond.and given_1 narrow_1).before args s = true
/-- what a walk over the start with the record d0 says of its end, said of the start itself -/
theorem lw_closed {s t : State} {o : Outcome} {d0 : Drawn} {L : List Loc} {k n : Nat} (hd0 : s.drawn.sameBut d0 lw_cs) (hv : ∃ v, o = .returned v) (hW : (s.setDrawn d0).WarmedH t.vm) (hs : (s.setDrawn d0).sameButNew ({ t with vm := s.vm } : State) L k n) : State.butDraws s t lw_cs (fun t1 => Framed s o t1 L k n) := by
  have h2 : t.drawn = d0 := congrArg State.drawn hs.1
  refine ⟨⟨hv, hW, State.sameButNew.setDrawn hs s.drawn⟩, ?_, by decide⟩
  rw [h2]
  exact hd0
def lw_Q (_ : Array Value) (s : State) (o : Outcome) (t : State) : Prop := o = .returned (some (.int 1)) ∧ State.butDraws s t lw_cs (fun t1 => Framed s o t1 [] 647047 7160938)
def lw_Z (below : List Frame) (a : Array Value) (s : State) : State → Prop := fun t => ∃ o, t.status = .running ∧ Ended t below o ∧ lw_Q a s o t
/-- the law's own end, with 1 on the stack, nothing written that was there before, its room as the claim has it; d0: the record of draws at this point (at the entry s.drawn: begin with 'refine W.base ?_' and 'have hd0 := Drawn.sameBut.refl s.drawn lw_cs') -/
theorem lw_ret {p : Program} {l : Launch} {e : Env} {s : State} {m : MethodId} {below : List Frame} {meth : Method} {c : Code} {b : Nat} {d0 : Drawn} (hd0 : s.drawn.sameBut d0 lw_cs) (hx : p.tables.exec = Jvm.exec) (hb : c.code = code) (hr : meth.sig.returnType = ret) (hlocks : meth.locks = false) {pc : Nat} {H : Heap} {ls : Array Slot} (hdg : decode code pc = .ok (.ireturn, 1)) : W p l e room_1 (s.setDrawn d0) m #[Value.ref b] below meth c H [] 647047 7160938 (lw_Z below #[Value.ref b] s) (F0 m pc ls [.int 1]) := by
  intro T hT X
  obtain ⟨fs, hret, hrun, hended, hW, hframe⟩ := X.leave (v := some (.int 1)) (hlocks := hlocks) (fun h => by rw [hr] at h; cases h)
  have hmeth' : T.vm.method? m = some meth := X.method'
  refine ⟨T.setFrames fs, ?_, .returned (some (.int 1)), hrun, hended, rfl, lw_closed hd0 ⟨_, rfl⟩ hW hframe⟩
  jvm_step X.here [X.here.top, hx, hb, hdg, hmeth', hr, ret, narrow_b1]
  (try refine ⟨rfl, ?_⟩); (try refine ⟨rfl, ?_⟩)
  first | (intro acts; rw [hret _ acts rfl rfl rfl]) | rw [hret _ _ rfl rfl rfl]
  exact Steps.refl _
/-- what holds at the law's entry: the machine, the code, the tables' words (any of lw_tbl by 'hts w (by decide +kernel)'), the script of L ints xs at the cell b, what the Statement gives of the start (any of its parts by flat_of_before) -/
def lw_At (p : Program) (s : State) (m : MethodId) (meth : Method) (c : Code) (b L : Nat) (xs : Nat → Int32) : Prop :=
  p.tables.exec = Jvm.exec ∧ c.code = code ∧ meth.sig.returnType = ret ∧ c.maxLocals = 10 ∧ s.vm.findClass R_law = some m.cls ∧ (∀ w ∈ lw_tbl, w.before #[Value.ref b] s = true) ∧ va_X b L xs s s.heap ∧ b < s.heap.size ∧ meth.locks = false ∧ (Jvm.Cond.and given_1 narrow_1).before #[Value.ref b] s = true

theorem k_out9 {q : Int32} (h : ¬ ((0 : Int32) ≤ q ∧ q ≤ 8)) : q < 0 ∨ 9 ≤ q := by
  rw [Int32.lt_iff_toInt_lt, Int32.le_iff_toInt_le]
  rw [Int32.le_iff_toInt_le, Int32.le_iff_toInt_le] at h
  have e0 : (0 : Int32).toInt = 0 := by decide
  have e8 : (8 : Int32).toInt = 8 := by decide
  have e9 : (9 : Int32).toInt = 9 := by decide
  rw [e0, e8] at h
  rw [e0, e9]
  omega
theorem k_out3 {q : Int32} (h : ¬ ((0 : Int32) ≤ q ∧ q ≤ 2)) : q < 0 ∨ 3 ≤ q := by
  rw [Int32.lt_iff_toInt_lt, Int32.le_iff_toInt_le]
  rw [Int32.le_iff_toInt_le, Int32.le_iff_toInt_le] at h
  have e0 : (0 : Int32).toInt = 0 := by decide
  have e8 : (2 : Int32).toInt = 2 := by decide
  have e9 : (3 : Int32).toInt = 3 := by decide
  rw [e0, e8] at h
  rw [e0, e9]
  omega
theorem kO_o {k w h : Int32} (h1 : ¬ k = 115) (h2 : ¬ k = 98) (h3 : ¬ k = 109) (h4 : ¬ k = 114) : ¬ kO k w h := by
  rintro (⟨q, -⟩ | ⟨q, -⟩ | ⟨q, -⟩ | ⟨q, -⟩)
  · exact h1 q
  · exact h3 q
  · exact h2 q
  · exact h4 q
theorem hL_L_belay_114 : GoodIn lw_tbl (va_wsS RL 114 yL_belay wsL_belay) := goodIn_sub (by decide +kernel) (by decide +kernel)
theorem hL_L_braced_187 : GoodIn lw_tbl (va_wsS RL 187 yL_braced wsL_braced) := goodIn_sub (by decide +kernel) (by decide +kernel)
theorem hL_L_current_103 : GoodIn lw_tbl (va_wsS RL 103 yL_current wsL_current) := goodIn_sub (by decide +kernel) (by decide +kernel)
theorem hL_L_force_178 : GoodIn lw_tbl (va_wsS RL 178 yL_force wsL_force) := goodIn_sub (by decide +kernel) (by decide +kernel)
theorem hL_L_helm_106 : GoodIn lw_tbl (va_wsS RL 106 yL_helm wsL_helm) := goodIn_sub (by decide +kernel) (by decide +kernel)
theorem hL_L_isSprung_190 : GoodIn lw_tbl (va_wsS RL 190 yL_isSprung wsL_isSprung) := goodIn_sub (by decide +kernel) (by decide +kernel)
theorem hL_L_jettison_146 : GoodIn lw_tbl (va_wsS RL 146 yL_jettison wnL_jettison) := goodIn_sub (by decide +kernel) (by decide +kernel)
theorem hL_L_left_143 : GoodIn lw_tbl (va_wsS RL 143 yL_left wsL_left) := goodIn_sub (by decide +kernel) (by decide +kernel)
theorem hL_L_lineMinute_216 : GoodIn lw_tbl (va_wsS RL 216 yL_lineMinute wsL_lineMinute) := goodIn_sub (by decide +kernel) (by decide +kernel)
theorem hL_L_line_213 : GoodIn lw_tbl (va_wsS RL 213 yL_line wsL_line) := goodIn_sub (by decide +kernel) (by decide +kernel)
theorem hL_L_meanStrength_224 : GoodIn lw_tbl (va_wsS RL 224 yL_meanStrength wsL_meanStrength) := goodIn_sub (by decide +kernel) (by decide +kernel)
theorem hL_L_order_110 : GoodIn lw_tbl (va_wsS RL 110 yL_order wsL_order) := goodIn_sub (by decide +kernel) (by decide +kernel)
theorem hL_L_sail_150 : GoodIn lw_tbl (va_wsS RL 150 yL_sail wsL_sail) := goodIn_sub (by decide +kernel) (by decide +kernel)
theorem hL_L_sick_136 : GoodIn lw_tbl (va_wsS RL 136 yL_sick wsL_sick) := goodIn_sub (by decide +kernel) (by decide +kernel)
theorem hL_L_spread_181 : GoodIn lw_tbl (va_wsS RL 181 yL_spread wsL_spread) := goodIn_sub (by decide +kernel) (by decide +kernel)
theorem hL_L_state_117 : GoodIn lw_tbl (va_wsS RL 117 yL_state wsL_state) := goodIn_sub (by decide +kernel) (by decide +kernel)
theorem hL_L_stow_139 : GoodIn lw_tbl (va_wsS RL 139 yL_stow wsL_stow) := goodIn_sub (by decide +kernel) (by decide +kernel)
theorem hL_L_strength_184 : GoodIn lw_tbl (va_wsS RL 184 yL_strength wsL_strength) := goodIn_sub (by decide +kernel) (by decide +kernel)
theorem hL_L_tired_133 : GoodIn lw_tbl (va_wsS RL 133 yL_tired wsL_tired) := goodIn_sub (by decide +kernel) (by decide +kernel)
theorem hL_L_wind_94 : GoodIn lw_tbl (va_wsS RL 94 yL_wind wsL_wind) := goodIn_sub (by decide +kernel) (by decide +kernel)
theorem hL_X11_best_193 : GoodIn lw_tbl (wsV RL 193 RX11 yX11_best wsX11_best) := goodIn_sub (by decide +kernel) (by decide +kernel)
theorem hL_X11_callAll_120 : GoodIn lw_tbl (wsV RL 120 RX11 yX11_callAll wsX11_callAll) := goodIn_sub (by decide +kernel) (by decide +kernel)
theorem hL_X11_east_165 : GoodIn lw_tbl (wsV RL 165 RX11 yX11_east wsX11_east) := goodIn_sub (by decide +kernel) (by decide +kernel)
theorem hL_X11_free_129 : GoodIn lw_tbl (wsV RL 129 RX11 yX11_free wsX11_free) := goodIn_sub (by decide +kernel) (by decide +kernel)
theorem hL_X11_heading_157 : GoodIn lw_tbl (wsV RL 157 RX11 yX11_heading wsX11_heading) := goodIn_sub (by decide +kernel) (by decide +kernel)
theorem hL_X11_isSame_228 : GoodIn lw_tbl (wsV RL 228 RX11 yX11_isSame wsX11_isSame) := goodIn_sub (by decide +kernel) (by decide +kernel)
theorem hL_X11_lines_209 : GoodIn lw_tbl (wsV RL 209 RX11 yX11_lines wsX11_lines) := goodIn_sub (by decide +kernel) (by decide +kernel)
theorem hL_X11_minute_153 : GoodIn lw_tbl (wsV RL 153 RX11 yX11_minute wsX11_minute) := goodIn_sub (by decide +kernel) (by decide +kernel)
theorem hL_X11_noon_197 : GoodIn lw_tbl (wsV RL 197 RX11 yX11_noon wsX11_noon) := goodIn_sub (by decide +kernel) (by decide +kernel)
theorem hL_X11_north_170 : GoodIn lw_tbl (wsV RL 170 RX11 yX11_north wsX11_north) := goodIn_sub (by decide +kernel) (by decide +kernel)
theorem hL_X11_off_174 : GoodIn lw_tbl (wsV RL 174 RX11 yX11_off wsX11_off) := goodIn_sub (by decide +kernel) (by decide +kernel)
theorem hL_X11_reckonedEast_201 : GoodIn lw_tbl (wsV RL 201 RX11 yX11_reckonedEast wsX11_reckonedEast) := goodIn_sub (by decide +kernel) (by decide +kernel)
theorem hL_X11_reckonedNorth_205 : GoodIn lw_tbl (wsV RL 205 RX11 yX11_reckonedNorth wsX11_reckonedNorth) := goodIn_sub (by decide +kernel) (by decide +kernel)
theorem hL_X11_setShare_219 : GoodIn lw_tbl (wsV RL 219 RX11 yX11_setShare wsX11_setShare) := goodIn_sub (by decide +kernel) (by decide +kernel)
theorem hL_X11_speed_161 : GoodIn lw_tbl (wsV RL 161 RX11 yX11_speed wsX11_speed) := goodIn_sub (by decide +kernel) (by decide +kernel)
theorem hL_X11_watch_125 : GoodIn lw_tbl (wsV RL 125 RX11 yX11_watch wsX11_watch) := goodIn_sub (by decide +kernel) (by decide +kernel)
theorem hL_X15_belay_116 : GoodIn lw_tbl (wsV RL 116 RX15 yX15_belay wsX15_belay) := goodIn_sub (by decide +kernel) (by decide +kernel)
theorem hL_X15_best_196 : GoodIn lw_tbl (wsV RL 196 RX15 yX15_best wsX15_best) := goodIn_sub (by decide +kernel) (by decide +kernel)
theorem hL_X15_braced_189 : GoodIn lw_tbl (wsV RL 189 RX15 yX15_braced wsX15_braced) := goodIn_sub (by decide +kernel) (by decide +kernel)
theorem hL_X15_callAll_124 : GoodIn lw_tbl (wsV RL 124 RX15 yX15_callAll wsX15_callAll) := goodIn_sub (by decide +kernel) (by decide +kernel)
theorem hL_X15_current_105 : GoodIn lw_tbl (wsV RL 105 RX15 yX15_current wsX15_current) := goodIn_sub (by decide +kernel) (by decide +kernel)
theorem hL_X15_east_169 : GoodIn lw_tbl (wsV RL 169 RX15 yX15_east wsX15_east) := goodIn_sub (by decide +kernel) (by decide +kernel)
theorem hL_X15_force_180 : GoodIn lw_tbl (wsV RL 180 RX15 yX15_force wsX15_force) := goodIn_sub (by decide +kernel) (by decide +kernel)
theorem hL_X15_free_132 : GoodIn lw_tbl (wsV RL 132 RX15 yX15_free wsX15_free) := goodIn_sub (by decide +kernel) (by decide +kernel)
theorem hL_X15_heading_160 : GoodIn lw_tbl (wsV RL 160 RX15 yX15_heading wsX15_heading) := goodIn_sub (by decide +kernel) (by decide +kernel)
theorem hL_X15_helm_109 : GoodIn lw_tbl (wsV RL 109 RX15 yX15_helm wsX15_helm) := goodIn_sub (by decide +kernel) (by decide +kernel)
theorem hL_X15_isSame_232 : GoodIn lw_tbl (wsV RL 232 RX15 yX15_isSame wsX15_isSame) := goodIn_sub (by decide +kernel) (by decide +kernel)
theorem hL_X15_isSprung_192 : GoodIn lw_tbl (wsV RL 192 RX15 yX15_isSprung wsX15_isSprung) := goodIn_sub (by decide +kernel) (by decide +kernel)
theorem hL_X15_jettison_149 : GoodIn lw_tbl (wsV RL 149 RX15 yX15_jettison wsX15_jettison) := goodIn_sub (by decide +kernel) (by decide +kernel)
theorem hL_X15_left_145 : GoodIn lw_tbl (wsV RL 145 RX15 yX15_left wsX15_left) := goodIn_sub (by decide +kernel) (by decide +kernel)
theorem hL_X15_lineMinute_218 : GoodIn lw_tbl (wsV RL 218 RX15 yX15_lineMinute wsX15_lineMinute) := goodIn_sub (by decide +kernel) (by decide +kernel)
theorem hL_X15_line_215 : GoodIn lw_tbl (wsV RL 215 RX15 yX15_line wsX15_line) := goodIn_sub (by decide +kernel) (by decide +kernel)
theorem hL_X15_lines_212 : GoodIn lw_tbl (wsV RL 212 RX15 yX15_lines wsX15_lines) := goodIn_sub (by decide +kernel) (by decide +kernel)
theorem hL_X15_meanStrength_227 : GoodIn lw_tbl (wsV RL 227 RX15 yX15_meanStrength wsX15_meanStrength) := goodIn_sub (by decide +kernel) (by decide +kernel)
theorem hL_X15_minute_156 : GoodIn lw_tbl (wsV RL 156 RX15 yX15_minute wsX15_minute) := goodIn_sub (by decide +kernel) (by decide +kernel)
theorem hL_X15_noon_200 : GoodIn lw_tbl (wsV RL 200 RX15 yX15_noon wsX15_noon) := goodIn_sub (by decide +kernel) (by decide +kernel)
theorem hL_X15_north_173 : GoodIn lw_tbl (wsV RL 173 RX15 yX15_north wsX15_north) := goodIn_sub (by decide +kernel) (by decide +kernel)
theorem hL_X15_off_177 : GoodIn lw_tbl (wsV RL 177 RX15 yX15_off wsX15_off) := goodIn_sub (by decide +kernel) (by decide +kernel)
theorem hL_X15_order_113 : GoodIn lw_tbl (wsV RL 113 RX15 yX15_order wsX15_order) := goodIn_sub (by decide +kernel) (by decide +kernel)
theorem hL_X15_reckonedEast_204 : GoodIn lw_tbl (wsV RL 204 RX15 yX15_reckonedEast wsX15_reckonedEast) := goodIn_sub (by decide +kernel) (by decide +kernel)
theorem hL_X15_reckonedNorth_208 : GoodIn lw_tbl (wsV RL 208 RX15 yX15_reckonedNorth wsX15_reckonedNorth) := goodIn_sub (by decide +kernel) (by decide +kernel)
theorem hL_X15_sail_152 : GoodIn lw_tbl (wsV RL 152 RX15 yX15_sail wsX15_sail) := goodIn_sub (by decide +kernel) (by decide +kernel)
theorem hL_X15_setShare_223 : GoodIn lw_tbl (wsV RL 223 RX15 yX15_setShare wsX15_setShare) := goodIn_sub (by decide +kernel) (by decide +kernel)
theorem hL_X15_sick_138 : GoodIn lw_tbl (wsV RL 138 RX15 yX15_sick wsX15_sick) := goodIn_sub (by decide +kernel) (by decide +kernel)
theorem hL_X15_speed_164 : GoodIn lw_tbl (wsV RL 164 RX15 yX15_speed wsX15_speed) := goodIn_sub (by decide +kernel) (by decide +kernel)
theorem hL_X15_spread_183 : GoodIn lw_tbl (wsV RL 183 RX15 yX15_spread wsX15_spread) := goodIn_sub (by decide +kernel) (by decide +kernel)
theorem hL_X15_state_119 : GoodIn lw_tbl (wsV RL 119 RX15 yX15_state wsX15_state) := goodIn_sub (by decide +kernel) (by decide +kernel)
theorem hL_X15_stow_142 : GoodIn lw_tbl (wsV RL 142 RX15 yX15_stow wsX15_stow) := goodIn_sub (by decide +kernel) (by decide +kernel)
theorem hL_X15_strength_186 : GoodIn lw_tbl (wsV RL 186 RX15 yX15_strength wsX15_strength) := goodIn_sub (by decide +kernel) (by decide +kernel)
theorem hL_X15_thrown_100 : GoodIn lw_tbl (wsV RL 100 RX15 yX15_thrown wsX15_thrown) := goodIn_sub (by decide +kernel) (by decide +kernel)
theorem hL_X15_tired_135 : GoodIn lw_tbl (wsV RL 135 RX15 yX15_tired wsX15_tired) := goodIn_sub (by decide +kernel) (by decide +kernel)
theorem hL_X15_watch_128 : GoodIn lw_tbl (wsV RL 128 RX15 yX15_watch wsX15_watch) := goodIn_sub (by decide +kernel) (by decide +kernel)
theorem hL_X15_wind_99 : GoodIn lw_tbl (wsV RL 99 RX15 yX15_wind wsX15_wind) := goodIn_sub (by decide +kernel) (by decide +kernel)
set_option maxHeartbeats 4000000 in
theorem la_tail {p : Program} {l : Launch} {e : Env} {s : State} {m : MethodId} {below : List Frame} {meth : Method} {c : Code} {dC : Nat → ClassId} {dI : Nat → Nat → Nat} {z zK zV : Nat → Nat} {b : Nat} {xs : Nat → Int32} {A : Nat → Prop} (hst : l.stackTraces = false) (C0 : lw_At p s m meth c b 4 xs) (hM : am z zK zV A s s.heap) (hA : ∀ q : Nat, s.heap.size ≤ q → A q) (hAl : ∀ q : Nat, A q → s.heap.size ≤ q) (H : Heap) (locs : List Loc) (hS : va_S A s.heap H locs) (ls : Array Slot) (hl : lv_has ls 10 [(0, .ref b), (5, .int 0)]) {cells slots : Nat} (h1 : cells ≤ 647047) (h2 : slots ≤ 7160938) : W p l e room_1 s m #[Value.ref b] below meth c H locs cells slots (lw_Z below #[Value.ref b] s) (F0 m 1684 ls []) := by
  obtain ⟨hx, hb, hr, hml, hown, hts, hX, hbl, hlocks, hgv⟩ := id C0
  have hbA : ¬ A b := fun h => absurd (hAl b h) (Nat.not_le.mpr hbl)
  refine lv_iinc (v := 4) (lv' := [(5, .int 4), (0, .ref b)]) hx hb dL_law_1684 hl (k := 1) rfl (by decide +kernel) (by decide) rfl (fun ls hl => ?_)
  refine lv_goto (tgt := 28) hx hb dL_law_1687 (by decide) ?_
  refine lv_iload hx hb dL_law_28 (lv_at hl 0 rfl) ?_
  refine lv_aload_n hx hb dL_law_30 rfl (lv_at hl 1 rfl) ?_
  refine va_slen hx hb hX hbl hbA hS dL_law_31 ?_
  refine kc_i (y := 4) rfl ?_
  refine lv_iconst (v := 4) hx hb dL_law_32 (by decide) ?_
  refine lv_isub hx hb dL_law_33 ?_
  refine kc_i (y := 0) (by decide +kernel) ?_
  refine lv_icmp_gt (tgt := 1690) hx hb dL_law_34 (by decide) (fun _ => ?_) (fun c_ => absurd (by decide +kernel) c_)
  refine lv_iconst (v := 1) hx hb dL_law_1690 (by decide) ?_
  refine va_forget (fun q hq => hAl _ (hS.2.2 q hq)) ?_
  refine W.widen (k := 647047) (n := 7160938) h1 h2 ?_
  exact lw_ret (d0 := s.drawn) (Drawn.sameBut.refl s.drawn lw_cs) hx hb hr hlocks dL_law_1691
