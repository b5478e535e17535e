/-! the walk's own words: what every contract starts from, and how a call's two ends are put together -/
section KB
variable {p : Program} {l : Launch} {e : Env} {R : Room} {s : State} {m : MethodId} {args : Array Value} {below : List Frame} {meth : Method} {c : Code} {H : Heap} {locs : List Loc} {cells slots : Nat} {Q : State → Prop} {pc : Nat} {ls : Array Slot} {rest : List Value}
/-- the value on top by another name -/
theorem kc_v {x y : Value} (h : x = y) (k : W p l e R s m args below meth c H locs cells slots Q (F0 m pc ls (y :: rest))) : W p l e R s m args below meth c H locs cells slots Q (F0 m pc ls (x :: rest)) := by rw [h]; exact k
theorem kc_i {x y : Int32} (h : x = y) (k : W p l e R s m args below meth c H locs cells slots Q (F0 m pc ls (.int y :: rest))) : W p l e R s m args below meth c H locs cells slots Q (F0 m pc ls (.int x :: rest)) := by rw [h]; exact k
theorem kc_l {x y : Int64} (h : x = y) (k : W p l e R s m args below meth c H locs cells slots Q (F0 m pc ls (.long y :: rest))) : W p l e R s m args below meth c H locs cells slots Q (F0 m pc ls (.long x :: rest)) := by rw [h]; exact k
end KB
theorem k_zdiv (x : Int32) : (0 : Int32) / x = 0 := by
  apply Int32.toBitVec_inj.mp
  rw [Int32.toBitVec_div]
  exact BitVec.zero_sdiv
/-- the words of private members of nest mates -/
def am_W : List Cond := [.fieldLinkNest "SquareRig$Rig" 78 "SquareRig$Mast" "braced" "I" "SquareRig", .fieldLinkNest "SquareRig" 222 "SquareRig$Mast" "braced" "I" "SquareRig", .fieldLinkNest "SquareRig$Rig" 110 "SquareRig$Mast" "hasSprung" "Z" "SquareRig", .fieldLinkNest "SquareRig" 227 "SquareRig$Mast" "hasSprung" "Z" "SquareRig", .fieldLinkNest "SquareRig$Rig" 68 "SquareRig$Mast" "strain" "I" "SquareRig", .fieldLinkNest "SquareRig$Ship" 184 "SquareRig$Mast" "strain" "I" "SquareRig", .fieldLinkNest "SquareRig$Rig" 85 "SquareRig$Sail" "area" "I" "SquareRig", .fieldLinkNest "SquareRig$Rig" 45 "SquareRig$Sail" "hands" "I" "SquareRig", .fieldLinkNest "SquareRig$Rig" 75 "SquareRig$Sail" "mast" "LSquareRig$Mast;" "SquareRig", .fieldLinkNest "SquareRig$Rig" 71 "SquareRig$Sail" "isSquare" "Z" "SquareRig", .fieldLinkNest "SquareRig$Rig" 88 "SquareRig$Sail" "spread" "I" "SquareRig", .fieldLinkNest "SquareRig" 210 "SquareRig$Sail" "spread" "I" "SquareRig", .fieldLinkNest "SquareRig$Rig" 94 "SquareRig$Sail" "rope" "I" "SquareRig", .fieldLinkNest "SquareRig" 213 "SquareRig$Sail" "rope" "I" "SquareRig", .fieldLinkNest "SquareRig$Rig" 145 "SquareRig$Sail" "hasParted" "Z" "SquareRig", .fieldLinkNest "SquareRig" 207 "SquareRig$Sail" "hasParted" "Z" "SquareRig", .fieldLinkNest "SquareRig$Rig" 91 "SquareRig$Sail" "force" "I" "SquareRig", .fieldLinkNest "SquareRig" 202 "SquareRig$Sail" "force" "I" "SquareRig", .fieldLinkNest "SquareRig$Ship" 189 "SquareRig$Rig" "fore" "LSquareRig$Mast;" "SquareRig", .fieldLinkNest "SquareRig$Ship" 180 "SquareRig$Rig" "mizzen" "LSquareRig$Mast;" "SquareRig", .fieldLinkNest "SquareRig$Ship" 174 "SquareRig$Rig" "drive" "I" "SquareRig", .fieldLinkNest "SquareRig$Deck" 98 "SquareRig$Watch" "tired" "I" "SquareRig", .fieldLinkNest "SquareRig" 128 "SquareRig$Watch" "tired" "I" "SquareRig", .fieldLinkNest "SquareRig" 133 "SquareRig$Watch" "sick" "I" "SquareRig", .fieldLinkNest "java/util/ArrayList$Itr" 28 "java/util/ArrayList" "size" "I" "java/util/ArrayList", .fieldLinkNest "SquareRig" 75 "SquareRig$Deck" "orders" "Ljava/util/ArrayList;" "SquareRig", .fieldLinkNest "SquareRig" 116 "SquareRig$Deck" "turn" "I" "SquareRig", .fieldLinkNest "SquareRig$Ship" 105 "SquareRig$Deck" "allCalled" "Z" "SquareRig", .fieldLinkNest "SquareRig" 112 "SquareRig$Deck" "allCalled" "Z" "SquareRig", .fieldLinkNest "SquareRig" 109 "SquareRig$Deck" "waiting" "I" "SquareRig", .fieldLinkNest "SquareRig" 142 "SquareRig$Hold" "casks" "I" "SquareRig", .fieldLinkNest "SquareRig" 240 "SquareRig$LogBook" "kept" "I" "SquareRig", .fieldLinkNest "SquareRig$Ship" 207 "SquareRig$Place" "east" "J" "SquareRig", .fieldLinkNest "SquareRig" 175 "SquareRig$Place" "east" "J" "SquareRig", .fieldLinkNest "SquareRig$Ship" 119 "SquareRig$Place" "north" "J" "SquareRig", .fieldLinkNest "SquareRig" 181 "SquareRig$Place" "north" "J" "SquareRig", .fieldLinkNest "SquareRig" 187 "SquareRig$Ship" "rig" "LSquareRig$Rig;" "SquareRig", .fieldLinkNest "SquareRig" 71 "SquareRig$Ship" "deck" "LSquareRig$Deck;" "SquareRig", .fieldLinkNest "SquareRig" 138 "SquareRig$Ship" "hold" "LSquareRig$Hold;" "SquareRig", .fieldLinkNest "SquareRig" 236 "SquareRig$Ship" "log" "LSquareRig$LogBook;" "SquareRig", .fieldLinkNest "SquareRig" 171 "SquareRig$Ship" "place" "LSquareRig$Place;" "SquareRig", .fieldLinkNest "SquareRig" 233 "SquareRig$Ship" "reckoned" "LSquareRig$Place;" "SquareRig", .fieldLinkNest "SquareRig" 41 "SquareRig$Ship" "windStrength" "I" "SquareRig", .fieldLinkNest "SquareRig" 54 "SquareRig$Ship" "currentEast" "I" "SquareRig", .fieldLinkNest "SquareRig" 57 "SquareRig$Ship" "currentNorth" "I" "SquareRig", .fieldLinkNest "SquareRig" 62 "SquareRig$Ship" "helm" "I" "SquareRig", .fieldLinkNest "SquareRig" 162 "SquareRig$Ship" "minute" "I" "SquareRig", .fieldLinkNest "SquareRig" 165 "SquareRig$Ship" "heading" "I" "SquareRig", .fieldLinkNest "SquareRig" 168 "SquareRig$Ship" "speed" "I" "SquareRig", .fieldLinkNest "SquareRig$Ship" 83 "SquareRig$Deed" "kind" "I" "SquareRig", .fieldLinkNest "SquareRig$Ship" 88 "SquareRig$Deed" "first" "I" "SquareRig", .fieldLinkNest "SquareRig$Ship" 91 "SquareRig$Deed" "second" "I" "SquareRig", .fieldLinkNest "SquareRig$Ship" 94 "SquareRig$Deed" "third" "I" "SquareRig", .fieldLinkNest "SquareRig$Rig" 113 "SquareRig$Order" "kind" "C" "SquareRig", .fieldLinkNest "SquareRig$Rig" 119 "SquareRig$Order" "what" "I" "SquareRig", .fieldLinkNest "SquareRig$Rig" 122 "SquareRig$Order" "how" "I" "SquareRig", .fieldLinkNest "SquareRig$Deck" 80 "SquareRig$Order" "hands" "I" "SquareRig", .fieldLinkNest "SquareRig$Deck" 89 "SquareRig$Order" "given" "I" "SquareRig", .fieldLinkNest "SquareRig$Deck" 67 "SquareRig$Order" "state" "C" "SquareRig", .fieldLinkNest "SquareRig" 98 "SquareRig$Order" "state" "C" "SquareRig", .fieldLinkNest "SquareRig$Deck" 71 "SquareRig$Order" "minutesLeft" "I" "SquareRig", .fieldLinkNest "SquareRigModel" 202 "SquareRigModel$Order" "kind" "C" "SquareRigModel", .fieldLinkNest "SquareRigModel" 207 "SquareRigModel$Order" "what" "I" "SquareRigModel", .fieldLinkNest "SquareRigModel" 246 "SquareRigModel$Order" "how" "I" "SquareRigModel", .fieldLinkNest "SquareRigModel" 256 "SquareRigModel$Order" "given" "I" "SquareRigModel", .fieldLinkNest "SquareRigModel" 177 "SquareRigModel$Order" "state" "C" "SquareRigModel", .fieldLinkNest "SquareRigModel" 249 "SquareRigModel$Order" "left" "I" "SquareRigModel", .fieldLinkNest "SquareRigModel" 287 "SquareRigModel$Cask" "isWater" "Z" "SquareRigModel", .fieldLinkNest "SquareRigModel" 224 "SquareRigModel$Cask" "units" "I" "SquareRigModel", .fieldLinkNest "SquareRigModel" 328 "SquareRigModel$Line" "letter" "C" "SquareRigModel", .fieldLinkNest "SquareRigModel" 331 "SquareRigModel$Line" "minute" "I" "SquareRigModel", .methodLinkNest "SquareRig" 9 ⟨"SquareRig$Ship", "<init>", "()V"⟩ "SquareRig", .methodLinkNest "SquareRig$Ship" 11 ⟨"SquareRig$Rig", "<init>", "()V"⟩ "SquareRig", .methodLinkNest "SquareRig$Rig" 11 ⟨"SquareRig$Mast", "<init>", "()V"⟩ "SquareRig", .methodLinkNest "SquareRig$Ship" 20 ⟨"SquareRig$Deck", "<init>", "()V"⟩ "SquareRig", .methodLinkNest "SquareRig$Deck" 11 ⟨"SquareRig$Watch", "<init>", "()V"⟩ "SquareRig", .methodLinkNest "SquareRig$Ship" 27 ⟨"SquareRig$Hold", "<init>", "()V"⟩ "SquareRig", .methodLinkNest "SquareRig$Ship" 34 ⟨"SquareRig$LogBook", "<init>", "()V"⟩ "SquareRig", .methodLinkNest "SquareRig$Ship" 41 ⟨"SquareRig$Place", "<init>", "()V"⟩ "SquareRig"]
def am_isN (w : Cond) : Bool := match w with
  | .fieldLinkNest .. => true
  | .methodLinkNest .. => true
  | _ => false
theorem am_Wn : am_W.all am_isN = true := by decide +kernel
def am_N (U : State) : Prop := ∀ w ∈ am_W, va_Nw w U
theorem am_N.warm {s U : State} (hW : s.WarmedH U.vm) (h : am_N s) : am_N U := by
  intro w hw
  have h1 := List.all_eq_true.mp am_Wn w hw
  have h2 := h w hw
  unfold am_isN at h1
  split at h1
  · exact va_Nw.warmF hW h2
  · exact va_Nw.warmM hW h2
  · cases h1
/-- the messages of the exceptions -/
def am_M : List (Nat × String) := [(36, "no such wind"), (52, "no such current"), (60, "the helm does not go so far"), (69, "no such order can be given"), (86, "there are 100 orders"), (95, "no such order"), (106, "the order does not wait"), (122, "no such watch"), (136, "no cask has so many units"), (147, "there are 20 casks"), (149, "no such cask"), (157, "there is no cask"), (160, "no such number of minutes"), (197, "no such sail"), (220, "no such mast"), (245, "no such line"), (263, "all ropes have parted")]
def am_R (U : State) : Prop := ∀ q ∈ am_M, ∃ a : Nat, vk_R "SquareRig" q.1 q.2 a U
theorem am_R.warm {s U : State} (hW : s.WarmedH U.vm) (h : am_R s) : am_R U := fun q hq => by
  obtain ⟨a, ha⟩ := h q hq
  exact ⟨a, ha.warm hW⟩
/-- the reference's texts: their places in the pool, what they hold -/
def am_lit : List (Nat × String) := [(143, "sbmr"), (205, "653863434"), (105, "000111202"), (107, "873A94546"), (84, "5678877654322")]
def am_len : List Nat := [4, 9, 9, 9, 13]
def am_byt : List (List Int32) := [[115, 98, 109, 114], [54, 53, 51, 56, 54, 51, 52, 51, 52], [48, 48, 48, 49, 49, 49, 50, 48, 50], [56, 55, 51, 65, 57, 52, 53, 52, 54], [53, 54, 55, 56, 56, 55, 55, 54, 53, 52, 51, 50, 50]]
def am_L (zK : Nat → Nat) (U : State) : Prop := ∀ (i : Nat) (q : Nat × String), am_lit[i]? = some q → vk_R "SquareRigModel" q.1 q.2 (zK i) U
theorem am_L.warm {zK : Nat → Nat} {s U : State} (hW : s.WarmedH U.vm) (h : am_L zK s) : am_L zK U := fun i q hq => (h i q hq).warm hW
/-- the static tables, by their places -/
def am_tb (k : Nat) : List Int32 := match k with
  | 0 => []
  | 1 => [(-12), (-10), (-8), (-6), (-4), (-2), 4, 6, 8, 9, 10, 10, 10, 9, 9, 8, 8]
  | 2 => [0, 0, 0, 0, 5, 6, 7, 8, 8, 7, 7, 6, 5, 4, 3, 2, 2]
  | _ => [100, 98, 92, 83, 71, 56, 38, 20, 0, (-20), (-38), (-56), (-71), (-83), (-92), (-98), (-100), (-98), (-92), (-83), (-71), (-56), (-38), (-20), 0, 20, 38, 56, 71, 83, 92, 98]
def am_tC (k : Nat) : String × String := match k with
  | 1 => ("SquareRig$Rig", "SQUARE_PUSH")
  | 2 => ("SquareRig$Rig", "FORE_AND_AFT_PUSH")
  | _ => ("SquareRig$Place", "NORTH_PART")
def am_T (z : Nat → Nat) (A : Nat → Prop) (U : State) (H : Heap) : Prop := ∀ k : Nat, 1 ≤ k → k ≤ 3 → va_Z (am_tC k).1 (am_tC k).2 "[I" (.ref (z k)) A U H ∧ va_T .int (z k) (am_tb k).length (fun j => .int ((am_tb k).getD j 0)) A U H
def am_D (z : Nat → Nat) (A : Nat → Prop) (U : State) (H : Heap) : Prop := va_Z "java/util/ArrayList" "DEFAULTCAPACITY_EMPTY_ELEMENTDATA" "[Ljava/lang/Object;" (.ref (z 0)) A U H ∧ va_T (.object "java/lang/Object") (z 0) 0 (fun _ => .null) A U H
def am_C (A : Nat → Prop) (U : State) (H : Heap) : Prop := va_Z "java/lang/String" "COMPACT_STRINGS" "Z" (.int 1) A U H
def am_X (A : Nat → Prop) (U : State) (H : Heap) : Prop := vx_Zq Bundle.tN "UNASSIGNED_STACK" Bundle.steD A U H ∧ vx_Zq Bundle.tN "SUPPRESSED_SENTINEL" Bundle.listD A U H
/-- castable and declared: words that no list of a method bears -/
def am_Bw : List Cond := [.castable "java/lang/IllegalArgumentException" "java/lang/IllegalArgumentException", .castable "java/lang/IndexOutOfBoundsException" "java/lang/IndexOutOfBoundsException", .castable "java/util/NoSuchElementException" "java/util/NoSuchElementException", .declares ⟨"java/lang/RuntimeException", "<init>", "(Ljava/lang/String;)V"⟩, .declares ⟨"java/lang/Exception", "<init>", "(Ljava/lang/String;)V"⟩, .declares ⟨"java/lang/Throwable", "<init>", "(Ljava/lang/String;)V"⟩, .castable RX1 "java/lang/Object", .castable RX5 "java/lang/Object", .castable RX12 "java/lang/Object", .castable RX14 "java/lang/Object"]
def am_isB (w : Cond) : Bool := match w with
  | .castable .. => true
  | .declares .. => true
  | _ => false
theorem am_Bn : am_Bw.all am_isB = true := by decide +kernel
def am_B (U : State) : Prop := ∀ w ∈ am_Bw, va_Nw w U
theorem am_B.warm {s U : State} (hW : s.WarmedH U.vm) (h : am_B s) : am_B U := by
  intro w hw
  have h1 := List.all_eq_true.mp am_Bn w hw
  have h2 := h w hw
  unfold am_isB at h1
  split at h1
  · exact va_Nw.warmC hW h2
  · exact va_Nw.warmD hW h2
  · cases h1
/-- the interfaces' methods -/
def am_F (U : State) : Prop := va_Fw RJx4a65c ⟨"java/util/List", "iterator", "()Ljava/util/Iterator;"⟩ yJx4a65c_iterator_32c93 U ∧ va_Fw RJx35411 ⟨"java/util/Iterator", "hasNext", "()Z"⟩ yJx35411_hasNext_aae02 U ∧ va_Fw RJx4a65c ⟨"java/util/List", "size", "()I"⟩ yJx4a65c_size_8abf5 U ∧ va_Fw RJx4a65c ⟨"java/util/List", "isEmpty", "()Z"⟩ yJx4a65c_isEmpty_aae02 U ∧ va_Fw RJx4a65c ⟨"java/util/List", "add", "(Ljava/lang/Object;)Z"⟩ yJx4a65c_add_9ea2d U
def am_S (A : Nat → Prop) (U : State) (H : Heap) : Prop := va_Zq "jdk/internal/util/Preconditions" "SIOOBE_FORMATTER" "Ljava/util/function/BiFunction;" A U H
def am_A (U : State) : Prop := va_AO RX4 U ∧ va_AO RX8 U ∧ va_AO "java/lang/Object" U
/-- all that nobody writes -/
def am (z zK zV : Nat → Nat) (A : Nat → Prop) (U : State) (H : Heap) : Prop :=
  am_N U ∧ am_R U ∧ am_L zK U ∧ vk_S 5 am_len am_byt zK zV A U H ∧ am_T z A U H ∧ am_D z A U H ∧ am_C A U H ∧ am_X A U H ∧ am_A U ∧ am_B U ∧ am_F U ∧ am_S A U H
theorem am.go {z zK zV : Nat → Nat} {A B : Nat → Prop} {s U : State} {H0 H : Heap} (h : am z zK zV A s H0) (hq : ∀ q : Nat, q < H0.size → ¬ A q → H[q]? = H0[q]?) (hAB : ∀ q, B q → A q) (hW : s.WarmedH U.vm) : am z zK zV B U H := by
  obtain ⟨h1, h2, h3, h4, h5, h6, h7, h8, h9, h10, h11, h12⟩ := h
  have hv := hW.alike
  refine ⟨h1.warm hW, h2.warm hW, h3.warm hW, ((h4.kept hq).narrow hAB).moved hv, fun k a b => ⟨(((h5 k a b).1.kept hq).narrow hAB).moved hv, (((h5 k a b).2.kept hq).narrow hAB).moved hv⟩, ⟨((h6.1.kept hq).narrow hAB).moved hv, ((h6.2.kept hq).narrow hAB).moved hv⟩, ((va_Z.kept h7 hq).narrow hAB).moved hv, ⟨((h8.1.kept hq).narrow hAB).moved hv, ((h8.2.kept hq).narrow hAB).moved hv⟩, ⟨h9.1.moved hv, h9.2.1.moved hv, h9.2.2.moved hv⟩, h10.warm hW, ⟨h11.1.moved (by decide) hv, h11.2.1.moved (by decide) hv, h11.2.2.1.moved (by decide) hv, h11.2.2.2.1.moved (by decide) hv, h11.2.2.2.2.moved (by decide) hv⟩, (va_Zq.moved hv ((va_Zq.kept h12 hq).narrow hAB))⟩
/-- a method's start: its world, the tables, and what nobody writes -/
def kP (dC : Nat → ClassId) (dI : Nat → Nat → Nat) (z zK zV : Nat → Nat) (av : List Value) (sz : Nat) (ws : va_W) (tys : List (ClassId × FieldType)) : Array Value → State → Prop :=
  va_Pc av (fun U => U.heap.size = sz ∧ va_P (dC, dI) vwCl ws U.heap ∧ va_K (dC, dI) vwCl tys U ∧ va_D (fun _ => True) ws ∧ am z zK zV (va_A ws sz) U U.heap)
theorem kP_blind {dC : Nat → ClassId} {dI : Nat → Nat → Nat} {z zK zV : Nat → Nat} {av : List Value} {sz : Nat} {ws : va_W} {tys : List (ClassId × FieldType)} : FrameBlind (kP dC dI z zK zV av sz ws tys) := fun a U g mk q => by
  obtain ⟨q0, q1, qP, qK, qD, qM⟩ := q
  exact ⟨q0, q1, qP, va_K.moved (u := U) (U := U.calling g mk a) (Vm.Alike.refl U.vm) qK, qD, qM.go (U := U.calling g mk a) (fun _ _ _ => rfl) (fun _ h => h) (State.WarmedH.refl U)⟩
theorem kP_go {dC : Nat → ClassId} {dI : Nat → Nat → Nat} {z zK zV : Nat → Nat} {av : List Value} {wc : va_W} {tc : List (ClassId × FieldType)} {s : State} {A0 : Nat → Prop} {H : Heap} {locs : List Loc} (hPc : va_P (dC, dI) vwCl wc H) (hKc : va_K (dC, dI) vwCl tc s) (hDc : va_D A0 wc) (hFc : ∀ q, va_A wc H.size q → A0 q) (hM : am z zK zV A0 s s.heap) (hS : va_S A0 s.heap H locs) : ∀ U : State, U.heap = H → s.WarmedH U.vm → kP dC dI z zK zV av H.size wc tc av.toArray U := fun U hU hW =>
  ⟨rfl, by rw [hU], by rw [hU]; exact hPc, va_K.moved hW.alike hKc, hDc.weaken (fun _ _ _ _ => trivial), by rw [hU]; exact hM.go hS.2.1 hFc hW⟩
/-- a method's end: its world -/
def kB (D : va_G) (A : Nat → Prop) (ws : va_W) (tys : List (ClassId × FieldType)) (t : State) : Prop := va_P D vwCl ws t.heap ∧ va_K D vwCl tys t ∧ va_D A ws
theorem kB_end {D : va_G} {A : Nat → Prop} {ws w9 : va_W} {tys t9 : List (ClassId × FieldType)} {s : State} {H : Heap} (hP : va_P D vwCl ws H) (hK : va_K D vwCl tys s) (hD : va_D A ws) (is it : List Nat) (h1 : is.filterMap (fun i => ws[i]?) = w9) (hn : va_nd is = true) (h2 : is.map (fun i => ws[i]?) = w9.map some) (h3 : it.filterMap (fun i => tys[i]?) = t9) (t : State) (ht : t.heap = H) (hW : s.WarmedH t.vm) : kB D A w9 t9 t :=
  ⟨by rw [ht]; exact hP.sub is h1, va_K.moved hW.alike (hK.sub it h3), hD.sub is hn h2⟩
theorem kJ {D : va_G} {A0 : Nat → Prop} {ws wc wr w1 : va_W} {tys t1 : List (ClassId × FieldType)} {s t : State} {H H1 : Heap} (hP : va_P D vwCl ws H) (hD : va_D A0 ws) (hK : va_K D vwCl tys s) (isC isR : List Nat) (hC : isC.map (fun i => ws[i]?) = wc.map some) (hR : isR.map (fun i => ws[i]?) = wr.map some) (hn : va_nd isR = true) (hdis : ∀ i ∈ isR, i ∉ isC) (hk : ∀ q : Nat, q < H.size → ¬ va_A wc H.size q → H1[q]? = H[q]?) (hF : ∀ q, va_A wc H.size q → A0 q) (ht : t.heap = H1) (hvm : s.vm.Alike t.vm) (hB : kB D (va_A wc H.size) w1 t1 t) : va_P D vwCl (wr ++ w1) H1 ∧ va_D A0 (wr ++ w1) ∧ va_K D vwCl (tys ++ t1) s := by
  obtain ⟨hP1, hK1, hD1⟩ := hB
  rw [ht] at hP1
  obtain ⟨a, b⟩ := va_join hP hD isC isR hC hR hn hdis hk hF hP1 hD1
  exact ⟨a, b, hK.app (va_K.moved hvm.symm hK1)⟩
