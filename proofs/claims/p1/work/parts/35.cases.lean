theorem dL_law_638 : decode cL_law 638 = .ok (.aload_n 1, 1) := by decide +kernel
theorem dL_law_639 : decode cL_law 639 = .ok (.invokevirtual 125, 3) := by decide +kernel
theorem dL_law_642 : decode cL_law 642 = .ok (.aload_n 2, 1) := by decide +kernel
theorem dL_law_643 : decode cL_law 643 = .ok (.invokevirtual 128, 3) := by decide +kernel
theorem dL_law_646 : decode cL_law 646 = .ok (.if_icmp .eq 1038, 3) := by decide +kernel
theorem dL_law_651 : decode cL_law 651 = .ok (.aload_n 1, 1) := by decide +kernel
theorem dL_law_652 : decode cL_law 652 = .ok (.invokevirtual 129, 3) := by decide +kernel
theorem dL_law_655 : decode cL_law 655 = .ok (.aload_n 2, 1) := by decide +kernel
theorem dL_law_656 : decode cL_law 656 = .ok (.invokevirtual 132, 3) := by decide +kernel
theorem dL_law_659 : decode cL_law 659 = .ok (.if_icmp .eq 1025, 3) := by decide +kernel
theorem dL_law_1016 : decode cL_law 1016 = .ok (.aload_n 1, 1) := by decide +kernel
theorem dL_law_1017 : decode cL_law 1017 = .ok (.invokevirtual 153, 3) := by decide +kernel
theorem dL_law_1020 : decode cL_law 1020 = .ok (.aload_n 2, 1) := by decide +kernel
theorem dL_law_1021 : decode cL_law 1021 = .ok (.invokevirtual 156, 3) := by decide +kernel
theorem dL_law_1024 : decode cL_law 1024 = .ok (.if_icmp .eq 660, 3) := by decide +kernel
theorem dL_law_1029 : decode cL_law 1029 = .ok (.aload_n 1, 1) := by decide +kernel
theorem dL_law_1030 : decode cL_law 1030 = .ok (.invokevirtual 157, 3) := by decide +kernel
theorem dL_law_1033 : decode cL_law 1033 = .ok (.aload_n 2, 1) := by decide +kernel
theorem dL_law_1034 : decode cL_law 1034 = .ok (.invokevirtual 160, 3) := by decide +kernel
theorem dL_law_1037 : decode cL_law 1037 = .ok (.if_icmp .eq 647, 3) := by decide +kernel
theorem dL_law_1042 : decode cL_law 1042 = .ok (.aload_n 1, 1) := by decide +kernel
theorem dL_law_1043 : decode cL_law 1043 = .ok (.invokevirtual 161, 3) := by decide +kernel
theorem dL_law_1046 : decode cL_law 1046 = .ok (.aload_n 2, 1) := by decide +kernel
theorem dL_law_1047 : decode cL_law 1047 = .ok (.invokevirtual 164, 3) := by decide +kernel
theorem dL_law_1050 : decode cL_law 1050 = .ok (.if_icmp .eq 634, 3) := by decide +kernel
theorem dL_law_1055 : decode cL_law 1055 = .ok (.aload_n 1, 1) := by decide +kernel
theorem dL_law_1056 : decode cL_law 1056 = .ok (.invokevirtual 165, 3) := by decide +kernel
theorem dL_law_1059 : decode cL_law 1059 = .ok (.aload_n 2, 1) := by decide +kernel
theorem dL_law_1060 : decode cL_law 1060 = .ok (.invokevirtual 169, 3) := by decide +kernel
theorem dL_law_1063 : decode cL_law 1063 = .ok (.lcmp, 1) := by decide +kernel
theorem dL_law_1064 : decode cL_law 1064 = .ok (.ifCond .eq 620, 3) := by decide +kernel
theorem dL_law_1264 : decode cL_law 1264 = .ok (.aload_n 1, 1) := by decide +kernel
theorem dL_law_1265 : decode cL_law 1265 = .ok (.aload_n 0, 1) := by decide +kernel
theorem dL_law_1266 : decode cL_law 1266 = .ok (.iload 5, 2) := by decide +kernel
theorem dL_law_1268 : decode cL_law 1268 = .ok (.iconst 1, 1) := by decide +kernel
theorem dL_law_1269 : decode cL_law 1269 = .ok (.iadd, 1) := by decide +kernel
theorem dL_law_1270 : decode cL_law 1270 = .ok (.iaload, 1) := by decide +kernel
theorem dL_law_1271 : decode cL_law 1271 = .ok (.aload_n 3, 1) := by decide +kernel
theorem dL_law_1272 : decode cL_law 1272 = .ok (.invokestatic 187, 3) := by decide +kernel
theorem dL_law_1275 : decode cL_law 1275 = .ok (.istore 6, 2) := by decide +kernel
theorem dL_law_1277 : decode cL_law 1277 = .ok (.aload_n 2, 1) := by decide +kernel
theorem dL_law_1278 : decode cL_law 1278 = .ok (.aload_n 0, 1) := by decide +kernel
theorem dL_law_1279 : decode cL_law 1279 = .ok (.iload 5, 2) := by decide +kernel
theorem dL_law_1281 : decode cL_law 1281 = .ok (.iconst 1, 1) := by decide +kernel
theorem dL_law_1282 : decode cL_law 1282 = .ok (.iadd, 1) := by decide +kernel
theorem dL_law_1283 : decode cL_law 1283 = .ok (.iaload, 1) := by decide +kernel
theorem dL_law_1284 : decode cL_law 1284 = .ok (.invokevirtual 189, 3) := by decide +kernel
theorem dL_law_1287 : decode cL_law 1287 = .ok (.istore 7, 2) := by decide +kernel
theorem dL_law_1289 : decode cL_law 1289 = .ok (.aload_n 2, 1) := by decide +kernel
theorem dL_law_1290 : decode cL_law 1290 = .ok (.invokevirtual 100, 3) := by decide +kernel
theorem dL_law_1293 : decode cL_law 1293 = .ok (.iload 6, 2) := by decide +kernel
theorem dL_law_1295 : decode cL_law 1295 = .ok (.if_icmp .eq 5, 3) := by decide +kernel
theorem dL_law_1298 : decode cL_law 1298 = .ok (.iconst 0, 1) := by decide +kernel
theorem dL_law_1300 : decode cL_law 1300 = .ok (.iload 6, 2) := by decide +kernel
theorem dL_law_1302 : decode cL_law 1302 = .ok (.ifCond .ne 15, 3) := by decide +kernel
theorem dL_law_1305 : decode cL_law 1305 = .ok (.aload_n 3, 1) := by decide +kernel
theorem dL_law_1306 : decode cL_law 1306 = .ok (.iconst 0, 1) := by decide +kernel
theorem dL_law_1307 : decode cL_law 1307 = .ok (.laload, 1) := by decide +kernel
theorem dL_law_1308 : decode cL_law 1308 = .ok (.iload 7, 2) := by decide +kernel
theorem dL_law_1310 : decode cL_law 1310 = .ok (.i2l, 1) := by decide +kernel
theorem dL_law_1311 : decode cL_law 1311 = .ok (.lcmp, 1) := by decide +kernel
theorem dL_law_1312 : decode cL_law 1312 = .ok (.ifCond .eq 5, 3) := by decide +kernel
theorem dL_law_1317 : decode cL_law 1317 = .ok (.goto 367, 3) := by decide +kernel
theorem dL_law_1320 : decode cL_law 1320 = .ok (.aload_n 1, 1) := by decide +kernel
theorem dL_law_1321 : decode cL_law 1321 = .ok (.aload_n 0, 1) := by decide +kernel
theorem dL_law_1322 : decode cL_law 1322 = .ok (.iload 5, 2) := by decide +kernel
theorem dL_law_1324 : decode cL_law 1324 = .ok (.iconst 1, 1) := by decide +kernel
theorem dL_law_1325 : decode cL_law 1325 = .ok (.iadd, 1) := by decide +kernel
theorem dL_law_1326 : decode cL_law 1326 = .ok (.iaload, 1) := by decide +kernel
theorem dL_law_1327 : decode cL_law 1327 = .ok (.aload_n 3, 1) := by decide +kernel
theorem dL_law_1328 : decode cL_law 1328 = .ok (.invokestatic 190, 3) := by decide +kernel
theorem dL_law_1331 : decode cL_law 1331 = .ok (.istore 6, 2) := by decide +kernel
theorem dL_law_1333 : decode cL_law 1333 = .ok (.aload_n 2, 1) := by decide +kernel
theorem dL_law_1334 : decode cL_law 1334 = .ok (.aload_n 0, 1) := by decide +kernel
theorem dL_law_1335 : decode cL_law 1335 = .ok (.iload 5, 2) := by decide +kernel
theorem dL_law_1337 : decode cL_law 1337 = .ok (.iconst 1, 1) := by decide +kernel
theorem dL_law_1338 : decode cL_law 1338 = .ok (.iadd, 1) := by decide +kernel
theorem dL_law_1339 : decode cL_law 1339 = .ok (.iaload, 1) := by decide +kernel
theorem dL_law_1340 : decode cL_law 1340 = .ok (.invokevirtual 192, 3) := by decide +kernel
theorem dL_law_1343 : decode cL_law 1343 = .ok (.istore 7, 2) := by decide +kernel
theorem dL_law_1345 : decode cL_law 1345 = .ok (.aload_n 2, 1) := by decide +kernel
theorem dL_law_1346 : decode cL_law 1346 = .ok (.invokevirtual 100, 3) := by decide +kernel
theorem dL_law_1349 : decode cL_law 1349 = .ok (.iload 6, 2) := by decide +kernel
theorem dL_law_1351 : decode cL_law 1351 = .ok (.if_icmp .eq 5, 3) := by decide +kernel
theorem dL_law_1354 : decode cL_law 1354 = .ok (.iconst 0, 1) := by decide +kernel
theorem dL_law_1356 : decode cL_law 1356 = .ok (.iload 6, 2) := by decide +kernel
theorem dL_law_1358 : decode cL_law 1358 = .ok (.ifCond .ne 22, 3) := by decide +kernel
theorem dL_law_1361 : decode cL_law 1361 = .ok (.aload_n 3, 1) := by decide +kernel
theorem dL_law_1362 : decode cL_law 1362 = .ok (.iconst 0, 1) := by decide +kernel
theorem dL_law_1363 : decode cL_law 1363 = .ok (.laload, 1) := by decide +kernel
theorem dL_law_1364 : decode cL_law 1364 = .ok (.iload 7, 2) := by decide +kernel
theorem dL_law_1366 : decode cL_law 1366 = .ok (.ifCond .eq 7, 3) := by decide +kernel
theorem dL_law_1373 : decode cL_law 1373 = .ok (.lconst 0, 1) := by decide +kernel
theorem dL_law_1374 : decode cL_law 1374 = .ok (.lcmp, 1) := by decide +kernel
theorem dL_law_1375 : decode cL_law 1375 = .ok (.ifCond .eq 5, 3) := by decide +kernel
theorem dL_law_1380 : decode cL_law 1380 = .ok (.goto 304, 3) := by decide +kernel
set_option maxHeartbeats 8000000 in
set_option maxRecDepth 100000 in
theorem la_strength8 {p : Program} {l : Launch} {e : Env} {s : State} {m : MethodId} {below : List Frame} {meth : Method} {c : Code} {dC : Nat → ClassId} {dI : Nat → Nat → Nat} {z zK zV : Nat → Nat} {b : Nat} {xs : Nat → Int32} {A : Nat → Prop} (hst : l.stackTraces = false) (C0 : lw_At p s m meth c b 4 xs) (hM : am z zK zV A s s.heap) (hA : ∀ q : Nat, s.heap.size ≤ q → A q) (hAl : ∀ q : Nat, A q → s.heap.size ≤ q) (sh : Nat) (rg : Nat) (mf : Nat) (mm : Nat) (mz : Nat) (ma : Nat) (sa : Nat) (s0 : Nat) (s1 : Nat) (s2 : Nat) (s3 : Nat) (s4 : Nat) (s5 : Nat) (s6 : Nat) (s7 : Nat) (s8 : Nat) (dk : Nat) (hd : Nat) (lg : Nat) (pl : Nat) (pr : Nat) (cS : ClassId) (x : Nat) (tl : Nat) (tw : Nat) (mo : Nat) (ti : Nat) (si : Nat) (lo : Nat) (lh : Nat) (lk : Nat) (sp : Nat) (st : Nat) (pa : Nat) (br : Nat) (sg : Nat) (cst : ClassId) (ou : Nat) (co : ClassId) (of_ : Nat → Int64) (od_ : Nat)  (hs1 : xs 1 = 8) (H : Heap) (locs : List Loc) (hK : va_K (dC, dI) vwCl [(cS, .object RX8), (cst, .int), (co, .long)] s) (hP : va_P (dC, dI) vwCl [(x, .inr (15, [.ref sh, .ref tl, .ref tw, .int 0])), (sh, .inr (13, [.ref rg, .ref dk, .ref hd, .ref lg, .ref pl, .ref pr, .int 0, .int 0, .int 0, .int 0, .int 0, .int 0, .int 0, .int 0, .int 0, .int 0, .int 0])), (rg, .inr (11, [.ref mf, .ref mm, .ref mz, .ref ma, .ref sa, .int 0])), (sa, .inl (cS, 9, .inr (.inr (.inr (.inr (va_up (va_up (va_up (va_up (va_up (va_up (va_up (va_up (va_up (fun _ => none) 0 (some s0)) 1 (some s1)) 2 (some s2)) 3 (some s3)) 4 (some s4)) 5 (some s5)) 6 (some s6)) 7 (some s7)) 8 (some s8))))))), (s8, .inr (12, [.int 6, .int 4, .ref mz, .int 0, .int 0, .int 900, .int 0, .int 0])), (mo, .inr (19, [.int 0, .int 0, .int 0, .int 0, .int 0, .int 0, .int 0, .ref ti, .ref si, .ref lo, .ref lh, .ref lk, .ref sp, .ref st, .ref pa, .ref br, .ref sg, .int 0, .int 0, .int 0, .int 0, .int 0, .int 0, .long 0, .long 0, .long 0, .long 0, .int 0])), (st, .inl (cst, 9, .inl (upd (upd (upd (upd (upd (upd (upd (upd (upd (fun _ => 0) 0 900) 1 900) 2 900) 3 900) 4 900) 5 900) 6 900) 7 900) 8 900))), (ou, .inl (co, 1, .inr (.inl of_)))] H) (hD : va_D A [(x, .inr (15, [.ref sh, .ref tl, .ref tw, .int 0])), (sh, .inr (13, [.ref rg, .ref dk, .ref hd, .ref lg, .ref pl, .ref pr, .int 0, .int 0, .int 0, .int 0, .int 0, .int 0, .int 0, .int 0, .int 0, .int 0, .int 0])), (rg, .inr (11, [.ref mf, .ref mm, .ref mz, .ref ma, .ref sa, .int 0])), (sa, .inl (cS, 9, .inr (.inr (.inr (.inr (va_up (va_up (va_up (va_up (va_up (va_up (va_up (va_up (va_up (fun _ => none) 0 (some s0)) 1 (some s1)) 2 (some s2)) 3 (some s3)) 4 (some s4)) 5 (some s5)) 6 (some s6)) 7 (some s7)) 8 (some s8))))))), (s8, .inr (12, [.int 6, .int 4, .ref mz, .int 0, .int 0, .int 900, .int 0, .int 0])), (mo, .inr (19, [.int 0, .int 0, .int 0, .int 0, .int 0, .int 0, .int 0, .ref ti, .ref si, .ref lo, .ref lh, .ref lk, .ref sp, .ref st, .ref pa, .ref br, .ref sg, .int 0, .int 0, .int 0, .int 0, .int 0, .int 0, .long 0, .long 0, .long 0, .long 0, .int 0])), (st, .inl (cst, 9, .inl (upd (upd (upd (upd (upd (upd (upd (upd (upd (fun _ => 0) 0 900) 1 900) 2 900) 3 900) 4 900) 5 900) 6 900) 7 900) 8 900))), (ou, .inl (co, 1, .inr (.inl of_)))]) (hS : va_S A s.heap H locs) (ls : Array Slot) (hl : lv_has ls 10 [(0, .ref b), (1, .ref x), (2, .ref mo), (3, .ref ou), (4, .ref od_), (5, .int 0)]) : W p l e room_1 s m #[Value.ref b] below meth c H locs 100 1400 (lw_Z below #[Value.ref b] s) (F0 m 1208 ls []) := by
  obtain ⟨hx, hb, hr, hml, hown, hts, hX, hbl, hlocks, hgv⟩ := id C0
  have hbA : ¬ A b := fun h => absurd (hAl b h) (Nat.not_le.mpr hbl)
  refine lv_aload_n hx hb dL_law_1208 rfl (lv_at hl 1 rfl) ?_
  refine lv_aload_n hx hb dL_law_1209 rfl (lv_at hl 0 rfl) ?_
  refine lv_iload hx hb dL_law_1210 (lv_at hl 5 rfl) ?_
  refine lv_iconst (v := 1) hx hb dL_law_1212 (by decide) ?_
  refine lv_iadd hx hb dL_law_1213 ?_
  refine kc_i (y := 1) (by decide +kernel) ?_
  refine va_sld hx hb hX hbl hbA hS (pk_in 1 4 (by decide) rfl) dL_law_1214 ?_
  refine kc_i (y := 8) (hs1 : xs 1 = 8) ?_
  refine lv_aload_n hx hb dL_law_1215 rfl (lv_at hl 3 rfl) ?_
  have hPc := hP.sub (ws' := [(x, .inr (15, [.ref sh, .ref tl, .ref tw, .int 0])), (sh, .inr (13, [.ref rg, .ref dk, .ref hd, .ref lg, .ref pl, .ref pr, .int 0, .int 0, .int 0, .int 0, .int 0, .int 0, .int 0, .int 0, .int 0, .int 0, .int 0])), (rg, .inr (11, [.ref mf, .ref mm, .ref mz, .ref ma, .ref sa, .int 0])), (sa, .inl (cS, 9, .inr (.inr (.inr (.inr (va_up (va_up (va_up (va_up (va_up (va_up (va_up (va_up (va_up (fun _ => none) 0 (some s0)) 1 (some s1)) 2 (some s2)) 3 (some s3)) 4 (some s4)) 5 (some s5)) 6 (some s6)) 7 (some s7)) 8 (some s8))))))), (s8, .inr (12, [.int 6, .int 4, .ref mz, .int 0, .int 0, .int 900, .int 0, .int 0])), (ou, .inl (co, 1, .inr (.inl of_)))]) [0, 1, 2, 3, 4, 7] rfl
  have hDc := hD.sub (ws' := [(x, .inr (15, [.ref sh, .ref tl, .ref tw, .int 0])), (sh, .inr (13, [.ref rg, .ref dk, .ref hd, .ref lg, .ref pl, .ref pr, .int 0, .int 0, .int 0, .int 0, .int 0, .int 0, .int 0, .int 0, .int 0, .int 0, .int 0])), (rg, .inr (11, [.ref mf, .ref mm, .ref mz, .ref ma, .ref sa, .int 0])), (sa, .inl (cS, 9, .inr (.inr (.inr (.inr (va_up (va_up (va_up (va_up (va_up (va_up (va_up (va_up (va_up (fun _ => none) 0 (some s0)) 1 (some s1)) 2 (some s2)) 3 (some s3)) 4 (some s4)) 5 (some s5)) 6 (some s6)) 7 (some s7)) 8 (some s8))))))), (s8, .inr (12, [.int 6, .int 4, .ref mz, .int 0, .int 0, .int 900, .int 0, .int 0])), (ou, .inl (co, 1, .inr (.inl of_)))]) [0, 1, 2, 3, 4, 7] (by decide) rfl
  have hKc := hK.sub (tys' := [(cS, .object RX8), (co, .long)]) [0, 2] rfl
  have hFc := va_free (wc := [(x, .inr (15, [.ref sh, .ref tl, .ref tw, .int 0])), (sh, .inr (13, [.ref rg, .ref dk, .ref hd, .ref lg, .ref pl, .ref pr, .int 0, .int 0, .int 0, .int 0, .int 0, .int 0, .int 0, .int 0, .int 0, .int 0, .int 0])), (rg, .inr (11, [.ref mf, .ref mm, .ref mz, .ref ma, .ref sa, .int 0])), (sa, .inl (cS, 9, .inr (.inr (.inr (.inr (va_up (va_up (va_up (va_up (va_up (va_up (va_up (va_up (va_up (fun _ => none) 0 (some s0)) 1 (some s1)) 2 (some s2)) 3 (some s3)) 4 (some s4)) 5 (some s5)) 6 (some s6)) 7 (some s7)) 8 (some s8))))))), (s8, .inr (12, [.int 6, .int 4, .ref mz, .int 0, .int 0, .int 900, .int 0, .int 0])), (ou, .inl (co, 1, .inr (.inl of_)))]) hD hS hA [0, 1, 2, 3, 4, 7] rfl
  refine va_calli (vx_runSW (As := [.ref x, .int 8, .ref ou]) (rest := []) ⟨hx, hb, hml, hown, hts⟩ (k_l_strength8 l dC dI z zK zV sh rg mf mm mz ma sa s0 s1 s2 s3 s4 s5 s6 s7 s8 dk hd lg pl pr cS x tl tw ou co of_ H.size) (vx_cwSW 3 hts hL_L_strength_184 rfl rfl rfl (by decide +kernel) ⟨Nat.le_of_ble_eq_true rfl, Nat.le_of_ble_eq_true rfl⟩) ⟨kP_blind, kP_go hPc hKc hDc hFc hM hS⟩ rfl rfl hl.1 rfl (lv_room (Nat.le_of_ble_eq_true rfl)) dL_law_1216 ⟨Nat.le_of_ble_eq_true rfl, Nat.le_of_ble_eq_true rfl⟩) hS (fun q _ h => hFc q h) hFc (fun r1 u t H1 locs ht hvm hw hB hz1 hk1 hS => ?_)
  obtain ⟨hP, hD, hK⟩ := kJ (wr := [(mo, .inr (19, [.int 0, .int 0, .int 0, .int 0, .int 0, .int 0, .int 0, .ref ti, .ref si, .ref lo, .ref lh, .ref lk, .ref sp, .ref st, .ref pa, .ref br, .ref sg, .int 0, .int 0, .int 0, .int 0, .int 0, .int 0, .long 0, .long 0, .long 0, .long 0, .int 0])), (st, .inl (cst, 9, .inl (upd (upd (upd (upd (upd (upd (upd (upd (upd (fun _ => 0) 0 900) 1 900) 2 900) 3 900) 4 900) 5 900) 6 900) 7 900) 8 900)))]) (w1 := [(ou, .inl (co, 1, .inr (.inl (vp_updL of_ 0 900))))]) (t1 := []) hP hD hK [0, 1, 2, 3, 4, 7] [5, 6] rfl rfl (by decide) (by decide) hk1 hFc ht hvm hB
  generalize H1 = H at hP hS ⊢
  have hP : va_P (dC, dI) vwCl [(mo, .inr (19, [.int 0, .int 0, .int 0, .int 0, .int 0, .int 0, .int 0, .ref ti, .ref si, .ref lo, .ref lh, .ref lk, .ref sp, .ref st, .ref pa, .ref br, .ref sg, .int 0, .int 0, .int 0, .int 0, .int 0, .int 0, .long 0, .long 0, .long 0, .long 0, .int 0])), (st, .inl (cst, 9, .inl (upd (upd (upd (upd (upd (upd (upd (upd (upd (fun _ => 0) 0 900) 1 900) 2 900) 3 900) 4 900) 5 900) 6 900) 7 900) 8 900))), (ou, .inl (co, 1, .inr (.inl (vp_updL of_ 0 900))))] H := hP
  have hD : va_D A [(mo, .inr (19, [.int 0, .int 0, .int 0, .int 0, .int 0, .int 0, .int 0, .ref ti, .ref si, .ref lo, .ref lh, .ref lk, .ref sp, .ref st, .ref pa, .ref br, .ref sg, .int 0, .int 0, .int 0, .int 0, .int 0, .int 0, .long 0, .long 0, .long 0, .long 0, .int 0])), (st, .inl (cst, 9, .inl (upd (upd (upd (upd (upd (upd (upd (upd (upd (fun _ => 0) 0 900) 1 900) 2 900) 3 900) 4 900) 5 900) 6 900) 7 900) 8 900))), (ou, .inl (co, 1, .inr (.inl (vp_updL of_ 0 900))))] := hD
  have hK : va_K (dC, dI) vwCl [(cS, .object RX8), (cst, .int), (co, .long)] s := hK
  obtain rfl : 0 = r1 := hw
  refine lv_istore (lv' := [(6, .int 0), (0, .ref b), (1, .ref x), (2, .ref mo), (3, .ref ou), (4, .ref od_), (5, .int 0)]) hx hb dL_law_1219 hl (by decide) rfl (fun ls hl => ?_)
  refine lv_aload_n hx hb dL_law_1221 rfl (lv_at hl 3 rfl) ?_
  refine lv_aload_n hx hb dL_law_1222 rfl (lv_at hl 1 rfl) ?_
  refine lv_iload hx hb dL_law_1223 (lv_at hl 6 rfl) ?_
  refine lv_iconst (v := 1) hx hb dL_law_1225 (by decide) ?_
  refine lv_iadd hx hb dL_law_1226 ?_
  refine kc_i (y := 1) (by decide +kernel) ?_
  refine va_sld hx hb hX hbl hbA hS (pk_in 1 4 (by decide) rfl) dL_law_1227 ?_
  refine kc_i (y := 8) (hs1 : xs 1 = 8) ?_
  have hPc := hP.sub (ws' := [(mo, .inr (19, [.int 0, .int 0, .int 0, .int 0, .int 0, .int 0, .int 0, .ref ti, .ref si, .ref lo, .ref lh, .ref lk, .ref sp, .ref st, .ref pa, .ref br, .ref sg, .int 0, .int 0, .int 0, .int 0, .int 0, .int 0, .long 0, .long 0, .long 0, .long 0, .int 0])), (st, .inl (cst, 9, .inl (upd (upd (upd (upd (upd (upd (upd (upd (upd (fun _ => 0) 0 900) 1 900) 2 900) 3 900) 4 900) 5 900) 6 900) 7 900) 8 900)))]) [0, 1] rfl
  have hDc := hD.sub (ws' := [(mo, .inr (19, [.int 0, .int 0, .int 0, .int 0, .int 0, .int 0, .int 0, .ref ti, .ref si, .ref lo, .ref lh, .ref lk, .ref sp, .ref st, .ref pa, .ref br, .ref sg, .int 0, .int 0, .int 0, .int 0, .int 0, .int 0, .long 0, .long 0, .long 0, .long 0, .int 0])), (st, .inl (cst, 9, .inl (upd (upd (upd (upd (upd (upd (upd (upd (upd (fun _ => 0) 0 900) 1 900) 2 900) 3 900) 4 900) 5 900) 6 900) 7 900) 8 900)))]) [0, 1] (by decide) rfl
  have hKc := hK.sub (tys' := [(cst, .int)]) [1] rfl
  have hFc := va_free (wc := [(mo, .inr (19, [.int 0, .int 0, .int 0, .int 0, .int 0, .int 0, .int 0, .ref ti, .ref si, .ref lo, .ref lh, .ref lk, .ref sp, .ref st, .ref pa, .ref br, .ref sg, .int 0, .int 0, .int 0, .int 0, .int 0, .int 0, .long 0, .long 0, .long 0, .long 0, .int 0])), (st, .inl (cst, 9, .inl (upd (upd (upd (upd (upd (upd (upd (upd (upd (fun _ => 0) 0 900) 1 900) 2 900) 3 900) 4 900) 5 900) 6 900) 7 900) 8 900)))]) hD hS hA [0, 1] rfl
  refine va_calli (va_runV (As := [.int 8]) (rest := []) ⟨hx, hb, hml, hown, hts⟩ (k_m_strength8 l dC dI z zK zV mo ti si lo lh lk sp st pa br sg cst 0 H.size) (cwV 1 hts hL_X15_strength_186 rfl rfl rfl (by decide +kernel) ⟨Nat.le_of_ble_eq_true rfl, Nat.le_of_ble_eq_true rfl⟩) ⟨kP_blind, va_recv hKc hPc (ci := 19) (q0 := 0) rfl rfl, kP_go hPc hKc hDc hFc hM hS⟩ rfl rfl hl.1 rfl (lv_room (Nat.le_of_ble_eq_true rfl)) dL_law_1228 ⟨Nat.le_of_ble_eq_true rfl, Nat.le_of_ble_eq_true rfl⟩) hS (fun q _ h => hFc q h) hFc (fun r2 u t H1 locs ht hvm hw hB hz1 hk1 hS => ?_)
  obtain ⟨hP, hD, hK⟩ := kJ (wr := [(ou, .inl (co, 1, .inr (.inl (vp_updL of_ 0 900))))]) (w1 := [(mo, .inr (19, [.int 0, .int 0, .int 0, .int 0, .int 0, .int 0, .int 0, .ref ti, .ref si, .ref lo, .ref lh, .ref lk, .ref sp, .ref st, .ref pa, .ref br, .ref sg, .int 0, .int 0, .int 0, .int 0, .int 0, .int 0, .long 0, .long 0, .long 0, .long 0, .int 0]))]) (t1 := []) hP hD hK [0, 1] [2] rfl rfl (by decide) (by decide) hk1 hFc ht hvm hB
  generalize H1 = H at hP hS ⊢
  have hP : va_P (dC, dI) vwCl [(ou, .inl (co, 1, .inr (.inl (vp_updL of_ 0 900)))), (mo, .inr (19, [.int 0, .int 0, .int 0, .int 0, .int 0, .int 0, .int 0, .ref ti, .ref si, .ref lo, .ref lh, .ref lk, .ref sp, .ref st, .ref pa, .ref br, .ref sg, .int 0, .int 0, .int 0, .int 0, .int 0, .int 0, .long 0, .long 0, .long 0, .long 0, .int 0]))] H := hP
  have hD : va_D A [(ou, .inl (co, 1, .inr (.inl (vp_updL of_ 0 900)))), (mo, .inr (19, [.int 0, .int 0, .int 0, .int 0, .int 0, .int 0, .int 0, .ref ti, .ref si, .ref lo, .ref lh, .ref lk, .ref sp, .ref st, .ref pa, .ref br, .ref sg, .int 0, .int 0, .int 0, .int 0, .int 0, .int 0, .long 0, .long 0, .long 0, .long 0, .int 0]))] := hD
  have hK : va_K (dC, dI) vwCl [(cS, .object RX8), (cst, .int), (co, .long)] s := hK
  obtain rfl : 900 = r2 := hw
  refine lv_istore (lv' := [(7, .int 900), (6, .int 0), (0, .ref b), (1, .ref x), (2, .ref mo), (3, .ref ou), (4, .ref od_), (5, .int 0)]) hx hb dL_law_1231 hl (by decide) rfl (fun ls hl => ?_)
  refine lv_aload_n hx hb dL_law_1233 rfl (lv_at hl 4 rfl) ?_
  have hPc := hP.sub (ws' := [(mo, .inr (19, [.int 0, .int 0, .int 0, .int 0, .int 0, .int 0, .int 0, .ref ti, .ref si, .ref lo, .ref lh, .ref lk, .ref sp, .ref st, .ref pa, .ref br, .ref sg, .int 0, .int 0, .int 0, .int 0, .int 0, .int 0, .long 0, .long 0, .long 0, .long 0, .int 0]))]) [1] rfl
  have hDc := hD.sub (ws' := [(mo, .inr (19, [.int 0, .int 0, .int 0, .int 0, .int 0, .int 0, .int 0, .ref ti, .ref si, .ref lo, .ref lh, .ref lk, .ref sp, .ref st, .ref pa, .ref br, .ref sg, .int 0, .int 0, .int 0, .int 0, .int 0, .int 0, .long 0, .long 0, .long 0, .long 0, .int 0]))]) [1] (by decide) rfl
  have hKc := hK.sub (tys' := []) [] rfl
  have hFc := va_free (wc := [(mo, .inr (19, [.int 0, .int 0, .int 0, .int 0, .int 0, .int 0, .int 0, .ref ti, .ref si, .ref lo, .ref lh, .ref lk, .ref sp, .ref st, .ref pa, .ref br, .ref sg, .int 0, .int 0, .int 0, .int 0, .int 0, .int 0, .long 0, .long 0, .long 0, .long 0, .int 0]))]) hD hS hA [1] rfl
  refine va_calli (va_runV (As := []) (rest := []) ⟨hx, hb, hml, hown, hts⟩ (k_m_thrown l dC dI z zK zV mo ti si lo lh lk sp st pa br sg 0 0 0 0 0 0 0 0 0 0 0 0 0 0 0 0 0 0 H.size) (cwV 0 hts hL_X15_thrown_100 rfl rfl rfl (by decide +kernel) ⟨Nat.le_of_ble_eq_true rfl, Nat.le_of_ble_eq_true rfl⟩) ⟨kP_blind, va_recv hKc hPc (ci := 19) (q0 := 0) rfl rfl, kP_go hPc hKc hDc hFc hM hS⟩ rfl rfl hl.1 rfl (lv_room (Nat.le_of_ble_eq_true rfl)) dL_law_1234 ⟨Nat.le_of_ble_eq_true rfl, Nat.le_of_ble_eq_true rfl⟩) hS (fun q _ h => hFc q h) hFc (fun r3 u t H1 locs ht hvm hw hB hz1 hk1 hS => ?_)
  obtain ⟨hP, hD, hK⟩ := kJ (wr := [(ou, .inl (co, 1, .inr (.inl (vp_updL of_ 0 900))))]) (w1 := [(mo, .inr (19, [.int 0, .int 0, .int 0, .int 0, .int 0, .int 0, .int 0, .ref ti, .ref si, .ref lo, .ref lh, .ref lk, .ref sp, .ref st, .ref pa, .ref br, .ref sg, .int 0, .int 0, .int 0, .int 0, .int 0, .int 0, .long 0, .long 0, .long 0, .long 0, .int 0]))]) (t1 := []) hP hD hK [1] [0] rfl rfl (by decide) (by decide) hk1 hFc ht hvm hB
  generalize H1 = H at hP hS ⊢
  have hP : va_P (dC, dI) vwCl [(ou, .inl (co, 1, .inr (.inl (vp_updL of_ 0 900)))), (mo, .inr (19, [.int 0, .int 0, .int 0, .int 0, .int 0, .int 0, .int 0, .ref ti, .ref si, .ref lo, .ref lh, .ref lk, .ref sp, .ref st, .ref pa, .ref br, .ref sg, .int 0, .int 0, .int 0, .int 0, .int 0, .int 0, .long 0, .long 0, .long 0, .long 0, .int 0]))] H := hP
  have hD : va_D A [(ou, .inl (co, 1, .inr (.inl (vp_updL of_ 0 900)))), (mo, .inr (19, [.int 0, .int 0, .int 0, .int 0, .int 0, .int 0, .int 0, .ref ti, .ref si, .ref lo, .ref lh, .ref lk, .ref sp, .ref st, .ref pa, .ref br, .ref sg, .int 0, .int 0, .int 0, .int 0, .int 0, .int 0, .long 0, .long 0, .long 0, .long 0, .int 0]))] := hD
  have hK : va_K (dC, dI) vwCl [(cS, .object RX8), (cst, .int), (co, .long)] s := hK
  obtain rfl : 0 = r3 := hw
  refine lv_iload hx hb dL_law_1237 (lv_at hl 1 rfl) ?_
  refine lv_icmp_eq (tgt := 1244) hx hb dL_law_1239 (by decide) (fun c4 => ?_) (fun c4 => ?_)
  · skip
    refine lv_iload hx hb dL_law_1244 (lv_at hl 1 rfl) ?_
    refine lv_if_ne (tgt := 1261) hx hb dL_law_1246 (by decide) (fun c_ => absurd (by decide +kernel) c_) (fun _ => ?_)
    refine lv_aload_n hx hb dL_law_1249 rfl (lv_at hl 5 rfl) ?_
    refine lv_iconst (v := 0) hx hb dL_law_1250 (by decide) ?_
    refine va_lald hx hb hK hP 0 2 rfl rfl (pk_in 0 1 (by decide) rfl) dL_law_1251 ?_
    refine kc_v (y := .long 900) rfl ?_
    refine lv_iload hx hb dL_law_1252 (lv_at hl 0 rfl) ?_
    refine lv_i2l (v := 900) hx hb dL_law_1254 (by decide +kernel) ?_
    refine W.lcmp hx hb dL_law_1255 ?_
    refine kc_i (y := 0) (by decide +kernel) ?_
    refine lv_if_eq (tgt := 1261) hx hb dL_law_1256 (by decide) (fun _ => ?_) (fun c_ => absurd (by decide +kernel) c_)
    refine lv_goto (tgt := 1684) hx hb dL_law_1261 (by decide) ?_
    exact la_tail hst C0 hA hAl H locs hS ls (lv_sub hl [2, 7] rfl) (by omega) (by omega)
  · skip
    refine lv_iconst (v := 0) hx hb dL_law_1242 (by decide) ?_
    @RET 0 1243 ireturn
set_option maxHeartbeats 8000000 in
set_option maxRecDepth 100000 in
theorem la_strength_bad {p : Program} {l : Launch} {e : Env} {s : State} {m : MethodId} {below : List Frame} {meth : Method} {c : Code} {dC : Nat → ClassId} {dI : Nat → Nat → Nat} {z zK zV : Nat → Nat} {b : Nat} {xs : Nat → Int32} {A : Nat → Prop} (hst : l.stackTraces = false) (C0 : lw_At p s m meth c b 4 xs) (hM : am z zK zV A s s.heap) (hA : ∀ q : Nat, s.heap.size ≤ q → A q) (hAl : ∀ q : Nat, A q → s.heap.size ≤ q) (sh : Nat) (rg : Nat) (mf : Nat) (mm : Nat) (mz : Nat) (ma : Nat) (sa : Nat) (s0 : Nat) (s1 : Nat) (s2 : Nat) (s3 : Nat) (s4 : Nat) (s5 : Nat) (s6 : Nat) (s7 : Nat) (s8 : Nat) (dk : Nat) (hd : Nat) (lg : Nat) (pl : Nat) (pr : Nat) (cS : ClassId) (x : Nat) (tl : Nat) (tw : Nat) (p0 : Int32) (mo : Nat) (ti : Nat) (si : Nat) (lo : Nat) (lh : Nat) (lk : Nat) (sp : Nat) (st : Nat) (pa : Nat) (br : Nat) (sg : Nat) (ou : Nat) (co : ClassId) (of_ : Nat → Int64) (od_ : Nat) (hb0 : ¬ ((0 : Int32) ≤ p0 ∧ p0 ≤ 8)) (hs1 : xs 1 = p0) (H : Heap) (locs : List Loc) (hK : va_K (dC, dI) vwCl [(cS, .object RX8), (co, .long)] s) (hP : va_P (dC, dI) vwCl [(x, .inr (15, [.ref sh, .ref tl, .ref tw, .int 0])), (sh, .inr (13, [.ref rg, .ref dk, .ref hd, .ref lg, .ref pl, .ref pr, .int 0, .int 0, .int 0, .int 0, .int 0, .int 0, .int 0, .int 0, .int 0, .int 0, .int 0])), (rg, .inr (11, [.ref mf, .ref mm, .ref mz, .ref ma, .ref sa, .int 0])), (sa, .inl (cS, 9, .inr (.inr (.inr (.inr (va_up (va_up (va_up (va_up (va_up (va_up (va_up (va_up (va_up (fun _ => none) 0 (some s0)) 1 (some s1)) 2 (some s2)) 3 (some s3)) 4 (some s4)) 5 (some s5)) 6 (some s6)) 7 (some s7)) 8 (some s8))))))), (mo, .inr (19, [.int 0, .int 0, .int 0, .int 0, .int 0, .int 0, .int 0, .ref ti, .ref si, .ref lo, .ref lh, .ref lk, .ref sp, .ref st, .ref pa, .ref br, .ref sg, .int 0, .int 0, .int 0, .int 0, .int 0, .int 0, .long 0, .long 0, .long 0, .long 0, .int 0])), (ou, .inl (co, 1, .inr (.inl of_)))] H) (hD : va_D A [(x, .inr (15, [.ref sh, .ref tl, .ref tw, .int 0])), (sh, .inr (13, [.ref rg, .ref dk, .ref hd, .ref lg, .ref pl, .ref pr, .int 0, .int 0, .int 0, .int 0, .int 0, .int 0, .int 0, .int 0, .int 0, .int 0, .int 0])), (rg, .inr (11, [.ref mf, .ref mm, .ref mz, .ref ma, .ref sa, .int 0])), (sa, .inl (cS, 9, .inr (.inr (.inr (.inr (va_up (va_up (va_up (va_up (va_up (va_up (va_up (va_up (va_up (fun _ => none) 0 (some s0)) 1 (some s1)) 2 (some s2)) 3 (some s3)) 4 (some s4)) 5 (some s5)) 6 (some s6)) 7 (some s7)) 8 (some s8))))))), (mo, .inr (19, [.int 0, .int 0, .int 0, .int 0, .int 0, .int 0, .int 0, .ref ti, .ref si, .ref lo, .ref lh, .ref lk, .ref sp, .ref st, .ref pa, .ref br, .ref sg, .int 0, .int 0, .int 0, .int 0, .int 0, .int 0, .long 0, .long 0, .long 0, .long 0, .int 0])), (ou, .inl (co, 1, .inr (.inl of_)))]) (hS : va_S A s.heap H locs) (ls : Array Slot) (hl : lv_has ls 10 [(0, .ref b), (1, .ref x), (2, .ref mo), (3, .ref ou), (4, .ref od_), (5, .int 0)]) : W p l e room_1 s m #[Value.ref b] below meth c H locs 100 1400 (lw_Z below #[Value.ref b] s) (F0 m 1208 ls []) := by
  obtain ⟨hx, hb, hr, hml, hown, hts, hX, hbl, hlocks, hgv⟩ := id C0
  have hbA : ¬ A b := fun h => absurd (hAl b h) (Nat.not_le.mpr hbl)
  refine lv_aload_n hx hb dL_law_1208 rfl (lv_at hl 1 rfl) ?_
  refine lv_aload_n hx hb dL_law_1209 rfl (lv_at hl 0 rfl) ?_
  refine lv_iload hx hb dL_law_1210 (lv_at hl 5 rfl) ?_
  refine lv_iconst (v := 1) hx hb dL_law_1212 (by decide) ?_
  refine lv_iadd hx hb dL_law_1213 ?_
  refine kc_i (y := 1) (by decide +kernel) ?_
  refine va_sld hx hb hX hbl hbA hS (pk_in 1 4 (by decide) rfl) dL_law_1214 ?_
  refine kc_i (y := p0) (hs1 : xs 1 = p0) ?_
  refine lv_aload_n hx hb dL_law_1215 rfl (lv_at hl 3 rfl) ?_
  have hPc := hP.sub (ws' := [(x, .inr (15, [.ref sh, .ref tl, .ref tw, .int 0])), (sh, .inr (13, [.ref rg, .ref dk, .ref hd, .ref lg, .ref pl, .ref pr, .int 0, .int 0, .int 0, .int 0, .int 0, .int 0, .int 0, .int 0, .int 0, .int 0, .int 0])), (rg, .inr (11, [.ref mf, .ref mm, .ref mz, .ref ma, .ref sa, .int 0])), (sa, .inl (cS, 9, .inr (.inr (.inr (.inr (va_up (va_up (va_up (va_up (va_up (va_up (va_up (va_up (va_up (fun _ => none) 0 (some s0)) 1 (some s1)) 2 (some s2)) 3 (some s3)) 4 (some s4)) 5 (some s5)) 6 (some s6)) 7 (some s7)) 8 (some s8))))))), (ou, .inl (co, 1, .inr (.inl of_)))]) [0, 1, 2, 3, 5] rfl
  have hDc := hD.sub (ws' := [(x, .inr (15, [.ref sh, .ref tl, .ref tw, .int 0])), (sh, .inr (13, [.ref rg, .ref dk, .ref hd, .ref lg, .ref pl, .ref pr, .int 0, .int 0, .int 0, .int 0, .int 0, .int 0, .int 0, .int 0, .int 0, .int 0, .int 0])), (rg, .inr (11, [.ref mf, .ref mm, .ref mz, .ref ma, .ref sa, .int 0])), (sa, .inl (cS, 9, .inr (.inr (.inr (.inr (va_up (va_up (va_up (va_up (va_up (va_up (va_up (va_up (va_up (fun _ => none) 0 (some s0)) 1 (some s1)) 2 (some s2)) 3 (some s3)) 4 (some s4)) 5 (some s5)) 6 (some s6)) 7 (some s7)) 8 (some s8))))))), (ou, .inl (co, 1, .inr (.inl of_)))]) [0, 1, 2, 3, 5] (by decide) rfl
  have hKc := hK.sub (tys' := [(cS, .object RX8), (co, .long)]) [0, 1] rfl
  have hFc := va_free (wc := [(x, .inr (15, [.ref sh, .ref tl, .ref tw, .int 0])), (sh, .inr (13, [.ref rg, .ref dk, .ref hd, .ref lg, .ref pl, .ref pr, .int 0, .int 0, .int 0, .int 0, .int 0, .int 0, .int 0, .int 0, .int 0, .int 0, .int 0])), (rg, .inr (11, [.ref mf, .ref mm, .ref mz, .ref ma, .ref sa, .int 0])), (sa, .inl (cS, 9, .inr (.inr (.inr (.inr (va_up (va_up (va_up (va_up (va_up (va_up (va_up (va_up (va_up (fun _ => none) 0 (some s0)) 1 (some s1)) 2 (some s2)) 3 (some s3)) 4 (some s4)) 5 (some s5)) 6 (some s6)) 7 (some s7)) 8 (some s8))))))), (ou, .inl (co, 1, .inr (.inl of_)))]) hD hS hA [0, 1, 2, 3, 5] rfl
  refine va_calli (vx_runSW (As := [.ref x, .int p0, .ref ou]) (rest := []) ⟨hx, hb, hml, hown, hts⟩ (k_l_strength_bad l dC dI z zK zV sh rg mf mm mz ma sa s0 s1 s2 s3 s4 s5 s6 s7 s8 dk hd lg pl pr cS x tl tw p0 ou co of_ H.size hst ((k_out9 hb0))) (vx_cwSW 3 hts hL_L_strength_184 rfl rfl rfl (by decide +kernel) ⟨Nat.le_of_ble_eq_true rfl, Nat.le_of_ble_eq_true rfl⟩) ⟨kP_blind, kP_go hPc hKc hDc hFc hM hS⟩ rfl rfl hl.1 rfl (lv_room (Nat.le_of_ble_eq_true rfl)) dL_law_1216 ⟨Nat.le_of_ble_eq_true rfl, Nat.le_of_ble_eq_true rfl⟩) hS (fun q _ h => hFc q h) hFc (fun r1 u t H1 locs ht hvm hw hB hz1 hk1 hS => ?_)
  obtain ⟨hP, hD, hK⟩ := kJ (wr := [(mo, .inr (19, [.int 0, .int 0, .int 0, .int 0, .int 0, .int 0, .int 0, .ref ti, .ref si, .ref lo, .ref lh, .ref lk, .ref sp, .ref st, .ref pa, .ref br, .ref sg, .int 0, .int 0, .int 0, .int 0, .int 0, .int 0, .long 0, .long 0, .long 0, .long 0, .int 0]))]) (w1 := []) (t1 := []) hP hD hK [0, 1, 2, 3, 5] [4] rfl rfl (by decide) (by decide) hk1 hFc ht hvm hB
  generalize H1 = H at hP hS ⊢
  have hP : va_P (dC, dI) vwCl [(mo, .inr (19, [.int 0, .int 0, .int 0, .int 0, .int 0, .int 0, .int 0, .ref ti, .ref si, .ref lo, .ref lh, .ref lk, .ref sp, .ref st, .ref pa, .ref br, .ref sg, .int 0, .int 0, .int 0, .int 0, .int 0, .int 0, .long 0, .long 0, .long 0, .long 0, .int 0]))] H := hP
  have hD : va_D A [(mo, .inr (19, [.int 0, .int 0, .int 0, .int 0, .int 0, .int 0, .int 0, .ref ti, .ref si, .ref lo, .ref lh, .ref lk, .ref sp, .ref st, .ref pa, .ref br, .ref sg, .int 0, .int 0, .int 0, .int 0, .int 0, .int 0, .long 0, .long 0, .long 0, .long 0, .int 0]))] := hD
  have hK : va_K (dC, dI) vwCl [(cS, .object RX8), (co, .long)] s := hK
  obtain rfl : 1 = r1 := hw
  refine lv_istore (lv' := [(6, .int 1), (0, .ref b), (1, .ref x), (2, .ref mo), (3, .ref ou), (4, .ref od_), (5, .int 0)]) hx hb dL_law_1219 hl (by decide) rfl (fun ls hl => ?_)
  refine lv_aload_n hx hb dL_law_1221 rfl (lv_at hl 3 rfl) ?_
  refine lv_aload_n hx hb dL_law_1222 rfl (lv_at hl 1 rfl) ?_
  refine lv_iload hx hb dL_law_1223 (lv_at hl 6 rfl) ?_
  refine lv_iconst (v := 1) hx hb dL_law_1225 (by decide) ?_
  refine lv_iadd hx hb dL_law_1226 ?_
  refine kc_i (y := 1) (by decide +kernel) ?_
  refine va_sld hx hb hX hbl hbA hS (pk_in 1 4 (by decide) rfl) dL_law_1227 ?_
  refine kc_i (y := p0) (hs1 : xs 1 = p0) ?_
  have hPc := hP.sub (ws' := [(mo, .inr (19, [.int 0, .int 0, .int 0, .int 0, .int 0, .int 0, .int 0, .ref ti, .ref si, .ref lo, .ref lh, .ref lk, .ref sp, .ref st, .ref pa, .ref br, .ref sg, .int 0, .int 0, .int 0, .int 0, .int 0, .int 0, .long 0, .long 0, .long 0, .long 0, .int 0]))]) [0] rfl
  have hDc := hD.sub (ws' := [(mo, .inr (19, [.int 0, .int 0, .int 0, .int 0, .int 0, .int 0, .int 0, .ref ti, .ref si, .ref lo, .ref lh, .ref lk, .ref sp, .ref st, .ref pa, .ref br, .ref sg, .int 0, .int 0, .int 0, .int 0, .int 0, .int 0, .long 0, .long 0, .long 0, .long 0, .int 0]))]) [0] (by decide) rfl
  have hKc := hK.sub (tys' := []) [] rfl
  have hFc := va_free (wc := [(mo, .inr (19, [.int 0, .int 0, .int 0, .int 0, .int 0, .int 0, .int 0, .ref ti, .ref si, .ref lo, .ref lh, .ref lk, .ref sp, .ref st, .ref pa, .ref br, .ref sg, .int 0, .int 0, .int 0, .int 0, .int 0, .int 0, .long 0, .long 0, .long 0, .long 0, .int 0]))]) hD hS hA [0] rfl
  refine va_calli (va_runV (As := [.int p0]) (rest := []) ⟨hx, hb, hml, hown, hts⟩ (k_m_strength_bad l dC dI z zK zV p0 mo ti si lo lh lk sp st pa br sg 0 H.size (hb0)) (cwV 1 hts hL_X15_strength_186 rfl rfl rfl (by decide +kernel) ⟨Nat.le_of_ble_eq_true rfl, Nat.le_of_ble_eq_true rfl⟩) ⟨kP_blind, va_recv hKc hPc (ci := 19) (q0 := 0) rfl rfl, kP_go hPc hKc hDc hFc hM hS⟩ rfl rfl hl.1 rfl (lv_room (Nat.le_of_ble_eq_true rfl)) dL_law_1228 ⟨Nat.le_of_ble_eq_true rfl, Nat.le_of_ble_eq_true rfl⟩) hS (fun q _ h => hFc q h) hFc (fun r2 u t H1 locs ht hvm hw hB hz1 hk1 hS => ?_)
  obtain ⟨hP, hD, hK⟩ := kJ (wr := []) (w1 := [(mo, .inr (19, [.int 0, .int 0, .int 0, .int 0, .int 0, .int 0, .int 0, .ref ti, .ref si, .ref lo, .ref lh, .ref lk, .ref sp, .ref st, .ref pa, .ref br, .ref sg, .int 0, .int 0, .int 0, .int 0, .int 0, .int 0, .long 0, .long 0, .long 0, .long 0, .int 1]))]) (t1 := []) hP hD hK [0] [] rfl rfl (by decide) (by decide) hk1 hFc ht hvm hB
  generalize H1 = H at hP hS ⊢
  have hP : va_P (dC, dI) vwCl [(mo, .inr (19, [.int 0, .int 0, .int 0, .int 0, .int 0, .int 0, .int 0, .ref ti, .ref si, .ref lo, .ref lh, .ref lk, .ref sp, .ref st, .ref pa, .ref br, .ref sg, .int 0, .int 0, .int 0, .int 0, .int 0, .int 0, .long 0, .long 0, .long 0, .long 0, .int 1]))] H := hP
  have hD : va_D A [(mo, .inr (19, [.int 0, .int 0, .int 0, .int 0, .int 0, .int 0, .int 0, .ref ti, .ref si, .ref lo, .ref lh, .ref lk, .ref sp, .ref st, .ref pa, .ref br, .ref sg, .int 0, .int 0, .int 0, .int 0, .int 0, .int 0, .long 0, .long 0, .long 0, .long 0, .int 1]))] := hD
  have hK : va_K (dC, dI) vwCl [(cS, .object RX8), (co, .long)] s := hK
  obtain rfl : (-1) = r2 := hw
  refine lv_istore (lv' := [(7, .int (-1)), (6, .int 1), (0, .ref b), (1, .ref x), (2, .ref mo), (3, .ref ou), (4, .ref od_), (5, .int 0)]) hx hb dL_law_1231 hl (by decide) rfl (fun ls hl => ?_)
  refine lv_aload_n hx hb dL_law_1233 rfl (lv_at hl 4 rfl) ?_
  have hPc := hP.sub (ws' := [(mo, .inr (19, [.int 0, .int 0, .int 0, .int 0, .int 0, .int 0, .int 0, .ref ti, .ref si, .ref lo, .ref lh, .ref lk, .ref sp, .ref st, .ref pa, .ref br, .ref sg, .int 0, .int 0, .int 0, .int 0, .int 0, .int 0, .long 0, .long 0, .long 0, .long 0, .int 1]))]) [0] rfl
  have hDc := hD.sub (ws' := [(mo, .inr (19, [.int 0, .int 0, .int 0, .int 0, .int 0, .int 0, .int 0, .ref ti, .ref si, .ref lo, .ref lh, .ref lk, .ref sp, .ref st, .ref pa, .ref br, .ref sg, .int 0, .int 0, .int 0, .int 0, .int 0, .int 0, .long 0, .long 0, .long 0, .long 0, .int 1]))]) [0] (by decide) rfl
  have hKc := hK.sub (tys' := []) [] rfl
  have hFc := va_free (wc := [(mo, .inr (19, [.int 0, .int 0, .int 0, .int 0, .int 0, .int 0, .int 0, .ref ti, .ref si, .ref lo, .ref lh, .ref lk, .ref sp, .ref st, .ref pa, .ref br, .ref sg, .int 0, .int 0, .int 0, .int 0, .int 0, .int 0, .long 0, .long 0, .long 0, .long 0, .int 1]))]) hD hS hA [0] rfl
  refine va_calli (va_runV (As := []) (rest := []) ⟨hx, hb, hml, hown, hts⟩ (k_m_thrown l dC dI z zK zV mo ti si lo lh lk sp st pa br sg 0 0 0 0 0 0 0 0 0 0 0 0 0 0 0 0 0 1 H.size) (cwV 0 hts hL_X15_thrown_100 rfl rfl rfl (by decide +kernel) ⟨Nat.le_of_ble_eq_true rfl, Nat.le_of_ble_eq_true rfl⟩) ⟨kP_blind, va_recv hKc hPc (ci := 19) (q0 := 0) rfl rfl, kP_go hPc hKc hDc hFc hM hS⟩ rfl rfl hl.1 rfl (lv_room (Nat.le_of_ble_eq_true rfl)) dL_law_1234 ⟨Nat.le_of_ble_eq_true rfl, Nat.le_of_ble_eq_true rfl⟩) hS (fun q _ h => hFc q h) hFc (fun r3 u t H1 locs ht hvm hw hB hz1 hk1 hS => ?_)
  obtain ⟨hP, hD, hK⟩ := kJ (wr := []) (w1 := [(mo, .inr (19, [.int 0, .int 0, .int 0, .int 0, .int 0, .int 0, .int 0, .ref ti, .ref si, .ref lo, .ref lh, .ref lk, .ref sp, .ref st, .ref pa, .ref br, .ref sg, .int 0, .int 0, .int 0, .int 0, .int 0, .int 0, .long 0, .long 0, .long 0, .long 0, .int 1]))]) (t1 := []) hP hD hK [0] [] rfl rfl (by decide) (by decide) hk1 hFc ht hvm hB
  generalize H1 = H at hP hS ⊢
  have hP : va_P (dC, dI) vwCl [(mo, .inr (19, [.int 0, .int 0, .int 0, .int 0, .int 0, .int 0, .int 0, .ref ti, .ref si, .ref lo, .ref lh, .ref lk, .ref sp, .ref st, .ref pa, .ref br, .ref sg, .int 0, .int 0, .int 0, .int 0, .int 0, .int 0, .long 0, .long 0, .long 0, .long 0, .int 1]))] H := hP
  have hD : va_D A [(mo, .inr (19, [.int 0, .int 0, .int 0, .int 0, .int 0, .int 0, .int 0, .ref ti, .ref si, .ref lo, .ref lh, .ref lk, .ref sp, .ref st, .ref pa, .ref br, .ref sg, .int 0, .int 0, .int 0, .int 0, .int 0, .int 0, .long 0, .long 0, .long 0, .long 0, .int 1]))] := hD
  have hK : va_K (dC, dI) vwCl [(cS, .object RX8), (co, .long)] s := hK
  obtain rfl : 1 = r3 := hw
  refine lv_iload hx hb dL_law_1237 (lv_at hl 1 rfl) ?_
  refine lv_icmp_eq (tgt := 1244) hx hb dL_law_1239 (by decide) (fun c4 => ?_) (fun c4 => ?_)
  · skip
    refine lv_iload hx hb dL_law_1244 (lv_at hl 1 rfl) ?_
    refine lv_if_ne (tgt := 1261) hx hb dL_law_1246 (by decide) (fun _ => ?_) (fun c_ => absurd c_ (by decide +kernel))
    refine lv_goto (tgt := 1684) hx hb dL_law_1261 (by decide) ?_
    exact la_tail hst C0 hA hAl H locs hS ls (lv_sub hl [2, 7] rfl) (by omega) (by omega)
  · skip
    refine lv_iconst (v := 0) hx hb dL_law_1242 (by decide) ?_
    @RET 0 1243 ireturn
set_option maxHeartbeats 8000000 in
set_option maxRecDepth 100000 in
theorem la_braced0 {p : Program} {l : Launch} {e : Env} {s : State} {m : MethodId} {below : List Frame} {meth : Method} {c : Code} {dC : Nat → ClassId} {dI : Nat → Nat → Nat} {z zK zV : Nat → Nat} {b : Nat} {xs : Nat → Int32} {A : Nat → Prop} (hst : l.stackTraces = false) (C0 : lw_At p s m meth c b 4 xs) (hM : am z zK zV A s s.heap) (hA : ∀ q : Nat, s.heap.size ≤ q → A q) (hAl : ∀ q : Nat, A q → s.heap.size ≤ q) (sh : Nat) (rg : Nat) (mf : Nat) (mm : Nat) (mz : Nat) (ma : Nat) (sa : Nat) (dk : Nat) (hd : Nat) (lg : Nat) (pl : Nat) (pr : Nat) (cM : ClassId) (x : Nat) (tl : Nat) (tw : Nat) (mo : Nat) (ti : Nat) (si : Nat) (lo : Nat) (lh : Nat) (lk : Nat) (sp : Nat) (st : Nat) (pa : Nat) (br : Nat) (sg : Nat) (cbr : ClassId) (ou : Nat) (co : ClassId) (of_ : Nat → Int64) (od_ : Nat)  (hs1 : xs 1 = 0) (H : Heap) (locs : List Loc) (hK : va_K (dC, dI) vwCl [(cM, .object RX4), (cbr, .int), (co, .long)] s) (hP : va_P (dC, dI) vwCl [(x, .inr (15, [.ref sh, .ref tl, .ref tw, .int 0])), (sh, .inr (13, [.ref rg, .ref dk, .ref hd, .ref lg, .ref pl, .ref pr, .int 0, .int 0, .int 0, .int 0, .int 0, .int 0, .int 0, .int 0, .int 0, .int 0, .int 0])), (rg, .inr (11, [.ref mf, .ref mm, .ref mz, .ref ma, .ref sa, .int 0])), (mf, .inr (8, [.int 0, .int 0, .int 0])), (ma, .inl (cM, 3, .inr (.inr (.inr (.inr (va_up (va_up (va_up (fun _ => none) 0 (some mf)) 1 (some mm)) 2 (some mz))))))), (mo, .inr (19, [.int 0, .int 0, .int 0, .int 0, .int 0, .int 0, .int 0, .ref ti, .ref si, .ref lo, .ref lh, .ref lk, .ref sp, .ref st, .ref pa, .ref br, .ref sg, .int 0, .int 0, .int 0, .int 0, .int 0, .int 0, .long 0, .long 0, .long 0, .long 0, .int 0])), (br, .inl (cbr, 3, .inl (fun _ => 0))), (ou, .inl (co, 1, .inr (.inl of_)))] H) (hD : va_D A [(x, .inr (15, [.ref sh, .ref tl, .ref tw, .int 0])), (sh, .inr (13, [.ref rg, .ref dk, .ref hd, .ref lg, .ref pl, .ref pr, .int 0, .int 0, .int 0, .int 0, .int 0, .int 0, .int 0, .int 0, .int 0, .int 0, .int 0])), (rg, .inr (11, [.ref mf, .ref mm, .ref mz, .ref ma, .ref sa, .int 0])), (mf, .inr (8, [.int 0, .int 0, .int 0])), (ma, .inl (cM, 3, .inr (.inr (.inr (.inr (va_up (va_up (va_up (fun _ => none) 0 (some mf)) 1 (some mm)) 2 (some mz))))))), (mo, .inr (19, [.int 0, .int 0, .int 0, .int 0, .int 0, .int 0, .int 0, .ref ti, .ref si, .ref lo, .ref lh, .ref lk, .ref sp, .ref st, .ref pa, .ref br, .ref sg, .int 0, .int 0, .int 0, .int 0, .int 0, .int 0, .long 0, .long 0, .long 0, .long 0, .int 0])), (br, .inl (cbr, 3, .inl (fun _ => 0))), (ou, .inl (co, 1, .inr (.inl of_)))]) (hS : va_S A s.heap H locs) (ls : Array Slot) (hl : lv_has ls 10 [(0, .ref b), (1, .ref x), (2, .ref mo), (3, .ref ou), (4, .ref od_), (5, .int 0)]) : W p l e room_1 s m #[Value.ref b] below meth c H locs 100 1400 (lw_Z below #[Value.ref b] s) (F0 m 1264 ls []) := by
  obtain ⟨hx, hb, hr, hml, hown, hts, hX, hbl, hlocks, hgv⟩ := id C0
  have hbA : ¬ A b := fun h => absurd (hAl b h) (Nat.not_le.mpr hbl)
  refine lv_aload_n hx hb dL_law_1264 rfl (lv_at hl 1 rfl) ?_
  refine lv_aload_n hx hb dL_law_1265 rfl (lv_at hl 0 rfl) ?_
  refine lv_iload hx hb dL_law_1266 (lv_at hl 5 rfl) ?_
  refine lv_iconst (v := 1) hx hb dL_law_1268 (by decide) ?_
  refine lv_iadd hx hb dL_law_1269 ?_
  refine kc_i (y := 1) (by decide +kernel) ?_
  refine va_sld hx hb hX hbl hbA hS (pk_in 1 4 (by decide) rfl) dL_law_1270 ?_
  refine kc_i (y := 0) (hs1 : xs 1 = 0) ?_
  refine lv_aload_n hx hb dL_law_1271 rfl (lv_at hl 3 rfl) ?_
  have hPc := hP.sub (ws' := [(x, .inr (15, [.ref sh, .ref tl, .ref tw, .int 0])), (sh, .inr (13, [.ref rg, .ref dk, .ref hd, .ref lg, .ref pl, .ref pr, .int 0, .int 0, .int 0, .int 0, .int 0, .int 0, .int 0, .int 0, .int 0, .int 0, .int 0])), (rg, .inr (11, [.ref mf, .ref mm, .ref mz, .ref ma, .ref sa, .int 0])), (ma, .inl (cM, 3, .inr (.inr (.inr (.inr (va_up (va_up (va_up (fun _ => none) 0 (some mf)) 1 (some mm)) 2 (some mz))))))), (mf, .inr (8, [.int 0, .int 0, .int 0])), (ou, .inl (co, 1, .inr (.inl of_)))]) [0, 1, 2, 4, 3, 7] rfl
  have hDc := hD.sub (ws' := [(x, .inr (15, [.ref sh, .ref tl, .ref tw, .int 0])), (sh, .inr (13, [.ref rg, .ref dk, .ref hd, .ref lg, .ref pl, .ref pr, .int 0, .int 0, .int 0, .int 0, .int 0, .int 0, .int 0, .int 0, .int 0, .int 0, .int 0])), (rg, .inr (11, [.ref mf, .ref mm, .ref mz, .ref ma, .ref sa, .int 0])), (ma, .inl (cM, 3, .inr (.inr (.inr (.inr (va_up (va_up (va_up (fun _ => none) 0 (some mf)) 1 (some mm)) 2 (some mz))))))), (mf, .inr (8, [.int 0, .int 0, .int 0])), (ou, .inl (co, 1, .inr (.inl of_)))]) [0, 1, 2, 4, 3, 7] (by decide) rfl
  have hKc := hK.sub (tys' := [(cM, .object RX4), (co, .long)]) [0, 2] rfl
  have hFc := va_free (wc := [(x, .inr (15, [.ref sh, .ref tl, .ref tw, .int 0])), (sh, .inr (13, [.ref rg, .ref dk, .ref hd, .ref lg, .ref pl, .ref pr, .int 0, .int 0, .int 0, .int 0, .int 0, .int 0, .int 0, .int 0, .int 0, .int 0, .int 0])), (rg, .inr (11, [.ref mf, .ref mm, .ref mz, .ref ma, .ref sa, .int 0])), (ma, .inl (cM, 3, .inr (.inr (.inr (.inr (va_up (va_up (va_up (fun _ => none) 0 (some mf)) 1 (some mm)) 2 (some mz))))))), (mf, .inr (8, [.int 0, .int 0, .int 0])), (ou, .inl (co, 1, .inr (.inl of_)))]) hD hS hA [0, 1, 2, 4, 3, 7] rfl
  refine va_calli (vx_runSW (As := [.ref x, .int 0, .ref ou]) (rest := []) ⟨hx, hb, hml, hown, hts⟩ (k_l_braced0 l dC dI z zK zV sh rg mf mm mz ma sa dk hd lg pl pr cM x tl tw ou co of_ H.size) (vx_cwSW 3 hts hL_L_braced_187 rfl rfl rfl (by decide +kernel) ⟨Nat.le_of_ble_eq_true rfl, Nat.le_of_ble_eq_true rfl⟩) ⟨kP_blind, kP_go hPc hKc hDc hFc hM hS⟩ rfl rfl hl.1 rfl (lv_room (Nat.le_of_ble_eq_true rfl)) dL_law_1272 ⟨Nat.le_of_ble_eq_true rfl, Nat.le_of_ble_eq_true rfl⟩) hS (fun q _ h => hFc q h) hFc (fun r1 u t H1 locs ht hvm hw hB hz1 hk1 hS => ?_)
  obtain ⟨hP, hD, hK⟩ := kJ (wr := [(mo, .inr (19, [.int 0, .int 0, .int 0, .int 0, .int 0, .int 0, .int 0, .ref ti, .ref si, .ref lo, .ref lh, .ref lk, .ref sp, .ref st, .ref pa, .ref br, .ref sg, .int 0, .int 0, .int 0, .int 0, .int 0, .int 0, .long 0, .long 0, .long 0, .long 0, .int 0])), (br, .inl (cbr, 3, .inl (fun _ => 0)))]) (w1 := [(ou, .inl (co, 1, .inr (.inl (vp_updL of_ 0 0))))]) (t1 := []) hP hD hK [0, 1, 2, 4, 3, 7] [5, 6] rfl rfl (by decide) (by decide) hk1 hFc ht hvm hB
  generalize H1 = H at hP hS ⊢
  have hP : va_P (dC, dI) vwCl [(mo, .inr (19, [.int 0, .int 0, .int 0, .int 0, .int 0, .int 0, .int 0, .ref ti, .ref si, .ref lo, .ref lh, .ref lk, .ref sp, .ref st, .ref pa, .ref br, .ref sg, .int 0, .int 0, .int 0, .int 0, .int 0, .int 0, .long 0, .long 0, .long 0, .long 0, .int 0])), (br, .inl (cbr, 3, .inl (fun _ => 0))), (ou, .inl (co, 1, .inr (.inl (vp_updL of_ 0 0))))] H := hP
  have hD : va_D A [(mo, .inr (19, [.int 0, .int 0, .int 0, .int 0, .int 0, .int 0, .int 0, .ref ti, .ref si, .ref lo, .ref lh, .ref lk, .ref sp, .ref st, .ref pa, .ref br, .ref sg, .int 0, .int 0, .int 0, .int 0, .int 0, .int 0, .long 0, .long 0, .long 0, .long 0, .int 0])), (br, .inl (cbr, 3, .inl (fun _ => 0))), (ou, .inl (co, 1, .inr (.inl (vp_updL of_ 0 0))))] := hD
  have hK : va_K (dC, dI) vwCl [(cM, .object RX4), (cbr, .int), (co, .long)] s := hK
  obtain rfl : 0 = r1 := hw
  refine lv_istore (lv' := [(6, .int 0), (0, .ref b), (1, .ref x), (2, .ref mo), (3, .ref ou), (4, .ref od_), (5, .int 0)]) hx hb dL_law_1275 hl (by decide) rfl (fun ls hl => ?_)
  refine lv_aload_n hx hb dL_law_1277 rfl (lv_at hl 3 rfl) ?_
  refine lv_aload_n hx hb dL_law_1278 rfl (lv_at hl 1 rfl) ?_
  refine lv_iload hx hb dL_law_1279 (lv_at hl 6 rfl) ?_
  refine lv_iconst (v := 1) hx hb dL_law_1281 (by decide) ?_
  refine lv_iadd hx hb dL_law_1282 ?_
  refine kc_i (y := 1) (by decide +kernel) ?_
  refine va_sld hx hb hX hbl hbA hS (pk_in 1 4 (by decide) rfl) dL_law_1283 ?_
  refine kc_i (y := 0) (hs1 : xs 1 = 0) ?_
  have hPc := hP.sub (ws' := [(mo, .inr (19, [.int 0, .int 0, .int 0, .int 0, .int 0, .int 0, .int 0, .ref ti, .ref si, .ref lo, .ref lh, .ref lk, .ref sp, .ref st, .ref pa, .ref br, .ref sg, .int 0, .int 0, .int 0, .int 0, .int 0, .int 0, .long 0, .long 0, .long 0, .long 0, .int 0])), (br, .inl (cbr, 3, .inl (fun _ => 0)))]) [0, 1] rfl
  have hDc := hD.sub (ws' := [(mo, .inr (19, [.int 0, .int 0, .int 0, .int 0, .int 0, .int 0, .int 0, .ref ti, .ref si, .ref lo, .ref lh, .ref lk, .ref sp, .ref st, .ref pa, .ref br, .ref sg, .int 0, .int 0, .int 0, .int 0, .int 0, .int 0, .long 0, .long 0, .long 0, .long 0, .int 0])), (br, .inl (cbr, 3, .inl (fun _ => 0)))]) [0, 1] (by decide) rfl
  have hKc := hK.sub (tys' := [(cbr, .int)]) [1] rfl
  have hFc := va_free (wc := [(mo, .inr (19, [.int 0, .int 0, .int 0, .int 0, .int 0, .int 0, .int 0, .ref ti, .ref si, .ref lo, .ref lh, .ref lk, .ref sp, .ref st, .ref pa, .ref br, .ref sg, .int 0, .int 0, .int 0, .int 0, .int 0, .int 0, .long 0, .long 0, .long 0, .long 0, .int 0])), (br, .inl (cbr, 3, .inl (fun _ => 0)))]) hD hS hA [0, 1] rfl
  refine va_calli (va_runV (As := [.int 0]) (rest := []) ⟨hx, hb, hml, hown, hts⟩ (k_m_braced0 l dC dI z zK zV mo ti si lo lh lk sp st pa br sg cbr 0 H.size) (cwV 1 hts hL_X15_braced_189 rfl rfl rfl (by decide +kernel) ⟨Nat.le_of_ble_eq_true rfl, Nat.le_of_ble_eq_true rfl⟩) ⟨kP_blind, va_recv hKc hPc (ci := 19) (q0 := 0) rfl rfl, kP_go hPc hKc hDc hFc hM hS⟩ rfl rfl hl.1 rfl (lv_room (Nat.le_of_ble_eq_true rfl)) dL_law_1284 ⟨Nat.le_of_ble_eq_true rfl, Nat.le_of_ble_eq_true rfl⟩) hS (fun q _ h => hFc q h) hFc (fun r2 u t H1 locs ht hvm hw hB hz1 hk1 hS => ?_)
  obtain ⟨hP, hD, hK⟩ := kJ (wr := [(ou, .inl (co, 1, .inr (.inl (vp_updL of_ 0 0))))]) (w1 := [(mo, .inr (19, [.int 0, .int 0, .int 0, .int 0, .int 0, .int 0, .int 0, .ref ti, .ref si, .ref lo, .ref lh, .ref lk, .ref sp, .ref st, .ref pa, .ref br, .ref sg, .int 0, .int 0, .int 0, .int 0, .int 0, .int 0, .long 0, .long 0, .long 0, .long 0, .int 0]))]) (t1 := []) hP hD hK [0, 1] [2] rfl rfl (by decide) (by decide) hk1 hFc ht hvm hB
  generalize H1 = H at hP hS ⊢
  have hP : va_P (dC, dI) vwCl [(ou, .inl (co, 1, .inr (.inl (vp_updL of_ 0 0)))), (mo, .inr (19, [.int 0, .int 0, .int 0, .int 0, .int 0, .int 0, .int 0, .ref ti, .ref si, .ref lo, .ref lh, .ref lk, .ref sp, .ref st, .ref pa, .ref br, .ref sg, .int 0, .int 0, .int 0, .int 0, .int 0, .int 0, .long 0, .long 0, .long 0, .long 0, .int 0]))] H := hP
  have hD : va_D A [(ou, .inl (co, 1, .inr (.inl (vp_updL of_ 0 0)))), (mo, .inr (19, [.int 0, .int 0, .int 0, .int 0, .int 0, .int 0, .int 0, .ref ti, .ref si, .ref lo, .ref lh, .ref lk, .ref sp, .ref st, .ref pa, .ref br, .ref sg, .int 0, .int 0, .int 0, .int 0, .int 0, .int 0, .long 0, .long 0, .long 0, .long 0, .int 0]))] := hD
  have hK : va_K (dC, dI) vwCl [(cM, .object RX4), (cbr, .int), (co, .long)] s := hK
  obtain rfl : 0 = r2 := hw
  refine lv_istore (lv' := [(7, .int 0), (6, .int 0), (0, .ref b), (1, .ref x), (2, .ref mo), (3, .ref ou), (4, .ref od_), (5, .int 0)]) hx hb dL_law_1287 hl (by decide) rfl (fun ls hl => ?_)
  refine lv_aload_n hx hb dL_law_1289 rfl (lv_at hl 4 rfl) ?_
  have hPc := hP.sub (ws' := [(mo, .inr (19, [.int 0, .int 0, .int 0, .int 0, .int 0, .int 0, .int 0, .ref ti, .ref si, .ref lo, .ref lh, .ref lk, .ref sp, .ref st, .ref pa, .ref br, .ref sg, .int 0, .int 0, .int 0, .int 0, .int 0, .int 0, .long 0, .long 0, .long 0, .long 0, .int 0]))]) [1] rfl
  have hDc := hD.sub (ws' := [(mo, .inr (19, [.int 0, .int 0, .int 0, .int 0, .int 0, .int 0, .int 0, .ref ti, .ref si, .ref lo, .ref lh, .ref lk, .ref sp, .ref st, .ref pa, .ref br, .ref sg, .int 0, .int 0, .int 0, .int 0, .int 0, .int 0, .long 0, .long 0, .long 0, .long 0, .int 0]))]) [1] (by decide) rfl
  have hKc := hK.sub (tys' := []) [] rfl
  have hFc := va_free (wc := [(mo, .inr (19, [.int 0, .int 0, .int 0, .int 0, .int 0, .int 0, .int 0, .ref ti, .ref si, .ref lo, .ref lh, .ref lk, .ref sp, .ref st, .ref pa, .ref br, .ref sg, .int 0, .int 0, .int 0, .int 0, .int 0, .int 0, .long 0, .long 0, .long 0, .long 0, .int 0]))]) hD hS hA [1] rfl
  refine va_calli (va_runV (As := []) (rest := []) ⟨hx, hb, hml, hown, hts⟩ (k_m_thrown l dC dI z zK zV mo ti si lo lh lk sp st pa br sg 0 0 0 0 0 0 0 0 0 0 0 0 0 0 0 0 0 0 H.size) (cwV 0 hts hL_X15_thrown_100 rfl rfl rfl (by decide +kernel) ⟨Nat.le_of_ble_eq_true rfl, Nat.le_of_ble_eq_true rfl⟩) ⟨kP_blind, va_recv hKc hPc (ci := 19) (q0 := 0) rfl rfl, kP_go hPc hKc hDc hFc hM hS⟩ rfl rfl hl.1 rfl (lv_room (Nat.le_of_ble_eq_true rfl)) dL_law_1290 ⟨Nat.le_of_ble_eq_true rfl, Nat.le_of_ble_eq_true rfl⟩) hS (fun q _ h => hFc q h) hFc (fun r3 u t H1 locs ht hvm hw hB hz1 hk1 hS => ?_)
  obtain ⟨hP, hD, hK⟩ := kJ (wr := [(ou, .inl (co, 1, .inr (.inl (vp_updL of_ 0 0))))]) (w1 := [(mo, .inr (19, [.int 0, .int 0, .int 0, .int 0, .int 0, .int 0, .int 0, .ref ti, .ref si, .ref lo, .ref lh, .ref lk, .ref sp, .ref st, .ref pa, .ref br, .ref sg, .int 0, .int 0, .int 0, .int 0, .int 0, .int 0, .long 0, .long 0, .long 0, .long 0, .int 0]))]) (t1 := []) hP hD hK [1] [0] rfl rfl (by decide) (by decide) hk1 hFc ht hvm hB
  generalize H1 = H at hP hS ⊢
  have hP : va_P (dC, dI) vwCl [(ou, .inl (co, 1, .inr (.inl (vp_updL of_ 0 0)))), (mo, .inr (19, [.int 0, .int 0, .int 0, .int 0, .int 0, .int 0, .int 0, .ref ti, .ref si, .ref lo, .ref lh, .ref lk, .ref sp, .ref st, .ref pa, .ref br, .ref sg, .int 0, .int 0, .int 0, .int 0, .int 0, .int 0, .long 0, .long 0, .long 0, .long 0, .int 0]))] H := hP
  have hD : va_D A [(ou, .inl (co, 1, .inr (.inl (vp_updL of_ 0 0)))), (mo, .inr (19, [.int 0, .int 0, .int 0, .int 0, .int 0, .int 0, .int 0, .ref ti, .ref si, .ref lo, .ref lh, .ref lk, .ref sp, .ref st, .ref pa, .ref br, .ref sg, .int 0, .int 0, .int 0, .int 0, .int 0, .int 0, .long 0, .long 0, .long 0, .long 0, .int 0]))] := hD
  have hK : va_K (dC, dI) vwCl [(cM, .object RX4), (cbr, .int), (co, .long)] s := hK
  obtain rfl : 0 = r3 := hw
  refine lv_iload hx hb dL_law_1293 (lv_at hl 1 rfl) ?_
  refine lv_icmp_eq (tgt := 1300) hx hb dL_law_1295 (by decide) (fun c4 => ?_) (fun c4 => ?_)
  · skip
    refine lv_iload hx hb dL_law_1300 (lv_at hl 1 rfl) ?_
    refine lv_if_ne (tgt := 1317) hx hb dL_law_1302 (by decide) (fun c_ => absurd (by decide +kernel) c_) (fun _ => ?_)
    refine lv_aload_n hx hb dL_law_1305 rfl (lv_at hl 5 rfl) ?_
    refine lv_iconst (v := 0) hx hb dL_law_1306 (by decide) ?_
    refine va_lald hx hb hK hP 0 2 rfl rfl (pk_in 0 1 (by decide) rfl) dL_law_1307 ?_
    refine kc_v (y := .long 0) rfl ?_
    refine lv_iload hx hb dL_law_1308 (lv_at hl 0 rfl) ?_
    refine lv_i2l (v := 0) hx hb dL_law_1310 (by decide +kernel) ?_
    refine W.lcmp hx hb dL_law_1311 ?_
    refine kc_i (y := 0) (by decide +kernel) ?_
    refine lv_if_eq (tgt := 1317) hx hb dL_law_1312 (by decide) (fun _ => ?_) (fun c_ => absurd (by decide +kernel) c_)
    refine lv_goto (tgt := 1684) hx hb dL_law_1317 (by decide) ?_
    exact la_tail hst C0 hA hAl H locs hS ls (lv_sub hl [2, 7] rfl) (by omega) (by omega)
  · skip
    refine lv_iconst (v := 0) hx hb dL_law_1298 (by decide) ?_
    @RET 0 1299 ireturn
set_option maxHeartbeats 8000000 in
set_option maxRecDepth 100000 in
theorem la_braced1 {p : Program} {l : Launch} {e : Env} {s : State} {m : MethodId} {below : List Frame} {meth : Method} {c : Code} {dC : Nat → ClassId} {dI : Nat → Nat → Nat} {z zK zV : Nat → Nat} {b : Nat} {xs : Nat → Int32} {A : Nat → Prop} (hst : l.stackTraces = false) (C0 : lw_At p s m meth c b 4 xs) (hM : am z zK zV A s s.heap) (hA : ∀ q : Nat, s.heap.size ≤ q → A q) (hAl : ∀ q : Nat, A q → s.heap.size ≤ q) (sh : Nat) (rg : Nat) (mf : Nat) (mm : Nat) (mz : Nat) (ma : Nat) (sa : Nat) (dk : Nat) (hd : Nat) (lg : Nat) (pl : Nat) (pr : Nat) (cM : ClassId) (x : Nat) (tl : Nat) (tw : Nat) (mo : Nat) (ti : Nat) (si : Nat) (lo : Nat) (lh : Nat) (lk : Nat) (sp : Nat) (st : Nat) (pa : Nat) (br : Nat) (sg : Nat) (cbr : ClassId) (ou : Nat) (co : ClassId) (of_ : Nat → Int64) (od_ : Nat)  (hs1 : xs 1 = 1) (H : Heap) (locs : List Loc) (hK : va_K (dC, dI) vwCl [(cM, .object RX4), (cbr, .int), (co, .long)] s) (hP : va_P (dC, dI) vwCl [(x, .inr (15, [.ref sh, .ref tl, .ref tw, .int 0])), (sh, .inr (13, [.ref rg, .ref dk, .ref hd, .ref lg, .ref pl, .ref pr, .int 0, .int 0, .int 0, .int 0, .int 0, .int 0, .int 0, .int 0, .int 0, .int 0, .int 0])), (rg, .inr (11, [.ref mf, .ref mm, .ref mz, .ref ma, .ref sa, .int 0])), (mm, .inr (8, [.int 0, .int 0, .int 0])), (ma, .inl (cM, 3, .inr (.inr (.inr (.inr (va_up (va_up (va_up (fun _ => none) 0 (some mf)) 1 (some mm)) 2 (some mz))))))), (mo, .inr (19, [.int 0, .int 0, .int 0, .int 0, .int 0, .int 0, .int 0, .ref ti, .ref si, .ref lo, .ref lh, .ref lk, .ref sp, .ref st, .ref pa, .ref br, .ref sg, .int 0, .int 0, .int 0, .int 0, .int 0, .int 0, .long 0, .long 0, .long 0, .long 0, .int 0])), (br, .inl (cbr, 3, .inl (fun _ => 0))), (ou, .inl (co, 1, .inr (.inl of_)))] H) (hD : va_D A [(x, .inr (15, [.ref sh, .ref tl, .ref tw, .int 0])), (sh, .inr (13, [.ref rg, .ref dk, .ref hd, .ref lg, .ref pl, .ref pr, .int 0, .int 0, .int 0, .int 0, .int 0, .int 0, .int 0, .int 0, .int 0, .int 0, .int 0])), (rg, .inr (11, [.ref mf, .ref mm, .ref mz, .ref ma, .ref sa, .int 0])), (mm, .inr (8, [.int 0, .int 0, .int 0])), (ma, .inl (cM, 3, .inr (.inr (.inr (.inr (va_up (va_up (va_up (fun _ => none) 0 (some mf)) 1 (some mm)) 2 (some mz))))))), (mo, .inr (19, [.int 0, .int 0, .int 0, .int 0, .int 0, .int 0, .int 0, .ref ti, .ref si, .ref lo, .ref lh, .ref lk, .ref sp, .ref st, .ref pa, .ref br, .ref sg, .int 0, .int 0, .int 0, .int 0, .int 0, .int 0, .long 0, .long 0, .long 0, .long 0, .int 0])), (br, .inl (cbr, 3, .inl (fun _ => 0))), (ou, .inl (co, 1, .inr (.inl of_)))]) (hS : va_S A s.heap H locs) (ls : Array Slot) (hl : lv_has ls 10 [(0, .ref b), (1, .ref x), (2, .ref mo), (3, .ref ou), (4, .ref od_), (5, .int 0)]) : W p l e room_1 s m #[Value.ref b] below meth c H locs 100 1400 (lw_Z below #[Value.ref b] s) (F0 m 1264 ls []) := by
  obtain ⟨hx, hb, hr, hml, hown, hts, hX, hbl, hlocks, hgv⟩ := id C0
  have hbA : ¬ A b := fun h => absurd (hAl b h) (Nat.not_le.mpr hbl)
  refine lv_aload_n hx hb dL_law_1264 rfl (lv_at hl 1 rfl) ?_
  refine lv_aload_n hx hb dL_law_1265 rfl (lv_at hl 0 rfl) ?_
  refine lv_iload hx hb dL_law_1266 (lv_at hl 5 rfl) ?_
  refine lv_iconst (v := 1) hx hb dL_law_1268 (by decide) ?_
  refine lv_iadd hx hb dL_law_1269 ?_
  refine kc_i (y := 1) (by decide +kernel) ?_
  refine va_sld hx hb hX hbl hbA hS (pk_in 1 4 (by decide) rfl) dL_law_1270 ?_
  refine kc_i (y := 1) (hs1 : xs 1 = 1) ?_
  refine lv_aload_n hx hb dL_law_1271 rfl (lv_at hl 3 rfl) ?_
  have hPc := hP.sub (ws' := [(x, .inr (15, [.ref sh, .ref tl, .ref tw, .int 0])), (sh, .inr (13, [.ref rg, .ref dk, .ref hd, .ref lg, .ref pl, .ref pr, .int 0, .int 0, .int 0, .int 0, .int 0, .int 0, .int 0, .int 0, .int 0, .int 0, .int 0])), (rg, .inr (11, [.ref mf, .ref mm, .ref mz, .ref ma, .ref sa, .int 0])), (ma, .inl (cM, 3, .inr (.inr (.inr (.inr (va_up (va_up (va_up (fun _ => none) 0 (some mf)) 1 (some mm)) 2 (some mz))))))), (mm, .inr (8, [.int 0, .int 0, .int 0])), (ou, .inl (co, 1, .inr (.inl of_)))]) [0, 1, 2, 4, 3, 7] rfl
  have hDc := hD.sub (ws' := [(x, .inr (15, [.ref sh, .ref tl, .ref tw, .int 0])), (sh, .inr (13, [.ref rg, .ref dk, .ref hd, .ref lg, .ref pl, .ref pr, .int 0, .int 0, .int 0, .int 0, .int 0, .int 0, .int 0, .int 0, .int 0, .int 0, .int 0])), (rg, .inr (11, [.ref mf, .ref mm, .ref mz, .ref ma, .ref sa, .int 0])), (ma, .inl (cM, 3, .inr (.inr (.inr (.inr (va_up (va_up (va_up (fun _ => none) 0 (some mf)) 1 (some mm)) 2 (some mz))))))), (mm, .inr (8, [.int 0, .int 0, .int 0])), (ou, .inl (co, 1, .inr (.inl of_)))]) [0, 1, 2, 4, 3, 7] (by decide) rfl
  have hKc := hK.sub (tys' := [(cM, .object RX4), (co, .long)]) [0, 2] rfl
  have hFc := va_free (wc := [(x, .inr (15, [.ref sh, .ref tl, .ref tw, .int 0])), (sh, .inr (13, [.ref rg, .ref dk, .ref hd, .ref lg, .ref pl, .ref pr, .int 0, .int 0, .int 0, .int 0, .int 0, .int 0, .int 0, .int 0, .int 0, .int 0, .int 0])), (rg, .inr (11, [.ref mf, .ref mm, .ref mz, .ref ma, .ref sa, .int 0])), (ma, .inl (cM, 3, .inr (.inr (.inr (.inr (va_up (va_up (va_up (fun _ => none) 0 (some mf)) 1 (some mm)) 2 (some mz))))))), (mm, .inr (8, [.int 0, .int 0, .int 0])), (ou, .inl (co, 1, .inr (.inl of_)))]) hD hS hA [0, 1, 2, 4, 3, 7] rfl
  refine va_calli (vx_runSW (As := [.ref x, .int 1, .ref ou]) (rest := []) ⟨hx, hb, hml, hown, hts⟩ (k_l_braced1 l dC dI z zK zV sh rg mf mm mz ma sa dk hd lg pl pr cM x tl tw ou co of_ H.size) (vx_cwSW 3 hts hL_L_braced_187 rfl rfl rfl (by decide +kernel) ⟨Nat.le_of_ble_eq_true rfl, Nat.le_of_ble_eq_true rfl⟩) ⟨kP_blind, kP_go hPc hKc hDc hFc hM hS⟩ rfl rfl hl.1 rfl (lv_room (Nat.le_of_ble_eq_true rfl)) dL_law_1272 ⟨Nat.le_of_ble_eq_true rfl, Nat.le_of_ble_eq_true rfl⟩) hS (fun q _ h => hFc q h) hFc (fun r1 u t H1 locs ht hvm hw hB hz1 hk1 hS => ?_)
  obtain ⟨hP, hD, hK⟩ := kJ (wr := [(mo, .inr (19, [.int 0, .int 0, .int 0, .int 0, .int 0, .int 0, .int 0, .ref ti, .ref si, .ref lo, .ref lh, .ref lk, .ref sp, .ref st, .ref pa, .ref br, .ref sg, .int 0, .int 0, .int 0, .int 0, .int 0, .int 0, .long 0, .long 0, .long 0, .long 0, .int 0])), (br, .inl (cbr, 3, .inl (fun _ => 0)))]) (w1 := [(ou, .inl (co, 1, .inr (.inl (vp_updL of_ 0 0))))]) (t1 := []) hP hD hK [0, 1, 2, 4, 3, 7] [5, 6] rfl rfl (by decide) (by decide) hk1 hFc ht hvm hB
  generalize H1 = H at hP hS ⊢
  have hP : va_P (dC, dI) vwCl [(mo, .inr (19, [.int 0, .int 0, .int 0, .int 0, .int 0, .int 0, .int 0, .ref ti, .ref si, .ref lo, .ref lh, .ref lk, .ref sp, .ref st, .ref pa, .ref br, .ref sg, .int 0, .int 0, .int 0, .int 0, .int 0, .int 0, .long 0, .long 0, .long 0, .long 0, .int 0])), (br, .inl (cbr, 3, .inl (fun _ => 0))), (ou, .inl (co, 1, .inr (.inl (vp_updL of_ 0 0))))] H := hP
  have hD : va_D A [(mo, .inr (19, [.int 0, .int 0, .int 0, .int 0, .int 0, .int 0, .int 0, .ref ti, .ref si, .ref lo, .ref lh, .ref lk, .ref sp, .ref st, .ref pa, .ref br, .ref sg, .int 0, .int 0, .int 0, .int 0, .int 0, .int 0, .long 0, .long 0, .long 0, .long 0, .int 0])), (br, .inl (cbr, 3, .inl (fun _ => 0))), (ou, .inl (co, 1, .inr (.inl (vp_updL of_ 0 0))))] := hD
  have hK : va_K (dC, dI) vwCl [(cM, .object RX4), (cbr, .int), (co, .long)] s := hK
  obtain rfl : 0 = r1 := hw
  refine lv_istore (lv' := [(6, .int 0), (0, .ref b), (1, .ref x), (2, .ref mo), (3, .ref ou), (4, .ref od_), (5, .int 0)]) hx hb dL_law_1275 hl (by decide) rfl (fun ls hl => ?_)
  refine lv_aload_n hx hb dL_law_1277 rfl (lv_at hl 3 rfl) ?_
  refine lv_aload_n hx hb dL_law_1278 rfl (lv_at hl 1 rfl) ?_
  refine lv_iload hx hb dL_law_1279 (lv_at hl 6 rfl) ?_
  refine lv_iconst (v := 1) hx hb dL_law_1281 (by decide) ?_
  refine lv_iadd hx hb dL_law_1282 ?_
  refine kc_i (y := 1) (by decide +kernel) ?_
  refine va_sld hx hb hX hbl hbA hS (pk_in 1 4 (by decide) rfl) dL_law_1283 ?_
  refine kc_i (y := 1) (hs1 : xs 1 = 1) ?_
  have hPc := hP.sub (ws' := [(mo, .inr (19, [.int 0, .int 0, .int 0, .int 0, .int 0, .int 0, .int 0, .ref ti, .ref si, .ref lo, .ref lh, .ref lk, .ref sp, .ref st, .ref pa, .ref br, .ref sg, .int 0, .int 0, .int 0, .int 0, .int 0, .int 0, .long 0, .long 0, .long 0, .long 0, .int 0])), (br, .inl (cbr, 3, .inl (fun _ => 0)))]) [0, 1] rfl
  have hDc := hD.sub (ws' := [(mo, .inr (19, [.int 0, .int 0, .int 0, .int 0, .int 0, .int 0, .int 0, .ref ti, .ref si, .ref lo, .ref lh, .ref lk, .ref sp, .ref st, .ref pa, .ref br, .ref sg, .int 0, .int 0, .int 0, .int 0, .int 0, .int 0, .long 0, .long 0, .long 0, .long 0, .int 0])), (br, .inl (cbr, 3, .inl (fun _ => 0)))]) [0, 1] (by decide) rfl
  have hKc := hK.sub (tys' := [(cbr, .int)]) [1] rfl
  have hFc := va_free (wc := [(mo, .inr (19, [.int 0, .int 0, .int 0, .int 0, .int 0, .int 0, .int 0, .ref ti, .ref si, .ref lo, .ref lh, .ref lk, .ref sp, .ref st, .ref pa, .ref br, .ref sg, .int 0, .int 0, .int 0, .int 0, .int 0, .int 0, .long 0, .long 0, .long 0, .long 0, .int 0])), (br, .inl (cbr, 3, .inl (fun _ => 0)))]) hD hS hA [0, 1] rfl
  refine va_calli (va_runV (As := [.int 1]) (rest := []) ⟨hx, hb, hml, hown, hts⟩ (k_m_braced1 l dC dI z zK zV mo ti si lo lh lk sp st pa br sg cbr 0 H.size) (cwV 1 hts hL_X15_braced_189 rfl rfl rfl (by decide +kernel) ⟨Nat.le_of_ble_eq_true rfl, Nat.le_of_ble_eq_true rfl⟩) ⟨kP_blind, va_recv hKc hPc (ci := 19) (q0 := 0) rfl rfl, kP_go hPc hKc hDc hFc hM hS⟩ rfl rfl hl.1 rfl (lv_room (Nat.le_of_ble_eq_true rfl)) dL_law_1284 ⟨Nat.le_of_ble_eq_true rfl, Nat.le_of_ble_eq_true rfl⟩) hS (fun q _ h => hFc q h) hFc (fun r2 u t H1 locs ht hvm hw hB hz1 hk1 hS => ?_)
  obtain ⟨hP, hD, hK⟩ := kJ (wr := [(ou, .inl (co, 1, .inr (.inl (vp_updL of_ 0 0))))]) (w1 := [(mo, .inr (19, [.int 0, .int 0, .int 0, .int 0, .int 0, .int 0, .int 0, .ref ti, .ref si, .ref lo, .ref lh, .ref lk, .ref sp, .ref st, .ref pa, .ref br, .ref sg, .int 0, .int 0, .int 0, .int 0, .int 0, .int 0, .long 0, .long 0, .long 0, .long 0, .int 0]))]) (t1 := []) hP hD hK [0, 1] [2] rfl rfl (by decide) (by decide) hk1 hFc ht hvm hB
  generalize H1 = H at hP hS ⊢
  have hP : va_P (dC, dI) vwCl [(ou, .inl (co, 1, .inr (.inl (vp_updL of_ 0 0)))), (mo, .inr (19, [.int 0, .int 0, .int 0, .int 0, .int 0, .int 0, .int 0, .ref ti, .ref si, .ref lo, .ref lh, .ref lk, .ref sp, .ref st, .ref pa, .ref br, .ref sg, .int 0, .int 0, .int 0, .int 0, .int 0, .int 0, .long 0, .long 0, .long 0, .long 0, .int 0]))] H := hP
  have hD : va_D A [(ou, .inl (co, 1, .inr (.inl (vp_updL of_ 0 0)))), (mo, .inr (19, [.int 0, .int 0, .int 0, .int 0, .int 0, .int 0, .int 0, .ref ti, .ref si, .ref lo, .ref lh, .ref lk, .ref sp, .ref st, .ref pa, .ref br, .ref sg, .int 0, .int 0, .int 0, .int 0, .int 0, .int 0, .long 0, .long 0, .long 0, .long 0, .int 0]))] := hD
  have hK : va_K (dC, dI) vwCl [(cM, .object RX4), (cbr, .int), (co, .long)] s := hK
  obtain rfl : 0 = r2 := hw
  refine lv_istore (lv' := [(7, .int 0), (6, .int 0), (0, .ref b), (1, .ref x), (2, .ref mo), (3, .ref ou), (4, .ref od_), (5, .int 0)]) hx hb dL_law_1287 hl (by decide) rfl (fun ls hl => ?_)
  refine lv_aload_n hx hb dL_law_1289 rfl (lv_at hl 4 rfl) ?_
  have hPc := hP.sub (ws' := [(mo, .inr (19, [.int 0, .int 0, .int 0, .int 0, .int 0, .int 0, .int 0, .ref ti, .ref si, .ref lo, .ref lh, .ref lk, .ref sp, .ref st, .ref pa, .ref br, .ref sg, .int 0, .int 0, .int 0, .int 0, .int 0, .int 0, .long 0, .long 0, .long 0, .long 0, .int 0]))]) [1] rfl
  have hDc := hD.sub (ws' := [(mo, .inr (19, [.int 0, .int 0, .int 0, .int 0, .int 0, .int 0, .int 0, .ref ti, .ref si, .ref lo, .ref lh, .ref lk, .ref sp, .ref st, .ref pa, .ref br, .ref sg, .int 0, .int 0, .int 0, .int 0, .int 0, .int 0, .long 0, .long 0, .long 0, .long 0, .int 0]))]) [1] (by decide) rfl
  have hKc := hK.sub (tys' := []) [] rfl
  have hFc := va_free (wc := [(mo, .inr (19, [.int 0, .int 0, .int 0, .int 0, .int 0, .int 0, .int 0, .ref ti, .ref si, .ref lo, .ref lh, .ref lk, .ref sp, .ref st, .ref pa, .ref br, .ref sg, .int 0, .int 0, .int 0, .int 0, .int 0, .int 0, .long 0, .long 0, .long 0, .long 0, .int 0]))]) hD hS hA [1] rfl
  refine va_calli (va_runV (As := []) (rest := []) ⟨hx, hb, hml, hown, hts⟩ (k_m_thrown l dC dI z zK zV mo ti si lo lh lk sp st pa br sg 0 0 0 0 0 0 0 0 0 0 0 0 0 0 0 0 0 0 H.size) (cwV 0 hts hL_X15_thrown_100 rfl rfl rfl (by decide +kernel) ⟨Nat.le_of_ble_eq_true rfl, Nat.le_of_ble_eq_true rfl⟩) ⟨kP_blind, va_recv hKc hPc (ci := 19) (q0 := 0) rfl rfl, kP_go hPc hKc hDc hFc hM hS⟩ rfl rfl hl.1 rfl (lv_room (Nat.le_of_ble_eq_true rfl)) dL_law_1290 ⟨Nat.le_of_ble_eq_true rfl, Nat.le_of_ble_eq_true rfl⟩) hS (fun q _ h => hFc q h) hFc (fun r3 u t H1 locs ht hvm hw hB hz1 hk1 hS => ?_)
  obtain ⟨hP, hD, hK⟩ := kJ (wr := [(ou, .inl (co, 1, .inr (.inl (vp_updL of_ 0 0))))]) (w1 := [(mo, .inr (19, [.int 0, .int 0, .int 0, .int 0, .int 0, .int 0, .int 0, .ref ti, .ref si, .ref lo, .ref lh, .ref lk, .ref sp, .ref st, .ref pa, .ref br, .ref sg, .int 0, .int 0, .int 0, .int 0, .int 0, .int 0, .long 0, .long 0, .long 0, .long 0, .int 0]))]) (t1 := []) hP hD hK [1] [0] rfl rfl (by decide) (by decide) hk1 hFc ht hvm hB
  generalize H1 = H at hP hS ⊢
  have hP : va_P (dC, dI) vwCl [(ou, .inl (co, 1, .inr (.inl (vp_updL of_ 0 0)))), (mo, .inr (19, [.int 0, .int 0, .int 0, .int 0, .int 0, .int 0, .int 0, .ref ti, .ref si, .ref lo, .ref lh, .ref lk, .ref sp, .ref st, .ref pa, .ref br, .ref sg, .int 0, .int 0, .int 0, .int 0, .int 0, .int 0, .long 0, .long 0, .long 0, .long 0, .int 0]))] H := hP
  have hD : va_D A [(ou, .inl (co, 1, .inr (.inl (vp_updL of_ 0 0)))), (mo, .inr (19, [.int 0, .int 0, .int 0, .int 0, .int 0, .int 0, .int 0, .ref ti, .ref si, .ref lo, .ref lh, .ref lk, .ref sp, .ref st, .ref pa, .ref br, .ref sg, .int 0, .int 0, .int 0, .int 0, .int 0, .int 0, .long 0, .long 0, .long 0, .long 0, .int 0]))] := hD
  have hK : va_K (dC, dI) vwCl [(cM, .object RX4), (cbr, .int), (co, .long)] s := hK
  obtain rfl : 0 = r3 := hw
  refine lv_iload hx hb dL_law_1293 (lv_at hl 1 rfl) ?_
  refine lv_icmp_eq (tgt := 1300) hx hb dL_law_1295 (by decide) (fun c4 => ?_) (fun c4 => ?_)
  · skip
    refine lv_iload hx hb dL_law_1300 (lv_at hl 1 rfl) ?_
    refine lv_if_ne (tgt := 1317) hx hb dL_law_1302 (by decide) (fun c_ => absurd (by decide +kernel) c_) (fun _ => ?_)
    refine lv_aload_n hx hb dL_law_1305 rfl (lv_at hl 5 rfl) ?_
    refine lv_iconst (v := 0) hx hb dL_law_1306 (by decide) ?_
    refine va_lald hx hb hK hP 0 2 rfl rfl (pk_in 0 1 (by decide) rfl) dL_law_1307 ?_
    refine kc_v (y := .long 0) rfl ?_
    refine lv_iload hx hb dL_law_1308 (lv_at hl 0 rfl) ?_
    refine lv_i2l (v := 0) hx hb dL_law_1310 (by decide +kernel) ?_
    refine W.lcmp hx hb dL_law_1311 ?_
    refine kc_i (y := 0) (by decide +kernel) ?_
    refine lv_if_eq (tgt := 1317) hx hb dL_law_1312 (by decide) (fun _ => ?_) (fun c_ => absurd (by decide +kernel) c_)
    refine lv_goto (tgt := 1684) hx hb dL_law_1317 (by decide) ?_
    exact la_tail hst C0 hA hAl H locs hS ls (lv_sub hl [2, 7] rfl) (by omega) (by omega)
  · skip
    refine lv_iconst (v := 0) hx hb dL_law_1298 (by decide) ?_
    @RET 0 1299 ireturn
set_option maxHeartbeats 8000000 in
set_option maxRecDepth 100000 in
theorem la_braced2 {p : Program} {l : Launch} {e : Env} {s : State} {m : MethodId} {below : List Frame} {meth : Method} {c : Code} {dC : Nat → ClassId} {dI : Nat → Nat → Nat} {z zK zV : Nat → Nat} {b : Nat} {xs : Nat → Int32} {A : Nat → Prop} (hst : l.stackTraces = false) (C0 : lw_At p s m meth c b 4 xs) (hM : am z zK zV A s s.heap) (hA : ∀ q : Nat, s.heap.size ≤ q → A q) (hAl : ∀ q : Nat, A q → s.heap.size ≤ q) (sh : Nat) (rg : Nat) (mf : Nat) (mm : Nat) (mz : Nat) (ma : Nat) (sa : Nat) (dk : Nat) (hd : Nat) (lg : Nat) (pl : Nat) (pr : Nat) (cM : ClassId) (x : Nat) (tl : Nat) (tw : Nat) (mo : Nat) (ti : Nat) (si : Nat) (lo : Nat) (lh : Nat) (lk : Nat) (sp : Nat) (st : Nat) (pa : Nat) (br : Nat) (sg : Nat) (cbr : ClassId) (ou : Nat) (co : ClassId) (of_ : Nat → Int64) (od_ : Nat)  (hs1 : xs 1 = 2) (H : Heap) (locs : List Loc) (hK : va_K (dC, dI) vwCl [(cM, .object RX4), (cbr, .int), (co, .long)] s) (hP : va_P (dC, dI) vwCl [(x, .inr (15, [.ref sh, .ref tl, .ref tw, .int 0])), (sh, .inr (13, [.ref rg, .ref dk, .ref hd, .ref lg, .ref pl, .ref pr, .int 0, .int 0, .int 0, .int 0, .int 0, .int 0, .int 0, .int 0, .int 0, .int 0, .int 0])), (rg, .inr (11, [.ref mf, .ref mm, .ref mz, .ref ma, .ref sa, .int 0])), (mz, .inr (8, [.int 0, .int 0, .int 0])), (ma, .inl (cM, 3, .inr (.inr (.inr (.inr (va_up (va_up (va_up (fun _ => none) 0 (some mf)) 1 (some mm)) 2 (some mz))))))), (mo, .inr (19, [.int 0, .int 0, .int 0, .int 0, .int 0, .int 0, .int 0, .ref ti, .ref si, .ref lo, .ref lh, .ref lk, .ref sp, .ref st, .ref pa, .ref br, .ref sg, .int 0, .int 0, .int 0, .int 0, .int 0, .int 0, .long 0, .long 0, .long 0, .long 0, .int 0])), (br, .inl (cbr, 3, .inl (fun _ => 0))), (ou, .inl (co, 1, .inr (.inl of_)))] H) (hD : va_D A [(x, .inr (15, [.ref sh, .ref tl, .ref tw, .int 0])), (sh, .inr (13, [.ref rg, .ref dk, .ref hd, .ref lg, .ref pl, .ref pr, .int 0, .int 0, .int 0, .int 0, .int 0, .int 0, .int 0, .int 0, .int 0, .int 0, .int 0])), (rg, .inr (11, [.ref mf, .ref mm, .ref mz, .ref ma, .ref sa, .int 0])), (mz, .inr (8, [.int 0, .int 0, .int 0])), (ma, .inl (cM, 3, .inr (.inr (.inr (.inr (va_up (va_up (va_up (fun _ => none) 0 (some mf)) 1 (some mm)) 2 (some mz))))))), (mo, .inr (19, [.int 0, .int 0, .int 0, .int 0, .int 0, .int 0, .int 0, .ref ti, .ref si, .ref lo, .ref lh, .ref lk, .ref sp, .ref st, .ref pa, .ref br, .ref sg, .int 0, .int 0, .int 0, .int 0, .int 0, .int 0, .long 0, .long 0, .long 0, .long 0, .int 0])), (br, .inl (cbr, 3, .inl (fun _ => 0))), (ou, .inl (co, 1, .inr (.inl of_)))]) (hS : va_S A s.heap H locs) (ls : Array Slot) (hl : lv_has ls 10 [(0, .ref b), (1, .ref x), (2, .ref mo), (3, .ref ou), (4, .ref od_), (5, .int 0)]) : W p l e room_1 s m #[Value.ref b] below meth c H locs 100 1400 (lw_Z below #[Value.ref b] s) (F0 m 1264 ls []) := by
  obtain ⟨hx, hb, hr, hml, hown, hts, hX, hbl, hlocks, hgv⟩ := id C0
  have hbA : ¬ A b := fun h => absurd (hAl b h) (Nat.not_le.mpr hbl)
  refine lv_aload_n hx hb dL_law_1264 rfl (lv_at hl 1 rfl) ?_
  refine lv_aload_n hx hb dL_law_1265 rfl (lv_at hl 0 rfl) ?_
  refine lv_iload hx hb dL_law_1266 (lv_at hl 5 rfl) ?_
  refine lv_iconst (v := 1) hx hb dL_law_1268 (by decide) ?_
  refine lv_iadd hx hb dL_law_1269 ?_
  refine kc_i (y := 1) (by decide +kernel) ?_
  refine va_sld hx hb hX hbl hbA hS (pk_in 1 4 (by decide) rfl) dL_law_1270 ?_
  refine kc_i (y := 2) (hs1 : xs 1 = 2) ?_
  refine lv_aload_n hx hb dL_law_1271 rfl (lv_at hl 3 rfl) ?_
  have hPc := hP.sub (ws' := [(x, .inr (15, [.ref sh, .ref tl, .ref tw, .int 0])), (sh, .inr (13, [.ref rg, .ref dk, .ref hd, .ref lg, .ref pl, .ref pr, .int 0, .int 0, .int 0, .int 0, .int 0, .int 0, .int 0, .int 0, .int 0, .int 0, .int 0])), (rg, .inr (11, [.ref mf, .ref mm, .ref mz, .ref ma, .ref sa, .int 0])), (ma, .inl (cM, 3, .inr (.inr (.inr (.inr (va_up (va_up (va_up (fun _ => none) 0 (some mf)) 1 (some mm)) 2 (some mz))))))), (mz, .inr (8, [.int 0, .int 0, .int 0])), (ou, .inl (co, 1, .inr (.inl of_)))]) [0, 1, 2, 4, 3, 7] rfl
  have hDc := hD.sub (ws' := [(x, .inr (15, [.ref sh, .ref tl, .ref tw, .int 0])), (sh, .inr (13, [.ref rg, .ref dk, .ref hd, .ref lg, .ref pl, .ref pr, .int 0, .int 0, .int 0, .int 0, .int 0, .int 0, .int 0, .int 0, .int 0, .int 0, .int 0])), (rg, .inr (11, [.ref mf, .ref mm, .ref mz, .ref ma, .ref sa, .int 0])), (ma, .inl (cM, 3, .inr (.inr (.inr (.inr (va_up (va_up (va_up (fun _ => none) 0 (some mf)) 1 (some mm)) 2 (some mz))))))), (mz, .inr (8, [.int 0, .int 0, .int 0])), (ou, .inl (co, 1, .inr (.inl of_)))]) [0, 1, 2, 4, 3, 7] (by decide) rfl
  have hKc := hK.sub (tys' := [(cM, .object RX4), (co, .long)]) [0, 2] rfl
  have hFc := va_free (wc := [(x, .inr (15, [.ref sh, .ref tl, .ref tw, .int 0])), (sh, .inr (13, [.ref rg, .ref dk, .ref hd, .ref lg, .ref pl, .ref pr, .int 0, .int 0, .int 0, .int 0, .int 0, .int 0, .int 0, .int 0, .int 0, .int 0, .int 0])), (rg, .inr (11, [.ref mf, .ref mm, .ref mz, .ref ma, .ref sa, .int 0])), (ma, .inl (cM, 3, .inr (.inr (.inr (.inr (va_up (va_up (va_up (fun _ => none) 0 (some mf)) 1 (some mm)) 2 (some mz))))))), (mz, .inr (8, [.int 0, .int 0, .int 0])), (ou, .inl (co, 1, .inr (.inl of_)))]) hD hS hA [0, 1, 2, 4, 3, 7] rfl
  refine va_calli (vx_runSW (As := [.ref x, .int 2, .ref ou]) (rest := []) ⟨hx, hb, hml, hown, hts⟩ (k_l_braced2 l dC dI z zK zV sh rg mf mm mz ma sa dk hd lg pl pr cM x tl tw ou co of_ H.size) (vx_cwSW 3 hts hL_L_braced_187 rfl rfl rfl (by decide +kernel) ⟨Nat.le_of_ble_eq_true rfl, Nat.le_of_ble_eq_true rfl⟩) ⟨kP_blind, kP_go hPc hKc hDc hFc hM hS⟩ rfl rfl hl.1 rfl (lv_room (Nat.le_of_ble_eq_true rfl)) dL_law_1272 ⟨Nat.le_of_ble_eq_true rfl, Nat.le_of_ble_eq_true rfl⟩) hS (fun q _ h => hFc q h) hFc (fun r1 u t H1 locs ht hvm hw hB hz1 hk1 hS => ?_)
  obtain ⟨hP, hD, hK⟩ := kJ (wr := [(mo, .inr (19, [.int 0, .int 0, .int 0, .int 0, .int 0, .int 0, .int 0, .ref ti, .ref si, .ref lo, .ref lh, .ref lk, .ref sp, .ref st, .ref pa, .ref br, .ref sg, .int 0, .int 0, .int 0, .int 0, .int 0, .int 0, .long 0, .long 0, .long 0, .long 0, .int 0])), (br, .inl (cbr, 3, .inl (fun _ => 0)))]) (w1 := [(ou, .inl (co, 1, .inr (.inl (vp_updL of_ 0 0))))]) (t1 := []) hP hD hK [0, 1, 2, 4, 3, 7] [5, 6] rfl rfl (by decide) (by decide) hk1 hFc ht hvm hB
  generalize H1 = H at hP hS ⊢
  have hP : va_P (dC, dI) vwCl [(mo, .inr (19, [.int 0, .int 0, .int 0, .int 0, .int 0, .int 0, .int 0, .ref ti, .ref si, .ref lo, .ref lh, .ref lk, .ref sp, .ref st, .ref pa, .ref br, .ref sg, .int 0, .int 0, .int 0, .int 0, .int 0, .int 0, .long 0, .long 0, .long 0, .long 0, .int 0])), (br, .inl (cbr, 3, .inl (fun _ => 0))), (ou, .inl (co, 1, .inr (.inl (vp_updL of_ 0 0))))] H := hP
  have hD : va_D A [(mo, .inr (19, [.int 0, .int 0, .int 0, .int 0, .int 0, .int 0, .int 0, .ref ti, .ref si, .ref lo, .ref lh, .ref lk, .ref sp, .ref st, .ref pa, .ref br, .ref sg, .int 0, .int 0, .int 0, .int 0, .int 0, .int 0, .long 0, .long 0, .long 0, .long 0, .int 0])), (br, .inl (cbr, 3, .inl (fun _ => 0))), (ou, .inl (co, 1, .inr (.inl (vp_updL of_ 0 0))))] := hD
  have hK : va_K (dC, dI) vwCl [(cM, .object RX4), (cbr, .int), (co, .long)] s := hK
  obtain rfl : 0 = r1 := hw
  refine lv_istore (lv' := [(6, .int 0), (0, .ref b), (1, .ref x), (2, .ref mo), (3, .ref ou), (4, .ref od_), (5, .int 0)]) hx hb dL_law_1275 hl (by decide) rfl (fun ls hl => ?_)
  refine lv_aload_n hx hb dL_law_1277 rfl (lv_at hl 3 rfl) ?_
  refine lv_aload_n hx hb dL_law_1278 rfl (lv_at hl 1 rfl) ?_
  refine lv_iload hx hb dL_law_1279 (lv_at hl 6 rfl) ?_
  refine lv_iconst (v := 1) hx hb dL_law_1281 (by decide) ?_
  refine lv_iadd hx hb dL_law_1282 ?_
  refine kc_i (y := 1) (by decide +kernel) ?_
  refine va_sld hx hb hX hbl hbA hS (pk_in 1 4 (by decide) rfl) dL_law_1283 ?_
  refine kc_i (y := 2) (hs1 : xs 1 = 2) ?_
  have hPc := hP.sub (ws' := [(mo, .inr (19, [.int 0, .int 0, .int 0, .int 0, .int 0, .int 0, .int 0, .ref ti, .ref si, .ref lo, .ref lh, .ref lk, .ref sp, .ref st, .ref pa, .ref br, .ref sg, .int 0, .int 0, .int 0, .int 0, .int 0, .int 0, .long 0, .long 0, .long 0, .long 0, .int 0])), (br, .inl (cbr, 3, .inl (fun _ => 0)))]) [0, 1] rfl
  have hDc := hD.sub (ws' := [(mo, .inr (19, [.int 0, .int 0, .int 0, .int 0, .int 0, .int 0, .int 0, .ref ti, .ref si, .ref lo, .ref lh, .ref lk, .ref sp, .ref st, .ref pa, .ref br, .ref sg, .int 0, .int 0, .int 0, .int 0, .int 0, .int 0, .long 0, .long 0, .long 0, .long 0, .int 0])), (br, .inl (cbr, 3, .inl (fun _ => 0)))]) [0, 1] (by decide) rfl
  have hKc := hK.sub (tys' := [(cbr, .int)]) [1] rfl
  have hFc := va_free (wc := [(mo, .inr (19, [.int 0, .int 0, .int 0, .int 0, .int 0, .int 0, .int 0, .ref ti, .ref si, .ref lo, .ref lh, .ref lk, .ref sp, .ref st, .ref pa, .ref br, .ref sg, .int 0, .int 0, .int 0, .int 0, .int 0, .int 0, .long 0, .long 0, .long 0, .long 0, .int 0])), (br, .inl (cbr, 3, .inl (fun _ => 0)))]) hD hS hA [0, 1] rfl
  refine va_calli (va_runV (As := [.int 2]) (rest := []) ⟨hx, hb, hml, hown, hts⟩ (k_m_braced2 l dC dI z zK zV mo ti si lo lh lk sp st pa br sg cbr 0 H.size) (cwV 1 hts hL_X15_braced_189 rfl rfl rfl (by decide +kernel) ⟨Nat.le_of_ble_eq_true rfl, Nat.le_of_ble_eq_true rfl⟩) ⟨kP_blind, va_recv hKc hPc (ci := 19) (q0 := 0) rfl rfl, kP_go hPc hKc hDc hFc hM hS⟩ rfl rfl hl.1 rfl (lv_room (Nat.le_of_ble_eq_true rfl)) dL_law_1284 ⟨Nat.le_of_ble_eq_true rfl, Nat.le_of_ble_eq_true rfl⟩) hS (fun q _ h => hFc q h) hFc (fun r2 u t H1 locs ht hvm hw hB hz1 hk1 hS => ?_)
  obtain ⟨hP, hD, hK⟩ := kJ (wr := [(ou, .inl (co, 1, .inr (.inl (vp_updL of_ 0 0))))]) (w1 := [(mo, .inr (19, [.int 0, .int 0, .int 0, .int 0, .int 0, .int 0, .int 0, .ref ti, .ref si, .ref lo, .ref lh, .ref lk, .ref sp, .ref st, .ref pa, .ref br, .ref sg, .int 0, .int 0, .int 0, .int 0, .int 0, .int 0, .long 0, .long 0, .long 0, .long 0, .int 0]))]) (t1 := []) hP hD hK [0, 1] [2] rfl rfl (by decide) (by decide) hk1 hFc ht hvm hB
  generalize H1 = H at hP hS ⊢
  have hP : va_P (dC, dI) vwCl [(ou, .inl (co, 1, .inr (.inl (vp_updL of_ 0 0)))), (mo, .inr (19, [.int 0, .int 0, .int 0, .int 0, .int 0, .int 0, .int 0, .ref ti, .ref si, .ref lo, .ref lh, .ref lk, .ref sp, .ref st, .ref pa, .ref br, .ref sg, .int 0, .int 0, .int 0, .int 0, .int 0, .int 0, .long 0, .long 0, .long 0, .long 0, .int 0]))] H := hP
  have hD : va_D A [(ou, .inl (co, 1, .inr (.inl (vp_updL of_ 0 0)))), (mo, .inr (19, [.int 0, .int 0, .int 0, .int 0, .int 0, .int 0, .int 0, .ref ti, .ref si, .ref lo, .ref lh, .ref lk, .ref sp, .ref st, .ref pa, .ref br, .ref sg, .int 0, .int 0, .int 0, .int 0, .int 0, .int 0, .long 0, .long 0, .long 0, .long 0, .int 0]))] := hD
  have hK : va_K (dC, dI) vwCl [(cM, .object RX4), (cbr, .int), (co, .long)] s := hK
  obtain rfl : 0 = r2 := hw
  refine lv_istore (lv' := [(7, .int 0), (6, .int 0), (0, .ref b), (1, .ref x), (2, .ref mo), (3, .ref ou), (4, .ref od_), (5, .int 0)]) hx hb dL_law_1287 hl (by decide) rfl (fun ls hl => ?_)
  refine lv_aload_n hx hb dL_law_1289 rfl (lv_at hl 4 rfl) ?_
  have hPc := hP.sub (ws' := [(mo, .inr (19, [.int 0, .int 0, .int 0, .int 0, .int 0, .int 0, .int 0, .ref ti, .ref si, .ref lo, .ref lh, .ref lk, .ref sp, .ref st, .ref pa, .ref br, .ref sg, .int 0, .int 0, .int 0, .int 0, .int 0, .int 0, .long 0, .long 0, .long 0, .long 0, .int 0]))]) [1] rfl
  have hDc := hD.sub (ws' := [(mo, .inr (19, [.int 0, .int 0, .int 0, .int 0, .int 0, .int 0, .int 0, .ref ti, .ref si, .ref lo, .ref lh, .ref lk, .ref sp, .ref st, .ref pa, .ref br, .ref sg, .int 0, .int 0, .int 0, .int 0, .int 0, .int 0, .long 0, .long 0, .long 0, .long 0, .int 0]))]) [1] (by decide) rfl
  have hKc := hK.sub (tys' := []) [] rfl
  have hFc := va_free (wc := [(mo, .inr (19, [.int 0, .int 0, .int 0, .int 0, .int 0, .int 0, .int 0, .ref ti, .ref si, .ref lo, .ref lh, .ref lk, .ref sp, .ref st, .ref pa, .ref br, .ref sg, .int 0, .int 0, .int 0, .int 0, .int 0, .int 0, .long 0, .long 0, .long 0, .long 0, .int 0]))]) hD hS hA [1] rfl
  refine va_calli (va_runV (As := []) (rest := []) ⟨hx, hb, hml, hown, hts⟩ (k_m_thrown l dC dI z zK zV mo ti si lo lh lk sp st pa br sg 0 0 0 0 0 0 0 0 0 0 0 0 0 0 0 0 0 0 H.size) (cwV 0 hts hL_X15_thrown_100 rfl rfl rfl (by decide +kernel) ⟨Nat.le_of_ble_eq_true rfl, Nat.le_of_ble_eq_true rfl⟩) ⟨kP_blind, va_recv hKc hPc (ci := 19) (q0 := 0) rfl rfl, kP_go hPc hKc hDc hFc hM hS⟩ rfl rfl hl.1 rfl (lv_room (Nat.le_of_ble_eq_true rfl)) dL_law_1290 ⟨Nat.le_of_ble_eq_true rfl, Nat.le_of_ble_eq_true rfl⟩) hS (fun q _ h => hFc q h) hFc (fun r3 u t H1 locs ht hvm hw hB hz1 hk1 hS => ?_)
  obtain ⟨hP, hD, hK⟩ := kJ (wr := [(ou, .inl (co, 1, .inr (.inl (vp_updL of_ 0 0))))]) (w1 := [(mo, .inr (19, [.int 0, .int 0, .int 0, .int 0, .int 0, .int 0, .int 0, .ref ti, .ref si, .ref lo, .ref lh, .ref lk, .ref sp, .ref st, .ref pa, .ref br, .ref sg, .int 0, .int 0, .int 0, .int 0, .int 0, .int 0, .long 0, .long 0, .long 0, .long 0, .int 0]))]) (t1 := []) hP hD hK [1] [0] rfl rfl (by decide) (by decide) hk1 hFc ht hvm hB
  generalize H1 = H at hP hS ⊢
  have hP : va_P (dC, dI) vwCl [(ou, .inl (co, 1, .inr (.inl (vp_updL of_ 0 0)))), (mo, .inr (19, [.int 0, .int 0, .int 0, .int 0, .int 0, .int 0, .int 0, .ref ti, .ref si, .ref lo, .ref lh, .ref lk, .ref sp, .ref st, .ref pa, .ref br, .ref sg, .int 0, .int 0, .int 0, .int 0, .int 0, .int 0, .long 0, .long 0, .long 0, .long 0, .int 0]))] H := hP
  have hD : va_D A [(ou, .inl (co, 1, .inr (.inl (vp_updL of_ 0 0)))), (mo, .inr (19, [.int 0, .int 0, .int 0, .int 0, .int 0, .int 0, .int 0, .ref ti, .ref si, .ref lo, .ref lh, .ref lk, .ref sp, .ref st, .ref pa, .ref br, .ref sg, .int 0, .int 0, .int 0, .int 0, .int 0, .int 0, .long 0, .long 0, .long 0, .long 0, .int 0]))] := hD
  have hK : va_K (dC, dI) vwCl [(cM, .object RX4), (cbr, .int), (co, .long)] s := hK
  obtain rfl : 0 = r3 := hw
  refine lv_iload hx hb dL_law_1293 (lv_at hl 1 rfl) ?_
  refine lv_icmp_eq (tgt := 1300) hx hb dL_law_1295 (by decide) (fun c4 => ?_) (fun c4 => ?_)
  · skip
    refine lv_iload hx hb dL_law_1300 (lv_at hl 1 rfl) ?_
    refine lv_if_ne (tgt := 1317) hx hb dL_law_1302 (by decide) (fun c_ => absurd (by decide +kernel) c_) (fun _ => ?_)
    refine lv_aload_n hx hb dL_law_1305 rfl (lv_at hl 5 rfl) ?_
    refine lv_iconst (v := 0) hx hb dL_law_1306 (by decide) ?_
    refine va_lald hx hb hK hP 0 2 rfl rfl (pk_in 0 1 (by decide) rfl) dL_law_1307 ?_
    refine kc_v (y := .long 0) rfl ?_
    refine lv_iload hx hb dL_law_1308 (lv_at hl 0 rfl) ?_
    refine lv_i2l (v := 0) hx hb dL_law_1310 (by decide +kernel) ?_
    refine W.lcmp hx hb dL_law_1311 ?_
    refine kc_i (y := 0) (by decide +kernel) ?_
    refine lv_if_eq (tgt := 1317) hx hb dL_law_1312 (by decide) (fun _ => ?_) (fun c_ => absurd (by decide +kernel) c_)
    refine lv_goto (tgt := 1684) hx hb dL_law_1317 (by decide) ?_
    exact la_tail hst C0 hA hAl H locs hS ls (lv_sub hl [2, 7] rfl) (by omega) (by omega)
  · skip
    refine lv_iconst (v := 0) hx hb dL_law_1298 (by decide) ?_
    @RET 0 1299 ireturn
set_option maxHeartbeats 8000000 in
set_option maxRecDepth 100000 in
theorem la_braced_bad {p : Program} {l : Launch} {e : Env} {s : State} {m : MethodId} {below : List Frame} {meth : Method} {c : Code} {dC : Nat → ClassId} {dI : Nat → Nat → Nat} {z zK zV : Nat → Nat} {b : Nat} {xs : Nat → Int32} {A : Nat → Prop} (hst : l.stackTraces = false) (C0 : lw_At p s m meth c b 4 xs) (hM : am z zK zV A s s.heap) (hA : ∀ q : Nat, s.heap.size ≤ q → A q) (hAl : ∀ q : Nat, A q → s.heap.size ≤ q) (sh : Nat) (rg : Nat) (mf : Nat) (mm : Nat) (mz : Nat) (ma : Nat) (sa : Nat) (dk : Nat) (hd : Nat) (lg : Nat) (pl : Nat) (pr : Nat) (cM : ClassId) (x : Nat) (tl : Nat) (tw : Nat) (p0 : Int32) (mo : Nat) (ti : Nat) (si : Nat) (lo : Nat) (lh : Nat) (lk : Nat) (sp : Nat) (st : Nat) (pa : Nat) (br : Nat) (sg : Nat) (ou : Nat) (co : ClassId) (of_ : Nat → Int64) (od_ : Nat) (hb0 : ¬ ((0 : Int32) ≤ p0 ∧ p0 ≤ 2)) (hs1 : xs 1 = p0) (H : Heap) (locs : List Loc) (hK : va_K (dC, dI) vwCl [(cM, .object RX4), (co, .long)] s) (hP : va_P (dC, dI) vwCl [(x, .inr (15, [.ref sh, .ref tl, .ref tw, .int 0])), (sh, .inr (13, [.ref rg, .ref dk, .ref hd, .ref lg, .ref pl, .ref pr, .int 0, .int 0, .int 0, .int 0, .int 0, .int 0, .int 0, .int 0, .int 0, .int 0, .int 0])), (rg, .inr (11, [.ref mf, .ref mm, .ref mz, .ref ma, .ref sa, .int 0])), (ma, .inl (cM, 3, .inr (.inr (.inr (.inr (va_up (va_up (va_up (fun _ => none) 0 (some mf)) 1 (some mm)) 2 (some mz))))))), (mo, .inr (19, [.int 0, .int 0, .int 0, .int 0, .int 0, .int 0, .int 0, .ref ti, .ref si, .ref lo, .ref lh, .ref lk, .ref sp, .ref st, .ref pa, .ref br, .ref sg, .int 0, .int 0, .int 0, .int 0, .int 0, .int 0, .long 0, .long 0, .long 0, .long 0, .int 0])), (ou, .inl (co, 1, .inr (.inl of_)))] H) (hD : va_D A [(x, .inr (15, [.ref sh, .ref tl, .ref tw, .int 0])), (sh, .inr (13, [.ref rg, .ref dk, .ref hd, .ref lg, .ref pl, .ref pr, .int 0, .int 0, .int 0, .int 0, .int 0, .int 0, .int 0, .int 0, .int 0, .int 0, .int 0])), (rg, .inr (11, [.ref mf, .ref mm, .ref mz, .ref ma, .ref sa, .int 0])), (ma, .inl (cM, 3, .inr (.inr (.inr (.inr (va_up (va_up (va_up (fun _ => none) 0 (some mf)) 1 (some mm)) 2 (some mz))))))), (mo, .inr (19, [.int 0, .int 0, .int 0, .int 0, .int 0, .int 0, .int 0, .ref ti, .ref si, .ref lo, .ref lh, .ref lk, .ref sp, .ref st, .ref pa, .ref br, .ref sg, .int 0, .int 0, .int 0, .int 0, .int 0, .int 0, .long 0, .long 0, .long 0, .long 0, .int 0])), (ou, .inl (co, 1, .inr (.inl of_)))]) (hS : va_S A s.heap H locs) (ls : Array Slot) (hl : lv_has ls 10 [(0, .ref b), (1, .ref x), (2, .ref mo), (3, .ref ou), (4, .ref od_), (5, .int 0)]) : W p l e room_1 s m #[Value.ref b] below meth c H locs 100 1400 (lw_Z below #[Value.ref b] s) (F0 m 1264 ls []) := by
  obtain ⟨hx, hb, hr, hml, hown, hts, hX, hbl, hlocks, hgv⟩ := id C0
  have hbA : ¬ A b := fun h => absurd (hAl b h) (Nat.not_le.mpr hbl)
  refine lv_aload_n hx hb dL_law_1264 rfl (lv_at hl 1 rfl) ?_
  refine lv_aload_n hx hb dL_law_1265 rfl (lv_at hl 0 rfl) ?_
  refine lv_iload hx hb dL_law_1266 (lv_at hl 5 rfl) ?_
  refine lv_iconst (v := 1) hx hb dL_law_1268 (by decide) ?_
  refine lv_iadd hx hb dL_law_1269 ?_
  refine kc_i (y := 1) (by decide +kernel) ?_
  refine va_sld hx hb hX hbl hbA hS (pk_in 1 4 (by decide) rfl) dL_law_1270 ?_
  refine kc_i (y := p0) (hs1 : xs 1 = p0) ?_
  refine lv_aload_n hx hb dL_law_1271 rfl (lv_at hl 3 rfl) ?_
  have hPc := hP.sub (ws' := [(x, .inr (15, [.ref sh, .ref tl, .ref tw, .int 0])), (sh, .inr (13, [.ref rg, .ref dk, .ref hd, .ref lg, .ref pl, .ref pr, .int 0, .int 0, .int 0, .int 0, .int 0, .int 0, .int 0, .int 0, .int 0, .int 0, .int 0])), (rg, .inr (11, [.ref mf, .ref mm, .ref mz, .ref ma, .ref sa, .int 0])), (ma, .inl (cM, 3, .inr (.inr (.inr (.inr (va_up (va_up (va_up (fun _ => none) 0 (some mf)) 1 (some mm)) 2 (some mz))))))), (ou, .inl (co, 1, .inr (.inl of_)))]) [0, 1, 2, 3, 5] rfl
  have hDc := hD.sub (ws' := [(x, .inr (15, [.ref sh, .ref tl, .ref tw, .int 0])), (sh, .inr (13, [.ref rg, .ref dk, .ref hd, .ref lg, .ref pl, .ref pr, .int 0, .int 0, .int 0, .int 0, .int 0, .int 0, .int 0, .int 0, .int 0, .int 0, .int 0])), (rg, .inr (11, [.ref mf, .ref mm, .ref mz, .ref ma, .ref sa, .int 0])), (ma, .inl (cM, 3, .inr (.inr (.inr (.inr (va_up (va_up (va_up (fun _ => none) 0 (some mf)) 1 (some mm)) 2 (some mz))))))), (ou, .inl (co, 1, .inr (.inl of_)))]) [0, 1, 2, 3, 5] (by decide) rfl
  have hKc := hK.sub (tys' := [(cM, .object RX4), (co, .long)]) [0, 1] rfl
  have hFc := va_free (wc := [(x, .inr (15, [.ref sh, .ref tl, .ref tw, .int 0])), (sh, .inr (13, [.ref rg, .ref dk, .ref hd, .ref lg, .ref pl, .ref pr, .int 0, .int 0, .int 0, .int 0, .int 0, .int 0, .int 0, .int 0, .int 0, .int 0, .int 0])), (rg, .inr (11, [.ref mf, .ref mm, .ref mz, .ref ma, .ref sa, .int 0])), (ma, .inl (cM, 3, .inr (.inr (.inr (.inr (va_up (va_up (va_up (fun _ => none) 0 (some mf)) 1 (some mm)) 2 (some mz))))))), (ou, .inl (co, 1, .inr (.inl of_)))]) hD hS hA [0, 1, 2, 3, 5] rfl
  refine va_calli (vx_runSW (As := [.ref x, .int p0, .ref ou]) (rest := []) ⟨hx, hb, hml, hown, hts⟩ (k_l_braced_bad l dC dI z zK zV sh rg mf mm mz ma sa dk hd lg pl pr cM x tl tw p0 ou co of_ H.size hst ((k_out3 hb0))) (vx_cwSW 3 hts hL_L_braced_187 rfl rfl rfl (by decide +kernel) ⟨Nat.le_of_ble_eq_true rfl, Nat.le_of_ble_eq_true rfl⟩) ⟨kP_blind, kP_go hPc hKc hDc hFc hM hS⟩ rfl rfl hl.1 rfl (lv_room (Nat.le_of_ble_eq_true rfl)) dL_law_1272 ⟨Nat.le_of_ble_eq_true rfl, Nat.le_of_ble_eq_true rfl⟩) hS (fun q _ h => hFc q h) hFc (fun r1 u t H1 locs ht hvm hw hB hz1 hk1 hS => ?_)
  obtain ⟨hP, hD, hK⟩ := kJ (wr := [(mo, .inr (19, [.int 0, .int 0, .int 0, .int 0, .int 0, .int 0, .int 0, .ref ti, .ref si, .ref lo, .ref lh, .ref lk, .ref sp, .ref st, .ref pa, .ref br, .ref sg, .int 0, .int 0, .int 0, .int 0, .int 0, .int 0, .long 0, .long 0, .long 0, .long 0, .int 0]))]) (w1 := []) (t1 := []) hP hD hK [0, 1, 2, 3, 5] [4] rfl rfl (by decide) (by decide) hk1 hFc ht hvm hB
  generalize H1 = H at hP hS ⊢
  have hP : va_P (dC, dI) vwCl [(mo, .inr (19, [.int 0, .int 0, .int 0, .int 0, .int 0, .int 0, .int 0, .ref ti, .ref si, .ref lo, .ref lh, .ref lk, .ref sp, .ref st, .ref pa, .ref br, .ref sg, .int 0, .int 0, .int 0, .int 0, .int 0, .int 0, .long 0, .long 0, .long 0, .long 0, .int 0]))] H := hP
  have hD : va_D A [(mo, .inr (19, [.int 0, .int 0, .int 0, .int 0, .int 0, .int 0, .int 0, .ref ti, .ref si, .ref lo, .ref lh, .ref lk, .ref sp, .ref st, .ref pa, .ref br, .ref sg, .int 0, .int 0, .int 0, .int 0, .int 0, .int 0, .long 0, .long 0, .long 0, .long 0, .int 0]))] := hD
  have hK : va_K (dC, dI) vwCl [(cM, .object RX4), (co, .long)] s := hK
  obtain rfl : 1 = r1 := hw
  refine lv_istore (lv' := [(6, .int 1), (0, .ref b), (1, .ref x), (2, .ref mo), (3, .ref ou), (4, .ref od_), (5, .int 0)]) hx hb dL_law_1275 hl (by decide) rfl (fun ls hl => ?_)
  refine lv_aload_n hx hb dL_law_1277 rfl (lv_at hl 3 rfl) ?_
  refine lv_aload_n hx hb dL_law_1278 rfl (lv_at hl 1 rfl) ?_
  refine lv_iload hx hb dL_law_1279 (lv_at hl 6 rfl) ?_
  refine lv_iconst (v := 1) hx hb dL_law_1281 (by decide) ?_
  refine lv_iadd hx hb dL_law_1282 ?_
  refine kc_i (y := 1) (by decide +kernel) ?_
  refine va_sld hx hb hX hbl hbA hS (pk_in 1 4 (by decide) rfl) dL_law_1283 ?_
  refine kc_i (y := p0) (hs1 : xs 1 = p0) ?_
  have hPc := hP.sub (ws' := [(mo, .inr (19, [.int 0, .int 0, .int 0, .int 0, .int 0, .int 0, .int 0, .ref ti, .ref si, .ref lo, .ref lh, .ref lk, .ref sp, .ref st, .ref pa, .ref br, .ref sg, .int 0, .int 0, .int 0, .int 0, .int 0, .int 0, .long 0, .long 0, .long 0, .long 0, .int 0]))]) [0] rfl
  have hDc := hD.sub (ws' := [(mo, .inr (19, [.int 0, .int 0, .int 0, .int 0, .int 0, .int 0, .int 0, .ref ti, .ref si, .ref lo, .ref lh, .ref lk, .ref sp, .ref st, .ref pa, .ref br, .ref sg, .int 0, .int 0, .int 0, .int 0, .int 0, .int 0, .long 0, .long 0, .long 0, .long 0, .int 0]))]) [0] (by decide) rfl
  have hKc := hK.sub (tys' := []) [] rfl
  have hFc := va_free (wc := [(mo, .inr (19, [.int 0, .int 0, .int 0, .int 0, .int 0, .int 0, .int 0, .ref ti, .ref si, .ref lo, .ref lh, .ref lk, .ref sp, .ref st, .ref pa, .ref br, .ref sg, .int 0, .int 0, .int 0, .int 0, .int 0, .int 0, .long 0, .long 0, .long 0, .long 0, .int 0]))]) hD hS hA [0] rfl
  refine va_calli (va_runV (As := [.int p0]) (rest := []) ⟨hx, hb, hml, hown, hts⟩ (k_m_braced_bad l dC dI z zK zV p0 mo ti si lo lh lk sp st pa br sg 0 H.size (hb0)) (cwV 1 hts hL_X15_braced_189 rfl rfl rfl (by decide +kernel) ⟨Nat.le_of_ble_eq_true rfl, Nat.le_of_ble_eq_true rfl⟩) ⟨kP_blind, va_recv hKc hPc (ci := 19) (q0 := 0) rfl rfl, kP_go hPc hKc hDc hFc hM hS⟩ rfl rfl hl.1 rfl (lv_room (Nat.le_of_ble_eq_true rfl)) dL_law_1284 ⟨Nat.le_of_ble_eq_true rfl, Nat.le_of_ble_eq_true rfl⟩) hS (fun q _ h => hFc q h) hFc (fun r2 u t H1 locs ht hvm hw hB hz1 hk1 hS => ?_)
  obtain ⟨hP, hD, hK⟩ := kJ (wr := []) (w1 := [(mo, .inr (19, [.int 0, .int 0, .int 0, .int 0, .int 0, .int 0, .int 0, .ref ti, .ref si, .ref lo, .ref lh, .ref lk, .ref sp, .ref st, .ref pa, .ref br, .ref sg, .int 0, .int 0, .int 0, .int 0, .int 0, .int 0, .long 0, .long 0, .long 0, .long 0, .int 1]))]) (t1 := []) hP hD hK [0] [] rfl rfl (by decide) (by decide) hk1 hFc ht hvm hB
  generalize H1 = H at hP hS ⊢
  have hP : va_P (dC, dI) vwCl [(mo, .inr (19, [.int 0, .int 0, .int 0, .int 0, .int 0, .int 0, .int 0, .ref ti, .ref si, .ref lo, .ref lh, .ref lk, .ref sp, .ref st, .ref pa, .ref br, .ref sg, .int 0, .int 0, .int 0, .int 0, .int 0, .int 0, .long 0, .long 0, .long 0, .long 0, .int 1]))] H := hP
  have hD : va_D A [(mo, .inr (19, [.int 0, .int 0, .int 0, .int 0, .int 0, .int 0, .int 0, .ref ti, .ref si, .ref lo, .ref lh, .ref lk, .ref sp, .ref st, .ref pa, .ref br, .ref sg, .int 0, .int 0, .int 0, .int 0, .int 0, .int 0, .long 0, .long 0, .long 0, .long 0, .int 1]))] := hD
  have hK : va_K (dC, dI) vwCl [(cM, .object RX4), (co, .long)] s := hK
  obtain rfl : (-1) = r2 := hw
  refine lv_istore (lv' := [(7, .int (-1)), (6, .int 1), (0, .ref b), (1, .ref x), (2, .ref mo), (3, .ref ou), (4, .ref od_), (5, .int 0)]) hx hb dL_law_1287 hl (by decide) rfl (fun ls hl => ?_)
  refine lv_aload_n hx hb dL_law_1289 rfl (lv_at hl 4 rfl) ?_
  have hPc := hP.sub (ws' := [(mo, .inr (19, [.int 0, .int 0, .int 0, .int 0, .int 0, .int 0, .int 0, .ref ti, .ref si, .ref lo, .ref lh, .ref lk, .ref sp, .ref st, .ref pa, .ref br, .ref sg, .int 0, .int 0, .int 0, .int 0, .int 0, .int 0, .long 0, .long 0, .long 0, .long 0, .int 1]))]) [0] rfl
  have hDc := hD.sub (ws' := [(mo, .inr (19, [.int 0, .int 0, .int 0, .int 0, .int 0, .int 0, .int 0, .ref ti, .ref si, .ref lo, .ref lh, .ref lk, .ref sp, .ref st, .ref pa, .ref br, .ref sg, .int 0, .int 0, .int 0, .int 0, .int 0, .int 0, .long 0, .long 0, .long 0, .long 0, .int 1]))]) [0] (by decide) rfl
  have hKc := hK.sub (tys' := []) [] rfl
  have hFc := va_free (wc := [(mo, .inr (19, [.int 0, .int 0, .int 0, .int 0, .int 0, .int 0, .int 0, .ref ti, .ref si, .ref lo, .ref lh, .ref lk, .ref sp, .ref st, .ref pa, .ref br, .ref sg, .int 0, .int 0, .int 0, .int 0, .int 0, .int 0, .long 0, .long 0, .long 0, .long 0, .int 1]))]) hD hS hA [0] rfl
  refine va_calli (va_runV (As := []) (rest := []) ⟨hx, hb, hml, hown, hts⟩ (k_m_thrown l dC dI z zK zV mo ti si lo lh lk sp st pa br sg 0 0 0 0 0 0 0 0 0 0 0 0 0 0 0 0 0 1 H.size) (cwV 0 hts hL_X15_thrown_100 rfl rfl rfl (by decide +kernel) ⟨Nat.le_of_ble_eq_true rfl, Nat.le_of_ble_eq_true rfl⟩) ⟨kP_blind, va_recv hKc hPc (ci := 19) (q0 := 0) rfl rfl, kP_go hPc hKc hDc hFc hM hS⟩ rfl rfl hl.1 rfl (lv_room (Nat.le_of_ble_eq_true rfl)) dL_law_1290 ⟨Nat.le_of_ble_eq_true rfl, Nat.le_of_ble_eq_true rfl⟩) hS (fun q _ h => hFc q h) hFc (fun r3 u t H1 locs ht hvm hw hB hz1 hk1 hS => ?_)
  obtain ⟨hP, hD, hK⟩ := kJ (wr := []) (w1 := [(mo, .inr (19, [.int 0, .int 0, .int 0, .int 0, .int 0, .int 0, .int 0, .ref ti, .ref si, .ref lo, .ref lh, .ref lk, .ref sp, .ref st, .ref pa, .ref br, .ref sg, .int 0, .int 0, .int 0, .int 0, .int 0, .int 0, .long 0, .long 0, .long 0, .long 0, .int 1]))]) (t1 := []) hP hD hK [0] [] rfl rfl (by decide) (by decide) hk1 hFc ht hvm hB
  generalize H1 = H at hP hS ⊢
  have hP : va_P (dC, dI) vwCl [(mo, .inr (19, [.int 0, .int 0, .int 0, .int 0, .int 0, .int 0, .int 0, .ref ti, .ref si, .ref lo, .ref lh, .ref lk, .ref sp, .ref st, .ref pa, .ref br, .ref sg, .int 0, .int 0, .int 0, .int 0, .int 0, .int 0, .long 0, .long 0, .long 0, .long 0, .int 1]))] H := hP
  have hD : va_D A [(mo, .inr (19, [.int 0, .int 0, .int 0, .int 0, .int 0, .int 0, .int 0, .ref ti, .ref si, .ref lo, .ref lh, .ref lk, .ref sp, .ref st, .ref pa, .ref br, .ref sg, .int 0, .int 0, .int 0, .int 0, .int 0, .int 0, .long 0, .long 0, .long 0, .long 0, .int 1]))] := hD
  have hK : va_K (dC, dI) vwCl [(cM, .object RX4), (co, .long)] s := hK
  obtain rfl : 1 = r3 := hw
  refine lv_iload hx hb dL_law_1293 (lv_at hl 1 rfl) ?_
  refine lv_icmp_eq (tgt := 1300) hx hb dL_law_1295 (by decide) (fun c4 => ?_) (fun c4 => ?_)
  · skip
    refine lv_iload hx hb dL_law_1300 (lv_at hl 1 rfl) ?_
    refine lv_if_ne (tgt := 1317) hx hb dL_law_1302 (by decide) (fun _ => ?_) (fun c_ => absurd c_ (by decide +kernel))
    refine lv_goto (tgt := 1684) hx hb dL_law_1317 (by decide) ?_
    exact la_tail hst C0 hA hAl H locs hS ls (lv_sub hl [2, 7] rfl) (by omega) (by omega)
  · skip
    refine lv_iconst (v := 0) hx hb dL_law_1298 (by decide) ?_
    @RET 0 1299 ireturn
set_option maxHeartbeats 8000000 in
set_option maxRecDepth 100000 in
theorem la_isSprung0 {p : Program} {l : Launch} {e : Env} {s : State} {m : MethodId} {below : List Frame} {meth : Method} {c : Code} {dC : Nat → ClassId} {dI : Nat → Nat → Nat} {z zK zV : Nat → Nat} {b : Nat} {xs : Nat → Int32} {A : Nat → Prop} (hst : l.stackTraces = false) (C0 : lw_At p s m meth c b 4 xs) (hM : am z zK zV A s s.heap) (hA : ∀ q : Nat, s.heap.size ≤ q → A q) (hAl : ∀ q : Nat, A q → s.heap.size ≤ q) (sh : Nat) (rg : Nat) (mf : Nat) (mm : Nat) (mz : Nat) (ma : Nat) (sa : Nat) (dk : Nat) (hd : Nat) (lg : Nat) (pl : Nat) (pr : Nat) (cM : ClassId) (x : Nat) (tl : Nat) (tw : Nat) (mo : Nat) (ti : Nat) (si : Nat) (lo : Nat) (lh : Nat) (lk : Nat) (sp : Nat) (st : Nat) (pa : Nat) (br : Nat) (sg : Nat) (csg : ClassId) (ou : Nat) (co : ClassId) (of_ : Nat → Int64) (od_ : Nat)  (hs1 : xs 1 = 0) (H : Heap) (locs : List Loc) (hK : va_K (dC, dI) vwCl [(cM, .object RX4), (csg, .boolean), (co, .long)] s) (hP : va_P (dC, dI) vwCl [(x, .inr (15, [.ref sh, .ref tl, .ref tw, .int 0])), (sh, .inr (13, [.ref rg, .ref dk, .ref hd, .ref lg, .ref pl, .ref pr, .int 0, .int 0, .int 0, .int 0, .int 0, .int 0, .int 0, .int 0, .int 0, .int 0, .int 0])), (rg, .inr (11, [.ref mf, .ref mm, .ref mz, .ref ma, .ref sa, .int 0])), (mf, .inr (8, [.int 0, .int 0, .int 0])), (ma, .inl (cM, 3, .inr (.inr (.inr (.inr (va_up (va_up (va_up (fun _ => none) 0 (some mf)) 1 (some mm)) 2 (some mz))))))), (mo, .inr (19, [.int 0, .int 0, .int 0, .int 0, .int 0, .int 0, .int 0, .ref ti, .ref si, .ref lo, .ref lh, .ref lk, .ref sp, .ref st, .ref pa, .ref br, .ref sg, .int 0, .int 0, .int 0, .int 0, .int 0, .int 0, .long 0, .long 0, .long 0, .long 0, .int 0])), (sg, .inl (csg, 3, .inl (fun _ => 0))), (ou, .inl (co, 1, .inr (.inl of_)))] H) (hD : va_D A [(x, .inr (15, [.ref sh, .ref tl, .ref tw, .int 0])), (sh, .inr (13, [.ref rg, .ref dk, .ref hd, .ref lg, .ref pl, .ref pr, .int 0, .int 0, .int 0, .int 0, .int 0, .int 0, .int 0, .int 0, .int 0, .int 0, .int 0])), (rg, .inr (11, [.ref mf, .ref mm, .ref mz, .ref ma, .ref sa, .int 0])), (mf, .inr (8, [.int 0, .int 0, .int 0])), (ma, .inl (cM, 3, .inr (.inr (.inr (.inr (va_up (va_up (va_up (fun _ => none) 0 (some mf)) 1 (some mm)) 2 (some mz))))))), (mo, .inr (19, [.int 0, .int 0, .int 0, .int 0, .int 0, .int 0, .int 0, .ref ti, .ref si, .ref lo, .ref lh, .ref lk, .ref sp, .ref st, .ref pa, .ref br, .ref sg, .int 0, .int 0, .int 0, .int 0, .int 0, .int 0, .long 0, .long 0, .long 0, .long 0, .int 0])), (sg, .inl (csg, 3, .inl (fun _ => 0))), (ou, .inl (co, 1, .inr (.inl of_)))]) (hS : va_S A s.heap H locs) (ls : Array Slot) (hl : lv_has ls 10 [(0, .ref b), (1, .ref x), (2, .ref mo), (3, .ref ou), (4, .ref od_), (5, .int 0)]) : W p l e room_1 s m #[Value.ref b] below meth c H locs 100 1400 (lw_Z below #[Value.ref b] s) (F0 m 1320 ls []) := by
  obtain ⟨hx, hb, hr, hml, hown, hts, hX, hbl, hlocks, hgv⟩ := id C0
  have hbA : ¬ A b := fun h => absurd (hAl b h) (Nat.not_le.mpr hbl)
  refine lv_aload_n hx hb dL_law_1320 rfl (lv_at hl 1 rfl) ?_
  refine lv_aload_n hx hb dL_law_1321 rfl (lv_at hl 0 rfl) ?_
  refine lv_iload hx hb dL_law_1322 (lv_at hl 5 rfl) ?_
  refine lv_iconst (v := 1) hx hb dL_law_1324 (by decide) ?_
  refine lv_iadd hx hb dL_law_1325 ?_
  refine kc_i (y := 1) (by decide +kernel) ?_
  refine va_sld hx hb hX hbl hbA hS (pk_in 1 4 (by decide) rfl) dL_law_1326 ?_
  refine kc_i (y := 0) (hs1 : xs 1 = 0) ?_
  refine lv_aload_n hx hb dL_law_1327 rfl (lv_at hl 3 rfl) ?_
  have hPc := hP.sub (ws' := [(x, .inr (15, [.ref sh, .ref tl, .ref tw, .int 0])), (sh, .inr (13, [.ref rg, .ref dk, .ref hd, .ref lg, .ref pl, .ref pr, .int 0, .int 0, .int 0, .int 0, .int 0, .int 0, .int 0, .int 0, .int 0, .int 0, .int 0])), (rg, .inr (11, [.ref mf, .ref mm, .ref mz, .ref ma, .ref sa, .int 0])), (ma, .inl (cM, 3, .inr (.inr (.inr (.inr (va_up (va_up (va_up (fun _ => none) 0 (some mf)) 1 (some mm)) 2 (some mz))))))), (mf, .inr (8, [.int 0, .int 0, .int 0])), (ou, .inl (co, 1, .inr (.inl of_)))]) [0, 1, 2, 4, 3, 7] rfl
  have hDc := hD.sub (ws' := [(x, .inr (15, [.ref sh, .ref tl, .ref tw, .int 0])), (sh, .inr (13, [.ref rg, .ref dk, .ref hd, .ref lg, .ref pl, .ref pr, .int 0, .int 0, .int 0, .int 0, .int 0, .int 0, .int 0, .int 0, .int 0, .int 0, .int 0])), (rg, .inr (11, [.ref mf, .ref mm, .ref mz, .ref ma, .ref sa, .int 0])), (ma, .inl (cM, 3, .inr (.inr (.inr (.inr (va_up (va_up (va_up (fun _ => none) 0 (some mf)) 1 (some mm)) 2 (some mz))))))), (mf, .inr (8, [.int 0, .int 0, .int 0])), (ou, .inl (co, 1, .inr (.inl of_)))]) [0, 1, 2, 4, 3, 7] (by decide) rfl
  have hKc := hK.sub (tys' := [(cM, .object RX4), (co, .long)]) [0, 2] rfl
  have hFc := va_free (wc := [(x, .inr (15, [.ref sh, .ref tl, .ref tw, .int 0])), (sh, .inr (13, [.ref rg, .ref dk, .ref hd, .ref lg, .ref pl, .ref pr, .int 0, .int 0, .int 0, .int 0, .int 0, .int 0, .int 0, .int 0, .int 0, .int 0, .int 0])), (rg, .inr (11, [.ref mf, .ref mm, .ref mz, .ref ma, .ref sa, .int 0])), (ma, .inl (cM, 3, .inr (.inr (.inr (.inr (va_up (va_up (va_up (fun _ => none) 0 (some mf)) 1 (some mm)) 2 (some mz))))))), (mf, .inr (8, [.int 0, .int 0, .int 0])), (ou, .inl (co, 1, .inr (.inl of_)))]) hD hS hA [0, 1, 2, 4, 3, 7] rfl
  refine va_calli (vx_runSW (As := [.ref x, .int 0, .ref ou]) (rest := []) ⟨hx, hb, hml, hown, hts⟩ (k_l_isSprung0 l dC dI z zK zV sh rg mf mm mz ma sa dk hd lg pl pr cM x tl tw ou co of_ H.size) (vx_cwSW 3 hts hL_L_isSprung_190 rfl rfl rfl (by decide +kernel) ⟨Nat.le_of_ble_eq_true rfl, Nat.le_of_ble_eq_true rfl⟩) ⟨kP_blind, kP_go hPc hKc hDc hFc hM hS⟩ rfl rfl hl.1 rfl (lv_room (Nat.le_of_ble_eq_true rfl)) dL_law_1328 ⟨Nat.le_of_ble_eq_true rfl, Nat.le_of_ble_eq_true rfl⟩) hS (fun q _ h => hFc q h) hFc (fun r1 u t H1 locs ht hvm hw hB hz1 hk1 hS => ?_)
  obtain ⟨hP, hD, hK⟩ := kJ (wr := [(mo, .inr (19, [.int 0, .int 0, .int 0, .int 0, .int 0, .int 0, .int 0, .ref ti, .ref si, .ref lo, .ref lh, .ref lk, .ref sp, .ref st, .ref pa, .ref br, .ref sg, .int 0, .int 0, .int 0, .int 0, .int 0, .int 0, .long 0, .long 0, .long 0, .long 0, .int 0])), (sg, .inl (csg, 3, .inl (fun _ => 0)))]) (w1 := [(ou, .inl (co, 1, .inr (.inl (vp_updL of_ 0 0))))]) (t1 := []) hP hD hK [0, 1, 2, 4, 3, 7] [5, 6] rfl rfl (by decide) (by decide) hk1 hFc ht hvm hB
  generalize H1 = H at hP hS ⊢
  have hP : va_P (dC, dI) vwCl [(mo, .inr (19, [.int 0, .int 0, .int 0, .int 0, .int 0, .int 0, .int 0, .ref ti, .ref si, .ref lo, .ref lh, .ref lk, .ref sp, .ref st, .ref pa, .ref br, .ref sg, .int 0, .int 0, .int 0, .int 0, .int 0, .int 0, .long 0, .long 0, .long 0, .long 0, .int 0])), (sg, .inl (csg, 3, .inl (fun _ => 0))), (ou, .inl (co, 1, .inr (.inl (vp_updL of_ 0 0))))] H := hP
  have hD : va_D A [(mo, .inr (19, [.int 0, .int 0, .int 0, .int 0, .int 0, .int 0, .int 0, .ref ti, .ref si, .ref lo, .ref lh, .ref lk, .ref sp, .ref st, .ref pa, .ref br, .ref sg, .int 0, .int 0, .int 0, .int 0, .int 0, .int 0, .long 0, .long 0, .long 0, .long 0, .int 0])), (sg, .inl (csg, 3, .inl (fun _ => 0))), (ou, .inl (co, 1, .inr (.inl (vp_updL of_ 0 0))))] := hD
  have hK : va_K (dC, dI) vwCl [(cM, .object RX4), (csg, .boolean), (co, .long)] s := hK
  obtain rfl : 0 = r1 := hw
  refine lv_istore (lv' := [(6, .int 0), (0, .ref b), (1, .ref x), (2, .ref mo), (3, .ref ou), (4, .ref od_), (5, .int 0)]) hx hb dL_law_1331 hl (by decide) rfl (fun ls hl => ?_)
  refine lv_aload_n hx hb dL_law_1333 rfl (lv_at hl 3 rfl) ?_
  refine lv_aload_n hx hb dL_law_1334 rfl (lv_at hl 1 rfl) ?_
  refine lv_iload hx hb dL_law_1335 (lv_at hl 6 rfl) ?_
  refine lv_iconst (v := 1) hx hb dL_law_1337 (by decide) ?_
  refine lv_iadd hx hb dL_law_1338 ?_
  refine kc_i (y := 1) (by decide +kernel) ?_
  refine va_sld hx hb hX hbl hbA hS (pk_in 1 4 (by decide) rfl) dL_law_1339 ?_
  refine kc_i (y := 0) (hs1 : xs 1 = 0) ?_
  have hPc := hP.sub (ws' := [(mo, .inr (19, [.int 0, .int 0, .int 0, .int 0, .int 0, .int 0, .int 0, .ref ti, .ref si, .ref lo, .ref lh, .ref lk, .ref sp, .ref st, .ref pa, .ref br, .ref sg, .int 0, .int 0, .int 0, .int 0, .int 0, .int 0, .long 0, .long 0, .long 0, .long 0, .int 0])), (sg, .inl (csg, 3, .inl (fun _ => 0)))]) [0, 1] rfl
  have hDc := hD.sub (ws' := [(mo, .inr (19, [.int 0, .int 0, .int 0, .int 0, .int 0, .int 0, .int 0, .ref ti, .ref si, .ref lo, .ref lh, .ref lk, .ref sp, .ref st, .ref pa, .ref br, .ref sg, .int 0, .int 0, .int 0, .int 0, .int 0, .int 0, .long 0, .long 0, .long 0, .long 0, .int 0])), (sg, .inl (csg, 3, .inl (fun _ => 0)))]) [0, 1] (by decide) rfl
  have hKc := hK.sub (tys' := [(csg, .boolean)]) [1] rfl
  have hFc := va_free (wc := [(mo, .inr (19, [.int 0, .int 0, .int 0, .int 0, .int 0, .int 0, .int 0, .ref ti, .ref si, .ref lo, .ref lh, .ref lk, .ref sp, .ref st, .ref pa, .ref br, .ref sg, .int 0, .int 0, .int 0, .int 0, .int 0, .int 0, .long 0, .long 0, .long 0, .long 0, .int 0])), (sg, .inl (csg, 3, .inl (fun _ => 0)))]) hD hS hA [0, 1] rfl
  refine va_calli (va_runV (As := [.int 0]) (rest := []) ⟨hx, hb, hml, hown, hts⟩ (k_m_isSprung0 l dC dI z zK zV mo ti si lo lh lk sp st pa br sg csg 0 H.size) (cwV 1 hts hL_X15_isSprung_192 rfl rfl rfl (by decide +kernel) ⟨Nat.le_of_ble_eq_true rfl, Nat.le_of_ble_eq_true rfl⟩) ⟨kP_blind, va_recv hKc hPc (ci := 19) (q0 := 0) rfl rfl, kP_go hPc hKc hDc hFc hM hS⟩ rfl rfl hl.1 rfl (lv_room (Nat.le_of_ble_eq_true rfl)) dL_law_1340 ⟨Nat.le_of_ble_eq_true rfl, Nat.le_of_ble_eq_true rfl⟩) hS (fun q _ h => hFc q h) hFc (fun r2 u t H1 locs ht hvm hw hB hz1 hk1 hS => ?_)
  obtain ⟨hP, hD, hK⟩ := kJ (wr := [(ou, .inl (co, 1, .inr (.inl (vp_updL of_ 0 0))))]) (w1 := [(mo, .inr (19, [.int 0, .int 0, .int 0, .int 0, .int 0, .int 0, .int 0, .ref ti, .ref si, .ref lo, .ref lh, .ref lk, .ref sp, .ref st, .ref pa, .ref br, .ref sg, .int 0, .int 0, .int 0, .int 0, .int 0, .int 0, .long 0, .long 0, .long 0, .long 0, .int 0]))]) (t1 := []) hP hD hK [0, 1] [2] rfl rfl (by decide) (by decide) hk1 hFc ht hvm hB
  generalize H1 = H at hP hS ⊢
  have hP : va_P (dC, dI) vwCl [(ou, .inl (co, 1, .inr (.inl (vp_updL of_ 0 0)))), (mo, .inr (19, [.int 0, .int 0, .int 0, .int 0, .int 0, .int 0, .int 0, .ref ti, .ref si, .ref lo, .ref lh, .ref lk, .ref sp, .ref st, .ref pa, .ref br, .ref sg, .int 0, .int 0, .int 0, .int 0, .int 0, .int 0, .long 0, .long 0, .long 0, .long 0, .int 0]))] H := hP
  have hD : va_D A [(ou, .inl (co, 1, .inr (.inl (vp_updL of_ 0 0)))), (mo, .inr (19, [.int 0, .int 0, .int 0, .int 0, .int 0, .int 0, .int 0, .ref ti, .ref si, .ref lo, .ref lh, .ref lk, .ref sp, .ref st, .ref pa, .ref br, .ref sg, .int 0, .int 0, .int 0, .int 0, .int 0, .int 0, .long 0, .long 0, .long 0, .long 0, .int 0]))] := hD
  have hK : va_K (dC, dI) vwCl [(cM, .object RX4), (csg, .boolean), (co, .long)] s := hK
  obtain rfl : 0 = r2 := hw
  refine lv_istore (lv' := [(7, .int 0), (6, .int 0), (0, .ref b), (1, .ref x), (2, .ref mo), (3, .ref ou), (4, .ref od_), (5, .int 0)]) hx hb dL_law_1343 hl (by decide) rfl (fun ls hl => ?_)
  refine lv_aload_n hx hb dL_law_1345 rfl (lv_at hl 4 rfl) ?_
  have hPc := hP.sub (ws' := [(mo, .inr (19, [.int 0, .int 0, .int 0, .int 0, .int 0, .int 0, .int 0, .ref ti, .ref si, .ref lo, .ref lh, .ref lk, .ref sp, .ref st, .ref pa, .ref br, .ref sg, .int 0, .int 0, .int 0, .int 0, .int 0, .int 0, .long 0, .long 0, .long 0, .long 0, .int 0]))]) [1] rfl
  have hDc := hD.sub (ws' := [(mo, .inr (19, [.int 0, .int 0, .int 0, .int 0, .int 0, .int 0, .int 0, .ref ti, .ref si, .ref lo, .ref lh, .ref lk, .ref sp, .ref st, .ref pa, .ref br, .ref sg, .int 0, .int 0, .int 0, .int 0, .int 0, .int 0, .long 0, .long 0, .long 0, .long 0, .int 0]))]) [1] (by decide) rfl
  have hKc := hK.sub (tys' := []) [] rfl
  have hFc := va_free (wc := [(mo, .inr (19, [.int 0, .int 0, .int 0, .int 0, .int 0, .int 0, .int 0, .ref ti, .ref si, .ref lo, .ref lh, .ref lk, .ref sp, .ref st, .ref pa, .ref br, .ref sg, .int 0, .int 0, .int 0, .int 0, .int 0, .int 0, .long 0, .long 0, .long 0, .long 0, .int 0]))]) hD hS hA [1] rfl
  refine va_calli (va_runV (As := []) (rest := []) ⟨hx, hb, hml, hown, hts⟩ (k_m_thrown l dC dI z zK zV mo ti si lo lh lk sp st pa br sg 0 0 0 0 0 0 0 0 0 0 0 0 0 0 0 0 0 0 H.size) (cwV 0 hts hL_X15_thrown_100 rfl rfl rfl (by decide +kernel) ⟨Nat.le_of_ble_eq_true rfl, Nat.le_of_ble_eq_true rfl⟩) ⟨kP_blind, va_recv hKc hPc (ci := 19) (q0 := 0) rfl rfl, kP_go hPc hKc hDc hFc hM hS⟩ rfl rfl hl.1 rfl (lv_room (Nat.le_of_ble_eq_true rfl)) dL_law_1346 ⟨Nat.le_of_ble_eq_true rfl, Nat.le_of_ble_eq_true rfl⟩) hS (fun q _ h => hFc q h) hFc (fun r3 u t H1 locs ht hvm hw hB hz1 hk1 hS => ?_)
  obtain ⟨hP, hD, hK⟩ := kJ (wr := [(ou, .inl (co, 1, .inr (.inl (vp_updL of_ 0 0))))]) (w1 := [(mo, .inr (19, [.int 0, .int 0, .int 0, .int 0, .int 0, .int 0, .int 0, .ref ti, .ref si, .ref lo, .ref lh, .ref lk, .ref sp, .ref st, .ref pa, .ref br, .ref sg, .int 0, .int 0, .int 0, .int 0, .int 0, .int 0, .long 0, .long 0, .long 0, .long 0, .int 0]))]) (t1 := []) hP hD hK [1] [0] rfl rfl (by decide) (by decide) hk1 hFc ht hvm hB
  generalize H1 = H at hP hS ⊢
  have hP : va_P (dC, dI) vwCl [(ou, .inl (co, 1, .inr (.inl (vp_updL of_ 0 0)))), (mo, .inr (19, [.int 0, .int 0, .int 0, .int 0, .int 0, .int 0, .int 0, .ref ti, .ref si, .ref lo, .ref lh, .ref lk, .ref sp, .ref st, .ref pa, .ref br, .ref sg, .int 0, .int 0, .int 0, .int 0, .int 0, .int 0, .long 0, .long 0, .long 0, .long 0, .int 0]))] H := hP
  have hD : va_D A [(ou, .inl (co, 1, .inr (.inl (vp_updL of_ 0 0)))), (mo, .inr (19, [.int 0, .int 0, .int 0, .int 0, .int 0, .int 0, .int 0, .ref ti, .ref si, .ref lo, .ref lh, .ref lk, .ref sp, .ref st, .ref pa, .ref br, .ref sg, .int 0, .int 0, .int 0, .int 0, .int 0, .int 0, .long 0, .long 0, .long 0, .long 0, .int 0]))] := hD
  have hK : va_K (dC, dI) vwCl [(cM, .object RX4), (csg, .boolean), (co, .long)] s := hK
  obtain rfl : 0 = r3 := hw
  refine lv_iload hx hb dL_law_1349 (lv_at hl 1 rfl) ?_
  refine lv_icmp_eq (tgt := 1356) hx hb dL_law_1351 (by decide) (fun c4 => ?_) (fun c4 => ?_)
  · skip
    refine lv_iload hx hb dL_law_1356 (lv_at hl 1 rfl) ?_
    refine lv_if_ne (tgt := 1380) hx hb dL_law_1358 (by decide) (fun c_ => absurd (by decide +kernel) c_) (fun _ => ?_)
    refine lv_aload_n hx hb dL_law_1361 rfl (lv_at hl 5 rfl) ?_
    refine lv_iconst (v := 0) hx hb dL_law_1362 (by decide) ?_
    refine va_lald hx hb hK hP 0 2 rfl rfl (pk_in 0 1 (by decide) rfl) dL_law_1363 ?_
    refine kc_v (y := .long 0) rfl ?_
    refine lv_iload hx hb dL_law_1364 (lv_at hl 0 rfl) ?_
    refine lv_if_eq (tgt := 1373) hx hb dL_law_1366 (by decide) (fun _ => ?_) (fun c_ => absurd (by decide +kernel) c_)
    refine lv_lconst (v := 0) hx hb dL_law_1373 (by decide) ?_
    refine W.lcmp hx hb dL_law_1374 ?_
    refine kc_i (y := 0) (by decide +kernel) ?_
    refine lv_if_eq (tgt := 1380) hx hb dL_law_1375 (by decide) (fun _ => ?_) (fun c_ => absurd (by decide +kernel) c_)
    refine lv_goto (tgt := 1684) hx hb dL_law_1380 (by decide) ?_
    exact la_tail hst C0 hA hAl H locs hS ls (lv_sub hl [2, 7] rfl) (by omega) (by omega)
  · skip
    refine lv_iconst (v := 0) hx hb dL_law_1354 (by decide) ?_
    @RET 0 1355 ireturn
set_option maxHeartbeats 8000000 in
set_option maxRecDepth 100000 in
theorem la_isSprung1 {p : Program} {l : Launch} {e : Env} {s : State} {m : MethodId} {below : List Frame} {meth : Method} {c : Code} {dC : Nat → ClassId} {dI : Nat → Nat → Nat} {z zK zV : Nat → Nat} {b : Nat} {xs : Nat → Int32} {A : Nat → Prop} (hst : l.stackTraces = false) (C0 : lw_At p s m meth c b 4 xs) (hM : am z zK zV A s s.heap) (hA : ∀ q : Nat, s.heap.size ≤ q → A q) (hAl : ∀ q : Nat, A q → s.heap.size ≤ q) (sh : Nat) (rg : Nat) (mf : Nat) (mm : Nat) (mz : Nat) (ma : Nat) (sa : Nat) (dk : Nat) (hd : Nat) (lg : Nat) (pl : Nat) (pr : Nat) (cM : ClassId) (x : Nat) (tl : Nat) (tw : Nat) (mo : Nat) (ti : Nat) (si : Nat) (lo : Nat) (lh : Nat) (lk : Nat) (sp : Nat) (st : Nat) (pa : Nat) (br : Nat) (sg : Nat) (csg : ClassId) (ou : Nat) (co : ClassId) (of_ : Nat → Int64) (od_ : Nat)  (hs1 : xs 1 = 1) (H : Heap) (locs : List Loc) (hK : va_K (dC, dI) vwCl [(cM, .object RX4), (csg, .boolean), (co, .long)] s) (hP : va_P (dC, dI) vwCl [(x, .inr (15, [.ref sh, .ref tl, .ref tw, .int 0])), (sh, .inr (13, [.ref rg, .ref dk, .ref hd, .ref lg, .ref pl, .ref pr, .int 0, .int 0, .int 0, .int 0, .int 0, .int 0, .int 0, .int 0, .int 0, .int 0, .int 0])), (rg, .inr (11, [.ref mf, .ref mm, .ref mz, .ref ma, .ref sa, .int 0])), (mm, .inr (8, [.int 0, .int 0, .int 0])), (ma, .inl (cM, 3, .inr (.inr (.inr (.inr (va_up (va_up (va_up (fun _ => none) 0 (some mf)) 1 (some mm)) 2 (some mz))))))), (mo, .inr (19, [.int 0, .int 0, .int 0, .int 0, .int 0, .int 0, .int 0, .ref ti, .ref si, .ref lo, .ref lh, .ref lk, .ref sp, .ref st, .ref pa, .ref br, .ref sg, .int 0, .int 0, .int 0, .int 0, .int 0, .int 0, .long 0, .long 0, .long 0, .long 0, .int 0])), (sg, .inl (csg, 3, .inl (fun _ => 0))), (ou, .inl (co, 1, .inr (.inl of_)))] H) (hD : va_D A [(x, .inr (15, [.ref sh, .ref tl, .ref tw, .int 0])), (sh, .inr (13, [.ref rg, .ref dk, .ref hd, .ref lg, .ref pl, .ref pr, .int 0, .int 0, .int 0, .int 0, .int 0, .int 0, .int 0, .int 0, .int 0, .int 0, .int 0])), (rg, .inr (11, [.ref mf, .ref mm, .ref mz, .ref ma, .ref sa, .int 0])), (mm, .inr (8, [.int 0, .int 0, .int 0])), (ma, .inl (cM, 3, .inr (.inr (.inr (.inr (va_up (va_up (va_up (fun _ => none) 0 (some mf)) 1 (some mm)) 2 (some mz))))))), (mo, .inr (19, [.int 0, .int 0, .int 0, .int 0, .int 0, .int 0, .int 0, .ref ti, .ref si, .ref lo, .ref lh, .ref lk, .ref sp, .ref st, .ref pa, .ref br, .ref sg, .int 0, .int 0, .int 0, .int 0, .int 0, .int 0, .long 0, .long 0, .long 0, .long 0, .int 0])), (sg, .inl (csg, 3, .inl (fun _ => 0))), (ou, .inl (co, 1, .inr (.inl of_)))]) (hS : va_S A s.heap H locs) (ls : Array Slot) (hl : lv_has ls 10 [(0, .ref b), (1, .ref x), (2, .ref mo), (3, .ref ou), (4, .ref od_), (5, .int 0)]) : W p l e room_1 s m #[Value.ref b] below meth c H locs 100 1400 (lw_Z below #[Value.ref b] s) (F0 m 1320 ls []) := by
  obtain ⟨hx, hb, hr, hml, hown, hts, hX, hbl, hlocks, hgv⟩ := id C0
  have hbA : ¬ A b := fun h => absurd (hAl b h) (Nat.not_le.mpr hbl)
  refine lv_aload_n hx hb dL_law_1320 rfl (lv_at hl 1 rfl) ?_
  refine lv_aload_n hx hb dL_law_1321 rfl (lv_at hl 0 rfl) ?_
  refine lv_iload hx hb dL_law_1322 (lv_at hl 5 rfl) ?_
  refine lv_iconst (v := 1) hx hb dL_law_1324 (by decide) ?_
  refine lv_iadd hx hb dL_law_1325 ?_
  refine kc_i (y := 1) (by decide +kernel) ?_
  refine va_sld hx hb hX hbl hbA hS (pk_in 1 4 (by decide) rfl) dL_law_1326 ?_
  refine kc_i (y := 1) (hs1 : xs 1 = 1) ?_
  refine lv_aload_n hx hb dL_law_1327 rfl (lv_at hl 3 rfl) ?_
  have hPc := hP.sub (ws' := [(x, .inr (15, [.ref sh, .ref tl, .ref tw, .int 0])), (sh, .inr (13, [.ref rg, .ref dk, .ref hd, .ref lg, .ref pl, .ref pr, .int 0, .int 0, .int 0, .int 0, .int 0, .int 0, .int 0, .int 0, .int 0, .int 0, .int 0])), (rg, .inr (11, [.ref mf, .ref mm, .ref mz, .ref ma, .ref sa, .int 0])), (ma, .inl (cM, 3, .inr (.inr (.inr (.inr (va_up (va_up (va_up (fun _ => none) 0 (some mf)) 1 (some mm)) 2 (some mz))))))), (mm, .inr (8, [.int 0, .int 0, .int 0])), (ou, .inl (co, 1, .inr (.inl of_)))]) [0, 1, 2, 4, 3, 7] rfl
  have hDc := hD.sub (ws' := [(x, .inr (15, [.ref sh, .ref tl, .ref tw, .int 0])), (sh, .inr (13, [.ref rg, .ref dk, .ref hd, .ref lg, .ref pl, .ref pr, .int 0, .int 0, .int 0, .int 0, .int 0, .int 0, .int 0, .int 0, .int 0, .int 0, .int 0])), (rg, .inr (11, [.ref mf, .ref mm, .ref mz, .ref ma, .ref sa, .int 0])), (ma, .inl (cM, 3, .inr (.inr (.inr (.inr (va_up (va_up (va_up (fun _ => none) 0 (some mf)) 1 (some mm)) 2 (some mz))))))), (mm, .inr (8, [.int 0, .int 0, .int 0])), (ou, .inl (co, 1, .inr (.inl of_)))]) [0, 1, 2, 4, 3, 7] (by decide) rfl
  have hKc := hK.sub (tys' := [(cM, .object RX4), (co, .long)]) [0, 2] rfl
  have hFc := va_free (wc := [(x, .inr (15, [.ref sh, .ref tl, .ref tw, .int 0])), (sh, .inr (13, [.ref rg, .ref dk, .ref hd, .ref lg, .ref pl, .ref pr, .int 0, .int 0, .int 0, .int 0, .int 0, .int 0, .int 0, .int 0, .int 0, .int 0, .int 0])), (rg, .inr (11, [.ref mf, .ref mm, .ref mz, .ref ma, .ref sa, .int 0])), (ma, .inl (cM, 3, .inr (.inr (.inr (.inr (va_up (va_up (va_up (fun _ => none) 0 (some mf)) 1 (some mm)) 2 (some mz))))))), (mm, .inr (8, [.int 0, .int 0, .int 0])), (ou, .inl (co, 1, .inr (.inl of_)))]) hD hS hA [0, 1, 2, 4, 3, 7] rfl
  refine va_calli (vx_runSW (As := [.ref x, .int 1, .ref ou]) (rest := []) ⟨hx, hb, hml, hown, hts⟩ (k_l_isSprung1 l dC dI z zK zV sh rg mf mm mz ma sa dk hd lg pl pr cM x tl tw ou co of_ H.size) (vx_cwSW 3 hts hL_L_isSprung_190 rfl rfl rfl (by decide +kernel) ⟨Nat.le_of_ble_eq_true rfl, Nat.le_of_ble_eq_true rfl⟩) ⟨kP_blind, kP_go hPc hKc hDc hFc hM hS⟩ rfl rfl hl.1 rfl (lv_room (Nat.le_of_ble_eq_true rfl)) dL_law_1328 ⟨Nat.le_of_ble_eq_true rfl, Nat.le_of_ble_eq_true rfl⟩) hS (fun q _ h => hFc q h) hFc (fun r1 u t H1 locs ht hvm hw hB hz1 hk1 hS => ?_)
  obtain ⟨hP, hD, hK⟩ := kJ (wr := [(mo, .inr (19, [.int 0, .int 0, .int 0, .int 0, .int 0, .int 0, .int 0, .ref ti, .ref si, .ref lo, .ref lh, .ref lk, .ref sp, .ref st, .ref pa, .ref br, .ref sg, .int 0, .int 0, .int 0, .int 0, .int 0, .int 0, .long 0, .long 0, .long 0, .long 0, .int 0])), (sg, .inl (csg, 3, .inl (fun _ => 0)))]) (w1 := [(ou, .inl (co, 1, .inr (.inl (vp_updL of_ 0 0))))]) (t1 := []) hP hD hK [0, 1, 2, 4, 3, 7] [5, 6] rfl rfl (by decide) (by decide) hk1 hFc ht hvm hB
  generalize H1 = H at hP hS ⊢
  have hP : va_P (dC, dI) vwCl [(mo, .inr (19, [.int 0, .int 0, .int 0, .int 0, .int 0, .int 0, .int 0, .ref ti, .ref si, .ref lo, .ref lh, .ref lk, .ref sp, .ref st, .ref pa, .ref br, .ref sg, .int 0, .int 0, .int 0, .int 0, .int 0, .int 0, .long 0, .long 0, .long 0, .long 0, .int 0])), (sg, .inl (csg, 3, .inl (fun _ => 0))), (ou, .inl (co, 1, .inr (.inl (vp_updL of_ 0 0))))] H := hP
  have hD : va_D A [(mo, .inr (19, [.int 0, .int 0, .int 0, .int 0, .int 0, .int 0, .int 0, .ref ti, .ref si, .ref lo, .ref lh, .ref lk, .ref sp, .ref st, .ref pa, .ref br, .ref sg, .int 0, .int 0, .int 0, .int 0, .int 0, .int 0, .long 0, .long 0, .long 0, .long 0, .int 0])), (sg, .inl (csg, 3, .inl (fun _ => 0))), (ou, .inl (co, 1, .inr (.inl (vp_updL of_ 0 0))))] := hD
  have hK : va_K (dC, dI) vwCl [(cM, .object RX4), (csg, .boolean), (co, .long)] s := hK
  obtain rfl : 0 = r1 := hw
  refine lv_istore (lv' := [(6, .int 0), (0, .ref b), (1, .ref x), (2, .ref mo), (3, .ref ou), (4, .ref od_), (5, .int 0)]) hx hb dL_law_1331 hl (by decide) rfl (fun ls hl => ?_)
  refine lv_aload_n hx hb dL_law_1333 rfl (lv_at hl 3 rfl) ?_
  refine lv_aload_n hx hb dL_law_1334 rfl (lv_at hl 1 rfl) ?_
  refine lv_iload hx hb dL_law_1335 (lv_at hl 6 rfl) ?_
  refine lv_iconst (v := 1) hx hb dL_law_1337 (by decide) ?_
  refine lv_iadd hx hb dL_law_1338 ?_
  refine kc_i (y := 1) (by decide +kernel) ?_
  refine va_sld hx hb hX hbl hbA hS (pk_in 1 4 (by decide) rfl) dL_law_1339 ?_
  refine kc_i (y := 1) (hs1 : xs 1 = 1) ?_
  have hPc := hP.sub (ws' := [(mo, .inr (19, [.int 0, .int 0, .int 0, .int 0, .int 0, .int 0, .int 0, .ref ti, .ref si, .ref lo, .ref lh, .ref lk, .ref sp, .ref st, .ref pa, .ref br, .ref sg, .int 0, .int 0, .int 0, .int 0, .int 0, .int 0, .long 0, .long 0, .long 0, .long 0, .int 0])), (sg, .inl (csg, 3, .inl (fun _ => 0)))]) [0, 1] rfl
  have hDc := hD.sub (ws' := [(mo, .inr (19, [.int 0, .int 0, .int 0, .int 0, .int 0, .int 0, .int 0, .ref ti, .ref si, .ref lo, .ref lh, .ref lk, .ref sp, .ref st, .ref pa, .ref br, .ref sg, .int 0, .int 0, .int 0, .int 0, .int 0, .int 0, .long 0, .long 0, .long 0, .long 0, .int 0])), (sg, .inl (csg, 3, .inl (fun _ => 0)))]) [0, 1] (by decide) rfl
  have hKc := hK.sub (tys' := [(csg, .boolean)]) [1] rfl
  have hFc := va_free (wc := [(mo, .inr (19, [.int 0, .int 0, .int 0, .int 0, .int 0, .int 0, .int 0, .ref ti, .ref si, .ref lo, .ref lh, .ref lk, .ref sp, .ref st, .ref pa, .ref br, .ref sg, .int 0, .int 0, .int 0, .int 0, .int 0, .int 0, .long 0, .long 0, .long 0, .long 0, .int 0])), (sg, .inl (csg, 3, .inl (fun _ => 0)))]) hD hS hA [0, 1] rfl
  refine va_calli (va_runV (As := [.int 1]) (rest := []) ⟨hx, hb, hml, hown, hts⟩ (k_m_isSprung1 l dC dI z zK zV mo ti si lo lh lk sp st pa br sg csg 0 H.size) (cwV 1 hts hL_X15_isSprung_192 rfl rfl rfl (by decide +kernel) ⟨Nat.le_of_ble_eq_true rfl, Nat.le_of_ble_eq_true rfl⟩) ⟨kP_blind, va_recv hKc hPc (ci := 19) (q0 := 0) rfl rfl, kP_go hPc hKc hDc hFc hM hS⟩ rfl rfl hl.1 rfl (lv_room (Nat.le_of_ble_eq_true rfl)) dL_law_1340 ⟨Nat.le_of_ble_eq_true rfl, Nat.le_of_ble_eq_true rfl⟩) hS (fun q _ h => hFc q h) hFc (fun r2 u t H1 locs ht hvm hw hB hz1 hk1 hS => ?_)
  obtain ⟨hP, hD, hK⟩ := kJ (wr := [(ou, .inl (co, 1, .inr (.inl (vp_updL of_ 0 0))))]) (w1 := [(mo, .inr (19, [.int 0, .int 0, .int 0, .int 0, .int 0, .int 0, .int 0, .ref ti, .ref si, .ref lo, .ref lh, .ref lk, .ref sp, .ref st, .ref pa, .ref br, .ref sg, .int 0, .int 0, .int 0, .int 0, .int 0, .int 0, .long 0, .long 0, .long 0, .long 0, .int 0]))]) (t1 := []) hP hD hK [0, 1] [2] rfl rfl (by decide) (by decide) hk1 hFc ht hvm hB
  generalize H1 = H at hP hS ⊢
  have hP : va_P (dC, dI) vwCl [(ou, .inl (co, 1, .inr (.inl (vp_updL of_ 0 0)))), (mo, .inr (19, [.int 0, .int 0, .int 0, .int 0, .int 0, .int 0, .int 0, .ref ti, .ref si, .ref lo, .ref lh, .ref lk, .ref sp, .ref st, .ref pa, .ref br, .ref sg, .int 0, .int 0, .int 0, .int 0, .int 0, .int 0, .long 0, .long 0, .long 0, .long 0, .int 0]))] H := hP
  have hD : va_D A [(ou, .inl (co, 1, .inr (.inl (vp_updL of_ 0 0)))), (mo, .inr (19, [.int 0, .int 0, .int 0, .int 0, .int 0, .int 0, .int 0, .ref ti, .ref si, .ref lo, .ref lh, .ref lk, .ref sp, .ref st, .ref pa, .ref br, .ref sg, .int 0, .int 0, .int 0, .int 0, .int 0, .int 0, .long 0, .long 0, .long 0, .long 0, .int 0]))] := hD
  have hK : va_K (dC, dI) vwCl [(cM, .object RX4), (csg, .boolean), (co, .long)] s := hK
  obtain rfl : 0 = r2 := hw
  refine lv_istore (lv' := [(7, .int 0), (6, .int 0), (0, .ref b), (1, .ref x), (2, .ref mo), (3, .ref ou), (4, .ref od_), (5, .int 0)]) hx hb dL_law_1343 hl (by decide) rfl (fun ls hl => ?_)
  refine lv_aload_n hx hb dL_law_1345 rfl (lv_at hl 4 rfl) ?_
  have hPc := hP.sub (ws' := [(mo, .inr (19, [.int 0, .int 0, .int 0, .int 0, .int 0, .int 0, .int 0, .ref ti, .ref si, .ref lo, .ref lh, .ref lk, .ref sp, .ref st, .ref pa, .ref br, .ref sg, .int 0, .int 0, .int 0, .int 0, .int 0, .int 0, .long 0, .long 0, .long 0, .long 0, .int 0]))]) [1] rfl
  have hDc := hD.sub (ws' := [(mo, .inr (19, [.int 0, .int 0, .int 0, .int 0, .int 0, .int 0, .int 0, .ref ti, .ref si, .ref lo, .ref lh, .ref lk, .ref sp, .ref st, .ref pa, .ref br, .ref sg, .int 0, .int 0, .int 0, .int 0, .int 0, .int 0, .long 0, .long 0, .long 0, .long 0, .int 0]))]) [1] (by decide) rfl
  have hKc := hK.sub (tys' := []) [] rfl
  have hFc := va_free (wc := [(mo, .inr (19, [.int 0, .int 0, .int 0, .int 0, .int 0, .int 0, .int 0, .ref ti, .ref si, .ref lo, .ref lh, .ref lk, .ref sp, .ref st, .ref pa, .ref br, .ref sg, .int 0, .int 0, .int 0, .int 0, .int 0, .int 0, .long 0, .long 0, .long 0, .long 0, .int 0]))]) hD hS hA [1] rfl
  refine va_calli (va_runV (As := []) (rest := []) ⟨hx, hb, hml, hown, hts⟩ (k_m_thrown l dC dI z zK zV mo ti si lo lh lk sp st pa br sg 0 0 0 0 0 0 0 0 0 0 0 0 0 0 0 0 0 0 H.size) (cwV 0 hts hL_X15_thrown_100 rfl rfl rfl (by decide +kernel) ⟨Nat.le_of_ble_eq_true rfl, Nat.le_of_ble_eq_true rfl⟩) ⟨kP_blind, va_recv hKc hPc (ci := 19) (q0 := 0) rfl rfl, kP_go hPc hKc hDc hFc hM hS⟩ rfl rfl hl.1 rfl (lv_room (Nat.le_of_ble_eq_true rfl)) dL_law_1346 ⟨Nat.le_of_ble_eq_true rfl, Nat.le_of_ble_eq_true rfl⟩) hS (fun q _ h => hFc q h) hFc (fun r3 u t H1 locs ht hvm hw hB hz1 hk1 hS => ?_)
  obtain ⟨hP, hD, hK⟩ := kJ (wr := [(ou, .inl (co, 1, .inr (.inl (vp_updL of_ 0 0))))]) (w1 := [(mo, .inr (19, [.int 0, .int 0, .int 0, .int 0, .int 0, .int 0, .int 0, .ref ti, .ref si, .ref lo, .ref lh, .ref lk, .ref sp, .ref st, .ref pa, .ref br, .ref sg, .int 0, .int 0, .int 0, .int 0, .int 0, .int 0, .long 0, .long 0, .long 0, .long 0, .int 0]))]) (t1 := []) hP hD hK [1] [0] rfl rfl (by decide) (by decide) hk1 hFc ht hvm hB
  generalize H1 = H at hP hS ⊢
  have hP : va_P (dC, dI) vwCl [(ou, .inl (co, 1, .inr (.inl (vp_updL of_ 0 0)))), (mo, .inr (19, [.int 0, .int 0, .int 0, .int 0, .int 0, .int 0, .int 0, .ref ti, .ref si, .ref lo, .ref lh, .ref lk, .ref sp, .ref st, .ref pa, .ref br, .ref sg, .int 0, .int 0, .int 0, .int 0, .int 0, .int 0, .long 0, .long 0, .long 0, .long 0, .int 0]))] H := hP
  have hD : va_D A [(ou, .inl (co, 1, .inr (.inl (vp_updL of_ 0 0)))), (mo, .inr (19, [.int 0, .int 0, .int 0, .int 0, .int 0, .int 0, .int 0, .ref ti, .ref si, .ref lo, .ref lh, .ref lk, .ref sp, .ref st, .ref pa, .ref br, .ref sg, .int 0, .int 0, .int 0, .int 0, .int 0, .int 0, .long 0, .long 0, .long 0, .long 0, .int 0]))] := hD
  have hK : va_K (dC, dI) vwCl [(cM, .object RX4), (csg, .boolean), (co, .long)] s := hK
  obtain rfl : 0 = r3 := hw
  refine lv_iload hx hb dL_law_1349 (lv_at hl 1 rfl) ?_
  refine lv_icmp_eq (tgt := 1356) hx hb dL_law_1351 (by decide) (fun c4 => ?_) (fun c4 => ?_)
  · skip
    refine lv_iload hx hb dL_law_1356 (lv_at hl 1 rfl) ?_
    refine lv_if_ne (tgt := 1380) hx hb dL_law_1358 (by decide) (fun c_ => absurd (by decide +kernel) c_) (fun _ => ?_)
    refine lv_aload_n hx hb dL_law_1361 rfl (lv_at hl 5 rfl) ?_
    refine lv_iconst (v := 0) hx hb dL_law_1362 (by decide) ?_
    refine va_lald hx hb hK hP 0 2 rfl rfl (pk_in 0 1 (by decide) rfl) dL_law_1363 ?_
    refine kc_v (y := .long 0) rfl ?_
    refine lv_iload hx hb dL_law_1364 (lv_at hl 0 rfl) ?_
    refine lv_if_eq (tgt := 1373) hx hb dL_law_1366 (by decide) (fun _ => ?_) (fun c_ => absurd (by decide +kernel) c_)
    refine lv_lconst (v := 0) hx hb dL_law_1373 (by decide) ?_
    refine W.lcmp hx hb dL_law_1374 ?_
    refine kc_i (y := 0) (by decide +kernel) ?_
    refine lv_if_eq (tgt := 1380) hx hb dL_law_1375 (by decide) (fun _ => ?_) (fun c_ => absurd (by decide +kernel) c_)
    refine lv_goto (tgt := 1684) hx hb dL_law_1380 (by decide) ?_
    exact la_tail hst C0 hA hAl H locs hS ls (lv_sub hl [2, 7] rfl) (by omega) (by omega)
  · skip
    refine lv_iconst (v := 0) hx hb dL_law_1354 (by decide) ?_
    @RET 0 1355 ireturn
set_option maxHeartbeats 8000000 in
set_option maxRecDepth 100000 in
theorem la_isSprung2 {p : Program} {l : Launch} {e : Env} {s : State} {m : MethodId} {below : List Frame} {meth : Method} {c : Code} {dC : Nat → ClassId} {dI : Nat → Nat → Nat} {z zK zV : Nat → Nat} {b : Nat} {xs : Nat → Int32} {A : Nat → Prop} (hst : l.stackTraces = false) (C0 : lw_At p s m meth c b 4 xs) (hM : am z zK zV A s s.heap) (hA : ∀ q : Nat, s.heap.size ≤ q → A q) (hAl : ∀ q : Nat, A q → s.heap.size ≤ q) (sh : Nat) (rg : Nat) (mf : Nat) (mm : Nat) (mz : Nat) (ma : Nat) (sa : Nat) (dk : Nat) (hd : Nat) (lg : Nat) (pl : Nat) (pr : Nat) (cM : ClassId) (x : Nat) (tl : Nat) (tw : Nat) (mo : Nat) (ti : Nat) (si : Nat) (lo : Nat) (lh : Nat) (lk : Nat) (sp : Nat) (st : Nat) (pa : Nat) (br : Nat) (sg : Nat) (csg : ClassId) (ou : Nat) (co : ClassId) (of_ : Nat → Int64) (od_ : Nat)  (hs1 : xs 1 = 2) (H : Heap) (locs : List Loc) (hK : va_K (dC, dI) vwCl [(cM, .object RX4), (csg, .boolean), (co, .long)] s) (hP : va_P (dC, dI) vwCl [(x, .inr (15, [.ref sh, .ref tl, .ref tw, .int 0])), (sh, .inr (13, [.ref rg, .ref dk, .ref hd, .ref lg, .ref pl, .ref pr, .int 0, .int 0, .int 0, .int 0, .int 0, .int 0, .int 0, .int 0, .int 0, .int 0, .int 0])), (rg, .inr (11, [.ref mf, .ref mm, .ref mz, .ref ma, .ref sa, .int 0])), (mz, .inr (8, [.int 0, .int 0, .int 0])), (ma, .inl (cM, 3, .inr (.inr (.inr (.inr (va_up (va_up (va_up (fun _ => none) 0 (some mf)) 1 (some mm)) 2 (some mz))))))), (mo, .inr (19, [.int 0, .int 0, .int 0, .int 0, .int 0, .int 0, .int 0, .ref ti, .ref si, .ref lo, .ref lh, .ref lk, .ref sp, .ref st, .ref pa, .ref br, .ref sg, .int 0, .int 0, .int 0, .int 0, .int 0, .int 0, .long 0, .long 0, .long 0, .long 0, .int 0])), (sg, .inl (csg, 3, .inl (fun _ => 0))), (ou, .inl (co, 1, .inr (.inl of_)))] H) (hD : va_D A [(x, .inr (15, [.ref sh, .ref tl, .ref tw, .int 0])), (sh, .inr (13, [.ref rg, .ref dk, .ref hd, .ref lg, .ref pl, .ref pr, .int 0, .int 0, .int 0, .int 0, .int 0, .int 0, .int 0, .int 0, .int 0, .int 0, .int 0])), (rg, .inr (11, [.ref mf, .ref mm, .ref mz, .ref ma, .ref sa, .int 0])), (mz, .inr (8, [.int 0, .int 0, .int 0])), (ma, .inl (cM, 3, .inr (.inr (.inr (.inr (va_up (va_up (va_up (fun _ => none) 0 (some mf)) 1 (some mm)) 2 (some mz))))))), (mo, .inr (19, [.int 0, .int 0, .int 0, .int 0, .int 0, .int 0, .int 0, .ref ti, .ref si, .ref lo, .ref lh, .ref lk, .ref sp, .ref st, .ref pa, .ref br, .ref sg, .int 0, .int 0, .int 0, .int 0, .int 0, .int 0, .long 0, .long 0, .long 0, .long 0, .int 0])), (sg, .inl (csg, 3, .inl (fun _ => 0))), (ou, .inl (co, 1, .inr (.inl of_)))]) (hS : va_S A s.heap H locs) (ls : Array Slot) (hl : lv_has ls 10 [(0, .ref b), (1, .ref x), (2, .ref mo), (3, .ref ou), (4, .ref od_), (5, .int 0)]) : W p l e room_1 s m #[Value.ref b] below meth c H locs 100 1400 (lw_Z below #[Value.ref b] s) (F0 m 1320 ls []) := by
  obtain ⟨hx, hb, hr, hml, hown, hts, hX, hbl, hlocks, hgv⟩ := id C0
  have hbA : ¬ A b := fun h => absurd (hAl b h) (Nat.not_le.mpr hbl)
  refine lv_aload_n hx hb dL_law_1320 rfl (lv_at hl 1 rfl) ?_
  refine lv_aload_n hx hb dL_law_1321 rfl (lv_at hl 0 rfl) ?_
  refine lv_iload hx hb dL_law_1322 (lv_at hl 5 rfl) ?_
  refine lv_iconst (v := 1) hx hb dL_law_1324 (by decide) ?_
  refine lv_iadd hx hb dL_law_1325 ?_
  refine kc_i (y := 1) (by decide +kernel) ?_
  refine va_sld hx hb hX hbl hbA hS (pk_in 1 4 (by decide) rfl) dL_law_1326 ?_
  refine kc_i (y := 2) (hs1 : xs 1 = 2) ?_
  refine lv_aload_n hx hb dL_law_1327 rfl (lv_at hl 3 rfl) ?_
  have hPc := hP.sub (ws' := [(x, .inr (15, [.ref sh, .ref tl, .ref tw, .int 0])), (sh, .inr (13, [.ref rg, .ref dk, .ref hd, .ref lg, .ref pl, .ref pr, .int 0, .int 0, .int 0, .int 0, .int 0, .int 0, .int 0, .int 0, .int 0, .int 0, .int 0])), (rg, .inr (11, [.ref mf, .ref mm, .ref mz, .ref ma, .ref sa, .int 0])), (ma, .inl (cM, 3, .inr (.inr (.inr (.inr (va_up (va_up (va_up (fun _ => none) 0 (some mf)) 1 (some mm)) 2 (some mz))))))), (mz, .inr (8, [.int 0, .int 0, .int 0])), (ou, .inl (co, 1, .inr (.inl of_)))]) [0, 1, 2, 4, 3, 7] rfl
  have hDc := hD.sub (ws' := [(x, .inr (15, [.ref sh, .ref tl, .ref tw, .int 0])), (sh, .inr (13, [.ref rg, .ref dk, .ref hd, .ref lg, .ref pl, .ref pr, .int 0, .int 0, .int 0, .int 0, .int 0, .int 0, .int 0, .int 0, .int 0, .int 0, .int 0])), (rg, .inr (11, [.ref mf, .ref mm, .ref mz, .ref ma, .ref sa, .int 0])), (ma, .inl (cM, 3, .inr (.inr (.inr (.inr (va_up (va_up (va_up (fun _ => none) 0 (some mf)) 1 (some mm)) 2 (some mz))))))), (mz, .inr (8, [.int 0, .int 0, .int 0])), (ou, .inl (co, 1, .inr (.inl of_)))]) [0, 1, 2, 4, 3, 7] (by decide) rfl
  have hKc := hK.sub (tys' := [(cM, .object RX4), (co, .long)]) [0, 2] rfl
  have hFc := va_free (wc := [(x, .inr (15, [.ref sh, .ref tl, .ref tw, .int 0])), (sh, .inr (13, [.ref rg, .ref dk, .ref hd, .ref lg, .ref pl, .ref pr, .int 0, .int 0, .int 0, .int 0, .int 0, .int 0, .int 0, .int 0, .int 0, .int 0, .int 0])), (rg, .inr (11, [.ref mf, .ref mm, .ref mz, .ref ma, .ref sa, .int 0])), (ma, .inl (cM, 3, .inr (.inr (.inr (.inr (va_up (va_up (va_up (fun _ => none) 0 (some mf)) 1 (some mm)) 2 (some mz))))))), (mz, .inr (8, [.int 0, .int 0, .int 0])), (ou, .inl (co, 1, .inr (.inl of_)))]) hD hS hA [0, 1, 2, 4, 3, 7] rfl
  refine va_calli (vx_runSW (As := [.ref x, .int 2, .ref ou]) (rest := []) ⟨hx, hb, hml, hown, hts⟩ (k_l_isSprung2 l dC dI z zK zV sh rg mf mm mz ma sa dk hd lg pl pr cM x tl tw ou co of_ H.size) (vx_cwSW 3 hts hL_L_isSprung_190 rfl rfl rfl (by decide +kernel) ⟨Nat.le_of_ble_eq_true rfl, Nat.le_of_ble_eq_true rfl⟩) ⟨kP_blind, kP_go hPc hKc hDc hFc hM hS⟩ rfl rfl hl.1 rfl (lv_room (Nat.le_of_ble_eq_true rfl)) dL_law_1328 ⟨Nat.le_of_ble_eq_true rfl, Nat.le_of_ble_eq_true rfl⟩) hS (fun q _ h => hFc q h) hFc (fun r1 u t H1 locs ht hvm hw hB hz1 hk1 hS => ?_)
  obtain ⟨hP, hD, hK⟩ := kJ (wr := [(mo, .inr (19, [.int 0, .int 0, .int 0, .int 0, .int 0, .int 0, .int 0, .ref ti, .ref si, .ref lo, .ref lh, .ref lk, .ref sp, .ref st, .ref pa, .ref br, .ref sg, .int 0, .int 0, .int 0, .int 0, .int 0, .int 0, .long 0, .long 0, .long 0, .long 0, .int 0])), (sg, .inl (csg, 3, .inl (fun _ => 0)))]) (w1 := [(ou, .inl (co, 1, .inr (.inl (vp_updL of_ 0 0))))]) (t1 := []) hP hD hK [0, 1, 2, 4, 3, 7] [5, 6] rfl rfl (by decide) (by decide) hk1 hFc ht hvm hB
  generalize H1 = H at hP hS ⊢
  have hP : va_P (dC, dI) vwCl [(mo, .inr (19, [.int 0, .int 0, .int 0, .int 0, .int 0, .int 0, .int 0, .ref ti, .ref si, .ref lo, .ref lh, .ref lk, .ref sp, .ref st, .ref pa, .ref br, .ref sg, .int 0, .int 0, .int 0, .int 0, .int 0, .int 0, .long 0, .long 0, .long 0, .long 0, .int 0])), (sg, .inl (csg, 3, .inl (fun _ => 0))), (ou, .inl (co, 1, .inr (.inl (vp_updL of_ 0 0))))] H := hP
  have hD : va_D A [(mo, .inr (19, [.int 0, .int 0, .int 0, .int 0, .int 0, .int 0, .int 0, .ref ti, .ref si, .ref lo, .ref lh, .ref lk, .ref sp, .ref st, .ref pa, .ref br, .ref sg, .int 0, .int 0, .int 0, .int 0, .int 0, .int 0, .long 0, .long 0, .long 0, .long 0, .int 0])), (sg, .inl (csg, 3, .inl (fun _ => 0))), (ou, .inl (co, 1, .inr (.inl (vp_updL of_ 0 0))))] := hD
  have hK : va_K (dC, dI) vwCl [(cM, .object RX4), (csg, .boolean), (co, .long)] s := hK
  obtain rfl : 0 = r1 := hw
  refine lv_istore (lv' := [(6, .int 0), (0, .ref b), (1, .ref x), (2, .ref mo), (3, .ref ou), (4, .ref od_), (5, .int 0)]) hx hb dL_law_1331 hl (by decide) rfl (fun ls hl => ?_)
  refine lv_aload_n hx hb dL_law_1333 rfl (lv_at hl 3 rfl) ?_
  refine lv_aload_n hx hb dL_law_1334 rfl (lv_at hl 1 rfl) ?_
  refine lv_iload hx hb dL_law_1335 (lv_at hl 6 rfl) ?_
  refine lv_iconst (v := 1) hx hb dL_law_1337 (by decide) ?_
  refine lv_iadd hx hb dL_law_1338 ?_
  refine kc_i (y := 1) (by decide +kernel) ?_
  refine va_sld hx hb hX hbl hbA hS (pk_in 1 4 (by decide) rfl) dL_law_1339 ?_
  refine kc_i (y := 2) (hs1 : xs 1 = 2) ?_
  have hPc := hP.sub (ws' := [(mo, .inr (19, [.int 0, .int 0, .int 0, .int 0, .int 0, .int 0, .int 0, .ref ti, .ref si, .ref lo, .ref lh, .ref lk, .ref sp, .ref st, .ref pa, .ref br, .ref sg, .int 0, .int 0, .int 0, .int 0, .int 0, .int 0, .long 0, .long 0, .long 0, .long 0, .int 0])), (sg, .inl (csg, 3, .inl (fun _ => 0)))]) [0, 1] rfl
  have hDc := hD.sub (ws' := [(mo, .inr (19, [.int 0, .int 0, .int 0, .int 0, .int 0, .int 0, .int 0, .ref ti, .ref si, .ref lo, .ref lh, .ref lk, .ref sp, .ref st, .ref pa, .ref br, .ref sg, .int 0, .int 0, .int 0, .int 0, .int 0, .int 0, .long 0, .long 0, .long 0, .long 0, .int 0])), (sg, .inl (csg, 3, .inl (fun _ => 0)))]) [0, 1] (by decide) rfl
  have hKc := hK.sub (tys' := [(csg, .boolean)]) [1] rfl
  have hFc := va_free (wc := [(mo, .inr (19, [.int 0, .int 0, .int 0, .int 0, .int 0, .int 0, .int 0, .ref ti, .ref si, .ref lo, .ref lh, .ref lk, .ref sp, .ref st, .ref pa, .ref br, .ref sg, .int 0, .int 0, .int 0, .int 0, .int 0, .int 0, .long 0, .long 0, .long 0, .long 0, .int 0])), (sg, .inl (csg, 3, .inl (fun _ => 0)))]) hD hS hA [0, 1] rfl
  refine va_calli (va_runV (As := [.int 2]) (rest := []) ⟨hx, hb, hml, hown, hts⟩ (k_m_isSprung2 l dC dI z zK zV mo ti si lo lh lk sp st pa br sg csg 0 H.size) (cwV 1 hts hL_X15_isSprung_192 rfl rfl rfl (by decide +kernel) ⟨Nat.le_of_ble_eq_true rfl, Nat.le_of_ble_eq_true rfl⟩) ⟨kP_blind, va_recv hKc hPc (ci := 19) (q0 := 0) rfl rfl, kP_go hPc hKc hDc hFc hM hS⟩ rfl rfl hl.1 rfl (lv_room (Nat.le_of_ble_eq_true rfl)) dL_law_1340 ⟨Nat.le_of_ble_eq_true rfl, Nat.le_of_ble_eq_true rfl⟩) hS (fun q _ h => hFc q h) hFc (fun r2 u t H1 locs ht hvm hw hB hz1 hk1 hS => ?_)
  obtain ⟨hP, hD, hK⟩ := kJ (wr := [(ou, .inl (co, 1, .inr (.inl (vp_updL of_ 0 0))))]) (w1 := [(mo, .inr (19, [.int 0, .int 0, .int 0, .int 0, .int 0, .int 0, .int 0, .ref ti, .ref si, .ref lo, .ref lh, .ref lk, .ref sp, .ref st, .ref pa, .ref br, .ref sg, .int 0, .int 0, .int 0, .int 0, .int 0, .int 0, .long 0, .long 0, .long 0, .long 0, .int 0]))]) (t1 := []) hP hD hK [0, 1] [2] rfl rfl (by decide) (by decide) hk1 hFc ht hvm hB
  generalize H1 = H at hP hS ⊢
  have hP : va_P (dC, dI) vwCl [(ou, .inl (co, 1, .inr (.inl (vp_updL of_ 0 0)))), (mo, .inr (19, [.int 0, .int 0, .int 0, .int 0, .int 0, .int 0, .int 0, .ref ti, .ref si, .ref lo, .ref lh, .ref lk, .ref sp, .ref st, .ref pa, .ref br, .ref sg, .int 0, .int 0, .int 0, .int 0, .int 0, .int 0, .long 0, .long 0, .long 0, .long 0, .int 0]))] H := hP
  have hD : va_D A [(ou, .inl (co, 1, .inr (.inl (vp_updL of_ 0 0)))), (mo, .inr (19, [.int 0, .int 0, .int 0, .int 0, .int 0, .int 0, .int 0, .ref ti, .ref si, .ref lo, .ref lh, .ref lk, .ref sp, .ref st, .ref pa, .ref br, .ref sg, .int 0, .int 0, .int 0, .int 0, .int 0, .int 0, .long 0, .long 0, .long 0, .long 0, .int 0]))] := hD
  have hK : va_K (dC, dI) vwCl [(cM, .object RX4), (csg, .boolean), (co, .long)] s := hK
  obtain rfl : 0 = r2 := hw
  refine lv_istore (lv' := [(7, .int 0), (6, .int 0), (0, .ref b), (1, .ref x), (2, .ref mo), (3, .ref ou), (4, .ref od_), (5, .int 0)]) hx hb dL_law_1343 hl (by decide) rfl (fun ls hl => ?_)
  refine lv_aload_n hx hb dL_law_1345 rfl (lv_at hl 4 rfl) ?_
  have hPc := hP.sub (ws' := [(mo, .inr (19, [.int 0, .int 0, .int 0, .int 0, .int 0, .int 0, .int 0, .ref ti, .ref si, .ref lo, .ref lh, .ref lk, .ref sp, .ref st, .ref pa, .ref br, .ref sg, .int 0, .int 0, .int 0, .int 0, .int 0, .int 0, .long 0, .long 0, .long 0, .long 0, .int 0]))]) [1] rfl
  have hDc := hD.sub (ws' := [(mo, .inr (19, [.int 0, .int 0, .int 0, .int 0, .int 0, .int 0, .int 0, .ref ti, .ref si, .ref lo, .ref lh, .ref lk, .ref sp, .ref st, .ref pa, .ref br, .ref sg, .int 0, .int 0, .int 0, .int 0, .int 0, .int 0, .long 0, .long 0, .long 0, .long 0, .int 0]))]) [1] (by decide) rfl
  have hKc := hK.sub (tys' := []) [] rfl
  have hFc := va_free (wc := [(mo, .inr (19, [.int 0, .int 0, .int 0, .int 0, .int 0, .int 0, .int 0, .ref ti, .ref si, .ref lo, .ref lh, .ref lk, .ref sp, .ref st, .ref pa, .ref br, .ref sg, .int 0, .int 0, .int 0, .int 0, .int 0, .int 0, .long 0, .long 0, .long 0, .long 0, .int 0]))]) hD hS hA [1] rfl
  refine va_calli (va_runV (As := []) (rest := []) ⟨hx, hb, hml, hown, hts⟩ (k_m_thrown l dC dI z zK zV mo ti si lo lh lk sp st pa br sg 0 0 0 0 0 0 0 0 0 0 0 0 0 0 0 0 0 0 H.size) (cwV 0 hts hL_X15_thrown_100 rfl rfl rfl (by decide +kernel) ⟨Nat.le_of_ble_eq_true rfl, Nat.le_of_ble_eq_true rfl⟩) ⟨kP_blind, va_recv hKc hPc (ci := 19) (q0 := 0) rfl rfl, kP_go hPc hKc hDc hFc hM hS⟩ rfl rfl hl.1 rfl (lv_room (Nat.le_of_ble_eq_true rfl)) dL_law_1346 ⟨Nat.le_of_ble_eq_true rfl, Nat.le_of_ble_eq_true rfl⟩) hS (fun q _ h => hFc q h) hFc (fun r3 u t H1 locs ht hvm hw hB hz1 hk1 hS => ?_)
  obtain ⟨hP, hD, hK⟩ := kJ (wr := [(ou, .inl (co, 1, .inr (.inl (vp_updL of_ 0 0))))]) (w1 := [(mo, .inr (19, [.int 0, .int 0, .int 0, .int 0, .int 0, .int 0, .int 0, .ref ti, .ref si, .ref lo, .ref lh, .ref lk, .ref sp, .ref st, .ref pa, .ref br, .ref sg, .int 0, .int 0, .int 0, .int 0, .int 0, .int 0, .long 0, .long 0, .long 0, .long 0, .int 0]))]) (t1 := []) hP hD hK [1] [0] rfl rfl (by decide) (by decide) hk1 hFc ht hvm hB
  generalize H1 = H at hP hS ⊢
  have hP : va_P (dC, dI) vwCl [(ou, .inl (co, 1, .inr (.inl (vp_updL of_ 0 0)))), (mo, .inr (19, [.int 0, .int 0, .int 0, .int 0, .int 0, .int 0, .int 0, .ref ti, .ref si, .ref lo, .ref lh, .ref lk, .ref sp, .ref st, .ref pa, .ref br, .ref sg, .int 0, .int 0, .int 0, .int 0, .int 0, .int 0, .long 0, .long 0, .long 0, .long 0, .int 0]))] H := hP
  have hD : va_D A [(ou, .inl (co, 1, .inr (.inl (vp_updL of_ 0 0)))), (mo, .inr (19, [.int 0, .int 0, .int 0, .int 0, .int 0, .int 0, .int 0, .ref ti, .ref si, .ref lo, .ref lh, .ref lk, .ref sp, .ref st, .ref pa, .ref br, .ref sg, .int 0, .int 0, .int 0, .int 0, .int 0, .int 0, .long 0, .long 0, .long 0, .long 0, .int 0]))] := hD
  have hK : va_K (dC, dI) vwCl [(cM, .object RX4), (csg, .boolean), (co, .long)] s := hK
  obtain rfl : 0 = r3 := hw
  refine lv_iload hx hb dL_law_1349 (lv_at hl 1 rfl) ?_
  refine lv_icmp_eq (tgt := 1356) hx hb dL_law_1351 (by decide) (fun c4 => ?_) (fun c4 => ?_)
  · skip
    refine lv_iload hx hb dL_law_1356 (lv_at hl 1 rfl) ?_
    refine lv_if_ne (tgt := 1380) hx hb dL_law_1358 (by decide) (fun c_ => absurd (by decide +kernel) c_) (fun _ => ?_)
    refine lv_aload_n hx hb dL_law_1361 rfl (lv_at hl 5 rfl) ?_
    refine lv_iconst (v := 0) hx hb dL_law_1362 (by decide) ?_
    refine va_lald hx hb hK hP 0 2 rfl rfl (pk_in 0 1 (by decide) rfl) dL_law_1363 ?_
    refine kc_v (y := .long 0) rfl ?_
    refine lv_iload hx hb dL_law_1364 (lv_at hl 0 rfl) ?_
    refine lv_if_eq (tgt := 1373) hx hb dL_law_1366 (by decide) (fun _ => ?_) (fun c_ => absurd (by decide +kernel) c_)
    refine lv_lconst (v := 0) hx hb dL_law_1373 (by decide) ?_
    refine W.lcmp hx hb dL_law_1374 ?_
    refine kc_i (y := 0) (by decide +kernel) ?_
    refine lv_if_eq (tgt := 1380) hx hb dL_law_1375 (by decide) (fun _ => ?_) (fun c_ => absurd (by decide +kernel) c_)
    refine lv_goto (tgt := 1684) hx hb dL_law_1380 (by decide) ?_
    exact la_tail hst C0 hA hAl H locs hS ls (lv_sub hl [2, 7] rfl) (by omega) (by omega)
  · skip
    refine lv_iconst (v := 0) hx hb dL_law_1354 (by decide) ?_
    @RET 0 1355 ireturn
set_option maxHeartbeats 8000000 in
set_option maxRecDepth 100000 in
theorem la_isSprung_bad {p : Program} {l : Launch} {e : Env} {s : State} {m : MethodId} {below : List Frame} {meth : Method} {c : Code} {dC : Nat → ClassId} {dI : Nat → Nat → Nat} {z zK zV : Nat → Nat} {b : Nat} {xs : Nat → Int32} {A : Nat → Prop} (hst : l.stackTraces = false) (C0 : lw_At p s m meth c b 4 xs) (hM : am z zK zV A s s.heap) (hA : ∀ q : Nat, s.heap.size ≤ q → A q) (hAl : ∀ q : Nat, A q → s.heap.size ≤ q) (sh : Nat) (rg : Nat) (mf : Nat) (mm : Nat) (mz : Nat) (ma : Nat) (sa : Nat) (dk : Nat) (hd : Nat) (lg : Nat) (pl : Nat) (pr : Nat) (cM : ClassId) (x : Nat) (tl : Nat) (tw : Nat) (p0 : Int32) (mo : Nat) (ti : Nat) (si : Nat) (lo : Nat) (lh : Nat) (lk : Nat) (sp : Nat) (st : Nat) (pa : Nat) (br : Nat) (sg : Nat) (ou : Nat) (co : ClassId) (of_ : Nat → Int64) (od_ : Nat) (hb0 : ¬ ((0 : Int32) ≤ p0 ∧ p0 ≤ 2)) (hs1 : xs 1 = p0) (H : Heap) (locs : List Loc) (hK : va_K (dC, dI) vwCl [(cM, .object RX4), (co, .long)] s) (hP : va_P (dC, dI) vwCl [(x, .inr (15, [.ref sh, .ref tl, .ref tw, .int 0])), (sh, .inr (13, [.ref rg, .ref dk, .ref hd, .ref lg, .ref pl, .ref pr, .int 0, .int 0, .int 0, .int 0, .int 0, .int 0, .int 0, .int 0, .int 0, .int 0, .int 0])), (rg, .inr (11, [.ref mf, .ref mm, .ref mz, .ref ma, .ref sa, .int 0])), (ma, .inl (cM, 3, .inr (.inr (.inr (.inr (va_up (va_up (va_up (fun _ => none) 0 (some mf)) 1 (some mm)) 2 (some mz))))))), (mo, .inr (19, [.int 0, .int 0, .int 0, .int 0, .int 0, .int 0, .int 0, .ref ti, .ref si, .ref lo, .ref lh, .ref lk, .ref sp, .ref st, .ref pa, .ref br, .ref sg, .int 0, .int 0, .int 0, .int 0, .int 0, .int 0, .long 0, .long 0, .long 0, .long 0, .int 0])), (ou, .inl (co, 1, .inr (.inl of_)))] H) (hD : va_D A [(x, .inr (15, [.ref sh, .ref tl, .ref tw, .int 0])), (sh, .inr (13, [.ref rg, .ref dk, .ref hd, .ref lg, .ref pl, .ref pr, .int 0, .int 0, .int 0, .int 0, .int 0, .int 0, .int 0, .int 0, .int 0, .int 0, .int 0])), (rg, .inr (11, [.ref mf, .ref mm, .ref mz, .ref ma, .ref sa, .int 0])), (ma, .inl (cM, 3, .inr (.inr (.inr (.inr (va_up (va_up (va_up (fun _ => none) 0 (some mf)) 1 (some mm)) 2 (some mz))))))), (mo, .inr (19, [.int 0, .int 0, .int 0, .int 0, .int 0, .int 0, .int 0, .ref ti, .ref si, .ref lo, .ref lh, .ref lk, .ref sp, .ref st, .ref pa, .ref br, .ref sg, .int 0, .int 0, .int 0, .int 0, .int 0, .int 0, .long 0, .long 0, .long 0, .long 0, .int 0])), (ou, .inl (co, 1, .inr (.inl of_)))]) (hS : va_S A s.heap H locs) (ls : Array Slot) (hl : lv_has ls 10 [(0, .ref b), (1, .ref x), (2, .ref mo), (3, .ref ou), (4, .ref od_), (5, .int 0)]) : W p l e room_1 s m #[Value.ref b] below meth c H locs 100 1400 (lw_Z below #[Value.ref b] s) (F0 m 1320 ls []) := by
  obtain ⟨hx, hb, hr, hml, hown, hts, hX, hbl, hlocks, hgv⟩ := id C0
  have hbA : ¬ A b := fun h => absurd (hAl b h) (Nat.not_le.mpr hbl)
  refine lv_aload_n hx hb dL_law_1320 rfl (lv_at hl 1 rfl) ?_
  refine lv_aload_n hx hb dL_law_1321 rfl (lv_at hl 0 rfl) ?_
  refine lv_iload hx hb dL_law_1322 (lv_at hl 5 rfl) ?_
  refine lv_iconst (v := 1) hx hb dL_law_1324 (by decide) ?_
  refine lv_iadd hx hb dL_law_1325 ?_
  refine kc_i (y := 1) (by decide +kernel) ?_
  refine va_sld hx hb hX hbl hbA hS (pk_in 1 4 (by decide) rfl) dL_law_1326 ?_
  refine kc_i (y := p0) (hs1 : xs 1 = p0) ?_
  refine lv_aload_n hx hb dL_law_1327 rfl (lv_at hl 3 rfl) ?_
  have hPc := hP.sub (ws' := [(x, .inr (15, [.ref sh, .ref tl, .ref tw, .int 0])), (sh, .inr (13, [.ref rg, .ref dk, .ref hd, .ref lg, .ref pl, .ref pr, .int 0, .int 0, .int 0, .int 0, .int 0, .int 0, .int 0, .int 0, .int 0, .int 0, .int 0])), (rg, .inr (11, [.ref mf, .ref mm, .ref mz, .ref ma, .ref sa, .int 0])), (ma, .inl (cM, 3, .inr (.inr (.inr (.inr (va_up (va_up (va_up (fun _ => none) 0 (some mf)) 1 (some mm)) 2 (some mz))))))), (ou, .inl (co, 1, .inr (.inl of_)))]) [0, 1, 2, 3, 5] rfl
  have hDc := hD.sub (ws' := [(x, .inr (15, [.ref sh, .ref tl, .ref tw, .int 0])), (sh, .inr (13, [.ref rg, .ref dk, .ref hd, .ref lg, .ref pl, .ref pr, .int 0, .int 0, .int 0, .int 0, .int 0, .int 0, .int 0, .int 0, .int 0, .int 0, .int 0])), (rg, .inr (11, [.ref mf, .ref mm, .ref mz, .ref ma, .ref sa, .int 0])), (ma, .inl (cM, 3, .inr (.inr (.inr (.inr (va_up (va_up (va_up (fun _ => none) 0 (some mf)) 1 (some mm)) 2 (some mz))))))), (ou, .inl (co, 1, .inr (.inl of_)))]) [0, 1, 2, 3, 5] (by decide) rfl
  have hKc := hK.sub (tys' := [(cM, .object RX4), (co, .long)]) [0, 1] rfl
  have hFc := va_free (wc := [(x, .inr (15, [.ref sh, .ref tl, .ref tw, .int 0])), (sh, .inr (13, [.ref rg, .ref dk, .ref hd, .ref lg, .ref pl, .ref pr, .int 0, .int 0, .int 0, .int 0, .int 0, .int 0, .int 0, .int 0, .int 0, .int 0, .int 0])), (rg, .inr (11, [.ref mf, .ref mm, .ref mz, .ref ma, .ref sa, .int 0])), (ma, .inl (cM, 3, .inr (.inr (.inr (.inr (va_up (va_up (va_up (fun _ => none) 0 (some mf)) 1 (some mm)) 2 (some mz))))))), (ou, .inl (co, 1, .inr (.inl of_)))]) hD hS hA [0, 1, 2, 3, 5] rfl
  refine va_calli (vx_runSW (As := [.ref x, .int p0, .ref ou]) (rest := []) ⟨hx, hb, hml, hown, hts⟩ (k_l_isSprung_bad l dC dI z zK zV sh rg mf mm mz ma sa dk hd lg pl pr cM x tl tw p0 ou co of_ H.size hst ((k_out3 hb0))) (vx_cwSW 3 hts hL_L_isSprung_190 rfl rfl rfl (by decide +kernel) ⟨Nat.le_of_ble_eq_true rfl, Nat.le_of_ble_eq_true rfl⟩) ⟨kP_blind, kP_go hPc hKc hDc hFc hM hS⟩ rfl rfl hl.1 rfl (lv_room (Nat.le_of_ble_eq_true rfl)) dL_law_1328 ⟨Nat.le_of_ble_eq_true rfl, Nat.le_of_ble_eq_true rfl⟩) hS (fun q _ h => hFc q h) hFc (fun r1 u t H1 locs ht hvm hw hB hz1 hk1 hS => ?_)
  obtain ⟨hP, hD, hK⟩ := kJ (wr := [(mo, .inr (19, [.int 0, .int 0, .int 0, .int 0, .int 0, .int 0, .int 0, .ref ti, .ref si, .ref lo, .ref lh, .ref lk, .ref sp, .ref st, .ref pa, .ref br, .ref sg, .int 0, .int 0, .int 0, .int 0, .int 0, .int 0, .long 0, .long 0, .long 0, .long 0, .int 0]))]) (w1 := []) (t1 := []) hP hD hK [0, 1, 2, 3, 5] [4] rfl rfl (by decide) (by decide) hk1 hFc ht hvm hB
  generalize H1 = H at hP hS ⊢
  have hP : va_P (dC, dI) vwCl [(mo, .inr (19, [.int 0, .int 0, .int 0, .int 0, .int 0, .int 0, .int 0, .ref ti, .ref si, .ref lo, .ref lh, .ref lk, .ref sp, .ref st, .ref pa, .ref br, .ref sg, .int 0, .int 0, .int 0, .int 0, .int 0, .int 0, .long 0, .long 0, .long 0, .long 0, .int 0]))] H := hP
  have hD : va_D A [(mo, .inr (19, [.int 0, .int 0, .int 0, .int 0, .int 0, .int 0, .int 0, .ref ti, .ref si, .ref lo, .ref lh, .ref lk, .ref sp, .ref st, .ref pa, .ref br, .ref sg, .int 0, .int 0, .int 0, .int 0, .int 0, .int 0, .long 0, .long 0, .long 0, .long 0, .int 0]))] := hD
  have hK : va_K (dC, dI) vwCl [(cM, .object RX4), (co, .long)] s := hK
  obtain rfl : 1 = r1 := hw
  refine lv_istore (lv' := [(6, .int 1), (0, .ref b), (1, .ref x), (2, .ref mo), (3, .ref ou), (4, .ref od_), (5, .int 0)]) hx hb dL_law_1331 hl (by decide) rfl (fun ls hl => ?_)
  refine lv_aload_n hx hb dL_law_1333 rfl (lv_at hl 3 rfl) ?_
  refine lv_aload_n hx hb dL_law_1334 rfl (lv_at hl 1 rfl) ?_
  refine lv_iload hx hb dL_law_1335 (lv_at hl 6 rfl) ?_
  refine lv_iconst (v := 1) hx hb dL_law_1337 (by decide) ?_
  refine lv_iadd hx hb dL_law_1338 ?_
  refine kc_i (y := 1) (by decide +kernel) ?_
  refine va_sld hx hb hX hbl hbA hS (pk_in 1 4 (by decide) rfl) dL_law_1339 ?_
  refine kc_i (y := p0) (hs1 : xs 1 = p0) ?_
  have hPc := hP.sub (ws' := [(mo, .inr (19, [.int 0, .int 0, .int 0, .int 0, .int 0, .int 0, .int 0, .ref ti, .ref si, .ref lo, .ref lh, .ref lk, .ref sp, .ref st, .ref pa, .ref br, .ref sg, .int 0, .int 0, .int 0, .int 0, .int 0, .int 0, .long 0, .long 0, .long 0, .long 0, .int 0]))]) [0] rfl
  have hDc := hD.sub (ws' := [(mo, .inr (19, [.int 0, .int 0, .int 0, .int 0, .int 0, .int 0, .int 0, .ref ti, .ref si, .ref lo, .ref lh, .ref lk, .ref sp, .ref st, .ref pa, .ref br, .ref sg, .int 0, .int 0, .int 0, .int 0, .int 0, .int 0, .long 0, .long 0, .long 0, .long 0, .int 0]))]) [0] (by decide) rfl
  have hKc := hK.sub (tys' := []) [] rfl
  have hFc := va_free (wc := [(mo, .inr (19, [.int 0, .int 0, .int 0, .int 0, .int 0, .int 0, .int 0, .ref ti, .ref si, .ref lo, .ref lh, .ref lk, .ref sp, .ref st, .ref pa, .ref br, .ref sg, .int 0, .int 0, .int 0, .int 0, .int 0, .int 0, .long 0, .long 0, .long 0, .long 0, .int 0]))]) hD hS hA [0] rfl
  refine va_calli (va_runV (As := [.int p0]) (rest := []) ⟨hx, hb, hml, hown, hts⟩ (k_m_isSprung_bad l dC dI z zK zV p0 mo ti si lo lh lk sp st pa br sg 0 H.size (hb0)) (cwV 1 hts hL_X15_isSprung_192 rfl rfl rfl (by decide +kernel) ⟨Nat.le_of_ble_eq_true rfl, Nat.le_of_ble_eq_true rfl⟩) ⟨kP_blind, va_recv hKc hPc (ci := 19) (q0 := 0) rfl rfl, kP_go hPc hKc hDc hFc hM hS⟩ rfl rfl hl.1 rfl (lv_room (Nat.le_of_ble_eq_true rfl)) dL_law_1340 ⟨Nat.le_of_ble_eq_true rfl, Nat.le_of_ble_eq_true rfl⟩) hS (fun q _ h => hFc q h) hFc (fun r2 u t H1 locs ht hvm hw hB hz1 hk1 hS => ?_)
  obtain ⟨hP, hD, hK⟩ := kJ (wr := []) (w1 := [(mo, .inr (19, [.int 0, .int 0, .int 0, .int 0, .int 0, .int 0, .int 0, .ref ti, .ref si, .ref lo, .ref lh, .ref lk, .ref sp, .ref st, .ref pa, .ref br, .ref sg, .int 0, .int 0, .int 0, .int 0, .int 0, .int 0, .long 0, .long 0, .long 0, .long 0, .int 1]))]) (t1 := []) hP hD hK [0] [] rfl rfl (by decide) (by decide) hk1 hFc ht hvm hB
  generalize H1 = H at hP hS ⊢
  have hP : va_P (dC, dI) vwCl [(mo, .inr (19, [.int 0, .int 0, .int 0, .int 0, .int 0, .int 0, .int 0, .ref ti, .ref si, .ref lo, .ref lh, .ref lk, .ref sp, .ref st, .ref pa, .ref br, .ref sg, .int 0, .int 0, .int 0, .int 0, .int 0, .int 0, .long 0, .long 0, .long 0, .long 0, .int 1]))] H := hP
  have hD : va_D A [(mo, .inr (19, [.int 0, .int 0, .int 0, .int 0, .int 0, .int 0, .int 0, .ref ti, .ref si, .ref lo, .ref lh, .ref lk, .ref sp, .ref st, .ref pa, .ref br, .ref sg, .int 0, .int 0, .int 0, .int 0, .int 0, .int 0, .long 0, .long 0, .long 0, .long 0, .int 1]))] := hD
  have hK : va_K (dC, dI) vwCl [(cM, .object RX4), (co, .long)] s := hK
  obtain rfl : 0 = r2 := hw
  refine lv_istore (lv' := [(7, .int 0), (6, .int 1), (0, .ref b), (1, .ref x), (2, .ref mo), (3, .ref ou), (4, .ref od_), (5, .int 0)]) hx hb dL_law_1343 hl (by decide) rfl (fun ls hl => ?_)
  refine lv_aload_n hx hb dL_law_1345 rfl (lv_at hl 4 rfl) ?_
  have hPc := hP.sub (ws' := [(mo, .inr (19, [.int 0, .int 0, .int 0, .int 0, .int 0, .int 0, .int 0, .ref ti, .ref si, .ref lo, .ref lh, .ref lk, .ref sp, .ref st, .ref pa, .ref br, .ref sg, .int 0, .int 0, .int 0, .int 0, .int 0, .int 0, .long 0, .long 0, .long 0, .long 0, .int 1]))]) [0] rfl
  have hDc := hD.sub (ws' := [(mo, .inr (19, [.int 0, .int 0, .int 0, .int 0, .int 0, .int 0, .int 0, .ref ti, .ref si, .ref lo, .ref lh, .ref lk, .ref sp, .ref st, .ref pa, .ref br, .ref sg, .int 0, .int 0, .int 0, .int 0, .int 0, .int 0, .long 0, .long 0, .long 0, .long 0, .int 1]))]) [0] (by decide) rfl
  have hKc := hK.sub (tys' := []) [] rfl
  have hFc := va_free (wc := [(mo, .inr (19, [.int 0, .int 0, .int 0, .int 0, .int 0, .int 0, .int 0, .ref ti, .ref si, .ref lo, .ref lh, .ref lk, .ref sp, .ref st, .ref pa, .ref br, .ref sg, .int 0, .int 0, .int 0, .int 0, .int 0, .int 0, .long 0, .long 0, .long 0, .long 0, .int 1]))]) hD hS hA [0] rfl
  refine va_calli (va_runV (As := []) (rest := []) ⟨hx, hb, hml, hown, hts⟩ (k_m_thrown l dC dI z zK zV mo ti si lo lh lk sp st pa br sg 0 0 0 0 0 0 0 0 0 0 0 0 0 0 0 0 0 1 H.size) (cwV 0 hts hL_X15_thrown_100 rfl rfl rfl (by decide +kernel) ⟨Nat.le_of_ble_eq_true rfl, Nat.le_of_ble_eq_true rfl⟩) ⟨kP_blind, va_recv hKc hPc (ci := 19) (q0 := 0) rfl rfl, kP_go hPc hKc hDc hFc hM hS⟩ rfl rfl hl.1 rfl (lv_room (Nat.le_of_ble_eq_true rfl)) dL_law_1346 ⟨Nat.le_of_ble_eq_true rfl, Nat.le_of_ble_eq_true rfl⟩) hS (fun q _ h => hFc q h) hFc (fun r3 u t H1 locs ht hvm hw hB hz1 hk1 hS => ?_)
  obtain ⟨hP, hD, hK⟩ := kJ (wr := []) (w1 := [(mo, .inr (19, [.int 0, .int 0, .int 0, .int 0, .int 0, .int 0, .int 0, .ref ti, .ref si, .ref lo, .ref lh, .ref lk, .ref sp, .ref st, .ref pa, .ref br, .ref sg, .int 0, .int 0, .int 0, .int 0, .int 0, .int 0, .long 0, .long 0, .long 0, .long 0, .int 1]))]) (t1 := []) hP hD hK [0] [] rfl rfl (by decide) (by decide) hk1 hFc ht hvm hB
  generalize H1 = H at hP hS ⊢
  have hP : va_P (dC, dI) vwCl [(mo, .inr (19, [.int 0, .int 0, .int 0, .int 0, .int 0, .int 0, .int 0, .ref ti, .ref si, .ref lo, .ref lh, .ref lk, .ref sp, .ref st, .ref pa, .ref br, .ref sg, .int 0, .int 0, .int 0, .int 0, .int 0, .int 0, .long 0, .long 0, .long 0, .long 0, .int 1]))] H := hP
  have hD : va_D A [(mo, .inr (19, [.int 0, .int 0, .int 0, .int 0, .int 0, .int 0, .int 0, .ref ti, .ref si, .ref lo, .ref lh, .ref lk, .ref sp, .ref st, .ref pa, .ref br, .ref sg, .int 0, .int 0, .int 0, .int 0, .int 0, .int 0, .long 0, .long 0, .long 0, .long 0, .int 1]))] := hD
  have hK : va_K (dC, dI) vwCl [(cM, .object RX4), (co, .long)] s := hK
  obtain rfl : 1 = r3 := hw
  refine lv_iload hx hb dL_law_1349 (lv_at hl 1 rfl) ?_
  refine lv_icmp_eq (tgt := 1356) hx hb dL_law_1351 (by decide) (fun c4 => ?_) (fun c4 => ?_)
  · skip
    refine lv_iload hx hb dL_law_1356 (lv_at hl 1 rfl) ?_
    refine lv_if_ne (tgt := 1380) hx hb dL_law_1358 (by decide) (fun _ => ?_) (fun c_ => absurd c_ (by decide +kernel))
    refine lv_goto (tgt := 1684) hx hb dL_law_1380 (by decide) ?_
    exact la_tail hst C0 hA hAl H locs hS ls (lv_sub hl [2, 7] rfl) (by omega) (by omega)
  · skip
    refine lv_iconst (v := 0) hx hb dL_law_1354 (by decide) ?_
    @RET 0 1355 ireturn
set_option maxHeartbeats 8000000 in
set_option maxRecDepth 100000 in
theorem la_watch {p : Program} {l : Launch} {e : Env} {s : State} {m : MethodId} {below : List Frame} {meth : Method} {c : Code} {dC : Nat → ClassId} {dI : Nat → Nat → Nat} {z zK zV : Nat → Nat} {b : Nat} {xs : Nat → Int32} {A : Nat → Prop} (hst : l.stackTraces = false) (C0 : lw_At p s m meth c b 4 xs) (hM : am z zK zV A s s.heap) (hA : ∀ q : Nat, s.heap.size ≤ q → A q) (hAl : ∀ q : Nat, A q → s.heap.size ≤ q) (sh : Nat) (rg : Nat) (dk : Nat) (w0 : Nat) (w1 : Nat) (ol : Nat) (hd : Nat) (lg : Nat) (pl : Nat) (pr : Nat) (x : Nat) (tl : Nat) (tw : Nat) (mo : Nat) (ti : Nat) (si : Nat) (lo : Nat) (lh : Nat) (lk : Nat) (sp : Nat) (st : Nat) (pa : Nat) (br : Nat) (sg : Nat) (ou : Nat) (od_ : Nat)   (H : Heap) (locs : List Loc) (hK : va_K (dC, dI) vwCl [] s) (hP : va_P (dC, dI) vwCl [(x, .inr (15, [.ref sh, .ref tl, .ref tw, .int 0])), (sh, .inr (13, [.ref rg, .ref dk, .ref hd, .ref lg, .ref pl, .ref pr, .int 0, .int 0, .int 0, .int 0, .int 0, .int 0, .int 0, .int 0, .int 0, .int 0, .int 0])), (dk, .inr (4, [.ref w0, .ref w1, .ref ol, .int 0, .int 0, .int 0, .int 0])), (mo, .inr (19, [.int 0, .int 0, .int 0, .int 0, .int 0, .int 0, .int 0, .ref ti, .ref si, .ref lo, .ref lh, .ref lk, .ref sp, .ref st, .ref pa, .ref br, .ref sg, .int 0, .int 0, .int 0, .int 0, .int 0, .int 0, .long 0, .long 0, .long 0, .long 0, .int 0]))] H) (hD : va_D A [(x, .inr (15, [.ref sh, .ref tl, .ref tw, .int 0])), (sh, .inr (13, [.ref rg, .ref dk, .ref hd, .ref lg, .ref pl, .ref pr, .int 0, .int 0, .int 0, .int 0, .int 0, .int 0, .int 0, .int 0, .int 0, .int 0, .int 0])), (dk, .inr (4, [.ref w0, .ref w1, .ref ol, .int 0, .int 0, .int 0, .int 0])), (mo, .inr (19, [.int 0, .int 0, .int 0, .int 0, .int 0, .int 0, .int 0, .ref ti, .ref si, .ref lo, .ref lh, .ref lk, .ref sp, .ref st, .ref pa, .ref br, .ref sg, .int 0, .int 0, .int 0, .int 0, .int 0, .int 0, .long 0, .long 0, .long 0, .long 0, .int 0]))]) (hS : va_S A s.heap H locs) (ls : Array Slot) (hl : lv_has ls 10 [(0, .ref b), (1, .ref x), (2, .ref mo), (3, .ref ou), (4, .ref od_), (5, .int 0)]) : W p l e room_1 s m #[Value.ref b] below meth c H locs 100 1400 (lw_Z below #[Value.ref b] s) (F0 m 638 ls []) := by
  obtain ⟨hx, hb, hr, hml, hown, hts, hX, hbl, hlocks, hgv⟩ := id C0
  have hbA : ¬ A b := fun h => absurd (hAl b h) (Nat.not_le.mpr hbl)
  refine lv_aload_n hx hb dL_law_638 rfl (lv_at hl 1 rfl) ?_
  have hPc := hP.sub (ws' := [(x, .inr (15, [.ref sh, .ref tl, .ref tw, .int 0])), (sh, .inr (13, [.ref rg, .ref dk, .ref hd, .ref lg, .ref pl, .ref pr, .int 0, .int 0, .int 0, .int 0, .int 0, .int 0, .int 0, .int 0, .int 0, .int 0, .int 0])), (dk, .inr (4, [.ref w0, .ref w1, .ref ol, .int 0, .int 0, .int 0, .int 0]))]) [0, 1, 2] rfl
  have hDc := hD.sub (ws' := [(x, .inr (15, [.ref sh, .ref tl, .ref tw, .int 0])), (sh, .inr (13, [.ref rg, .ref dk, .ref hd, .ref lg, .ref pl, .ref pr, .int 0, .int 0, .int 0, .int 0, .int 0, .int 0, .int 0, .int 0, .int 0, .int 0, .int 0])), (dk, .inr (4, [.ref w0, .ref w1, .ref ol, .int 0, .int 0, .int 0, .int 0]))]) [0, 1, 2] (by decide) rfl
  have hKc := hK.sub (tys' := []) [] rfl
  have hFc := va_free (wc := [(x, .inr (15, [.ref sh, .ref tl, .ref tw, .int 0])), (sh, .inr (13, [.ref rg, .ref dk, .ref hd, .ref lg, .ref pl, .ref pr, .int 0, .int 0, .int 0, .int 0, .int 0, .int 0, .int 0, .int 0, .int 0, .int 0, .int 0])), (dk, .inr (4, [.ref w0, .ref w1, .ref ol, .int 0, .int 0, .int 0, .int 0]))]) hD hS hA [0, 1, 2] rfl
  refine va_calli (va_runV (As := []) (rest := []) ⟨hx, hb, hml, hown, hts⟩ (k_x_watch l dC dI z zK zV sh rg dk w0 w1 ol hd lg pl pr x tl tw H.size) (cwV 0 hts hL_X11_watch_125 rfl rfl rfl (by decide +kernel) ⟨Nat.le_of_ble_eq_true rfl, Nat.le_of_ble_eq_true rfl⟩) ⟨kP_blind, va_recv hKc hPc (ci := 15) (q0 := 0) rfl rfl, kP_go hPc hKc hDc hFc hM hS⟩ rfl rfl hl.1 rfl (lv_room (Nat.le_of_ble_eq_true rfl)) dL_law_639 ⟨Nat.le_of_ble_eq_true rfl, Nat.le_of_ble_eq_true rfl⟩) hS (fun q _ h => hFc q h) hFc (fun r1 u t H1 locs ht hvm hw hB hz1 hk1 hS => ?_)
  obtain ⟨hP, hD, hK⟩ := kJ (wr := [(mo, .inr (19, [.int 0, .int 0, .int 0, .int 0, .int 0, .int 0, .int 0, .ref ti, .ref si, .ref lo, .ref lh, .ref lk, .ref sp, .ref st, .ref pa, .ref br, .ref sg, .int 0, .int 0, .int 0, .int 0, .int 0, .int 0, .long 0, .long 0, .long 0, .long 0, .int 0]))]) (w1 := []) (t1 := []) hP hD hK [0, 1, 2] [3] rfl rfl (by decide) (by decide) hk1 hFc ht hvm hB
  generalize H1 = H at hP hS ⊢
  have hP : va_P (dC, dI) vwCl [(mo, .inr (19, [.int 0, .int 0, .int 0, .int 0, .int 0, .int 0, .int 0, .ref ti, .ref si, .ref lo, .ref lh, .ref lk, .ref sp, .ref st, .ref pa, .ref br, .ref sg, .int 0, .int 0, .int 0, .int 0, .int 0, .int 0, .long 0, .long 0, .long 0, .long 0, .int 0]))] H := hP
  have hD : va_D A [(mo, .inr (19, [.int 0, .int 0, .int 0, .int 0, .int 0, .int 0, .int 0, .ref ti, .ref si, .ref lo, .ref lh, .ref lk, .ref sp, .ref st, .ref pa, .ref br, .ref sg, .int 0, .int 0, .int 0, .int 0, .int 0, .int 0, .long 0, .long 0, .long 0, .long 0, .int 0]))] := hD
  have hK : va_K (dC, dI) vwCl [] s := hK
  obtain rfl : 0 = r1 := hw
  refine lv_aload_n hx hb dL_law_642 rfl (lv_at hl 2 rfl) ?_
  have hPc := hP.sub (ws' := [(mo, .inr (19, [.int 0, .int 0, .int 0, .int 0, .int 0, .int 0, .int 0, .ref ti, .ref si, .ref lo, .ref lh, .ref lk, .ref sp, .ref st, .ref pa, .ref br, .ref sg, .int 0, .int 0, .int 0, .int 0, .int 0, .int 0, .long 0, .long 0, .long 0, .long 0, .int 0]))]) [0] rfl
  have hDc := hD.sub (ws' := [(mo, .inr (19, [.int 0, .int 0, .int 0, .int 0, .int 0, .int 0, .int 0, .ref ti, .ref si, .ref lo, .ref lh, .ref lk, .ref sp, .ref st, .ref pa, .ref br, .ref sg, .int 0, .int 0, .int 0, .int 0, .int 0, .int 0, .long 0, .long 0, .long 0, .long 0, .int 0]))]) [0] (by decide) rfl
  have hKc := hK.sub (tys' := []) [] rfl
  have hFc := va_free (wc := [(mo, .inr (19, [.int 0, .int 0, .int 0, .int 0, .int 0, .int 0, .int 0, .ref ti, .ref si, .ref lo, .ref lh, .ref lk, .ref sp, .ref st, .ref pa, .ref br, .ref sg, .int 0, .int 0, .int 0, .int 0, .int 0, .int 0, .long 0, .long 0, .long 0, .long 0, .int 0]))]) hD hS hA [0] rfl
  refine va_calli (va_runV (As := []) (rest := [.int 0]) ⟨hx, hb, hml, hown, hts⟩ (k_m_watch l dC dI z zK zV mo ti si lo lh lk sp st pa br sg 0 H.size) (cwV 0 hts hL_X15_watch_128 rfl rfl rfl (by decide +kernel) ⟨Nat.le_of_ble_eq_true rfl, Nat.le_of_ble_eq_true rfl⟩) ⟨kP_blind, va_recv hKc hPc (ci := 19) (q0 := 0) rfl rfl, kP_go hPc hKc hDc hFc hM hS⟩ rfl rfl hl.1 rfl (lv_room (Nat.le_of_ble_eq_true rfl)) dL_law_643 ⟨Nat.le_of_ble_eq_true rfl, Nat.le_of_ble_eq_true rfl⟩) hS (fun q _ h => hFc q h) hFc (fun r2 u t H1 locs ht hvm hw hB hz1 hk1 hS => ?_)
  obtain ⟨hP, hD, hK⟩ := kJ (wr := []) (w1 := [(mo, .inr (19, [.int 0, .int 0, .int 0, .int 0, .int 0, .int 0, .int 0, .ref ti, .ref si, .ref lo, .ref lh, .ref lk, .ref sp, .ref st, .ref pa, .ref br, .ref sg, .int 0, .int 0, .int 0, .int 0, .int 0, .int 0, .long 0, .long 0, .long 0, .long 0, .int 0]))]) (t1 := []) hP hD hK [0] [] rfl rfl (by decide) (by decide) hk1 hFc ht hvm hB
  generalize H1 = H at hP hS ⊢
  have hP : va_P (dC, dI) vwCl [(mo, .inr (19, [.int 0, .int 0, .int 0, .int 0, .int 0, .int 0, .int 0, .ref ti, .ref si, .ref lo, .ref lh, .ref lk, .ref sp, .ref st, .ref pa, .ref br, .ref sg, .int 0, .int 0, .int 0, .int 0, .int 0, .int 0, .long 0, .long 0, .long 0, .long 0, .int 0]))] H := hP
  have hD : va_D A [(mo, .inr (19, [.int 0, .int 0, .int 0, .int 0, .int 0, .int 0, .int 0, .ref ti, .ref si, .ref lo, .ref lh, .ref lk, .ref sp, .ref st, .ref pa, .ref br, .ref sg, .int 0, .int 0, .int 0, .int 0, .int 0, .int 0, .long 0, .long 0, .long 0, .long 0, .int 0]))] := hD
  have hK : va_K (dC, dI) vwCl [] s := hK
  obtain rfl : 0 = r2 := hw
  refine lv_icmp_eq (tgt := 1684) hx hb dL_law_646 (by decide) (fun _ => ?_) (fun c_ => absurd (by decide +kernel) c_)
  exact la_tail hst C0 hA hAl H locs hS ls (lv_sub hl [0, 5] rfl) (by omega) (by omega)
set_option maxHeartbeats 8000000 in
set_option maxRecDepth 100000 in
theorem la_free {p : Program} {l : Launch} {e : Env} {s : State} {m : MethodId} {below : List Frame} {meth : Method} {c : Code} {dC : Nat → ClassId} {dI : Nat → Nat → Nat} {z zK zV : Nat → Nat} {b : Nat} {xs : Nat → Int32} {A : Nat → Prop} (hst : l.stackTraces = false) (C0 : lw_At p s m meth c b 4 xs) (hM : am z zK zV A s s.heap) (hA : ∀ q : Nat, s.heap.size ≤ q → A q) (hAl : ∀ q : Nat, A q → s.heap.size ≤ q) (sh : Nat) (rg : Nat) (dk : Nat) (w0 : Nat) (w1 : Nat) (ol : Nat) (hd : Nat) (lg : Nat) (pl : Nat) (pr : Nat) (x : Nat) (tl : Nat) (tw : Nat) (mo : Nat) (ti : Nat) (si : Nat) (lo : Nat) (lh : Nat) (lk : Nat) (sp : Nat) (st : Nat) (pa : Nat) (br : Nat) (sg : Nat) (csi : ClassId) (ou : Nat) (od_ : Nat)   (H : Heap) (locs : List Loc) (hK : va_K (dC, dI) vwCl [(csi, .int)] s) (hP : va_P (dC, dI) vwCl [(x, .inr (15, [.ref sh, .ref tl, .ref tw, .int 0])), (sh, .inr (13, [.ref rg, .ref dk, .ref hd, .ref lg, .ref pl, .ref pr, .int 0, .int 0, .int 0, .int 0, .int 0, .int 0, .int 0, .int 0, .int 0, .int 0, .int 0])), (dk, .inr (4, [.ref w0, .ref w1, .ref ol, .int 0, .int 0, .int 0, .int 0])), (w0, .inr (14, [.int 0, .int 0])), (mo, .inr (19, [.int 0, .int 0, .int 0, .int 0, .int 0, .int 0, .int 0, .ref ti, .ref si, .ref lo, .ref lh, .ref lk, .ref sp, .ref st, .ref pa, .ref br, .ref sg, .int 0, .int 0, .int 0, .int 0, .int 0, .int 0, .long 0, .long 0, .long 0, .long 0, .int 0])), (si, .inl (csi, 2, .inl (fun _ => 0))), (lo, .inr (3, [.int 0, .ref (z 0), .int 0]))] H) (hD : va_D A [(x, .inr (15, [.ref sh, .ref tl, .ref tw, .int 0])), (sh, .inr (13, [.ref rg, .ref dk, .ref hd, .ref lg, .ref pl, .ref pr, .int 0, .int 0, .int 0, .int 0, .int 0, .int 0, .int 0, .int 0, .int 0, .int 0, .int 0])), (dk, .inr (4, [.ref w0, .ref w1, .ref ol, .int 0, .int 0, .int 0, .int 0])), (w0, .inr (14, [.int 0, .int 0])), (mo, .inr (19, [.int 0, .int 0, .int 0, .int 0, .int 0, .int 0, .int 0, .ref ti, .ref si, .ref lo, .ref lh, .ref lk, .ref sp, .ref st, .ref pa, .ref br, .ref sg, .int 0, .int 0, .int 0, .int 0, .int 0, .int 0, .long 0, .long 0, .long 0, .long 0, .int 0])), (si, .inl (csi, 2, .inl (fun _ => 0))), (lo, .inr (3, [.int 0, .ref (z 0), .int 0]))]) (hS : va_S A s.heap H locs) (ls : Array Slot) (hl : lv_has ls 10 [(0, .ref b), (1, .ref x), (2, .ref mo), (3, .ref ou), (4, .ref od_), (5, .int 0)]) : W p l e room_1 s m #[Value.ref b] below meth c H locs 100 1400 (lw_Z below #[Value.ref b] s) (F0 m 651 ls []) := by
  obtain ⟨hx, hb, hr, hml, hown, hts, hX, hbl, hlocks, hgv⟩ := id C0
  have hbA : ¬ A b := fun h => absurd (hAl b h) (Nat.not_le.mpr hbl)
  refine lv_aload_n hx hb dL_law_651 rfl (lv_at hl 1 rfl) ?_
  have hPc := hP.sub (ws' := [(x, .inr (15, [.ref sh, .ref tl, .ref tw, .int 0])), (sh, .inr (13, [.ref rg, .ref dk, .ref hd, .ref lg, .ref pl, .ref pr, .int 0, .int 0, .int 0, .int 0, .int 0, .int 0, .int 0, .int 0, .int 0, .int 0, .int 0])), (dk, .inr (4, [.ref w0, .ref w1, .ref ol, .int 0, .int 0, .int 0, .int 0])), (w0, .inr (14, [.int 0, .int 0]))]) [0, 1, 2, 3] rfl
  have hDc := hD.sub (ws' := [(x, .inr (15, [.ref sh, .ref tl, .ref tw, .int 0])), (sh, .inr (13, [.ref rg, .ref dk, .ref hd, .ref lg, .ref pl, .ref pr, .int 0, .int 0, .int 0, .int 0, .int 0, .int 0, .int 0, .int 0, .int 0, .int 0, .int 0])), (dk, .inr (4, [.ref w0, .ref w1, .ref ol, .int 0, .int 0, .int 0, .int 0])), (w0, .inr (14, [.int 0, .int 0]))]) [0, 1, 2, 3] (by decide) rfl
  have hKc := hK.sub (tys' := []) [] rfl
  have hFc := va_free (wc := [(x, .inr (15, [.ref sh, .ref tl, .ref tw, .int 0])), (sh, .inr (13, [.ref rg, .ref dk, .ref hd, .ref lg, .ref pl, .ref pr, .int 0, .int 0, .int 0, .int 0, .int 0, .int 0, .int 0, .int 0, .int 0, .int 0, .int 0])), (dk, .inr (4, [.ref w0, .ref w1, .ref ol, .int 0, .int 0, .int 0, .int 0])), (w0, .inr (14, [.int 0, .int 0]))]) hD hS hA [0, 1, 2, 3] rfl
  refine va_calli (va_runV (As := []) (rest := []) ⟨hx, hb, hml, hown, hts⟩ (k_x_free l dC dI z zK zV sh rg dk w0 w1 ol hd lg pl pr x tl tw H.size) (cwV 0 hts hL_X11_free_129 rfl rfl rfl (by decide +kernel) ⟨Nat.le_of_ble_eq_true rfl, Nat.le_of_ble_eq_true rfl⟩) ⟨kP_blind, va_recv hKc hPc (ci := 15) (q0 := 0) rfl rfl, kP_go hPc hKc hDc hFc hM hS⟩ rfl rfl hl.1 rfl (lv_room (Nat.le_of_ble_eq_true rfl)) dL_law_652 ⟨Nat.le_of_ble_eq_true rfl, Nat.le_of_ble_eq_true rfl⟩) hS (fun q _ h => hFc q h) hFc (fun r1 u t H1 locs ht hvm hw hB hz1 hk1 hS => ?_)
  obtain ⟨hP, hD, hK⟩ := kJ (wr := [(mo, .inr (19, [.int 0, .int 0, .int 0, .int 0, .int 0, .int 0, .int 0, .ref ti, .ref si, .ref lo, .ref lh, .ref lk, .ref sp, .ref st, .ref pa, .ref br, .ref sg, .int 0, .int 0, .int 0, .int 0, .int 0, .int 0, .long 0, .long 0, .long 0, .long 0, .int 0])), (si, .inl (csi, 2, .inl (fun _ => 0))), (lo, .inr (3, [.int 0, .ref (z 0), .int 0]))]) (w1 := []) (t1 := []) hP hD hK [0, 1, 2, 3] [4, 5, 6] rfl rfl (by decide) (by decide) hk1 hFc ht hvm hB
  generalize H1 = H at hP hS ⊢
  have hP : va_P (dC, dI) vwCl [(mo, .inr (19, [.int 0, .int 0, .int 0, .int 0, .int 0, .int 0, .int 0, .ref ti, .ref si, .ref lo, .ref lh, .ref lk, .ref sp, .ref st, .ref pa, .ref br, .ref sg, .int 0, .int 0, .int 0, .int 0, .int 0, .int 0, .long 0, .long 0, .long 0, .long 0, .int 0])), (si, .inl (csi, 2, .inl (fun _ => 0))), (lo, .inr (3, [.int 0, .ref (z 0), .int 0]))] H := hP
  have hD : va_D A [(mo, .inr (19, [.int 0, .int 0, .int 0, .int 0, .int 0, .int 0, .int 0, .ref ti, .ref si, .ref lo, .ref lh, .ref lk, .ref sp, .ref st, .ref pa, .ref br, .ref sg, .int 0, .int 0, .int 0, .int 0, .int 0, .int 0, .long 0, .long 0, .long 0, .long 0, .int 0])), (si, .inl (csi, 2, .inl (fun _ => 0))), (lo, .inr (3, [.int 0, .ref (z 0), .int 0]))] := hD
  have hK : va_K (dC, dI) vwCl [(csi, .int)] s := hK
  obtain rfl : 12 = r1 := hw
  refine lv_aload_n hx hb dL_law_655 rfl (lv_at hl 2 rfl) ?_
  have hPc := hP.sub (ws' := [(mo, .inr (19, [.int 0, .int 0, .int 0, .int 0, .int 0, .int 0, .int 0, .ref ti, .ref si, .ref lo, .ref lh, .ref lk, .ref sp, .ref st, .ref pa, .ref br, .ref sg, .int 0, .int 0, .int 0, .int 0, .int 0, .int 0, .long 0, .long 0, .long 0, .long 0, .int 0])), (si, .inl (csi, 2, .inl (fun _ => 0))), (lo, .inr (3, [.int 0, .ref (z 0), .int 0]))]) [0, 1, 2] rfl
  have hDc := hD.sub (ws' := [(mo, .inr (19, [.int 0, .int 0, .int 0, .int 0, .int 0, .int 0, .int 0, .ref ti, .ref si, .ref lo, .ref lh, .ref lk, .ref sp, .ref st, .ref pa, .ref br, .ref sg, .int 0, .int 0, .int 0, .int 0, .int 0, .int 0, .long 0, .long 0, .long 0, .long 0, .int 0])), (si, .inl (csi, 2, .inl (fun _ => 0))), (lo, .inr (3, [.int 0, .ref (z 0), .int 0]))]) [0, 1, 2] (by decide) rfl
  have hKc := hK.sub (tys' := [(csi, .int)]) [0] rfl
  have hFc := va_free (wc := [(mo, .inr (19, [.int 0, .int 0, .int 0, .int 0, .int 0, .int 0, .int 0, .ref ti, .ref si, .ref lo, .ref lh, .ref lk, .ref sp, .ref st, .ref pa, .ref br, .ref sg, .int 0, .int 0, .int 0, .int 0, .int 0, .int 0, .long 0, .long 0, .long 0, .long 0, .int 0])), (si, .inl (csi, 2, .inl (fun _ => 0))), (lo, .inr (3, [.int 0, .ref (z 0), .int 0]))]) hD hS hA [0, 1, 2] rfl
  refine va_calli (va_runV (As := []) (rest := [.int 12]) ⟨hx, hb, hml, hown, hts⟩ (k_m_free l dC dI z zK zV mo ti si lo lh lk sp st pa br sg csi 0 H.size) (cwV 0 hts hL_X15_free_132 rfl rfl rfl (by decide +kernel) ⟨Nat.le_of_ble_eq_true rfl, Nat.le_of_ble_eq_true rfl⟩) ⟨kP_blind, va_recv hKc hPc (ci := 19) (q0 := 0) rfl rfl, kP_go hPc hKc hDc hFc hM hS⟩ rfl rfl hl.1 rfl (lv_room (Nat.le_of_ble_eq_true rfl)) dL_law_656 ⟨Nat.le_of_ble_eq_true rfl, Nat.le_of_ble_eq_true rfl⟩) hS (fun q _ h => hFc q h) hFc (fun r2 u t H1 locs ht hvm hw hB hz1 hk1 hS => ?_)
  obtain ⟨hP, hD, hK⟩ := kJ (wr := []) (w1 := [(mo, .inr (19, [.int 0, .int 0, .int 0, .int 0, .int 0, .int 0, .int 0, .ref ti, .ref si, .ref lo, .ref lh, .ref lk, .ref sp, .ref st, .ref pa, .ref br, .ref sg, .int 0, .int 0, .int 0, .int 0, .int 0, .int 0, .long 0, .long 0, .long 0, .long 0, .int 0]))]) (t1 := []) hP hD hK [0, 1, 2] [] rfl rfl (by decide) (by decide) hk1 hFc ht hvm hB
  generalize H1 = H at hP hS ⊢
  have hP : va_P (dC, dI) vwCl [(mo, .inr (19, [.int 0, .int 0, .int 0, .int 0, .int 0, .int 0, .int 0, .ref ti, .ref si, .ref lo, .ref lh, .ref lk, .ref sp, .ref st, .ref pa, .ref br, .ref sg, .int 0, .int 0, .int 0, .int 0, .int 0, .int 0, .long 0, .long 0, .long 0, .long 0, .int 0]))] H := hP
  have hD : va_D A [(mo, .inr (19, [.int 0, .int 0, .int 0, .int 0, .int 0, .int 0, .int 0, .ref ti, .ref si, .ref lo, .ref lh, .ref lk, .ref sp, .ref st, .ref pa, .ref br, .ref sg, .int 0, .int 0, .int 0, .int 0, .int 0, .int 0, .long 0, .long 0, .long 0, .long 0, .int 0]))] := hD
  have hK : va_K (dC, dI) vwCl [(csi, .int)] s := hK
  obtain rfl : 12 = r2 := hw
  refine lv_icmp_eq (tgt := 1684) hx hb dL_law_659 (by decide) (fun _ => ?_) (fun c_ => absurd (by decide +kernel) c_)
  exact la_tail hst C0 hA hAl H locs hS ls (lv_sub hl [0, 5] rfl) (by omega) (by omega)
set_option maxHeartbeats 8000000 in
set_option maxRecDepth 100000 in
theorem la_minute {p : Program} {l : Launch} {e : Env} {s : State} {m : MethodId} {below : List Frame} {meth : Method} {c : Code} {dC : Nat → ClassId} {dI : Nat → Nat → Nat} {z zK zV : Nat → Nat} {b : Nat} {xs : Nat → Int32} {A : Nat → Prop} (hst : l.stackTraces = false) (C0 : lw_At p s m meth c b 4 xs) (hM : am z zK zV A s s.heap) (hA : ∀ q : Nat, s.heap.size ≤ q → A q) (hAl : ∀ q : Nat, A q → s.heap.size ≤ q) (sh : Nat) (rg : Nat) (dk : Nat) (hd : Nat) (lg : Nat) (pl : Nat) (pr : Nat) (x : Nat) (tl : Nat) (tw : Nat) (mo : Nat) (ti : Nat) (si : Nat) (lo : Nat) (lh : Nat) (lk : Nat) (sp : Nat) (st : Nat) (pa : Nat) (br : Nat) (sg : Nat) (ou : Nat) (od_ : Nat)   (H : Heap) (locs : List Loc) (hK : va_K (dC, dI) vwCl [] s) (hP : va_P (dC, dI) vwCl [(x, .inr (15, [.ref sh, .ref tl, .ref tw, .int 0])), (sh, .inr (13, [.ref rg, .ref dk, .ref hd, .ref lg, .ref pl, .ref pr, .int 0, .int 0, .int 0, .int 0, .int 0, .int 0, .int 0, .int 0, .int 0, .int 0, .int 0])), (mo, .inr (19, [.int 0, .int 0, .int 0, .int 0, .int 0, .int 0, .int 0, .ref ti, .ref si, .ref lo, .ref lh, .ref lk, .ref sp, .ref st, .ref pa, .ref br, .ref sg, .int 0, .int 0, .int 0, .int 0, .int 0, .int 0, .long 0, .long 0, .long 0, .long 0, .int 0]))] H) (hD : va_D A [(x, .inr (15, [.ref sh, .ref tl, .ref tw, .int 0])), (sh, .inr (13, [.ref rg, .ref dk, .ref hd, .ref lg, .ref pl, .ref pr, .int 0, .int 0, .int 0, .int 0, .int 0, .int 0, .int 0, .int 0, .int 0, .int 0, .int 0])), (mo, .inr (19, [.int 0, .int 0, .int 0, .int 0, .int 0, .int 0, .int 0, .ref ti, .ref si, .ref lo, .ref lh, .ref lk, .ref sp, .ref st, .ref pa, .ref br, .ref sg, .int 0, .int 0, .int 0, .int 0, .int 0, .int 0, .long 0, .long 0, .long 0, .long 0, .int 0]))]) (hS : va_S A s.heap H locs) (ls : Array Slot) (hl : lv_has ls 10 [(0, .ref b), (1, .ref x), (2, .ref mo), (3, .ref ou), (4, .ref od_), (5, .int 0)]) : W p l e room_1 s m #[Value.ref b] below meth c H locs 100 1400 (lw_Z below #[Value.ref b] s) (F0 m 1016 ls []) := by
  obtain ⟨hx, hb, hr, hml, hown, hts, hX, hbl, hlocks, hgv⟩ := id C0
  have hbA : ¬ A b := fun h => absurd (hAl b h) (Nat.not_le.mpr hbl)
  refine lv_aload_n hx hb dL_law_1016 rfl (lv_at hl 1 rfl) ?_
  have hPc := hP.sub (ws' := [(x, .inr (15, [.ref sh, .ref tl, .ref tw, .int 0])), (sh, .inr (13, [.ref rg, .ref dk, .ref hd, .ref lg, .ref pl, .ref pr, .int 0, .int 0, .int 0, .int 0, .int 0, .int 0, .int 0, .int 0, .int 0, .int 0, .int 0]))]) [0, 1] rfl
  have hDc := hD.sub (ws' := [(x, .inr (15, [.ref sh, .ref tl, .ref tw, .int 0])), (sh, .inr (13, [.ref rg, .ref dk, .ref hd, .ref lg, .ref pl, .ref pr, .int 0, .int 0, .int 0, .int 0, .int 0, .int 0, .int 0, .int 0, .int 0, .int 0, .int 0]))]) [0, 1] (by decide) rfl
  have hKc := hK.sub (tys' := []) [] rfl
  have hFc := va_free (wc := [(x, .inr (15, [.ref sh, .ref tl, .ref tw, .int 0])), (sh, .inr (13, [.ref rg, .ref dk, .ref hd, .ref lg, .ref pl, .ref pr, .int 0, .int 0, .int 0, .int 0, .int 0, .int 0, .int 0, .int 0, .int 0, .int 0, .int 0]))]) hD hS hA [0, 1] rfl
  refine va_calli (va_runV (As := []) (rest := []) ⟨hx, hb, hml, hown, hts⟩ (k_x_minute l dC dI z zK zV sh rg dk hd lg pl pr x tl tw H.size) (cwV 0 hts hL_X11_minute_153 rfl rfl rfl (by decide +kernel) ⟨Nat.le_of_ble_eq_true rfl, Nat.le_of_ble_eq_true rfl⟩) ⟨kP_blind, va_recv hKc hPc (ci := 15) (q0 := 0) rfl rfl, kP_go hPc hKc hDc hFc hM hS⟩ rfl rfl hl.1 rfl (lv_room (Nat.le_of_ble_eq_true rfl)) dL_law_1017 ⟨Nat.le_of_ble_eq_true rfl, Nat.le_of_ble_eq_true rfl⟩) hS (fun q _ h => hFc q h) hFc (fun r1 u t H1 locs ht hvm hw hB hz1 hk1 hS => ?_)
  obtain ⟨hP, hD, hK⟩ := kJ (wr := [(mo, .inr (19, [.int 0, .int 0, .int 0, .int 0, .int 0, .int 0, .int 0, .ref ti, .ref si, .ref lo, .ref lh, .ref lk, .ref sp, .ref st, .ref pa, .ref br, .ref sg, .int 0, .int 0, .int 0, .int 0, .int 0, .int 0, .long 0, .long 0, .long 0, .long 0, .int 0]))]) (w1 := []) (t1 := []) hP hD hK [0, 1] [2] rfl rfl (by decide) (by decide) hk1 hFc ht hvm hB
  generalize H1 = H at hP hS ⊢
  have hP : va_P (dC, dI) vwCl [(mo, .inr (19, [.int 0, .int 0, .int 0, .int 0, .int 0, .int 0, .int 0, .ref ti, .ref si, .ref lo, .ref lh, .ref lk, .ref sp, .ref st, .ref pa, .ref br, .ref sg, .int 0, .int 0, .int 0, .int 0, .int 0, .int 0, .long 0, .long 0, .long 0, .long 0, .int 0]))] H := hP
  have hD : va_D A [(mo, .inr (19, [.int 0, .int 0, .int 0, .int 0, .int 0, .int 0, .int 0, .ref ti, .ref si, .ref lo, .ref lh, .ref lk, .ref sp, .ref st, .ref pa, .ref br, .ref sg, .int 0, .int 0, .int 0, .int 0, .int 0, .int 0, .long 0, .long 0, .long 0, .long 0, .int 0]))] := hD
  have hK : va_K (dC, dI) vwCl [] s := hK
  obtain rfl : 0 = r1 := hw
  refine lv_aload_n hx hb dL_law_1020 rfl (lv_at hl 2 rfl) ?_
  have hPc := hP.sub (ws' := [(mo, .inr (19, [.int 0, .int 0, .int 0, .int 0, .int 0, .int 0, .int 0, .ref ti, .ref si, .ref lo, .ref lh, .ref lk, .ref sp, .ref st, .ref pa, .ref br, .ref sg, .int 0, .int 0, .int 0, .int 0, .int 0, .int 0, .long 0, .long 0, .long 0, .long 0, .int 0]))]) [0] rfl
  have hDc := hD.sub (ws' := [(mo, .inr (19, [.int 0, .int 0, .int 0, .int 0, .int 0, .int 0, .int 0, .ref ti, .ref si, .ref lo, .ref lh, .ref lk, .ref sp, .ref st, .ref pa, .ref br, .ref sg, .int 0, .int 0, .int 0, .int 0, .int 0, .int 0, .long 0, .long 0, .long 0, .long 0, .int 0]))]) [0] (by decide) rfl
  have hKc := hK.sub (tys' := []) [] rfl
  have hFc := va_free (wc := [(mo, .inr (19, [.int 0, .int 0, .int 0, .int 0, .int 0, .int 0, .int 0, .ref ti, .ref si, .ref lo, .ref lh, .ref lk, .ref sp, .ref st, .ref pa, .ref br, .ref sg, .int 0, .int 0, .int 0, .int 0, .int 0, .int 0, .long 0, .long 0, .long 0, .long 0, .int 0]))]) hD hS hA [0] rfl
  refine va_calli (va_runV (As := []) (rest := [.int 0]) ⟨hx, hb, hml, hown, hts⟩ (k_m_minute l dC dI z zK zV mo ti si lo lh lk sp st pa br sg 0 H.size) (cwV 0 hts hL_X15_minute_156 rfl rfl rfl (by decide +kernel) ⟨Nat.le_of_ble_eq_true rfl, Nat.le_of_ble_eq_true rfl⟩) ⟨kP_blind, va_recv hKc hPc (ci := 19) (q0 := 0) rfl rfl, kP_go hPc hKc hDc hFc hM hS⟩ rfl rfl hl.1 rfl (lv_room (Nat.le_of_ble_eq_true rfl)) dL_law_1021 ⟨Nat.le_of_ble_eq_true rfl, Nat.le_of_ble_eq_true rfl⟩) hS (fun q _ h => hFc q h) hFc (fun r2 u t H1 locs ht hvm hw hB hz1 hk1 hS => ?_)
  obtain ⟨hP, hD, hK⟩ := kJ (wr := []) (w1 := [(mo, .inr (19, [.int 0, .int 0, .int 0, .int 0, .int 0, .int 0, .int 0, .ref ti, .ref si, .ref lo, .ref lh, .ref lk, .ref sp, .ref st, .ref pa, .ref br, .ref sg, .int 0, .int 0, .int 0, .int 0, .int 0, .int 0, .long 0, .long 0, .long 0, .long 0, .int 0]))]) (t1 := []) hP hD hK [0] [] rfl rfl (by decide) (by decide) hk1 hFc ht hvm hB
  generalize H1 = H at hP hS ⊢
  have hP : va_P (dC, dI) vwCl [(mo, .inr (19, [.int 0, .int 0, .int 0, .int 0, .int 0, .int 0, .int 0, .ref ti, .ref si, .ref lo, .ref lh, .ref lk, .ref sp, .ref st, .ref pa, .ref br, .ref sg, .int 0, .int 0, .int 0, .int 0, .int 0, .int 0, .long 0, .long 0, .long 0, .long 0, .int 0]))] H := hP
  have hD : va_D A [(mo, .inr (19, [.int 0, .int 0, .int 0, .int 0, .int 0, .int 0, .int 0, .ref ti, .ref si, .ref lo, .ref lh, .ref lk, .ref sp, .ref st, .ref pa, .ref br, .ref sg, .int 0, .int 0, .int 0, .int 0, .int 0, .int 0, .long 0, .long 0, .long 0, .long 0, .int 0]))] := hD
  have hK : va_K (dC, dI) vwCl [] s := hK
  obtain rfl : 0 = r2 := hw
  refine lv_icmp_eq (tgt := 1684) hx hb dL_law_1024 (by decide) (fun _ => ?_) (fun c_ => absurd (by decide +kernel) c_)
  exact la_tail hst C0 hA hAl H locs hS ls (lv_sub hl [0, 5] rfl) (by omega) (by omega)
set_option maxHeartbeats 8000000 in
set_option maxRecDepth 100000 in
theorem la_heading {p : Program} {l : Launch} {e : Env} {s : State} {m : MethodId} {below : List Frame} {meth : Method} {c : Code} {dC : Nat → ClassId} {dI : Nat → Nat → Nat} {z zK zV : Nat → Nat} {b : Nat} {xs : Nat → Int32} {A : Nat → Prop} (hst : l.stackTraces = false) (C0 : lw_At p s m meth c b 4 xs) (hM : am z zK zV A s s.heap) (hA : ∀ q : Nat, s.heap.size ≤ q → A q) (hAl : ∀ q : Nat, A q → s.heap.size ≤ q) (sh : Nat) (rg : Nat) (dk : Nat) (hd : Nat) (lg : Nat) (pl : Nat) (pr : Nat) (x : Nat) (tl : Nat) (tw : Nat) (mo : Nat) (ti : Nat) (si : Nat) (lo : Nat) (lh : Nat) (lk : Nat) (sp : Nat) (st : Nat) (pa : Nat) (br : Nat) (sg : Nat) (ou : Nat) (od_ : Nat)   (H : Heap) (locs : List Loc) (hK : va_K (dC, dI) vwCl [] s) (hP : va_P (dC, dI) vwCl [(x, .inr (15, [.ref sh, .ref tl, .ref tw, .int 0])), (sh, .inr (13, [.ref rg, .ref dk, .ref hd, .ref lg, .ref pl, .ref pr, .int 0, .int 0, .int 0, .int 0, .int 0, .int 0, .int 0, .int 0, .int 0, .int 0, .int 0])), (mo, .inr (19, [.int 0, .int 0, .int 0, .int 0, .int 0, .int 0, .int 0, .ref ti, .ref si, .ref lo, .ref lh, .ref lk, .ref sp, .ref st, .ref pa, .ref br, .ref sg, .int 0, .int 0, .int 0, .int 0, .int 0, .int 0, .long 0, .long 0, .long 0, .long 0, .int 0]))] H) (hD : va_D A [(x, .inr (15, [.ref sh, .ref tl, .ref tw, .int 0])), (sh, .inr (13, [.ref rg, .ref dk, .ref hd, .ref lg, .ref pl, .ref pr, .int 0, .int 0, .int 0, .int 0, .int 0, .int 0, .int 0, .int 0, .int 0, .int 0, .int 0])), (mo, .inr (19, [.int 0, .int 0, .int 0, .int 0, .int 0, .int 0, .int 0, .ref ti, .ref si, .ref lo, .ref lh, .ref lk, .ref sp, .ref st, .ref pa, .ref br, .ref sg, .int 0, .int 0, .int 0, .int 0, .int 0, .int 0, .long 0, .long 0, .long 0, .long 0, .int 0]))]) (hS : va_S A s.heap H locs) (ls : Array Slot) (hl : lv_has ls 10 [(0, .ref b), (1, .ref x), (2, .ref mo), (3, .ref ou), (4, .ref od_), (5, .int 0)]) : W p l e room_1 s m #[Value.ref b] below meth c H locs 100 1400 (lw_Z below #[Value.ref b] s) (F0 m 1029 ls []) := by
  obtain ⟨hx, hb, hr, hml, hown, hts, hX, hbl, hlocks, hgv⟩ := id C0
  have hbA : ¬ A b := fun h => absurd (hAl b h) (Nat.not_le.mpr hbl)
  refine lv_aload_n hx hb dL_law_1029 rfl (lv_at hl 1 rfl) ?_
  have hPc := hP.sub (ws' := [(x, .inr (15, [.ref sh, .ref tl, .ref tw, .int 0])), (sh, .inr (13, [.ref rg, .ref dk, .ref hd, .ref lg, .ref pl, .ref pr, .int 0, .int 0, .int 0, .int 0, .int 0, .int 0, .int 0, .int 0, .int 0, .int 0, .int 0]))]) [0, 1] rfl
  have hDc := hD.sub (ws' := [(x, .inr (15, [.ref sh, .ref tl, .ref tw, .int 0])), (sh, .inr (13, [.ref rg, .ref dk, .ref hd, .ref lg, .ref pl, .ref pr, .int 0, .int 0, .int 0, .int 0, .int 0, .int 0, .int 0, .int 0, .int 0, .int 0, .int 0]))]) [0, 1] (by decide) rfl
  have hKc := hK.sub (tys' := []) [] rfl
  have hFc := va_free (wc := [(x, .inr (15, [.ref sh, .ref tl, .ref tw, .int 0])), (sh, .inr (13, [.ref rg, .ref dk, .ref hd, .ref lg, .ref pl, .ref pr, .int 0, .int 0, .int 0, .int 0, .int 0, .int 0, .int 0, .int 0, .int 0, .int 0, .int 0]))]) hD hS hA [0, 1] rfl
  refine va_calli (va_runV (As := []) (rest := []) ⟨hx, hb, hml, hown, hts⟩ (k_x_heading l dC dI z zK zV sh rg dk hd lg pl pr x tl tw H.size) (cwV 0 hts hL_X11_heading_157 rfl rfl rfl (by decide +kernel) ⟨Nat.le_of_ble_eq_true rfl, Nat.le_of_ble_eq_true rfl⟩) ⟨kP_blind, va_recv hKc hPc (ci := 15) (q0 := 0) rfl rfl, kP_go hPc hKc hDc hFc hM hS⟩ rfl rfl hl.1 rfl (lv_room (Nat.le_of_ble_eq_true rfl)) dL_law_1030 ⟨Nat.le_of_ble_eq_true rfl, Nat.le_of_ble_eq_true rfl⟩) hS (fun q _ h => hFc q h) hFc (fun r1 u t H1 locs ht hvm hw hB hz1 hk1 hS => ?_)
  obtain ⟨hP, hD, hK⟩ := kJ (wr := [(mo, .inr (19, [.int 0, .int 0, .int 0, .int 0, .int 0, .int 0, .int 0, .ref ti, .ref si, .ref lo, .ref lh, .ref lk, .ref sp, .ref st, .ref pa, .ref br, .ref sg, .int 0, .int 0, .int 0, .int 0, .int 0, .int 0, .long 0, .long 0, .long 0, .long 0, .int 0]))]) (w1 := []) (t1 := []) hP hD hK [0, 1] [2] rfl rfl (by decide) (by decide) hk1 hFc ht hvm hB
  generalize H1 = H at hP hS ⊢
  have hP : va_P (dC, dI) vwCl [(mo, .inr (19, [.int 0, .int 0, .int 0, .int 0, .int 0, .int 0, .int 0, .ref ti, .ref si, .ref lo, .ref lh, .ref lk, .ref sp, .ref st, .ref pa, .ref br, .ref sg, .int 0, .int 0, .int 0, .int 0, .int 0, .int 0, .long 0, .long 0, .long 0, .long 0, .int 0]))] H := hP
  have hD : va_D A [(mo, .inr (19, [.int 0, .int 0, .int 0, .int 0, .int 0, .int 0, .int 0, .ref ti, .ref si, .ref lo, .ref lh, .ref lk, .ref sp, .ref st, .ref pa, .ref br, .ref sg, .int 0, .int 0, .int 0, .int 0, .int 0, .int 0, .long 0, .long 0, .long 0, .long 0, .int 0]))] := hD
  have hK : va_K (dC, dI) vwCl [] s := hK
  obtain rfl : 0 = r1 := hw
  refine lv_aload_n hx hb dL_law_1033 rfl (lv_at hl 2 rfl) ?_
  have hPc := hP.sub (ws' := [(mo, .inr (19, [.int 0, .int 0, .int 0, .int 0, .int 0, .int 0, .int 0, .ref ti, .ref si, .ref lo, .ref lh, .ref lk, .ref sp, .ref st, .ref pa, .ref br, .ref sg, .int 0, .int 0, .int 0, .int 0, .int 0, .int 0, .long 0, .long 0, .long 0, .long 0, .int 0]))]) [0] rfl
  have hDc := hD.sub (ws' := [(mo, .inr (19, [.int 0, .int 0, .int 0, .int 0, .int 0, .int 0, .int 0, .ref ti, .ref si, .ref lo, .ref lh, .ref lk, .ref sp, .ref st, .ref pa, .ref br, .ref sg, .int 0, .int 0, .int 0, .int 0, .int 0, .int 0, .long 0, .long 0, .long 0, .long 0, .int 0]))]) [0] (by decide) rfl
  have hKc := hK.sub (tys' := []) [] rfl
  have hFc := va_free (wc := [(mo, .inr (19, [.int 0, .int 0, .int 0, .int 0, .int 0, .int 0, .int 0, .ref ti, .ref si, .ref lo, .ref lh, .ref lk, .ref sp, .ref st, .ref pa, .ref br, .ref sg, .int 0, .int 0, .int 0, .int 0, .int 0, .int 0, .long 0, .long 0, .long 0, .long 0, .int 0]))]) hD hS hA [0] rfl
  refine va_calli (va_runV (As := []) (rest := [.int 0]) ⟨hx, hb, hml, hown, hts⟩ (k_m_heading l dC dI z zK zV mo ti si lo lh lk sp st pa br sg 0 H.size) (cwV 0 hts hL_X15_heading_160 rfl rfl rfl (by decide +kernel) ⟨Nat.le_of_ble_eq_true rfl, Nat.le_of_ble_eq_true rfl⟩) ⟨kP_blind, va_recv hKc hPc (ci := 19) (q0 := 0) rfl rfl, kP_go hPc hKc hDc hFc hM hS⟩ rfl rfl hl.1 rfl (lv_room (Nat.le_of_ble_eq_true rfl)) dL_law_1034 ⟨Nat.le_of_ble_eq_true rfl, Nat.le_of_ble_eq_true rfl⟩) hS (fun q _ h => hFc q h) hFc (fun r2 u t H1 locs ht hvm hw hB hz1 hk1 hS => ?_)
  obtain ⟨hP, hD, hK⟩ := kJ (wr := []) (w1 := [(mo, .inr (19, [.int 0, .int 0, .int 0, .int 0, .int 0, .int 0, .int 0, .ref ti, .ref si, .ref lo, .ref lh, .ref lk, .ref sp, .ref st, .ref pa, .ref br, .ref sg, .int 0, .int 0, .int 0, .int 0, .int 0, .int 0, .long 0, .long 0, .long 0, .long 0, .int 0]))]) (t1 := []) hP hD hK [0] [] rfl rfl (by decide) (by decide) hk1 hFc ht hvm hB
  generalize H1 = H at hP hS ⊢
  have hP : va_P (dC, dI) vwCl [(mo, .inr (19, [.int 0, .int 0, .int 0, .int 0, .int 0, .int 0, .int 0, .ref ti, .ref si, .ref lo, .ref lh, .ref lk, .ref sp, .ref st, .ref pa, .ref br, .ref sg, .int 0, .int 0, .int 0, .int 0, .int 0, .int 0, .long 0, .long 0, .long 0, .long 0, .int 0]))] H := hP
  have hD : va_D A [(mo, .inr (19, [.int 0, .int 0, .int 0, .int 0, .int 0, .int 0, .int 0, .ref ti, .ref si, .ref lo, .ref lh, .ref lk, .ref sp, .ref st, .ref pa, .ref br, .ref sg, .int 0, .int 0, .int 0, .int 0, .int 0, .int 0, .long 0, .long 0, .long 0, .long 0, .int 0]))] := hD
  have hK : va_K (dC, dI) vwCl [] s := hK
  obtain rfl : 0 = r2 := hw
  refine lv_icmp_eq (tgt := 1684) hx hb dL_law_1037 (by decide) (fun _ => ?_) (fun c_ => absurd (by decide +kernel) c_)
  exact la_tail hst C0 hA hAl H locs hS ls (lv_sub hl [0, 5] rfl) (by omega) (by omega)
set_option maxHeartbeats 8000000 in
set_option maxRecDepth 100000 in
theorem la_speed {p : Program} {l : Launch} {e : Env} {s : State} {m : MethodId} {below : List Frame} {meth : Method} {c : Code} {dC : Nat → ClassId} {dI : Nat → Nat → Nat} {z zK zV : Nat → Nat} {b : Nat} {xs : Nat → Int32} {A : Nat → Prop} (hst : l.stackTraces = false) (C0 : lw_At p s m meth c b 4 xs) (hM : am z zK zV A s s.heap) (hA : ∀ q : Nat, s.heap.size ≤ q → A q) (hAl : ∀ q : Nat, A q → s.heap.size ≤ q) (sh : Nat) (rg : Nat) (dk : Nat) (hd : Nat) (lg : Nat) (pl : Nat) (pr : Nat) (x : Nat) (tl : Nat) (tw : Nat) (mo : Nat) (ti : Nat) (si : Nat) (lo : Nat) (lh : Nat) (lk : Nat) (sp : Nat) (st : Nat) (pa : Nat) (br : Nat) (sg : Nat) (ou : Nat) (od_ : Nat)   (H : Heap) (locs : List Loc) (hK : va_K (dC, dI) vwCl [] s) (hP : va_P (dC, dI) vwCl [(x, .inr (15, [.ref sh, .ref tl, .ref tw, .int 0])), (sh, .inr (13, [.ref rg, .ref dk, .ref hd, .ref lg, .ref pl, .ref pr, .int 0, .int 0, .int 0, .int 0, .int 0, .int 0, .int 0, .int 0, .int 0, .int 0, .int 0])), (mo, .inr (19, [.int 0, .int 0, .int 0, .int 0, .int 0, .int 0, .int 0, .ref ti, .ref si, .ref lo, .ref lh, .ref lk, .ref sp, .ref st, .ref pa, .ref br, .ref sg, .int 0, .int 0, .int 0, .int 0, .int 0, .int 0, .long 0, .long 0, .long 0, .long 0, .int 0]))] H) (hD : va_D A [(x, .inr (15, [.ref sh, .ref tl, .ref tw, .int 0])), (sh, .inr (13, [.ref rg, .ref dk, .ref hd, .ref lg, .ref pl, .ref pr, .int 0, .int 0, .int 0, .int 0, .int 0, .int 0, .int 0, .int 0, .int 0, .int 0, .int 0])), (mo, .inr (19, [.int 0, .int 0, .int 0, .int 0, .int 0, .int 0, .int 0, .ref ti, .ref si, .ref lo, .ref lh, .ref lk, .ref sp, .ref st, .ref pa, .ref br, .ref sg, .int 0, .int 0, .int 0, .int 0, .int 0, .int 0, .long 0, .long 0, .long 0, .long 0, .int 0]))]) (hS : va_S A s.heap H locs) (ls : Array Slot) (hl : lv_has ls 10 [(0, .ref b), (1, .ref x), (2, .ref mo), (3, .ref ou), (4, .ref od_), (5, .int 0)]) : W p l e room_1 s m #[Value.ref b] below meth c H locs 100 1400 (lw_Z below #[Value.ref b] s) (F0 m 1042 ls []) := by
  obtain ⟨hx, hb, hr, hml, hown, hts, hX, hbl, hlocks, hgv⟩ := id C0
  have hbA : ¬ A b := fun h => absurd (hAl b h) (Nat.not_le.mpr hbl)
  refine lv_aload_n hx hb dL_law_1042 rfl (lv_at hl 1 rfl) ?_
  have hPc := hP.sub (ws' := [(x, .inr (15, [.ref sh, .ref tl, .ref tw, .int 0])), (sh, .inr (13, [.ref rg, .ref dk, .ref hd, .ref lg, .ref pl, .ref pr, .int 0, .int 0, .int 0, .int 0, .int 0, .int 0, .int 0, .int 0, .int 0, .int 0, .int 0]))]) [0, 1] rfl
  have hDc := hD.sub (ws' := [(x, .inr (15, [.ref sh, .ref tl, .ref tw, .int 0])), (sh, .inr (13, [.ref rg, .ref dk, .ref hd, .ref lg, .ref pl, .ref pr, .int 0, .int 0, .int 0, .int 0, .int 0, .int 0, .int 0, .int 0, .int 0, .int 0, .int 0]))]) [0, 1] (by decide) rfl
  have hKc := hK.sub (tys' := []) [] rfl
  have hFc := va_free (wc := [(x, .inr (15, [.ref sh, .ref tl, .ref tw, .int 0])), (sh, .inr (13, [.ref rg, .ref dk, .ref hd, .ref lg, .ref pl, .ref pr, .int 0, .int 0, .int 0, .int 0, .int 0, .int 0, .int 0, .int 0, .int 0, .int 0, .int 0]))]) hD hS hA [0, 1] rfl
  refine va_calli (va_runV (As := []) (rest := []) ⟨hx, hb, hml, hown, hts⟩ (k_x_speed l dC dI z zK zV sh rg dk hd lg pl pr x tl tw H.size) (cwV 0 hts hL_X11_speed_161 rfl rfl rfl (by decide +kernel) ⟨Nat.le_of_ble_eq_true rfl, Nat.le_of_ble_eq_true rfl⟩) ⟨kP_blind, va_recv hKc hPc (ci := 15) (q0 := 0) rfl rfl, kP_go hPc hKc hDc hFc hM hS⟩ rfl rfl hl.1 rfl (lv_room (Nat.le_of_ble_eq_true rfl)) dL_law_1043 ⟨Nat.le_of_ble_eq_true rfl, Nat.le_of_ble_eq_true rfl⟩) hS (fun q _ h => hFc q h) hFc (fun r1 u t H1 locs ht hvm hw hB hz1 hk1 hS => ?_)
  obtain ⟨hP, hD, hK⟩ := kJ (wr := [(mo, .inr (19, [.int 0, .int 0, .int 0, .int 0, .int 0, .int 0, .int 0, .ref ti, .ref si, .ref lo, .ref lh, .ref lk, .ref sp, .ref st, .ref pa, .ref br, .ref sg, .int 0, .int 0, .int 0, .int 0, .int 0, .int 0, .long 0, .long 0, .long 0, .long 0, .int 0]))]) (w1 := []) (t1 := []) hP hD hK [0, 1] [2] rfl rfl (by decide) (by decide) hk1 hFc ht hvm hB
  generalize H1 = H at hP hS ⊢
  have hP : va_P (dC, dI) vwCl [(mo, .inr (19, [.int 0, .int 0, .int 0, .int 0, .int 0, .int 0, .int 0, .ref ti, .ref si, .ref lo, .ref lh, .ref lk, .ref sp, .ref st, .ref pa, .ref br, .ref sg, .int 0, .int 0, .int 0, .int 0, .int 0, .int 0, .long 0, .long 0, .long 0, .long 0, .int 0]))] H := hP
  have hD : va_D A [(mo, .inr (19, [.int 0, .int 0, .int 0, .int 0, .int 0, .int 0, .int 0, .ref ti, .ref si, .ref lo, .ref lh, .ref lk, .ref sp, .ref st, .ref pa, .ref br, .ref sg, .int 0, .int 0, .int 0, .int 0, .int 0, .int 0, .long 0, .long 0, .long 0, .long 0, .int 0]))] := hD
  have hK : va_K (dC, dI) vwCl [] s := hK
  obtain rfl : 0 = r1 := hw
  refine lv_aload_n hx hb dL_law_1046 rfl (lv_at hl 2 rfl) ?_
  have hPc := hP.sub (ws' := [(mo, .inr (19, [.int 0, .int 0, .int 0, .int 0, .int 0, .int 0, .int 0, .ref ti, .ref si, .ref lo, .ref lh, .ref lk, .ref sp, .ref st, .ref pa, .ref br, .ref sg, .int 0, .int 0, .int 0, .int 0, .int 0, .int 0, .long 0, .long 0, .long 0, .long 0, .int 0]))]) [0] rfl
  have hDc := hD.sub (ws' := [(mo, .inr (19, [.int 0, .int 0, .int 0, .int 0, .int 0, .int 0, .int 0, .ref ti, .ref si, .ref lo, .ref lh, .ref lk, .ref sp, .ref st, .ref pa, .ref br, .ref sg, .int 0, .int 0, .int 0, .int 0, .int 0, .int 0, .long 0, .long 0, .long 0, .long 0, .int 0]))]) [0] (by decide) rfl
  have hKc := hK.sub (tys' := []) [] rfl
  have hFc := va_free (wc := [(mo, .inr (19, [.int 0, .int 0, .int 0, .int 0, .int 0, .int 0, .int 0, .ref ti, .ref si, .ref lo, .ref lh, .ref lk, .ref sp, .ref st, .ref pa, .ref br, .ref sg, .int 0, .int 0, .int 0, .int 0, .int 0, .int 0, .long 0, .long 0, .long 0, .long 0, .int 0]))]) hD hS hA [0] rfl
  refine va_calli (va_runV (As := []) (rest := [.int 0]) ⟨hx, hb, hml, hown, hts⟩ (k_m_speed l dC dI z zK zV mo ti si lo lh lk sp st pa br sg 0 H.size) (cwV 0 hts hL_X15_speed_164 rfl rfl rfl (by decide +kernel) ⟨Nat.le_of_ble_eq_true rfl, Nat.le_of_ble_eq_true rfl⟩) ⟨kP_blind, va_recv hKc hPc (ci := 19) (q0 := 0) rfl rfl, kP_go hPc hKc hDc hFc hM hS⟩ rfl rfl hl.1 rfl (lv_room (Nat.le_of_ble_eq_true rfl)) dL_law_1047 ⟨Nat.le_of_ble_eq_true rfl, Nat.le_of_ble_eq_true rfl⟩) hS (fun q _ h => hFc q h) hFc (fun r2 u t H1 locs ht hvm hw hB hz1 hk1 hS => ?_)
  obtain ⟨hP, hD, hK⟩ := kJ (wr := []) (w1 := [(mo, .inr (19, [.int 0, .int 0, .int 0, .int 0, .int 0, .int 0, .int 0, .ref ti, .ref si, .ref lo, .ref lh, .ref lk, .ref sp, .ref st, .ref pa, .ref br, .ref sg, .int 0, .int 0, .int 0, .int 0, .int 0, .int 0, .long 0, .long 0, .long 0, .long 0, .int 0]))]) (t1 := []) hP hD hK [0] [] rfl rfl (by decide) (by decide) hk1 hFc ht hvm hB
  generalize H1 = H at hP hS ⊢
  have hP : va_P (dC, dI) vwCl [(mo, .inr (19, [.int 0, .int 0, .int 0, .int 0, .int 0, .int 0, .int 0, .ref ti, .ref si, .ref lo, .ref lh, .ref lk, .ref sp, .ref st, .ref pa, .ref br, .ref sg, .int 0, .int 0, .int 0, .int 0, .int 0, .int 0, .long 0, .long 0, .long 0, .long 0, .int 0]))] H := hP
  have hD : va_D A [(mo, .inr (19, [.int 0, .int 0, .int 0, .int 0, .int 0, .int 0, .int 0, .ref ti, .ref si, .ref lo, .ref lh, .ref lk, .ref sp, .ref st, .ref pa, .ref br, .ref sg, .int 0, .int 0, .int 0, .int 0, .int 0, .int 0, .long 0, .long 0, .long 0, .long 0, .int 0]))] := hD
  have hK : va_K (dC, dI) vwCl [] s := hK
  obtain rfl : 0 = r2 := hw
  refine lv_icmp_eq (tgt := 1684) hx hb dL_law_1050 (by decide) (fun _ => ?_) (fun c_ => absurd (by decide +kernel) c_)
  exact la_tail hst C0 hA hAl H locs hS ls (lv_sub hl [0, 5] rfl) (by omega) (by omega)
set_option maxHeartbeats 8000000 in
set_option maxRecDepth 100000 in
theorem la_east {p : Program} {l : Launch} {e : Env} {s : State} {m : MethodId} {below : List Frame} {meth : Method} {c : Code} {dC : Nat → ClassId} {dI : Nat → Nat → Nat} {z zK zV : Nat → Nat} {b : Nat} {xs : Nat → Int32} {A : Nat → Prop} (hst : l.stackTraces = false) (C0 : lw_At p s m meth c b 4 xs) (hM : am z zK zV A s s.heap) (hA : ∀ q : Nat, s.heap.size ≤ q → A q) (hAl : ∀ q : Nat, A q → s.heap.size ≤ q) (sh : Nat) (rg : Nat) (dk : Nat) (hd : Nat) (lg : Nat) (pl : Nat) (pr : Nat) (x : Nat) (tl : Nat) (tw : Nat) (mo : Nat) (ti : Nat) (si : Nat) (lo : Nat) (lh : Nat) (lk : Nat) (sp : Nat) (st : Nat) (pa : Nat) (br : Nat) (sg : Nat) (ou : Nat) (od_ : Nat)   (H : Heap) (locs : List Loc) (hK : va_K (dC, dI) vwCl [] s) (hP : va_P (dC, dI) vwCl [(x, .inr (15, [.ref sh, .ref tl, .ref tw, .int 0])), (sh, .inr (13, [.ref rg, .ref dk, .ref hd, .ref lg, .ref pl, .ref pr, .int 0, .int 0, .int 0, .int 0, .int 0, .int 0, .int 0, .int 0, .int 0, .int 0, .int 0])), (pl, .inr (10, [.long 0, .long 0])), (mo, .inr (19, [.int 0, .int 0, .int 0, .int 0, .int 0, .int 0, .int 0, .ref ti, .ref si, .ref lo, .ref lh, .ref lk, .ref sp, .ref st, .ref pa, .ref br, .ref sg, .int 0, .int 0, .int 0, .int 0, .int 0, .int 0, .long 0, .long 0, .long 0, .long 0, .int 0]))] H) (hD : va_D A [(x, .inr (15, [.ref sh, .ref tl, .ref tw, .int 0])), (sh, .inr (13, [.ref rg, .ref dk, .ref hd, .ref lg, .ref pl, .ref pr, .int 0, .int 0, .int 0, .int 0, .int 0, .int 0, .int 0, .int 0, .int 0, .int 0, .int 0])), (pl, .inr (10, [.long 0, .long 0])), (mo, .inr (19, [.int 0, .int 0, .int 0, .int 0, .int 0, .int 0, .int 0, .ref ti, .ref si, .ref lo, .ref lh, .ref lk, .ref sp, .ref st, .ref pa, .ref br, .ref sg, .int 0, .int 0, .int 0, .int 0, .int 0, .int 0, .long 0, .long 0, .long 0, .long 0, .int 0]))]) (hS : va_S A s.heap H locs) (ls : Array Slot) (hl : lv_has ls 10 [(0, .ref b), (1, .ref x), (2, .ref mo), (3, .ref ou), (4, .ref od_), (5, .int 0)]) : W p l e room_1 s m #[Value.ref b] below meth c H locs 100 1400 (lw_Z below #[Value.ref b] s) (F0 m 1055 ls []) := by
  obtain ⟨hx, hb, hr, hml, hown, hts, hX, hbl, hlocks, hgv⟩ := id C0
  have hbA : ¬ A b := fun h => absurd (hAl b h) (Nat.not_le.mpr hbl)
  refine lv_aload_n hx hb dL_law_1055 rfl (lv_at hl 1 rfl) ?_
  have hPc := hP.sub (ws' := [(x, .inr (15, [.ref sh, .ref tl, .ref tw, .int 0])), (sh, .inr (13, [.ref rg, .ref dk, .ref hd, .ref lg, .ref pl, .ref pr, .int 0, .int 0, .int 0, .int 0, .int 0, .int 0, .int 0, .int 0, .int 0, .int 0, .int 0])), (pl, .inr (10, [.long 0, .long 0]))]) [0, 1, 2] rfl
  have hDc := hD.sub (ws' := [(x, .inr (15, [.ref sh, .ref tl, .ref tw, .int 0])), (sh, .inr (13, [.ref rg, .ref dk, .ref hd, .ref lg, .ref pl, .ref pr, .int 0, .int 0, .int 0, .int 0, .int 0, .int 0, .int 0, .int 0, .int 0, .int 0, .int 0])), (pl, .inr (10, [.long 0, .long 0]))]) [0, 1, 2] (by decide) rfl
  have hKc := hK.sub (tys' := []) [] rfl
  have hFc := va_free (wc := [(x, .inr (15, [.ref sh, .ref tl, .ref tw, .int 0])), (sh, .inr (13, [.ref rg, .ref dk, .ref hd, .ref lg, .ref pl, .ref pr, .int 0, .int 0, .int 0, .int 0, .int 0, .int 0, .int 0, .int 0, .int 0, .int 0, .int 0])), (pl, .inr (10, [.long 0, .long 0]))]) hD hS hA [0, 1, 2] rfl
  refine va_calll (va_runV (As := []) (rest := []) ⟨hx, hb, hml, hown, hts⟩ (k_x_east l dC dI z zK zV sh rg dk hd lg pl pr x tl tw H.size) (cwV 0 hts hL_X11_east_165 rfl rfl rfl (by decide +kernel) ⟨Nat.le_of_ble_eq_true rfl, Nat.le_of_ble_eq_true rfl⟩) ⟨kP_blind, va_recv hKc hPc (ci := 15) (q0 := 0) rfl rfl, kP_go hPc hKc hDc hFc hM hS⟩ rfl rfl hl.1 rfl (lv_room (Nat.le_of_ble_eq_true rfl)) dL_law_1056 ⟨Nat.le_of_ble_eq_true rfl, Nat.le_of_ble_eq_true rfl⟩) hS (fun q _ h => hFc q h) hFc (fun r1 u t H1 locs ht hvm hw hB hz1 hk1 hS => ?_)
  obtain ⟨hP, hD, hK⟩ := kJ (wr := [(mo, .inr (19, [.int 0, .int 0, .int 0, .int 0, .int 0, .int 0, .int 0, .ref ti, .ref si, .ref lo, .ref lh, .ref lk, .ref sp, .ref st, .ref pa, .ref br, .ref sg, .int 0, .int 0, .int 0, .int 0, .int 0, .int 0, .long 0, .long 0, .long 0, .long 0, .int 0]))]) (w1 := []) (t1 := []) hP hD hK [0, 1, 2] [3] rfl rfl (by decide) (by decide) hk1 hFc ht hvm hB
  generalize H1 = H at hP hS ⊢
  have hP : va_P (dC, dI) vwCl [(mo, .inr (19, [.int 0, .int 0, .int 0, .int 0, .int 0, .int 0, .int 0, .ref ti, .ref si, .ref lo, .ref lh, .ref lk, .ref sp, .ref st, .ref pa, .ref br, .ref sg, .int 0, .int 0, .int 0, .int 0, .int 0, .int 0, .long 0, .long 0, .long 0, .long 0, .int 0]))] H := hP
  have hD : va_D A [(mo, .inr (19, [.int 0, .int 0, .int 0, .int 0, .int 0, .int 0, .int 0, .ref ti, .ref si, .ref lo, .ref lh, .ref lk, .ref sp, .ref st, .ref pa, .ref br, .ref sg, .int 0, .int 0, .int 0, .int 0, .int 0, .int 0, .long 0, .long 0, .long 0, .long 0, .int 0]))] := hD
  have hK : va_K (dC, dI) vwCl [] s := hK
  obtain rfl : 0 = r1 := hw
  refine lv_aload_n hx hb dL_law_1059 rfl (lv_at hl 2 rfl) ?_
  have hPc := hP.sub (ws' := [(mo, .inr (19, [.int 0, .int 0, .int 0, .int 0, .int 0, .int 0, .int 0, .ref ti, .ref si, .ref lo, .ref lh, .ref lk, .ref sp, .ref st, .ref pa, .ref br, .ref sg, .int 0, .int 0, .int 0, .int 0, .int 0, .int 0, .long 0, .long 0, .long 0, .long 0, .int 0]))]) [0] rfl
  have hDc := hD.sub (ws' := [(mo, .inr (19, [.int 0, .int 0, .int 0, .int 0, .int 0, .int 0, .int 0, .ref ti, .ref si, .ref lo, .ref lh, .ref lk, .ref sp, .ref st, .ref pa, .ref br, .ref sg, .int 0, .int 0, .int 0, .int 0, .int 0, .int 0, .long 0, .long 0, .long 0, .long 0, .int 0]))]) [0] (by decide) rfl
  have hKc := hK.sub (tys' := []) [] rfl
  have hFc := va_free (wc := [(mo, .inr (19, [.int 0, .int 0, .int 0, .int 0, .int 0, .int 0, .int 0, .ref ti, .ref si, .ref lo, .ref lh, .ref lk, .ref sp, .ref st, .ref pa, .ref br, .ref sg, .int 0, .int 0, .int 0, .int 0, .int 0, .int 0, .long 0, .long 0, .long 0, .long 0, .int 0]))]) hD hS hA [0] rfl
  refine va_calll (va_runV (As := []) (rest := [.long 0]) ⟨hx, hb, hml, hown, hts⟩ (k_m_east l dC dI z zK zV mo ti si lo lh lk sp st pa br sg 0 H.size) (cwV 0 hts hL_X15_east_169 rfl rfl rfl (by decide +kernel) ⟨Nat.le_of_ble_eq_true rfl, Nat.le_of_ble_eq_true rfl⟩) ⟨kP_blind, va_recv hKc hPc (ci := 19) (q0 := 0) rfl rfl, kP_go hPc hKc hDc hFc hM hS⟩ rfl rfl hl.1 rfl (lv_room (Nat.le_of_ble_eq_true rfl)) dL_law_1060 ⟨Nat.le_of_ble_eq_true rfl, Nat.le_of_ble_eq_true rfl⟩) hS (fun q _ h => hFc q h) hFc (fun r2 u t H1 locs ht hvm hw hB hz1 hk1 hS => ?_)
  obtain ⟨hP, hD, hK⟩ := kJ (wr := []) (w1 := [(mo, .inr (19, [.int 0, .int 0, .int 0, .int 0, .int 0, .int 0, .int 0, .ref ti, .ref si, .ref lo, .ref lh, .ref lk, .ref sp, .ref st, .ref pa, .ref br, .ref sg, .int 0, .int 0, .int 0, .int 0, .int 0, .int 0, .long 0, .long 0, .long 0, .long 0, .int 0]))]) (t1 := []) hP hD hK [0] [] rfl rfl (by decide) (by decide) hk1 hFc ht hvm hB
  generalize H1 = H at hP hS ⊢
  have hP : va_P (dC, dI) vwCl [(mo, .inr (19, [.int 0, .int 0, .int 0, .int 0, .int 0, .int 0, .int 0, .ref ti, .ref si, .ref lo, .ref lh, .ref lk, .ref sp, .ref st, .ref pa, .ref br, .ref sg, .int 0, .int 0, .int 0, .int 0, .int 0, .int 0, .long 0, .long 0, .long 0, .long 0, .int 0]))] H := hP
  have hD : va_D A [(mo, .inr (19, [.int 0, .int 0, .int 0, .int 0, .int 0, .int 0, .int 0, .ref ti, .ref si, .ref lo, .ref lh, .ref lk, .ref sp, .ref st, .ref pa, .ref br, .ref sg, .int 0, .int 0, .int 0, .int 0, .int 0, .int 0, .long 0, .long 0, .long 0, .long 0, .int 0]))] := hD
  have hK : va_K (dC, dI) vwCl [] s := hK
  obtain rfl : 0 = r2 := hw
  refine W.lcmp hx hb dL_law_1063 ?_
  refine kc_i (y := 0) (by decide +kernel) ?_
  refine lv_if_eq (tgt := 1684) hx hb dL_law_1064 (by decide) (fun _ => ?_) (fun c_ => absurd (by decide +kernel) c_)
  exact la_tail hst C0 hA hAl H locs hS ls (lv_sub hl [0, 5] rfl) (by omega) (by omega)
