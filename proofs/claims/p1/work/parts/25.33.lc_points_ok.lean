/-! printed rows that this part uses -/
theorem dL_law_2351 : decode cL_law 2351 = .ok (.aload_n 1, 1) := by decide +kernel
theorem dL_law_2352 : decode cL_law 2352 = .ok (.aload_n 0, 1) := by decide +kernel
theorem dL_law_2353 : decode cL_law 2353 = .ok (.iload 5, 2) := by decide +kernel
theorem dL_law_2355 : decode cL_law 2355 = .ok (.iconst 1, 1) := by decide +kernel
theorem dL_law_2356 : decode cL_law 2356 = .ok (.iadd, 1) := by decide +kernel
theorem dL_law_2357 : decode cL_law 2357 = .ok (.iaload, 1) := by decide +kernel
theorem dL_law_2358 : decode cL_law 2358 = .ok (.aload 4, 2) := by decide +kernel
theorem dL_law_2360 : decode cL_law 2360 = .ok (.invokestatic 227, 3) := by decide +kernel
theorem dL_law_2363 : decode cL_law 2363 = .ok (.istore 6, 2) := by decide +kernel
theorem dL_law_2365 : decode cL_law 2365 = .ok (.aload_n 2, 1) := by decide +kernel
theorem dL_law_2366 : decode cL_law 2366 = .ok (.aload_n 0, 1) := by decide +kernel
theorem dL_law_2367 : decode cL_law 2367 = .ok (.iload 5, 2) := by decide +kernel
theorem dL_law_2369 : decode cL_law 2369 = .ok (.iconst 1, 1) := by decide +kernel
theorem dL_law_2370 : decode cL_law 2370 = .ok (.iadd, 1) := by decide +kernel
theorem dL_law_2371 : decode cL_law 2371 = .ok (.iaload, 1) := by decide +kernel
theorem dL_law_2372 : decode cL_law 2372 = .ok (.invokevirtual 230, 3) := by decide +kernel
theorem dL_law_2375 : decode cL_law 2375 = .ok (.dstore 7, 2) := by decide +kernel
theorem dL_law_2377 : decode cL_law 2377 = .ok (.aload_n 2, 1) := by decide +kernel
theorem dL_law_2378 : decode cL_law 2378 = .ok (.invokevirtual 134, 3) := by decide +kernel
theorem dL_law_2381 : decode cL_law 2381 = .ok (.iload 6, 2) := by decide +kernel
theorem dL_law_2383 : decode cL_law 2383 = .ok (.if_icmp .eq 5, 3) := by decide +kernel
theorem dL_law_2388 : decode cL_law 2388 = .ok (.iload 6, 2) := by decide +kernel
theorem dL_law_2390 : decode cL_law 2390 = .ok (.ifCond .ne 35, 3) := by decide +kernel
theorem dL_law_2393 : decode cL_law 2393 = .ok (.aload 4, 2) := by decide +kernel
theorem dL_law_2395 : decode cL_law 2395 = .ok (.iconst 0, 1) := by decide +kernel
theorem dL_law_2396 : decode cL_law 2396 = .ok (.daload, 1) := by decide +kernel
theorem dL_law_2397 : decode cL_law 2397 = .ok (.dload 7, 2) := by decide +kernel
theorem dL_law_2399 : decode cL_law 2399 = .ok (.dcmp .l, 1) := by decide +kernel
theorem dL_law_2400 : decode cL_law 2400 = .ok (.ifCond .eq 25, 3) := by decide +kernel
theorem dL_law_2425 : decode cL_law 2425 = .ok (.goto 72, 3) := by decide +kernel
/-! a case of the law's switch -/
def w_lc_points_ok : List Cond := .methodLink RL 227 yL_points :: ([.methodLink RL 227 yL_points, .static yL_points, .initialized RL, .methodLink RL 230 yX17_points, .instanceMethod yX17_points, .selects RX17 yX17_points yX17_points, .initialized RX17, .methodLink RL 134 yX17_thrown, .instanceMethod yX17_thrown, .selects RX17 yX17_thrown yX17_thrown] ++ (zl_points_ok9 ++ (zm_points_ok ++ (zX17_thrown_ws ++ ([])))))
set_option maxHeartbeats 4000000 in
set_option maxRecDepth 100000 in
theorem w_lc_points_ok_in : ∀ w ∈ w_lc_points_ok, w ∈ lw_tbl := by decide +kernel
set_option maxHeartbeats 4000000 in
set_option maxRecDepth 100000 in
/-- the law's call of points (ok) -/
theorem lc_points_ok {p : Program} {e : Env} {s : State} {m : MethodId} {below : List Frame} {meth : Method} {c : Code} {A : Nat → Prop} {Q : State → Prop} {b : Nat} {xs : Nat → Int32} (l : Launch) (hst : l.stackTraces = false) (D : va_G) (h0 : Nat) (a : Nat → Nat) (a1 a2 cN cE p1 p2 p3 g : Nat) (og : Nat → Option Nat) (LR : List Nat) (cG cI : Nat) (mo b0 b1 b2 b3 dz sa va oL oD cL cD : Nat) (x1 x2 x3 x4 x5 x6 : Int32) (hx : p.tables.exec = Jvm.exec) (hb : c.code = cL_law) (hml : c.maxLocals = 9) (hts : ∀ w ∈ w_lc_points_ok, w.before #[Value.ref b] s = true) (hown : s.vm.findClass RL = some m.cls) (hX : va_X b 7 xs s s.heap) (hbl : b < s.heap.size) (hA : ∀ q : Nat, s.heap.size ≤ q → A q) (hbA : ¬ A b) (hz : zX A s s.heap) (hm : zMS dz sa va A s s.heap) (hg : ∀ i, i < 8 → ∃ y, og i = some y ∧ y ∈ LR) (e1 : xs (1 : Int32).toNatClampNeg = x1) (e2 : xs (2 : Int32).toNatClampNeg = x2) (e3 : xs (3 : Int32).toNatClampNeg = x3) (e4 : xs (4 : Int32).toNatClampNeg = x4) (e5 : xs (5 : Int32).toNatClampNeg = x5) (e6 : xs (6 : Int32).toNatClampNeg = x6) (h : zin x1 0 7 = 1) (kk : ∀ (H : Heap) (locs : List Loc), va_S A s.heap H locs → ∀ ls : Array Slot, lv_has ls 9 [(0, .ref b), (5, .int 0)] → W p l e room_1 s m #[Value.ref b] below meth c H locs 600 8000 Q (F0 m 2497 ls [])) (H : Heap) (locs : List Loc) (ls : Array Slot) (hP : va_P D vwCl ([(h0, .inr (17, zHS a)), ((a 0), .inr (6, [.ref a1, .ref a2, .int 0])), (a1, .inl (cN, 30, .inl (fun _ => 0))), ((a 1), .inl (cE, 5, .inr (.inr (.inr (.inr (fun _ => none)))))), ((a 2), .inr (11, [.ref p1, .ref p2, .ref p3, .int 0, .long 0])), ((a 7), .inr (10, [.ref g, .int 0])), (g, .inl (cG, 8, .inr (.inr (.inr (.inr og))))), (mo, .inr (23, [.int 0, .ref b0, .ref b1, .ref b2, .ref b3, .int 0, .int 0, .long 0])), (b0, .inr (5, [.int 0, .ref dz, .int 0])), (b1, .inr (5, [.int 0, .ref dz, .int 0])), (b2, .inr (5, [.int 0, .ref dz, .int 0])), (b3, .inr (5, [.int 0, .ref dz, .int 0])), (oL, .inl (cL, 1, .inr (.inl (fun _ => 0)))), (oD, .inl (cD, 1, .inr (.inr (.inr (.inl (fun _ => 0))))))] ++ va_pl LR (zrow cI)) H) (hD : va_D A ([(h0, .inr (17, zHS a)), ((a 0), .inr (6, [.ref a1, .ref a2, .int 0])), (a1, .inl (cN, 30, .inl (fun _ => 0))), ((a 1), .inl (cE, 5, .inr (.inr (.inr (.inr (fun _ => none)))))), ((a 2), .inr (11, [.ref p1, .ref p2, .ref p3, .int 0, .long 0])), ((a 7), .inr (10, [.ref g, .int 0])), (g, .inl (cG, 8, .inr (.inr (.inr (.inr og))))), (mo, .inr (23, [.int 0, .ref b0, .ref b1, .ref b2, .ref b3, .int 0, .int 0, .long 0])), (b0, .inr (5, [.int 0, .ref dz, .int 0])), (b1, .inr (5, [.int 0, .ref dz, .int 0])), (b2, .inr (5, [.int 0, .ref dz, .int 0])), (b3, .inr (5, [.int 0, .ref dz, .int 0])), (oL, .inl (cL, 1, .inr (.inl (fun _ => 0)))), (oD, .inl (cD, 1, .inr (.inr (.inr (.inl (fun _ => 0))))))] ++ va_pl LR (zrow cI))) (hK : va_K D vwCl [(cN, .int), (cE, .object "HeatStadium$Event"), (cG, .array .int), (cI, .int), (cL, .long), (cD, .double)] s) (hS : va_S A s.heap H locs) (hl : lv_has ls 9 [(0, .ref b), (1, .ref h0), (2, .ref mo), (3, .ref oL), (4, .ref oD), (5, .int 0)]) : W p l e room_1 s m #[Value.ref b] below meth c H locs 200 3000 Q (F0 m 2351 ls []) := by
  refine lv_aload_n hx hb dL_law_2351 rfl (lv_at hl 1 rfl) ?_
  refine lv_aload_n hx hb dL_law_2352 rfl (lv_at hl 0 rfl) ?_
  refine lv_iload hx hb dL_law_2353 (lv_at hl 5 rfl) ?_
  refine lv_iconst (v := 1) hx hb dL_law_2355 (by decide) ?_
  refine lv_iadd hx hb dL_law_2356 ?_
  refine lv_topi (fun z1 ez1 => ?_)
  obtain rfl : z1 = 1 := ez1.trans (by decide)
  refine va_sld hx hb hX hbl hbA hS (show vp_in 1 7 by unfold vp_in; decide) dL_law_2357 ?_
  rw [e1]
  refine lv_aload hx hb dL_law_2358 (lv_at hl 4 rfl) ?_
  have hPc := hP.sub (ws' := [(h0, .inr (17, zHS a)), (oD, .inl (cD, 1, .inr (.inr (.inr (.inl (fun _ => 0))))))]) [0, 13] rfl
  have hDc := hD.sub (ws' := [(h0, .inr (17, zHS a)), (oD, .inl (cD, 1, .inr (.inr (.inr (.inl (fun _ => 0))))))]) [0, 13] (by decide) rfl
  have hKc := hK.sub (tys' := [(cD, .double)]) [5] rfl
  have hFc := va_free (wc := [(h0, .inr (17, zHS a)), (oD, .inl (cD, 1, .inr (.inr (.inr (.inl (fun _ => 0))))))]) hD hS hA [0, 13] rfl
  refine vx_calli (vx_runSX (As := [.ref h0, .int x1, .ref oD]) (rest := []) ⟨hx, hb, hml, hown, hts⟩ (cl_points_ok9 l hst D H.size h0 a cD (fun _ => 0) x1 oD h) (vx_cwSW 3 hts (goodIn_app (goodIn_of _ (by decide +kernel)) (goodIn_sub (fun _ h => List.mem_cons_of_mem _ (List.mem_append_right _ (List.mem_append_left _ h))) zl_points_ok9_good)) rfl rfl rfl (by decide +kernel) ⟨Nat.le_of_ble_eq_true rfl, Nat.le_of_ble_eq_true rfl⟩) ⟨zPre.blind, zPre.mk hPc hKc hDc hz hS (fun q h => hFc q h)⟩ rfl rfl hl.1 rfl (lv_room (Nat.le_of_ble_eq_true rfl)) dL_law_2360 ⟨Nat.le_of_ble_eq_true rfl, Nat.le_of_ble_eq_true rfl⟩) hS (fun q _ h => hFc q h) (fun q h => hFc q h) (fun q _ h => hFc q h) (fun E9 ce q9 u t H1 locs ht9 hvm hpx hBX hz1 hk1 hS hcell hv9 hcl => ?_) (fun r9 u t H1 locs ht9 hvm hw hB hz1 hk1 hS => ?_)
  · exact False.elim hpx
  refine W.widen (k := 201) (n := 3006) (by omega) (by omega) ?_
  obtain ⟨hP1, hK1, hD1⟩ := hB
  rw [ht9] at hP1
  have hK1 := va_K.moved hvm.symm hK1
  obtain ⟨hP, hD⟩ := va_joinQ (wr := [((a 0), .inr (6, [.ref a1, .ref a2, .int 0])), (a1, .inl (cN, 30, .inl (fun _ => 0))), ((a 1), .inl (cE, 5, .inr (.inr (.inr (.inr (fun _ => none)))))), ((a 2), .inr (11, [.ref p1, .ref p2, .ref p3, .int 0, .long 0])), ((a 7), .inr (10, [.ref g, .int 0])), (g, .inl (cG, 8, .inr (.inr (.inr (.inr og))))), (mo, .inr (23, [.int 0, .ref b0, .ref b1, .ref b2, .ref b3, .int 0, .int 0, .long 0])), (b0, .inr (5, [.int 0, .ref dz, .int 0])), (b1, .inr (5, [.int 0, .ref dz, .int 0])), (b2, .inr (5, [.int 0, .ref dz, .int 0])), (b3, .inr (5, [.int 0, .ref dz, .int 0])), (oL, .inl (cL, 1, .inr (.inl (fun _ => 0))))]) (w1 := [(oD, .inl (cD, 1, .inr (.inr (.inr (.inl (vf_upd (fun _ => 0) (0 : Int32).toNatClampNeg 0))))))]) hP hD [0, 13] [1, 2, 3, 4, 5, 6, 7, 8, 9, 10, 11, 12] rfl rfl (by decide) (by decide) hk1 hFc hP1 hD1
  have hK := (hK.sub (tys' := [(cN, .int), (cE, .object "HeatStadium$Event"), (cG, .array .int), (cI, .int), (cL, .long)]) [0, 1, 2, 3, 4] rfl).app hK1
  generalize H1 = H at hP hS ⊢
  have hP : va_P D vwCl ([((a 0), .inr (6, [.ref a1, .ref a2, .int 0])), (a1, .inl (cN, 30, .inl (fun _ => 0))), ((a 1), .inl (cE, 5, .inr (.inr (.inr (.inr (fun _ => none)))))), ((a 2), .inr (11, [.ref p1, .ref p2, .ref p3, .int 0, .long 0])), ((a 7), .inr (10, [.ref g, .int 0])), (g, .inl (cG, 8, .inr (.inr (.inr (.inr og))))), (mo, .inr (23, [.int 0, .ref b0, .ref b1, .ref b2, .ref b3, .int 0, .int 0, .long 0])), (b0, .inr (5, [.int 0, .ref dz, .int 0])), (b1, .inr (5, [.int 0, .ref dz, .int 0])), (b2, .inr (5, [.int 0, .ref dz, .int 0])), (b3, .inr (5, [.int 0, .ref dz, .int 0])), (oL, .inl (cL, 1, .inr (.inl (fun _ => 0)))), (oD, .inl (cD, 1, .inr (.inr (.inr (.inl (vf_upd (fun _ => 0) (0 : Int32).toNatClampNeg 0))))))] ++ va_pl LR (zrow cI)) H := hP
  have hD : va_D A ([((a 0), .inr (6, [.ref a1, .ref a2, .int 0])), (a1, .inl (cN, 30, .inl (fun _ => 0))), ((a 1), .inl (cE, 5, .inr (.inr (.inr (.inr (fun _ => none)))))), ((a 2), .inr (11, [.ref p1, .ref p2, .ref p3, .int 0, .long 0])), ((a 7), .inr (10, [.ref g, .int 0])), (g, .inl (cG, 8, .inr (.inr (.inr (.inr og))))), (mo, .inr (23, [.int 0, .ref b0, .ref b1, .ref b2, .ref b3, .int 0, .int 0, .long 0])), (b0, .inr (5, [.int 0, .ref dz, .int 0])), (b1, .inr (5, [.int 0, .ref dz, .int 0])), (b2, .inr (5, [.int 0, .ref dz, .int 0])), (b3, .inr (5, [.int 0, .ref dz, .int 0])), (oL, .inl (cL, 1, .inr (.inl (fun _ => 0)))), (oD, .inl (cD, 1, .inr (.inr (.inr (.inl (vf_upd (fun _ => 0) (0 : Int32).toNatClampNeg 0))))))] ++ va_pl LR (zrow cI)) := hD
  have hK : va_K D vwCl [(cN, .int), (cE, .object "HeatStadium$Event"), (cG, .array .int), (cI, .int), (cL, .long), (cD, .double)] s := hK
  subst hw
  refine lv_istore (lv' := [(6, .int 0), (0, .ref b), (1, .ref h0), (2, .ref mo), (3, .ref oL), (4, .ref oD), (5, .int 0)]) hx hb dL_law_2363 hl (by decide) rfl (fun ls hl => ?_)
  refine lv_aload_n hx hb dL_law_2365 rfl (lv_at hl 3 rfl) ?_
  refine lv_aload_n hx hb dL_law_2366 rfl (lv_at hl 1 rfl) ?_
  refine lv_iload hx hb dL_law_2367 (lv_at hl 6 rfl) ?_
  refine lv_iconst (v := 1) hx hb dL_law_2369 (by decide) ?_
  refine lv_iadd hx hb dL_law_2370 ?_
  refine lv_topi (fun z2 ez2 => ?_)
  obtain rfl : z2 = 1 := ez2.trans (by decide)
  refine va_sld hx hb hX hbl hbA hS (show vp_in 1 7 by unfold vp_in; decide) dL_law_2371 ?_
  rw [e1]
  have hPc := hP.sub (ws' := [(mo, .inr (23, [.int 0, .ref b0, .ref b1, .ref b2, .ref b3, .int 0, .int 0, .long 0])), (b2, .inr (5, [.int 0, .ref dz, .int 0]))]) [6, 9] rfl
  have hDc := hD.sub (ws' := [(mo, .inr (23, [.int 0, .ref b0, .ref b1, .ref b2, .ref b3, .int 0, .int 0, .long 0])), (b2, .inr (5, [.int 0, .ref dz, .int 0]))]) [6, 9] (by decide) rfl
  have hKc := hK.sub (tys' := []) [] rfl
  have hFc := va_free (wc := [(mo, .inr (23, [.int 0, .ref b0, .ref b1, .ref b2, .ref b3, .int 0, .int 0, .long 0])), (b2, .inr (5, [.int 0, .ref dz, .int 0]))]) hD hS hA [6, 9] rfl
  refine va_calld (va_runV (As := [.int x1]) (rest := []) ⟨hx, hb, hml, hown, hts⟩ (cm_points_ok l hst D H.size mo b0 b1 b2 b3 dz 0 x1 h) (cwV 1 hts (goodIn_app (goodIn_of _ (by decide +kernel)) (goodIn_sub (fun _ h => List.mem_cons_of_mem _ (List.mem_append_right _ (List.mem_append_right _ (List.mem_append_left _ h)))) zm_points_ok_good)) rfl rfl rfl (by decide +kernel) ⟨Nat.le_of_ble_eq_true rfl, Nat.le_of_ble_eq_true rfl⟩) ⟨zPre.blind, va_recv hKc hPc (ci := 23) (q0 := 0) rfl rfl, zPre.mk hPc hKc hDc hz hS (fun q h => hFc q h)⟩ rfl rfl hl.1 rfl (lv_room (Nat.le_of_ble_eq_true rfl)) dL_law_2372 ⟨Nat.le_of_ble_eq_true rfl, Nat.le_of_ble_eq_true rfl⟩) hS (fun q _ h => hFc q h) (fun q h => hFc q h) (fun r9 u t H1 locs ht9 hvm hw hB hz1 hk1 hS => ?_)
  refine W.widen (k := 201) (n := 3006) (by omega) (by omega) ?_
  obtain ⟨hP1, hK1, hD1⟩ := hB
  rw [ht9] at hP1
  have hK1 := va_K.moved hvm.symm hK1
  obtain ⟨hP, hD⟩ := va_joinQ (wr := [((a 0), .inr (6, [.ref a1, .ref a2, .int 0])), (a1, .inl (cN, 30, .inl (fun _ => 0))), ((a 1), .inl (cE, 5, .inr (.inr (.inr (.inr (fun _ => none)))))), ((a 2), .inr (11, [.ref p1, .ref p2, .ref p3, .int 0, .long 0])), ((a 7), .inr (10, [.ref g, .int 0])), (g, .inl (cG, 8, .inr (.inr (.inr (.inr og))))), (b0, .inr (5, [.int 0, .ref dz, .int 0])), (b1, .inr (5, [.int 0, .ref dz, .int 0])), (b3, .inr (5, [.int 0, .ref dz, .int 0])), (oL, .inl (cL, 1, .inr (.inl (fun _ => 0)))), (oD, .inl (cD, 1, .inr (.inr (.inr (.inl (vf_upd (fun _ => 0) (0 : Int32).toNatClampNeg 0))))))]) (w1 := [(mo, .inr (23, [.int 0, .ref b0, .ref b1, .ref b2, .ref b3, .int 0, .int 0, .long 0])), (b2, .inr (5, [.int 0, .ref dz, .int 0]))]) hP hD [6, 9] [0, 1, 2, 3, 4, 5, 7, 8, 10, 11, 12] rfl rfl (by decide) (by decide) hk1 hFc hP1 hD1
  have hK := (hK.sub (tys' := [(cN, .int), (cE, .object "HeatStadium$Event"), (cG, .array .int), (cI, .int), (cL, .long), (cD, .double)]) [0, 1, 2, 3, 4, 5] rfl).app hK1
  generalize H1 = H at hP hS ⊢
  have hP : va_P D vwCl ([((a 0), .inr (6, [.ref a1, .ref a2, .int 0])), (a1, .inl (cN, 30, .inl (fun _ => 0))), ((a 1), .inl (cE, 5, .inr (.inr (.inr (.inr (fun _ => none)))))), ((a 2), .inr (11, [.ref p1, .ref p2, .ref p3, .int 0, .long 0])), ((a 7), .inr (10, [.ref g, .int 0])), (g, .inl (cG, 8, .inr (.inr (.inr (.inr og))))), (b0, .inr (5, [.int 0, .ref dz, .int 0])), (b1, .inr (5, [.int 0, .ref dz, .int 0])), (b3, .inr (5, [.int 0, .ref dz, .int 0])), (oL, .inl (cL, 1, .inr (.inl (fun _ => 0)))), (oD, .inl (cD, 1, .inr (.inr (.inr (.inl (vf_upd (fun _ => 0) (0 : Int32).toNatClampNeg 0)))))), (mo, .inr (23, [.int 0, .ref b0, .ref b1, .ref b2, .ref b3, .int 0, .int 0, .long 0])), (b2, .inr (5, [.int 0, .ref dz, .int 0]))] ++ va_pl LR (zrow cI)) H := hP
  have hD : va_D A ([((a 0), .inr (6, [.ref a1, .ref a2, .int 0])), (a1, .inl (cN, 30, .inl (fun _ => 0))), ((a 1), .inl (cE, 5, .inr (.inr (.inr (.inr (fun _ => none)))))), ((a 2), .inr (11, [.ref p1, .ref p2, .ref p3, .int 0, .long 0])), ((a 7), .inr (10, [.ref g, .int 0])), (g, .inl (cG, 8, .inr (.inr (.inr (.inr og))))), (b0, .inr (5, [.int 0, .ref dz, .int 0])), (b1, .inr (5, [.int 0, .ref dz, .int 0])), (b3, .inr (5, [.int 0, .ref dz, .int 0])), (oL, .inl (cL, 1, .inr (.inl (fun _ => 0)))), (oD, .inl (cD, 1, .inr (.inr (.inr (.inl (vf_upd (fun _ => 0) (0 : Int32).toNatClampNeg 0)))))), (mo, .inr (23, [.int 0, .ref b0, .ref b1, .ref b2, .ref b3, .int 0, .int 0, .long 0])), (b2, .inr (5, [.int 0, .ref dz, .int 0]))] ++ va_pl LR (zrow cI)) := hD
  have hK : va_K D vwCl [(cN, .int), (cE, .object "HeatStadium$Event"), (cG, .array .int), (cI, .int), (cL, .long), (cD, .double)] s := hK
  subst hw
  refine lv_dstore (lv' := [(7, .double 0), (6, .int 0), (0, .ref b), (1, .ref h0), (2, .ref mo), (3, .ref oL), (4, .ref oD), (5, .int 0)]) hx hb dL_law_2375 hl (by decide) rfl (fun ls hl => ?_)
  refine lv_aload_n hx hb dL_law_2377 rfl (lv_at hl 4 rfl) ?_
  have hPc := hP.sub (ws' := [(mo, .inr (23, [.int 0, .ref b0, .ref b1, .ref b2, .ref b3, .int 0, .int 0, .long 0]))]) [11] rfl
  have hDc := hD.sub (ws' := [(mo, .inr (23, [.int 0, .ref b0, .ref b1, .ref b2, .ref b3, .int 0, .int 0, .long 0]))]) [11] (by decide) rfl
  have hKc := hK.sub (tys' := []) [] rfl
  have hFc : ∀ q : Nat, H.size ≤ q → A q := fun q h => hA q (Nat.le_trans hS.1 h)
  refine va_calli (va_runV (As := []) (rest := []) ⟨hx, hb, hml, hown, hts⟩ (cm_thrown l hst D H.size mo b0 b1 b2 b3 dz 0) (cwV 0 hts (goodIn_app (goodIn_of _ (by decide +kernel)) (goodIn_sub (fun _ h => List.mem_cons_of_mem _ (List.mem_append_right _ (List.mem_append_right _ (List.mem_append_right _ (List.mem_append_left _ h))))) zX17_thrown_ws_good)) rfl rfl rfl (by decide +kernel) ⟨Nat.le_of_ble_eq_true rfl, Nat.le_of_ble_eq_true rfl⟩) ⟨zPre.blind, va_recv hKc hPc (ci := 23) (q0 := 0) rfl rfl, zPre.mk hPc hKc hDc hz hS (fun q h => hFc q h)⟩ rfl rfl hl.1 rfl (lv_room (Nat.le_of_ble_eq_true rfl)) dL_law_2378 ⟨Nat.le_of_ble_eq_true rfl, Nat.le_of_ble_eq_true rfl⟩) hS (fun q _ h => hFc q h) (fun q h => hFc q h) (fun r9 u t H1 locs ht9 hvm hw hB hz1 hk1 hS => ?_)
  refine W.widen (k := 201) (n := 3006) (by omega) (by omega) ?_
  have hP := zKeep hP hk1
  generalize H1 = H at hP hS ⊢
  have hP : va_P D vwCl ([((a 0), .inr (6, [.ref a1, .ref a2, .int 0])), (a1, .inl (cN, 30, .inl (fun _ => 0))), ((a 1), .inl (cE, 5, .inr (.inr (.inr (.inr (fun _ => none)))))), ((a 2), .inr (11, [.ref p1, .ref p2, .ref p3, .int 0, .long 0])), ((a 7), .inr (10, [.ref g, .int 0])), (g, .inl (cG, 8, .inr (.inr (.inr (.inr og))))), (b0, .inr (5, [.int 0, .ref dz, .int 0])), (b1, .inr (5, [.int 0, .ref dz, .int 0])), (b3, .inr (5, [.int 0, .ref dz, .int 0])), (oL, .inl (cL, 1, .inr (.inl (fun _ => 0)))), (oD, .inl (cD, 1, .inr (.inr (.inr (.inl (vf_upd (fun _ => 0) (0 : Int32).toNatClampNeg 0)))))), (mo, .inr (23, [.int 0, .ref b0, .ref b1, .ref b2, .ref b3, .int 0, .int 0, .long 0])), (b2, .inr (5, [.int 0, .ref dz, .int 0]))] ++ va_pl LR (zrow cI)) H := hP
  subst hw
  refine lv_iload hx hb dL_law_2381 (lv_at hl 1 rfl) ?_
  refine lv_icmp_eq (tgt := 2388) hx hb dL_law_2383 (by decide) (fun _ => ?_) (fun c => absurd (by decide) c)
  refine lv_iload hx hb dL_law_2388 (lv_at hl 1 rfl) ?_
  refine lv_if_ne (tgt := 2425) hx hb dL_law_2390 (by decide) (fun c => absurd (by decide) c) (fun _ => ?_)
  refine lv_aload hx hb dL_law_2393 (lv_at hl 6 rfl) ?_
  refine lv_iconst (v := 0) hx hb dL_law_2395 (by decide) ?_
  refine va_dald hx hb hK hP 10 5 rfl rfl (show vp_in 0 1 by unfold vp_in; decide) dL_law_2396 ?_
  rw [zupdD]
  refine lv_dload hx hb dL_law_2397 (lv_at hl 0 rfl) ?_
  refine lv_dcmp hx hb dL_law_2399 ?_
  refine lv_topi (fun z3 ez3 => ?_)
  obtain rfl : z3 = 0 := ez3.trans (by decide +kernel)
  refine lv_if_eq (tgt := 2425) hx hb dL_law_2400 (by decide) (fun _ => ?_) (fun c => absurd (by decide) c)
  refine lv_goto (tgt := 2497) hx hb dL_law_2425 (by decide) ?_
  refine W.widen (k := 600) (n := 8000) (by omega) (by omega) ?_
  exact kk H _ hS ls (lv_sub hl [2, 7] rfl)
