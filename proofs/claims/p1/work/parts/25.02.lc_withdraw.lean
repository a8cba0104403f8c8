/-! printed rows that this part uses -/
theorem dL_law_414 : decode cL_law 414 = .ok (.aload_n 1, 1) := by decide +kernel
theorem dL_law_415 : decode cL_law 415 = .ok (.aload_n 0, 1) := by decide +kernel
theorem dL_law_416 : decode cL_law 416 = .ok (.iload 5, 2) := by decide +kernel
theorem dL_law_418 : decode cL_law 418 = .ok (.iconst 1, 1) := by decide +kernel
theorem dL_law_419 : decode cL_law 419 = .ok (.iadd, 1) := by decide +kernel
theorem dL_law_420 : decode cL_law 420 = .ok (.iaload, 1) := by decide +kernel
theorem dL_law_421 : decode cL_law 421 = .ok (.aload_n 0, 1) := by decide +kernel
theorem dL_law_422 : decode cL_law 422 = .ok (.iload 5, 2) := by decide +kernel
theorem dL_law_424 : decode cL_law 424 = .ok (.iconst 2, 1) := by decide +kernel
theorem dL_law_425 : decode cL_law 425 = .ok (.iadd, 1) := by decide +kernel
theorem dL_law_426 : decode cL_law 426 = .ok (.iaload, 1) := by decide +kernel
theorem dL_law_427 : decode cL_law 427 = .ok (.aload_n 0, 1) := by decide +kernel
theorem dL_law_428 : decode cL_law 428 = .ok (.iload 5, 2) := by decide +kernel
theorem dL_law_430 : decode cL_law 430 = .ok (.iconst 3, 1) := by decide +kernel
theorem dL_law_431 : decode cL_law 431 = .ok (.iadd, 1) := by decide +kernel
theorem dL_law_432 : decode cL_law 432 = .ok (.iaload, 1) := by decide +kernel
theorem dL_law_433 : decode cL_law 433 = .ok (.ifCond .eq 7, 3) := by decide +kernel
theorem dL_law_436 : decode cL_law 436 = .ok (.iconst 1, 1) := by decide +kernel
theorem dL_law_437 : decode cL_law 437 = .ok (.goto 4, 3) := by decide +kernel
theorem dL_law_440 : decode cL_law 440 = .ok (.iconst 0, 1) := by decide +kernel
theorem dL_law_441 : decode cL_law 441 = .ok (.aload_n 3, 1) := by decide +kernel
theorem dL_law_442 : decode cL_law 442 = .ok (.invokestatic 146, 3) := by decide +kernel
theorem dL_law_445 : decode cL_law 445 = .ok (.istore 6, 2) := by decide +kernel
theorem dL_law_447 : decode cL_law 447 = .ok (.aload_n 2, 1) := by decide +kernel
theorem dL_law_448 : decode cL_law 448 = .ok (.aload_n 0, 1) := by decide +kernel
theorem dL_law_449 : decode cL_law 449 = .ok (.iload 5, 2) := by decide +kernel
theorem dL_law_451 : decode cL_law 451 = .ok (.iconst 1, 1) := by decide +kernel
theorem dL_law_452 : decode cL_law 452 = .ok (.iadd, 1) := by decide +kernel
theorem dL_law_453 : decode cL_law 453 = .ok (.iaload, 1) := by decide +kernel
theorem dL_law_454 : decode cL_law 454 = .ok (.aload_n 0, 1) := by decide +kernel
theorem dL_law_455 : decode cL_law 455 = .ok (.iload 5, 2) := by decide +kernel
theorem dL_law_457 : decode cL_law 457 = .ok (.iconst 2, 1) := by decide +kernel
theorem dL_law_458 : decode cL_law 458 = .ok (.iadd, 1) := by decide +kernel
theorem dL_law_459 : decode cL_law 459 = .ok (.iaload, 1) := by decide +kernel
theorem dL_law_460 : decode cL_law 460 = .ok (.aload_n 0, 1) := by decide +kernel
theorem dL_law_461 : decode cL_law 461 = .ok (.iload 5, 2) := by decide +kernel
theorem dL_law_463 : decode cL_law 463 = .ok (.iconst 3, 1) := by decide +kernel
theorem dL_law_464 : decode cL_law 464 = .ok (.iadd, 1) := by decide +kernel
theorem dL_law_465 : decode cL_law 465 = .ok (.iaload, 1) := by decide +kernel
theorem dL_law_466 : decode cL_law 466 = .ok (.ifCond .eq 7, 3) := by decide +kernel
theorem dL_law_469 : decode cL_law 469 = .ok (.iconst 1, 1) := by decide +kernel
theorem dL_law_470 : decode cL_law 470 = .ok (.goto 4, 3) := by decide +kernel
theorem dL_law_473 : decode cL_law 473 = .ok (.iconst 0, 1) := by decide +kernel
theorem dL_law_474 : decode cL_law 474 = .ok (.invokevirtual 149, 3) := by decide +kernel
theorem dL_law_477 : decode cL_law 477 = .ok (.istore 7, 2) := by decide +kernel
theorem dL_law_479 : decode cL_law 479 = .ok (.aload_n 2, 1) := by decide +kernel
theorem dL_law_480 : decode cL_law 480 = .ok (.invokevirtual 134, 3) := by decide +kernel
theorem dL_law_483 : decode cL_law 483 = .ok (.iload 6, 2) := by decide +kernel
theorem dL_law_485 : decode cL_law 485 = .ok (.if_icmp .eq 5, 3) := by decide +kernel
theorem dL_law_490 : decode cL_law 490 = .ok (.iload 6, 2) := by decide +kernel
theorem dL_law_492 : decode cL_law 492 = .ok (.ifCond .ne 22, 3) := by decide +kernel
theorem dL_law_514 : decode cL_law 514 = .ok (.goto 1983, 3) := by decide +kernel
/-! a case of the law's switch -/
def w_lc_withdraw : List Cond := .methodLink RL 146 yL_withdraw :: ([.methodLink RL 146 yL_withdraw, .static yL_withdraw, .initialized RL, .methodLink RL 149 yX17_withdraw, .instanceMethod yX17_withdraw, .selects RX17 yX17_withdraw yX17_withdraw, .initialized RX17, .methodLink RL 134 yX17_thrown, .instanceMethod yX17_thrown, .selects RX17 yX17_thrown yX17_thrown] ++ (zL_withdraw_ws ++ (zX17_withdraw_ws ++ (zX17_thrown_ws ++ ([])))))
set_option maxHeartbeats 4000000 in
set_option maxRecDepth 100000 in
theorem w_lc_withdraw_in : ∀ w ∈ w_lc_withdraw, w ∈ lw_tbl := by decide +kernel
set_option maxHeartbeats 4000000 in
set_option maxRecDepth 100000 in
/-- the law's call of withdraw -/
theorem lc_withdraw {p : Program} {e : Env} {s : State} {m : MethodId} {below : List Frame} {meth : Method} {c : Code} {A : Nat → Prop} {Q : State → Prop} {b : Nat} {xs : Nat → Int32} (l : Launch) (hst : l.stackTraces = false) (D : va_G) (h0 : Nat) (a : Nat → Nat) (a1 a2 cN cE p1 p2 p3 g : Nat) (og : Nat → Option Nat) (LR : List Nat) (cG cI : Nat) (mo b0 b1 b2 b3 dz sa va oL oD cL cD : Nat) (x1 x2 x3 x4 x5 x6 : Int32) (hx : p.tables.exec = Jvm.exec) (hb : c.code = cL_law) (hml : c.maxLocals = 9) (hts : ∀ w ∈ w_lc_withdraw, w.before #[Value.ref b] s = true) (hown : s.vm.findClass RL = some m.cls) (hX : va_X b 7 xs s s.heap) (hbl : b < s.heap.size) (hA : ∀ q : Nat, s.heap.size ≤ q → A q) (hbA : ¬ A b) (hz : zX A s s.heap) (hm : zMS dz sa va A s s.heap) (hg : ∀ i, i < 8 → ∃ y, og i = some y ∧ y ∈ LR) (e1 : xs (1 : Int32).toNatClampNeg = x1) (e2 : xs (2 : Int32).toNatClampNeg = x2) (e3 : xs (3 : Int32).toNatClampNeg = x3) (e4 : xs (4 : Int32).toNatClampNeg = x4) (e5 : xs (5 : Int32).toNatClampNeg = x5) (e6 : xs (6 : Int32).toNatClampNeg = x6) (kk : ∀ (H : Heap) (locs : List Loc), va_S A s.heap H locs → ∀ ls : Array Slot, lv_has ls 9 [(0, .ref b), (5, .int 0)] → W p l e room_1 s m #[Value.ref b] below meth c H locs 600 8000 Q (F0 m 2497 ls [])) (H : Heap) (locs : List Loc) (ls : Array Slot) (hP : va_P D vwCl ([(h0, .inr (17, zHS a)), ((a 0), .inr (6, [.ref a1, .ref a2, .int 0])), (a1, .inl (cN, 30, .inl (fun _ => 0))), ((a 1), .inl (cE, 5, .inr (.inr (.inr (.inr (fun _ => none)))))), ((a 2), .inr (11, [.ref p1, .ref p2, .ref p3, .int 0, .long 0])), ((a 7), .inr (10, [.ref g, .int 0])), (g, .inl (cG, 8, .inr (.inr (.inr (.inr og))))), (mo, .inr (23, [.int 0, .ref b0, .ref b1, .ref b2, .ref b3, .int 0, .int 0, .long 0])), (b0, .inr (5, [.int 0, .ref dz, .int 0])), (b1, .inr (5, [.int 0, .ref dz, .int 0])), (b2, .inr (5, [.int 0, .ref dz, .int 0])), (b3, .inr (5, [.int 0, .ref dz, .int 0])), (oL, .inl (cL, 1, .inr (.inl (fun _ => 0)))), (oD, .inl (cD, 1, .inr (.inr (.inr (.inl (fun _ => 0))))))] ++ va_pl LR (zrow cI)) H) (hD : va_D A ([(h0, .inr (17, zHS a)), ((a 0), .inr (6, [.ref a1, .ref a2, .int 0])), (a1, .inl (cN, 30, .inl (fun _ => 0))), ((a 1), .inl (cE, 5, .inr (.inr (.inr (.inr (fun _ => none)))))), ((a 2), .inr (11, [.ref p1, .ref p2, .ref p3, .int 0, .long 0])), ((a 7), .inr (10, [.ref g, .int 0])), (g, .inl (cG, 8, .inr (.inr (.inr (.inr og))))), (mo, .inr (23, [.int 0, .ref b0, .ref b1, .ref b2, .ref b3, .int 0, .int 0, .long 0])), (b0, .inr (5, [.int 0, .ref dz, .int 0])), (b1, .inr (5, [.int 0, .ref dz, .int 0])), (b2, .inr (5, [.int 0, .ref dz, .int 0])), (b3, .inr (5, [.int 0, .ref dz, .int 0])), (oL, .inl (cL, 1, .inr (.inl (fun _ => 0)))), (oD, .inl (cD, 1, .inr (.inr (.inr (.inl (fun _ => 0))))))] ++ va_pl LR (zrow cI))) (hK : va_K D vwCl [(cN, .int), (cE, .object "HeatStadium$Event"), (cG, .array .int), (cI, .int), (cL, .long), (cD, .double)] s) (hS : va_S A s.heap H locs) (hl : lv_has ls 9 [(0, .ref b), (1, .ref h0), (2, .ref mo), (3, .ref oL), (4, .ref oD), (5, .int 0)]) : W p l e room_1 s m #[Value.ref b] below meth c H locs 200 3000 Q (F0 m 414 ls []) := by
  refine lv_aload_n hx hb dL_law_414 rfl (lv_at hl 1 rfl) ?_
  refine lv_aload_n hx hb dL_law_415 rfl (lv_at hl 0 rfl) ?_
  refine lv_iload hx hb dL_law_416 (lv_at hl 5 rfl) ?_
  refine lv_iconst (v := 1) hx hb dL_law_418 (by decide) ?_
  refine lv_iadd hx hb dL_law_419 ?_
  refine lv_topi (fun z1 ez1 => ?_)
  obtain rfl : z1 = 1 := ez1.trans (by decide)
  refine va_sld hx hb hX hbl hbA hS (show vp_in 1 7 by unfold vp_in; decide) dL_law_420 ?_
  rw [e1]
  refine lv_aload_n hx hb dL_law_421 rfl (lv_at hl 0 rfl) ?_
  refine lv_iload hx hb dL_law_422 (lv_at hl 5 rfl) ?_
  refine lv_iconst (v := 2) hx hb dL_law_424 (by decide) ?_
  refine lv_iadd hx hb dL_law_425 ?_
  refine lv_topi (fun z2 ez2 => ?_)
  obtain rfl : z2 = 2 := ez2.trans (by decide)
  refine va_sld hx hb hX hbl hbA hS (show vp_in 2 7 by unfold vp_in; decide) dL_law_426 ?_
  rw [e2]
  refine lv_aload_n hx hb dL_law_427 rfl (lv_at hl 0 rfl) ?_
  refine lv_iload hx hb dL_law_428 (lv_at hl 5 rfl) ?_
  refine lv_iconst (v := 3) hx hb dL_law_430 (by decide) ?_
  refine lv_iadd hx hb dL_law_431 ?_
  refine lv_topi (fun z3 ez3 => ?_)
  obtain rfl : z3 = 3 := ez3.trans (by decide)
  refine va_sld hx hb hX hbl hbA hS (show vp_in 3 7 by unfold vp_in; decide) dL_law_432 ?_
  rw [e3]
  refine lv_if_eq (tgt := 440) hx hb dL_law_433 (by decide) (fun c4 => ?_) (fun c4 => ?_)
  · refine lv_iconst (v := 0) hx hb dL_law_440 (by decide) ?_
    refine lv_aload_n hx hb dL_law_441 rfl (lv_at hl 3 rfl) ?_
    have hPc := hP.sub (ws' := [(h0, .inr (17, zHS a))]) [0] rfl
    have hDc := hD.sub (ws' := [(h0, .inr (17, zHS a))]) [0] (by decide) rfl
    have hKc := hK.sub (tys' := []) [] rfl
    have hFc : ∀ q : Nat, H.size ≤ q → A q := fun q h => hA q (Nat.le_trans hS.1 h)
    refine vx_calli (vx_runSX (As := [.ref h0, .int x1, .int x2, .int 0, .ref oL]) (rest := []) ⟨hx, hb, hml, hown, hts⟩ (cl_withdraw l hst D H.size h0 a x1 x2 0 oL) (vx_cwSW 5 hts (goodIn_app (goodIn_of _ (by decide +kernel)) (goodIn_sub (fun _ h => List.mem_cons_of_mem _ (List.mem_append_right _ (List.mem_append_left _ h))) zL_withdraw_ws_good)) rfl rfl rfl (by decide +kernel) ⟨Nat.le_of_ble_eq_true rfl, Nat.le_of_ble_eq_true rfl⟩) ⟨zPre.blind, zPre.mk hPc hKc hDc hz hS (fun q h => hFc q h)⟩ rfl rfl hl.1 rfl (lv_room (Nat.le_of_ble_eq_true rfl)) dL_law_442 ⟨Nat.le_of_ble_eq_true rfl, Nat.le_of_ble_eq_true rfl⟩) hS (fun q _ h => hFc q h) (fun q h => hFc q h) (fun q _ h => hFc q h) (fun E9 ce q9 u t H1 locs ht9 hvm hpx hBX hz1 hk1 hS hcell hv9 hcl => ?_) (fun r9 u t H1 locs ht9 hvm hw hB hz1 hk1 hS => ?_)
    · exact False.elim hpx
    refine W.widen (k := 201) (n := 3006) (by omega) (by omega) ?_
    have hP := zKeep hP hk1
    generalize H1 = H at hP hS ⊢
    have hP : va_P D vwCl ([(h0, .inr (17, zHS a)), ((a 0), .inr (6, [.ref a1, .ref a2, .int 0])), (a1, .inl (cN, 30, .inl (fun _ => 0))), ((a 1), .inl (cE, 5, .inr (.inr (.inr (.inr (fun _ => none)))))), ((a 2), .inr (11, [.ref p1, .ref p2, .ref p3, .int 0, .long 0])), ((a 7), .inr (10, [.ref g, .int 0])), (g, .inl (cG, 8, .inr (.inr (.inr (.inr og))))), (mo, .inr (23, [.int 0, .ref b0, .ref b1, .ref b2, .ref b3, .int 0, .int 0, .long 0])), (b0, .inr (5, [.int 0, .ref dz, .int 0])), (b1, .inr (5, [.int 0, .ref dz, .int 0])), (b2, .inr (5, [.int 0, .ref dz, .int 0])), (b3, .inr (5, [.int 0, .ref dz, .int 0])), (oL, .inl (cL, 1, .inr (.inl (fun _ => 0)))), (oD, .inl (cD, 1, .inr (.inr (.inr (.inl (fun _ => 0))))))] ++ va_pl LR (zrow cI)) H := hP
    subst hw
    refine lv_istore (lv' := [(6, .int 1), (0, .ref b), (1, .ref h0), (2, .ref mo), (3, .ref oL), (4, .ref oD), (5, .int 0)]) hx hb dL_law_445 hl (by decide) rfl (fun ls hl => ?_)
    refine lv_aload_n hx hb dL_law_447 rfl (lv_at hl 3 rfl) ?_
    refine lv_aload_n hx hb dL_law_448 rfl (lv_at hl 1 rfl) ?_
    refine lv_iload hx hb dL_law_449 (lv_at hl 6 rfl) ?_
    refine lv_iconst (v := 1) hx hb dL_law_451 (by decide) ?_
    refine lv_iadd hx hb dL_law_452 ?_
    refine lv_topi (fun z5 ez5 => ?_)
    obtain rfl : z5 = 1 := ez5.trans (by decide)
    refine va_sld hx hb hX hbl hbA hS (show vp_in 1 7 by unfold vp_in; decide) dL_law_453 ?_
    rw [e1]
    refine lv_aload_n hx hb dL_law_454 rfl (lv_at hl 1 rfl) ?_
    refine lv_iload hx hb dL_law_455 (lv_at hl 6 rfl) ?_
    refine lv_iconst (v := 2) hx hb dL_law_457 (by decide) ?_
    refine lv_iadd hx hb dL_law_458 ?_
    refine lv_topi (fun z6 ez6 => ?_)
    obtain rfl : z6 = 2 := ez6.trans (by decide)
    refine va_sld hx hb hX hbl hbA hS (show vp_in 2 7 by unfold vp_in; decide) dL_law_459 ?_
    rw [e2]
    refine lv_aload_n hx hb dL_law_460 rfl (lv_at hl 1 rfl) ?_
    refine lv_iload hx hb dL_law_461 (lv_at hl 6 rfl) ?_
    refine lv_iconst (v := 3) hx hb dL_law_463 (by decide) ?_
    refine lv_iadd hx hb dL_law_464 ?_
    refine lv_topi (fun z7 ez7 => ?_)
    obtain rfl : z7 = 3 := ez7.trans (by decide)
    refine va_sld hx hb hX hbl hbA hS (show vp_in 3 7 by unfold vp_in; decide) dL_law_465 ?_
    rw [e3]
    refine lv_if_eq (tgt := 473) hx hb dL_law_466 (by decide) (fun _ => ?_) (fun c9 => absurd c4 c9)
    refine lv_iconst (v := 0) hx hb dL_law_473 (by decide) ?_
    have hPc := hP.sub (ws' := [(mo, .inr (23, [.int 0, .ref b0, .ref b1, .ref b2, .ref b3, .int 0, .int 0, .long 0])), (b2, .inr (5, [.int 0, .ref dz, .int 0]))]) [7, 10] rfl
    have hDc := hD.sub (ws' := [(mo, .inr (23, [.int 0, .ref b0, .ref b1, .ref b2, .ref b3, .int 0, .int 0, .long 0])), (b2, .inr (5, [.int 0, .ref dz, .int 0]))]) [7, 10] (by decide) rfl
    have hKc := hK.sub (tys' := []) [] rfl
    have hFc := va_free (wc := [(mo, .inr (23, [.int 0, .ref b0, .ref b1, .ref b2, .ref b3, .int 0, .int 0, .long 0])), (b2, .inr (5, [.int 0, .ref dz, .int 0]))]) hD hS hA [7, 10] rfl
    refine va_calli (va_runV (As := [.int x1, .int x2, .int 0]) (rest := []) ⟨hx, hb, hml, hown, hts⟩ (cm_withdraw l hst D H.size mo b0 b1 b2 b3 dz 0 x1 x2 0) (cwV 3 hts (goodIn_app (goodIn_of _ (by decide +kernel)) (goodIn_sub (fun _ h => List.mem_cons_of_mem _ (List.mem_append_right _ (List.mem_append_right _ (List.mem_append_left _ h)))) zX17_withdraw_ws_good)) rfl rfl rfl (by decide +kernel) ⟨Nat.le_of_ble_eq_true rfl, Nat.le_of_ble_eq_true rfl⟩) ⟨zPre.blind, va_recv hKc hPc (ci := 23) (q0 := 0) rfl rfl, zPre.mk hPc hKc hDc hz hS (fun q h => hFc q h)⟩ rfl rfl hl.1 rfl (lv_room (Nat.le_of_ble_eq_true rfl)) dL_law_474 ⟨Nat.le_of_ble_eq_true rfl, Nat.le_of_ble_eq_true rfl⟩) hS (fun q _ h => hFc q h) (fun q h => hFc q h) (fun r9 u t H1 locs ht9 hvm hw hB hz1 hk1 hS => ?_)
    refine W.widen (k := 201) (n := 3006) (by omega) (by omega) ?_
    obtain ⟨hP1, hK1, hD1⟩ := hB
    rw [ht9] at hP1
    have hK1 := va_K.moved hvm.symm hK1
    obtain ⟨hP, hD⟩ := va_joinQ (wr := [(h0, .inr (17, zHS a)), ((a 0), .inr (6, [.ref a1, .ref a2, .int 0])), (a1, .inl (cN, 30, .inl (fun _ => 0))), ((a 1), .inl (cE, 5, .inr (.inr (.inr (.inr (fun _ => none)))))), ((a 2), .inr (11, [.ref p1, .ref p2, .ref p3, .int 0, .long 0])), ((a 7), .inr (10, [.ref g, .int 0])), (g, .inl (cG, 8, .inr (.inr (.inr (.inr og))))), (b0, .inr (5, [.int 0, .ref dz, .int 0])), (b1, .inr (5, [.int 0, .ref dz, .int 0])), (b3, .inr (5, [.int 0, .ref dz, .int 0])), (oL, .inl (cL, 1, .inr (.inl (fun _ => 0)))), (oD, .inl (cD, 1, .inr (.inr (.inr (.inl (fun _ => 0))))))]) (w1 := [(mo, .inr (23, [.int 1, .ref b0, .ref b1, .ref b2, .ref b3, .int 0, .int 0, .long 0])), (b2, .inr (5, [.int 0, .ref dz, .int 0]))]) hP hD [7, 10] [0, 1, 2, 3, 4, 5, 6, 8, 9, 11, 12, 13] rfl rfl (by decide) (by decide) hk1 hFc hP1 hD1
    have hK := (hK.sub (tys' := [(cN, .int), (cE, .object "HeatStadium$Event"), (cG, .array .int), (cI, .int), (cL, .long), (cD, .double)]) [0, 1, 2, 3, 4, 5] rfl).app hK1
    generalize H1 = H at hP hS ⊢
    have hP : va_P D vwCl ([(h0, .inr (17, zHS a)), ((a 0), .inr (6, [.ref a1, .ref a2, .int 0])), (a1, .inl (cN, 30, .inl (fun _ => 0))), ((a 1), .inl (cE, 5, .inr (.inr (.inr (.inr (fun _ => none)))))), ((a 2), .inr (11, [.ref p1, .ref p2, .ref p3, .int 0, .long 0])), ((a 7), .inr (10, [.ref g, .int 0])), (g, .inl (cG, 8, .inr (.inr (.inr (.inr og))))), (b0, .inr (5, [.int 0, .ref dz, .int 0])), (b1, .inr (5, [.int 0, .ref dz, .int 0])), (b3, .inr (5, [.int 0, .ref dz, .int 0])), (oL, .inl (cL, 1, .inr (.inl (fun _ => 0)))), (oD, .inl (cD, 1, .inr (.inr (.inr (.inl (fun _ => 0)))))), (mo, .inr (23, [.int 1, .ref b0, .ref b1, .ref b2, .ref b3, .int 0, .int 0, .long 0])), (b2, .inr (5, [.int 0, .ref dz, .int 0]))] ++ va_pl LR (zrow cI)) H := hP
    have hD : va_D A ([(h0, .inr (17, zHS a)), ((a 0), .inr (6, [.ref a1, .ref a2, .int 0])), (a1, .inl (cN, 30, .inl (fun _ => 0))), ((a 1), .inl (cE, 5, .inr (.inr (.inr (.inr (fun _ => none)))))), ((a 2), .inr (11, [.ref p1, .ref p2, .ref p3, .int 0, .long 0])), ((a 7), .inr (10, [.ref g, .int 0])), (g, .inl (cG, 8, .inr (.inr (.inr (.inr og))))), (b0, .inr (5, [.int 0, .ref dz, .int 0])), (b1, .inr (5, [.int 0, .ref dz, .int 0])), (b3, .inr (5, [.int 0, .ref dz, .int 0])), (oL, .inl (cL, 1, .inr (.inl (fun _ => 0)))), (oD, .inl (cD, 1, .inr (.inr (.inr (.inl (fun _ => 0)))))), (mo, .inr (23, [.int 1, .ref b0, .ref b1, .ref b2, .ref b3, .int 0, .int 0, .long 0])), (b2, .inr (5, [.int 0, .ref dz, .int 0]))] ++ va_pl LR (zrow cI)) := hD
    have hK : va_K D vwCl [(cN, .int), (cE, .object "HeatStadium$Event"), (cG, .array .int), (cI, .int), (cL, .long), (cD, .double)] s := hK
    subst hw
    refine lv_istore (lv' := [(7, .int 0), (6, .int 1), (0, .ref b), (1, .ref h0), (2, .ref mo), (3, .ref oL), (4, .ref oD), (5, .int 0)]) hx hb dL_law_477 hl (by decide) rfl (fun ls hl => ?_)
    refine lv_aload_n hx hb dL_law_479 rfl (lv_at hl 4 rfl) ?_
    have hPc := hP.sub (ws' := [(mo, .inr (23, [.int 1, .ref b0, .ref b1, .ref b2, .ref b3, .int 0, .int 0, .long 0]))]) [12] rfl
    have hDc := hD.sub (ws' := [(mo, .inr (23, [.int 1, .ref b0, .ref b1, .ref b2, .ref b3, .int 0, .int 0, .long 0]))]) [12] (by decide) rfl
    have hKc := hK.sub (tys' := []) [] rfl
    have hFc : ∀ q : Nat, H.size ≤ q → A q := fun q h => hA q (Nat.le_trans hS.1 h)
    refine va_calli (va_runV (As := []) (rest := []) ⟨hx, hb, hml, hown, hts⟩ (cm_thrown l hst D H.size mo b0 b1 b2 b3 dz 1) (cwV 0 hts (goodIn_app (goodIn_of _ (by decide +kernel)) (goodIn_sub (fun _ h => List.mem_cons_of_mem _ (List.mem_append_right _ (List.mem_append_right _ (List.mem_append_right _ (List.mem_append_left _ h))))) zX17_thrown_ws_good)) rfl rfl rfl (by decide +kernel) ⟨Nat.le_of_ble_eq_true rfl, Nat.le_of_ble_eq_true rfl⟩) ⟨zPre.blind, va_recv hKc hPc (ci := 23) (q0 := 0) rfl rfl, zPre.mk hPc hKc hDc hz hS (fun q h => hFc q h)⟩ rfl rfl hl.1 rfl (lv_room (Nat.le_of_ble_eq_true rfl)) dL_law_480 ⟨Nat.le_of_ble_eq_true rfl, Nat.le_of_ble_eq_true rfl⟩) hS (fun q _ h => hFc q h) (fun q h => hFc q h) (fun r9 u t H1 locs ht9 hvm hw hB hz1 hk1 hS => ?_)
    refine W.widen (k := 201) (n := 3006) (by omega) (by omega) ?_
    have hP := zKeep hP hk1
    generalize H1 = H at hP hS ⊢
    have hP : va_P D vwCl ([(h0, .inr (17, zHS a)), ((a 0), .inr (6, [.ref a1, .ref a2, .int 0])), (a1, .inl (cN, 30, .inl (fun _ => 0))), ((a 1), .inl (cE, 5, .inr (.inr (.inr (.inr (fun _ => none)))))), ((a 2), .inr (11, [.ref p1, .ref p2, .ref p3, .int 0, .long 0])), ((a 7), .inr (10, [.ref g, .int 0])), (g, .inl (cG, 8, .inr (.inr (.inr (.inr og))))), (b0, .inr (5, [.int 0, .ref dz, .int 0])), (b1, .inr (5, [.int 0, .ref dz, .int 0])), (b3, .inr (5, [.int 0, .ref dz, .int 0])), (oL, .inl (cL, 1, .inr (.inl (fun _ => 0)))), (oD, .inl (cD, 1, .inr (.inr (.inr (.inl (fun _ => 0)))))), (mo, .inr (23, [.int 1, .ref b0, .ref b1, .ref b2, .ref b3, .int 0, .int 0, .long 0])), (b2, .inr (5, [.int 0, .ref dz, .int 0]))] ++ va_pl LR (zrow cI)) H := hP
    subst hw
    refine lv_iload hx hb dL_law_483 (lv_at hl 1 rfl) ?_
    refine lv_icmp_eq (tgt := 490) hx hb dL_law_485 (by decide) (fun _ => ?_) (fun c => absurd (by decide) c)
    refine lv_iload hx hb dL_law_490 (lv_at hl 1 rfl) ?_
    refine lv_if_ne (tgt := 514) hx hb dL_law_492 (by decide) (fun _ => ?_) (fun c => absurd c (by decide))
    refine lv_goto (tgt := 2497) hx hb dL_law_514 (by decide) ?_
    refine W.widen (k := 600) (n := 8000) (by omega) (by omega) ?_
    exact kk H _ hS ls (lv_sub hl [2, 7] rfl)
  · refine lv_iconst (v := 1) hx hb dL_law_436 (by decide) ?_
    refine lv_goto (tgt := 441) hx hb dL_law_437 (by decide) ?_
    refine lv_aload_n hx hb dL_law_441 rfl (lv_at hl 3 rfl) ?_
    have hPc := hP.sub (ws' := [(h0, .inr (17, zHS a))]) [0] rfl
    have hDc := hD.sub (ws' := [(h0, .inr (17, zHS a))]) [0] (by decide) rfl
    have hKc := hK.sub (tys' := []) [] rfl
    have hFc : ∀ q : Nat, H.size ≤ q → A q := fun q h => hA q (Nat.le_trans hS.1 h)
    refine vx_calli (vx_runSX (As := [.ref h0, .int x1, .int x2, .int 1, .ref oL]) (rest := []) ⟨hx, hb, hml, hown, hts⟩ (cl_withdraw l hst D H.size h0 a x1 x2 1 oL) (vx_cwSW 5 hts (goodIn_app (goodIn_of _ (by decide +kernel)) (goodIn_sub (fun _ h => List.mem_cons_of_mem _ (List.mem_append_right _ (List.mem_append_left _ h))) zL_withdraw_ws_good)) rfl rfl rfl (by decide +kernel) ⟨Nat.le_of_ble_eq_true rfl, Nat.le_of_ble_eq_true rfl⟩) ⟨zPre.blind, zPre.mk hPc hKc hDc hz hS (fun q h => hFc q h)⟩ rfl rfl hl.1 rfl (lv_room (Nat.le_of_ble_eq_true rfl)) dL_law_442 ⟨Nat.le_of_ble_eq_true rfl, Nat.le_of_ble_eq_true rfl⟩) hS (fun q _ h => hFc q h) (fun q h => hFc q h) (fun q _ h => hFc q h) (fun E9 ce q9 u t H1 locs ht9 hvm hpx hBX hz1 hk1 hS hcell hv9 hcl => ?_) (fun r9 u t H1 locs ht9 hvm hw hB hz1 hk1 hS => ?_)
    · exact False.elim hpx
    refine W.widen (k := 201) (n := 3006) (by omega) (by omega) ?_
    have hP := zKeep hP hk1
    generalize H1 = H at hP hS ⊢
    have hP : va_P D vwCl ([(h0, .inr (17, zHS a)), ((a 0), .inr (6, [.ref a1, .ref a2, .int 0])), (a1, .inl (cN, 30, .inl (fun _ => 0))), ((a 1), .inl (cE, 5, .inr (.inr (.inr (.inr (fun _ => none)))))), ((a 2), .inr (11, [.ref p1, .ref p2, .ref p3, .int 0, .long 0])), ((a 7), .inr (10, [.ref g, .int 0])), (g, .inl (cG, 8, .inr (.inr (.inr (.inr og))))), (mo, .inr (23, [.int 0, .ref b0, .ref b1, .ref b2, .ref b3, .int 0, .int 0, .long 0])), (b0, .inr (5, [.int 0, .ref dz, .int 0])), (b1, .inr (5, [.int 0, .ref dz, .int 0])), (b2, .inr (5, [.int 0, .ref dz, .int 0])), (b3, .inr (5, [.int 0, .ref dz, .int 0])), (oL, .inl (cL, 1, .inr (.inl (fun _ => 0)))), (oD, .inl (cD, 1, .inr (.inr (.inr (.inl (fun _ => 0))))))] ++ va_pl LR (zrow cI)) H := hP
    subst hw
    refine lv_istore (lv' := [(6, .int 1), (0, .ref b), (1, .ref h0), (2, .ref mo), (3, .ref oL), (4, .ref oD), (5, .int 0)]) hx hb dL_law_445 hl (by decide) rfl (fun ls hl => ?_)
    refine lv_aload_n hx hb dL_law_447 rfl (lv_at hl 3 rfl) ?_
    refine lv_aload_n hx hb dL_law_448 rfl (lv_at hl 1 rfl) ?_
    refine lv_iload hx hb dL_law_449 (lv_at hl 6 rfl) ?_
    refine lv_iconst (v := 1) hx hb dL_law_451 (by decide) ?_
    refine lv_iadd hx hb dL_law_452 ?_
    refine lv_topi (fun z8 ez8 => ?_)
    obtain rfl : z8 = 1 := ez8.trans (by decide)
    refine va_sld hx hb hX hbl hbA hS (show vp_in 1 7 by unfold vp_in; decide) dL_law_453 ?_
    rw [e1]
    refine lv_aload_n hx hb dL_law_454 rfl (lv_at hl 1 rfl) ?_
    refine lv_iload hx hb dL_law_455 (lv_at hl 6 rfl) ?_
    refine lv_iconst (v := 2) hx hb dL_law_457 (by decide) ?_
    refine lv_iadd hx hb dL_law_458 ?_
    refine lv_topi (fun z9 ez9 => ?_)
    obtain rfl : z9 = 2 := ez9.trans (by decide)
    refine va_sld hx hb hX hbl hbA hS (show vp_in 2 7 by unfold vp_in; decide) dL_law_459 ?_
    rw [e2]
    refine lv_aload_n hx hb dL_law_460 rfl (lv_at hl 1 rfl) ?_
    refine lv_iload hx hb dL_law_461 (lv_at hl 6 rfl) ?_
    refine lv_iconst (v := 3) hx hb dL_law_463 (by decide) ?_
    refine lv_iadd hx hb dL_law_464 ?_
    refine lv_topi (fun z10 ez10 => ?_)
    obtain rfl : z10 = 3 := ez10.trans (by decide)
    refine va_sld hx hb hX hbl hbA hS (show vp_in 3 7 by unfold vp_in; decide) dL_law_465 ?_
    rw [e3]
    refine lv_if_eq (tgt := 473) hx hb dL_law_466 (by decide) (fun c9 => absurd c9 c4) (fun _ => ?_)
    refine lv_iconst (v := 1) hx hb dL_law_469 (by decide) ?_
    refine lv_goto (tgt := 474) hx hb dL_law_470 (by decide) ?_
    have hPc := hP.sub (ws' := [(mo, .inr (23, [.int 0, .ref b0, .ref b1, .ref b2, .ref b3, .int 0, .int 0, .long 0])), (b2, .inr (5, [.int 0, .ref dz, .int 0]))]) [7, 10] rfl
    have hDc := hD.sub (ws' := [(mo, .inr (23, [.int 0, .ref b0, .ref b1, .ref b2, .ref b3, .int 0, .int 0, .long 0])), (b2, .inr (5, [.int 0, .ref dz, .int 0]))]) [7, 10] (by decide) rfl
    have hKc := hK.sub (tys' := []) [] rfl
    have hFc := va_free (wc := [(mo, .inr (23, [.int 0, .ref b0, .ref b1, .ref b2, .ref b3, .int 0, .int 0, .long 0])), (b2, .inr (5, [.int 0, .ref dz, .int 0]))]) hD hS hA [7, 10] rfl
    refine va_calli (va_runV (As := [.int x1, .int x2, .int 1]) (rest := []) ⟨hx, hb, hml, hown, hts⟩ (cm_withdraw l hst D H.size mo b0 b1 b2 b3 dz 0 x1 x2 1) (cwV 3 hts (goodIn_app (goodIn_of _ (by decide +kernel)) (goodIn_sub (fun _ h => List.mem_cons_of_mem _ (List.mem_append_right _ (List.mem_append_right _ (List.mem_append_left _ h)))) zX17_withdraw_ws_good)) rfl rfl rfl (by decide +kernel) ⟨Nat.le_of_ble_eq_true rfl, Nat.le_of_ble_eq_true rfl⟩) ⟨zPre.blind, va_recv hKc hPc (ci := 23) (q0 := 0) rfl rfl, zPre.mk hPc hKc hDc hz hS (fun q h => hFc q h)⟩ rfl rfl hl.1 rfl (lv_room (Nat.le_of_ble_eq_true rfl)) dL_law_474 ⟨Nat.le_of_ble_eq_true rfl, Nat.le_of_ble_eq_true rfl⟩) hS (fun q _ h => hFc q h) (fun q h => hFc q h) (fun r9 u t H1 locs ht9 hvm hw hB hz1 hk1 hS => ?_)
    refine W.widen (k := 201) (n := 3006) (by omega) (by omega) ?_
    obtain ⟨hP1, hK1, hD1⟩ := hB
    rw [ht9] at hP1
    have hK1 := va_K.moved hvm.symm hK1
    obtain ⟨hP, hD⟩ := va_joinQ (wr := [(h0, .inr (17, zHS a)), ((a 0), .inr (6, [.ref a1, .ref a2, .int 0])), (a1, .inl (cN, 30, .inl (fun _ => 0))), ((a 1), .inl (cE, 5, .inr (.inr (.inr (.inr (fun _ => none)))))), ((a 2), .inr (11, [.ref p1, .ref p2, .ref p3, .int 0, .long 0])), ((a 7), .inr (10, [.ref g, .int 0])), (g, .inl (cG, 8, .inr (.inr (.inr (.inr og))))), (b0, .inr (5, [.int 0, .ref dz, .int 0])), (b1, .inr (5, [.int 0, .ref dz, .int 0])), (b3, .inr (5, [.int 0, .ref dz, .int 0])), (oL, .inl (cL, 1, .inr (.inl (fun _ => 0)))), (oD, .inl (cD, 1, .inr (.inr (.inr (.inl (fun _ => 0))))))]) (w1 := [(mo, .inr (23, [.int 1, .ref b0, .ref b1, .ref b2, .ref b3, .int 0, .int 0, .long 0])), (b2, .inr (5, [.int 0, .ref dz, .int 0]))]) hP hD [7, 10] [0, 1, 2, 3, 4, 5, 6, 8, 9, 11, 12, 13] rfl rfl (by decide) (by decide) hk1 hFc hP1 hD1
    have hK := (hK.sub (tys' := [(cN, .int), (cE, .object "HeatStadium$Event"), (cG, .array .int), (cI, .int), (cL, .long), (cD, .double)]) [0, 1, 2, 3, 4, 5] rfl).app hK1
    generalize H1 = H at hP hS ⊢
    have hP : va_P D vwCl ([(h0, .inr (17, zHS a)), ((a 0), .inr (6, [.ref a1, .ref a2, .int 0])), (a1, .inl (cN, 30, .inl (fun _ => 0))), ((a 1), .inl (cE, 5, .inr (.inr (.inr (.inr (fun _ => none)))))), ((a 2), .inr (11, [.ref p1, .ref p2, .ref p3, .int 0, .long 0])), ((a 7), .inr (10, [.ref g, .int 0])), (g, .inl (cG, 8, .inr (.inr (.inr (.inr og))))), (b0, .inr (5, [.int 0, .ref dz, .int 0])), (b1, .inr (5, [.int 0, .ref dz, .int 0])), (b3, .inr (5, [.int 0, .ref dz, .int 0])), (oL, .inl (cL, 1, .inr (.inl (fun _ => 0)))), (oD, .inl (cD, 1, .inr (.inr (.inr (.inl (fun _ => 0)))))), (mo, .inr (23, [.int 1, .ref b0, .ref b1, .ref b2, .ref b3, .int 0, .int 0, .long 0])), (b2, .inr (5, [.int 0, .ref dz, .int 0]))] ++ va_pl LR (zrow cI)) H := hP
    have hD : va_D A ([(h0, .inr (17, zHS a)), ((a 0), .inr (6, [.ref a1, .ref a2, .int 0])), (a1, .inl (cN, 30, .inl (fun _ => 0))), ((a 1), .inl (cE, 5, .inr (.inr (.inr (.inr (fun _ => none)))))), ((a 2), .inr (11, [.ref p1, .ref p2, .ref p3, .int 0, .long 0])), ((a 7), .inr (10, [.ref g, .int 0])), (g, .inl (cG, 8, .inr (.inr (.inr (.inr og))))), (b0, .inr (5, [.int 0, .ref dz, .int 0])), (b1, .inr (5, [.int 0, .ref dz, .int 0])), (b3, .inr (5, [.int 0, .ref dz, .int 0])), (oL, .inl (cL, 1, .inr (.inl (fun _ => 0)))), (oD, .inl (cD, 1, .inr (.inr (.inr (.inl (fun _ => 0)))))), (mo, .inr (23, [.int 1, .ref b0, .ref b1, .ref b2, .ref b3, .int 0, .int 0, .long 0])), (b2, .inr (5, [.int 0, .ref dz, .int 0]))] ++ va_pl LR (zrow cI)) := hD
    have hK : va_K D vwCl [(cN, .int), (cE, .object "HeatStadium$Event"), (cG, .array .int), (cI, .int), (cL, .long), (cD, .double)] s := hK
    subst hw
    refine lv_istore (lv' := [(7, .int 0), (6, .int 1), (0, .ref b), (1, .ref h0), (2, .ref mo), (3, .ref oL), (4, .ref oD), (5, .int 0)]) hx hb dL_law_477 hl (by decide) rfl (fun ls hl => ?_)
    refine lv_aload_n hx hb dL_law_479 rfl (lv_at hl 4 rfl) ?_
    have hPc := hP.sub (ws' := [(mo, .inr (23, [.int 1, .ref b0, .ref b1, .ref b2, .ref b3, .int 0, .int 0, .long 0]))]) [12] rfl
    have hDc := hD.sub (ws' := [(mo, .inr (23, [.int 1, .ref b0, .ref b1, .ref b2, .ref b3, .int 0, .int 0, .long 0]))]) [12] (by decide) rfl
    have hKc := hK.sub (tys' := []) [] rfl
    have hFc : ∀ q : Nat, H.size ≤ q → A q := fun q h => hA q (Nat.le_trans hS.1 h)
    refine va_calli (va_runV (As := []) (rest := []) ⟨hx, hb, hml, hown, hts⟩ (cm_thrown l hst D H.size mo b0 b1 b2 b3 dz 1) (cwV 0 hts (goodIn_app (goodIn_of _ (by decide +kernel)) (goodIn_sub (fun _ h => List.mem_cons_of_mem _ (List.mem_append_right _ (List.mem_append_right _ (List.mem_append_right _ (List.mem_append_left _ h))))) zX17_thrown_ws_good)) rfl rfl rfl (by decide +kernel) ⟨Nat.le_of_ble_eq_true rfl, Nat.le_of_ble_eq_true rfl⟩) ⟨zPre.blind, va_recv hKc hPc (ci := 23) (q0 := 0) rfl rfl, zPre.mk hPc hKc hDc hz hS (fun q h => hFc q h)⟩ rfl rfl hl.1 rfl (lv_room (Nat.le_of_ble_eq_true rfl)) dL_law_480 ⟨Nat.le_of_ble_eq_true rfl, Nat.le_of_ble_eq_true rfl⟩) hS (fun q _ h => hFc q h) (fun q h => hFc q h) (fun r9 u t H1 locs ht9 hvm hw hB hz1 hk1 hS => ?_)
    refine W.widen (k := 201) (n := 3006) (by omega) (by omega) ?_
    have hP := zKeep hP hk1
    generalize H1 = H at hP hS ⊢
    have hP : va_P D vwCl ([(h0, .inr (17, zHS a)), ((a 0), .inr (6, [.ref a1, .ref a2, .int 0])), (a1, .inl (cN, 30, .inl (fun _ => 0))), ((a 1), .inl (cE, 5, .inr (.inr (.inr (.inr (fun _ => none)))))), ((a 2), .inr (11, [.ref p1, .ref p2, .ref p3, .int 0, .long 0])), ((a 7), .inr (10, [.ref g, .int 0])), (g, .inl (cG, 8, .inr (.inr (.inr (.inr og))))), (b0, .inr (5, [.int 0, .ref dz, .int 0])), (b1, .inr (5, [.int 0, .ref dz, .int 0])), (b3, .inr (5, [.int 0, .ref dz, .int 0])), (oL, .inl (cL, 1, .inr (.inl (fun _ => 0)))), (oD, .inl (cD, 1, .inr (.inr (.inr (.inl (fun _ => 0)))))), (mo, .inr (23, [.int 1, .ref b0, .ref b1, .ref b2, .ref b3, .int 0, .int 0, .long 0])), (b2, .inr (5, [.int 0, .ref dz, .int 0]))] ++ va_pl LR (zrow cI)) H := hP
    subst hw
    refine lv_iload hx hb dL_law_483 (lv_at hl 1 rfl) ?_
    refine lv_icmp_eq (tgt := 490) hx hb dL_law_485 (by decide) (fun _ => ?_) (fun c => absurd (by decide) c)
    refine lv_iload hx hb dL_law_490 (lv_at hl 1 rfl) ?_
    refine lv_if_ne (tgt := 514) hx hb dL_law_492 (by decide) (fun _ => ?_) (fun c => absurd c (by decide))
    refine lv_goto (tgt := 2497) hx hb dL_law_514 (by decide) ?_
    refine W.widen (k := 600) (n := 8000) (by omega) (by omega) ?_
    exact kk H _ hS ls (lv_sub hl [2, 7] rfl)
