/-! printed rows that this part uses -/
theorem dL_law_641 : decode cL_law 641 = .ok (.aload_n 1, 1) := by decide +kernel
theorem dL_law_642 : decode cL_law 642 = .ok (.aload_n 0, 1) := by decide +kernel
theorem dL_law_643 : decode cL_law 643 = .ok (.iload 5, 2) := by decide +kernel
theorem dL_law_645 : decode cL_law 645 = .ok (.iconst 1, 1) := by decide +kernel
theorem dL_law_646 : decode cL_law 646 = .ok (.iadd, 1) := by decide +kernel
theorem dL_law_647 : decode cL_law 647 = .ok (.iaload, 1) := by decide +kernel
theorem dL_law_648 : decode cL_law 648 = .ok (.aload_n 3, 1) := by decide +kernel
theorem dL_law_649 : decode cL_law 649 = .ok (.invokestatic 157, 3) := by decide +kernel
theorem dL_law_652 : decode cL_law 652 = .ok (.istore 6, 2) := by decide +kernel
theorem dL_law_654 : decode cL_law 654 = .ok (.aload_n 2, 1) := by decide +kernel
theorem dL_law_655 : decode cL_law 655 = .ok (.aload_n 0, 1) := by decide +kernel
theorem dL_law_656 : decode cL_law 656 = .ok (.iload 5, 2) := by decide +kernel
theorem dL_law_658 : decode cL_law 658 = .ok (.iconst 1, 1) := by decide +kernel
theorem dL_law_659 : decode cL_law 659 = .ok (.iadd, 1) := by decide +kernel
theorem dL_law_660 : decode cL_law 660 = .ok (.iaload, 1) := by decide +kernel
theorem dL_law_661 : decode cL_law 661 = .ok (.invokevirtual 159, 3) := by decide +kernel
theorem dL_law_664 : decode cL_law 664 = .ok (.istore 7, 2) := by decide +kernel
theorem dL_law_666 : decode cL_law 666 = .ok (.aload_n 2, 1) := by decide +kernel
theorem dL_law_667 : decode cL_law 667 = .ok (.invokevirtual 134, 3) := by decide +kernel
theorem dL_law_670 : decode cL_law 670 = .ok (.iload 6, 2) := by decide +kernel
theorem dL_law_672 : decode cL_law 672 = .ok (.if_icmp .eq 5, 3) := by decide +kernel
theorem dL_law_677 : decode cL_law 677 = .ok (.iload 6, 2) := by decide +kernel
theorem dL_law_679 : decode cL_law 679 = .ok (.ifCond .ne 15, 3) := by decide +kernel
theorem dL_law_682 : decode cL_law 682 = .ok (.aload_n 3, 1) := by decide +kernel
theorem dL_law_683 : decode cL_law 683 = .ok (.iconst 0, 1) := by decide +kernel
theorem dL_law_684 : decode cL_law 684 = .ok (.laload, 1) := by decide +kernel
theorem dL_law_685 : decode cL_law 685 = .ok (.iload 7, 2) := by decide +kernel
theorem dL_law_687 : decode cL_law 687 = .ok (.i2l, 1) := by decide +kernel
theorem dL_law_688 : decode cL_law 688 = .ok (.lcmp, 1) := by decide +kernel
theorem dL_law_689 : decode cL_law 689 = .ok (.ifCond .eq 5, 3) := by decide +kernel
theorem dL_law_694 : decode cL_law 694 = .ok (.goto 1803, 3) := by decide +kernel
/-! a case of the law's switch -/
def w_lc_pass_ok : List Cond := .methodLink RL 157 yL_pass :: ([.methodLink RL 157 yL_pass, .static yL_pass, .initialized RL, .methodLink RL 159 yX17_pass, .instanceMethod yX17_pass, .selects RX17 yX17_pass yX17_pass, .initialized RX17, .methodLink RL 134 yX17_thrown, .instanceMethod yX17_thrown, .selects RX17 yX17_thrown yX17_thrown] ++ (zl_pass_ok9 ++ (zX17_pass_ws ++ (zm_thr9 ++ ([])))))
set_option maxHeartbeats 4000000 in
set_option maxRecDepth 100000 in
theorem w_lc_pass_ok_in : ∀ w ∈ w_lc_pass_ok, w ∈ lw_tbl := by decide +kernel
set_option maxHeartbeats 4000000 in
set_option maxRecDepth 100000 in
/-- the law's call of pass (ok) -/
theorem lc_pass_ok {p : Program} {e : Env} {s : State} {m : MethodId} {below : List Frame} {meth : Method} {c : Code} {A : Nat → Prop} {Q : State → Prop} {b : Nat} {xs : Nat → Int32} (l : Launch) (hst : l.stackTraces = false) (D : va_G) (h0 : Nat) (a : Nat → Nat) (a1 a2 cN cE p1 p2 p3 g : Nat) (og : Nat → Option Nat) (LR : List Nat) (cG cI : Nat) (mo b0 b1 b2 b3 dz sa va oL oD cL cD : Nat) (x1 x2 x3 x4 x5 x6 : Int32) (hx : p.tables.exec = Jvm.exec) (hb : c.code = cL_law) (hml : c.maxLocals = 9) (hts : ∀ w ∈ w_lc_pass_ok, w.before #[Value.ref b] s = true) (hown : s.vm.findClass RL = some m.cls) (hX : va_X b 7 xs s s.heap) (hbl : b < s.heap.size) (hA : ∀ q : Nat, s.heap.size ≤ q → A q) (hbA : ¬ A b) (hz : zX A s s.heap) (hm : zMS dz sa va A s s.heap) (hg : ∀ i, i < 8 → ∃ y, og i = some y ∧ y ∈ LR) (e1 : xs (1 : Int32).toNatClampNeg = x1) (e2 : xs (2 : Int32).toNatClampNeg = x2) (e3 : xs (3 : Int32).toNatClampNeg = x3) (e4 : xs (4 : Int32).toNatClampNeg = x4) (e5 : xs (5 : Int32).toNatClampNeg = x5) (e6 : xs (6 : Int32).toNatClampNeg = x6) (h : zin x1 1 9999 = 1) (kk : ∀ (H : Heap) (locs : List Loc), va_S A s.heap H locs → ∀ ls : Array Slot, lv_has ls 9 [(0, .ref b), (5, .int 0)] → W p l e room_1 s m #[Value.ref b] below meth c H locs 600 8000 Q (F0 m 2497 ls [])) (H : Heap) (locs : List Loc) (ls : Array Slot) (hP : va_P D vwCl ([(h0, .inr (17, zHS a)), ((a 0), .inr (6, [.ref a1, .ref a2, .int 0])), (a1, .inl (cN, 30, .inl (fun _ => 0))), ((a 1), .inl (cE, 5, .inr (.inr (.inr (.inr (fun _ => none)))))), ((a 2), .inr (11, [.ref p1, .ref p2, .ref p3, .int 0, .long 0])), ((a 7), .inr (10, [.ref g, .int 0])), (g, .inl (cG, 8, .inr (.inr (.inr (.inr og))))), (mo, .inr (23, [.int 0, .ref b0, .ref b1, .ref b2, .ref b3, .int 0, .int 0, .long 0])), (b0, .inr (5, [.int 0, .ref dz, .int 0])), (b1, .inr (5, [.int 0, .ref dz, .int 0])), (b2, .inr (5, [.int 0, .ref dz, .int 0])), (b3, .inr (5, [.int 0, .ref dz, .int 0])), (oL, .inl (cL, 1, .inr (.inl (fun _ => 0)))), (oD, .inl (cD, 1, .inr (.inr (.inr (.inl (fun _ => 0))))))] ++ va_pl LR (zrow cI)) H) (hD : va_D A ([(h0, .inr (17, zHS a)), ((a 0), .inr (6, [.ref a1, .ref a2, .int 0])), (a1, .inl (cN, 30, .inl (fun _ => 0))), ((a 1), .inl (cE, 5, .inr (.inr (.inr (.inr (fun _ => none)))))), ((a 2), .inr (11, [.ref p1, .ref p2, .ref p3, .int 0, .long 0])), ((a 7), .inr (10, [.ref g, .int 0])), (g, .inl (cG, 8, .inr (.inr (.inr (.inr og))))), (mo, .inr (23, [.int 0, .ref b0, .ref b1, .ref b2, .ref b3, .int 0, .int 0, .long 0])), (b0, .inr (5, [.int 0, .ref dz, .int 0])), (b1, .inr (5, [.int 0, .ref dz, .int 0])), (b2, .inr (5, [.int 0, .ref dz, .int 0])), (b3, .inr (5, [.int 0, .ref dz, .int 0])), (oL, .inl (cL, 1, .inr (.inl (fun _ => 0)))), (oD, .inl (cD, 1, .inr (.inr (.inr (.inl (fun _ => 0))))))] ++ va_pl LR (zrow cI))) (hK : va_K D vwCl [(cN, .int), (cE, .object "HeatStadium$Event"), (cG, .array .int), (cI, .int), (cL, .long), (cD, .double)] s) (hS : va_S A s.heap H locs) (hl : lv_has ls 9 [(0, .ref b), (1, .ref h0), (2, .ref mo), (3, .ref oL), (4, .ref oD), (5, .int 0)]) : W p l e room_1 s m #[Value.ref b] below meth c H locs 200 3000 Q (F0 m 641 ls []) := by
  refine lv_aload_n hx hb dL_law_641 rfl (lv_at hl 1 rfl) ?_
  refine lv_aload_n hx hb dL_law_642 rfl (lv_at hl 0 rfl) ?_
  refine lv_iload hx hb dL_law_643 (lv_at hl 5 rfl) ?_
  refine lv_iconst (v := 1) hx hb dL_law_645 (by decide) ?_
  refine lv_iadd hx hb dL_law_646 ?_
  refine lv_topi (fun z1 ez1 => ?_)
  obtain rfl : z1 = 1 := ez1.trans (by decide)
  refine va_sld hx hb hX hbl hbA hS (show vp_in 1 7 by unfold vp_in; decide) dL_law_647 ?_
  rw [e1]
  refine lv_aload_n hx hb dL_law_648 rfl (lv_at hl 3 rfl) ?_
  have hPc := hP.sub (ws' := [(h0, .inr (17, zHS a)), (oL, .inl (cL, 1, .inr (.inl (fun _ => 0))))]) [0, 12] rfl
  have hDc := hD.sub (ws' := [(h0, .inr (17, zHS a)), (oL, .inl (cL, 1, .inr (.inl (fun _ => 0))))]) [0, 12] (by decide) rfl
  have hKc := hK.sub (tys' := [(cL, .long)]) [4] rfl
  have hFc := va_free (wc := [(h0, .inr (17, zHS a)), (oL, .inl (cL, 1, .inr (.inl (fun _ => 0))))]) hD hS hA [0, 12] rfl
  refine vx_calli (vx_runSX (As := [.ref h0, .int x1, .ref oL]) (rest := []) ⟨hx, hb, hml, hown, hts⟩ (cl_pass_ok9 l hst D H.size h0 a cL (fun _ => 0) x1 oL h) (vx_cwSW 3 hts (goodIn_app (goodIn_of _ (by decide +kernel)) (goodIn_sub (fun _ h => List.mem_cons_of_mem _ (List.mem_append_right _ (List.mem_append_left _ h))) zl_pass_ok9_good)) rfl rfl rfl (by decide +kernel) ⟨Nat.le_of_ble_eq_true rfl, Nat.le_of_ble_eq_true rfl⟩) ⟨zPre.blind, zPre.mk hPc hKc hDc hz hS (fun q h => hFc q h)⟩ rfl rfl hl.1 rfl (lv_room (Nat.le_of_ble_eq_true rfl)) dL_law_649 ⟨Nat.le_of_ble_eq_true rfl, Nat.le_of_ble_eq_true rfl⟩) hS (fun q _ h => hFc q h) (fun q h => hFc q h) (fun q _ h => hFc q h) (fun E9 ce q9 u t H1 locs ht9 hvm hpx hBX hz1 hk1 hS hcell hv9 hcl => ?_) (fun r9 u t H1 locs ht9 hvm hw hB hz1 hk1 hS => ?_)
  · exact False.elim hpx
  refine W.widen (k := 201) (n := 3006) (by omega) (by omega) ?_
  obtain ⟨hP1, hK1, hD1⟩ := hB
  rw [ht9] at hP1
  have hK1 := va_K.moved hvm.symm hK1
  obtain ⟨hP, hD⟩ := va_joinQ (wr := [((a 0), .inr (6, [.ref a1, .ref a2, .int 0])), (a1, .inl (cN, 30, .inl (fun _ => 0))), ((a 1), .inl (cE, 5, .inr (.inr (.inr (.inr (fun _ => none)))))), ((a 2), .inr (11, [.ref p1, .ref p2, .ref p3, .int 0, .long 0])), ((a 7), .inr (10, [.ref g, .int 0])), (g, .inl (cG, 8, .inr (.inr (.inr (.inr og))))), (mo, .inr (23, [.int 0, .ref b0, .ref b1, .ref b2, .ref b3, .int 0, .int 0, .long 0])), (b0, .inr (5, [.int 0, .ref dz, .int 0])), (b1, .inr (5, [.int 0, .ref dz, .int 0])), (b2, .inr (5, [.int 0, .ref dz, .int 0])), (b3, .inr (5, [.int 0, .ref dz, .int 0])), (oD, .inl (cD, 1, .inr (.inr (.inr (.inl (fun _ => 0))))))]) (w1 := [(oL, .inl (cL, 1, .inr (.inl (vp_updL (fun _ => 0) (0 : Int32).toNatClampNeg ((0 + x1 : Int32).toInt64)))))]) hP hD [0, 12] [1, 2, 3, 4, 5, 6, 7, 8, 9, 10, 11, 13] rfl rfl (by decide) (by decide) hk1 hFc hP1 hD1
  have hK := (hK.sub (tys' := [(cN, .int), (cE, .object "HeatStadium$Event"), (cG, .array .int), (cI, .int), (cD, .double)]) [0, 1, 2, 3, 5] rfl).app hK1
  generalize H1 = H at hP hS ⊢
  have hP : va_P D vwCl ([((a 0), .inr (6, [.ref a1, .ref a2, .int 0])), (a1, .inl (cN, 30, .inl (fun _ => 0))), ((a 1), .inl (cE, 5, .inr (.inr (.inr (.inr (fun _ => none)))))), ((a 2), .inr (11, [.ref p1, .ref p2, .ref p3, .int 0, .long 0])), ((a 7), .inr (10, [.ref g, .int 0])), (g, .inl (cG, 8, .inr (.inr (.inr (.inr og))))), (mo, .inr (23, [.int 0, .ref b0, .ref b1, .ref b2, .ref b3, .int 0, .int 0, .long 0])), (b0, .inr (5, [.int 0, .ref dz, .int 0])), (b1, .inr (5, [.int 0, .ref dz, .int 0])), (b2, .inr (5, [.int 0, .ref dz, .int 0])), (b3, .inr (5, [.int 0, .ref dz, .int 0])), (oD, .inl (cD, 1, .inr (.inr (.inr (.inl (fun _ => 0)))))), (oL, .inl (cL, 1, .inr (.inl (vp_updL (fun _ => 0) (0 : Int32).toNatClampNeg ((0 + x1 : Int32).toInt64)))))] ++ va_pl LR (zrow cI)) H := hP
  have hD : va_D A ([((a 0), .inr (6, [.ref a1, .ref a2, .int 0])), (a1, .inl (cN, 30, .inl (fun _ => 0))), ((a 1), .inl (cE, 5, .inr (.inr (.inr (.inr (fun _ => none)))))), ((a 2), .inr (11, [.ref p1, .ref p2, .ref p3, .int 0, .long 0])), ((a 7), .inr (10, [.ref g, .int 0])), (g, .inl (cG, 8, .inr (.inr (.inr (.inr og))))), (mo, .inr (23, [.int 0, .ref b0, .ref b1, .ref b2, .ref b3, .int 0, .int 0, .long 0])), (b0, .inr (5, [.int 0, .ref dz, .int 0])), (b1, .inr (5, [.int 0, .ref dz, .int 0])), (b2, .inr (5, [.int 0, .ref dz, .int 0])), (b3, .inr (5, [.int 0, .ref dz, .int 0])), (oD, .inl (cD, 1, .inr (.inr (.inr (.inl (fun _ => 0)))))), (oL, .inl (cL, 1, .inr (.inl (vp_updL (fun _ => 0) (0 : Int32).toNatClampNeg ((0 + x1 : Int32).toInt64)))))] ++ va_pl LR (zrow cI)) := hD
  have hK : va_K D vwCl [(cN, .int), (cE, .object "HeatStadium$Event"), (cG, .array .int), (cI, .int), (cD, .double), (cL, .long)] s := hK
  subst hw
  refine lv_istore (lv' := [(6, .int 0), (0, .ref b), (1, .ref h0), (2, .ref mo), (3, .ref oL), (4, .ref oD), (5, .int 0)]) hx hb dL_law_652 hl (by decide) rfl (fun ls hl => ?_)
  refine lv_aload_n hx hb dL_law_654 rfl (lv_at hl 3 rfl) ?_
  refine lv_aload_n hx hb dL_law_655 rfl (lv_at hl 1 rfl) ?_
  refine lv_iload hx hb dL_law_656 (lv_at hl 6 rfl) ?_
  refine lv_iconst (v := 1) hx hb dL_law_658 (by decide) ?_
  refine lv_iadd hx hb dL_law_659 ?_
  refine lv_topi (fun z2 ez2 => ?_)
  obtain rfl : z2 = 1 := ez2.trans (by decide)
  refine va_sld hx hb hX hbl hbA hS (show vp_in 1 7 by unfold vp_in; decide) dL_law_660 ?_
  rw [e1]
  have hPc := hP.sub (ws' := [(mo, .inr (23, [.int 0, .ref b0, .ref b1, .ref b2, .ref b3, .int 0, .int 0, .long 0]))]) [6] rfl
  have hDc := hD.sub (ws' := [(mo, .inr (23, [.int 0, .ref b0, .ref b1, .ref b2, .ref b3, .int 0, .int 0, .long 0]))]) [6] (by decide) rfl
  have hKc := hK.sub (tys' := []) [] rfl
  have hFc := va_free (wc := [(mo, .inr (23, [.int 0, .ref b0, .ref b1, .ref b2, .ref b3, .int 0, .int 0, .long 0]))]) hD hS hA [6] rfl
  refine va_calli (va_runV (As := [.int x1]) (rest := []) ⟨hx, hb, hml, hown, hts⟩ (cm_pass_ok l hst D H.size mo b0 b1 b2 b3 dz 0 x1 h) (cwV 1 hts (goodIn_app (goodIn_of _ (by decide +kernel)) (goodIn_sub (fun _ h => List.mem_cons_of_mem _ (List.mem_append_right _ (List.mem_append_right _ (List.mem_append_left _ h)))) zX17_pass_ws_good)) rfl rfl rfl (by decide +kernel) ⟨Nat.le_of_ble_eq_true rfl, Nat.le_of_ble_eq_true rfl⟩) ⟨zPre.blind, va_recv hKc hPc (ci := 23) (q0 := 0) rfl rfl, zPre.mk hPc hKc hDc hz hS (fun q h => hFc q h)⟩ rfl rfl hl.1 rfl (lv_room (Nat.le_of_ble_eq_true rfl)) dL_law_661 ⟨Nat.le_of_ble_eq_true rfl, Nat.le_of_ble_eq_true rfl⟩) hS (fun q _ h => hFc q h) (fun q h => hFc q h) (fun r9 u t H1 locs ht9 hvm hw hB hz1 hk1 hS => ?_)
  refine W.widen (k := 201) (n := 3006) (by omega) (by omega) ?_
  obtain ⟨hP1, hK1, hD1⟩ := hB
  rw [ht9] at hP1
  have hK1 := va_K.moved hvm.symm hK1
  obtain ⟨hP, hD⟩ := va_joinQ (wr := [((a 0), .inr (6, [.ref a1, .ref a2, .int 0])), (a1, .inl (cN, 30, .inl (fun _ => 0))), ((a 1), .inl (cE, 5, .inr (.inr (.inr (.inr (fun _ => none)))))), ((a 2), .inr (11, [.ref p1, .ref p2, .ref p3, .int 0, .long 0])), ((a 7), .inr (10, [.ref g, .int 0])), (g, .inl (cG, 8, .inr (.inr (.inr (.inr og))))), (b0, .inr (5, [.int 0, .ref dz, .int 0])), (b1, .inr (5, [.int 0, .ref dz, .int 0])), (b2, .inr (5, [.int 0, .ref dz, .int 0])), (b3, .inr (5, [.int 0, .ref dz, .int 0])), (oD, .inl (cD, 1, .inr (.inr (.inr (.inl (fun _ => 0)))))), (oL, .inl (cL, 1, .inr (.inl (vp_updL (fun _ => 0) (0 : Int32).toNatClampNeg ((0 + x1 : Int32).toInt64)))))]) (w1 := [(mo, .inr (23, [.int 0, .ref b0, .ref b1, .ref b2, .ref b3, .int (0 + x1), .int 0, .long 0]))]) hP hD [6] [0, 1, 2, 3, 4, 5, 7, 8, 9, 10, 11, 12] rfl rfl (by decide) (by decide) hk1 hFc hP1 hD1
  have hK := (hK.sub (tys' := [(cN, .int), (cE, .object "HeatStadium$Event"), (cG, .array .int), (cI, .int), (cD, .double), (cL, .long)]) [0, 1, 2, 3, 4, 5] rfl).app hK1
  generalize H1 = H at hP hS ⊢
  have hP : va_P D vwCl ([((a 0), .inr (6, [.ref a1, .ref a2, .int 0])), (a1, .inl (cN, 30, .inl (fun _ => 0))), ((a 1), .inl (cE, 5, .inr (.inr (.inr (.inr (fun _ => none)))))), ((a 2), .inr (11, [.ref p1, .ref p2, .ref p3, .int 0, .long 0])), ((a 7), .inr (10, [.ref g, .int 0])), (g, .inl (cG, 8, .inr (.inr (.inr (.inr og))))), (b0, .inr (5, [.int 0, .ref dz, .int 0])), (b1, .inr (5, [.int 0, .ref dz, .int 0])), (b2, .inr (5, [.int 0, .ref dz, .int 0])), (b3, .inr (5, [.int 0, .ref dz, .int 0])), (oD, .inl (cD, 1, .inr (.inr (.inr (.inl (fun _ => 0)))))), (oL, .inl (cL, 1, .inr (.inl (vp_updL (fun _ => 0) (0 : Int32).toNatClampNeg ((0 + x1 : Int32).toInt64))))), (mo, .inr (23, [.int 0, .ref b0, .ref b1, .ref b2, .ref b3, .int (0 + x1), .int 0, .long 0]))] ++ va_pl LR (zrow cI)) H := hP
  have hD : va_D A ([((a 0), .inr (6, [.ref a1, .ref a2, .int 0])), (a1, .inl (cN, 30, .inl (fun _ => 0))), ((a 1), .inl (cE, 5, .inr (.inr (.inr (.inr (fun _ => none)))))), ((a 2), .inr (11, [.ref p1, .ref p2, .ref p3, .int 0, .long 0])), ((a 7), .inr (10, [.ref g, .int 0])), (g, .inl (cG, 8, .inr (.inr (.inr (.inr og))))), (b0, .inr (5, [.int 0, .ref dz, .int 0])), (b1, .inr (5, [.int 0, .ref dz, .int 0])), (b2, .inr (5, [.int 0, .ref dz, .int 0])), (b3, .inr (5, [.int 0, .ref dz, .int 0])), (oD, .inl (cD, 1, .inr (.inr (.inr (.inl (fun _ => 0)))))), (oL, .inl (cL, 1, .inr (.inl (vp_updL (fun _ => 0) (0 : Int32).toNatClampNeg ((0 + x1 : Int32).toInt64))))), (mo, .inr (23, [.int 0, .ref b0, .ref b1, .ref b2, .ref b3, .int (0 + x1), .int 0, .long 0]))] ++ va_pl LR (zrow cI)) := hD
  have hK : va_K D vwCl [(cN, .int), (cE, .object "HeatStadium$Event"), (cG, .array .int), (cI, .int), (cD, .double), (cL, .long)] s := hK
  subst hw
  refine lv_istore (lv' := [(7, .int (0 + x1)), (6, .int 0), (0, .ref b), (1, .ref h0), (2, .ref mo), (3, .ref oL), (4, .ref oD), (5, .int 0)]) hx hb dL_law_664 hl (by decide) rfl (fun ls hl => ?_)
  refine lv_aload_n hx hb dL_law_666 rfl (lv_at hl 4 rfl) ?_
  have hPc := hP.sub (ws' := [(mo, .inr (23, [.int 0, .ref b0, .ref b1, .ref b2, .ref b3, .int (0 + x1), .int 0, .long 0]))]) [12] rfl
  have hDc := hD.sub (ws' := [(mo, .inr (23, [.int 0, .ref b0, .ref b1, .ref b2, .ref b3, .int (0 + x1), .int 0, .long 0]))]) [12] (by decide) rfl
  have hKc := hK.sub (tys' := []) [] rfl
  have hFc : ∀ q : Nat, H.size ≤ q → A q := fun q h => hA q (Nat.le_trans hS.1 h)
  refine va_calli (va_runV (As := []) (rest := []) ⟨hx, hb, hml, hown, hts⟩ (cm_thrown9 l hst D H.size mo b0 b1 b2 b3 0 (0 + x1)) (cwV 0 hts (goodIn_app (goodIn_of _ (by decide +kernel)) (goodIn_sub (fun _ h => List.mem_cons_of_mem _ (List.mem_append_right _ (List.mem_append_right _ (List.mem_append_right _ (List.mem_append_left _ h))))) zm_thr9_good)) rfl rfl rfl (by decide +kernel) ⟨Nat.le_of_ble_eq_true rfl, Nat.le_of_ble_eq_true rfl⟩) ⟨zPre.blind, va_recv hKc hPc (ci := 23) (q0 := 0) rfl rfl, zPre.mk hPc hKc hDc hz hS (fun q h => hFc q h)⟩ rfl rfl hl.1 rfl (lv_room (Nat.le_of_ble_eq_true rfl)) dL_law_667 ⟨Nat.le_of_ble_eq_true rfl, Nat.le_of_ble_eq_true rfl⟩) hS (fun q _ h => hFc q h) (fun q h => hFc q h) (fun r9 u t H1 locs ht9 hvm hw hB hz1 hk1 hS => ?_)
  refine W.widen (k := 201) (n := 3006) (by omega) (by omega) ?_
  have hP := zKeep hP hk1
  generalize H1 = H at hP hS ⊢
  have hP : va_P D vwCl ([((a 0), .inr (6, [.ref a1, .ref a2, .int 0])), (a1, .inl (cN, 30, .inl (fun _ => 0))), ((a 1), .inl (cE, 5, .inr (.inr (.inr (.inr (fun _ => none)))))), ((a 2), .inr (11, [.ref p1, .ref p2, .ref p3, .int 0, .long 0])), ((a 7), .inr (10, [.ref g, .int 0])), (g, .inl (cG, 8, .inr (.inr (.inr (.inr og))))), (b0, .inr (5, [.int 0, .ref dz, .int 0])), (b1, .inr (5, [.int 0, .ref dz, .int 0])), (b2, .inr (5, [.int 0, .ref dz, .int 0])), (b3, .inr (5, [.int 0, .ref dz, .int 0])), (oD, .inl (cD, 1, .inr (.inr (.inr (.inl (fun _ => 0)))))), (oL, .inl (cL, 1, .inr (.inl (vp_updL (fun _ => 0) (0 : Int32).toNatClampNeg ((0 + x1 : Int32).toInt64))))), (mo, .inr (23, [.int 0, .ref b0, .ref b1, .ref b2, .ref b3, .int (0 + x1), .int 0, .long 0]))] ++ va_pl LR (zrow cI)) H := hP
  subst hw
  refine lv_iload hx hb dL_law_670 (lv_at hl 1 rfl) ?_
  refine lv_icmp_eq (tgt := 677) hx hb dL_law_672 (by decide) (fun _ => ?_) (fun c => absurd (by decide) c)
  refine lv_iload hx hb dL_law_677 (lv_at hl 1 rfl) ?_
  refine lv_if_ne (tgt := 694) hx hb dL_law_679 (by decide) (fun c => absurd (by decide) c) (fun _ => ?_)
  refine lv_aload_n hx hb dL_law_682 rfl (lv_at hl 5 rfl) ?_
  refine lv_iconst (v := 0) hx hb dL_law_683 (by decide) ?_
  refine va_lald hx hb hK hP 11 5 rfl rfl (show vp_in 0 1 by unfold vp_in; decide) dL_law_684 ?_
  rw [zupdL]
  refine lv_iload hx hb dL_law_685 (lv_at hl 0 rfl) ?_
  refine lv_i2l hx hb dL_law_687 rfl ?_
  refine W.lcmp hx hb dL_law_688 ?_
  rw [zcmpL]
  refine lv_if_eq (tgt := 694) hx hb dL_law_689 (by decide) (fun _ => ?_) (fun c => absurd (by decide) c)
  refine lv_goto (tgt := 2497) hx hb dL_law_694 (by decide) ?_
  refine W.widen (k := 600) (n := 8000) (by omega) (by omega) ?_
  exact kk H _ hS ls (lv_sub hl [2, 7] rfl)
