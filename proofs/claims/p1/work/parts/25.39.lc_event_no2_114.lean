/-! a case of the law's switch -/
def w_lc_event_no2_114 : List Cond := .methodLink RL 138 yL_event :: ([.methodLink RL 138 yL_event, .static yL_event, .initialized RL, .methodLink RL 141 yX17_event, .instanceMethod yX17_event, .selects RX17 yX17_event yX17_event, .initialized RX17, .methodLink RL 134 yX17_thrown, .instanceMethod yX17_thrown, .selects RX17 yX17_thrown yX17_thrown] ++ (zl_event_no2 ++ (zmev_no2_114 ++ (zX17_thrown_ws ++ ([])))))
set_option maxHeartbeats 4000000 in
set_option maxRecDepth 100000 in
theorem w_lc_event_no2_114_in : ∀ w ∈ w_lc_event_no2_114, w ∈ lw_tbl := List.forall_mem_cons.mpr ⟨by decide +kernel, List.forall_mem_append.mpr ⟨by decide +kernel, List.forall_mem_append.mpr ⟨(by decide +kernel), List.forall_mem_append.mpr ⟨(by decide +kernel), List.forall_mem_append.mpr ⟨zX17_thrown_ws_in9, fun _ h => absurd h List.not_mem_nil⟩⟩⟩⟩⟩
set_option maxHeartbeats 4000000 in
set_option maxRecDepth 100000 in
/-- the law's call of event (no2_114) -/
theorem lc_event_no2_114 {p : Program} {e : Env} {s : State} {m : MethodId} {below : List Frame} {meth : Method} {c : Code} {A : Nat → Prop} {Q : State → Prop} {b : Nat} {xs : Nat → Int32} (l : Launch) (hst : l.stackTraces = false) (D : va_G) (h0 : Nat) (a : Nat → Nat) (a1 a2 cN cE p1 p2 p3 g : Nat) (og : Nat → Option Nat) (LR : List Nat) (cG cI : Nat) (mo b0 b1 b2 b3 dz sa va oL oD cL cD : Nat) (x1 x2 x3 x4 x5 x6 : Int32) (hx : p.tables.exec = Jvm.exec) (hb : c.code = cL_law) (hml : c.maxLocals = 9) (hts : ∀ w ∈ w_lc_event_no2_114, w.before #[Value.ref b] s = true) (hown : s.vm.findClass RL = some m.cls) (hX : va_X b 7 xs s s.heap) (hbl : b < s.heap.size) (hA : ∀ q : Nat, s.heap.size ≤ q → A q) (hbA : ¬ A b) (hz : zX A s s.heap) (hm : zMS dz sa va A s s.heap) (hg : ∀ i, i < 8 → ∃ y, og i = some y ∧ y ∈ LR) (e1 : xs (1 : Int32).toNatClampNeg = x1) (e2 : xs (2 : Int32).toNatClampNeg = x2) (e3 : xs (3 : Int32).toNatClampNeg = x3) (e4 : xs (4 : Int32).toNatClampNeg = x4) (e5 : xs (5 : Int32).toNatClampNeg = x5) (e6 : xs (6 : Int32).toNatClampNeg = x6) (hc1 : (x1.toUInt32 % 65536).toInt32 = 114) (h2 : zin x2 1 999999 = 0) (kk : ∀ (H : Heap) (locs : List Loc), va_S A s.heap H locs → ∀ ls : Array Slot, lv_has ls 9 [(0, .ref b), (5, .int 0)] → W p l e room_1 s m #[Value.ref b] below meth c H locs 600 8000 Q (F0 m 2497 ls [])) (H : Heap) (locs : List Loc) (ls : Array Slot) (hP : va_P D vwCl ([(h0, .inr (17, zHS a)), ((a 0), .inr (6, [.ref a1, .ref a2, .int 0])), (a1, .inl (cN, 30, .inl (fun _ => 0))), ((a 1), .inl (cE, 5, .inr (.inr (.inr (.inr (fun _ => none)))))), ((a 2), .inr (11, [.ref p1, .ref p2, .ref p3, .int 0, .long 0])), ((a 7), .inr (10, [.ref g, .int 0])), (g, .inl (cG, 8, .inr (.inr (.inr (.inr og))))), (mo, .inr (23, [.int 0, .ref b0, .ref b1, .ref b2, .ref b3, .int 0, .int 0, .long 0])), (b0, .inr (5, [.int 0, .ref dz, .int 0])), (b1, .inr (5, [.int 0, .ref dz, .int 0])), (b2, .inr (5, [.int 0, .ref dz, .int 0])), (b3, .inr (5, [.int 0, .ref dz, .int 0])), (oL, .inl (cL, 1, .inr (.inl (fun _ => 0)))), (oD, .inl (cD, 1, .inr (.inr (.inr (.inl (fun _ => 0))))))] ++ va_pl LR (zrow cI)) H) (hD : va_D A ([(h0, .inr (17, zHS a)), ((a 0), .inr (6, [.ref a1, .ref a2, .int 0])), (a1, .inl (cN, 30, .inl (fun _ => 0))), ((a 1), .inl (cE, 5, .inr (.inr (.inr (.inr (fun _ => none)))))), ((a 2), .inr (11, [.ref p1, .ref p2, .ref p3, .int 0, .long 0])), ((a 7), .inr (10, [.ref g, .int 0])), (g, .inl (cG, 8, .inr (.inr (.inr (.inr og))))), (mo, .inr (23, [.int 0, .ref b0, .ref b1, .ref b2, .ref b3, .int 0, .int 0, .long 0])), (b0, .inr (5, [.int 0, .ref dz, .int 0])), (b1, .inr (5, [.int 0, .ref dz, .int 0])), (b2, .inr (5, [.int 0, .ref dz, .int 0])), (b3, .inr (5, [.int 0, .ref dz, .int 0])), (oL, .inl (cL, 1, .inr (.inl (fun _ => 0)))), (oD, .inl (cD, 1, .inr (.inr (.inr (.inl (fun _ => 0))))))] ++ va_pl LR (zrow cI))) (hK : va_K D vwCl [(cN, .int), (cE, .object "HeatStadium$Event"), (cG, .array .int), (cI, .int), (cL, .long), (cD, .double)] s) (hS : va_S A s.heap H locs) (hl : lv_has ls 9 [(0, .ref b), (1, .ref h0), (2, .ref mo), (3, .ref oL), (4, .ref oD), (5, .int 0)]) : W p l e room_1 s m #[Value.ref b] below meth c H locs 200 3000 Q (F0 m 240 ls []) := by
  refine lv_aload_n hx hb dL_law_240 rfl (lv_at hl 1 rfl) ?_
  refine lv_aload_n hx hb dL_law_241 rfl (lv_at hl 0 rfl) ?_
  refine lv_iload hx hb dL_law_242 (lv_at hl 5 rfl) ?_
  refine lv_iconst (v := 1) hx hb dL_law_244 (by decide) ?_
  refine lv_iadd hx hb dL_law_245 ?_
  refine lv_topi (fun z1 ez1 => ?_)
  obtain rfl : z1 = 1 := ez1.trans (by decide)
  refine va_sld hx hb hX hbl hbA hS (show vp_in 1 7 by unfold vp_in; decide) dL_law_246 ?_
  rw [e1]
  refine lv_i2c (v := 114) hx hb dL_law_247 hc1 ?_
  refine lv_aload_n hx hb dL_law_248 rfl (lv_at hl 0 rfl) ?_
  refine lv_iload hx hb dL_law_249 (lv_at hl 5 rfl) ?_
  refine lv_iconst (v := 2) hx hb dL_law_251 (by decide) ?_
  refine lv_iadd hx hb dL_law_252 ?_
  refine lv_topi (fun z2 ez2 => ?_)
  obtain rfl : z2 = 2 := ez2.trans (by decide)
  refine va_sld hx hb hX hbl hbA hS (show vp_in 2 7 by unfold vp_in; decide) dL_law_253 ?_
  rw [e2]
  refine lv_aload_n hx hb dL_law_254 rfl (lv_at hl 0 rfl) ?_
  refine lv_iload hx hb dL_law_255 (lv_at hl 5 rfl) ?_
  refine lv_iconst (v := 3) hx hb dL_law_257 (by decide) ?_
  refine lv_iadd hx hb dL_law_258 ?_
  refine lv_topi (fun z3 ez3 => ?_)
  obtain rfl : z3 = 3 := ez3.trans (by decide)
  refine va_sld hx hb hX hbl hbA hS (show vp_in 3 7 by unfold vp_in; decide) dL_law_259 ?_
  rw [e3]
  refine lv_aload_n hx hb dL_law_260 rfl (lv_at hl 0 rfl) ?_
  refine lv_iload hx hb dL_law_261 (lv_at hl 5 rfl) ?_
  refine lv_iconst (v := 4) hx hb dL_law_263 (by decide) ?_
  refine lv_iadd hx hb dL_law_264 ?_
  refine lv_topi (fun z4 ez4 => ?_)
  obtain rfl : z4 = 4 := ez4.trans (by decide)
  refine va_sld hx hb hX hbl hbA hS (show vp_in 4 7 by unfold vp_in; decide) dL_law_265 ?_
  rw [e4]
  refine lv_aload_n hx hb dL_law_266 rfl (lv_at hl 3 rfl) ?_
  have hPc := hP.sub (ws' := [(h0, .inr (17, zHS a))]) [0] rfl
  have hDc := hD.sub (ws' := [(h0, .inr (17, zHS a))]) [0] (by decide) rfl
  have hKc := hK.sub (tys' := []) [] rfl
  have hFc : ∀ q : Nat, H.size ≤ q → A q := fun q h => hA q (Nat.le_trans hS.1 h)
  refine vx_calli (vx_runSX (As := [.ref h0, .int 114, .int x2, .int x3, .int x4, .ref oL]) (rest := []) ⟨hx, hb, hml, hown, hts⟩ (cl_event_no2 l hst D H.size h0 a 114 x2 x3 x4 oL (Or.inl rfl) h2) (vx_cwSW 6 hts (goodIn_app (goodIn_of _ (by decide +kernel)) (goodIn_sub (fun _ h => List.mem_cons_of_mem _ (List.mem_append_right _ (List.mem_append_left _ h))) zl_event_no2_good)) rfl rfl rfl (by decide +kernel) ⟨Nat.le_of_ble_eq_true rfl, Nat.le_of_ble_eq_true rfl⟩) ⟨zPre.blind, zPre.mk hPc hKc hDc hz hS (fun q h => hFc q h)⟩ rfl rfl hl.1 rfl (lv_room (Nat.le_of_ble_eq_true rfl)) dL_law_267 ⟨Nat.le_of_ble_eq_true rfl, Nat.le_of_ble_eq_true rfl⟩) hS (fun q _ h => hFc q h) (fun q h => hFc q h) (fun q _ h => hFc q h) (fun E9 ce q9 u t H1 locs ht9 hvm hpx hBX hz1 hk1 hS hcell hv9 hcl => ?_) (fun r9 u t H1 locs ht9 hvm hw hB hz1 hk1 hS => ?_)
  · exact False.elim hpx
  refine W.widen (k := 201) (n := 3006) (by omega) (by omega) ?_
  have hP := zKeep hP hk1
  generalize H1 = H at hP hS ⊢
  have hP : va_P D vwCl ([(h0, .inr (17, zHS a)), ((a 0), .inr (6, [.ref a1, .ref a2, .int 0])), (a1, .inl (cN, 30, .inl (fun _ => 0))), ((a 1), .inl (cE, 5, .inr (.inr (.inr (.inr (fun _ => none)))))), ((a 2), .inr (11, [.ref p1, .ref p2, .ref p3, .int 0, .long 0])), ((a 7), .inr (10, [.ref g, .int 0])), (g, .inl (cG, 8, .inr (.inr (.inr (.inr og))))), (mo, .inr (23, [.int 0, .ref b0, .ref b1, .ref b2, .ref b3, .int 0, .int 0, .long 0])), (b0, .inr (5, [.int 0, .ref dz, .int 0])), (b1, .inr (5, [.int 0, .ref dz, .int 0])), (b2, .inr (5, [.int 0, .ref dz, .int 0])), (b3, .inr (5, [.int 0, .ref dz, .int 0])), (oL, .inl (cL, 1, .inr (.inl (fun _ => 0)))), (oD, .inl (cD, 1, .inr (.inr (.inr (.inl (fun _ => 0))))))] ++ va_pl LR (zrow cI)) H := hP
  subst hw
  refine lv_istore (lv' := [(6, .int 1), (0, .ref b), (1, .ref h0), (2, .ref mo), (3, .ref oL), (4, .ref oD), (5, .int 0)]) hx hb dL_law_270 hl (by decide) rfl (fun ls hl => ?_)
  refine lv_aload_n hx hb dL_law_272 rfl (lv_at hl 3 rfl) ?_
  refine lv_aload_n hx hb dL_law_273 rfl (lv_at hl 1 rfl) ?_
  refine lv_iload hx hb dL_law_274 (lv_at hl 6 rfl) ?_
  refine lv_iconst (v := 1) hx hb dL_law_276 (by decide) ?_
  refine lv_iadd hx hb dL_law_277 ?_
  refine lv_topi (fun z5 ez5 => ?_)
  obtain rfl : z5 = 1 := ez5.trans (by decide)
  refine va_sld hx hb hX hbl hbA hS (show vp_in 1 7 by unfold vp_in; decide) dL_law_278 ?_
  rw [e1]
  refine lv_i2c (v := 114) hx hb dL_law_279 hc1 ?_
  refine lv_aload_n hx hb dL_law_280 rfl (lv_at hl 1 rfl) ?_
  refine lv_iload hx hb dL_law_281 (lv_at hl 6 rfl) ?_
  refine lv_iconst (v := 2) hx hb dL_law_283 (by decide) ?_
  refine lv_iadd hx hb dL_law_284 ?_
  refine lv_topi (fun z6 ez6 => ?_)
  obtain rfl : z6 = 2 := ez6.trans (by decide)
  refine va_sld hx hb hX hbl hbA hS (show vp_in 2 7 by unfold vp_in; decide) dL_law_285 ?_
  rw [e2]
  refine lv_aload_n hx hb dL_law_286 rfl (lv_at hl 1 rfl) ?_
  refine lv_iload hx hb dL_law_287 (lv_at hl 6 rfl) ?_
  refine lv_iconst (v := 3) hx hb dL_law_289 (by decide) ?_
  refine lv_iadd hx hb dL_law_290 ?_
  refine lv_topi (fun z7 ez7 => ?_)
  obtain rfl : z7 = 3 := ez7.trans (by decide)
  refine va_sld hx hb hX hbl hbA hS (show vp_in 3 7 by unfold vp_in; decide) dL_law_291 ?_
  rw [e3]
  refine lv_aload_n hx hb dL_law_292 rfl (lv_at hl 1 rfl) ?_
  refine lv_iload hx hb dL_law_293 (lv_at hl 6 rfl) ?_
  refine lv_iconst (v := 4) hx hb dL_law_295 (by decide) ?_
  refine lv_iadd hx hb dL_law_296 ?_
  refine lv_topi (fun z8 ez8 => ?_)
  obtain rfl : z8 = 4 := ez8.trans (by decide)
  refine va_sld hx hb hX hbl hbA hS (show vp_in 4 7 by unfold vp_in; decide) dL_law_297 ?_
  rw [e4]
  have hPc := hP.sub (ws' := [(mo, .inr (23, [.int 0, .ref b0, .ref b1, .ref b2, .ref b3, .int 0, .int 0, .long 0]))]) [7] rfl
  have hDc := hD.sub (ws' := [(mo, .inr (23, [.int 0, .ref b0, .ref b1, .ref b2, .ref b3, .int 0, .int 0, .long 0]))]) [7] (by decide) rfl
  have hKc := hK.sub (tys' := []) [] rfl
  have hFc := va_free (wc := [(mo, .inr (23, [.int 0, .ref b0, .ref b1, .ref b2, .ref b3, .int 0, .int 0, .long 0]))]) hD hS hA [7] rfl
  refine va_calli (va_runV (As := [.int 114, .int x2, .int x3, .int x4]) (rest := []) ⟨hx, hb, hml, hown, hts⟩ (cm_event_no2_114 l hst D H.size mo b0 b1 b2 b3 dz sa va 0 x2 x3 x4 h2) (cwV 4 hts (goodIn_app (goodIn_of _ (by decide +kernel)) (goodIn_sub (fun _ h => List.mem_cons_of_mem _ (List.mem_append_right _ (List.mem_append_right _ (List.mem_append_left _ h)))) zmev_no2_114_good)) rfl rfl rfl (by decide +kernel) ⟨Nat.le_of_ble_eq_true rfl, Nat.le_of_ble_eq_true rfl⟩) ⟨zPreX.blind (zMS_ok dz sa va), va_recv hKc hPc (ci := 23) (q0 := 0) rfl rfl, zPreX.mk (zMS_ok dz sa va) (hm) hPc hKc hDc hz hS (fun q h => hFc q h)⟩ rfl rfl hl.1 rfl (lv_room (Nat.le_of_ble_eq_true rfl)) dL_law_298 ⟨Nat.le_of_ble_eq_true rfl, Nat.le_of_ble_eq_true rfl⟩) hS (fun q _ h => hFc q h) (fun q h => hFc q h) (fun r9 u t H1 locs ht9 hvm hw hB hz1 hk1 hS => ?_)
  refine W.widen (k := 201) (n := 3006) (by omega) (by omega) ?_
  obtain ⟨hP1, hK1, hD1⟩ := hB
  rw [ht9] at hP1
  have hK1 := va_K.moved hvm.symm hK1
  obtain ⟨hP, hD⟩ := va_joinQ (wr := [(h0, .inr (17, zHS a)), ((a 0), .inr (6, [.ref a1, .ref a2, .int 0])), (a1, .inl (cN, 30, .inl (fun _ => 0))), ((a 1), .inl (cE, 5, .inr (.inr (.inr (.inr (fun _ => none)))))), ((a 2), .inr (11, [.ref p1, .ref p2, .ref p3, .int 0, .long 0])), ((a 7), .inr (10, [.ref g, .int 0])), (g, .inl (cG, 8, .inr (.inr (.inr (.inr og))))), (b0, .inr (5, [.int 0, .ref dz, .int 0])), (b1, .inr (5, [.int 0, .ref dz, .int 0])), (b2, .inr (5, [.int 0, .ref dz, .int 0])), (b3, .inr (5, [.int 0, .ref dz, .int 0])), (oL, .inl (cL, 1, .inr (.inl (fun _ => 0)))), (oD, .inl (cD, 1, .inr (.inr (.inr (.inl (fun _ => 0))))))]) (w1 := [(mo, .inr (23, [.int 1, .ref b0, .ref b1, .ref b2, .ref b3, .int 0, .int 0, .long 0]))]) hP hD [7] [0, 1, 2, 3, 4, 5, 6, 8, 9, 10, 11, 12, 13] rfl rfl (by decide) (by decide) hk1 hFc hP1 hD1
  have hK := (hK.sub (tys' := [(cN, .int), (cE, .object "HeatStadium$Event"), (cG, .array .int), (cI, .int), (cL, .long), (cD, .double)]) [0, 1, 2, 3, 4, 5] rfl).app hK1
  generalize H1 = H at hP hS ⊢
  have hP : va_P D vwCl ([(h0, .inr (17, zHS a)), ((a 0), .inr (6, [.ref a1, .ref a2, .int 0])), (a1, .inl (cN, 30, .inl (fun _ => 0))), ((a 1), .inl (cE, 5, .inr (.inr (.inr (.inr (fun _ => none)))))), ((a 2), .inr (11, [.ref p1, .ref p2, .ref p3, .int 0, .long 0])), ((a 7), .inr (10, [.ref g, .int 0])), (g, .inl (cG, 8, .inr (.inr (.inr (.inr og))))), (b0, .inr (5, [.int 0, .ref dz, .int 0])), (b1, .inr (5, [.int 0, .ref dz, .int 0])), (b2, .inr (5, [.int 0, .ref dz, .int 0])), (b3, .inr (5, [.int 0, .ref dz, .int 0])), (oL, .inl (cL, 1, .inr (.inl (fun _ => 0)))), (oD, .inl (cD, 1, .inr (.inr (.inr (.inl (fun _ => 0)))))), (mo, .inr (23, [.int 1, .ref b0, .ref b1, .ref b2, .ref b3, .int 0, .int 0, .long 0]))] ++ va_pl LR (zrow cI)) H := hP
  have hD : va_D A ([(h0, .inr (17, zHS a)), ((a 0), .inr (6, [.ref a1, .ref a2, .int 0])), (a1, .inl (cN, 30, .inl (fun _ => 0))), ((a 1), .inl (cE, 5, .inr (.inr (.inr (.inr (fun _ => none)))))), ((a 2), .inr (11, [.ref p1, .ref p2, .ref p3, .int 0, .long 0])), ((a 7), .inr (10, [.ref g, .int 0])), (g, .inl (cG, 8, .inr (.inr (.inr (.inr og))))), (b0, .inr (5, [.int 0, .ref dz, .int 0])), (b1, .inr (5, [.int 0, .ref dz, .int 0])), (b2, .inr (5, [.int 0, .ref dz, .int 0])), (b3, .inr (5, [.int 0, .ref dz, .int 0])), (oL, .inl (cL, 1, .inr (.inl (fun _ => 0)))), (oD, .inl (cD, 1, .inr (.inr (.inr (.inl (fun _ => 0)))))), (mo, .inr (23, [.int 1, .ref b0, .ref b1, .ref b2, .ref b3, .int 0, .int 0, .long 0]))] ++ va_pl LR (zrow cI)) := hD
  have hK : va_K D vwCl [(cN, .int), (cE, .object "HeatStadium$Event"), (cG, .array .int), (cI, .int), (cL, .long), (cD, .double)] s := hK
  subst hw
  refine lv_istore (lv' := [(7, .int 0), (6, .int 1), (0, .ref b), (1, .ref h0), (2, .ref mo), (3, .ref oL), (4, .ref oD), (5, .int 0)]) hx hb dL_law_301 hl (by decide) rfl (fun ls hl => ?_)
  refine lv_aload_n hx hb dL_law_303 rfl (lv_at hl 4 rfl) ?_
  have hPc := hP.sub (ws' := [(mo, .inr (23, [.int 1, .ref b0, .ref b1, .ref b2, .ref b3, .int 0, .int 0, .long 0]))]) [13] rfl
  have hDc := hD.sub (ws' := [(mo, .inr (23, [.int 1, .ref b0, .ref b1, .ref b2, .ref b3, .int 0, .int 0, .long 0]))]) [13] (by decide) rfl
  have hKc := hK.sub (tys' := []) [] rfl
  have hFc : ∀ q : Nat, H.size ≤ q → A q := fun q h => hA q (Nat.le_trans hS.1 h)
  refine va_calli (va_runV (As := []) (rest := []) ⟨hx, hb, hml, hown, hts⟩ (cm_thrown l hst D H.size mo b0 b1 b2 b3 dz 1) (cwV 0 hts (goodIn_app (goodIn_of _ (by decide +kernel)) (goodIn_sub (fun _ h => List.mem_cons_of_mem _ (List.mem_append_right _ (List.mem_append_right _ (List.mem_append_right _ (List.mem_append_left _ h))))) zX17_thrown_ws_good)) rfl rfl rfl (by decide +kernel) ⟨Nat.le_of_ble_eq_true rfl, Nat.le_of_ble_eq_true rfl⟩) ⟨zPre.blind, va_recv hKc hPc (ci := 23) (q0 := 0) rfl rfl, zPre.mk hPc hKc hDc hz hS (fun q h => hFc q h)⟩ rfl rfl hl.1 rfl (lv_room (Nat.le_of_ble_eq_true rfl)) dL_law_304 ⟨Nat.le_of_ble_eq_true rfl, Nat.le_of_ble_eq_true rfl⟩) hS (fun q _ h => hFc q h) (fun q h => hFc q h) (fun r9 u t H1 locs ht9 hvm hw hB hz1 hk1 hS => ?_)
  refine W.widen (k := 201) (n := 3006) (by omega) (by omega) ?_
  have hP := zKeep hP hk1
  generalize H1 = H at hP hS ⊢
  have hP : va_P D vwCl ([(h0, .inr (17, zHS a)), ((a 0), .inr (6, [.ref a1, .ref a2, .int 0])), (a1, .inl (cN, 30, .inl (fun _ => 0))), ((a 1), .inl (cE, 5, .inr (.inr (.inr (.inr (fun _ => none)))))), ((a 2), .inr (11, [.ref p1, .ref p2, .ref p3, .int 0, .long 0])), ((a 7), .inr (10, [.ref g, .int 0])), (g, .inl (cG, 8, .inr (.inr (.inr (.inr og))))), (b0, .inr (5, [.int 0, .ref dz, .int 0])), (b1, .inr (5, [.int 0, .ref dz, .int 0])), (b2, .inr (5, [.int 0, .ref dz, .int 0])), (b3, .inr (5, [.int 0, .ref dz, .int 0])), (oL, .inl (cL, 1, .inr (.inl (fun _ => 0)))), (oD, .inl (cD, 1, .inr (.inr (.inr (.inl (fun _ => 0)))))), (mo, .inr (23, [.int 1, .ref b0, .ref b1, .ref b2, .ref b3, .int 0, .int 0, .long 0]))] ++ va_pl LR (zrow cI)) H := hP
  subst hw
  refine lv_iload hx hb dL_law_307 (lv_at hl 1 rfl) ?_
  refine lv_icmp_eq (tgt := 314) hx hb dL_law_309 (by decide) (fun _ => ?_) (fun c => absurd (by decide) c)
  refine lv_iload hx hb dL_law_314 (lv_at hl 1 rfl) ?_
  refine lv_if_ne (tgt := 331) hx hb dL_law_316 (by decide) (fun _ => ?_) (fun c => absurd c (by decide))
  refine lv_goto (tgt := 2497) hx hb dL_law_331 (by decide) ?_
  refine W.widen (k := 600) (n := 8000) (by omega) (by omega) ?_
  exact kk H _ hS ls (lv_sub hl [2, 7] rfl)
