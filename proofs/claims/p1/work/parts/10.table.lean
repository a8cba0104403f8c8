/-! printed rows that this part uses -/
theorem dX11_medals_10 : decode cX11_medals 10 = .ok (.aload_n 0, 1) := by decide +kernel
theorem dX11_medals_11 : decode cX11_medals 11 = .ok (.invokevirtual 342, 3) := by decide +kernel
theorem dX11_medals_14 : decode cX11_medals 14 = .ok (.aload_n 0, 1) := by decide +kernel
theorem dX11_medals_15 : decode cX11_medals 15 = .ok (.getfield 60, 3) := by decide +kernel
theorem dX11_medals_18 : decode cX11_medals 18 = .ok (.getfield 345, 3) := by decide +kernel
theorem dX11_medals_21 : decode cX11_medals 21 = .ok (.iload_n 1, 1) := by decide +kernel
theorem dX11_medals_22 : decode cX11_medals 22 = .ok (.aaload, 1) := by decide +kernel
theorem dX11_medals_23 : decode cX11_medals 23 = .ok (.iload_n 2, 1) := by decide +kernel
theorem dX11_medals_24 : decode cX11_medals 24 = .ok (.iaload, 1) := by decide +kernel
theorem dX11_medals_25 : decode cX11_medals 25 = .ok (.ireturn, 1) := by decide +kernel
theorem dX11_inTable_7 : decode cX11_inTable 7 = .ok (.aload_n 0, 1) := by decide +kernel
theorem dX11_inTable_8 : decode cX11_inTable 8 = .ok (.invokevirtual 342, 3) := by decide +kernel
theorem dX11_inTable_11 : decode cX11_inTable 11 = .ok (.aload_n 0, 1) := by decide +kernel
theorem dX11_inTable_12 : decode cX11_inTable 12 = .ok (.getfield 60, 3) := by decide +kernel
theorem dX11_inTable_15 : decode cX11_inTable 15 = .ok (.iload_n 1, 1) := by decide +kernel
theorem dX11_inTable_16 : decode cX11_inTable 16 = .ok (.iload_n 2, 1) := by decide +kernel
theorem dX11_inTable_17 : decode cX11_inTable 17 = .ok (.invokevirtual 347, 3) := by decide +kernel
theorem dX11_inTable_20 : decode cX11_inTable 20 = .ok (.ireturn, 1) := by decide +kernel
theorem dX11_shareBits_4 : decode cX11_shareBits 4 = .ok (.aload_n 0, 1) := by decide +kernel
theorem dX11_shareBits_5 : decode cX11_shareBits 5 = .ok (.invokevirtual 342, 3) := by decide +kernel
theorem dX11_shareBits_8 : decode cX11_shareBits 8 = .ok (.aload_n 0, 1) := by decide +kernel
theorem dX11_shareBits_9 : decode cX11_shareBits 9 = .ok (.getfield 60, 3) := by decide +kernel
theorem dX11_shareBits_12 : decode cX11_shareBits 12 = .ok (.getfield 355, 3) := by decide +kernel
theorem dX11_shareBits_15 : decode cX11_shareBits 15 = .ok (.iconst 1, 1) := by decide +kernel
theorem dX11_shareBits_16 : decode cX11_shareBits 16 = .ok (.if_icmp .ge 14, 3) := by decide +kernel
theorem dX11_shareBits_19 : decode cX11_shareBits 19 = .ok (.new 358, 3) := by decide +kernel
theorem dX11_shareBits_22 : decode cX11_shareBits 22 = .ok (.dup, 1) := by decide +kernel
theorem dX11_shareBits_23 : decode cX11_shareBits 23 = .ok (.ldc_w 360, 3) := by decide +kernel
theorem dX11_shareBits_26 : decode cX11_shareBits 26 = .ok (.invokespecial 362, 3) := by decide +kernel
theorem dX11_shareBits_29 : decode cX11_shareBits 29 = .ok (.athrow, 1) := by decide +kernel
theorem dX11_isTrue_0 : decode cX11_isTrue 0 = .ok (.iconst 0, 1) := by decide +kernel
theorem dX11_isTrue_1 : decode cX11_isTrue 1 = .ok (.istore_n 1, 1) := by decide +kernel
theorem dX11_isTrue_2 : decode cX11_isTrue 2 = .ok (.iload_n 1, 1) := by decide +kernel
theorem dX11_isTrue_3 : decode cX11_isTrue 3 = .ok (.aload_n 0, 1) := by decide +kernel
theorem dX11_isTrue_4 : decode cX11_isTrue 4 = .ok (.getfield 64, 3) := by decide +kernel
theorem dX11_isTrue_7 : decode cX11_isTrue 7 = .ok (.if_icmp .ge 65, 3) := by decide +kernel
theorem dX11_isTrue_72 : decode cX11_isTrue 72 = .ok (.aload_n 0, 1) := by decide +kernel
theorem dX11_isTrue_73 : decode cX11_isTrue 73 = .ok (.invokevirtual 342, 3) := by decide +kernel
theorem dX11_isTrue_76 : decode cX11_isTrue 76 = .ok (.aload_n 0, 1) := by decide +kernel
theorem dX11_isTrue_77 : decode cX11_isTrue 77 = .ok (.getfield 60, 3) := by decide +kernel
theorem dX11_isTrue_80 : decode cX11_isTrue 80 = .ok (.invokevirtual 379, 3) := by decide +kernel
theorem dX11_isTrue_83 : decode cX11_isTrue 83 = .ok (.aload_n 0, 1) := by decide +kernel
theorem dX11_isTrue_84 : decode cX11_isTrue 84 = .ok (.getfield 60, 3) := by decide +kernel
theorem dX11_isTrue_87 : decode cX11_isTrue 87 = .ok (.getfield 355, 3) := by decide +kernel
theorem dX11_isTrue_90 : decode cX11_isTrue 90 = .ok (.if_icmp .ne 7, 3) := by decide +kernel
theorem dX11_isTrue_93 : decode cX11_isTrue 93 = .ok (.iconst 1, 1) := by decide +kernel
theorem dX11_isTrue_94 : decode cX11_isTrue 94 = .ok (.goto 4, 3) := by decide +kernel
theorem dX11_isTrue_98 : decode cX11_isTrue 98 = .ok (.ireturn, 1) := by decide +kernel
def zX11_medals_ws : List Cond := .code yX11_medals cX11_medals 3 (some .int) :: ([.methodLink RX11 74 yX11_requireNation, .static yX11_requireNation, .initialized RX11, .methodLink RX11 98 yX11_requireRange, .static yX11_requireRange, .methodLink RX11 342 yX11_countMedals, .instanceMethod yX11_countMedals, .selects RX11 yX11_countMedals yX11_countMedals, .fieldLink RX11 60 "HeatStadium" "table" "LHeatStadium$MedalTable;"] ++ (zrn1 ++ (zrr1 ++ (zX11_countMedals_ws ++ (wsX110 ++ (wsX40 ++ ([])))))))
theorem zX11_medals_ws_good : zX11_medals_ws.all goodWord = true := by decide +kernel
set_option maxHeartbeats 4000000 in
set_option maxRecDepth 100000 in
/-- medals of games without events: 0 -/
theorem c_medals_ok (l : Launch) (hst : l.stackTraces = false) (D : va_G) (sz : Nat) (h0 : Nat) (a : Nat → Nat) (g : Nat) (gv : Int32) (og : Nat → Option Nat) (LR : List Nat) (cG cI : ClassId) (x1 x2 : Int32) (hg : ∀ i, i < 8 → ∃ y, og i = some y ∧ y ∈ LR) (h : zin x1 0 7 = 1) (h2 : zin x2 0 3 = 1) : Met l yX11_medals zX11_medals_ws (zR 3 0 0) (zPre [.ref h0, .int x1, .int x2] D ([(h0, .inr (17, zHS a)), ((a 7), .inr (10, [.ref g, .int gv])), (g, .inl (cG, 8, .inr (.inr (.inr (.inr og)))))] ++ va_pl LR (zrow cI)) [(cG, .array .int), (cI, .int)] (va_A ([(h0, .inr (17, zHS a)), ((a 7), .inr (10, [.ref g, .int gv])), (g, .inl (cG, 8, .inr (.inr (.inr (.inr og)))))] ++ va_pl LR (zrow cI)) sz) sz) (va_Qi (S := Unit) (fun r _ => r = 0) (fun _ t => zAt D [] [(cG, .array .int), (cI, .int)] (va_A ([(h0, .inr (17, zHS a)), ((a 7), .inr (10, [.ref g, .int gv])), (g, .inl (cG, 8, .inr (.inr (.inr (.inr og)))))] ++ va_pl LR (zrow cI)) sz) t) (va_A ([(h0, .inr (17, zHS a)), ((a 7), .inr (10, [.ref g, .int gv])), (g, .inl (cG, 8, .inr (.inr (.inr (.inr og)))))] ++ va_pl LR (zrow cI)) sz)) 0 0 (va_A ([(h0, .inr (17, zHS a)), ((a 7), .inr (10, [.ref g, .int gv])), (g, .inl (cG, 8, .inr (.inr (.inr (.inr og)))))] ++ va_pl LR (zrow cI)) sz) := by
  obtain ⟨i, hi, rfl⟩ := zin_7 h
  obtain ⟨j, hj, rfl⟩ := zin_3 h2
  refine Met.ofW (cc := cX11_medals) (maxL := 3) (ret := (some .int)) (by decide) rfl ?_
  intro p e s m args below meth c s₁ B hml hv
  obtain ⟨rfl, hsz, hP, hK, hD0, hz⟩ := hv
  have hx := B.exec
  have hb := B.bytes
  have hr := B.returns
  have hts := atoms_spec (ws := zX11_medals_ws) B.pre
  have hown : s.vm.findClass RX11 = some m.cls := findClass_of_methodNamed B.named
  have hlocks := B.notSynchronized
  subst hsz
  have hD := hD0.self (sz := s.heap.size)
  generalize hAe : va_A ([(h0, .inr (17, zHS a)), ((a 7), .inr (10, [.ref g, .int gv])), (g, .inl (cG, 8, .inr (.inr (.inr (.inr og)))))] ++ va_pl LR (zrow cI)) s.heap.size = A at hD hz ⊢
  have hA : ∀ q : Nat, s.heap.size ≤ q → A q := fun q h => by rw [← hAe]; exact Or.inr h
  have hS : va_S A s.heap s.heap [] := va_S.rf
  have hP : va_P D vwCl ([(h0, .inr (17, zHS a)), ((a 7), .inr (10, [.ref g, .int gv])), (g, .inl (cG, 8, .inr (.inr (.inr (.inr og)))))] ++ va_pl LR (zrow cI)) s.heap := hP
  have hl := lv_entry ([.ref h0, .int (nI i), .int (nI j)]) (n := 3) (Nat.le_of_ble_eq_true rfl)
  rw [lg_entry_eq]
  generalize (lg_sl ([.ref h0, .int (nI i), .int (nI j)]) ++ List.replicate (3 - (lg_sl ([.ref h0, .int (nI i), .int (nI j)])).length) Slot.unset).toArray = ls at hl ⊢
  have hl : lv_has ls 3 [(0, .ref h0), (1, .int (nI i)), (2, .int (nI j))] := hl
  refine lv_iload_n hx hb dX11_medals_0 rfl (lv_at hl 1 rfl) ?_
  have hPc := hP.sub (ws' := []) [] rfl
  have hDc := hD.sub (ws' := []) [] (by decide) rfl
  have hKc := hK.sub (tys' := []) [] rfl
  have hFc : ∀ q : Nat, s.heap.size ≤ q → A q := fun q h => hA q (Nat.le_trans hS.1 h)
  refine va_callv (va_runS (As := [.int (nI i)]) (rest := []) ⟨hx, hb, hml, hown, hts⟩ (c_requireNation_ok l hst D s.heap.size (nI i) h) (cwS 1 hts (goodIn_app (goodIn_of _ (by decide +kernel)) (goodIn_sub (fun _ h => List.mem_cons_of_mem _ (List.mem_append_right _ (List.mem_append_left _ h))) zrn1_good)) rfl rfl rfl (by decide +kernel) ⟨Nat.le_of_ble_eq_true rfl, Nat.le_of_ble_eq_true rfl⟩) ⟨zPre.blind, zPre.mk hPc hKc hDc hz hS (fun q h => hFc q h)⟩ rfl rfl hl.1 rfl (lv_room (Nat.le_of_ble_eq_true rfl)) dX11_medals_1 ⟨Nat.le_of_ble_eq_true rfl, Nat.le_of_ble_eq_true rfl⟩) hS (fun q _ h => hFc q h) (fun q h => hFc q h) (fun u t H1 locs ht9 hvm hw hB hz1 hk1 hS => ?_)
  refine W.widen (k := 0) (n := 0) (by omega) (by omega) ?_
  have hP := zKeep hP hk1
  generalize H1 = H at hP hS ⊢
  have hP : va_P D vwCl ([(h0, .inr (17, zHS a)), ((a 7), .inr (10, [.ref g, .int gv])), (g, .inl (cG, 8, .inr (.inr (.inr (.inr og)))))] ++ va_pl LR (zrow cI)) H := hP
  refine lv_iload_n hx hb dX11_medals_4 rfl (lv_at hl 2 rfl) ?_
  refine lv_iconst (v := 0) hx hb dX11_medals_5 (by decide) ?_
  refine lv_iconst (v := 3) hx hb dX11_medals_6 (by decide) ?_
  have hPc := hP.sub (ws' := []) [] rfl
  have hDc := hD.sub (ws' := []) [] (by decide) rfl
  have hKc := hK.sub (tys' := []) [] rfl
  have hFc : ∀ q : Nat, H.size ≤ q → A q := fun q h => hA q (Nat.le_trans hS.1 h)
  refine va_callv (va_runS (As := [.int (nI j), .int 0, .int 3]) (rest := []) ⟨hx, hb, hml, hown, hts⟩ (c_requireRange_ok l hst D H.size (nI j) 0 3 h2) (cwS 3 hts (goodIn_app (goodIn_of _ (by decide +kernel)) (goodIn_sub (fun _ h => List.mem_cons_of_mem _ (List.mem_append_right _ (List.mem_append_right _ (List.mem_append_left _ h)))) zrr1_good)) rfl rfl rfl (by decide +kernel) ⟨Nat.le_of_ble_eq_true rfl, Nat.le_of_ble_eq_true rfl⟩) ⟨zPre.blind, zPre.mk hPc hKc hDc hz hS (fun q h => hFc q h)⟩ rfl rfl hl.1 rfl (lv_room (Nat.le_of_ble_eq_true rfl)) dX11_medals_7 ⟨Nat.le_of_ble_eq_true rfl, Nat.le_of_ble_eq_true rfl⟩) hS (fun q _ h => hFc q h) (fun q h => hFc q h) (fun u t H1 locs ht9 hvm hw hB hz1 hk1 hS => ?_)
  refine W.widen (k := 0) (n := 0) (by omega) (by omega) ?_
  have hP := zKeep hP hk1
  generalize H1 = H at hP hS ⊢
  have hP : va_P D vwCl ([(h0, .inr (17, zHS a)), ((a 7), .inr (10, [.ref g, .int gv])), (g, .inl (cG, 8, .inr (.inr (.inr (.inr og)))))] ++ va_pl LR (zrow cI)) H := hP
  refine lv_aload_n hx hb dX11_medals_10 rfl (lv_at hl 0 rfl) ?_
  have hPc := hP.part (cx := [(h0, .inr (17, zHS a)), ((a 7), .inr (10, [.ref g, .int gv])), (g, .inl (cG, 8, .inr (.inr (.inr (.inr og)))))]) [0, 1, 2] rfl
  have hDc := hD.part (cx := [(h0, .inr (17, zHS a)), ((a 7), .inr (10, [.ref g, .int gv])), (g, .inl (cG, 8, .inr (.inr (.inr (.inr og)))))]) [0, 1, 2] (by decide) rfl
  have hKc := hK.sub (tys' := [(cG, .array .int), (cI, .int)]) [0, 1] rfl
  have hFc := va_freeP (cx := [(h0, .inr (17, zHS a)), ((a 7), .inr (10, [.ref g, .int gv])), (g, .inl (cG, 8, .inr (.inr (.inr (.inr og)))))]) hD hS hA [0, 1, 2] rfl
  refine va_callv (va_runV (As := []) (rest := []) ⟨hx, hb, hml, hown, hts⟩ (c_countMedals l hst D H.size h0 a g gv og LR cG cI hg) (cwV 0 hts (goodIn_app (goodIn_of _ (by decide +kernel)) (goodIn_sub (fun _ h => List.mem_cons_of_mem _ (List.mem_append_right _ (List.mem_append_right _ (List.mem_append_right _ (List.mem_append_left _ h))))) zX11_countMedals_ws_good)) rfl rfl rfl (by decide +kernel) ⟨Nat.le_of_ble_eq_true rfl, Nat.le_of_ble_eq_true rfl⟩) ⟨zPre.blind, va_recv hKc hPc (ci := 17) (q0 := 0) rfl rfl, zPre.mk hPc hKc hDc hz hS (fun q h => hFc q h)⟩ rfl rfl hl.1 rfl (lv_room (Nat.le_of_ble_eq_true rfl)) dX11_medals_11 ⟨Nat.le_of_ble_eq_true rfl, Nat.le_of_ble_eq_true rfl⟩) hS (fun q _ h => hFc q h) (fun q h => hFc q h) (fun u t H1 locs ht9 hvm hw hB hz1 hk1 hS => ?_)
  refine W.widen (k := 0) (n := 0) (by omega) (by omega) ?_
  obtain ⟨hP1, hK1, hD1⟩ := hB
  rw [ht9] at hP1
  have hK1 := va_K.moved hvm.symm hK1
  obtain ⟨hP, hD⟩ := va_joinP (wr := []) (rx := [(h0, .inr (17, zHS a)), ((a 7), .inr (10, [.ref g, .int 0])), (g, .inl (cG, 8, .inr (.inr (.inr (.inr og)))))]) (pl1 := va_pl LR (zrow cI)) hP hD [0, 1, 2] [] rfl rfl (by decide) (by decide) hk1 hFc hP1 hD1
  have hK := (hK.sub (tys' := []) [] rfl).app hK1
  generalize H1 = H at hP hS ⊢
  have hP : va_P D vwCl ([(h0, .inr (17, zHS a)), ((a 7), .inr (10, [.ref g, .int 0])), (g, .inl (cG, 8, .inr (.inr (.inr (.inr og)))))] ++ va_pl LR (zrow cI)) H := hP
  have hD : va_D A ([(h0, .inr (17, zHS a)), ((a 7), .inr (10, [.ref g, .int 0])), (g, .inl (cG, 8, .inr (.inr (.inr (.inr og)))))] ++ va_pl LR (zrow cI)) := hD
  have hK : va_K D vwCl [(cG, .array .int), (cI, .int)] s := hK
  refine lv_aload_n hx hb dX11_medals_14 rfl (lv_at hl 0 rfl) ?_
  refine va_get (D := D) (ci := 17) (v := .ref (a 7)) (C := RX11) (T := TX11) (N := 11) hx hb hts (by decide +kernel) hown hK hP 0 rfl rfl 7 (by decide) (hts (.fieldLink RX11 60 "HeatStadium" "table" "LHeatStadium$MedalTable;") (by decide +kernel)) (fun _ h9 => h9) rfl dX11_medals_15 ?_
  refine va_getN (D := D) (ci := 10) (v := .ref g) (C := RX4) (T := TX4) (N := 2) hx hb hts (by decide +kernel) hown hK hP 1 rfl rfl 0 (by decide) (hz.w (.fieldLinkNest RX11 345 "HeatStadium$MedalTable" "counts" "[[I" RX11) (by decide +kernel)) (fun _ h9 => h9) rfl dX11_medals_18 ?_
  refine lv_iload_n hx hb dX11_medals_21 rfl (lv_at hl 1 rfl) ?_
  obtain ⟨y1, ey1, my1⟩ := hg i hi
  obtain ⟨ky1, hy1⟩ := va_pl_get (X := [(h0, .inr (17, zHS a)), ((a 7), .inr (10, [.ref g, .int 0])), (g, .inl (cG, 8, .inr (.inr (.inr (.inr og)))))]) (f := zrow cI) my1
  refine zaldg hx hb hK hP 2 0 rfl rfl (vp_in_nI hi (by decide)) dX11_medals_22 ?_
  rw [show (nI i).toNatClampNeg = i from nI_clamp (by omega), ey1]
  refine lv_iload_n hx hb dX11_medals_23 rfl (lv_at hl 2 rfl) ?_
  refine va_iald hx hb hK hP ky1 1 hy1 rfl (vp_in_nI hj (by decide)) dX11_medals_24 ?_
  have hP9 := hP.sub (ws' := []) [] rfl
  have hD9 := hD.sub (ws' := []) [] (by decide) rfl
  have hK9 := hK.sub (tys' := [(cG, .array .int), (cI, .int)]) [0, 1] rfl
  rw [← hAe] at hD9
  refine W.widen (k := 0) (n := 0) (by omega) (by omega) ?_
  subst hAe
  exact W.iret (v := 0) hx hb hr (fun t ht9 hW => ⟨⟨0, (), rfl, rfl, ⟨by rw [ht9]; exact hP9, va_K.moved hW.alike hK9, hD9⟩⟩, hS.F ht9⟩) hS.2.2 dX11_medals_25

def zX11_inTable_ws : List Cond := .code yX11_inTable cX11_inTable 3 (some .int) :: ([.methodLink RX11 98 yX11_requireRange, .static yX11_requireRange, .initialized RX11, .methodLink RX11 342 yX11_countMedals, .instanceMethod yX11_countMedals, .selects RX11 yX11_countMedals yX11_countMedals, .fieldLink RX11 60 "HeatStadium" "table" "LHeatStadium$MedalTable;", .instanceMethod yX4_nationAt, .selects RX4 yX4_nationAt yX4_nationAt, .initialized RX4] ++ (zrr1 ++ (zX11_countMedals_ws ++ (wsX110 ++ (zX4_nationAt_ws ++ ([]))))))
theorem zX11_inTable_ws_good : zX11_inTable_ws.all goodWord = true := by decide +kernel
set_option maxHeartbeats 4000000 in
set_option maxRecDepth 100000 in
/-- inTable of games without events: the number itself -/
theorem c_inTable_ok (l : Launch) (hst : l.stackTraces = false) (D : va_G) (sz : Nat) (h0 : Nat) (a : Nat → Nat) (g : Nat) (gv : Int32) (og : Nat → Option Nat) (LR : List Nat) (cG cI : ClassId) (x1 x2 : Int32) (hg : ∀ i, i < 8 → ∃ y, og i = some y ∧ y ∈ LR) (h : zin x1 0 7 = 1) : Met l yX11_inTable zX11_inTable_ws (zR 3 0 0) (zPre [.ref h0, .int x1, .int x2] D ([(h0, .inr (17, zHS a)), ((a 7), .inr (10, [.ref g, .int gv])), (g, .inl (cG, 8, .inr (.inr (.inr (.inr og)))))] ++ va_pl LR (zrow cI)) [(cG, .array .int), (cI, .int)] (va_A ([(h0, .inr (17, zHS a)), ((a 7), .inr (10, [.ref g, .int gv])), (g, .inl (cG, 8, .inr (.inr (.inr (.inr og)))))] ++ va_pl LR (zrow cI)) sz) sz) (va_Qi (S := Unit) (fun r _ => r = x1) (fun _ t => zAt D [] [(cG, .array .int), (cI, .int)] (va_A ([(h0, .inr (17, zHS a)), ((a 7), .inr (10, [.ref g, .int gv])), (g, .inl (cG, 8, .inr (.inr (.inr (.inr og)))))] ++ va_pl LR (zrow cI)) sz) t) (va_A ([(h0, .inr (17, zHS a)), ((a 7), .inr (10, [.ref g, .int gv])), (g, .inl (cG, 8, .inr (.inr (.inr (.inr og)))))] ++ va_pl LR (zrow cI)) sz)) 0 0 (va_A ([(h0, .inr (17, zHS a)), ((a 7), .inr (10, [.ref g, .int gv])), (g, .inl (cG, 8, .inr (.inr (.inr (.inr og)))))] ++ va_pl LR (zrow cI)) sz) := by
  refine Met.ofW (cc := cX11_inTable) (maxL := 3) (ret := (some .int)) (by decide) rfl ?_
  intro p e s m args below meth c s₁ B hml hv
  obtain ⟨rfl, hsz, hP, hK, hD0, hz⟩ := hv
  have hx := B.exec
  have hb := B.bytes
  have hr := B.returns
  have hts := atoms_spec (ws := zX11_inTable_ws) B.pre
  have hown : s.vm.findClass RX11 = some m.cls := findClass_of_methodNamed B.named
  have hlocks := B.notSynchronized
  subst hsz
  have hD := hD0.self (sz := s.heap.size)
  generalize hAe : va_A ([(h0, .inr (17, zHS a)), ((a 7), .inr (10, [.ref g, .int gv])), (g, .inl (cG, 8, .inr (.inr (.inr (.inr og)))))] ++ va_pl LR (zrow cI)) s.heap.size = A at hD hz ⊢
  have hA : ∀ q : Nat, s.heap.size ≤ q → A q := fun q h => by rw [← hAe]; exact Or.inr h
  have hS : va_S A s.heap s.heap [] := va_S.rf
  have hP : va_P D vwCl ([(h0, .inr (17, zHS a)), ((a 7), .inr (10, [.ref g, .int gv])), (g, .inl (cG, 8, .inr (.inr (.inr (.inr og)))))] ++ va_pl LR (zrow cI)) s.heap := hP
  have hl := lv_entry ([.ref h0, .int x1, .int x2]) (n := 3) (Nat.le_of_ble_eq_true rfl)
  rw [lg_entry_eq]
  generalize (lg_sl ([.ref h0, .int x1, .int x2]) ++ List.replicate (3 - (lg_sl ([.ref h0, .int x1, .int x2])).length) Slot.unset).toArray = ls at hl ⊢
  have hl : lv_has ls 3 [(0, .ref h0), (1, .int x1), (2, .int x2)] := hl
  refine lv_iload_n hx hb dX11_inTable_0 rfl (lv_at hl 1 rfl) ?_
  refine lv_iconst (v := 0) hx hb dX11_inTable_1 (by decide) ?_
  refine lv_bipush (v := 7) hx hb dX11_inTable_2 (by decide) ?_
  have hPc := hP.sub (ws' := []) [] rfl
  have hDc := hD.sub (ws' := []) [] (by decide) rfl
  have hKc := hK.sub (tys' := []) [] rfl
  have hFc : ∀ q : Nat, s.heap.size ≤ q → A q := fun q h => hA q (Nat.le_trans hS.1 h)
  refine va_callv (va_runS (As := [.int x1, .int 0, .int 7]) (rest := []) ⟨hx, hb, hml, hown, hts⟩ (c_requireRange_ok l hst D s.heap.size x1 0 7 h) (cwS 3 hts (goodIn_app (goodIn_of _ (by decide +kernel)) (goodIn_sub (fun _ h => List.mem_cons_of_mem _ (List.mem_append_right _ (List.mem_append_left _ h))) zrr1_good)) rfl rfl rfl (by decide +kernel) ⟨Nat.le_of_ble_eq_true rfl, Nat.le_of_ble_eq_true rfl⟩) ⟨zPre.blind, zPre.mk hPc hKc hDc hz hS (fun q h => hFc q h)⟩ rfl rfl hl.1 rfl (lv_room (Nat.le_of_ble_eq_true rfl)) dX11_inTable_4 ⟨Nat.le_of_ble_eq_true rfl, Nat.le_of_ble_eq_true rfl⟩) hS (fun q _ h => hFc q h) (fun q h => hFc q h) (fun u t H1 locs ht9 hvm hw hB hz1 hk1 hS => ?_)
  refine W.widen (k := 0) (n := 0) (by omega) (by omega) ?_
  have hP := zKeep hP hk1
  generalize H1 = H at hP hS ⊢
  have hP : va_P D vwCl ([(h0, .inr (17, zHS a)), ((a 7), .inr (10, [.ref g, .int gv])), (g, .inl (cG, 8, .inr (.inr (.inr (.inr og)))))] ++ va_pl LR (zrow cI)) H := hP
  refine lv_aload_n hx hb dX11_inTable_7 rfl (lv_at hl 0 rfl) ?_
  have hPc := hP.part (cx := [(h0, .inr (17, zHS a)), ((a 7), .inr (10, [.ref g, .int gv])), (g, .inl (cG, 8, .inr (.inr (.inr (.inr og)))))]) [0, 1, 2] rfl
  have hDc := hD.part (cx := [(h0, .inr (17, zHS a)), ((a 7), .inr (10, [.ref g, .int gv])), (g, .inl (cG, 8, .inr (.inr (.inr (.inr og)))))]) [0, 1, 2] (by decide) rfl
  have hKc := hK.sub (tys' := [(cG, .array .int), (cI, .int)]) [0, 1] rfl
  have hFc := va_freeP (cx := [(h0, .inr (17, zHS a)), ((a 7), .inr (10, [.ref g, .int gv])), (g, .inl (cG, 8, .inr (.inr (.inr (.inr og)))))]) hD hS hA [0, 1, 2] rfl
  refine va_callv (va_runV (As := []) (rest := []) ⟨hx, hb, hml, hown, hts⟩ (c_countMedals l hst D H.size h0 a g gv og LR cG cI hg) (cwV 0 hts (goodIn_app (goodIn_of _ (by decide +kernel)) (goodIn_sub (fun _ h => List.mem_cons_of_mem _ (List.mem_append_right _ (List.mem_append_right _ (List.mem_append_left _ h)))) zX11_countMedals_ws_good)) rfl rfl rfl (by decide +kernel) ⟨Nat.le_of_ble_eq_true rfl, Nat.le_of_ble_eq_true rfl⟩) ⟨zPre.blind, va_recv hKc hPc (ci := 17) (q0 := 0) rfl rfl, zPre.mk hPc hKc hDc hz hS (fun q h => hFc q h)⟩ rfl rfl hl.1 rfl (lv_room (Nat.le_of_ble_eq_true rfl)) dX11_inTable_8 ⟨Nat.le_of_ble_eq_true rfl, Nat.le_of_ble_eq_true rfl⟩) hS (fun q _ h => hFc q h) (fun q h => hFc q h) (fun u t H1 locs ht9 hvm hw hB hz1 hk1 hS => ?_)
  refine W.widen (k := 0) (n := 0) (by omega) (by omega) ?_
  obtain ⟨hP1, hK1, hD1⟩ := hB
  rw [ht9] at hP1
  have hK1 := va_K.moved hvm.symm hK1
  obtain ⟨hP, hD⟩ := va_joinP (wr := []) (rx := [(h0, .inr (17, zHS a)), ((a 7), .inr (10, [.ref g, .int 0])), (g, .inl (cG, 8, .inr (.inr (.inr (.inr og)))))]) (pl1 := va_pl LR (zrow cI)) hP hD [0, 1, 2] [] rfl rfl (by decide) (by decide) hk1 hFc hP1 hD1
  have hK := (hK.sub (tys' := []) [] rfl).app hK1
  generalize H1 = H at hP hS ⊢
  have hP : va_P D vwCl ([(h0, .inr (17, zHS a)), ((a 7), .inr (10, [.ref g, .int 0])), (g, .inl (cG, 8, .inr (.inr (.inr (.inr og)))))] ++ va_pl LR (zrow cI)) H := hP
  have hD : va_D A ([(h0, .inr (17, zHS a)), ((a 7), .inr (10, [.ref g, .int 0])), (g, .inl (cG, 8, .inr (.inr (.inr (.inr og)))))] ++ va_pl LR (zrow cI)) := hD
  have hK : va_K D vwCl [(cG, .array .int), (cI, .int)] s := hK
  refine lv_aload_n hx hb dX11_inTable_11 rfl (lv_at hl 0 rfl) ?_
  refine va_get (D := D) (ci := 17) (v := .ref (a 7)) (C := RX11) (T := TX11) (N := 11) hx hb hts (by decide +kernel) hown hK hP 0 rfl rfl 7 (by decide) (hts (.fieldLink RX11 60 "HeatStadium" "table" "LHeatStadium$MedalTable;") (by decide +kernel)) (fun _ h9 => h9) rfl dX11_inTable_12 ?_
  refine lv_iload_n hx hb dX11_inTable_15 rfl (lv_at hl 1 rfl) ?_
  refine lv_iload_n hx hb dX11_inTable_16 rfl (lv_at hl 2 rfl) ?_
  have hPc := hP.part (cx := [((a 7), .inr (10, [.ref g, .int 0])), (g, .inl (cG, 8, .inr (.inr (.inr (.inr og)))))]) [1, 2] rfl
  have hDc := hD.part (cx := [((a 7), .inr (10, [.ref g, .int 0])), (g, .inl (cG, 8, .inr (.inr (.inr (.inr og)))))]) [1, 2] (by decide) rfl
  have hKc := hK.sub (tys' := [(cG, .array .int), (cI, .int)]) [0, 1] rfl
  have hFc : ∀ q : Nat, H.size ≤ q → A q := fun q h => hA q (Nat.le_trans hS.1 h)
  refine va_calli (va_runVN (As := [.int x1, .int x2]) (rest := []) ⟨hx, hb, hml, hown, hts⟩ (c_nationAt l hst D H.size (a 7) g 0 og LR cG cI x1 x2 hg h) ⟨va_cnB 2 hts (goodIn_sub (fun _ h => List.mem_cons_of_mem _ (List.mem_append_right _ (List.mem_append_right _ (List.mem_append_right _ (List.mem_append_right _ (List.mem_append_left _ h)))))) zX4_nationAt_ws_good) rfl rfl rfl (hz.2.2.1 (.methodLinkNest RX11 347 yX4_nationAt RX11) (by decide +kernel)) (hts (.initialized RX4) (by decide +kernel)) (by decide +kernel) ⟨Nat.le_of_ble_eq_true rfl, Nat.le_of_ble_eq_true rfl⟩, (hts (.instanceMethod yX4_nationAt) (by decide +kernel)), (hts (.selects RX4 yX4_nationAt yX4_nationAt) (by decide +kernel))⟩ ⟨zPre.blind, va_recv hKc hPc (ci := 10) (q0 := 0) rfl rfl, zPre.mk hPc hKc hDc hz hS (fun q h => hFc q h)⟩ rfl rfl hl.1 rfl (lv_room (Nat.le_of_ble_eq_true rfl)) dX11_inTable_17 ⟨Nat.le_of_ble_eq_true rfl, Nat.le_of_ble_eq_true rfl⟩) hS (fun q _ h => hFc q h) (fun q h => hFc q h) (fun r9 u t H1 locs ht9 hvm hw hB hz1 hk1 hS => ?_)
  refine W.widen (k := 0) (n := 0) (by omega) (by omega) ?_
  have hP := zKeep hP hk1
  generalize H1 = H at hP hS ⊢
  have hP : va_P D vwCl ([(h0, .inr (17, zHS a)), ((a 7), .inr (10, [.ref g, .int 0])), (g, .inl (cG, 8, .inr (.inr (.inr (.inr og)))))] ++ va_pl LR (zrow cI)) H := hP
  rw [hw]
  have hP9 := hP.sub (ws' := []) [] rfl
  have hD9 := hD.sub (ws' := []) [] (by decide) rfl
  have hK9 := hK.sub (tys' := [(cG, .array .int), (cI, .int)]) [0, 1] rfl
  rw [← hAe] at hD9
  refine W.widen (k := 0) (n := 0) (by omega) (by omega) ?_
  subst hAe
  exact W.iret (v := x1) hx hb hr (fun t ht9 hW => ⟨⟨x1, (), rfl, rfl, ⟨by rw [ht9]; exact hP9, va_K.moved hW.alike hK9, hD9⟩⟩, hS.F ht9⟩) hS.2.2 dX11_inTable_20

def zX11_isTrue_ws : List Cond := .code yX11_isTrue cX11_isTrue 3 (some .boolean) :: ([.fieldLink RX11 64 "HeatStadium" "eventCount" "I", .methodLink RX11 342 yX11_countMedals, .instanceMethod yX11_countMedals, .selects RX11 yX11_countMedals yX11_countMedals, .initialized RX11, .fieldLink RX11 60 "HeatStadium" "table" "LHeatStadium$MedalTable;", .instanceMethod yX4_sumOfNations, .selects RX4 yX4_sumOfNations yX4_sumOfNations, .initialized RX4] ++ (wsX110 ++ (zX11_countMedals_ws ++ (zX4_sumOfNations_ws ++ (wsX40 ++ ([]))))))
theorem zX11_isTrue_ws_good : zX11_isTrue_ws.all goodWord = true := by decide +kernel
set_option maxHeartbeats 4000000 in
set_option maxRecDepth 100000 in
/-- isTrue of games without events: true -/
theorem c_isTrue (l : Launch) (hst : l.stackTraces = false) (D : va_G) (sz : Nat) (h0 : Nat) (a : Nat → Nat) (g : Nat) (gv : Int32) (og : Nat → Option Nat) (LR : List Nat) (cG cI : ClassId) (hg : ∀ i, i < 8 → ∃ y, og i = some y ∧ y ∈ LR) : Met l yX11_isTrue zX11_isTrue_ws (zR 3 0 0) (zPre [.ref h0] D ([(h0, .inr (17, zHS a)), ((a 7), .inr (10, [.ref g, .int gv])), (g, .inl (cG, 8, .inr (.inr (.inr (.inr og)))))] ++ va_pl LR (zrow cI)) [(cG, .array .int), (cI, .int)] (va_A ([(h0, .inr (17, zHS a)), ((a 7), .inr (10, [.ref g, .int gv])), (g, .inl (cG, 8, .inr (.inr (.inr (.inr og)))))] ++ va_pl LR (zrow cI)) sz) sz) (va_Qi (S := Unit) (fun r _ => r = 1) (fun _ t => zAt D [] [(cG, .array .int), (cI, .int)] (va_A ([(h0, .inr (17, zHS a)), ((a 7), .inr (10, [.ref g, .int gv])), (g, .inl (cG, 8, .inr (.inr (.inr (.inr og)))))] ++ va_pl LR (zrow cI)) sz) t) (va_A ([(h0, .inr (17, zHS a)), ((a 7), .inr (10, [.ref g, .int gv])), (g, .inl (cG, 8, .inr (.inr (.inr (.inr og)))))] ++ va_pl LR (zrow cI)) sz)) 0 0 (va_A ([(h0, .inr (17, zHS a)), ((a 7), .inr (10, [.ref g, .int gv])), (g, .inl (cG, 8, .inr (.inr (.inr (.inr og)))))] ++ va_pl LR (zrow cI)) sz) := by
  refine Met.ofW (cc := cX11_isTrue) (maxL := 3) (ret := (some .boolean)) (by decide) rfl ?_
  intro p e s m args below meth c s₁ B hml hv
  obtain ⟨rfl, hsz, hP, hK, hD0, hz⟩ := hv
  have hx := B.exec
  have hb := B.bytes
  have hr := B.returns
  have hts := atoms_spec (ws := zX11_isTrue_ws) B.pre
  have hown : s.vm.findClass RX11 = some m.cls := findClass_of_methodNamed B.named
  have hlocks := B.notSynchronized
  subst hsz
  have hD := hD0.self (sz := s.heap.size)
  generalize hAe : va_A ([(h0, .inr (17, zHS a)), ((a 7), .inr (10, [.ref g, .int gv])), (g, .inl (cG, 8, .inr (.inr (.inr (.inr og)))))] ++ va_pl LR (zrow cI)) s.heap.size = A at hD hz ⊢
  have hA : ∀ q : Nat, s.heap.size ≤ q → A q := fun q h => by rw [← hAe]; exact Or.inr h
  have hS : va_S A s.heap s.heap [] := va_S.rf
  have hP : va_P D vwCl ([(h0, .inr (17, zHS a)), ((a 7), .inr (10, [.ref g, .int gv])), (g, .inl (cG, 8, .inr (.inr (.inr (.inr og)))))] ++ va_pl LR (zrow cI)) s.heap := hP
  have hl := lv_entry ([.ref h0]) (n := 3) (Nat.le_of_ble_eq_true rfl)
  rw [lg_entry_eq]
  generalize (lg_sl ([.ref h0]) ++ List.replicate (3 - (lg_sl ([.ref h0])).length) Slot.unset).toArray = ls at hl ⊢
  have hl : lv_has ls 3 [(0, .ref h0)] := hl
  refine lv_iconst (v := 0) hx hb dX11_isTrue_0 (by decide) ?_
  refine lv_istore_n (lv' := [(1, .int 0), (0, .ref h0)]) hx hb dX11_isTrue_1 rfl hl (by decide) rfl (fun ls hl => ?_)
  refine lv_iload_n hx hb dX11_isTrue_2 rfl (lv_at hl 0 rfl) ?_
  refine lv_aload_n hx hb dX11_isTrue_3 rfl (lv_at hl 1 rfl) ?_
  refine va_get (D := D) (ci := 17) (v := .int 0) (C := RX11) (T := TX11) (N := 11) hx hb hts (by decide +kernel) hown hK hP 0 rfl rfl 8 (by decide) (hts (.fieldLink RX11 64 "HeatStadium" "eventCount" "I") (by decide +kernel)) (fun _ h9 => h9) rfl dX11_isTrue_4 ?_
  refine lv_icmp_ge (tgt := 72) hx hb dX11_isTrue_7 (by decide) (fun _ => ?_) (fun c => absurd (by decide) c)
  refine lv_aload_n hx hb dX11_isTrue_72 rfl (lv_at hl 1 rfl) ?_
  have hPc := hP.part (cx := [(h0, .inr (17, zHS a)), ((a 7), .inr (10, [.ref g, .int gv])), (g, .inl (cG, 8, .inr (.inr (.inr (.inr og)))))]) [0, 1, 2] rfl
  have hDc := hD.part (cx := [(h0, .inr (17, zHS a)), ((a 7), .inr (10, [.ref g, .int gv])), (g, .inl (cG, 8, .inr (.inr (.inr (.inr og)))))]) [0, 1, 2] (by decide) rfl
  have hKc := hK.sub (tys' := [(cG, .array .int), (cI, .int)]) [0, 1] rfl
  have hFc := va_freeP (cx := [(h0, .inr (17, zHS a)), ((a 7), .inr (10, [.ref g, .int gv])), (g, .inl (cG, 8, .inr (.inr (.inr (.inr og)))))]) hD hS hA [0, 1, 2] rfl
  refine va_callv (va_runV (As := []) (rest := []) ⟨hx, hb, hml, hown, hts⟩ (c_countMedals l hst D s.heap.size h0 a g gv og LR cG cI hg) (cwV 0 hts (goodIn_app (goodIn_of _ (by decide +kernel)) (goodIn_sub (fun _ h => List.mem_cons_of_mem _ (List.mem_append_right _ (List.mem_append_right _ (List.mem_append_left _ h)))) zX11_countMedals_ws_good)) rfl rfl rfl (by decide +kernel) ⟨Nat.le_of_ble_eq_true rfl, Nat.le_of_ble_eq_true rfl⟩) ⟨zPre.blind, va_recv hKc hPc (ci := 17) (q0 := 0) rfl rfl, zPre.mk hPc hKc hDc hz hS (fun q h => hFc q h)⟩ rfl rfl hl.1 rfl (lv_room (Nat.le_of_ble_eq_true rfl)) dX11_isTrue_73 ⟨Nat.le_of_ble_eq_true rfl, Nat.le_of_ble_eq_true rfl⟩) hS (fun q _ h => hFc q h) (fun q h => hFc q h) (fun u t H1 locs ht9 hvm hw hB hz1 hk1 hS => ?_)
  refine W.widen (k := 0) (n := 0) (by omega) (by omega) ?_
  obtain ⟨hP1, hK1, hD1⟩ := hB
  rw [ht9] at hP1
  have hK1 := va_K.moved hvm.symm hK1
  obtain ⟨hP, hD⟩ := va_joinP (wr := []) (rx := [(h0, .inr (17, zHS a)), ((a 7), .inr (10, [.ref g, .int 0])), (g, .inl (cG, 8, .inr (.inr (.inr (.inr og)))))]) (pl1 := va_pl LR (zrow cI)) hP hD [0, 1, 2] [] rfl rfl (by decide) (by decide) hk1 hFc hP1 hD1
  have hK := (hK.sub (tys' := []) [] rfl).app hK1
  generalize H1 = H at hP hS ⊢
  have hP : va_P D vwCl ([(h0, .inr (17, zHS a)), ((a 7), .inr (10, [.ref g, .int 0])), (g, .inl (cG, 8, .inr (.inr (.inr (.inr og)))))] ++ va_pl LR (zrow cI)) H := hP
  have hD : va_D A ([(h0, .inr (17, zHS a)), ((a 7), .inr (10, [.ref g, .int 0])), (g, .inl (cG, 8, .inr (.inr (.inr (.inr og)))))] ++ va_pl LR (zrow cI)) := hD
  have hK : va_K D vwCl [(cG, .array .int), (cI, .int)] s := hK
  refine lv_aload_n hx hb dX11_isTrue_76 rfl (lv_at hl 1 rfl) ?_
  refine va_get (D := D) (ci := 17) (v := .ref (a 7)) (C := RX11) (T := TX11) (N := 11) hx hb hts (by decide +kernel) hown hK hP 0 rfl rfl 7 (by decide) (hts (.fieldLink RX11 60 "HeatStadium" "table" "LHeatStadium$MedalTable;") (by decide +kernel)) (fun _ h9 => h9) rfl dX11_isTrue_77 ?_
  have hPc := hP.part (cx := [((a 7), .inr (10, [.ref g, .int 0])), (g, .inl (cG, 8, .inr (.inr (.inr (.inr og)))))]) [1, 2] rfl
  have hDc := hD.part (cx := [((a 7), .inr (10, [.ref g, .int 0])), (g, .inl (cG, 8, .inr (.inr (.inr (.inr og)))))]) [1, 2] (by decide) rfl
  have hKc := hK.sub (tys' := [(cG, .array .int), (cI, .int)]) [0, 1] rfl
  have hFc : ∀ q : Nat, H.size ≤ q → A q := fun q h => hA q (Nat.le_trans hS.1 h)
  refine va_calli (va_runVN (As := []) (rest := []) ⟨hx, hb, hml, hown, hts⟩ (c_sum l hst D H.size (a 7) g 0 og LR cG cI hg) ⟨va_cnB 0 hts (goodIn_sub (fun _ h => List.mem_cons_of_mem _ (List.mem_append_right _ (List.mem_append_right _ (List.mem_append_right _ (List.mem_append_left _ h))))) zX4_sumOfNations_ws_good) rfl rfl rfl (hz.2.2.1 (.methodLinkNest RX11 379 yX4_sumOfNations RX11) (by decide +kernel)) (hts (.initialized RX4) (by decide +kernel)) (by decide +kernel) ⟨Nat.le_of_ble_eq_true rfl, Nat.le_of_ble_eq_true rfl⟩, (hts (.instanceMethod yX4_sumOfNations) (by decide +kernel)), (hts (.selects RX4 yX4_sumOfNations yX4_sumOfNations) (by decide +kernel))⟩ ⟨zPre.blind, va_recv hKc hPc (ci := 10) (q0 := 0) rfl rfl, zPre.mk hPc hKc hDc hz hS (fun q h => hFc q h)⟩ rfl rfl hl.1 rfl (lv_room (Nat.le_of_ble_eq_true rfl)) dX11_isTrue_80 ⟨Nat.le_of_ble_eq_true rfl, Nat.le_of_ble_eq_true rfl⟩) hS (fun q _ h => hFc q h) (fun q h => hFc q h) (fun r9 u t H1 locs ht9 hvm hw hB hz1 hk1 hS => ?_)
  refine W.widen (k := 0) (n := 0) (by omega) (by omega) ?_
  have hP := zKeep hP hk1
  generalize H1 = H at hP hS ⊢
  have hP : va_P D vwCl ([(h0, .inr (17, zHS a)), ((a 7), .inr (10, [.ref g, .int 0])), (g, .inl (cG, 8, .inr (.inr (.inr (.inr og)))))] ++ va_pl LR (zrow cI)) H := hP
  subst hw
  refine lv_aload_n hx hb dX11_isTrue_83 rfl (lv_at hl 1 rfl) ?_
  refine va_get (D := D) (ci := 17) (v := .ref (a 7)) (C := RX11) (T := TX11) (N := 11) hx hb hts (by decide +kernel) hown hK hP 0 rfl rfl 7 (by decide) (hts (.fieldLink RX11 60 "HeatStadium" "table" "LHeatStadium$MedalTable;") (by decide +kernel)) (fun _ h9 => h9) rfl dX11_isTrue_84 ?_
  refine va_getN (D := D) (ci := 10) (v := .int 0) (C := RX4) (T := TX4) (N := 2) hx hb hts (by decide +kernel) hown hK hP 1 rfl rfl 1 (by decide) (hz.w (.fieldLinkNest RX11 355 "HeatStadium$MedalTable" "given" "I" RX11) (by decide +kernel)) (fun _ h9 => h9) rfl dX11_isTrue_87 ?_
  refine lv_icmp_ne (tgt := 97) hx hb dX11_isTrue_90 (by decide) (fun c => absurd (by decide) c) (fun _ => ?_)
  refine lv_iconst (v := 1) hx hb dX11_isTrue_93 (by decide) ?_
  refine lv_goto (tgt := 98) hx hb dX11_isTrue_94 (by decide) ?_
  have hP9 := hP.sub (ws' := []) [] rfl
  have hD9 := hD.sub (ws' := []) [] (by decide) rfl
  have hK9 := hK.sub (tys' := [(cG, .array .int), (cI, .int)]) [0, 1] rfl
  rw [← hAe] at hD9
  refine W.widen (k := 0) (n := 0) (by omega) (by omega) ?_
  subst hAe
  exact W.zret (v := 1) hx hb hr rfl (fun t ht9 hW => ⟨⟨1, (), rfl, rfl, ⟨by rw [ht9]; exact hP9, va_K.moved hW.alike hK9, hD9⟩⟩, hS.F ht9⟩) hS.2.2 dX11_isTrue_98

def zsb2 : List Cond := .code yX11_shareBits cX11_shareBits 2 (some .int) :: ([.methodLink RX11 74 yX11_requireNation, .static yX11_requireNation, .initialized RX11, .methodLink RX11 342 yX11_countMedals, .instanceMethod yX11_countMedals, .selects RX11 yX11_countMedals yX11_countMedals, .fieldLink RX11 60 "HeatStadium" "table" "LHeatStadium$MedalTable;", .classLink RX11 358 "java/lang/ArithmeticException", .initialized "java/lang/ArithmeticException"] ++ (zrn1 ++ (zX11_countMedals_ws ++ (wsX110 ++ (wsX40 ++ (((vx_atS RX11 362 "java/lang/ArithmeticException" ["java/lang/RuntimeException", "java/lang/Exception"]).filter goodWord) ++ ([])))))))
theorem zsb2_good : zsb2.all goodWord = true := by decide +kernel
set_option maxHeartbeats 4000000 in
set_option maxRecDepth 100000 in
/-- shareBits of games without medals: throws -/
theorem c_shareBits_none (l : Launch) (hst : l.stackTraces = false) (D : va_G) (sz : Nat) (h0 : Nat) (a : Nat → Nat) (g : Nat) (gv : Int32) (og : Nat → Option Nat) (LR : List Nat) (cG cI : ClassId) (x1 : Int32) (hg : ∀ i, i < 8 → ∃ y, og i = some y ∧ y ∈ LR) (h : zin x1 0 7 = 1) : vx_Met l yX11_shareBits zsb2 (zR 3 1 6) (zPre [.ref h0, .int x1] D ([(h0, .inr (17, zHS a)), ((a 7), .inr (10, [.ref g, .int gv])), (g, .inl (cG, 8, .inr (.inr (.inr (.inr og)))))] ++ va_pl LR (zrow cI)) [(cG, .array .int), (cI, .int)] (va_A ([(h0, .inr (17, zHS a)), ((a 7), .inr (10, [.ref g, .int gv])), (g, .inl (cG, 8, .inr (.inr (.inr (.inr og)))))] ++ va_pl LR (zrow cI)) sz) sz) (va_Qi (S := Unit) (fun _ _ => False) (fun _ _ => True) (va_A ([(h0, .inr (17, zHS a)), ((a 7), .inr (10, [.ref g, .int gv])), (g, .inl (cG, 8, .inr (.inr (.inr (.inr og)))))] ++ va_pl LR (zrow cI)) sz)) (zThr "java/lang/ArithmeticException" (va_A ([(h0, .inr (17, zHS a)), ((a 7), .inr (10, [.ref g, .int gv])), (g, .inl (cG, 8, .inr (.inr (.inr (.inr og)))))] ++ va_pl LR (zrow cI)) sz)) 1 6 (va_A ([(h0, .inr (17, zHS a)), ((a 7), .inr (10, [.ref g, .int gv])), (g, .inl (cG, 8, .inr (.inr (.inr (.inr og)))))] ++ va_pl LR (zrow cI)) sz) := by
  refine vx_ofW (cc := cX11_shareBits) (maxL := 2) (ret := (some .int)) (by decide) rfl ?_
  intro p e s m args below meth c s₁ B hml ht hv
  obtain ⟨rfl, hsz, hP, hK, hD0, hz⟩ := hv
  have hx := B.exec
  have hb := B.bytes
  have hr := B.returns
  have hts := atoms_spec (ws := zsb2) B.pre
  have hown : s.vm.findClass RX11 = some m.cls := findClass_of_methodNamed B.named
  have hlocks := B.notSynchronized
  subst hsz
  have hD := hD0.self (sz := s.heap.size)
  generalize hAe : va_A ([(h0, .inr (17, zHS a)), ((a 7), .inr (10, [.ref g, .int gv])), (g, .inl (cG, 8, .inr (.inr (.inr (.inr og)))))] ++ va_pl LR (zrow cI)) s.heap.size = A at hD hz ⊢
  have hA : ∀ q : Nat, s.heap.size ≤ q → A q := fun q h => by rw [← hAe]; exact Or.inr h
  have hS : va_S A s.heap s.heap [] := va_S.rf
  have hP : va_P D vwCl ([(h0, .inr (17, zHS a)), ((a 7), .inr (10, [.ref g, .int gv])), (g, .inl (cG, 8, .inr (.inr (.inr (.inr og)))))] ++ va_pl LR (zrow cI)) s.heap := hP
  have hl := lv_entry ([.ref h0, .int x1]) (n := 2) (Nat.le_of_ble_eq_true rfl)
  rw [lg_entry_eq]
  generalize (lg_sl ([.ref h0, .int x1]) ++ List.replicate (2 - (lg_sl ([.ref h0, .int x1])).length) Slot.unset).toArray = ls at hl ⊢
  have hl : lv_has ls 2 [(0, .ref h0), (1, .int x1)] := hl
  refine lv_iload_n hx hb dX11_shareBits_0 rfl (lv_at hl 1 rfl) ?_
  have hPc := hP.sub (ws' := []) [] rfl
  have hDc := hD.sub (ws' := []) [] (by decide) rfl
  have hKc := hK.sub (tys' := []) [] rfl
  have hFc : ∀ q : Nat, s.heap.size ≤ q → A q := fun q h => hA q (Nat.le_trans hS.1 h)
  refine va_callv (va_runS (As := [.int x1]) (rest := []) ⟨hx, hb, hml, hown, hts⟩ (c_requireNation_ok l hst D s.heap.size x1 h) (cwS 1 hts (goodIn_app (goodIn_of _ (by decide +kernel)) (goodIn_sub (fun _ h => List.mem_cons_of_mem _ (List.mem_append_right _ (List.mem_append_left _ h))) zrn1_good)) rfl rfl rfl (by decide +kernel) ⟨Nat.le_of_ble_eq_true rfl, Nat.le_of_ble_eq_true rfl⟩) ⟨zPre.blind, zPre.mk hPc hKc hDc hz hS (fun q h => hFc q h)⟩ rfl rfl hl.1 rfl (lv_room (Nat.le_of_ble_eq_true rfl)) dX11_shareBits_1 ⟨Nat.le_of_ble_eq_true rfl, Nat.le_of_ble_eq_true rfl⟩) hS (fun q _ h => hFc q h) (fun q h => hFc q h) (fun u t H1 locs ht9 hvm hw hB hz1 hk1 hS => ?_)
  refine W.widen (k := 0) (n := 0) (by omega) (by omega) ?_
  have hP := zKeep hP hk1
  generalize H1 = H at hP hS ⊢
  have hP : va_P D vwCl ([(h0, .inr (17, zHS a)), ((a 7), .inr (10, [.ref g, .int gv])), (g, .inl (cG, 8, .inr (.inr (.inr (.inr og)))))] ++ va_pl LR (zrow cI)) H := hP
  refine lv_aload_n hx hb dX11_shareBits_4 rfl (lv_at hl 0 rfl) ?_
  have hPc := hP.part (cx := [(h0, .inr (17, zHS a)), ((a 7), .inr (10, [.ref g, .int gv])), (g, .inl (cG, 8, .inr (.inr (.inr (.inr og)))))]) [0, 1, 2] rfl
  have hDc := hD.part (cx := [(h0, .inr (17, zHS a)), ((a 7), .inr (10, [.ref g, .int gv])), (g, .inl (cG, 8, .inr (.inr (.inr (.inr og)))))]) [0, 1, 2] (by decide) rfl
  have hKc := hK.sub (tys' := [(cG, .array .int), (cI, .int)]) [0, 1] rfl
  have hFc := va_freeP (cx := [(h0, .inr (17, zHS a)), ((a 7), .inr (10, [.ref g, .int gv])), (g, .inl (cG, 8, .inr (.inr (.inr (.inr og)))))]) hD hS hA [0, 1, 2] rfl
  refine va_callv (va_runV (As := []) (rest := []) ⟨hx, hb, hml, hown, hts⟩ (c_countMedals l hst D H.size h0 a g gv og LR cG cI hg) (cwV 0 hts (goodIn_app (goodIn_of _ (by decide +kernel)) (goodIn_sub (fun _ h => List.mem_cons_of_mem _ (List.mem_append_right _ (List.mem_append_right _ (List.mem_append_left _ h)))) zX11_countMedals_ws_good)) rfl rfl rfl (by decide +kernel) ⟨Nat.le_of_ble_eq_true rfl, Nat.le_of_ble_eq_true rfl⟩) ⟨zPre.blind, va_recv hKc hPc (ci := 17) (q0 := 0) rfl rfl, zPre.mk hPc hKc hDc hz hS (fun q h => hFc q h)⟩ rfl rfl hl.1 rfl (lv_room (Nat.le_of_ble_eq_true rfl)) dX11_shareBits_5 ⟨Nat.le_of_ble_eq_true rfl, Nat.le_of_ble_eq_true rfl⟩) hS (fun q _ h => hFc q h) (fun q h => hFc q h) (fun u t H1 locs ht9 hvm hw hB hz1 hk1 hS => ?_)
  refine W.widen (k := 0) (n := 0) (by omega) (by omega) ?_
  obtain ⟨hP1, hK1, hD1⟩ := hB
  rw [ht9] at hP1
  have hK1 := va_K.moved hvm.symm hK1
  obtain ⟨hP, hD⟩ := va_joinP (wr := []) (rx := [(h0, .inr (17, zHS a)), ((a 7), .inr (10, [.ref g, .int 0])), (g, .inl (cG, 8, .inr (.inr (.inr (.inr og)))))]) (pl1 := va_pl LR (zrow cI)) hP hD [0, 1, 2] [] rfl rfl (by decide) (by decide) hk1 hFc hP1 hD1
  have hK := (hK.sub (tys' := []) [] rfl).app hK1
  generalize H1 = H at hP hS ⊢
  have hP : va_P D vwCl ([(h0, .inr (17, zHS a)), ((a 7), .inr (10, [.ref g, .int 0])), (g, .inl (cG, 8, .inr (.inr (.inr (.inr og)))))] ++ va_pl LR (zrow cI)) H := hP
  have hD : va_D A ([(h0, .inr (17, zHS a)), ((a 7), .inr (10, [.ref g, .int 0])), (g, .inl (cG, 8, .inr (.inr (.inr (.inr og)))))] ++ va_pl LR (zrow cI)) := hD
  have hK : va_K D vwCl [(cG, .array .int), (cI, .int)] s := hK
  refine lv_aload_n hx hb dX11_shareBits_8 rfl (lv_at hl 0 rfl) ?_
  refine va_get (D := D) (ci := 17) (v := .ref (a 7)) (C := RX11) (T := TX11) (N := 11) hx hb hts (by decide +kernel) hown hK hP 0 rfl rfl 7 (by decide) (hts (.fieldLink RX11 60 "HeatStadium" "table" "LHeatStadium$MedalTable;") (by decide +kernel)) (fun _ h9 => h9) rfl dX11_shareBits_9 ?_
  refine va_getN (D := D) (ci := 10) (v := .int 0) (C := RX4) (T := TX4) (N := 2) hx hb hts (by decide +kernel) hown hK hP 1 rfl rfl 1 (by decide) (hz.w (.fieldLinkNest RX11 355 "HeatStadium$MedalTable" "given" "I" RX11) (by decide +kernel)) (fun _ h9 => h9) rfl dX11_shareBits_12 ?_
  refine lv_iconst (v := 1) hx hb dX11_shareBits_15 (by decide) ?_
  refine lv_icmp_ge (tgt := 30) hx hb dX11_shareBits_16 (by decide) (fun c => absurd c (by decide)) (fun _ => ?_)
  obtain ⟨sa, hstr⟩ := hz.2.1 (RX11, 360, "there are no medals") (by decide +kernel)
  exact vx_throwSW (names := ["java/lang/RuntimeException", "java/lang/Exception"]) hx hb hst hown (by decide +kernel) (by decide +kernel) (hts (.classLink RX11 358 "java/lang/ArithmeticException") (by decide +kernel)) (hts (.initialized "java/lang/ArithmeticException") (by decide +kernel)) hstr (vx_hat (B := zWords) (fun w hw => hts w (List.mem_cons_of_mem _ (List.mem_append_right _ (List.mem_append_right _ (List.mem_append_right _ (List.mem_append_right _ (List.mem_append_right _ (List.mem_append_left _ hw)))))))) (by decide +kernel) (fun w hw => hz.w w hw)) (List.all_eq_true.mp (by decide +kernel)) hz.1.1 hz.1.2 hS (hml ▸ hl.1) dX11_shareBits_19 dX11_shareBits_22 dX11_shareBits_23 dX11_shareBits_26 dX11_shareBits_29 (fun x hx => (ht x hx).elim) (Nat.le_of_ble_eq_true rfl) (Nat.le_of_ble_eq_true rfl) (Nat.le_of_ble_eq_true rfl) (Nat.le_of_ble_eq_true rfl) hlocks (fun t _ h1 h2 => ⟨(), trivial, rfl, zF hS h1 h2⟩) hS.2.2 (Nat.le_of_ble_eq_true rfl) (Nat.le_of_ble_eq_true rfl)
