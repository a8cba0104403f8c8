theorem zupdL {f : Nat → Int64} {i : Nat} {v : Int64} : vp_updL f i v i = v := if_pos rfl
theorem zupdD {f : Nat → UInt64} {i : Nat} {v : UInt64} : vf_upd f i v i = v := if_pos rfl
theorem zcmpL {v : Int64} : lg_cmp v v = 0 := by
  have h : ¬ v > v := fun h => Int64.lt_irrefl h
  rw [lg_cmp, if_neg h, if_pos rfl]
def zl_athlete_ok9 : List Cond := .codeWith yL_athlete cL_athlete 4 (some .int) [(0, 9, 12, 13), (0, 9, 15, 15)] :: ([.methodLink RL 7 yX11_athlete, .instanceMethod yX11_athlete, .selects RX11 yX11_athlete yX11_athlete, .initialized RX11] ++ (zX11_athlete_ws ++ ([])))
theorem zl_athlete_ok9_good : zl_athlete_ok9.all goodWord = true := by decide +kernel
set_option maxHeartbeats 4000000 in
set_option maxRecDepth 100000 in
/-- the law's athlete (ok), with the cell that it writes -/
theorem cl_athlete_ok9 (l : Launch) (hst : l.stackTraces = false) (D : va_G) (sz : Nat) (h0 : Nat) (a : Nat → Nat) (a1 a2 cN : Nat) (fn : Nat → Int32) (cL : Nat) (fo : Nat → Int64) (x1 : Int32) (o : Nat) (h : zin x1 0 7 = 1) : vx_Met l yL_athlete zl_athlete_ok9 (zR 4 1 6) (zPre [.ref h0, .int x1, .ref o] D [(h0, .inr (17, zHS a)), ((a 0), .inr (6, [.ref a1, .ref a2, .int 0])), (a1, .inl (cN, 30, .inl fn)), (o, .inl (cL, 1, .inr (.inl fo)))] [(cN, .int), (cL, .long)] (va_A [(h0, .inr (17, zHS a)), ((a 0), .inr (6, [.ref a1, .ref a2, .int 0])), (a1, .inl (cN, 30, .inl fn)), (o, .inl (cL, 1, .inr (.inl fo)))] sz) sz) (va_Qi (S := Unit) (fun r _ => r = 0) (fun _ t => zAt D [(o, .inl (cL, 1, .inr (.inl (vp_updL fo (0 : Int32).toNatClampNeg ((0 : Int32).toInt64)))))] [(cL, .long)] (va_A [(h0, .inr (17, zHS a)), ((a 0), .inr (6, [.ref a1, .ref a2, .int 0])), (a1, .inl (cN, 30, .inl fn)), (o, .inl (cL, 1, .inr (.inl fo)))] sz) t) (va_A [(h0, .inr (17, zHS a)), ((a 0), .inr (6, [.ref a1, .ref a2, .int 0])), (a1, .inl (cN, 30, .inl fn)), (o, .inl (cL, 1, .inr (.inl fo)))] sz)) (vx_X (S := Unit) (fun _ => False) (fun _ _ _ => True) (va_A [(h0, .inr (17, zHS a)), ((a 0), .inr (6, [.ref a1, .ref a2, .int 0])), (a1, .inl (cN, 30, .inl fn)), (o, .inl (cL, 1, .inr (.inl fo)))] sz)) 1 6 (va_A [(h0, .inr (17, zHS a)), ((a 0), .inr (6, [.ref a1, .ref a2, .int 0])), (a1, .inl (cN, 30, .inl fn)), (o, .inl (cL, 1, .inr (.inl fo)))] sz) := by
  refine vx_ofWH (cc := cL_athlete) (maxL := 4) (ret := (some .int)) (by decide) rfl ?_
  intro p e s m args below meth c s₁ B hml hv
  have htb : c.exceptionTable.toList = tableOf [(0, 9, 12, 13), (0, 9, 15, 15)] := vx_table (x := yL_athlete) B (atoms_spec (ws := zl_athlete_ok9) B.pre _ List.mem_cons_self)
  obtain ⟨rfl, hsz, hP, hK, hD0, hz⟩ := hv
  have hx := B.exec
  have hb := B.bytes
  have hr := B.returns
  have hts := atoms_spec (ws := zl_athlete_ok9) B.pre
  have hown : s.vm.findClass RL = some m.cls := findClass_of_methodNamed B.named
  have hlocks := B.notSynchronized
  subst hsz
  have hD := hD0.self (sz := s.heap.size)
  generalize hAe : va_A [(h0, .inr (17, zHS a)), ((a 0), .inr (6, [.ref a1, .ref a2, .int 0])), (a1, .inl (cN, 30, .inl fn)), (o, .inl (cL, 1, .inr (.inl fo)))] s.heap.size = A at hD hz ⊢
  have hA : ∀ q : Nat, s.heap.size ≤ q → A q := fun q h => by rw [← hAe]; exact Or.inr h
  have hS : va_S A s.heap s.heap [] := va_S.rf
  have hP : va_P D vwCl [(h0, .inr (17, zHS a)), ((a 0), .inr (6, [.ref a1, .ref a2, .int 0])), (a1, .inl (cN, 30, .inl fn)), (o, .inl (cL, 1, .inr (.inl fo)))] s.heap := hP
  have hl := lv_entry ([.ref h0, .int x1, .ref o]) (n := 4) (Nat.le_of_ble_eq_true rfl)
  rw [lg_entry_eq]
  generalize (lg_sl ([.ref h0, .int x1, .ref o]) ++ List.replicate (4 - (lg_sl ([.ref h0, .int x1, .ref o])).length) Slot.unset).toArray = ls at hl ⊢
  have hl : lv_has ls 4 [(0, .ref h0), (1, .int x1), (2, .ref o)] := hl
  refine lv_aload_n hx hb dL_athlete_0 rfl (lv_at hl 2 rfl) ?_
  refine lv_iconst (v := 0) hx hb dL_athlete_1 (by decide) ?_
  refine lv_aload_n hx hb dL_athlete_2 rfl (lv_at hl 0 rfl) ?_
  refine lv_iload_n hx hb dL_athlete_3 rfl (lv_at hl 1 rfl) ?_
  have hPc := hP.sub (ws' := [(h0, .inr (17, zHS a)), ((a 0), .inr (6, [.ref a1, .ref a2, .int 0])), (a1, .inl (cN, 30, .inl fn))]) [0, 1, 2] rfl
  have hDc := hD.sub (ws' := [(h0, .inr (17, zHS a)), ((a 0), .inr (6, [.ref a1, .ref a2, .int 0])), (a1, .inl (cN, 30, .inl fn))]) [0, 1, 2] (by decide) rfl
  have hKc := hK.sub (tys' := [(cN, .int)]) [0] rfl
  have hFc := va_free (wc := [(h0, .inr (17, zHS a)), ((a 0), .inr (6, [.ref a1, .ref a2, .int 0])), (a1, .inl (cN, 30, .inl fn))]) hD hS hA [0, 1, 2] rfl
  refine va_calli (va_runV (As := [.int x1]) (rest := [.int 0, .ref o]) ⟨hx, hb, hml, hown, hts⟩ (c_athlete_ok l hst D s.heap.size h0 a a1 a2 cN fn x1 h) (cwV 1 hts (goodIn_app (goodIn_of _ (by decide +kernel)) (goodIn_sub (fun _ h => List.mem_cons_of_mem _ (List.mem_append_right _ (List.mem_append_left _ h))) zX11_athlete_ws_good)) rfl rfl rfl (by decide +kernel) ⟨Nat.le_of_ble_eq_true rfl, Nat.le_of_ble_eq_true rfl⟩) ⟨zPre.blind, va_recv hKc hPc (ci := 17) (q0 := 0) rfl rfl, zPre.mk hPc hKc hDc hz hS (fun q h => hFc q h)⟩ rfl rfl hl.1 rfl (lv_room (Nat.le_of_ble_eq_true rfl)) dL_athlete_4 ⟨Nat.le_of_ble_eq_true rfl, Nat.le_of_ble_eq_true rfl⟩) hS (fun q _ h => hFc q h) (fun q h => hFc q h) (fun r9 u t H1 locs ht9 hvm hw hB hz1 hk1 hS => ?_)
  refine W.widen (k := 0) (n := 0) (by omega) (by omega) ?_
  obtain ⟨hP1, hK1, hD1⟩ := hB
  rw [ht9] at hP1
  have hK1 := va_K.moved hvm.symm hK1
  obtain ⟨hP, hD⟩ := va_join (wr := [(o, .inl (cL, 1, .inr (.inl fo)))]) (w1 := []) hP hD [0, 1, 2] [3] rfl rfl (by decide) (by decide) hk1 hFc hP1 hD1
  have hK := (hK.sub (tys' := [(cL, .long)]) [1] rfl).app hK1
  generalize H1 = H at hP hS ⊢
  have hP : va_P D vwCl [(o, .inl (cL, 1, .inr (.inl fo)))] H := hP
  have hD : va_D A [(o, .inl (cL, 1, .inr (.inl fo)))] := hD
  have hK : va_K D vwCl [(cL, .long)] s := hK
  subst hw
  refine lv_i2l hx hb dL_athlete_7 rfl ?_
  refine va_last hx hb hK hP hD hS 0 0 rfl rfl (show vp_in 0 1 by unfold vp_in; decide) dL_athlete_8 (fun H locs hP hD hS => ?_)
  have hP : va_P D vwCl [(o, .inl (cL, 1, .inr (.inl (vp_updL fo (0 : Int32).toNatClampNeg ((0 : Int32).toInt64)))))] H := hP
  have hD : va_D A [(o, .inl (cL, 1, .inr (.inl (vp_updL fo (0 : Int32).toNatClampNeg ((0 : Int32).toInt64)))))] := hD
  refine lv_goto (tgt := 18) hx hb dL_athlete_9 (by decide) ?_
  refine lv_iconst (v := 0) hx hb dL_athlete_18 (by decide) ?_
  have hP9 := hP.sub (ws' := [(o, .inl (cL, 1, .inr (.inl (vp_updL fo (0 : Int32).toNatClampNeg ((0 : Int32).toInt64)))))]) [0] rfl
  have hD9 := hD.sub (ws' := [(o, .inl (cL, 1, .inr (.inl (vp_updL fo (0 : Int32).toNatClampNeg ((0 : Int32).toInt64)))))]) [0] (by decide) rfl
  have hK9 := hK.sub (tys' := [(cL, .long)]) [0] rfl
  rw [← hAe] at hD9
  refine W.widen (k := 1) (n := 6) (by omega) (by omega) ?_
  subst hAe
  refine vx_ret ?_
  exact W.iret (v := 0) hx hb hr (fun t ht9 hW => ⟨⟨0, (), rfl, rfl, ⟨by rw [ht9]; exact hP9, va_K.moved hW.alike hK9, hD9⟩⟩, hS.F ht9⟩) hS.2.2 dL_athlete_19

def zl_pass_ok9 : List Cond := .codeWith yL_pass cL_pass 4 (some .int) [(0, 9, 12, 13)] :: ([.methodLink RL 40 yX11_pass, .instanceMethod yX11_pass, .selects RX11 yX11_pass yX11_pass, .initialized RX11] ++ (zX11_pass_ws ++ ([])))
theorem zl_pass_ok9_good : zl_pass_ok9.all goodWord = true := by decide +kernel
set_option maxHeartbeats 4000000 in
set_option maxRecDepth 100000 in
/-- the law's pass (ok), with the cell that it writes -/
theorem cl_pass_ok9 (l : Launch) (hst : l.stackTraces = false) (D : va_G) (sz : Nat) (h0 : Nat) (a : Nat → Nat) (cL : Nat) (fo : Nat → Int64) (x1 : Int32) (o : Nat) (h : zin x1 1 9999 = 1) : vx_Met l yL_pass zl_pass_ok9 (zR 4 1 6) (zPre [.ref h0, .int x1, .ref o] D [(h0, .inr (17, zHS a)), (o, .inl (cL, 1, .inr (.inl fo)))] [(cL, .long)] (va_A [(h0, .inr (17, zHS a)), (o, .inl (cL, 1, .inr (.inl fo)))] sz) sz) (va_Qi (S := Unit) (fun r _ => r = 0) (fun _ t => zAt D [(o, .inl (cL, 1, .inr (.inl (vp_updL fo (0 : Int32).toNatClampNeg ((0 + x1 : Int32).toInt64)))))] [(cL, .long)] (va_A [(h0, .inr (17, zHS a)), (o, .inl (cL, 1, .inr (.inl fo)))] sz) t) (va_A [(h0, .inr (17, zHS a)), (o, .inl (cL, 1, .inr (.inl fo)))] sz)) (vx_X (S := Unit) (fun _ => False) (fun _ _ _ => True) (va_A [(h0, .inr (17, zHS a)), (o, .inl (cL, 1, .inr (.inl fo)))] sz)) 1 6 (va_A [(h0, .inr (17, zHS a)), (o, .inl (cL, 1, .inr (.inl fo)))] sz) := by
  refine vx_ofWH (cc := cL_pass) (maxL := 4) (ret := (some .int)) (by decide) rfl ?_
  intro p e s m args below meth c s₁ B hml hv
  have htb : c.exceptionTable.toList = tableOf [(0, 9, 12, 13)] := vx_table (x := yL_pass) B (atoms_spec (ws := zl_pass_ok9) B.pre _ List.mem_cons_self)
  obtain ⟨rfl, hsz, hP, hK, hD0, hz⟩ := hv
  have hx := B.exec
  have hb := B.bytes
  have hr := B.returns
  have hts := atoms_spec (ws := zl_pass_ok9) B.pre
  have hown : s.vm.findClass RL = some m.cls := findClass_of_methodNamed B.named
  have hlocks := B.notSynchronized
  subst hsz
  have hD := hD0.self (sz := s.heap.size)
  generalize hAe : va_A [(h0, .inr (17, zHS a)), (o, .inl (cL, 1, .inr (.inl fo)))] s.heap.size = A at hD hz ⊢
  have hA : ∀ q : Nat, s.heap.size ≤ q → A q := fun q h => by rw [← hAe]; exact Or.inr h
  have hS : va_S A s.heap s.heap [] := va_S.rf
  have hP : va_P D vwCl [(h0, .inr (17, zHS a)), (o, .inl (cL, 1, .inr (.inl fo)))] s.heap := hP
  have hl := lv_entry ([.ref h0, .int x1, .ref o]) (n := 4) (Nat.le_of_ble_eq_true rfl)
  rw [lg_entry_eq]
  generalize (lg_sl ([.ref h0, .int x1, .ref o]) ++ List.replicate (4 - (lg_sl ([.ref h0, .int x1, .ref o])).length) Slot.unset).toArray = ls at hl ⊢
  have hl : lv_has ls 4 [(0, .ref h0), (1, .int x1), (2, .ref o)] := hl
  refine lv_aload_n hx hb dL_pass_0 rfl (lv_at hl 2 rfl) ?_
  refine lv_iconst (v := 0) hx hb dL_pass_1 (by decide) ?_
  refine lv_aload_n hx hb dL_pass_2 rfl (lv_at hl 0 rfl) ?_
  refine lv_iload_n hx hb dL_pass_3 rfl (lv_at hl 1 rfl) ?_
  have hPc := hP.sub (ws' := [(h0, .inr (17, zHS a))]) [0] rfl
  have hDc := hD.sub (ws' := [(h0, .inr (17, zHS a))]) [0] (by decide) rfl
  have hKc := hK.sub (tys' := []) [] rfl
  have hFc := va_free (wc := [(h0, .inr (17, zHS a))]) hD hS hA [0] rfl
  refine va_calli (va_runV (As := [.int x1]) (rest := [.int 0, .ref o]) ⟨hx, hb, hml, hown, hts⟩ (c_pass_ok l hst D s.heap.size h0 a x1 h) (cwV 1 hts (goodIn_app (goodIn_of _ (by decide +kernel)) (goodIn_sub (fun _ h => List.mem_cons_of_mem _ (List.mem_append_right _ (List.mem_append_left _ h))) zX11_pass_ws_good)) rfl rfl rfl (by decide +kernel) ⟨Nat.le_of_ble_eq_true rfl, Nat.le_of_ble_eq_true rfl⟩) ⟨zPre.blind, va_recv hKc hPc (ci := 17) (q0 := 0) rfl rfl, zPre.mk hPc hKc hDc hz hS (fun q h => hFc q h)⟩ rfl rfl hl.1 rfl (lv_room (Nat.le_of_ble_eq_true rfl)) dL_pass_4 ⟨Nat.le_of_ble_eq_true rfl, Nat.le_of_ble_eq_true rfl⟩) hS (fun q _ h => hFc q h) (fun q h => hFc q h) (fun r9 u t H1 locs ht9 hvm hw hB hz1 hk1 hS => ?_)
  refine W.widen (k := 0) (n := 0) (by omega) (by omega) ?_
  obtain ⟨hP1, hK1, hD1⟩ := hB
  rw [ht9] at hP1
  have hK1 := va_K.moved hvm.symm hK1
  obtain ⟨hP, hD⟩ := va_join (wr := [(o, .inl (cL, 1, .inr (.inl fo)))]) (w1 := []) hP hD [0] [1] rfl rfl (by decide) (by decide) hk1 hFc hP1 hD1
  have hK := (hK.sub (tys' := [(cL, .long)]) [0] rfl).app hK1
  generalize H1 = H at hP hS ⊢
  have hP : va_P D vwCl [(o, .inl (cL, 1, .inr (.inl fo)))] H := hP
  have hD : va_D A [(o, .inl (cL, 1, .inr (.inl fo)))] := hD
  have hK : va_K D vwCl [(cL, .long)] s := hK
  subst hw
  refine lv_i2l hx hb dL_pass_7 rfl ?_
  refine va_last hx hb hK hP hD hS 0 0 rfl rfl (show vp_in 0 1 by unfold vp_in; decide) dL_pass_8 (fun H locs hP hD hS => ?_)
  have hP : va_P D vwCl [(o, .inl (cL, 1, .inr (.inl (vp_updL fo (0 : Int32).toNatClampNeg ((0 + x1 : Int32).toInt64)))))] H := hP
  have hD : va_D A [(o, .inl (cL, 1, .inr (.inl (vp_updL fo (0 : Int32).toNatClampNeg ((0 + x1 : Int32).toInt64)))))] := hD
  refine lv_goto (tgt := 15) hx hb dL_pass_9 (by decide) ?_
  refine lv_iconst (v := 0) hx hb dL_pass_15 (by decide) ?_
  have hP9 := hP.sub (ws' := [(o, .inl (cL, 1, .inr (.inl (vp_updL fo (0 : Int32).toNatClampNeg ((0 + x1 : Int32).toInt64)))))]) [0] rfl
  have hD9 := hD.sub (ws' := [(o, .inl (cL, 1, .inr (.inl (vp_updL fo (0 : Int32).toNatClampNeg ((0 + x1 : Int32).toInt64)))))]) [0] (by decide) rfl
  have hK9 := hK.sub (tys' := [(cL, .long)]) [0] rfl
  rw [← hAe] at hD9
  refine W.widen (k := 1) (n := 6) (by omega) (by omega) ?_
  subst hAe
  refine vx_ret ?_
  exact W.iret (v := 0) hx hb hr (fun t ht9 hW => ⟨⟨0, (), rfl, rfl, ⟨by rw [ht9]; exact hP9, va_K.moved hW.alike hK9, hD9⟩⟩, hS.F ht9⟩) hS.2.2 dL_pass_16

def zl_event_ok9 : List Cond := .codeWith yL_event cL_event 7 (some .int) [(0, 14, 17, 13), (0, 14, 21, 15)] :: ([.methodLink RL 17 yX11_event, .instanceMethod yX11_event, .selects RX11 yX11_event yX11_event, .initialized RX11] ++ (zX11_event_ws ++ ([])))
theorem zl_event_ok9_good : zl_event_ok9.all goodWord = true := by decide +kernel
set_option maxHeartbeats 4000000 in
set_option maxRecDepth 100000 in
/-- the law's event (ok), with the cell that it writes -/
theorem cl_event_ok9 (l : Launch) (hst : l.stackTraces = false) (D : va_G) (sz : Nat) (h0 : Nat) (a : Nat → Nat) (cE : Nat) (fe : Nat → Option Nat) (cL : Nat) (fo : Nat → Int64) (x1 x2 x3 x4 : Int32) (o : Nat) (hk : x1 = 114 ∨ x1 = 106 ∨ x1 = 116) (hkn : narrow .char (.int x1) = .int x1) (hkf : fits .char (.int x1) = true) (h2 : zin x2 1 999999 = 1) (h3 : zin x3 1 5 = 1) (h4 : zin x4 2 24 = 1) : vx_Met l yL_event zl_event_ok9 (zR 4 160 1800) (zPre [.ref h0, .int x1, .int x2, .int x3, .int x4, .ref o] D [(h0, .inr (17, zHS a)), ((a 1), .inl (cE, 5, .inr (.inr (.inr (.inr fe))))), (o, .inl (cL, 1, .inr (.inl fo)))] [(cE, .object "HeatStadium$Event"), (cL, .long)] (va_A [(h0, .inr (17, zHS a)), ((a 1), .inl (cE, 5, .inr (.inr (.inr (.inr fe))))), (o, .inl (cL, 1, .inr (.inl fo)))] sz) sz) (va_Qi (S := Unit) (fun r _ => r = 0) (fun _ t => zAt D [(o, .inl (cL, 1, .inr (.inl (vp_updL fo (0 : Int32).toNatClampNeg ((0 : Int32).toInt64)))))] [(cL, .long)] (va_A [(h0, .inr (17, zHS a)), ((a 1), .inl (cE, 5, .inr (.inr (.inr (.inr fe))))), (o, .inl (cL, 1, .inr (.inl fo)))] sz) t) (va_A [(h0, .inr (17, zHS a)), ((a 1), .inl (cE, 5, .inr (.inr (.inr (.inr fe))))), (o, .inl (cL, 1, .inr (.inl fo)))] sz)) (vx_X (S := Unit) (fun _ => False) (fun _ _ _ => True) (va_A [(h0, .inr (17, zHS a)), ((a 1), .inl (cE, 5, .inr (.inr (.inr (.inr fe))))), (o, .inl (cL, 1, .inr (.inl fo)))] sz)) 160 1800 (va_A [(h0, .inr (17, zHS a)), ((a 1), .inl (cE, 5, .inr (.inr (.inr (.inr fe))))), (o, .inl (cL, 1, .inr (.inl fo)))] sz) := by
  refine vx_ofWH (cc := cL_event) (maxL := 7) (ret := (some .int)) (by decide) rfl ?_
  intro p e s m args below meth c s₁ B hml hv
  have htb : c.exceptionTable.toList = tableOf [(0, 14, 17, 13), (0, 14, 21, 15)] := vx_table (x := yL_event) B (atoms_spec (ws := zl_event_ok9) B.pre _ List.mem_cons_self)
  obtain ⟨rfl, hsz, hP, hK, hD0, hz⟩ := hv
  have hx := B.exec
  have hb := B.bytes
  have hr := B.returns
  have hts := atoms_spec (ws := zl_event_ok9) B.pre
  have hown : s.vm.findClass RL = some m.cls := findClass_of_methodNamed B.named
  have hlocks := B.notSynchronized
  subst hsz
  have hD := hD0.self (sz := s.heap.size)
  generalize hAe : va_A [(h0, .inr (17, zHS a)), ((a 1), .inl (cE, 5, .inr (.inr (.inr (.inr fe))))), (o, .inl (cL, 1, .inr (.inl fo)))] s.heap.size = A at hD hz ⊢
  have hA : ∀ q : Nat, s.heap.size ≤ q → A q := fun q h => by rw [← hAe]; exact Or.inr h
  have hS : va_S A s.heap s.heap [] := va_S.rf
  have hP : va_P D vwCl [(h0, .inr (17, zHS a)), ((a 1), .inl (cE, 5, .inr (.inr (.inr (.inr fe))))), (o, .inl (cL, 1, .inr (.inl fo)))] s.heap := hP
  have hl := lv_entry ([.ref h0, .int x1, .int x2, .int x3, .int x4, .ref o]) (n := 7) (Nat.le_of_ble_eq_true rfl)
  rw [lg_entry_eq]
  generalize (lg_sl ([.ref h0, .int x1, .int x2, .int x3, .int x4, .ref o]) ++ List.replicate (7 - (lg_sl ([.ref h0, .int x1, .int x2, .int x3, .int x4, .ref o])).length) Slot.unset).toArray = ls at hl ⊢
  have hl : lv_has ls 7 [(0, .ref h0), (1, .int x1), (2, .int x2), (3, .int x3), (4, .int x4), (5, .ref o)] := hl
  refine lv_aload hx hb dL_event_0 (lv_at hl 5 rfl) ?_
  refine lv_iconst (v := 0) hx hb dL_event_2 (by decide) ?_
  refine lv_aload_n hx hb dL_event_3 rfl (lv_at hl 0 rfl) ?_
  refine lv_iload_n hx hb dL_event_4 rfl (lv_at hl 1 rfl) ?_
  refine lv_iload_n hx hb dL_event_5 rfl (lv_at hl 2 rfl) ?_
  refine lv_iload_n hx hb dL_event_6 rfl (lv_at hl 3 rfl) ?_
  refine lv_iload hx hb dL_event_7 (lv_at hl 4 rfl) ?_
  have hPc := hP.sub (ws' := [(h0, .inr (17, zHS a)), ((a 1), .inl (cE, 5, .inr (.inr (.inr (.inr fe)))))]) [0, 1] rfl
  have hDc := hD.sub (ws' := [(h0, .inr (17, zHS a)), ((a 1), .inl (cE, 5, .inr (.inr (.inr (.inr fe)))))]) [0, 1] (by decide) rfl
  have hKc := hK.sub (tys' := [(cE, .object "HeatStadium$Event")]) [0] rfl
  have hFc := va_free (wc := [(h0, .inr (17, zHS a)), ((a 1), .inl (cE, 5, .inr (.inr (.inr (.inr fe)))))]) hD hS hA [0, 1] rfl
  refine va_calli (va_runV (As := [.int x1, .int x2, .int x3, .int x4]) (rest := [.int 0, .ref o]) ⟨hx, hb, hml, hown, hts⟩ (c_event_ok l hst D s.heap.size h0 a cE fe x1 x2 x3 x4 hk hkn hkf h2 h3 h4) (cwV 4 hts (goodIn_app (goodIn_of _ (by decide +kernel)) (goodIn_sub (fun _ h => List.mem_cons_of_mem _ (List.mem_append_right _ (List.mem_append_left _ h))) zX11_event_ws_good)) rfl rfl rfl (by decide +kernel) ⟨Nat.le_of_ble_eq_true rfl, Nat.le_of_ble_eq_true rfl⟩) ⟨zPre.blind, va_recv hKc hPc (ci := 17) (q0 := 0) rfl rfl, zPre.mk hPc hKc hDc hz hS (fun q h => hFc q h)⟩ rfl rfl hl.1 rfl (lv_room (Nat.le_of_ble_eq_true rfl)) dL_event_9 ⟨Nat.le_of_ble_eq_true rfl, Nat.le_of_ble_eq_true rfl⟩) hS (fun q _ h => hFc q h) (fun q h => hFc q h) (fun r9 u t H1 locs ht9 hvm hw hB hz1 hk1 hS => ?_)
  refine W.widen (k := 160) (n := 1800) (by omega) (by omega) ?_
  obtain ⟨hP1, hK1, hD1⟩ := hB
  rw [ht9] at hP1
  have hK1 := va_K.moved hvm.symm hK1
  obtain ⟨hP, hD⟩ := va_join (wr := [(o, .inl (cL, 1, .inr (.inl fo)))]) (w1 := []) hP hD [0, 1] [2] rfl rfl (by decide) (by decide) hk1 hFc hP1 hD1
  have hK := (hK.sub (tys' := [(cL, .long)]) [1] rfl).app hK1
  generalize H1 = H at hP hS ⊢
  have hP : va_P D vwCl [(o, .inl (cL, 1, .inr (.inl fo)))] H := hP
  have hD : va_D A [(o, .inl (cL, 1, .inr (.inl fo)))] := hD
  have hK : va_K D vwCl [(cL, .long)] s := hK
  subst hw
  refine lv_i2l hx hb dL_event_12 rfl ?_
  refine va_last hx hb hK hP hD hS 0 0 rfl rfl (show vp_in 0 1 by unfold vp_in; decide) dL_event_13 (fun H locs hP hD hS => ?_)
  have hP : va_P D vwCl [(o, .inl (cL, 1, .inr (.inl (vp_updL fo (0 : Int32).toNatClampNeg ((0 : Int32).toInt64)))))] H := hP
  have hD : va_D A [(o, .inl (cL, 1, .inr (.inl (vp_updL fo (0 : Int32).toNatClampNeg ((0 : Int32).toInt64)))))] := hD
  refine lv_goto (tgt := 25) hx hb dL_event_14 (by decide) ?_
  refine lv_iconst (v := 0) hx hb dL_event_25 (by decide) ?_
  have hP9 := hP.sub (ws' := [(o, .inl (cL, 1, .inr (.inl (vp_updL fo (0 : Int32).toNatClampNeg ((0 : Int32).toInt64)))))]) [0] rfl
  have hD9 := hD.sub (ws' := [(o, .inl (cL, 1, .inr (.inl (vp_updL fo (0 : Int32).toNatClampNeg ((0 : Int32).toInt64)))))]) [0] (by decide) rfl
  have hK9 := hK.sub (tys' := [(cL, .long)]) [0] rfl
  rw [← hAe] at hD9
  refine W.widen (k := 160) (n := 1800) (by omega) (by omega) ?_
  subst hAe
  refine vx_ret ?_
  exact W.iret (v := 0) hx hb hr (fun t ht9 hW => ⟨⟨0, (), rfl, rfl, ⟨by rw [ht9]; exact hP9, va_K.moved hW.alike hK9, hD9⟩⟩, hS.F ht9⟩) hS.2.2 dL_event_26

def zl_medals_ok9 : List Cond := .codeWith yL_medals cL_medals 5 (some .int) [(0, 10, 13, 13)] :: ([.methodLink RL 108 yX11_medals, .instanceMethod yX11_medals, .selects RX11 yX11_medals yX11_medals, .initialized RX11] ++ (zX11_medals_ws ++ ([])))
theorem zl_medals_ok9_good : zl_medals_ok9.all goodWord = true := by decide +kernel
set_option maxHeartbeats 4000000 in
set_option maxRecDepth 100000 in
/-- the law's medals (ok), with the cell that it writes -/
theorem cl_medals_ok9 (l : Launch) (hst : l.stackTraces = false) (D : va_G) (sz : Nat) (h0 : Nat) (a : Nat → Nat) (g : Nat) (gv : Int32) (og : Nat → Option Nat) (LR : List Nat) (cG cI : ClassId) (cL : Nat) (fo : Nat → Int64) (x1 x2 : Int32) (o : Nat) (hg : ∀ i, i < 8 → ∃ y, og i = some y ∧ y ∈ LR) (h : zin x1 0 7 = 1) (h2 : zin x2 0 3 = 1) : vx_Met l yL_medals zl_medals_ok9 (zR 4 1 6) (zPre [.ref h0, .int x1, .int x2, .ref o] D ([(h0, .inr (17, zHS a)), ((a 7), .inr (10, [.ref g, .int gv])), (g, .inl (cG, 8, .inr (.inr (.inr (.inr og))))), (o, .inl (cL, 1, .inr (.inl fo)))] ++ va_pl LR (zrow cI)) [(cG, .array .int), (cI, .int), (cL, .long)] (va_A ([(h0, .inr (17, zHS a)), ((a 7), .inr (10, [.ref g, .int gv])), (g, .inl (cG, 8, .inr (.inr (.inr (.inr og))))), (o, .inl (cL, 1, .inr (.inl fo)))] ++ va_pl LR (zrow cI)) sz) sz) (va_Qi (S := Unit) (fun r _ => r = 0) (fun _ t => zAt D [(o, .inl (cL, 1, .inr (.inl (vp_updL fo (0 : Int32).toNatClampNeg ((0 : Int32).toInt64)))))] [(cL, .long)] (va_A ([(h0, .inr (17, zHS a)), ((a 7), .inr (10, [.ref g, .int gv])), (g, .inl (cG, 8, .inr (.inr (.inr (.inr og))))), (o, .inl (cL, 1, .inr (.inl fo)))] ++ va_pl LR (zrow cI)) sz) t) (va_A ([(h0, .inr (17, zHS a)), ((a 7), .inr (10, [.ref g, .int gv])), (g, .inl (cG, 8, .inr (.inr (.inr (.inr og))))), (o, .inl (cL, 1, .inr (.inl fo)))] ++ va_pl LR (zrow cI)) sz)) (vx_X (S := Unit) (fun _ => False) (fun _ _ _ => True) (va_A ([(h0, .inr (17, zHS a)), ((a 7), .inr (10, [.ref g, .int gv])), (g, .inl (cG, 8, .inr (.inr (.inr (.inr og))))), (o, .inl (cL, 1, .inr (.inl fo)))] ++ va_pl LR (zrow cI)) sz)) 1 6 (va_A ([(h0, .inr (17, zHS a)), ((a 7), .inr (10, [.ref g, .int gv])), (g, .inl (cG, 8, .inr (.inr (.inr (.inr og))))), (o, .inl (cL, 1, .inr (.inl fo)))] ++ va_pl LR (zrow cI)) sz) := by
  refine vx_ofWH (cc := cL_medals) (maxL := 5) (ret := (some .int)) (by decide) rfl ?_
  intro p e s m args below meth c s₁ B hml hv
  have htb : c.exceptionTable.toList = tableOf [(0, 10, 13, 13)] := vx_table (x := yL_medals) B (atoms_spec (ws := zl_medals_ok9) B.pre _ List.mem_cons_self)
  obtain ⟨rfl, hsz, hP, hK, hD0, hz⟩ := hv
  have hx := B.exec
  have hb := B.bytes
  have hr := B.returns
  have hts := atoms_spec (ws := zl_medals_ok9) B.pre
  have hown : s.vm.findClass RL = some m.cls := findClass_of_methodNamed B.named
  have hlocks := B.notSynchronized
  subst hsz
  have hD := hD0.self (sz := s.heap.size)
  generalize hAe : va_A ([(h0, .inr (17, zHS a)), ((a 7), .inr (10, [.ref g, .int gv])), (g, .inl (cG, 8, .inr (.inr (.inr (.inr og))))), (o, .inl (cL, 1, .inr (.inl fo)))] ++ va_pl LR (zrow cI)) s.heap.size = A at hD hz ⊢
  have hA : ∀ q : Nat, s.heap.size ≤ q → A q := fun q h => by rw [← hAe]; exact Or.inr h
  have hS : va_S A s.heap s.heap [] := va_S.rf
  have hP : va_P D vwCl ([(h0, .inr (17, zHS a)), ((a 7), .inr (10, [.ref g, .int gv])), (g, .inl (cG, 8, .inr (.inr (.inr (.inr og))))), (o, .inl (cL, 1, .inr (.inl fo)))] ++ va_pl LR (zrow cI)) s.heap := hP
  have hl := lv_entry ([.ref h0, .int x1, .int x2, .ref o]) (n := 5) (Nat.le_of_ble_eq_true rfl)
  rw [lg_entry_eq]
  generalize (lg_sl ([.ref h0, .int x1, .int x2, .ref o]) ++ List.replicate (5 - (lg_sl ([.ref h0, .int x1, .int x2, .ref o])).length) Slot.unset).toArray = ls at hl ⊢
  have hl : lv_has ls 5 [(0, .ref h0), (1, .int x1), (2, .int x2), (3, .ref o)] := hl
  refine lv_aload_n hx hb dL_medals_0 rfl (lv_at hl 3 rfl) ?_
  refine lv_iconst (v := 0) hx hb dL_medals_1 (by decide) ?_
  refine lv_aload_n hx hb dL_medals_2 rfl (lv_at hl 0 rfl) ?_
  refine lv_iload_n hx hb dL_medals_3 rfl (lv_at hl 1 rfl) ?_
  refine lv_iload_n hx hb dL_medals_4 rfl (lv_at hl 2 rfl) ?_
  have hPc := hP.part (cx := [(h0, .inr (17, zHS a)), ((a 7), .inr (10, [.ref g, .int gv])), (g, .inl (cG, 8, .inr (.inr (.inr (.inr og)))))]) [0, 1, 2] rfl
  have hDc := hD.part (cx := [(h0, .inr (17, zHS a)), ((a 7), .inr (10, [.ref g, .int gv])), (g, .inl (cG, 8, .inr (.inr (.inr (.inr og)))))]) [0, 1, 2] (by decide) rfl
  have hKc := hK.sub (tys' := [(cG, .array .int), (cI, .int)]) [0, 1] rfl
  have hFc := va_freeP (cx := [(h0, .inr (17, zHS a)), ((a 7), .inr (10, [.ref g, .int gv])), (g, .inl (cG, 8, .inr (.inr (.inr (.inr og)))))]) hD hS hA [0, 1, 2] rfl
  refine va_calli (va_runV (As := [.int x1, .int x2]) (rest := [.int 0, .ref o]) ⟨hx, hb, hml, hown, hts⟩ (c_medals_ok l hst D s.heap.size h0 a g gv og LR cG cI x1 x2 hg h h2) (cwV 2 hts (goodIn_app (goodIn_of _ (by decide +kernel)) (goodIn_sub (fun _ h => List.mem_cons_of_mem _ (List.mem_append_right _ (List.mem_append_left _ h))) zX11_medals_ws_good)) rfl rfl rfl (by decide +kernel) ⟨Nat.le_of_ble_eq_true rfl, Nat.le_of_ble_eq_true rfl⟩) ⟨zPre.blind, va_recv hKc hPc (ci := 17) (q0 := 0) rfl rfl, zPre.mk hPc hKc hDc hz hS (fun q h => hFc q h)⟩ rfl rfl hl.1 rfl (lv_room (Nat.le_of_ble_eq_true rfl)) dL_medals_5 ⟨Nat.le_of_ble_eq_true rfl, Nat.le_of_ble_eq_true rfl⟩) hS (fun q _ h => hFc q h) (fun q h => hFc q h) (fun r9 u t H1 locs ht9 hvm hw hB hz1 hk1 hS => ?_)
  refine W.widen (k := 0) (n := 0) (by omega) (by omega) ?_
  obtain ⟨hP1, hK1, hD1⟩ := hB
  rw [ht9] at hP1
  have hK1 := va_K.moved hvm.symm hK1
  obtain ⟨hP, hD⟩ := va_joinP (wr := [(o, .inl (cL, 1, .inr (.inl fo)))]) (rx := []) (pl1 := []) hP hD [0, 1, 2] [3] rfl rfl (by decide) (by decide) hk1 hFc hP1 hD1
  have hK := (hK.sub (tys' := [(cL, .long)]) [2] rfl).app hK1
  generalize H1 = H at hP hS ⊢
  have hP : va_P D vwCl [(o, .inl (cL, 1, .inr (.inl fo)))] H := hP
  have hD : va_D A [(o, .inl (cL, 1, .inr (.inl fo)))] := hD
  have hK : va_K D vwCl [(cL, .long), (cG, .array .int), (cI, .int)] s := hK
  subst hw
  refine lv_i2l hx hb dL_medals_8 rfl ?_
  refine va_last hx hb hK hP hD hS 0 0 rfl rfl (show vp_in 0 1 by unfold vp_in; decide) dL_medals_9 (fun H locs hP hD hS => ?_)
  have hP : va_P D vwCl [(o, .inl (cL, 1, .inr (.inl (vp_updL fo (0 : Int32).toNatClampNeg ((0 : Int32).toInt64)))))] H := hP
  have hD : va_D A [(o, .inl (cL, 1, .inr (.inl (vp_updL fo (0 : Int32).toNatClampNeg ((0 : Int32).toInt64)))))] := hD
  refine lv_goto (tgt := 17) hx hb dL_medals_10 (by decide) ?_
  refine lv_iconst (v := 0) hx hb dL_medals_17 (by decide) ?_
  have hP9 := hP.sub (ws' := [(o, .inl (cL, 1, .inr (.inl (vp_updL fo (0 : Int32).toNatClampNeg ((0 : Int32).toInt64)))))]) [0] rfl
  have hD9 := hD.sub (ws' := [(o, .inl (cL, 1, .inr (.inl (vp_updL fo (0 : Int32).toNatClampNeg ((0 : Int32).toInt64)))))]) [0] (by decide) rfl
  have hK9 := hK.sub (tys' := [(cL, .long)]) [0] rfl
  rw [← hAe] at hD9
  refine W.widen (k := 1) (n := 6) (by omega) (by omega) ?_
  subst hAe
  refine vx_ret ?_
  exact W.iret (v := 0) hx hb hr (fun t ht9 hW => ⟨⟨0, (), rfl, rfl, ⟨by rw [ht9]; exact hP9, va_K.moved hW.alike hK9, hD9⟩⟩, hS.F ht9⟩) hS.2.2 dL_medals_18

def zl_inTable_ok9 : List Cond := .codeWith yL_inTable cL_inTable 5 (some .int) [(0, 10, 13, 13)] :: ([.methodLink RL 111 yX11_inTable, .instanceMethod yX11_inTable, .selects RX11 yX11_inTable yX11_inTable, .initialized RX11] ++ (zX11_inTable_ws ++ ([])))
theorem zl_inTable_ok9_good : zl_inTable_ok9.all goodWord = true := by decide +kernel
set_option maxHeartbeats 4000000 in
set_option maxRecDepth 100000 in
/-- the law's inTable (ok), with the cell that it writes -/
theorem cl_inTable_ok9 (l : Launch) (hst : l.stackTraces = false) (D : va_G) (sz : Nat) (h0 : Nat) (a : Nat → Nat) (g : Nat) (gv : Int32) (og : Nat → Option Nat) (LR : List Nat) (cG cI : ClassId) (cL : Nat) (fo : Nat → Int64) (x1 x2 : Int32) (o : Nat) (hg : ∀ i, i < 8 → ∃ y, og i = some y ∧ y ∈ LR) (h : zin x1 0 7 = 1) : vx_Met l yL_inTable zl_inTable_ok9 (zR 4 1 6) (zPre [.ref h0, .int x1, .int x2, .ref o] D ([(h0, .inr (17, zHS a)), ((a 7), .inr (10, [.ref g, .int gv])), (g, .inl (cG, 8, .inr (.inr (.inr (.inr og))))), (o, .inl (cL, 1, .inr (.inl fo)))] ++ va_pl LR (zrow cI)) [(cG, .array .int), (cI, .int), (cL, .long)] (va_A ([(h0, .inr (17, zHS a)), ((a 7), .inr (10, [.ref g, .int gv])), (g, .inl (cG, 8, .inr (.inr (.inr (.inr og))))), (o, .inl (cL, 1, .inr (.inl fo)))] ++ va_pl LR (zrow cI)) sz) sz) (va_Qi (S := Unit) (fun r _ => r = 0) (fun _ t => zAt D [(o, .inl (cL, 1, .inr (.inl (vp_updL fo (0 : Int32).toNatClampNeg ((x1 : Int32).toInt64)))))] [(cL, .long)] (va_A ([(h0, .inr (17, zHS a)), ((a 7), .inr (10, [.ref g, .int gv])), (g, .inl (cG, 8, .inr (.inr (.inr (.inr og))))), (o, .inl (cL, 1, .inr (.inl fo)))] ++ va_pl LR (zrow cI)) sz) t) (va_A ([(h0, .inr (17, zHS a)), ((a 7), .inr (10, [.ref g, .int gv])), (g, .inl (cG, 8, .inr (.inr (.inr (.inr og))))), (o, .inl (cL, 1, .inr (.inl fo)))] ++ va_pl LR (zrow cI)) sz)) (vx_X (S := Unit) (fun _ => False) (fun _ _ _ => True) (va_A ([(h0, .inr (17, zHS a)), ((a 7), .inr (10, [.ref g, .int gv])), (g, .inl (cG, 8, .inr (.inr (.inr (.inr og))))), (o, .inl (cL, 1, .inr (.inl fo)))] ++ va_pl LR (zrow cI)) sz)) 1 6 (va_A ([(h0, .inr (17, zHS a)), ((a 7), .inr (10, [.ref g, .int gv])), (g, .inl (cG, 8, .inr (.inr (.inr (.inr og))))), (o, .inl (cL, 1, .inr (.inl fo)))] ++ va_pl LR (zrow cI)) sz) := by
  refine vx_ofWH (cc := cL_inTable) (maxL := 5) (ret := (some .int)) (by decide) rfl ?_
  intro p e s m args below meth c s₁ B hml hv
  have htb : c.exceptionTable.toList = tableOf [(0, 10, 13, 13)] := vx_table (x := yL_inTable) B (atoms_spec (ws := zl_inTable_ok9) B.pre _ List.mem_cons_self)
  obtain ⟨rfl, hsz, hP, hK, hD0, hz⟩ := hv
  have hx := B.exec
  have hb := B.bytes
  have hr := B.returns
  have hts := atoms_spec (ws := zl_inTable_ok9) B.pre
  have hown : s.vm.findClass RL = some m.cls := findClass_of_methodNamed B.named
  have hlocks := B.notSynchronized
  subst hsz
  have hD := hD0.self (sz := s.heap.size)
  generalize hAe : va_A ([(h0, .inr (17, zHS a)), ((a 7), .inr (10, [.ref g, .int gv])), (g, .inl (cG, 8, .inr (.inr (.inr (.inr og))))), (o, .inl (cL, 1, .inr (.inl fo)))] ++ va_pl LR (zrow cI)) s.heap.size = A at hD hz ⊢
  have hA : ∀ q : Nat, s.heap.size ≤ q → A q := fun q h => by rw [← hAe]; exact Or.inr h
  have hS : va_S A s.heap s.heap [] := va_S.rf
  have hP : va_P D vwCl ([(h0, .inr (17, zHS a)), ((a 7), .inr (10, [.ref g, .int gv])), (g, .inl (cG, 8, .inr (.inr (.inr (.inr og))))), (o, .inl (cL, 1, .inr (.inl fo)))] ++ va_pl LR (zrow cI)) s.heap := hP
  have hl := lv_entry ([.ref h0, .int x1, .int x2, .ref o]) (n := 5) (Nat.le_of_ble_eq_true rfl)
  rw [lg_entry_eq]
  generalize (lg_sl ([.ref h0, .int x1, .int x2, .ref o]) ++ List.replicate (5 - (lg_sl ([.ref h0, .int x1, .int x2, .ref o])).length) Slot.unset).toArray = ls at hl ⊢
  have hl : lv_has ls 5 [(0, .ref h0), (1, .int x1), (2, .int x2), (3, .ref o)] := hl
  refine lv_aload_n hx hb dL_inTable_0 rfl (lv_at hl 3 rfl) ?_
  refine lv_iconst (v := 0) hx hb dL_inTable_1 (by decide) ?_
  refine lv_aload_n hx hb dL_inTable_2 rfl (lv_at hl 0 rfl) ?_
  refine lv_iload_n hx hb dL_inTable_3 rfl (lv_at hl 1 rfl) ?_
  refine lv_iload_n hx hb dL_inTable_4 rfl (lv_at hl 2 rfl) ?_
  have hPc := hP.part (cx := [(h0, .inr (17, zHS a)), ((a 7), .inr (10, [.ref g, .int gv])), (g, .inl (cG, 8, .inr (.inr (.inr (.inr og)))))]) [0, 1, 2] rfl
  have hDc := hD.part (cx := [(h0, .inr (17, zHS a)), ((a 7), .inr (10, [.ref g, .int gv])), (g, .inl (cG, 8, .inr (.inr (.inr (.inr og)))))]) [0, 1, 2] (by decide) rfl
  have hKc := hK.sub (tys' := [(cG, .array .int), (cI, .int)]) [0, 1] rfl
  have hFc := va_freeP (cx := [(h0, .inr (17, zHS a)), ((a 7), .inr (10, [.ref g, .int gv])), (g, .inl (cG, 8, .inr (.inr (.inr (.inr og)))))]) hD hS hA [0, 1, 2] rfl
  refine va_calli (va_runV (As := [.int x1, .int x2]) (rest := [.int 0, .ref o]) ⟨hx, hb, hml, hown, hts⟩ (c_inTable_ok l hst D s.heap.size h0 a g gv og LR cG cI x1 x2 hg h) (cwV 2 hts (goodIn_app (goodIn_of _ (by decide +kernel)) (goodIn_sub (fun _ h => List.mem_cons_of_mem _ (List.mem_append_right _ (List.mem_append_left _ h))) zX11_inTable_ws_good)) rfl rfl rfl (by decide +kernel) ⟨Nat.le_of_ble_eq_true rfl, Nat.le_of_ble_eq_true rfl⟩) ⟨zPre.blind, va_recv hKc hPc (ci := 17) (q0 := 0) rfl rfl, zPre.mk hPc hKc hDc hz hS (fun q h => hFc q h)⟩ rfl rfl hl.1 rfl (lv_room (Nat.le_of_ble_eq_true rfl)) dL_inTable_5 ⟨Nat.le_of_ble_eq_true rfl, Nat.le_of_ble_eq_true rfl⟩) hS (fun q _ h => hFc q h) (fun q h => hFc q h) (fun r9 u t H1 locs ht9 hvm hw hB hz1 hk1 hS => ?_)
  refine W.widen (k := 0) (n := 0) (by omega) (by omega) ?_
  obtain ⟨hP1, hK1, hD1⟩ := hB
  rw [ht9] at hP1
  have hK1 := va_K.moved hvm.symm hK1
  obtain ⟨hP, hD⟩ := va_joinP (wr := [(o, .inl (cL, 1, .inr (.inl fo)))]) (rx := []) (pl1 := []) hP hD [0, 1, 2] [3] rfl rfl (by decide) (by decide) hk1 hFc hP1 hD1
  have hK := (hK.sub (tys' := [(cL, .long)]) [2] rfl).app hK1
  generalize H1 = H at hP hS ⊢
  have hP : va_P D vwCl [(o, .inl (cL, 1, .inr (.inl fo)))] H := hP
  have hD : va_D A [(o, .inl (cL, 1, .inr (.inl fo)))] := hD
  have hK : va_K D vwCl [(cL, .long), (cG, .array .int), (cI, .int)] s := hK
  rw [hw]
  refine lv_i2l hx hb dL_inTable_8 rfl ?_
  refine va_last hx hb hK hP hD hS 0 0 rfl rfl (show vp_in 0 1 by unfold vp_in; decide) dL_inTable_9 (fun H locs hP hD hS => ?_)
  have hP : va_P D vwCl [(o, .inl (cL, 1, .inr (.inl (vp_updL fo (0 : Int32).toNatClampNeg ((x1 : Int32).toInt64)))))] H := hP
  have hD : va_D A [(o, .inl (cL, 1, .inr (.inl (vp_updL fo (0 : Int32).toNatClampNeg ((x1 : Int32).toInt64)))))] := hD
  refine lv_goto (tgt := 17) hx hb dL_inTable_10 (by decide) ?_
  refine lv_iconst (v := 0) hx hb dL_inTable_17 (by decide) ?_
  have hP9 := hP.sub (ws' := [(o, .inl (cL, 1, .inr (.inl (vp_updL fo (0 : Int32).toNatClampNeg ((x1 : Int32).toInt64)))))]) [0] rfl
  have hD9 := hD.sub (ws' := [(o, .inl (cL, 1, .inr (.inl (vp_updL fo (0 : Int32).toNatClampNeg ((x1 : Int32).toInt64)))))]) [0] (by decide) rfl
  have hK9 := hK.sub (tys' := [(cL, .long)]) [0] rfl
  rw [← hAe] at hD9
  refine W.widen (k := 1) (n := 6) (by omega) (by omega) ?_
  subst hAe
  refine vx_ret ?_
  exact W.iret (v := 0) hx hb hr (fun t ht9 hW => ⟨⟨0, (), rfl, rfl, ⟨by rw [ht9]; exact hP9, va_K.moved hW.alike hK9, hD9⟩⟩, hS.F ht9⟩) hS.2.2 dL_inTable_18

def zl_points_ok9 : List Cond := .codeWith yL_points cL_points 4 (some .int) [(0, 8, 11, 13)] :: ([.methodLink RL 115 yX11_points, .instanceMethod yX11_points, .selects RX11 yX11_points yX11_points, .initialized RX11] ++ (zX11_points_ws ++ ([])))
theorem zl_points_ok9_good : zl_points_ok9.all goodWord = true := by decide +kernel
set_option maxHeartbeats 4000000 in
set_option maxRecDepth 100000 in
/-- the law's points (ok), with the cell that it writes -/
theorem cl_points_ok9 (l : Launch) (hst : l.stackTraces = false) (D : va_G) (sz : Nat) (h0 : Nat) (a : Nat → Nat) (cD : Nat) (fd : Nat → UInt64) (x1 : Int32) (o : Nat) (h : zin x1 0 7 = 1) : vx_Met l yL_points zl_points_ok9 (zR 4 1 6) (zPre [.ref h0, .int x1, .ref o] D [(h0, .inr (17, zHS a)), (o, .inl (cD, 1, .inr (.inr (.inr (.inl fd)))))] [(cD, .double)] (va_A [(h0, .inr (17, zHS a)), (o, .inl (cD, 1, .inr (.inr (.inr (.inl fd)))))] sz) sz) (va_Qi (S := Unit) (fun r _ => r = 0) (fun _ t => zAt D [(o, .inl (cD, 1, .inr (.inr (.inr (.inl (vf_upd fd (0 : Int32).toNatClampNeg 0))))))] [(cD, .double)] (va_A [(h0, .inr (17, zHS a)), (o, .inl (cD, 1, .inr (.inr (.inr (.inl fd)))))] sz) t) (va_A [(h0, .inr (17, zHS a)), (o, .inl (cD, 1, .inr (.inr (.inr (.inl fd)))))] sz)) (vx_X (S := Unit) (fun _ => False) (fun _ _ _ => True) (va_A [(h0, .inr (17, zHS a)), (o, .inl (cD, 1, .inr (.inr (.inr (.inl fd)))))] sz)) 1 6 (va_A [(h0, .inr (17, zHS a)), (o, .inl (cD, 1, .inr (.inr (.inr (.inl fd)))))] sz) := by
  refine vx_ofWH (cc := cL_points) (maxL := 4) (ret := (some .int)) (by decide) rfl ?_
  intro p e s m args below meth c s₁ B hml hv
  have htb : c.exceptionTable.toList = tableOf [(0, 8, 11, 13)] := vx_table (x := yL_points) B (atoms_spec (ws := zl_points_ok9) B.pre _ List.mem_cons_self)
  obtain ⟨rfl, hsz, hP, hK, hD0, hz⟩ := hv
  have hx := B.exec
  have hb := B.bytes
  have hr := B.returns
  have hts := atoms_spec (ws := zl_points_ok9) B.pre
  have hown : s.vm.findClass RL = some m.cls := findClass_of_methodNamed B.named
  have hlocks := B.notSynchronized
  subst hsz
  have hD := hD0.self (sz := s.heap.size)
  generalize hAe : va_A [(h0, .inr (17, zHS a)), (o, .inl (cD, 1, .inr (.inr (.inr (.inl fd)))))] s.heap.size = A at hD hz ⊢
  have hA : ∀ q : Nat, s.heap.size ≤ q → A q := fun q h => by rw [← hAe]; exact Or.inr h
  have hS : va_S A s.heap s.heap [] := va_S.rf
  have hP : va_P D vwCl [(h0, .inr (17, zHS a)), (o, .inl (cD, 1, .inr (.inr (.inr (.inl fd)))))] s.heap := hP
  have hl := lv_entry ([.ref h0, .int x1, .ref o]) (n := 4) (Nat.le_of_ble_eq_true rfl)
  rw [lg_entry_eq]
  generalize (lg_sl ([.ref h0, .int x1, .ref o]) ++ List.replicate (4 - (lg_sl ([.ref h0, .int x1, .ref o])).length) Slot.unset).toArray = ls at hl ⊢
  have hl : lv_has ls 4 [(0, .ref h0), (1, .int x1), (2, .ref o)] := hl
  refine lv_aload_n hx hb dL_points_0 rfl (lv_at hl 2 rfl) ?_
  refine lv_iconst (v := 0) hx hb dL_points_1 (by decide) ?_
  refine lv_aload_n hx hb dL_points_2 rfl (lv_at hl 0 rfl) ?_
  refine lv_iload_n hx hb dL_points_3 rfl (lv_at hl 1 rfl) ?_
  have hPc := hP.sub (ws' := [(h0, .inr (17, zHS a))]) [0] rfl
  have hDc := hD.sub (ws' := [(h0, .inr (17, zHS a))]) [0] (by decide) rfl
  have hKc := hK.sub (tys' := []) [] rfl
  have hFc : ∀ q : Nat, s.heap.size ≤ q → A q := fun q h => hA q (Nat.le_trans hS.1 h)
  refine va_calld (va_runV (As := [.int x1]) (rest := [.int 0, .ref o]) ⟨hx, hb, hml, hown, hts⟩ (c_points_ok l hst D s.heap.size h0 a x1 h) (cwV 1 hts (goodIn_app (goodIn_of _ (by decide +kernel)) (goodIn_sub (fun _ h => List.mem_cons_of_mem _ (List.mem_append_right _ (List.mem_append_left _ h))) zX11_points_ws_good)) rfl rfl rfl (by decide +kernel) ⟨Nat.le_of_ble_eq_true rfl, Nat.le_of_ble_eq_true rfl⟩) ⟨zPre.blind, va_recv hKc hPc (ci := 17) (q0 := 0) rfl rfl, zPre.mk hPc hKc hDc hz hS (fun q h => hFc q h)⟩ rfl rfl hl.1 rfl (lv_room (Nat.le_of_ble_eq_true rfl)) dL_points_4 ⟨Nat.le_of_ble_eq_true rfl, Nat.le_of_ble_eq_true rfl⟩) hS (fun q _ h => hFc q h) (fun q h => hFc q h) (fun r9 u t H1 locs ht9 hvm hw hB hz1 hk1 hS => ?_)
  refine W.widen (k := 0) (n := 0) (by omega) (by omega) ?_
  have hP := zKeep hP hk1
  generalize H1 = H at hP hS ⊢
  have hP : va_P D vwCl [(h0, .inr (17, zHS a)), (o, .inl (cD, 1, .inr (.inr (.inr (.inl fd)))))] H := hP
  subst hw
  refine va_dast hx hb hK hP hD hS 1 0 rfl rfl (show vp_in 0 1 by unfold vp_in; decide) dL_points_7 (fun H locs hP hD hS => ?_)
  have hP : va_P D vwCl [(h0, .inr (17, zHS a)), (o, .inl (cD, 1, .inr (.inr (.inr (.inl (vf_upd fd (0 : Int32).toNatClampNeg 0))))))] H := hP
  have hD : va_D A [(h0, .inr (17, zHS a)), (o, .inl (cD, 1, .inr (.inr (.inr (.inl (vf_upd fd (0 : Int32).toNatClampNeg 0))))))] := hD
  refine lv_goto (tgt := 14) hx hb dL_points_8 (by decide) ?_
  refine lv_iconst (v := 0) hx hb dL_points_14 (by decide) ?_
  have hP9 := hP.sub (ws' := [(o, .inl (cD, 1, .inr (.inr (.inr (.inl (vf_upd fd (0 : Int32).toNatClampNeg 0))))))]) [1] rfl
  have hD9 := hD.sub (ws' := [(o, .inl (cD, 1, .inr (.inr (.inr (.inl (vf_upd fd (0 : Int32).toNatClampNeg 0))))))]) [1] (by decide) rfl
  have hK9 := hK.sub (tys' := [(cD, .double)]) [0] rfl
  rw [← hAe] at hD9
  refine W.widen (k := 1) (n := 6) (by omega) (by omega) ?_
  subst hAe
  refine vx_ret ?_
  exact W.iret (v := 0) hx hb hr (fun t ht9 hW => ⟨⟨0, (), rfl, rfl, ⟨by rw [ht9]; exact hP9, va_K.moved hW.alike hK9, hD9⟩⟩, hS.F ht9⟩) hS.2.2 dL_points_15

def zl_shareBits_none9 : List Cond := .codeWith yL_shareBits cL_shareBits 4 (some .int) [(0, 9, 12, 13), (0, 9, 15, 122)] :: ([.methodLink RL 119 yX11_shareBits, .instanceMethod yX11_shareBits, .selects RX11 yX11_shareBits yX11_shareBits, .initialized RX11, .classLink RL 13 "java/lang/IllegalArgumentException", .classLink RL 122 "java/lang/ArithmeticException"] ++ (zsb2 ++ ([])))
theorem zl_shareBits_none9_good : zl_shareBits_none9.all goodWord = true := by decide +kernel
set_option maxHeartbeats 4000000 in
set_option maxRecDepth 100000 in
/-- the law's shareBits (none), with the cell that it writes -/
theorem cl_shareBits_none9 (l : Launch) (hst : l.stackTraces = false) (D : va_G) (sz : Nat) (h0 : Nat) (a : Nat → Nat) (g : Nat) (gv : Int32) (og : Nat → Option Nat) (LR : List Nat) (cG cI : ClassId) (x1 : Int32) (o : Nat) (hg : ∀ i, i < 8 → ∃ y, og i = some y ∧ y ∈ LR) (h : zin x1 0 7 = 1) : vx_Met l yL_shareBits zl_shareBits_none9 (zR 4 1 6) (zPre [.ref h0, .int x1, .ref o] D ([(h0, .inr (17, zHS a)), ((a 7), .inr (10, [.ref g, .int gv])), (g, .inl (cG, 8, .inr (.inr (.inr (.inr og)))))] ++ va_pl LR (zrow cI)) [(cG, .array .int), (cI, .int)] (va_A ([(h0, .inr (17, zHS a)), ((a 7), .inr (10, [.ref g, .int gv])), (g, .inl (cG, 8, .inr (.inr (.inr (.inr og)))))] ++ va_pl LR (zrow cI)) sz) sz) (va_Qi (S := Unit) (fun r _ => r = 2) (fun _ t => zAt D [] [] (va_A ([(h0, .inr (17, zHS a)), ((a 7), .inr (10, [.ref g, .int gv])), (g, .inl (cG, 8, .inr (.inr (.inr (.inr og)))))] ++ va_pl LR (zrow cI)) sz) t) (va_A ([(h0, .inr (17, zHS a)), ((a 7), .inr (10, [.ref g, .int gv])), (g, .inl (cG, 8, .inr (.inr (.inr (.inr og)))))] ++ va_pl LR (zrow cI)) sz)) (vx_X (S := Unit) (fun _ => False) (fun _ _ _ => True) (va_A ([(h0, .inr (17, zHS a)), ((a 7), .inr (10, [.ref g, .int gv])), (g, .inl (cG, 8, .inr (.inr (.inr (.inr og)))))] ++ va_pl LR (zrow cI)) sz)) 1 6 (va_A ([(h0, .inr (17, zHS a)), ((a 7), .inr (10, [.ref g, .int gv])), (g, .inl (cG, 8, .inr (.inr (.inr (.inr og)))))] ++ va_pl LR (zrow cI)) sz) := by
  refine vx_ofWH (cc := cL_shareBits) (maxL := 4) (ret := (some .int)) (by decide) rfl ?_
  intro p e s m args below meth c s₁ B hml hv
  have htb : c.exceptionTable.toList = tableOf [(0, 9, 12, 13), (0, 9, 15, 122)] := vx_table (x := yL_shareBits) B (atoms_spec (ws := zl_shareBits_none9) B.pre _ List.mem_cons_self)
  obtain ⟨rfl, hsz, hP, hK, hD0, hz⟩ := hv
  have hx := B.exec
  have hb := B.bytes
  have hr := B.returns
  have hts := atoms_spec (ws := zl_shareBits_none9) B.pre
  have hown : s.vm.findClass RL = some m.cls := findClass_of_methodNamed B.named
  have hlocks := B.notSynchronized
  subst hsz
  have hD := hD0.self (sz := s.heap.size)
  generalize hAe : va_A ([(h0, .inr (17, zHS a)), ((a 7), .inr (10, [.ref g, .int gv])), (g, .inl (cG, 8, .inr (.inr (.inr (.inr og)))))] ++ va_pl LR (zrow cI)) s.heap.size = A at hD hz ⊢
  have hA : ∀ q : Nat, s.heap.size ≤ q → A q := fun q h => by rw [← hAe]; exact Or.inr h
  have hS : va_S A s.heap s.heap [] := va_S.rf
  have hP : va_P D vwCl ([(h0, .inr (17, zHS a)), ((a 7), .inr (10, [.ref g, .int gv])), (g, .inl (cG, 8, .inr (.inr (.inr (.inr og)))))] ++ va_pl LR (zrow cI)) s.heap := hP
  have hl := lv_entry ([.ref h0, .int x1, .ref o]) (n := 4) (Nat.le_of_ble_eq_true rfl)
  rw [lg_entry_eq]
  generalize (lg_sl ([.ref h0, .int x1, .ref o]) ++ List.replicate (4 - (lg_sl ([.ref h0, .int x1, .ref o])).length) Slot.unset).toArray = ls at hl ⊢
  have hl : lv_has ls 4 [(0, .ref h0), (1, .int x1), (2, .ref o)] := hl
  refine lv_aload_n hx hb dL_shareBits_0 rfl (lv_at hl 2 rfl) ?_
  refine lv_iconst (v := 0) hx hb dL_shareBits_1 (by decide) ?_
  refine lv_aload_n hx hb dL_shareBits_2 rfl (lv_at hl 0 rfl) ?_
  refine lv_iload_n hx hb dL_shareBits_3 rfl (lv_at hl 1 rfl) ?_
  have hPc := hP.part (cx := [(h0, .inr (17, zHS a)), ((a 7), .inr (10, [.ref g, .int gv])), (g, .inl (cG, 8, .inr (.inr (.inr (.inr og)))))]) [0, 1, 2] rfl
  have hDc := hD.part (cx := [(h0, .inr (17, zHS a)), ((a 7), .inr (10, [.ref g, .int gv])), (g, .inl (cG, 8, .inr (.inr (.inr (.inr og)))))]) [0, 1, 2] (by decide) rfl
  have hKc := hK.sub (tys' := [(cG, .array .int), (cI, .int)]) [0, 1] rfl
  have hFc := va_freeP (cx := [(h0, .inr (17, zHS a)), ((a 7), .inr (10, [.ref g, .int gv])), (g, .inl (cG, 8, .inr (.inr (.inr (.inr og)))))]) hD hS hA [0, 1, 2] rfl
  refine vx_calli (vx_runV (As := [.int x1]) (rest := [.int 0, .ref o]) ⟨hx, hb, hml, hown, hts⟩ (c_shareBits_none l hst D s.heap.size h0 a g gv og LR cG cI x1 hg h) (cwV 1 hts (goodIn_app (goodIn_of _ (by decide +kernel)) (goodIn_sub (fun _ h => List.mem_cons_of_mem _ (List.mem_append_right _ (List.mem_append_left _ h))) zsb2_good)) rfl rfl rfl (by decide +kernel) ⟨Nat.le_of_ble_eq_true rfl, Nat.le_of_ble_eq_true rfl⟩) ⟨zPre.blind, va_recv hKc hPc (ci := 17) (q0 := 0) rfl rfl, zPre.mk hPc hKc hDc hz hS (fun q h => hFc q h)⟩ rfl rfl hl.1 rfl (lv_room (Nat.le_of_ble_eq_true rfl)) dL_shareBits_4 ⟨Nat.le_of_ble_eq_true rfl, Nat.le_of_ble_eq_true rfl⟩) hS (fun q _ h => hFc q h) (fun q h => hFc q h) (fun q _ h => hFc q h) (fun E9 ce q9 u t H1 locs ht9 hvm hpx hBX hz1 hk1 hS hcell hv9 hcl => ?_) (fun _ _ t H1 locs _ _ hw _ _ _ _ => hw.elim)
  · cases hBX
    refine vx_catch hown [⟨0, 9, 12, 13⟩] _ _ htb (fun z hz9 => by rcases List.mem_singleton.mp hz9 with rfl; exact Or.inr ⟨by decide, "java/lang/IllegalArgumentException", (hts (.classLink RL 13 "java/lang/IllegalArgumentException") (by decide +kernel)), hz.2.2.2.2⟩) (by decide) (by decide) (hts (.classLink RL 122 "java/lang/ArithmeticException") (by decide +kernel)) (hz.w (.castable "java/lang/ArithmeticException" "java/lang/ArithmeticException") (by decide +kernel)) hcell hv9 hcl ?_
    refine W.eq (g2 := F0 m 15 ls [.ref q9]) rfl ?_
    refine lv_astore_n (lv' := [(3, .ref q9), (0, .ref h0), (1, .int x1), (2, .ref o)]) hx hb dL_shareBits_15 rfl hl (by decide) rfl (fun ls hl => ?_)
    refine lv_iconst (v := 2) hx hb dL_shareBits_16 (by decide) ?_
    have hP9 : va_P D vwCl [] H1 := fun k q h => by simp at h
    have hD9 : va_D A [] := ⟨fun i j p q h => by simp at h, fun k q h => by simp at h⟩
    have hK9 := hK.sub (tys' := []) [] rfl
    rw [← hAe] at hD9
    refine W.widen (k := 1) (n := 6) (by omega) (by omega) ?_
    subst hAe
    refine vx_ret ?_
    exact W.iret (v := 2) hx hb hr (fun t ht9 hW => ⟨⟨2, (), rfl, rfl, ⟨by rw [ht9]; exact hP9, va_K.moved hW.alike hK9, hD9⟩⟩, hS.F ht9⟩) hS.2.2 dL_shareBits_17

def zm_thr9 : List Cond := .code yX17_thrown cX17_thrown 1 (some .int) :: ([.fieldLink RX17 25 "HeatStadiumModel" "thrown" "I"] ++ (wsX170 ++ ([])))
theorem zm_thr9_good : zm_thr9.all goodWord = true := by decide +kernel
set_option maxHeartbeats 4000000 in
set_option maxRecDepth 100000 in
/-- thrown(), at any minute -/
theorem cm_thrown9 (l : Launch) (hst : l.stackTraces = false) (D : va_G) (sz : Nat) (mo b0 b1 b2 b3 : Nat) (th nw : Int32) : Met l yX17_thrown zm_thr9 (zR 0 0 0) (zPre [.ref mo] D [(mo, .inr (23, [.int th, .ref b0, .ref b1, .ref b2, .ref b3, .int nw, .int 0, .long 0]))] [] (fun q : Nat => sz ≤ q) sz) (va_Qi (S := Unit) (fun r _ => r = th) (fun _ _ => True) (fun q : Nat => sz ≤ q)) 0 0 (fun q : Nat => sz ≤ q) := by
  refine Met.ofW (cc := cX17_thrown) (maxL := 1) (ret := (some .int)) (by decide) rfl ?_
  intro p e s m args below meth c s₁ B hml hv
  obtain ⟨rfl, hsz, hP, hK, hD0, hz⟩ := hv
  have hx := B.exec
  have hb := B.bytes
  have hr := B.returns
  have hts := atoms_spec (ws := zm_thr9) B.pre
  have hown : s.vm.findClass RX17 = some m.cls := findClass_of_methodNamed B.named
  have hlocks := B.notSynchronized
  subst hsz
  obtain ⟨A, hAe⟩ : ∃ A : Nat → Prop, A = (fun q : Nat => s.heap.size ≤ q) := ⟨_, rfl⟩
  rw [← hAe] at hz ⊢
  have hA : ∀ q : Nat, s.heap.size ≤ q → A q := fun q h => by rw [hAe]; exact h
  have hD := hD0
  have hS : va_S A s.heap s.heap [] := va_S.rf
  have hP : va_P D vwCl [(mo, .inr (23, [.int th, .ref b0, .ref b1, .ref b2, .ref b3, .int nw, .int 0, .long 0]))] s.heap := hP
  have hl := lv_entry ([.ref mo]) (n := 1) (Nat.le_of_ble_eq_true rfl)
  rw [lg_entry_eq]
  generalize (lg_sl ([.ref mo]) ++ List.replicate (1 - (lg_sl ([.ref mo])).length) Slot.unset).toArray = ls at hl ⊢
  have hl : lv_has ls 1 [(0, .ref mo)] := hl
  refine lv_aload_n hx hb dX17_thrown_0 rfl (lv_at hl 0 rfl) ?_
  refine va_get (D := D) (ci := 23) (v := .int th) (C := RX17) (T := TX17) (N := 8) hx hb hts (by decide +kernel) hown hK hP 0 rfl rfl 0 (by decide) (hts (.fieldLink RX17 25 "HeatStadiumModel" "thrown" "I") (by decide +kernel)) (fun _ h9 => h9) rfl dX17_thrown_1 ?_
  refine W.widen (k := 0) (n := 0) (by omega) (by omega) ?_
  exact W.iret (v := th) hx hb hr (fun t ht9 hW => ⟨⟨th, (), rfl, rfl, trivial⟩, hS.F ht9⟩) hS.2.2 dX17_thrown_4

