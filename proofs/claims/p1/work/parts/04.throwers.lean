/-! printed rows that this part uses -/
theorem dX11_enter_0 : decode cX11_enter 0 = .ok (.aload_n 0, 1) := by decide +kernel
theorem dX11_enter_1 : decode cX11_enter 1 = .ok (.iload_n 1, 1) := by decide +kernel
theorem dX11_enter_2 : decode cX11_enter 2 = .ok (.iload_n 2, 1) := by decide +kernel
theorem dX11_enter_3 : decode cX11_enter 3 = .ok (.invokevirtual 107, 3) := by decide +kernel
theorem dX11_withdraw_0 : decode cX11_withdraw 0 = .ok (.aload_n 0, 1) := by decide +kernel
theorem dX11_withdraw_1 : decode cX11_withdraw 1 = .ok (.iload_n 1, 1) := by decide +kernel
theorem dX11_withdraw_2 : decode cX11_withdraw 2 = .ok (.iload_n 2, 1) := by decide +kernel
theorem dX11_withdraw_3 : decode cX11_withdraw 3 = .ok (.invokevirtual 107, 3) := by decide +kernel
theorem dX11_field_0 : decode cX11_field 0 = .ok (.aload_n 0, 1) := by decide +kernel
theorem dX11_field_1 : decode cX11_field 1 = .ok (.getfield 32, 3) := by decide +kernel
theorem dX11_field_4 : decode cX11_field 4 = .ok (.aload_n 0, 1) := by decide +kernel
theorem dX11_field_5 : decode cX11_field 5 = .ok (.iload_n 1, 1) := by decide +kernel
theorem dX11_field_6 : decode cX11_field 6 = .ok (.invokevirtual 130, 3) := by decide +kernel
theorem dX11_inField_0 : decode cX11_inField 0 = .ok (.aload_n 0, 1) := by decide +kernel
theorem dX11_inField_1 : decode cX11_inField 1 = .ok (.getfield 32, 3) := by decide +kernel
theorem dX11_inField_4 : decode cX11_inField 4 = .ok (.aload_n 0, 1) := by decide +kernel
theorem dX11_inField_5 : decode cX11_inField 5 = .ok (.iload_n 1, 1) := by decide +kernel
theorem dX11_inField_6 : decode cX11_inField 6 = .ok (.invokevirtual 130, 3) := by decide +kernel
theorem dX11_heatOf_0 : decode cX11_heatOf 0 = .ok (.aload_n 0, 1) := by decide +kernel
theorem dX11_heatOf_1 : decode cX11_heatOf 1 = .ok (.iload_n 1, 1) := by decide +kernel
theorem dX11_heatOf_2 : decode cX11_heatOf 2 = .ok (.iload_n 2, 1) := by decide +kernel
theorem dX11_heatOf_3 : decode cX11_heatOf 3 = .ok (.invokevirtual 107, 3) := by decide +kernel
theorem dX11_laneOf_0 : decode cX11_laneOf 0 = .ok (.aload_n 0, 1) := by decide +kernel
theorem dX11_laneOf_1 : decode cX11_laneOf 1 = .ok (.iload_n 1, 1) := by decide +kernel
theorem dX11_laneOf_2 : decode cX11_laneOf 2 = .ok (.iload_n 2, 1) := by decide +kernel
theorem dX11_laneOf_3 : decode cX11_laneOf 3 = .ok (.iload_n 3, 1) := by decide +kernel
theorem dX11_laneOf_4 : decode cX11_laneOf 4 = .ok (.invokevirtual 161, 3) := by decide +kernel
theorem dX11_time_0 : decode cX11_time 0 = .ok (.aload_n 0, 1) := by decide +kernel
theorem dX11_time_1 : decode cX11_time 1 = .ok (.iload_n 1, 1) := by decide +kernel
theorem dX11_time_2 : decode cX11_time 2 = .ok (.iload_n 3, 1) := by decide +kernel
theorem dX11_time_3 : decode cX11_time 3 = .ok (.invokevirtual 107, 3) := by decide +kernel
theorem dX11_react_0 : decode cX11_react 0 = .ok (.aload_n 0, 1) := by decide +kernel
theorem dX11_react_1 : decode cX11_react 1 = .ok (.iload_n 1, 1) := by decide +kernel
theorem dX11_react_2 : decode cX11_react 2 = .ok (.iload_n 3, 1) := by decide +kernel
theorem dX11_react_3 : decode cX11_react 3 = .ok (.invokevirtual 107, 3) := by decide +kernel
theorem dX11_putOut_0 : decode cX11_putOut 0 = .ok (.aload_n 0, 1) := by decide +kernel
theorem dX11_putOut_1 : decode cX11_putOut 1 = .ok (.iload_n 1, 1) := by decide +kernel
theorem dX11_putOut_2 : decode cX11_putOut 2 = .ok (.iload_n 2, 1) := by decide +kernel
theorem dX11_putOut_3 : decode cX11_putOut 3 = .ok (.iload_n 3, 1) := by decide +kernel
theorem dX11_putOut_4 : decode cX11_putOut 4 = .ok (.invokevirtual 161, 3) := by decide +kernel
theorem dX11_isOut_0 : decode cX11_isOut 0 = .ok (.aload_n 0, 1) := by decide +kernel
theorem dX11_isOut_1 : decode cX11_isOut 1 = .ok (.iload_n 1, 1) := by decide +kernel
theorem dX11_isOut_2 : decode cX11_isOut 2 = .ok (.iload_n 2, 1) := by decide +kernel
theorem dX11_isOut_3 : decode cX11_isOut 3 = .ok (.iload_n 3, 1) := by decide +kernel
theorem dX11_isOut_4 : decode cX11_isOut 4 = .ok (.invokevirtual 161, 3) := by decide +kernel
theorem dX11_inFinal_0 : decode cX11_inFinal 0 = .ok (.aload_n 0, 1) := by decide +kernel
theorem dX11_inFinal_1 : decode cX11_inFinal 1 = .ok (.iload_n 1, 1) := by decide +kernel
theorem dX11_inFinal_2 : decode cX11_inFinal 2 = .ok (.invokevirtual 130, 3) := by decide +kernel
theorem dX11_bar_0 : decode cX11_bar 0 = .ok (.aload_n 0, 1) := by decide +kernel
theorem dX11_bar_1 : decode cX11_bar 1 = .ok (.iload_n 1, 1) := by decide +kernel
theorem dX11_bar_2 : decode cX11_bar 2 = .ok (.invokevirtual 130, 3) := by decide +kernel
theorem dX11_jump_0 : decode cX11_jump 0 = .ok (.aload_n 0, 1) := by decide +kernel
theorem dX11_jump_1 : decode cX11_jump 1 = .ok (.iload_n 1, 1) := by decide +kernel
theorem dX11_jump_2 : decode cX11_jump 2 = .ok (.iload_n 2, 1) := by decide +kernel
theorem dX11_jump_3 : decode cX11_jump 3 = .ok (.invokevirtual 107, 3) := by decide +kernel
theorem dX11_put_0 : decode cX11_put 0 = .ok (.aload_n 0, 1) := by decide +kernel
theorem dX11_put_1 : decode cX11_put 1 = .ok (.iload_n 1, 1) := by decide +kernel
theorem dX11_put_2 : decode cX11_put 2 = .ok (.iload_n 2, 1) := by decide +kernel
theorem dX11_put_3 : decode cX11_put 3 = .ok (.invokevirtual 107, 3) := by decide +kernel
theorem dX11_rankOf_0 : decode cX11_rankOf 0 = .ok (.aload_n 0, 1) := by decide +kernel
theorem dX11_rankOf_1 : decode cX11_rankOf 1 = .ok (.aload_n 0, 1) := by decide +kernel
theorem dX11_rankOf_2 : decode cX11_rankOf 2 = .ok (.iload_n 1, 1) := by decide +kernel
theorem dX11_rankOf_3 : decode cX11_rankOf 3 = .ok (.iload_n 2, 1) := by decide +kernel
theorem dX11_rankOf_4 : decode cX11_rankOf 4 = .ok (.invokevirtual 107, 3) := by decide +kernel
theorem dX11_resultOf_0 : decode cX11_resultOf 0 = .ok (.aload_n 0, 1) := by decide +kernel
theorem dX11_resultOf_1 : decode cX11_resultOf 1 = .ok (.iload_n 1, 1) := by decide +kernel
theorem dX11_resultOf_2 : decode cX11_resultOf 2 = .ok (.iload_n 2, 1) := by decide +kernel
theorem dX11_resultOf_3 : decode cX11_resultOf 3 = .ok (.invokevirtual 107, 3) := by decide +kernel
theorem dX11_protest_0 : decode cX11_protest 0 = .ok (.aload_n 0, 1) := by decide +kernel
theorem dX11_protest_1 : decode cX11_protest 1 = .ok (.iload_n 1, 1) := by decide +kernel
theorem dX11_protest_2 : decode cX11_protest 2 = .ok (.iload_n 2, 1) := by decide +kernel
theorem dX11_protest_3 : decode cX11_protest 3 = .ok (.iload_n 3, 1) := by decide +kernel
theorem dX11_protest_4 : decode cX11_protest 4 = .ok (.invokevirtual 161, 3) := by decide +kernel
theorem dX11_decide_0 : decode cX11_decide 0 = .ok (.iload_n 1, 1) := by decide +kernel
theorem dX11_decide_1 : decode cX11_decide 1 = .ok (.ifCond .lt 14, 3) := by decide +kernel
theorem dX11_decide_4 : decode cX11_decide 4 = .ok (.iload_n 1, 1) := by decide +kernel
theorem dX11_decide_5 : decode cX11_decide 5 = .ok (.aload_n 0, 1) := by decide +kernel
theorem dX11_decide_6 : decode cX11_decide 6 = .ok (.getfield 25, 3) := by decide +kernel
theorem dX11_decide_9 : decode cX11_decide 9 = .ok (.getfield 292, 3) := by decide +kernel
theorem dX11_decide_12 : decode cX11_decide 12 = .ok (.if_icmp .lt 14, 3) := by decide +kernel
theorem dX11_decide_15 : decode cX11_decide 15 = .ok (.new 299, 3) := by decide +kernel
theorem dX11_decide_18 : decode cX11_decide 18 = .ok (.dup, 1) := by decide +kernel
theorem dX11_decide_19 : decode cX11_decide 19 = .ok (.ldc_w 301, 3) := by decide +kernel
theorem dX11_decide_22 : decode cX11_decide 22 = .ok (.invokespecial 303, 3) := by decide +kernel
theorem dX11_decide_25 : decode cX11_decide 25 = .ok (.athrow, 1) := by decide +kernel
theorem dX11_dope_0 : decode cX11_dope 0 = .ok (.aload_n 0, 1) := by decide +kernel
theorem dX11_dope_1 : decode cX11_dope 1 = .ok (.iload_n 1, 1) := by decide +kernel
theorem dX11_dope_2 : decode cX11_dope 2 = .ok (.invokevirtual 317, 3) := by decide +kernel
theorem dX11_close_0 : decode cX11_close 0 = .ok (.aload_n 0, 1) := by decide +kernel
theorem dX11_close_1 : decode cX11_close 1 = .ok (.iload_n 1, 1) := by decide +kernel
theorem dX11_close_2 : decode cX11_close 2 = .ok (.invokevirtual 130, 3) := by decide +kernel
theorem dX11_record_0 : decode cX11_record 0 = .ok (.aload_n 0, 1) := by decide +kernel
theorem dX11_record_1 : decode cX11_record 1 = .ok (.iload_n 1, 1) := by decide +kernel
theorem dX11_record_2 : decode cX11_record 2 = .ok (.invokevirtual 130, 3) := by decide +kernel
theorem dX11_holder_0 : decode cX11_holder 0 = .ok (.aload_n 0, 1) := by decide +kernel
theorem dX11_holder_1 : decode cX11_holder 1 = .ok (.aload_n 0, 1) := by decide +kernel
theorem dX11_holder_2 : decode cX11_holder 2 = .ok (.iload_n 1, 1) := by decide +kernel
theorem dX11_holder_3 : decode cX11_holder 3 = .ok (.invokevirtual 130, 3) := by decide +kernel
theorem dX11_sharers_0 : decode cX11_sharers 0 = .ok (.aload_n 0, 1) := by decide +kernel
theorem dX11_sharers_1 : decode cX11_sharers 1 = .ok (.aload_n 0, 1) := by decide +kernel
theorem dX11_sharers_2 : decode cX11_sharers 2 = .ok (.iload_n 1, 1) := by decide +kernel
theorem dX11_sharers_3 : decode cX11_sharers 3 = .ok (.invokevirtual 130, 3) := by decide +kernel
theorem dX11_eventAt_0 : decode cX11_eventAt 0 = .ok (.iload_n 1, 1) := by decide +kernel
theorem dX11_eventAt_1 : decode cX11_eventAt 1 = .ok (.ifCond .lt 11, 3) := by decide +kernel
theorem dX11_eventAt_4 : decode cX11_eventAt 4 = .ok (.iload_n 1, 1) := by decide +kernel
theorem dX11_eventAt_5 : decode cX11_eventAt 5 = .ok (.aload_n 0, 1) := by decide +kernel
theorem dX11_eventAt_6 : decode cX11_eventAt 6 = .ok (.getfield 64, 3) := by decide +kernel
theorem dX11_eventAt_9 : decode cX11_eventAt 9 = .ok (.if_icmp .lt 14, 3) := by decide +kernel
theorem dX11_eventAt_12 : decode cX11_eventAt 12 = .ok (.new 299, 3) := by decide +kernel
theorem dX11_eventAt_15 : decode cX11_eventAt 15 = .ok (.dup, 1) := by decide +kernel
theorem dX11_eventAt_16 : decode cX11_eventAt 16 = .ok (.ldc_w 382, 3) := by decide +kernel
theorem dX11_eventAt_19 : decode cX11_eventAt 19 = .ok (.invokespecial 303, 3) := by decide +kernel
theorem dX11_eventAt_22 : decode cX11_eventAt 22 = .ok (.athrow, 1) := by decide +kernel
theorem dX11_eventFor_0 : decode cX11_eventFor 0 = .ok (.aload_n 0, 1) := by decide +kernel
theorem dX11_eventFor_1 : decode cX11_eventFor 1 = .ok (.iload_n 1, 1) := by decide +kernel
theorem dX11_eventFor_2 : decode cX11_eventFor 2 = .ok (.invokevirtual 130, 3) := by decide +kernel
theorem dX11_raceFor_0 : decode cX11_raceFor 0 = .ok (.aload_n 0, 1) := by decide +kernel
theorem dX11_raceFor_1 : decode cX11_raceFor 1 = .ok (.iload_n 1, 1) := by decide +kernel
theorem dX11_raceFor_2 : decode cX11_raceFor 2 = .ok (.iload_n 3, 1) := by decide +kernel
theorem dX11_raceFor_3 : decode cX11_raceFor 3 = .ok (.invokevirtual 107, 3) := by decide +kernel
theorem dX11_requireAthlete_0 : decode cX11_requireAthlete 0 = .ok (.iload_n 1, 1) := by decide +kernel
theorem dX11_requireAthlete_1 : decode cX11_requireAthlete 1 = .ok (.ifCond .lt 14, 3) := by decide +kernel
theorem dX11_requireAthlete_4 : decode cX11_requireAthlete 4 = .ok (.iload_n 1, 1) := by decide +kernel
theorem dX11_requireAthlete_5 : decode cX11_requireAthlete 5 = .ok (.aload_n 0, 1) := by decide +kernel
theorem dX11_requireAthlete_6 : decode cX11_requireAthlete 6 = .ok (.getfield 12, 3) := by decide +kernel
theorem dX11_requireAthlete_9 : decode cX11_requireAthlete 9 = .ok (.getfield 78, 3) := by decide +kernel
theorem dX11_requireAthlete_12 : decode cX11_requireAthlete 12 = .ok (.if_icmp .lt 14, 3) := by decide +kernel
theorem dX11_requireAthlete_15 : decode cX11_requireAthlete 15 = .ok (.new 299, 3) := by decide +kernel
theorem dX11_requireAthlete_18 : decode cX11_requireAthlete 18 = .ok (.dup, 1) := by decide +kernel
theorem dX11_requireAthlete_19 : decode cX11_requireAthlete 19 = .ok (.ldc_w 384, 3) := by decide +kernel
theorem dX11_requireAthlete_22 : decode cX11_requireAthlete 22 = .ok (.invokespecial 303, 3) := by decide +kernel
theorem dX11_requireAthlete_25 : decode cX11_requireAthlete 25 = .ok (.athrow, 1) := by decide +kernel
def zX11_eventAt_ws : List Cond := .code yX11_eventAt cX11_eventAt 3 (some (.object "HeatStadium$Event")) :: ([.classLink RX11 299 "java/lang/IndexOutOfBoundsException", .initialized "java/lang/IndexOutOfBoundsException", .fieldLink RX11 64 "HeatStadium" "eventCount" "I"] ++ (((vx_atS RX11 303 "java/lang/IndexOutOfBoundsException" ["java/lang/RuntimeException", "java/lang/Exception"]).filter goodWord) ++ (wsX110 ++ ([]))))
theorem zX11_eventAt_ws_good : zX11_eventAt_ws.all goodWord = true := by decide +kernel
set_option maxHeartbeats 4000000 in
set_option maxRecDepth 100000 in
/-- eventAt(n) of games without events: throws -/
theorem c_eventAt (l : Launch) (hst : l.stackTraces = false) (D : va_G) (sz : Nat) (h0 : Nat) (a : Nat → Nat) (x1 : Int32) : vx_Met l yX11_eventAt zX11_eventAt_ws (zR 0 1 6) (zPre [.ref h0, .int x1] D [(h0, .inr (17, zHS a))] [] (fun q : Nat => sz ≤ q) sz) (va_Qq (S := Unit) (fun _ _ => False) (fun _ _ => True) (fun q : Nat => sz ≤ q)) (zThr "java/lang/IndexOutOfBoundsException" (fun q : Nat => sz ≤ q)) 1 6 (fun q : Nat => sz ≤ q) := by
  refine vx_ofW (cc := cX11_eventAt) (maxL := 3) (ret := (some (.object "HeatStadium$Event"))) (by decide) rfl ?_
  intro p e s m args below meth c s₁ B hml ht hv
  obtain ⟨rfl, hsz, hP, hK, hD0, hz⟩ := hv
  have hx := B.exec
  have hb := B.bytes
  have hr := B.returns
  have hts := atoms_spec (ws := zX11_eventAt_ws) B.pre
  have hown : s.vm.findClass RX11 = some m.cls := findClass_of_methodNamed B.named
  have hlocks := B.notSynchronized
  subst hsz
  obtain ⟨A, hAe⟩ : ∃ A : Nat → Prop, A = (fun q : Nat => s.heap.size ≤ q) := ⟨_, rfl⟩
  rw [← hAe] at hz ⊢
  have hA : ∀ q : Nat, s.heap.size ≤ q → A q := fun q h => by rw [hAe]; exact h
  have hD := hD0
  have hS : va_S A s.heap s.heap [] := va_S.rf
  have hP : va_P D vwCl [(h0, .inr (17, zHS a))] s.heap := hP
  have hl := lv_entry ([.ref h0, .int x1]) (n := 3) (Nat.le_of_ble_eq_true rfl)
  rw [lg_entry_eq]
  generalize (lg_sl ([.ref h0, .int x1]) ++ List.replicate (3 - (lg_sl ([.ref h0, .int x1])).length) Slot.unset).toArray = ls at hl ⊢
  have hl : lv_has ls 3 [(0, .ref h0), (1, .int x1)] := hl
  refine lv_iload_n hx hb dX11_eventAt_0 rfl (lv_at hl 1 rfl) ?_
  refine lv_if_lt (tgt := 12) hx hb dX11_eventAt_1 (by decide) (fun c1 => ?_) (fun c1 => ?_)
  · obtain ⟨sa, hstr⟩ := hz.2.1 (RX11, 382, "no such event") (by decide +kernel)
    exact vx_throwSW (names := ["java/lang/RuntimeException", "java/lang/Exception"]) hx hb hst hown (by decide +kernel) (by decide +kernel) (hts (.classLink RX11 299 "java/lang/IndexOutOfBoundsException") (by decide +kernel)) (hts (.initialized "java/lang/IndexOutOfBoundsException") (by decide +kernel)) hstr (vx_hat (B := zWords) (fun w hw => hts w (List.mem_cons_of_mem _ (List.mem_append_right _ (List.mem_append_left _ hw)))) (by decide +kernel) (fun w hw => hz.w w hw)) (List.all_eq_true.mp (by decide +kernel)) hz.1.1 hz.1.2 hS (hml ▸ hl.1) dX11_eventAt_12 dX11_eventAt_15 dX11_eventAt_16 dX11_eventAt_19 dX11_eventAt_22 (fun x hx => (ht x hx).elim) (Nat.le_of_ble_eq_true rfl) (Nat.le_of_ble_eq_true rfl) (Nat.le_of_ble_eq_true rfl) (Nat.le_of_ble_eq_true rfl) hlocks (fun t _ h1 h2 => ⟨(), trivial, rfl, zF hS h1 h2⟩) hS.2.2 (Nat.le_of_ble_eq_true rfl) (Nat.le_of_ble_eq_true rfl)
  · refine lv_iload_n hx hb dX11_eventAt_4 rfl (lv_at hl 1 rfl) ?_
    refine lv_aload_n hx hb dX11_eventAt_5 rfl (lv_at hl 0 rfl) ?_
    refine va_get (D := D) (ci := 17) (v := .int 0) (C := RX11) (T := TX11) (N := 11) hx hb hts (by decide +kernel) hown hK hP 0 rfl rfl 8 (by decide) (hts (.fieldLink RX11 64 "HeatStadium" "eventCount" "I") (by decide +kernel)) (fun _ h9 => h9) rfl dX11_eventAt_6 ?_
    refine lv_icmp_lt (tgt := 23) hx hb dX11_eventAt_9 (by decide) (fun c9 => absurd c9 c1) (fun _ => ?_)
    obtain ⟨sa, hstr⟩ := hz.2.1 (RX11, 382, "no such event") (by decide +kernel)
    exact vx_throwSW (names := ["java/lang/RuntimeException", "java/lang/Exception"]) hx hb hst hown (by decide +kernel) (by decide +kernel) (hts (.classLink RX11 299 "java/lang/IndexOutOfBoundsException") (by decide +kernel)) (hts (.initialized "java/lang/IndexOutOfBoundsException") (by decide +kernel)) hstr (vx_hat (B := zWords) (fun w hw => hts w (List.mem_cons_of_mem _ (List.mem_append_right _ (List.mem_append_left _ hw)))) (by decide +kernel) (fun w hw => hz.w w hw)) (List.all_eq_true.mp (by decide +kernel)) hz.1.1 hz.1.2 hS (hml ▸ hl.1) dX11_eventAt_12 dX11_eventAt_15 dX11_eventAt_16 dX11_eventAt_19 dX11_eventAt_22 (fun x hx => (ht x hx).elim) (Nat.le_of_ble_eq_true rfl) (Nat.le_of_ble_eq_true rfl) (Nat.le_of_ble_eq_true rfl) (Nat.le_of_ble_eq_true rfl) hlocks (fun t _ h1 h2 => ⟨(), trivial, rfl, zF hS h1 h2⟩) hS.2.2 (Nat.le_of_ble_eq_true rfl) (Nat.le_of_ble_eq_true rfl)

def zX11_eventFor_ws : List Cond := .code yX11_eventFor cX11_eventFor 4 (some (.object "HeatStadium$Event")) :: ([.methodLink RX11 130 yX11_eventAt, .instanceMethod yX11_eventAt, .selects RX11 yX11_eventAt yX11_eventAt, .initialized RX11] ++ (zX11_eventAt_ws ++ ([])))
theorem zX11_eventFor_ws_good : zX11_eventFor_ws.all goodWord = true := by decide +kernel
set_option maxHeartbeats 4000000 in
set_option maxRecDepth 100000 in
/-- eventFor(n, k): throws -/
theorem c_eventFor (l : Launch) (hst : l.stackTraces = false) (D : va_G) (sz : Nat) (h0 : Nat) (a : Nat → Nat) (x1 x2 : Int32) : vx_Met l yX11_eventFor zX11_eventFor_ws (zR 1 1 6) (zPre [.ref h0, .int x1, .int x2] D [(h0, .inr (17, zHS a))] [] (fun q : Nat => sz ≤ q) sz) (va_Qq (S := Unit) (fun _ _ => False) (fun _ _ => True) (fun q : Nat => sz ≤ q)) (zThr "java/lang/IndexOutOfBoundsException" (fun q : Nat => sz ≤ q)) 1 6 (fun q : Nat => sz ≤ q) := by
  refine vx_ofW (cc := cX11_eventFor) (maxL := 4) (ret := (some (.object "HeatStadium$Event"))) (by decide) rfl ?_
  intro p e s m args below meth c s₁ B hml ht hv
  obtain ⟨rfl, hsz, hP, hK, hD0, hz⟩ := hv
  have hx := B.exec
  have hb := B.bytes
  have hr := B.returns
  have hts := atoms_spec (ws := zX11_eventFor_ws) B.pre
  have hown : s.vm.findClass RX11 = some m.cls := findClass_of_methodNamed B.named
  have hlocks := B.notSynchronized
  subst hsz
  obtain ⟨A, hAe⟩ : ∃ A : Nat → Prop, A = (fun q : Nat => s.heap.size ≤ q) := ⟨_, rfl⟩
  rw [← hAe] at hz ⊢
  have hA : ∀ q : Nat, s.heap.size ≤ q → A q := fun q h => by rw [hAe]; exact h
  have hD := hD0
  have hS : va_S A s.heap s.heap [] := va_S.rf
  have hP : va_P D vwCl [(h0, .inr (17, zHS a))] s.heap := hP
  have hl := lv_entry ([.ref h0, .int x1, .int x2]) (n := 4) (Nat.le_of_ble_eq_true rfl)
  rw [lg_entry_eq]
  generalize (lg_sl ([.ref h0, .int x1, .int x2]) ++ List.replicate (4 - (lg_sl ([.ref h0, .int x1, .int x2])).length) Slot.unset).toArray = ls at hl ⊢
  have hl : lv_has ls 4 [(0, .ref h0), (1, .int x1), (2, .int x2)] := hl
  refine lv_aload_n hx hb dX11_eventFor_0 rfl (lv_at hl 0 rfl) ?_
  refine lv_iload_n hx hb dX11_eventFor_1 rfl (lv_at hl 1 rfl) ?_
  have hPc := hP.sub (ws' := [(h0, .inr (17, zHS a))]) [0] rfl
  have hDc := hD.sub (ws' := [(h0, .inr (17, zHS a))]) [0] (by decide) rfl
  have hKc := hK.sub (tys' := []) [] rfl
  have hFc : ∀ q : Nat, s.heap.size ≤ q → A q := fun q h => hA q (Nat.le_trans hS.1 h)
  refine vx_callq (vx_runV (As := [.int x1]) (rest := []) ⟨hx, hb, hml, hown, hts⟩ (c_eventAt l hst D s.heap.size h0 a x1) (cwV 1 hts (goodIn_app (goodIn_of _ (by decide +kernel)) (goodIn_sub (fun _ h => List.mem_cons_of_mem _ (List.mem_append_right _ (List.mem_append_left _ h))) zX11_eventAt_ws_good)) rfl rfl rfl (by decide +kernel) ⟨Nat.le_of_ble_eq_true rfl, Nat.le_of_ble_eq_true rfl⟩) ⟨zPre.blind, va_recv hKc hPc (ci := 17) (q0 := 0) rfl rfl, zPre.mk hPc hKc hDc hz hS (fun q h => hFc q h)⟩ rfl rfl hl.1 rfl (lv_room (Nat.le_of_ble_eq_true rfl)) dX11_eventFor_2 ⟨Nat.le_of_ble_eq_true rfl, Nat.le_of_ble_eq_true rfl⟩) hS (fun q _ h => hFc q h) (fun q h => hFc q h) (fun q _ h => hFc q h) (fun E9 ce q9 u t H1 locs ht9 hvm hpx hBX hz1 hk1 hS hcell hv9 hcl => ?_) (fun _ _ t H1 locs _ _ hw _ _ _ _ => hw.elim)
  · cases hBX
    exact vx_out (fun x hx => (ht x hx).elim) hlocks hcell hv9 hcl (fun t9 ht9 _ => ⟨(), trivial, rfl, hS.F ht9⟩) hS.2.2 (Nat.le_of_ble_eq_true rfl) (Nat.le_of_ble_eq_true rfl)

def zX11_raceFor_ws : List Cond := .code yX11_raceFor cX11_raceFor 5 (some (.object "HeatStadium$Event")) :: ([.methodLink RX11 107 yX11_eventFor, .instanceMethod yX11_eventFor, .selects RX11 yX11_eventFor yX11_eventFor, .initialized RX11] ++ (zX11_eventFor_ws ++ ([])))
theorem zX11_raceFor_ws_good : zX11_raceFor_ws.all goodWord = true := by decide +kernel
set_option maxHeartbeats 4000000 in
set_option maxRecDepth 100000 in
/-- raceFor(n, r, k): throws -/
theorem c_raceFor (l : Launch) (hst : l.stackTraces = false) (D : va_G) (sz : Nat) (h0 : Nat) (a : Nat → Nat) (x1 x2 x3 : Int32) : vx_Met l yX11_raceFor zX11_raceFor_ws (zR 2 1 6) (zPre [.ref h0, .int x1, .int x2, .int x3] D [(h0, .inr (17, zHS a))] [] (fun q : Nat => sz ≤ q) sz) (va_Qq (S := Unit) (fun _ _ => False) (fun _ _ => True) (fun q : Nat => sz ≤ q)) (zThr "java/lang/IndexOutOfBoundsException" (fun q : Nat => sz ≤ q)) 1 6 (fun q : Nat => sz ≤ q) := by
  refine vx_ofW (cc := cX11_raceFor) (maxL := 5) (ret := (some (.object "HeatStadium$Event"))) (by decide) rfl ?_
  intro p e s m args below meth c s₁ B hml ht hv
  obtain ⟨rfl, hsz, hP, hK, hD0, hz⟩ := hv
  have hx := B.exec
  have hb := B.bytes
  have hr := B.returns
  have hts := atoms_spec (ws := zX11_raceFor_ws) B.pre
  have hown : s.vm.findClass RX11 = some m.cls := findClass_of_methodNamed B.named
  have hlocks := B.notSynchronized
  subst hsz
  obtain ⟨A, hAe⟩ : ∃ A : Nat → Prop, A = (fun q : Nat => s.heap.size ≤ q) := ⟨_, rfl⟩
  rw [← hAe] at hz ⊢
  have hA : ∀ q : Nat, s.heap.size ≤ q → A q := fun q h => by rw [hAe]; exact h
  have hD := hD0
  have hS : va_S A s.heap s.heap [] := va_S.rf
  have hP : va_P D vwCl [(h0, .inr (17, zHS a))] s.heap := hP
  have hl := lv_entry ([.ref h0, .int x1, .int x2, .int x3]) (n := 5) (Nat.le_of_ble_eq_true rfl)
  rw [lg_entry_eq]
  generalize (lg_sl ([.ref h0, .int x1, .int x2, .int x3]) ++ List.replicate (5 - (lg_sl ([.ref h0, .int x1, .int x2, .int x3])).length) Slot.unset).toArray = ls at hl ⊢
  have hl : lv_has ls 5 [(0, .ref h0), (1, .int x1), (2, .int x2), (3, .int x3)] := hl
  refine lv_aload_n hx hb dX11_raceFor_0 rfl (lv_at hl 0 rfl) ?_
  refine lv_iload_n hx hb dX11_raceFor_1 rfl (lv_at hl 1 rfl) ?_
  refine lv_iload_n hx hb dX11_raceFor_2 rfl (lv_at hl 3 rfl) ?_
  have hPc := hP.sub (ws' := [(h0, .inr (17, zHS a))]) [0] rfl
  have hDc := hD.sub (ws' := [(h0, .inr (17, zHS a))]) [0] (by decide) rfl
  have hKc := hK.sub (tys' := []) [] rfl
  have hFc : ∀ q : Nat, s.heap.size ≤ q → A q := fun q h => hA q (Nat.le_trans hS.1 h)
  refine vx_callq (vx_runV (As := [.int x1, .int x3]) (rest := []) ⟨hx, hb, hml, hown, hts⟩ (c_eventFor l hst D s.heap.size h0 a x1 x3) (cwV 2 hts (goodIn_app (goodIn_of _ (by decide +kernel)) (goodIn_sub (fun _ h => List.mem_cons_of_mem _ (List.mem_append_right _ (List.mem_append_left _ h))) zX11_eventFor_ws_good)) rfl rfl rfl (by decide +kernel) ⟨Nat.le_of_ble_eq_true rfl, Nat.le_of_ble_eq_true rfl⟩) ⟨zPre.blind, va_recv hKc hPc (ci := 17) (q0 := 0) rfl rfl, zPre.mk hPc hKc hDc hz hS (fun q h => hFc q h)⟩ rfl rfl hl.1 rfl (lv_room (Nat.le_of_ble_eq_true rfl)) dX11_raceFor_3 ⟨Nat.le_of_ble_eq_true rfl, Nat.le_of_ble_eq_true rfl⟩) hS (fun q _ h => hFc q h) (fun q h => hFc q h) (fun q _ h => hFc q h) (fun E9 ce q9 u t H1 locs ht9 hvm hpx hBX hz1 hk1 hS hcell hv9 hcl => ?_) (fun _ _ t H1 locs _ _ hw _ _ _ _ => hw.elim)
  · cases hBX
    exact vx_out (fun x hx => (ht x hx).elim) hlocks hcell hv9 hcl (fun t9 ht9 _ => ⟨(), trivial, rfl, hS.F ht9⟩) hS.2.2 (Nat.le_of_ble_eq_true rfl) (Nat.le_of_ble_eq_true rfl)

def zX11_requireAthlete_ws : List Cond := .code yX11_requireAthlete cX11_requireAthlete 2 none :: ([.classLink RX11 299 "java/lang/IndexOutOfBoundsException", .initialized "java/lang/IndexOutOfBoundsException", .fieldLink RX11 12 "HeatStadium" "athletes" "LHeatStadium$Athletes;"] ++ (((vx_atS RX11 303 "java/lang/IndexOutOfBoundsException" ["java/lang/RuntimeException", "java/lang/Exception"]).filter goodWord) ++ (wsX110 ++ (wsX00 ++ ([])))))
theorem zX11_requireAthlete_ws_good : zX11_requireAthlete_ws.all goodWord = true := by decide +kernel
set_option maxHeartbeats 4000000 in
set_option maxRecDepth 100000 in
/-- requireAthlete(k) of games without athletes: throws -/
theorem c_requireAthlete (l : Launch) (hst : l.stackTraces = false) (D : va_G) (sz : Nat) (h0 : Nat) (a : Nat → Nat) (a1 a2 : Nat) (x1 : Int32) : vx_Met l yX11_requireAthlete zX11_requireAthlete_ws (zR 0 1 6) (zPre [.ref h0, .int x1] D [(h0, .inr (17, zHS a)), ((a 0), .inr (6, [.ref a1, .ref a2, .int 0]))] [] (fun q : Nat => sz ≤ q) sz) (va_Qv (S := Unit) (fun _ => False) (fun _ _ => True) (fun q : Nat => sz ≤ q)) (zThr "java/lang/IndexOutOfBoundsException" (fun q : Nat => sz ≤ q)) 1 6 (fun q : Nat => sz ≤ q) := by
  refine vx_ofW (cc := cX11_requireAthlete) (maxL := 2) (ret := none) (by decide) rfl ?_
  intro p e s m args below meth c s₁ B hml ht hv
  obtain ⟨rfl, hsz, hP, hK, hD0, hz⟩ := hv
  have hx := B.exec
  have hb := B.bytes
  have hr := B.returns
  have hts := atoms_spec (ws := zX11_requireAthlete_ws) B.pre
  have hown : s.vm.findClass RX11 = some m.cls := findClass_of_methodNamed B.named
  have hlocks := B.notSynchronized
  subst hsz
  obtain ⟨A, hAe⟩ : ∃ A : Nat → Prop, A = (fun q : Nat => s.heap.size ≤ q) := ⟨_, rfl⟩
  rw [← hAe] at hz ⊢
  have hA : ∀ q : Nat, s.heap.size ≤ q → A q := fun q h => by rw [hAe]; exact h
  have hD := hD0
  have hS : va_S A s.heap s.heap [] := va_S.rf
  have hP : va_P D vwCl [(h0, .inr (17, zHS a)), ((a 0), .inr (6, [.ref a1, .ref a2, .int 0]))] s.heap := hP
  have hl := lv_entry ([.ref h0, .int x1]) (n := 2) (Nat.le_of_ble_eq_true rfl)
  rw [lg_entry_eq]
  generalize (lg_sl ([.ref h0, .int x1]) ++ List.replicate (2 - (lg_sl ([.ref h0, .int x1])).length) Slot.unset).toArray = ls at hl ⊢
  have hl : lv_has ls 2 [(0, .ref h0), (1, .int x1)] := hl
  refine lv_iload_n hx hb dX11_requireAthlete_0 rfl (lv_at hl 1 rfl) ?_
  refine lv_if_lt (tgt := 15) hx hb dX11_requireAthlete_1 (by decide) (fun c1 => ?_) (fun c1 => ?_)
  · obtain ⟨sa, hstr⟩ := hz.2.1 (RX11, 384, "no such athlete") (by decide +kernel)
    exact vx_throwSW (names := ["java/lang/RuntimeException", "java/lang/Exception"]) hx hb hst hown (by decide +kernel) (by decide +kernel) (hts (.classLink RX11 299 "java/lang/IndexOutOfBoundsException") (by decide +kernel)) (hts (.initialized "java/lang/IndexOutOfBoundsException") (by decide +kernel)) hstr (vx_hat (B := zWords) (fun w hw => hts w (List.mem_cons_of_mem _ (List.mem_append_right _ (List.mem_append_left _ hw)))) (by decide +kernel) (fun w hw => hz.w w hw)) (List.all_eq_true.mp (by decide +kernel)) hz.1.1 hz.1.2 hS (hml ▸ hl.1) dX11_requireAthlete_15 dX11_requireAthlete_18 dX11_requireAthlete_19 dX11_requireAthlete_22 dX11_requireAthlete_25 (fun x hx => (ht x hx).elim) (Nat.le_of_ble_eq_true rfl) (Nat.le_of_ble_eq_true rfl) (Nat.le_of_ble_eq_true rfl) (Nat.le_of_ble_eq_true rfl) hlocks (fun t _ h1 h2 => ⟨(), trivial, rfl, zF hS h1 h2⟩) hS.2.2 (Nat.le_of_ble_eq_true rfl) (Nat.le_of_ble_eq_true rfl)
  · refine lv_iload_n hx hb dX11_requireAthlete_4 rfl (lv_at hl 1 rfl) ?_
    refine lv_aload_n hx hb dX11_requireAthlete_5 rfl (lv_at hl 0 rfl) ?_
    refine va_get (D := D) (ci := 17) (v := .ref (a 0)) (C := RX11) (T := TX11) (N := 11) hx hb hts (by decide +kernel) hown hK hP 0 rfl rfl 0 (by decide) (hts (.fieldLink RX11 12 "HeatStadium" "athletes" "LHeatStadium$Athletes;") (by decide +kernel)) (fun _ h9 => h9) rfl dX11_requireAthlete_6 ?_
    refine va_getN (D := D) (ci := 6) (v := .int 0) (C := RX0) (T := TX0) (N := 3) hx hb hts (by decide +kernel) hown hK hP 1 rfl rfl 2 (by decide) (hz.w (.fieldLinkNest RX11 78 "HeatStadium$Athletes" "count" "I" RX11) (by decide +kernel)) (fun _ h9 => h9) rfl dX11_requireAthlete_9 ?_
    refine lv_icmp_lt (tgt := 26) hx hb dX11_requireAthlete_12 (by decide) (fun c9 => absurd c9 c1) (fun _ => ?_)
    obtain ⟨sa, hstr⟩ := hz.2.1 (RX11, 384, "no such athlete") (by decide +kernel)
    exact vx_throwSW (names := ["java/lang/RuntimeException", "java/lang/Exception"]) hx hb hst hown (by decide +kernel) (by decide +kernel) (hts (.classLink RX11 299 "java/lang/IndexOutOfBoundsException") (by decide +kernel)) (hts (.initialized "java/lang/IndexOutOfBoundsException") (by decide +kernel)) hstr (vx_hat (B := zWords) (fun w hw => hts w (List.mem_cons_of_mem _ (List.mem_append_right _ (List.mem_append_left _ hw)))) (by decide +kernel) (fun w hw => hz.w w hw)) (List.all_eq_true.mp (by decide +kernel)) hz.1.1 hz.1.2 hS (hml ▸ hl.1) dX11_requireAthlete_15 dX11_requireAthlete_18 dX11_requireAthlete_19 dX11_requireAthlete_22 dX11_requireAthlete_25 (fun x hx => (ht x hx).elim) (Nat.le_of_ble_eq_true rfl) (Nat.le_of_ble_eq_true rfl) (Nat.le_of_ble_eq_true rfl) (Nat.le_of_ble_eq_true rfl) hlocks (fun t _ h1 h2 => ⟨(), trivial, rfl, zF hS h1 h2⟩) hS.2.2 (Nat.le_of_ble_eq_true rfl) (Nat.le_of_ble_eq_true rfl)

def zX11_enter_ws : List Cond := .code yX11_enter cX11_enter 5 (some .int) :: ([.methodLink RX11 107 yX11_eventFor, .instanceMethod yX11_eventFor, .selects RX11 yX11_eventFor yX11_eventFor, .initialized RX11] ++ (zX11_eventFor_ws ++ ([])))
theorem zX11_enter_ws_good : zX11_enter_ws.all goodWord = true := by decide +kernel
set_option maxHeartbeats 4000000 in
set_option maxRecDepth 100000 in
/-- enter of games without events: throws -/
theorem c_enter (l : Launch) (hst : l.stackTraces = false) (D : va_G) (sz : Nat) (h0 : Nat) (a : Nat → Nat) (x1 x2 x3 : Int32) : vx_Met l yX11_enter zX11_enter_ws (zR 3 1 6) (zPre [.ref h0, .int x1, .int x2, .int x3] D [(h0, .inr (17, zHS a))] [] (fun q : Nat => sz ≤ q) sz) (va_Qi (S := Unit) (fun _ _ => False) (fun _ _ => True) (fun q : Nat => sz ≤ q)) (zThr "java/lang/IndexOutOfBoundsException" (fun q : Nat => sz ≤ q)) 1 6 (fun q : Nat => sz ≤ q) := by
  refine vx_ofW (cc := cX11_enter) (maxL := 5) (ret := (some .int)) (by decide) rfl ?_
  intro p e s m args below meth c s₁ B hml ht hv
  obtain ⟨rfl, hsz, hP, hK, hD0, hz⟩ := hv
  have hx := B.exec
  have hb := B.bytes
  have hr := B.returns
  have hts := atoms_spec (ws := zX11_enter_ws) B.pre
  have hown : s.vm.findClass RX11 = some m.cls := findClass_of_methodNamed B.named
  have hlocks := B.notSynchronized
  subst hsz
  obtain ⟨A, hAe⟩ : ∃ A : Nat → Prop, A = (fun q : Nat => s.heap.size ≤ q) := ⟨_, rfl⟩
  rw [← hAe] at hz ⊢
  have hA : ∀ q : Nat, s.heap.size ≤ q → A q := fun q h => by rw [hAe]; exact h
  have hD := hD0
  have hS : va_S A s.heap s.heap [] := va_S.rf
  have hP : va_P D vwCl [(h0, .inr (17, zHS a))] s.heap := hP
  have hl := lv_entry ([.ref h0, .int x1, .int x2, .int x3]) (n := 5) (Nat.le_of_ble_eq_true rfl)
  rw [lg_entry_eq]
  generalize (lg_sl ([.ref h0, .int x1, .int x2, .int x3]) ++ List.replicate (5 - (lg_sl ([.ref h0, .int x1, .int x2, .int x3])).length) Slot.unset).toArray = ls at hl ⊢
  have hl : lv_has ls 5 [(0, .ref h0), (1, .int x1), (2, .int x2), (3, .int x3)] := hl
  refine lv_aload_n hx hb dX11_enter_0 rfl (lv_at hl 0 rfl) ?_
  refine lv_iload_n hx hb dX11_enter_1 rfl (lv_at hl 1 rfl) ?_
  refine lv_iload_n hx hb dX11_enter_2 rfl (lv_at hl 2 rfl) ?_
  have hPc := hP.sub (ws' := [(h0, .inr (17, zHS a))]) [0] rfl
  have hDc := hD.sub (ws' := [(h0, .inr (17, zHS a))]) [0] (by decide) rfl
  have hKc := hK.sub (tys' := []) [] rfl
  have hFc : ∀ q : Nat, s.heap.size ≤ q → A q := fun q h => hA q (Nat.le_trans hS.1 h)
  refine vx_callq (vx_runV (As := [.int x1, .int x2]) (rest := []) ⟨hx, hb, hml, hown, hts⟩ (c_eventFor l hst D s.heap.size h0 a x1 x2) (cwV 2 hts (goodIn_app (goodIn_of _ (by decide +kernel)) (goodIn_sub (fun _ h => List.mem_cons_of_mem _ (List.mem_append_right _ (List.mem_append_left _ h))) zX11_eventFor_ws_good)) rfl rfl rfl (by decide +kernel) ⟨Nat.le_of_ble_eq_true rfl, Nat.le_of_ble_eq_true rfl⟩) ⟨zPre.blind, va_recv hKc hPc (ci := 17) (q0 := 0) rfl rfl, zPre.mk hPc hKc hDc hz hS (fun q h => hFc q h)⟩ rfl rfl hl.1 rfl (lv_room (Nat.le_of_ble_eq_true rfl)) dX11_enter_3 ⟨Nat.le_of_ble_eq_true rfl, Nat.le_of_ble_eq_true rfl⟩) hS (fun q _ h => hFc q h) (fun q h => hFc q h) (fun q _ h => hFc q h) (fun E9 ce q9 u t H1 locs ht9 hvm hpx hBX hz1 hk1 hS hcell hv9 hcl => ?_) (fun _ _ t H1 locs _ _ hw _ _ _ _ => hw.elim)
  · cases hBX
    exact vx_out (fun x hx => (ht x hx).elim) hlocks hcell hv9 hcl (fun t9 ht9 _ => ⟨(), trivial, rfl, hS.F ht9⟩) hS.2.2 (Nat.le_of_ble_eq_true rfl) (Nat.le_of_ble_eq_true rfl)

def zX11_withdraw_ws : List Cond := .code yX11_withdraw cX11_withdraw 6 (some .boolean) :: ([.methodLink RX11 107 yX11_eventFor, .instanceMethod yX11_eventFor, .selects RX11 yX11_eventFor yX11_eventFor, .initialized RX11] ++ (zX11_eventFor_ws ++ ([])))
theorem zX11_withdraw_ws_good : zX11_withdraw_ws.all goodWord = true := by decide +kernel
set_option maxHeartbeats 4000000 in
set_option maxRecDepth 100000 in
/-- withdraw of games without events: throws -/
theorem c_withdraw (l : Launch) (hst : l.stackTraces = false) (D : va_G) (sz : Nat) (h0 : Nat) (a : Nat → Nat) (x1 x2 x3 : Int32) : vx_Met l yX11_withdraw zX11_withdraw_ws (zR 3 1 6) (zPre [.ref h0, .int x1, .int x2, .int x3] D [(h0, .inr (17, zHS a))] [] (fun q : Nat => sz ≤ q) sz) (va_Qi (S := Unit) (fun _ _ => False) (fun _ _ => True) (fun q : Nat => sz ≤ q)) (zThr "java/lang/IndexOutOfBoundsException" (fun q : Nat => sz ≤ q)) 1 6 (fun q : Nat => sz ≤ q) := by
  refine vx_ofW (cc := cX11_withdraw) (maxL := 6) (ret := (some .boolean)) (by decide) rfl ?_
  intro p e s m args below meth c s₁ B hml ht hv
  obtain ⟨rfl, hsz, hP, hK, hD0, hz⟩ := hv
  have hx := B.exec
  have hb := B.bytes
  have hr := B.returns
  have hts := atoms_spec (ws := zX11_withdraw_ws) B.pre
  have hown : s.vm.findClass RX11 = some m.cls := findClass_of_methodNamed B.named
  have hlocks := B.notSynchronized
  subst hsz
  obtain ⟨A, hAe⟩ : ∃ A : Nat → Prop, A = (fun q : Nat => s.heap.size ≤ q) := ⟨_, rfl⟩
  rw [← hAe] at hz ⊢
  have hA : ∀ q : Nat, s.heap.size ≤ q → A q := fun q h => by rw [hAe]; exact h
  have hD := hD0
  have hS : va_S A s.heap s.heap [] := va_S.rf
  have hP : va_P D vwCl [(h0, .inr (17, zHS a))] s.heap := hP
  have hl := lv_entry ([.ref h0, .int x1, .int x2, .int x3]) (n := 6) (Nat.le_of_ble_eq_true rfl)
  rw [lg_entry_eq]
  generalize (lg_sl ([.ref h0, .int x1, .int x2, .int x3]) ++ List.replicate (6 - (lg_sl ([.ref h0, .int x1, .int x2, .int x3])).length) Slot.unset).toArray = ls at hl ⊢
  have hl : lv_has ls 6 [(0, .ref h0), (1, .int x1), (2, .int x2), (3, .int x3)] := hl
  refine lv_aload_n hx hb dX11_withdraw_0 rfl (lv_at hl 0 rfl) ?_
  refine lv_iload_n hx hb dX11_withdraw_1 rfl (lv_at hl 1 rfl) ?_
  refine lv_iload_n hx hb dX11_withdraw_2 rfl (lv_at hl 2 rfl) ?_
  have hPc := hP.sub (ws' := [(h0, .inr (17, zHS a))]) [0] rfl
  have hDc := hD.sub (ws' := [(h0, .inr (17, zHS a))]) [0] (by decide) rfl
  have hKc := hK.sub (tys' := []) [] rfl
  have hFc : ∀ q : Nat, s.heap.size ≤ q → A q := fun q h => hA q (Nat.le_trans hS.1 h)
  refine vx_callq (vx_runV (As := [.int x1, .int x2]) (rest := []) ⟨hx, hb, hml, hown, hts⟩ (c_eventFor l hst D s.heap.size h0 a x1 x2) (cwV 2 hts (goodIn_app (goodIn_of _ (by decide +kernel)) (goodIn_sub (fun _ h => List.mem_cons_of_mem _ (List.mem_append_right _ (List.mem_append_left _ h))) zX11_eventFor_ws_good)) rfl rfl rfl (by decide +kernel) ⟨Nat.le_of_ble_eq_true rfl, Nat.le_of_ble_eq_true rfl⟩) ⟨zPre.blind, va_recv hKc hPc (ci := 17) (q0 := 0) rfl rfl, zPre.mk hPc hKc hDc hz hS (fun q h => hFc q h)⟩ rfl rfl hl.1 rfl (lv_room (Nat.le_of_ble_eq_true rfl)) dX11_withdraw_3 ⟨Nat.le_of_ble_eq_true rfl, Nat.le_of_ble_eq_true rfl⟩) hS (fun q _ h => hFc q h) (fun q h => hFc q h) (fun q _ h => hFc q h) (fun E9 ce q9 u t H1 locs ht9 hvm hpx hBX hz1 hk1 hS hcell hv9 hcl => ?_) (fun _ _ t H1 locs _ _ hw _ _ _ _ => hw.elim)
  · cases hBX
    exact vx_out (fun x hx => (ht x hx).elim) hlocks hcell hv9 hcl (fun t9 ht9 _ => ⟨(), trivial, rfl, hS.F ht9⟩) hS.2.2 (Nat.le_of_ble_eq_true rfl) (Nat.le_of_ble_eq_true rfl)

def zX11_field_ws : List Cond := .code yX11_field cX11_field 2 (some .int) :: ([.fieldLink RX11 32 "HeatStadium" "fieldNow" "LHeatStadium$FieldNow;", .methodLink RX11 130 yX11_eventAt, .instanceMethod yX11_eventAt, .selects RX11 yX11_eventAt yX11_eventAt, .initialized RX11] ++ (wsX110 ++ (zX11_eventAt_ws ++ ([]))))
theorem zX11_field_ws_good : zX11_field_ws.all goodWord = true := by decide +kernel
set_option maxHeartbeats 4000000 in
set_option maxRecDepth 100000 in
/-- field of games without events: throws -/
theorem c_field (l : Launch) (hst : l.stackTraces = false) (D : va_G) (sz : Nat) (h0 : Nat) (a : Nat → Nat) (x1 : Int32) : vx_Met l yX11_field zX11_field_ws (zR 3 1 6) (zPre [.ref h0, .int x1] D [(h0, .inr (17, zHS a))] [] (fun q : Nat => sz ≤ q) sz) (va_Qi (S := Unit) (fun _ _ => False) (fun _ _ => True) (fun q : Nat => sz ≤ q)) (zThr "java/lang/IndexOutOfBoundsException" (fun q : Nat => sz ≤ q)) 1 6 (fun q : Nat => sz ≤ q) := by
  refine vx_ofW (cc := cX11_field) (maxL := 2) (ret := (some .int)) (by decide) rfl ?_
  intro p e s m args below meth c s₁ B hml ht hv
  obtain ⟨rfl, hsz, hP, hK, hD0, hz⟩ := hv
  have hx := B.exec
  have hb := B.bytes
  have hr := B.returns
  have hts := atoms_spec (ws := zX11_field_ws) B.pre
  have hown : s.vm.findClass RX11 = some m.cls := findClass_of_methodNamed B.named
  have hlocks := B.notSynchronized
  subst hsz
  obtain ⟨A, hAe⟩ : ∃ A : Nat → Prop, A = (fun q : Nat => s.heap.size ≤ q) := ⟨_, rfl⟩
  rw [← hAe] at hz ⊢
  have hA : ∀ q : Nat, s.heap.size ≤ q → A q := fun q h => by rw [hAe]; exact h
  have hD := hD0
  have hS : va_S A s.heap s.heap [] := va_S.rf
  have hP : va_P D vwCl [(h0, .inr (17, zHS a))] s.heap := hP
  have hl := lv_entry ([.ref h0, .int x1]) (n := 2) (Nat.le_of_ble_eq_true rfl)
  rw [lg_entry_eq]
  generalize (lg_sl ([.ref h0, .int x1]) ++ List.replicate (2 - (lg_sl ([.ref h0, .int x1])).length) Slot.unset).toArray = ls at hl ⊢
  have hl : lv_has ls 2 [(0, .ref h0), (1, .int x1)] := hl
  refine lv_aload_n hx hb dX11_field_0 rfl (lv_at hl 0 rfl) ?_
  refine va_get (D := D) (ci := 17) (v := .ref (a 3)) (C := RX11) (T := TX11) (N := 11) hx hb hts (by decide +kernel) hown hK hP 0 rfl rfl 3 (by decide) (hts (.fieldLink RX11 32 "HeatStadium" "fieldNow" "LHeatStadium$FieldNow;") (by decide +kernel)) (fun _ h9 => h9) rfl dX11_field_1 ?_
  refine lv_aload_n hx hb dX11_field_4 rfl (lv_at hl 0 rfl) ?_
  refine lv_iload_n hx hb dX11_field_5 rfl (lv_at hl 1 rfl) ?_
  have hPc := hP.sub (ws' := [(h0, .inr (17, zHS a))]) [0] rfl
  have hDc := hD.sub (ws' := [(h0, .inr (17, zHS a))]) [0] (by decide) rfl
  have hKc := hK.sub (tys' := []) [] rfl
  have hFc : ∀ q : Nat, s.heap.size ≤ q → A q := fun q h => hA q (Nat.le_trans hS.1 h)
  refine vx_callq (vx_runV (As := [.int x1]) (rest := [.ref (a 3)]) ⟨hx, hb, hml, hown, hts⟩ (c_eventAt l hst D s.heap.size h0 a x1) (cwV 1 hts (goodIn_app (goodIn_of _ (by decide +kernel)) (goodIn_sub (fun _ h => List.mem_cons_of_mem _ (List.mem_append_right _ (List.mem_append_right _ (List.mem_append_left _ h)))) zX11_eventAt_ws_good)) rfl rfl rfl (by decide +kernel) ⟨Nat.le_of_ble_eq_true rfl, Nat.le_of_ble_eq_true rfl⟩) ⟨zPre.blind, va_recv hKc hPc (ci := 17) (q0 := 0) rfl rfl, zPre.mk hPc hKc hDc hz hS (fun q h => hFc q h)⟩ rfl rfl hl.1 rfl (lv_room (Nat.le_of_ble_eq_true rfl)) dX11_field_6 ⟨Nat.le_of_ble_eq_true rfl, Nat.le_of_ble_eq_true rfl⟩) hS (fun q _ h => hFc q h) (fun q h => hFc q h) (fun q _ h => hFc q h) (fun E9 ce q9 u t H1 locs ht9 hvm hpx hBX hz1 hk1 hS hcell hv9 hcl => ?_) (fun _ _ t H1 locs _ _ hw _ _ _ _ => hw.elim)
  · cases hBX
    exact vx_out (fun x hx => (ht x hx).elim) hlocks hcell hv9 hcl (fun t9 ht9 _ => ⟨(), trivial, rfl, hS.F ht9⟩) hS.2.2 (Nat.le_of_ble_eq_true rfl) (Nat.le_of_ble_eq_true rfl)

def zX11_inField_ws : List Cond := .code yX11_inField cX11_inField 3 (some .int) :: ([.fieldLink RX11 32 "HeatStadium" "fieldNow" "LHeatStadium$FieldNow;", .methodLink RX11 130 yX11_eventAt, .instanceMethod yX11_eventAt, .selects RX11 yX11_eventAt yX11_eventAt, .initialized RX11] ++ (wsX110 ++ (zX11_eventAt_ws ++ ([]))))
theorem zX11_inField_ws_good : zX11_inField_ws.all goodWord = true := by decide +kernel
set_option maxHeartbeats 4000000 in
set_option maxRecDepth 100000 in
/-- inField of games without events: throws -/
theorem c_inField (l : Launch) (hst : l.stackTraces = false) (D : va_G) (sz : Nat) (h0 : Nat) (a : Nat → Nat) (x1 x2 : Int32) : vx_Met l yX11_inField zX11_inField_ws (zR 3 1 6) (zPre [.ref h0, .int x1, .int x2] D [(h0, .inr (17, zHS a))] [] (fun q : Nat => sz ≤ q) sz) (va_Qi (S := Unit) (fun _ _ => False) (fun _ _ => True) (fun q : Nat => sz ≤ q)) (zThr "java/lang/IndexOutOfBoundsException" (fun q : Nat => sz ≤ q)) 1 6 (fun q : Nat => sz ≤ q) := by
  refine vx_ofW (cc := cX11_inField) (maxL := 3) (ret := (some .int)) (by decide) rfl ?_
  intro p e s m args below meth c s₁ B hml ht hv
  obtain ⟨rfl, hsz, hP, hK, hD0, hz⟩ := hv
  have hx := B.exec
  have hb := B.bytes
  have hr := B.returns
  have hts := atoms_spec (ws := zX11_inField_ws) B.pre
  have hown : s.vm.findClass RX11 = some m.cls := findClass_of_methodNamed B.named
  have hlocks := B.notSynchronized
  subst hsz
  obtain ⟨A, hAe⟩ : ∃ A : Nat → Prop, A = (fun q : Nat => s.heap.size ≤ q) := ⟨_, rfl⟩
  rw [← hAe] at hz ⊢
  have hA : ∀ q : Nat, s.heap.size ≤ q → A q := fun q h => by rw [hAe]; exact h
  have hD := hD0
  have hS : va_S A s.heap s.heap [] := va_S.rf
  have hP : va_P D vwCl [(h0, .inr (17, zHS a))] s.heap := hP
  have hl := lv_entry ([.ref h0, .int x1, .int x2]) (n := 3) (Nat.le_of_ble_eq_true rfl)
  rw [lg_entry_eq]
  generalize (lg_sl ([.ref h0, .int x1, .int x2]) ++ List.replicate (3 - (lg_sl ([.ref h0, .int x1, .int x2])).length) Slot.unset).toArray = ls at hl ⊢
  have hl : lv_has ls 3 [(0, .ref h0), (1, .int x1), (2, .int x2)] := hl
  refine lv_aload_n hx hb dX11_inField_0 rfl (lv_at hl 0 rfl) ?_
  refine va_get (D := D) (ci := 17) (v := .ref (a 3)) (C := RX11) (T := TX11) (N := 11) hx hb hts (by decide +kernel) hown hK hP 0 rfl rfl 3 (by decide) (hts (.fieldLink RX11 32 "HeatStadium" "fieldNow" "LHeatStadium$FieldNow;") (by decide +kernel)) (fun _ h9 => h9) rfl dX11_inField_1 ?_
  refine lv_aload_n hx hb dX11_inField_4 rfl (lv_at hl 0 rfl) ?_
  refine lv_iload_n hx hb dX11_inField_5 rfl (lv_at hl 1 rfl) ?_
  have hPc := hP.sub (ws' := [(h0, .inr (17, zHS a))]) [0] rfl
  have hDc := hD.sub (ws' := [(h0, .inr (17, zHS a))]) [0] (by decide) rfl
  have hKc := hK.sub (tys' := []) [] rfl
  have hFc : ∀ q : Nat, s.heap.size ≤ q → A q := fun q h => hA q (Nat.le_trans hS.1 h)
  refine vx_callq (vx_runV (As := [.int x1]) (rest := [.ref (a 3)]) ⟨hx, hb, hml, hown, hts⟩ (c_eventAt l hst D s.heap.size h0 a x1) (cwV 1 hts (goodIn_app (goodIn_of _ (by decide +kernel)) (goodIn_sub (fun _ h => List.mem_cons_of_mem _ (List.mem_append_right _ (List.mem_append_right _ (List.mem_append_left _ h)))) zX11_eventAt_ws_good)) rfl rfl rfl (by decide +kernel) ⟨Nat.le_of_ble_eq_true rfl, Nat.le_of_ble_eq_true rfl⟩) ⟨zPre.blind, va_recv hKc hPc (ci := 17) (q0 := 0) rfl rfl, zPre.mk hPc hKc hDc hz hS (fun q h => hFc q h)⟩ rfl rfl hl.1 rfl (lv_room (Nat.le_of_ble_eq_true rfl)) dX11_inField_6 ⟨Nat.le_of_ble_eq_true rfl, Nat.le_of_ble_eq_true rfl⟩) hS (fun q _ h => hFc q h) (fun q h => hFc q h) (fun q _ h => hFc q h) (fun E9 ce q9 u t H1 locs ht9 hvm hpx hBX hz1 hk1 hS hcell hv9 hcl => ?_) (fun _ _ t H1 locs _ _ hw _ _ _ _ => hw.elim)
  · cases hBX
    exact vx_out (fun x hx => (ht x hx).elim) hlocks hcell hv9 hcl (fun t9 ht9 _ => ⟨(), trivial, rfl, hS.F ht9⟩) hS.2.2 (Nat.le_of_ble_eq_true rfl) (Nat.le_of_ble_eq_true rfl)

def zX11_heatOf_ws : List Cond := .code yX11_heatOf cX11_heatOf 4 (some .int) :: ([.methodLink RX11 107 yX11_eventFor, .instanceMethod yX11_eventFor, .selects RX11 yX11_eventFor yX11_eventFor, .initialized RX11] ++ (zX11_eventFor_ws ++ ([])))
theorem zX11_heatOf_ws_good : zX11_heatOf_ws.all goodWord = true := by decide +kernel
set_option maxHeartbeats 4000000 in
set_option maxRecDepth 100000 in
/-- heatOf of games without events: throws -/
theorem c_heatOf (l : Launch) (hst : l.stackTraces = false) (D : va_G) (sz : Nat) (h0 : Nat) (a : Nat → Nat) (x1 x2 : Int32) : vx_Met l yX11_heatOf zX11_heatOf_ws (zR 3 1 6) (zPre [.ref h0, .int x1, .int x2] D [(h0, .inr (17, zHS a))] [] (fun q : Nat => sz ≤ q) sz) (va_Qi (S := Unit) (fun _ _ => False) (fun _ _ => True) (fun q : Nat => sz ≤ q)) (zThr "java/lang/IndexOutOfBoundsException" (fun q : Nat => sz ≤ q)) 1 6 (fun q : Nat => sz ≤ q) := by
  refine vx_ofW (cc := cX11_heatOf) (maxL := 4) (ret := (some .int)) (by decide) rfl ?_
  intro p e s m args below meth c s₁ B hml ht hv
  obtain ⟨rfl, hsz, hP, hK, hD0, hz⟩ := hv
  have hx := B.exec
  have hb := B.bytes
  have hr := B.returns
  have hts := atoms_spec (ws := zX11_heatOf_ws) B.pre
  have hown : s.vm.findClass RX11 = some m.cls := findClass_of_methodNamed B.named
  have hlocks := B.notSynchronized
  subst hsz
  obtain ⟨A, hAe⟩ : ∃ A : Nat → Prop, A = (fun q : Nat => s.heap.size ≤ q) := ⟨_, rfl⟩
  rw [← hAe] at hz ⊢
  have hA : ∀ q : Nat, s.heap.size ≤ q → A q := fun q h => by rw [hAe]; exact h
  have hD := hD0
  have hS : va_S A s.heap s.heap [] := va_S.rf
  have hP : va_P D vwCl [(h0, .inr (17, zHS a))] s.heap := hP
  have hl := lv_entry ([.ref h0, .int x1, .int x2]) (n := 4) (Nat.le_of_ble_eq_true rfl)
  rw [lg_entry_eq]
  generalize (lg_sl ([.ref h0, .int x1, .int x2]) ++ List.replicate (4 - (lg_sl ([.ref h0, .int x1, .int x2])).length) Slot.unset).toArray = ls at hl ⊢
  have hl : lv_has ls 4 [(0, .ref h0), (1, .int x1), (2, .int x2)] := hl
  refine lv_aload_n hx hb dX11_heatOf_0 rfl (lv_at hl 0 rfl) ?_
  refine lv_iload_n hx hb dX11_heatOf_1 rfl (lv_at hl 1 rfl) ?_
  refine lv_iload_n hx hb dX11_heatOf_2 rfl (lv_at hl 2 rfl) ?_
  have hPc := hP.sub (ws' := [(h0, .inr (17, zHS a))]) [0] rfl
  have hDc := hD.sub (ws' := [(h0, .inr (17, zHS a))]) [0] (by decide) rfl
  have hKc := hK.sub (tys' := []) [] rfl
  have hFc : ∀ q : Nat, s.heap.size ≤ q → A q := fun q h => hA q (Nat.le_trans hS.1 h)
  refine vx_callq (vx_runV (As := [.int x1, .int x2]) (rest := []) ⟨hx, hb, hml, hown, hts⟩ (c_eventFor l hst D s.heap.size h0 a x1 x2) (cwV 2 hts (goodIn_app (goodIn_of _ (by decide +kernel)) (goodIn_sub (fun _ h => List.mem_cons_of_mem _ (List.mem_append_right _ (List.mem_append_left _ h))) zX11_eventFor_ws_good)) rfl rfl rfl (by decide +kernel) ⟨Nat.le_of_ble_eq_true rfl, Nat.le_of_ble_eq_true rfl⟩) ⟨zPre.blind, va_recv hKc hPc (ci := 17) (q0 := 0) rfl rfl, zPre.mk hPc hKc hDc hz hS (fun q h => hFc q h)⟩ rfl rfl hl.1 rfl (lv_room (Nat.le_of_ble_eq_true rfl)) dX11_heatOf_3 ⟨Nat.le_of_ble_eq_true rfl, Nat.le_of_ble_eq_true rfl⟩) hS (fun q _ h => hFc q h) (fun q h => hFc q h) (fun q _ h => hFc q h) (fun E9 ce q9 u t H1 locs ht9 hvm hpx hBX hz1 hk1 hS hcell hv9 hcl => ?_) (fun _ _ t H1 locs _ _ hw _ _ _ _ => hw.elim)
  · cases hBX
    exact vx_out (fun x hx => (ht x hx).elim) hlocks hcell hv9 hcl (fun t9 ht9 _ => ⟨(), trivial, rfl, hS.F ht9⟩) hS.2.2 (Nat.le_of_ble_eq_true rfl) (Nat.le_of_ble_eq_true rfl)

def zX11_laneOf_ws : List Cond := .code yX11_laneOf cX11_laneOf 6 (some .int) :: ([.methodLink RX11 161 yX11_raceFor, .instanceMethod yX11_raceFor, .selects RX11 yX11_raceFor yX11_raceFor, .initialized RX11] ++ (zX11_raceFor_ws ++ ([])))
theorem zX11_laneOf_ws_good : zX11_laneOf_ws.all goodWord = true := by decide +kernel
set_option maxHeartbeats 4000000 in
set_option maxRecDepth 100000 in
/-- laneOf of games without events: throws -/
theorem c_laneOf (l : Launch) (hst : l.stackTraces = false) (D : va_G) (sz : Nat) (h0 : Nat) (a : Nat → Nat) (x1 x2 x3 : Int32) : vx_Met l yX11_laneOf zX11_laneOf_ws (zR 3 1 6) (zPre [.ref h0, .int x1, .int x2, .int x3] D [(h0, .inr (17, zHS a))] [] (fun q : Nat => sz ≤ q) sz) (va_Qi (S := Unit) (fun _ _ => False) (fun _ _ => True) (fun q : Nat => sz ≤ q)) (zThr "java/lang/IndexOutOfBoundsException" (fun q : Nat => sz ≤ q)) 1 6 (fun q : Nat => sz ≤ q) := by
  refine vx_ofW (cc := cX11_laneOf) (maxL := 6) (ret := (some .int)) (by decide) rfl ?_
  intro p e s m args below meth c s₁ B hml ht hv
  obtain ⟨rfl, hsz, hP, hK, hD0, hz⟩ := hv
  have hx := B.exec
  have hb := B.bytes
  have hr := B.returns
  have hts := atoms_spec (ws := zX11_laneOf_ws) B.pre
  have hown : s.vm.findClass RX11 = some m.cls := findClass_of_methodNamed B.named
  have hlocks := B.notSynchronized
  subst hsz
  obtain ⟨A, hAe⟩ : ∃ A : Nat → Prop, A = (fun q : Nat => s.heap.size ≤ q) := ⟨_, rfl⟩
  rw [← hAe] at hz ⊢
  have hA : ∀ q : Nat, s.heap.size ≤ q → A q := fun q h => by rw [hAe]; exact h
  have hD := hD0
  have hS : va_S A s.heap s.heap [] := va_S.rf
  have hP : va_P D vwCl [(h0, .inr (17, zHS a))] s.heap := hP
  have hl := lv_entry ([.ref h0, .int x1, .int x2, .int x3]) (n := 6) (Nat.le_of_ble_eq_true rfl)
  rw [lg_entry_eq]
  generalize (lg_sl ([.ref h0, .int x1, .int x2, .int x3]) ++ List.replicate (6 - (lg_sl ([.ref h0, .int x1, .int x2, .int x3])).length) Slot.unset).toArray = ls at hl ⊢
  have hl : lv_has ls 6 [(0, .ref h0), (1, .int x1), (2, .int x2), (3, .int x3)] := hl
  refine lv_aload_n hx hb dX11_laneOf_0 rfl (lv_at hl 0 rfl) ?_
  refine lv_iload_n hx hb dX11_laneOf_1 rfl (lv_at hl 1 rfl) ?_
  refine lv_iload_n hx hb dX11_laneOf_2 rfl (lv_at hl 2 rfl) ?_
  refine lv_iload_n hx hb dX11_laneOf_3 rfl (lv_at hl 3 rfl) ?_
  have hPc := hP.sub (ws' := [(h0, .inr (17, zHS a))]) [0] rfl
  have hDc := hD.sub (ws' := [(h0, .inr (17, zHS a))]) [0] (by decide) rfl
  have hKc := hK.sub (tys' := []) [] rfl
  have hFc : ∀ q : Nat, s.heap.size ≤ q → A q := fun q h => hA q (Nat.le_trans hS.1 h)
  refine vx_callq (vx_runV (As := [.int x1, .int x2, .int x3]) (rest := []) ⟨hx, hb, hml, hown, hts⟩ (c_raceFor l hst D s.heap.size h0 a x1 x2 x3) (cwV 3 hts (goodIn_app (goodIn_of _ (by decide +kernel)) (goodIn_sub (fun _ h => List.mem_cons_of_mem _ (List.mem_append_right _ (List.mem_append_left _ h))) zX11_raceFor_ws_good)) rfl rfl rfl (by decide +kernel) ⟨Nat.le_of_ble_eq_true rfl, Nat.le_of_ble_eq_true rfl⟩) ⟨zPre.blind, va_recv hKc hPc (ci := 17) (q0 := 0) rfl rfl, zPre.mk hPc hKc hDc hz hS (fun q h => hFc q h)⟩ rfl rfl hl.1 rfl (lv_room (Nat.le_of_ble_eq_true rfl)) dX11_laneOf_4 ⟨Nat.le_of_ble_eq_true rfl, Nat.le_of_ble_eq_true rfl⟩) hS (fun q _ h => hFc q h) (fun q h => hFc q h) (fun q _ h => hFc q h) (fun E9 ce q9 u t H1 locs ht9 hvm hpx hBX hz1 hk1 hS hcell hv9 hcl => ?_) (fun _ _ t H1 locs _ _ hw _ _ _ _ => hw.elim)
  · cases hBX
    exact vx_out (fun x hx => (ht x hx).elim) hlocks hcell hv9 hcl (fun t9 ht9 _ => ⟨(), trivial, rfl, hS.F ht9⟩) hS.2.2 (Nat.le_of_ble_eq_true rfl) (Nat.le_of_ble_eq_true rfl)

def zX11_time_ws : List Cond := .code yX11_time cX11_time 10 (some .int) :: ([.methodLink RX11 107 yX11_eventFor, .instanceMethod yX11_eventFor, .selects RX11 yX11_eventFor yX11_eventFor, .initialized RX11] ++ (zX11_eventFor_ws ++ ([])))
theorem zX11_time_ws_good : zX11_time_ws.all goodWord = true := by decide +kernel
set_option maxHeartbeats 4000000 in
set_option maxRecDepth 100000 in
/-- time of games without events: throws -/
theorem c_time (l : Launch) (hst : l.stackTraces = false) (D : va_G) (sz : Nat) (h0 : Nat) (a : Nat → Nat) (x1 x2 x3 x4 x5 x6 : Int32) : vx_Met l yX11_time zX11_time_ws (zR 3 1 6) (zPre [.ref h0, .int x1, .int x2, .int x3, .int x4, .int x5, .int x6] D [(h0, .inr (17, zHS a))] [] (fun q : Nat => sz ≤ q) sz) (va_Qi (S := Unit) (fun _ _ => False) (fun _ _ => True) (fun q : Nat => sz ≤ q)) (zThr "java/lang/IndexOutOfBoundsException" (fun q : Nat => sz ≤ q)) 1 6 (fun q : Nat => sz ≤ q) := by
  refine vx_ofW (cc := cX11_time) (maxL := 10) (ret := (some .int)) (by decide) rfl ?_
  intro p e s m args below meth c s₁ B hml ht hv
  obtain ⟨rfl, hsz, hP, hK, hD0, hz⟩ := hv
  have hx := B.exec
  have hb := B.bytes
  have hr := B.returns
  have hts := atoms_spec (ws := zX11_time_ws) B.pre
  have hown : s.vm.findClass RX11 = some m.cls := findClass_of_methodNamed B.named
  have hlocks := B.notSynchronized
  subst hsz
  obtain ⟨A, hAe⟩ : ∃ A : Nat → Prop, A = (fun q : Nat => s.heap.size ≤ q) := ⟨_, rfl⟩
  rw [← hAe] at hz ⊢
  have hA : ∀ q : Nat, s.heap.size ≤ q → A q := fun q h => by rw [hAe]; exact h
  have hD := hD0
  have hS : va_S A s.heap s.heap [] := va_S.rf
  have hP : va_P D vwCl [(h0, .inr (17, zHS a))] s.heap := hP
  have hl := lv_entry ([.ref h0, .int x1, .int x2, .int x3, .int x4, .int x5, .int x6]) (n := 10) (Nat.le_of_ble_eq_true rfl)
  rw [lg_entry_eq]
  generalize (lg_sl ([.ref h0, .int x1, .int x2, .int x3, .int x4, .int x5, .int x6]) ++ List.replicate (10 - (lg_sl ([.ref h0, .int x1, .int x2, .int x3, .int x4, .int x5, .int x6])).length) Slot.unset).toArray = ls at hl ⊢
  have hl : lv_has ls 10 [(0, .ref h0), (1, .int x1), (2, .int x2), (3, .int x3), (4, .int x4), (5, .int x5), (6, .int x6)] := hl
  refine lv_aload_n hx hb dX11_time_0 rfl (lv_at hl 0 rfl) ?_
  refine lv_iload_n hx hb dX11_time_1 rfl (lv_at hl 1 rfl) ?_
  refine lv_iload_n hx hb dX11_time_2 rfl (lv_at hl 3 rfl) ?_
  have hPc := hP.sub (ws' := [(h0, .inr (17, zHS a))]) [0] rfl
  have hDc := hD.sub (ws' := [(h0, .inr (17, zHS a))]) [0] (by decide) rfl
  have hKc := hK.sub (tys' := []) [] rfl
  have hFc : ∀ q : Nat, s.heap.size ≤ q → A q := fun q h => hA q (Nat.le_trans hS.1 h)
  refine vx_callq (vx_runV (As := [.int x1, .int x3]) (rest := []) ⟨hx, hb, hml, hown, hts⟩ (c_eventFor l hst D s.heap.size h0 a x1 x3) (cwV 2 hts (goodIn_app (goodIn_of _ (by decide +kernel)) (goodIn_sub (fun _ h => List.mem_cons_of_mem _ (List.mem_append_right _ (List.mem_append_left _ h))) zX11_eventFor_ws_good)) rfl rfl rfl (by decide +kernel) ⟨Nat.le_of_ble_eq_true rfl, Nat.le_of_ble_eq_true rfl⟩) ⟨zPre.blind, va_recv hKc hPc (ci := 17) (q0 := 0) rfl rfl, zPre.mk hPc hKc hDc hz hS (fun q h => hFc q h)⟩ rfl rfl hl.1 rfl (lv_room (Nat.le_of_ble_eq_true rfl)) dX11_time_3 ⟨Nat.le_of_ble_eq_true rfl, Nat.le_of_ble_eq_true rfl⟩) hS (fun q _ h => hFc q h) (fun q h => hFc q h) (fun q _ h => hFc q h) (fun E9 ce q9 u t H1 locs ht9 hvm hpx hBX hz1 hk1 hS hcell hv9 hcl => ?_) (fun _ _ t H1 locs _ _ hw _ _ _ _ => hw.elim)
  · cases hBX
    exact vx_out (fun x hx => (ht x hx).elim) hlocks hcell hv9 hcl (fun t9 ht9 _ => ⟨(), trivial, rfl, hS.F ht9⟩) hS.2.2 (Nat.le_of_ble_eq_true rfl) (Nat.le_of_ble_eq_true rfl)

def zX11_react_ws : List Cond := .code yX11_react cX11_react 8 (some .boolean) :: ([.methodLink RX11 107 yX11_eventFor, .instanceMethod yX11_eventFor, .selects RX11 yX11_eventFor yX11_eventFor, .initialized RX11] ++ (zX11_eventFor_ws ++ ([])))
theorem zX11_react_ws_good : zX11_react_ws.all goodWord = true := by decide +kernel
set_option maxHeartbeats 4000000 in
set_option maxRecDepth 100000 in
/-- react of games without events: throws -/
theorem c_react (l : Launch) (hst : l.stackTraces = false) (D : va_G) (sz : Nat) (h0 : Nat) (a : Nat → Nat) (x1 x2 x3 x4 : Int32) : vx_Met l yX11_react zX11_react_ws (zR 3 1 6) (zPre [.ref h0, .int x1, .int x2, .int x3, .int x4] D [(h0, .inr (17, zHS a))] [] (fun q : Nat => sz ≤ q) sz) (va_Qi (S := Unit) (fun _ _ => False) (fun _ _ => True) (fun q : Nat => sz ≤ q)) (zThr "java/lang/IndexOutOfBoundsException" (fun q : Nat => sz ≤ q)) 1 6 (fun q : Nat => sz ≤ q) := by
  refine vx_ofW (cc := cX11_react) (maxL := 8) (ret := (some .boolean)) (by decide) rfl ?_
  intro p e s m args below meth c s₁ B hml ht hv
  obtain ⟨rfl, hsz, hP, hK, hD0, hz⟩ := hv
  have hx := B.exec
  have hb := B.bytes
  have hr := B.returns
  have hts := atoms_spec (ws := zX11_react_ws) B.pre
  have hown : s.vm.findClass RX11 = some m.cls := findClass_of_methodNamed B.named
  have hlocks := B.notSynchronized
  subst hsz
  obtain ⟨A, hAe⟩ : ∃ A : Nat → Prop, A = (fun q : Nat => s.heap.size ≤ q) := ⟨_, rfl⟩
  rw [← hAe] at hz ⊢
  have hA : ∀ q : Nat, s.heap.size ≤ q → A q := fun q h => by rw [hAe]; exact h
  have hD := hD0
  have hS : va_S A s.heap s.heap [] := va_S.rf
  have hP : va_P D vwCl [(h0, .inr (17, zHS a))] s.heap := hP
  have hl := lv_entry ([.ref h0, .int x1, .int x2, .int x3, .int x4]) (n := 8) (Nat.le_of_ble_eq_true rfl)
  rw [lg_entry_eq]
  generalize (lg_sl ([.ref h0, .int x1, .int x2, .int x3, .int x4]) ++ List.replicate (8 - (lg_sl ([.ref h0, .int x1, .int x2, .int x3, .int x4])).length) Slot.unset).toArray = ls at hl ⊢
  have hl : lv_has ls 8 [(0, .ref h0), (1, .int x1), (2, .int x2), (3, .int x3), (4, .int x4)] := hl
  refine lv_aload_n hx hb dX11_react_0 rfl (lv_at hl 0 rfl) ?_
  refine lv_iload_n hx hb dX11_react_1 rfl (lv_at hl 1 rfl) ?_
  refine lv_iload_n hx hb dX11_react_2 rfl (lv_at hl 3 rfl) ?_
  have hPc := hP.sub (ws' := [(h0, .inr (17, zHS a))]) [0] rfl
  have hDc := hD.sub (ws' := [(h0, .inr (17, zHS a))]) [0] (by decide) rfl
  have hKc := hK.sub (tys' := []) [] rfl
  have hFc : ∀ q : Nat, s.heap.size ≤ q → A q := fun q h => hA q (Nat.le_trans hS.1 h)
  refine vx_callq (vx_runV (As := [.int x1, .int x3]) (rest := []) ⟨hx, hb, hml, hown, hts⟩ (c_eventFor l hst D s.heap.size h0 a x1 x3) (cwV 2 hts (goodIn_app (goodIn_of _ (by decide +kernel)) (goodIn_sub (fun _ h => List.mem_cons_of_mem _ (List.mem_append_right _ (List.mem_append_left _ h))) zX11_eventFor_ws_good)) rfl rfl rfl (by decide +kernel) ⟨Nat.le_of_ble_eq_true rfl, Nat.le_of_ble_eq_true rfl⟩) ⟨zPre.blind, va_recv hKc hPc (ci := 17) (q0 := 0) rfl rfl, zPre.mk hPc hKc hDc hz hS (fun q h => hFc q h)⟩ rfl rfl hl.1 rfl (lv_room (Nat.le_of_ble_eq_true rfl)) dX11_react_3 ⟨Nat.le_of_ble_eq_true rfl, Nat.le_of_ble_eq_true rfl⟩) hS (fun q _ h => hFc q h) (fun q h => hFc q h) (fun q _ h => hFc q h) (fun E9 ce q9 u t H1 locs ht9 hvm hpx hBX hz1 hk1 hS hcell hv9 hcl => ?_) (fun _ _ t H1 locs _ _ hw _ _ _ _ => hw.elim)
  · cases hBX
    exact vx_out (fun x hx => (ht x hx).elim) hlocks hcell hv9 hcl (fun t9 ht9 _ => ⟨(), trivial, rfl, hS.F ht9⟩) hS.2.2 (Nat.le_of_ble_eq_true rfl) (Nat.le_of_ble_eq_true rfl)

def zX11_putOut_ws : List Cond := .code yX11_putOut cX11_putOut 5 (some .boolean) :: ([.methodLink RX11 161 yX11_raceFor, .instanceMethod yX11_raceFor, .selects RX11 yX11_raceFor yX11_raceFor, .initialized RX11] ++ (zX11_raceFor_ws ++ ([])))
theorem zX11_putOut_ws_good : zX11_putOut_ws.all goodWord = true := by decide +kernel
set_option maxHeartbeats 4000000 in
set_option maxRecDepth 100000 in
/-- putOut of games without events: throws -/
theorem c_putOut (l : Launch) (hst : l.stackTraces = false) (D : va_G) (sz : Nat) (h0 : Nat) (a : Nat → Nat) (x1 x2 x3 : Int32) : vx_Met l yX11_putOut zX11_putOut_ws (zR 3 1 6) (zPre [.ref h0, .int x1, .int x2, .int x3] D [(h0, .inr (17, zHS a))] [] (fun q : Nat => sz ≤ q) sz) (va_Qi (S := Unit) (fun _ _ => False) (fun _ _ => True) (fun q : Nat => sz ≤ q)) (zThr "java/lang/IndexOutOfBoundsException" (fun q : Nat => sz ≤ q)) 1 6 (fun q : Nat => sz ≤ q) := by
  refine vx_ofW (cc := cX11_putOut) (maxL := 5) (ret := (some .boolean)) (by decide) rfl ?_
  intro p e s m args below meth c s₁ B hml ht hv
  obtain ⟨rfl, hsz, hP, hK, hD0, hz⟩ := hv
  have hx := B.exec
  have hb := B.bytes
  have hr := B.returns
  have hts := atoms_spec (ws := zX11_putOut_ws) B.pre
  have hown : s.vm.findClass RX11 = some m.cls := findClass_of_methodNamed B.named
  have hlocks := B.notSynchronized
  subst hsz
  obtain ⟨A, hAe⟩ : ∃ A : Nat → Prop, A = (fun q : Nat => s.heap.size ≤ q) := ⟨_, rfl⟩
  rw [← hAe] at hz ⊢
  have hA : ∀ q : Nat, s.heap.size ≤ q → A q := fun q h => by rw [hAe]; exact h
  have hD := hD0
  have hS : va_S A s.heap s.heap [] := va_S.rf
  have hP : va_P D vwCl [(h0, .inr (17, zHS a))] s.heap := hP
  have hl := lv_entry ([.ref h0, .int x1, .int x2, .int x3]) (n := 5) (Nat.le_of_ble_eq_true rfl)
  rw [lg_entry_eq]
  generalize (lg_sl ([.ref h0, .int x1, .int x2, .int x3]) ++ List.replicate (5 - (lg_sl ([.ref h0, .int x1, .int x2, .int x3])).length) Slot.unset).toArray = ls at hl ⊢
  have hl : lv_has ls 5 [(0, .ref h0), (1, .int x1), (2, .int x2), (3, .int x3)] := hl
  refine lv_aload_n hx hb dX11_putOut_0 rfl (lv_at hl 0 rfl) ?_
  refine lv_iload_n hx hb dX11_putOut_1 rfl (lv_at hl 1 rfl) ?_
  refine lv_iload_n hx hb dX11_putOut_2 rfl (lv_at hl 2 rfl) ?_
  refine lv_iload_n hx hb dX11_putOut_3 rfl (lv_at hl 3 rfl) ?_
  have hPc := hP.sub (ws' := [(h0, .inr (17, zHS a))]) [0] rfl
  have hDc := hD.sub (ws' := [(h0, .inr (17, zHS a))]) [0] (by decide) rfl
  have hKc := hK.sub (tys' := []) [] rfl
  have hFc : ∀ q : Nat, s.heap.size ≤ q → A q := fun q h => hA q (Nat.le_trans hS.1 h)
  refine vx_callq (vx_runV (As := [.int x1, .int x2, .int x3]) (rest := []) ⟨hx, hb, hml, hown, hts⟩ (c_raceFor l hst D s.heap.size h0 a x1 x2 x3) (cwV 3 hts (goodIn_app (goodIn_of _ (by decide +kernel)) (goodIn_sub (fun _ h => List.mem_cons_of_mem _ (List.mem_append_right _ (List.mem_append_left _ h))) zX11_raceFor_ws_good)) rfl rfl rfl (by decide +kernel) ⟨Nat.le_of_ble_eq_true rfl, Nat.le_of_ble_eq_true rfl⟩) ⟨zPre.blind, va_recv hKc hPc (ci := 17) (q0 := 0) rfl rfl, zPre.mk hPc hKc hDc hz hS (fun q h => hFc q h)⟩ rfl rfl hl.1 rfl (lv_room (Nat.le_of_ble_eq_true rfl)) dX11_putOut_4 ⟨Nat.le_of_ble_eq_true rfl, Nat.le_of_ble_eq_true rfl⟩) hS (fun q _ h => hFc q h) (fun q h => hFc q h) (fun q _ h => hFc q h) (fun E9 ce q9 u t H1 locs ht9 hvm hpx hBX hz1 hk1 hS hcell hv9 hcl => ?_) (fun _ _ t H1 locs _ _ hw _ _ _ _ => hw.elim)
  · cases hBX
    exact vx_out (fun x hx => (ht x hx).elim) hlocks hcell hv9 hcl (fun t9 ht9 _ => ⟨(), trivial, rfl, hS.F ht9⟩) hS.2.2 (Nat.le_of_ble_eq_true rfl) (Nat.le_of_ble_eq_true rfl)

def zX11_isOut_ws : List Cond := .code yX11_isOut cX11_isOut 5 (some .boolean) :: ([.methodLink RX11 161 yX11_raceFor, .instanceMethod yX11_raceFor, .selects RX11 yX11_raceFor yX11_raceFor, .initialized RX11] ++ (zX11_raceFor_ws ++ ([])))
theorem zX11_isOut_ws_good : zX11_isOut_ws.all goodWord = true := by decide +kernel
set_option maxHeartbeats 4000000 in
set_option maxRecDepth 100000 in
/-- isOut of games without events: throws -/
theorem c_isOut (l : Launch) (hst : l.stackTraces = false) (D : va_G) (sz : Nat) (h0 : Nat) (a : Nat → Nat) (x1 x2 x3 : Int32) : vx_Met l yX11_isOut zX11_isOut_ws (zR 3 1 6) (zPre [.ref h0, .int x1, .int x2, .int x3] D [(h0, .inr (17, zHS a))] [] (fun q : Nat => sz ≤ q) sz) (va_Qi (S := Unit) (fun _ _ => False) (fun _ _ => True) (fun q : Nat => sz ≤ q)) (zThr "java/lang/IndexOutOfBoundsException" (fun q : Nat => sz ≤ q)) 1 6 (fun q : Nat => sz ≤ q) := by
  refine vx_ofW (cc := cX11_isOut) (maxL := 5) (ret := (some .boolean)) (by decide) rfl ?_
  intro p e s m args below meth c s₁ B hml ht hv
  obtain ⟨rfl, hsz, hP, hK, hD0, hz⟩ := hv
  have hx := B.exec
  have hb := B.bytes
  have hr := B.returns
  have hts := atoms_spec (ws := zX11_isOut_ws) B.pre
  have hown : s.vm.findClass RX11 = some m.cls := findClass_of_methodNamed B.named
  have hlocks := B.notSynchronized
  subst hsz
  obtain ⟨A, hAe⟩ : ∃ A : Nat → Prop, A = (fun q : Nat => s.heap.size ≤ q) := ⟨_, rfl⟩
  rw [← hAe] at hz ⊢
  have hA : ∀ q : Nat, s.heap.size ≤ q → A q := fun q h => by rw [hAe]; exact h
  have hD := hD0
  have hS : va_S A s.heap s.heap [] := va_S.rf
  have hP : va_P D vwCl [(h0, .inr (17, zHS a))] s.heap := hP
  have hl := lv_entry ([.ref h0, .int x1, .int x2, .int x3]) (n := 5) (Nat.le_of_ble_eq_true rfl)
  rw [lg_entry_eq]
  generalize (lg_sl ([.ref h0, .int x1, .int x2, .int x3]) ++ List.replicate (5 - (lg_sl ([.ref h0, .int x1, .int x2, .int x3])).length) Slot.unset).toArray = ls at hl ⊢
  have hl : lv_has ls 5 [(0, .ref h0), (1, .int x1), (2, .int x2), (3, .int x3)] := hl
  refine lv_aload_n hx hb dX11_isOut_0 rfl (lv_at hl 0 rfl) ?_
  refine lv_iload_n hx hb dX11_isOut_1 rfl (lv_at hl 1 rfl) ?_
  refine lv_iload_n hx hb dX11_isOut_2 rfl (lv_at hl 2 rfl) ?_
  refine lv_iload_n hx hb dX11_isOut_3 rfl (lv_at hl 3 rfl) ?_
  have hPc := hP.sub (ws' := [(h0, .inr (17, zHS a))]) [0] rfl
  have hDc := hD.sub (ws' := [(h0, .inr (17, zHS a))]) [0] (by decide) rfl
  have hKc := hK.sub (tys' := []) [] rfl
  have hFc : ∀ q : Nat, s.heap.size ≤ q → A q := fun q h => hA q (Nat.le_trans hS.1 h)
  refine vx_callq (vx_runV (As := [.int x1, .int x2, .int x3]) (rest := []) ⟨hx, hb, hml, hown, hts⟩ (c_raceFor l hst D s.heap.size h0 a x1 x2 x3) (cwV 3 hts (goodIn_app (goodIn_of _ (by decide +kernel)) (goodIn_sub (fun _ h => List.mem_cons_of_mem _ (List.mem_append_right _ (List.mem_append_left _ h))) zX11_raceFor_ws_good)) rfl rfl rfl (by decide +kernel) ⟨Nat.le_of_ble_eq_true rfl, Nat.le_of_ble_eq_true rfl⟩) ⟨zPre.blind, va_recv hKc hPc (ci := 17) (q0 := 0) rfl rfl, zPre.mk hPc hKc hDc hz hS (fun q h => hFc q h)⟩ rfl rfl hl.1 rfl (lv_room (Nat.le_of_ble_eq_true rfl)) dX11_isOut_4 ⟨Nat.le_of_ble_eq_true rfl, Nat.le_of_ble_eq_true rfl⟩) hS (fun q _ h => hFc q h) (fun q h => hFc q h) (fun q _ h => hFc q h) (fun E9 ce q9 u t H1 locs ht9 hvm hpx hBX hz1 hk1 hS hcell hv9 hcl => ?_) (fun _ _ t H1 locs _ _ hw _ _ _ _ => hw.elim)
  · cases hBX
    exact vx_out (fun x hx => (ht x hx).elim) hlocks hcell hv9 hcl (fun t9 ht9 _ => ⟨(), trivial, rfl, hS.F ht9⟩) hS.2.2 (Nat.le_of_ble_eq_true rfl) (Nat.le_of_ble_eq_true rfl)

def zX11_inFinal_ws : List Cond := .code yX11_inFinal cX11_inFinal 4 (some .int) :: ([.methodLink RX11 130 yX11_eventAt, .instanceMethod yX11_eventAt, .selects RX11 yX11_eventAt yX11_eventAt, .initialized RX11] ++ (zX11_eventAt_ws ++ ([])))
theorem zX11_inFinal_ws_good : zX11_inFinal_ws.all goodWord = true := by decide +kernel
set_option maxHeartbeats 4000000 in
set_option maxRecDepth 100000 in
/-- inFinal of games without events: throws -/
theorem c_inFinal (l : Launch) (hst : l.stackTraces = false) (D : va_G) (sz : Nat) (h0 : Nat) (a : Nat → Nat) (x1 x2 : Int32) : vx_Met l yX11_inFinal zX11_inFinal_ws (zR 3 1 6) (zPre [.ref h0, .int x1, .int x2] D [(h0, .inr (17, zHS a))] [] (fun q : Nat => sz ≤ q) sz) (va_Qi (S := Unit) (fun _ _ => False) (fun _ _ => True) (fun q : Nat => sz ≤ q)) (zThr "java/lang/IndexOutOfBoundsException" (fun q : Nat => sz ≤ q)) 1 6 (fun q : Nat => sz ≤ q) := by
  refine vx_ofW (cc := cX11_inFinal) (maxL := 4) (ret := (some .int)) (by decide) rfl ?_
  intro p e s m args below meth c s₁ B hml ht hv
  obtain ⟨rfl, hsz, hP, hK, hD0, hz⟩ := hv
  have hx := B.exec
  have hb := B.bytes
  have hr := B.returns
  have hts := atoms_spec (ws := zX11_inFinal_ws) B.pre
  have hown : s.vm.findClass RX11 = some m.cls := findClass_of_methodNamed B.named
  have hlocks := B.notSynchronized
  subst hsz
  obtain ⟨A, hAe⟩ : ∃ A : Nat → Prop, A = (fun q : Nat => s.heap.size ≤ q) := ⟨_, rfl⟩
  rw [← hAe] at hz ⊢
  have hA : ∀ q : Nat, s.heap.size ≤ q → A q := fun q h => by rw [hAe]; exact h
  have hD := hD0
  have hS : va_S A s.heap s.heap [] := va_S.rf
  have hP : va_P D vwCl [(h0, .inr (17, zHS a))] s.heap := hP
  have hl := lv_entry ([.ref h0, .int x1, .int x2]) (n := 4) (Nat.le_of_ble_eq_true rfl)
  rw [lg_entry_eq]
  generalize (lg_sl ([.ref h0, .int x1, .int x2]) ++ List.replicate (4 - (lg_sl ([.ref h0, .int x1, .int x2])).length) Slot.unset).toArray = ls at hl ⊢
  have hl : lv_has ls 4 [(0, .ref h0), (1, .int x1), (2, .int x2)] := hl
  refine lv_aload_n hx hb dX11_inFinal_0 rfl (lv_at hl 0 rfl) ?_
  refine lv_iload_n hx hb dX11_inFinal_1 rfl (lv_at hl 1 rfl) ?_
  have hPc := hP.sub (ws' := [(h0, .inr (17, zHS a))]) [0] rfl
  have hDc := hD.sub (ws' := [(h0, .inr (17, zHS a))]) [0] (by decide) rfl
  have hKc := hK.sub (tys' := []) [] rfl
  have hFc : ∀ q : Nat, s.heap.size ≤ q → A q := fun q h => hA q (Nat.le_trans hS.1 h)
  refine vx_callq (vx_runV (As := [.int x1]) (rest := []) ⟨hx, hb, hml, hown, hts⟩ (c_eventAt l hst D s.heap.size h0 a x1) (cwV 1 hts (goodIn_app (goodIn_of _ (by decide +kernel)) (goodIn_sub (fun _ h => List.mem_cons_of_mem _ (List.mem_append_right _ (List.mem_append_left _ h))) zX11_eventAt_ws_good)) rfl rfl rfl (by decide +kernel) ⟨Nat.le_of_ble_eq_true rfl, Nat.le_of_ble_eq_true rfl⟩) ⟨zPre.blind, va_recv hKc hPc (ci := 17) (q0 := 0) rfl rfl, zPre.mk hPc hKc hDc hz hS (fun q h => hFc q h)⟩ rfl rfl hl.1 rfl (lv_room (Nat.le_of_ble_eq_true rfl)) dX11_inFinal_2 ⟨Nat.le_of_ble_eq_true rfl, Nat.le_of_ble_eq_true rfl⟩) hS (fun q _ h => hFc q h) (fun q h => hFc q h) (fun q _ h => hFc q h) (fun E9 ce q9 u t H1 locs ht9 hvm hpx hBX hz1 hk1 hS hcell hv9 hcl => ?_) (fun _ _ t H1 locs _ _ hw _ _ _ _ => hw.elim)
  · cases hBX
    exact vx_out (fun x hx => (ht x hx).elim) hlocks hcell hv9 hcl (fun t9 ht9 _ => ⟨(), trivial, rfl, hS.F ht9⟩) hS.2.2 (Nat.le_of_ble_eq_true rfl) (Nat.le_of_ble_eq_true rfl)

def zX11_bar_ws : List Cond := .code yX11_bar cX11_bar 6 (some .int) :: ([.methodLink RX11 130 yX11_eventAt, .instanceMethod yX11_eventAt, .selects RX11 yX11_eventAt yX11_eventAt, .initialized RX11] ++ (zX11_eventAt_ws ++ ([])))
theorem zX11_bar_ws_good : zX11_bar_ws.all goodWord = true := by decide +kernel
set_option maxHeartbeats 4000000 in
set_option maxRecDepth 100000 in
/-- bar of games without events: throws -/
theorem c_bar (l : Launch) (hst : l.stackTraces = false) (D : va_G) (sz : Nat) (h0 : Nat) (a : Nat → Nat) (x1 x2 : Int32) : vx_Met l yX11_bar zX11_bar_ws (zR 3 1 6) (zPre [.ref h0, .int x1, .int x2] D [(h0, .inr (17, zHS a))] [] (fun q : Nat => sz ≤ q) sz) (va_Qi (S := Unit) (fun _ _ => False) (fun _ _ => True) (fun q : Nat => sz ≤ q)) (zThr "java/lang/IndexOutOfBoundsException" (fun q : Nat => sz ≤ q)) 1 6 (fun q : Nat => sz ≤ q) := by
  refine vx_ofW (cc := cX11_bar) (maxL := 6) (ret := (some .int)) (by decide) rfl ?_
  intro p e s m args below meth c s₁ B hml ht hv
  obtain ⟨rfl, hsz, hP, hK, hD0, hz⟩ := hv
  have hx := B.exec
  have hb := B.bytes
  have hr := B.returns
  have hts := atoms_spec (ws := zX11_bar_ws) B.pre
  have hown : s.vm.findClass RX11 = some m.cls := findClass_of_methodNamed B.named
  have hlocks := B.notSynchronized
  subst hsz
  obtain ⟨A, hAe⟩ : ∃ A : Nat → Prop, A = (fun q : Nat => s.heap.size ≤ q) := ⟨_, rfl⟩
  rw [← hAe] at hz ⊢
  have hA : ∀ q : Nat, s.heap.size ≤ q → A q := fun q h => by rw [hAe]; exact h
  have hD := hD0
  have hS : va_S A s.heap s.heap [] := va_S.rf
  have hP : va_P D vwCl [(h0, .inr (17, zHS a))] s.heap := hP
  have hl := lv_entry ([.ref h0, .int x1, .int x2]) (n := 6) (Nat.le_of_ble_eq_true rfl)
  rw [lg_entry_eq]
  generalize (lg_sl ([.ref h0, .int x1, .int x2]) ++ List.replicate (6 - (lg_sl ([.ref h0, .int x1, .int x2])).length) Slot.unset).toArray = ls at hl ⊢
  have hl : lv_has ls 6 [(0, .ref h0), (1, .int x1), (2, .int x2)] := hl
  refine lv_aload_n hx hb dX11_bar_0 rfl (lv_at hl 0 rfl) ?_
  refine lv_iload_n hx hb dX11_bar_1 rfl (lv_at hl 1 rfl) ?_
  have hPc := hP.sub (ws' := [(h0, .inr (17, zHS a))]) [0] rfl
  have hDc := hD.sub (ws' := [(h0, .inr (17, zHS a))]) [0] (by decide) rfl
  have hKc := hK.sub (tys' := []) [] rfl
  have hFc : ∀ q : Nat, s.heap.size ≤ q → A q := fun q h => hA q (Nat.le_trans hS.1 h)
  refine vx_callq (vx_runV (As := [.int x1]) (rest := []) ⟨hx, hb, hml, hown, hts⟩ (c_eventAt l hst D s.heap.size h0 a x1) (cwV 1 hts (goodIn_app (goodIn_of _ (by decide +kernel)) (goodIn_sub (fun _ h => List.mem_cons_of_mem _ (List.mem_append_right _ (List.mem_append_left _ h))) zX11_eventAt_ws_good)) rfl rfl rfl (by decide +kernel) ⟨Nat.le_of_ble_eq_true rfl, Nat.le_of_ble_eq_true rfl⟩) ⟨zPre.blind, va_recv hKc hPc (ci := 17) (q0 := 0) rfl rfl, zPre.mk hPc hKc hDc hz hS (fun q h => hFc q h)⟩ rfl rfl hl.1 rfl (lv_room (Nat.le_of_ble_eq_true rfl)) dX11_bar_2 ⟨Nat.le_of_ble_eq_true rfl, Nat.le_of_ble_eq_true rfl⟩) hS (fun q _ h => hFc q h) (fun q h => hFc q h) (fun q _ h => hFc q h) (fun E9 ce q9 u t H1 locs ht9 hvm hpx hBX hz1 hk1 hS hcell hv9 hcl => ?_) (fun _ _ t H1 locs _ _ hw _ _ _ _ => hw.elim)
  · cases hBX
    exact vx_out (fun x hx => (ht x hx).elim) hlocks hcell hv9 hcl (fun t9 ht9 _ => ⟨(), trivial, rfl, hS.F ht9⟩) hS.2.2 (Nat.le_of_ble_eq_true rfl) (Nat.le_of_ble_eq_true rfl)

def zX11_jump_ws : List Cond := .code yX11_jump cX11_jump 6 (some .int) :: ([.methodLink RX11 107 yX11_eventFor, .instanceMethod yX11_eventFor, .selects RX11 yX11_eventFor yX11_eventFor, .initialized RX11] ++ (zX11_eventFor_ws ++ ([])))
theorem zX11_jump_ws_good : zX11_jump_ws.all goodWord = true := by decide +kernel
set_option maxHeartbeats 4000000 in
set_option maxRecDepth 100000 in
/-- jump of games without events: throws -/
theorem c_jump (l : Launch) (hst : l.stackTraces = false) (D : va_G) (sz : Nat) (h0 : Nat) (a : Nat → Nat) (x1 x2 x3 : Int32) : vx_Met l yX11_jump zX11_jump_ws (zR 3 1 6) (zPre [.ref h0, .int x1, .int x2, .int x3] D [(h0, .inr (17, zHS a))] [] (fun q : Nat => sz ≤ q) sz) (va_Qi (S := Unit) (fun _ _ => False) (fun _ _ => True) (fun q : Nat => sz ≤ q)) (zThr "java/lang/IndexOutOfBoundsException" (fun q : Nat => sz ≤ q)) 1 6 (fun q : Nat => sz ≤ q) := by
  refine vx_ofW (cc := cX11_jump) (maxL := 6) (ret := (some .int)) (by decide) rfl ?_
  intro p e s m args below meth c s₁ B hml ht hv
  obtain ⟨rfl, hsz, hP, hK, hD0, hz⟩ := hv
  have hx := B.exec
  have hb := B.bytes
  have hr := B.returns
  have hts := atoms_spec (ws := zX11_jump_ws) B.pre
  have hown : s.vm.findClass RX11 = some m.cls := findClass_of_methodNamed B.named
  have hlocks := B.notSynchronized
  subst hsz
  obtain ⟨A, hAe⟩ : ∃ A : Nat → Prop, A = (fun q : Nat => s.heap.size ≤ q) := ⟨_, rfl⟩
  rw [← hAe] at hz ⊢
  have hA : ∀ q : Nat, s.heap.size ≤ q → A q := fun q h => by rw [hAe]; exact h
  have hD := hD0
  have hS : va_S A s.heap s.heap [] := va_S.rf
  have hP : va_P D vwCl [(h0, .inr (17, zHS a))] s.heap := hP
  have hl := lv_entry ([.ref h0, .int x1, .int x2, .int x3]) (n := 6) (Nat.le_of_ble_eq_true rfl)
  rw [lg_entry_eq]
  generalize (lg_sl ([.ref h0, .int x1, .int x2, .int x3]) ++ List.replicate (6 - (lg_sl ([.ref h0, .int x1, .int x2, .int x3])).length) Slot.unset).toArray = ls at hl ⊢
  have hl : lv_has ls 6 [(0, .ref h0), (1, .int x1), (2, .int x2), (3, .int x3)] := hl
  refine lv_aload_n hx hb dX11_jump_0 rfl (lv_at hl 0 rfl) ?_
  refine lv_iload_n hx hb dX11_jump_1 rfl (lv_at hl 1 rfl) ?_
  refine lv_iload_n hx hb dX11_jump_2 rfl (lv_at hl 2 rfl) ?_
  have hPc := hP.sub (ws' := [(h0, .inr (17, zHS a))]) [0] rfl
  have hDc := hD.sub (ws' := [(h0, .inr (17, zHS a))]) [0] (by decide) rfl
  have hKc := hK.sub (tys' := []) [] rfl
  have hFc : ∀ q : Nat, s.heap.size ≤ q → A q := fun q h => hA q (Nat.le_trans hS.1 h)
  refine vx_callq (vx_runV (As := [.int x1, .int x2]) (rest := []) ⟨hx, hb, hml, hown, hts⟩ (c_eventFor l hst D s.heap.size h0 a x1 x2) (cwV 2 hts (goodIn_app (goodIn_of _ (by decide +kernel)) (goodIn_sub (fun _ h => List.mem_cons_of_mem _ (List.mem_append_right _ (List.mem_append_left _ h))) zX11_eventFor_ws_good)) rfl rfl rfl (by decide +kernel) ⟨Nat.le_of_ble_eq_true rfl, Nat.le_of_ble_eq_true rfl⟩) ⟨zPre.blind, va_recv hKc hPc (ci := 17) (q0 := 0) rfl rfl, zPre.mk hPc hKc hDc hz hS (fun q h => hFc q h)⟩ rfl rfl hl.1 rfl (lv_room (Nat.le_of_ble_eq_true rfl)) dX11_jump_3 ⟨Nat.le_of_ble_eq_true rfl, Nat.le_of_ble_eq_true rfl⟩) hS (fun q _ h => hFc q h) (fun q h => hFc q h) (fun q _ h => hFc q h) (fun E9 ce q9 u t H1 locs ht9 hvm hpx hBX hz1 hk1 hS hcell hv9 hcl => ?_) (fun _ _ t H1 locs _ _ hw _ _ _ _ => hw.elim)
  · cases hBX
    exact vx_out (fun x hx => (ht x hx).elim) hlocks hcell hv9 hcl (fun t9 ht9 _ => ⟨(), trivial, rfl, hS.F ht9⟩) hS.2.2 (Nat.le_of_ble_eq_true rfl) (Nat.le_of_ble_eq_true rfl)

def zX11_put_ws : List Cond := .code yX11_put cX11_put 7 (some .int) :: ([.methodLink RX11 107 yX11_eventFor, .instanceMethod yX11_eventFor, .selects RX11 yX11_eventFor yX11_eventFor, .initialized RX11] ++ (zX11_eventFor_ws ++ ([])))
theorem zX11_put_ws_good : zX11_put_ws.all goodWord = true := by decide +kernel
set_option maxHeartbeats 4000000 in
set_option maxRecDepth 100000 in
/-- put of games without events: throws -/
theorem c_put (l : Launch) (hst : l.stackTraces = false) (D : va_G) (sz : Nat) (h0 : Nat) (a : Nat → Nat) (x1 x2 x3 : Int32) : vx_Met l yX11_put zX11_put_ws (zR 3 1 6) (zPre [.ref h0, .int x1, .int x2, .int x3] D [(h0, .inr (17, zHS a))] [] (fun q : Nat => sz ≤ q) sz) (va_Qi (S := Unit) (fun _ _ => False) (fun _ _ => True) (fun q : Nat => sz ≤ q)) (zThr "java/lang/IndexOutOfBoundsException" (fun q : Nat => sz ≤ q)) 1 6 (fun q : Nat => sz ≤ q) := by
  refine vx_ofW (cc := cX11_put) (maxL := 7) (ret := (some .int)) (by decide) rfl ?_
  intro p e s m args below meth c s₁ B hml ht hv
  obtain ⟨rfl, hsz, hP, hK, hD0, hz⟩ := hv
  have hx := B.exec
  have hb := B.bytes
  have hr := B.returns
  have hts := atoms_spec (ws := zX11_put_ws) B.pre
  have hown : s.vm.findClass RX11 = some m.cls := findClass_of_methodNamed B.named
  have hlocks := B.notSynchronized
  subst hsz
  obtain ⟨A, hAe⟩ : ∃ A : Nat → Prop, A = (fun q : Nat => s.heap.size ≤ q) := ⟨_, rfl⟩
  rw [← hAe] at hz ⊢
  have hA : ∀ q : Nat, s.heap.size ≤ q → A q := fun q h => by rw [hAe]; exact h
  have hD := hD0
  have hS : va_S A s.heap s.heap [] := va_S.rf
  have hP : va_P D vwCl [(h0, .inr (17, zHS a))] s.heap := hP
  have hl := lv_entry ([.ref h0, .int x1, .int x2, .int x3]) (n := 7) (Nat.le_of_ble_eq_true rfl)
  rw [lg_entry_eq]
  generalize (lg_sl ([.ref h0, .int x1, .int x2, .int x3]) ++ List.replicate (7 - (lg_sl ([.ref h0, .int x1, .int x2, .int x3])).length) Slot.unset).toArray = ls at hl ⊢
  have hl : lv_has ls 7 [(0, .ref h0), (1, .int x1), (2, .int x2), (3, .int x3)] := hl
  refine lv_aload_n hx hb dX11_put_0 rfl (lv_at hl 0 rfl) ?_
  refine lv_iload_n hx hb dX11_put_1 rfl (lv_at hl 1 rfl) ?_
  refine lv_iload_n hx hb dX11_put_2 rfl (lv_at hl 2 rfl) ?_
  have hPc := hP.sub (ws' := [(h0, .inr (17, zHS a))]) [0] rfl
  have hDc := hD.sub (ws' := [(h0, .inr (17, zHS a))]) [0] (by decide) rfl
  have hKc := hK.sub (tys' := []) [] rfl
  have hFc : ∀ q : Nat, s.heap.size ≤ q → A q := fun q h => hA q (Nat.le_trans hS.1 h)
  refine vx_callq (vx_runV (As := [.int x1, .int x2]) (rest := []) ⟨hx, hb, hml, hown, hts⟩ (c_eventFor l hst D s.heap.size h0 a x1 x2) (cwV 2 hts (goodIn_app (goodIn_of _ (by decide +kernel)) (goodIn_sub (fun _ h => List.mem_cons_of_mem _ (List.mem_append_right _ (List.mem_append_left _ h))) zX11_eventFor_ws_good)) rfl rfl rfl (by decide +kernel) ⟨Nat.le_of_ble_eq_true rfl, Nat.le_of_ble_eq_true rfl⟩) ⟨zPre.blind, va_recv hKc hPc (ci := 17) (q0 := 0) rfl rfl, zPre.mk hPc hKc hDc hz hS (fun q h => hFc q h)⟩ rfl rfl hl.1 rfl (lv_room (Nat.le_of_ble_eq_true rfl)) dX11_put_3 ⟨Nat.le_of_ble_eq_true rfl, Nat.le_of_ble_eq_true rfl⟩) hS (fun q _ h => hFc q h) (fun q h => hFc q h) (fun q _ h => hFc q h) (fun E9 ce q9 u t H1 locs ht9 hvm hpx hBX hz1 hk1 hS hcell hv9 hcl => ?_) (fun _ _ t H1 locs _ _ hw _ _ _ _ => hw.elim)
  · cases hBX
    exact vx_out (fun x hx => (ht x hx).elim) hlocks hcell hv9 hcl (fun t9 ht9 _ => ⟨(), trivial, rfl, hS.F ht9⟩) hS.2.2 (Nat.le_of_ble_eq_true rfl) (Nat.le_of_ble_eq_true rfl)

def zX11_rankOf_ws : List Cond := .code yX11_rankOf cX11_rankOf 3 (some .int) :: ([.methodLink RX11 107 yX11_eventFor, .instanceMethod yX11_eventFor, .selects RX11 yX11_eventFor yX11_eventFor, .initialized RX11] ++ (zX11_eventFor_ws ++ ([])))
theorem zX11_rankOf_ws_good : zX11_rankOf_ws.all goodWord = true := by decide +kernel
set_option maxHeartbeats 4000000 in
set_option maxRecDepth 100000 in
/-- rankOf of games without events: throws -/
theorem c_rankOf (l : Launch) (hst : l.stackTraces = false) (D : va_G) (sz : Nat) (h0 : Nat) (a : Nat → Nat) (x1 x2 : Int32) : vx_Met l yX11_rankOf zX11_rankOf_ws (zR 3 1 6) (zPre [.ref h0, .int x1, .int x2] D [(h0, .inr (17, zHS a))] [] (fun q : Nat => sz ≤ q) sz) (va_Qi (S := Unit) (fun _ _ => False) (fun _ _ => True) (fun q : Nat => sz ≤ q)) (zThr "java/lang/IndexOutOfBoundsException" (fun q : Nat => sz ≤ q)) 1 6 (fun q : Nat => sz ≤ q) := by
  refine vx_ofW (cc := cX11_rankOf) (maxL := 3) (ret := (some .int)) (by decide) rfl ?_
  intro p e s m args below meth c s₁ B hml ht hv
  obtain ⟨rfl, hsz, hP, hK, hD0, hz⟩ := hv
  have hx := B.exec
  have hb := B.bytes
  have hr := B.returns
  have hts := atoms_spec (ws := zX11_rankOf_ws) B.pre
  have hown : s.vm.findClass RX11 = some m.cls := findClass_of_methodNamed B.named
  have hlocks := B.notSynchronized
  subst hsz
  obtain ⟨A, hAe⟩ : ∃ A : Nat → Prop, A = (fun q : Nat => s.heap.size ≤ q) := ⟨_, rfl⟩
  rw [← hAe] at hz ⊢
  have hA : ∀ q : Nat, s.heap.size ≤ q → A q := fun q h => by rw [hAe]; exact h
  have hD := hD0
  have hS : va_S A s.heap s.heap [] := va_S.rf
  have hP : va_P D vwCl [(h0, .inr (17, zHS a))] s.heap := hP
  have hl := lv_entry ([.ref h0, .int x1, .int x2]) (n := 3) (Nat.le_of_ble_eq_true rfl)
  rw [lg_entry_eq]
  generalize (lg_sl ([.ref h0, .int x1, .int x2]) ++ List.replicate (3 - (lg_sl ([.ref h0, .int x1, .int x2])).length) Slot.unset).toArray = ls at hl ⊢
  have hl : lv_has ls 3 [(0, .ref h0), (1, .int x1), (2, .int x2)] := hl
  refine lv_aload_n hx hb dX11_rankOf_0 rfl (lv_at hl 0 rfl) ?_
  refine lv_aload_n hx hb dX11_rankOf_1 rfl (lv_at hl 0 rfl) ?_
  refine lv_iload_n hx hb dX11_rankOf_2 rfl (lv_at hl 1 rfl) ?_
  refine lv_iload_n hx hb dX11_rankOf_3 rfl (lv_at hl 2 rfl) ?_
  have hPc := hP.sub (ws' := [(h0, .inr (17, zHS a))]) [0] rfl
  have hDc := hD.sub (ws' := [(h0, .inr (17, zHS a))]) [0] (by decide) rfl
  have hKc := hK.sub (tys' := []) [] rfl
  have hFc : ∀ q : Nat, s.heap.size ≤ q → A q := fun q h => hA q (Nat.le_trans hS.1 h)
  refine vx_callq (vx_runV (As := [.int x1, .int x2]) (rest := [.ref h0]) ⟨hx, hb, hml, hown, hts⟩ (c_eventFor l hst D s.heap.size h0 a x1 x2) (cwV 2 hts (goodIn_app (goodIn_of _ (by decide +kernel)) (goodIn_sub (fun _ h => List.mem_cons_of_mem _ (List.mem_append_right _ (List.mem_append_left _ h))) zX11_eventFor_ws_good)) rfl rfl rfl (by decide +kernel) ⟨Nat.le_of_ble_eq_true rfl, Nat.le_of_ble_eq_true rfl⟩) ⟨zPre.blind, va_recv hKc hPc (ci := 17) (q0 := 0) rfl rfl, zPre.mk hPc hKc hDc hz hS (fun q h => hFc q h)⟩ rfl rfl hl.1 rfl (lv_room (Nat.le_of_ble_eq_true rfl)) dX11_rankOf_4 ⟨Nat.le_of_ble_eq_true rfl, Nat.le_of_ble_eq_true rfl⟩) hS (fun q _ h => hFc q h) (fun q h => hFc q h) (fun q _ h => hFc q h) (fun E9 ce q9 u t H1 locs ht9 hvm hpx hBX hz1 hk1 hS hcell hv9 hcl => ?_) (fun _ _ t H1 locs _ _ hw _ _ _ _ => hw.elim)
  · cases hBX
    exact vx_out (fun x hx => (ht x hx).elim) hlocks hcell hv9 hcl (fun t9 ht9 _ => ⟨(), trivial, rfl, hS.F ht9⟩) hS.2.2 (Nat.le_of_ble_eq_true rfl) (Nat.le_of_ble_eq_true rfl)

def zX11_resultOf_ws : List Cond := .code yX11_resultOf cX11_resultOf 4 (some .int) :: ([.methodLink RX11 107 yX11_eventFor, .instanceMethod yX11_eventFor, .selects RX11 yX11_eventFor yX11_eventFor, .initialized RX11] ++ (zX11_eventFor_ws ++ ([])))
theorem zX11_resultOf_ws_good : zX11_resultOf_ws.all goodWord = true := by decide +kernel
set_option maxHeartbeats 4000000 in
set_option maxRecDepth 100000 in
/-- resultOf of games without events: throws -/
theorem c_resultOf (l : Launch) (hst : l.stackTraces = false) (D : va_G) (sz : Nat) (h0 : Nat) (a : Nat → Nat) (x1 x2 : Int32) : vx_Met l yX11_resultOf zX11_resultOf_ws (zR 3 1 6) (zPre [.ref h0, .int x1, .int x2] D [(h0, .inr (17, zHS a))] [] (fun q : Nat => sz ≤ q) sz) (va_Qi (S := Unit) (fun _ _ => False) (fun _ _ => True) (fun q : Nat => sz ≤ q)) (zThr "java/lang/IndexOutOfBoundsException" (fun q : Nat => sz ≤ q)) 1 6 (fun q : Nat => sz ≤ q) := by
  refine vx_ofW (cc := cX11_resultOf) (maxL := 4) (ret := (some .int)) (by decide) rfl ?_
  intro p e s m args below meth c s₁ B hml ht hv
  obtain ⟨rfl, hsz, hP, hK, hD0, hz⟩ := hv
  have hx := B.exec
  have hb := B.bytes
  have hr := B.returns
  have hts := atoms_spec (ws := zX11_resultOf_ws) B.pre
  have hown : s.vm.findClass RX11 = some m.cls := findClass_of_methodNamed B.named
  have hlocks := B.notSynchronized
  subst hsz
  obtain ⟨A, hAe⟩ : ∃ A : Nat → Prop, A = (fun q : Nat => s.heap.size ≤ q) := ⟨_, rfl⟩
  rw [← hAe] at hz ⊢
  have hA : ∀ q : Nat, s.heap.size ≤ q → A q := fun q h => by rw [hAe]; exact h
  have hD := hD0
  have hS : va_S A s.heap s.heap [] := va_S.rf
  have hP : va_P D vwCl [(h0, .inr (17, zHS a))] s.heap := hP
  have hl := lv_entry ([.ref h0, .int x1, .int x2]) (n := 4) (Nat.le_of_ble_eq_true rfl)
  rw [lg_entry_eq]
  generalize (lg_sl ([.ref h0, .int x1, .int x2]) ++ List.replicate (4 - (lg_sl ([.ref h0, .int x1, .int x2])).length) Slot.unset).toArray = ls at hl ⊢
  have hl : lv_has ls 4 [(0, .ref h0), (1, .int x1), (2, .int x2)] := hl
  refine lv_aload_n hx hb dX11_resultOf_0 rfl (lv_at hl 0 rfl) ?_
  refine lv_iload_n hx hb dX11_resultOf_1 rfl (lv_at hl 1 rfl) ?_
  refine lv_iload_n hx hb dX11_resultOf_2 rfl (lv_at hl 2 rfl) ?_
  have hPc := hP.sub (ws' := [(h0, .inr (17, zHS a))]) [0] rfl
  have hDc := hD.sub (ws' := [(h0, .inr (17, zHS a))]) [0] (by decide) rfl
  have hKc := hK.sub (tys' := []) [] rfl
  have hFc : ∀ q : Nat, s.heap.size ≤ q → A q := fun q h => hA q (Nat.le_trans hS.1 h)
  refine vx_callq (vx_runV (As := [.int x1, .int x2]) (rest := []) ⟨hx, hb, hml, hown, hts⟩ (c_eventFor l hst D s.heap.size h0 a x1 x2) (cwV 2 hts (goodIn_app (goodIn_of _ (by decide +kernel)) (goodIn_sub (fun _ h => List.mem_cons_of_mem _ (List.mem_append_right _ (List.mem_append_left _ h))) zX11_eventFor_ws_good)) rfl rfl rfl (by decide +kernel) ⟨Nat.le_of_ble_eq_true rfl, Nat.le_of_ble_eq_true rfl⟩) ⟨zPre.blind, va_recv hKc hPc (ci := 17) (q0 := 0) rfl rfl, zPre.mk hPc hKc hDc hz hS (fun q h => hFc q h)⟩ rfl rfl hl.1 rfl (lv_room (Nat.le_of_ble_eq_true rfl)) dX11_resultOf_3 ⟨Nat.le_of_ble_eq_true rfl, Nat.le_of_ble_eq_true rfl⟩) hS (fun q _ h => hFc q h) (fun q h => hFc q h) (fun q _ h => hFc q h) (fun E9 ce q9 u t H1 locs ht9 hvm hpx hBX hz1 hk1 hS hcell hv9 hcl => ?_) (fun _ _ t H1 locs _ _ hw _ _ _ _ => hw.elim)
  · cases hBX
    exact vx_out (fun x hx => (ht x hx).elim) hlocks hcell hv9 hcl (fun t9 ht9 _ => ⟨(), trivial, rfl, hS.F ht9⟩) hS.2.2 (Nat.le_of_ble_eq_true rfl) (Nat.le_of_ble_eq_true rfl)

def zX11_protest_ws : List Cond := .code yX11_protest cX11_protest 6 (some .int) :: ([.methodLink RX11 161 yX11_raceFor, .instanceMethod yX11_raceFor, .selects RX11 yX11_raceFor yX11_raceFor, .initialized RX11] ++ (zX11_raceFor_ws ++ ([])))
theorem zX11_protest_ws_good : zX11_protest_ws.all goodWord = true := by decide +kernel
set_option maxHeartbeats 4000000 in
set_option maxRecDepth 100000 in
/-- protest of games without events: throws -/
theorem c_protest (l : Launch) (hst : l.stackTraces = false) (D : va_G) (sz : Nat) (h0 : Nat) (a : Nat → Nat) (x1 x2 x3 : Int32) : vx_Met l yX11_protest zX11_protest_ws (zR 3 1 6) (zPre [.ref h0, .int x1, .int x2, .int x3] D [(h0, .inr (17, zHS a))] [] (fun q : Nat => sz ≤ q) sz) (va_Qi (S := Unit) (fun _ _ => False) (fun _ _ => True) (fun q : Nat => sz ≤ q)) (zThr "java/lang/IndexOutOfBoundsException" (fun q : Nat => sz ≤ q)) 1 6 (fun q : Nat => sz ≤ q) := by
  refine vx_ofW (cc := cX11_protest) (maxL := 6) (ret := (some .int)) (by decide) rfl ?_
  intro p e s m args below meth c s₁ B hml ht hv
  obtain ⟨rfl, hsz, hP, hK, hD0, hz⟩ := hv
  have hx := B.exec
  have hb := B.bytes
  have hr := B.returns
  have hts := atoms_spec (ws := zX11_protest_ws) B.pre
  have hown : s.vm.findClass RX11 = some m.cls := findClass_of_methodNamed B.named
  have hlocks := B.notSynchronized
  subst hsz
  obtain ⟨A, hAe⟩ : ∃ A : Nat → Prop, A = (fun q : Nat => s.heap.size ≤ q) := ⟨_, rfl⟩
  rw [← hAe] at hz ⊢
  have hA : ∀ q : Nat, s.heap.size ≤ q → A q := fun q h => by rw [hAe]; exact h
  have hD := hD0
  have hS : va_S A s.heap s.heap [] := va_S.rf
  have hP : va_P D vwCl [(h0, .inr (17, zHS a))] s.heap := hP
  have hl := lv_entry ([.ref h0, .int x1, .int x2, .int x3]) (n := 6) (Nat.le_of_ble_eq_true rfl)
  rw [lg_entry_eq]
  generalize (lg_sl ([.ref h0, .int x1, .int x2, .int x3]) ++ List.replicate (6 - (lg_sl ([.ref h0, .int x1, .int x2, .int x3])).length) Slot.unset).toArray = ls at hl ⊢
  have hl : lv_has ls 6 [(0, .ref h0), (1, .int x1), (2, .int x2), (3, .int x3)] := hl
  refine lv_aload_n hx hb dX11_protest_0 rfl (lv_at hl 0 rfl) ?_
  refine lv_iload_n hx hb dX11_protest_1 rfl (lv_at hl 1 rfl) ?_
  refine lv_iload_n hx hb dX11_protest_2 rfl (lv_at hl 2 rfl) ?_
  refine lv_iload_n hx hb dX11_protest_3 rfl (lv_at hl 3 rfl) ?_
  have hPc := hP.sub (ws' := [(h0, .inr (17, zHS a))]) [0] rfl
  have hDc := hD.sub (ws' := [(h0, .inr (17, zHS a))]) [0] (by decide) rfl
  have hKc := hK.sub (tys' := []) [] rfl
  have hFc : ∀ q : Nat, s.heap.size ≤ q → A q := fun q h => hA q (Nat.le_trans hS.1 h)
  refine vx_callq (vx_runV (As := [.int x1, .int x2, .int x3]) (rest := []) ⟨hx, hb, hml, hown, hts⟩ (c_raceFor l hst D s.heap.size h0 a x1 x2 x3) (cwV 3 hts (goodIn_app (goodIn_of _ (by decide +kernel)) (goodIn_sub (fun _ h => List.mem_cons_of_mem _ (List.mem_append_right _ (List.mem_append_left _ h))) zX11_raceFor_ws_good)) rfl rfl rfl (by decide +kernel) ⟨Nat.le_of_ble_eq_true rfl, Nat.le_of_ble_eq_true rfl⟩) ⟨zPre.blind, va_recv hKc hPc (ci := 17) (q0 := 0) rfl rfl, zPre.mk hPc hKc hDc hz hS (fun q h => hFc q h)⟩ rfl rfl hl.1 rfl (lv_room (Nat.le_of_ble_eq_true rfl)) dX11_protest_4 ⟨Nat.le_of_ble_eq_true rfl, Nat.le_of_ble_eq_true rfl⟩) hS (fun q _ h => hFc q h) (fun q h => hFc q h) (fun q _ h => hFc q h) (fun E9 ce q9 u t H1 locs ht9 hvm hpx hBX hz1 hk1 hS hcell hv9 hcl => ?_) (fun _ _ t H1 locs _ _ hw _ _ _ _ => hw.elim)
  · cases hBX
    exact vx_out (fun x hx => (ht x hx).elim) hlocks hcell hv9 hcl (fun t9 ht9 _ => ⟨(), trivial, rfl, hS.F ht9⟩) hS.2.2 (Nat.le_of_ble_eq_true rfl) (Nat.le_of_ble_eq_true rfl)

def zX11_close_ws : List Cond := .code yX11_close cX11_close 5 (some .boolean) :: ([.methodLink RX11 130 yX11_eventAt, .instanceMethod yX11_eventAt, .selects RX11 yX11_eventAt yX11_eventAt, .initialized RX11] ++ (zX11_eventAt_ws ++ ([])))
theorem zX11_close_ws_good : zX11_close_ws.all goodWord = true := by decide +kernel
set_option maxHeartbeats 4000000 in
set_option maxRecDepth 100000 in
/-- close of games without events: throws -/
theorem c_close (l : Launch) (hst : l.stackTraces = false) (D : va_G) (sz : Nat) (h0 : Nat) (a : Nat → Nat) (x1 x2 : Int32) : vx_Met l yX11_close zX11_close_ws (zR 3 1 6) (zPre [.ref h0, .int x1, .int x2] D [(h0, .inr (17, zHS a))] [] (fun q : Nat => sz ≤ q) sz) (va_Qi (S := Unit) (fun _ _ => False) (fun _ _ => True) (fun q : Nat => sz ≤ q)) (zThr "java/lang/IndexOutOfBoundsException" (fun q : Nat => sz ≤ q)) 1 6 (fun q : Nat => sz ≤ q) := by
  refine vx_ofW (cc := cX11_close) (maxL := 5) (ret := (some .boolean)) (by decide) rfl ?_
  intro p e s m args below meth c s₁ B hml ht hv
  obtain ⟨rfl, hsz, hP, hK, hD0, hz⟩ := hv
  have hx := B.exec
  have hb := B.bytes
  have hr := B.returns
  have hts := atoms_spec (ws := zX11_close_ws) B.pre
  have hown : s.vm.findClass RX11 = some m.cls := findClass_of_methodNamed B.named
  have hlocks := B.notSynchronized
  subst hsz
  obtain ⟨A, hAe⟩ : ∃ A : Nat → Prop, A = (fun q : Nat => s.heap.size ≤ q) := ⟨_, rfl⟩
  rw [← hAe] at hz ⊢
  have hA : ∀ q : Nat, s.heap.size ≤ q → A q := fun q h => by rw [hAe]; exact h
  have hD := hD0
  have hS : va_S A s.heap s.heap [] := va_S.rf
  have hP : va_P D vwCl [(h0, .inr (17, zHS a))] s.heap := hP
  have hl := lv_entry ([.ref h0, .int x1, .int x2]) (n := 5) (Nat.le_of_ble_eq_true rfl)
  rw [lg_entry_eq]
  generalize (lg_sl ([.ref h0, .int x1, .int x2]) ++ List.replicate (5 - (lg_sl ([.ref h0, .int x1, .int x2])).length) Slot.unset).toArray = ls at hl ⊢
  have hl : lv_has ls 5 [(0, .ref h0), (1, .int x1), (2, .int x2)] := hl
  refine lv_aload_n hx hb dX11_close_0 rfl (lv_at hl 0 rfl) ?_
  refine lv_iload_n hx hb dX11_close_1 rfl (lv_at hl 1 rfl) ?_
  have hPc := hP.sub (ws' := [(h0, .inr (17, zHS a))]) [0] rfl
  have hDc := hD.sub (ws' := [(h0, .inr (17, zHS a))]) [0] (by decide) rfl
  have hKc := hK.sub (tys' := []) [] rfl
  have hFc : ∀ q : Nat, s.heap.size ≤ q → A q := fun q h => hA q (Nat.le_trans hS.1 h)
  refine vx_callq (vx_runV (As := [.int x1]) (rest := []) ⟨hx, hb, hml, hown, hts⟩ (c_eventAt l hst D s.heap.size h0 a x1) (cwV 1 hts (goodIn_app (goodIn_of _ (by decide +kernel)) (goodIn_sub (fun _ h => List.mem_cons_of_mem _ (List.mem_append_right _ (List.mem_append_left _ h))) zX11_eventAt_ws_good)) rfl rfl rfl (by decide +kernel) ⟨Nat.le_of_ble_eq_true rfl, Nat.le_of_ble_eq_true rfl⟩) ⟨zPre.blind, va_recv hKc hPc (ci := 17) (q0 := 0) rfl rfl, zPre.mk hPc hKc hDc hz hS (fun q h => hFc q h)⟩ rfl rfl hl.1 rfl (lv_room (Nat.le_of_ble_eq_true rfl)) dX11_close_2 ⟨Nat.le_of_ble_eq_true rfl, Nat.le_of_ble_eq_true rfl⟩) hS (fun q _ h => hFc q h) (fun q h => hFc q h) (fun q _ h => hFc q h) (fun E9 ce q9 u t H1 locs ht9 hvm hpx hBX hz1 hk1 hS hcell hv9 hcl => ?_) (fun _ _ t H1 locs _ _ hw _ _ _ _ => hw.elim)
  · cases hBX
    exact vx_out (fun x hx => (ht x hx).elim) hlocks hcell hv9 hcl (fun t9 ht9 _ => ⟨(), trivial, rfl, hS.F ht9⟩) hS.2.2 (Nat.le_of_ble_eq_true rfl) (Nat.le_of_ble_eq_true rfl)

def zX11_record_ws : List Cond := .code yX11_record cX11_record 3 (some .int) :: ([.methodLink RX11 130 yX11_eventAt, .instanceMethod yX11_eventAt, .selects RX11 yX11_eventAt yX11_eventAt, .initialized RX11] ++ (zX11_eventAt_ws ++ ([])))
theorem zX11_record_ws_good : zX11_record_ws.all goodWord = true := by decide +kernel
set_option maxHeartbeats 4000000 in
set_option maxRecDepth 100000 in
/-- record of games without events: throws -/
theorem c_record (l : Launch) (hst : l.stackTraces = false) (D : va_G) (sz : Nat) (h0 : Nat) (a : Nat → Nat) (x1 : Int32) : vx_Met l yX11_record zX11_record_ws (zR 3 1 6) (zPre [.ref h0, .int x1] D [(h0, .inr (17, zHS a))] [] (fun q : Nat => sz ≤ q) sz) (va_Qi (S := Unit) (fun _ _ => False) (fun _ _ => True) (fun q : Nat => sz ≤ q)) (zThr "java/lang/IndexOutOfBoundsException" (fun q : Nat => sz ≤ q)) 1 6 (fun q : Nat => sz ≤ q) := by
  refine vx_ofW (cc := cX11_record) (maxL := 3) (ret := (some .int)) (by decide) rfl ?_
  intro p e s m args below meth c s₁ B hml ht hv
  obtain ⟨rfl, hsz, hP, hK, hD0, hz⟩ := hv
  have hx := B.exec
  have hb := B.bytes
  have hr := B.returns
  have hts := atoms_spec (ws := zX11_record_ws) B.pre
  have hown : s.vm.findClass RX11 = some m.cls := findClass_of_methodNamed B.named
  have hlocks := B.notSynchronized
  subst hsz
  obtain ⟨A, hAe⟩ : ∃ A : Nat → Prop, A = (fun q : Nat => s.heap.size ≤ q) := ⟨_, rfl⟩
  rw [← hAe] at hz ⊢
  have hA : ∀ q : Nat, s.heap.size ≤ q → A q := fun q h => by rw [hAe]; exact h
  have hD := hD0
  have hS : va_S A s.heap s.heap [] := va_S.rf
  have hP : va_P D vwCl [(h0, .inr (17, zHS a))] s.heap := hP
  have hl := lv_entry ([.ref h0, .int x1]) (n := 3) (Nat.le_of_ble_eq_true rfl)
  rw [lg_entry_eq]
  generalize (lg_sl ([.ref h0, .int x1]) ++ List.replicate (3 - (lg_sl ([.ref h0, .int x1])).length) Slot.unset).toArray = ls at hl ⊢
  have hl : lv_has ls 3 [(0, .ref h0), (1, .int x1)] := hl
  refine lv_aload_n hx hb dX11_record_0 rfl (lv_at hl 0 rfl) ?_
  refine lv_iload_n hx hb dX11_record_1 rfl (lv_at hl 1 rfl) ?_
  have hPc := hP.sub (ws' := [(h0, .inr (17, zHS a))]) [0] rfl
  have hDc := hD.sub (ws' := [(h0, .inr (17, zHS a))]) [0] (by decide) rfl
  have hKc := hK.sub (tys' := []) [] rfl
  have hFc : ∀ q : Nat, s.heap.size ≤ q → A q := fun q h => hA q (Nat.le_trans hS.1 h)
  refine vx_callq (vx_runV (As := [.int x1]) (rest := []) ⟨hx, hb, hml, hown, hts⟩ (c_eventAt l hst D s.heap.size h0 a x1) (cwV 1 hts (goodIn_app (goodIn_of _ (by decide +kernel)) (goodIn_sub (fun _ h => List.mem_cons_of_mem _ (List.mem_append_right _ (List.mem_append_left _ h))) zX11_eventAt_ws_good)) rfl rfl rfl (by decide +kernel) ⟨Nat.le_of_ble_eq_true rfl, Nat.le_of_ble_eq_true rfl⟩) ⟨zPre.blind, va_recv hKc hPc (ci := 17) (q0 := 0) rfl rfl, zPre.mk hPc hKc hDc hz hS (fun q h => hFc q h)⟩ rfl rfl hl.1 rfl (lv_room (Nat.le_of_ble_eq_true rfl)) dX11_record_2 ⟨Nat.le_of_ble_eq_true rfl, Nat.le_of_ble_eq_true rfl⟩) hS (fun q _ h => hFc q h) (fun q h => hFc q h) (fun q _ h => hFc q h) (fun E9 ce q9 u t H1 locs ht9 hvm hpx hBX hz1 hk1 hS hcell hv9 hcl => ?_) (fun _ _ t H1 locs _ _ hw _ _ _ _ => hw.elim)
  · cases hBX
    exact vx_out (fun x hx => (ht x hx).elim) hlocks hcell hv9 hcl (fun t9 ht9 _ => ⟨(), trivial, rfl, hS.F ht9⟩) hS.2.2 (Nat.le_of_ble_eq_true rfl) (Nat.le_of_ble_eq_true rfl)

def zX11_holder_ws : List Cond := .code yX11_holder cX11_holder 2 (some .int) :: ([.methodLink RX11 130 yX11_eventAt, .instanceMethod yX11_eventAt, .selects RX11 yX11_eventAt yX11_eventAt, .initialized RX11] ++ (zX11_eventAt_ws ++ ([])))
theorem zX11_holder_ws_good : zX11_holder_ws.all goodWord = true := by decide +kernel
set_option maxHeartbeats 4000000 in
set_option maxRecDepth 100000 in
/-- holder of games without events: throws -/
theorem c_holder (l : Launch) (hst : l.stackTraces = false) (D : va_G) (sz : Nat) (h0 : Nat) (a : Nat → Nat) (x1 : Int32) : vx_Met l yX11_holder zX11_holder_ws (zR 3 1 6) (zPre [.ref h0, .int x1] D [(h0, .inr (17, zHS a))] [] (fun q : Nat => sz ≤ q) sz) (va_Qi (S := Unit) (fun _ _ => False) (fun _ _ => True) (fun q : Nat => sz ≤ q)) (zThr "java/lang/IndexOutOfBoundsException" (fun q : Nat => sz ≤ q)) 1 6 (fun q : Nat => sz ≤ q) := by
  refine vx_ofW (cc := cX11_holder) (maxL := 2) (ret := (some .int)) (by decide) rfl ?_
  intro p e s m args below meth c s₁ B hml ht hv
  obtain ⟨rfl, hsz, hP, hK, hD0, hz⟩ := hv
  have hx := B.exec
  have hb := B.bytes
  have hr := B.returns
  have hts := atoms_spec (ws := zX11_holder_ws) B.pre
  have hown : s.vm.findClass RX11 = some m.cls := findClass_of_methodNamed B.named
  have hlocks := B.notSynchronized
  subst hsz
  obtain ⟨A, hAe⟩ : ∃ A : Nat → Prop, A = (fun q : Nat => s.heap.size ≤ q) := ⟨_, rfl⟩
  rw [← hAe] at hz ⊢
  have hA : ∀ q : Nat, s.heap.size ≤ q → A q := fun q h => by rw [hAe]; exact h
  have hD := hD0
  have hS : va_S A s.heap s.heap [] := va_S.rf
  have hP : va_P D vwCl [(h0, .inr (17, zHS a))] s.heap := hP
  have hl := lv_entry ([.ref h0, .int x1]) (n := 2) (Nat.le_of_ble_eq_true rfl)
  rw [lg_entry_eq]
  generalize (lg_sl ([.ref h0, .int x1]) ++ List.replicate (2 - (lg_sl ([.ref h0, .int x1])).length) Slot.unset).toArray = ls at hl ⊢
  have hl : lv_has ls 2 [(0, .ref h0), (1, .int x1)] := hl
  refine lv_aload_n hx hb dX11_holder_0 rfl (lv_at hl 0 rfl) ?_
  refine lv_aload_n hx hb dX11_holder_1 rfl (lv_at hl 0 rfl) ?_
  refine lv_iload_n hx hb dX11_holder_2 rfl (lv_at hl 1 rfl) ?_
  have hPc := hP.sub (ws' := [(h0, .inr (17, zHS a))]) [0] rfl
  have hDc := hD.sub (ws' := [(h0, .inr (17, zHS a))]) [0] (by decide) rfl
  have hKc := hK.sub (tys' := []) [] rfl
  have hFc : ∀ q : Nat, s.heap.size ≤ q → A q := fun q h => hA q (Nat.le_trans hS.1 h)
  refine vx_callq (vx_runV (As := [.int x1]) (rest := [.ref h0]) ⟨hx, hb, hml, hown, hts⟩ (c_eventAt l hst D s.heap.size h0 a x1) (cwV 1 hts (goodIn_app (goodIn_of _ (by decide +kernel)) (goodIn_sub (fun _ h => List.mem_cons_of_mem _ (List.mem_append_right _ (List.mem_append_left _ h))) zX11_eventAt_ws_good)) rfl rfl rfl (by decide +kernel) ⟨Nat.le_of_ble_eq_true rfl, Nat.le_of_ble_eq_true rfl⟩) ⟨zPre.blind, va_recv hKc hPc (ci := 17) (q0 := 0) rfl rfl, zPre.mk hPc hKc hDc hz hS (fun q h => hFc q h)⟩ rfl rfl hl.1 rfl (lv_room (Nat.le_of_ble_eq_true rfl)) dX11_holder_3 ⟨Nat.le_of_ble_eq_true rfl, Nat.le_of_ble_eq_true rfl⟩) hS (fun q _ h => hFc q h) (fun q h => hFc q h) (fun q _ h => hFc q h) (fun E9 ce q9 u t H1 locs ht9 hvm hpx hBX hz1 hk1 hS hcell hv9 hcl => ?_) (fun _ _ t H1 locs _ _ hw _ _ _ _ => hw.elim)
  · cases hBX
    exact vx_out (fun x hx => (ht x hx).elim) hlocks hcell hv9 hcl (fun t9 ht9 _ => ⟨(), trivial, rfl, hS.F ht9⟩) hS.2.2 (Nat.le_of_ble_eq_true rfl) (Nat.le_of_ble_eq_true rfl)

def zX11_sharers_ws : List Cond := .code yX11_sharers cX11_sharers 2 (some .int) :: ([.methodLink RX11 130 yX11_eventAt, .instanceMethod yX11_eventAt, .selects RX11 yX11_eventAt yX11_eventAt, .initialized RX11] ++ (zX11_eventAt_ws ++ ([])))
theorem zX11_sharers_ws_good : zX11_sharers_ws.all goodWord = true := by decide +kernel
set_option maxHeartbeats 4000000 in
set_option maxRecDepth 100000 in
/-- sharers of games without events: throws -/
theorem c_sharers (l : Launch) (hst : l.stackTraces = false) (D : va_G) (sz : Nat) (h0 : Nat) (a : Nat → Nat) (x1 : Int32) : vx_Met l yX11_sharers zX11_sharers_ws (zR 3 1 6) (zPre [.ref h0, .int x1] D [(h0, .inr (17, zHS a))] [] (fun q : Nat => sz ≤ q) sz) (va_Qi (S := Unit) (fun _ _ => False) (fun _ _ => True) (fun q : Nat => sz ≤ q)) (zThr "java/lang/IndexOutOfBoundsException" (fun q : Nat => sz ≤ q)) 1 6 (fun q : Nat => sz ≤ q) := by
  refine vx_ofW (cc := cX11_sharers) (maxL := 2) (ret := (some .int)) (by decide) rfl ?_
  intro p e s m args below meth c s₁ B hml ht hv
  obtain ⟨rfl, hsz, hP, hK, hD0, hz⟩ := hv
  have hx := B.exec
  have hb := B.bytes
  have hr := B.returns
  have hts := atoms_spec (ws := zX11_sharers_ws) B.pre
  have hown : s.vm.findClass RX11 = some m.cls := findClass_of_methodNamed B.named
  have hlocks := B.notSynchronized
  subst hsz
  obtain ⟨A, hAe⟩ : ∃ A : Nat → Prop, A = (fun q : Nat => s.heap.size ≤ q) := ⟨_, rfl⟩
  rw [← hAe] at hz ⊢
  have hA : ∀ q : Nat, s.heap.size ≤ q → A q := fun q h => by rw [hAe]; exact h
  have hD := hD0
  have hS : va_S A s.heap s.heap [] := va_S.rf
  have hP : va_P D vwCl [(h0, .inr (17, zHS a))] s.heap := hP
  have hl := lv_entry ([.ref h0, .int x1]) (n := 2) (Nat.le_of_ble_eq_true rfl)
  rw [lg_entry_eq]
  generalize (lg_sl ([.ref h0, .int x1]) ++ List.replicate (2 - (lg_sl ([.ref h0, .int x1])).length) Slot.unset).toArray = ls at hl ⊢
  have hl : lv_has ls 2 [(0, .ref h0), (1, .int x1)] := hl
  refine lv_aload_n hx hb dX11_sharers_0 rfl (lv_at hl 0 rfl) ?_
  refine lv_aload_n hx hb dX11_sharers_1 rfl (lv_at hl 0 rfl) ?_
  refine lv_iload_n hx hb dX11_sharers_2 rfl (lv_at hl 1 rfl) ?_
  have hPc := hP.sub (ws' := [(h0, .inr (17, zHS a))]) [0] rfl
  have hDc := hD.sub (ws' := [(h0, .inr (17, zHS a))]) [0] (by decide) rfl
  have hKc := hK.sub (tys' := []) [] rfl
  have hFc : ∀ q : Nat, s.heap.size ≤ q → A q := fun q h => hA q (Nat.le_trans hS.1 h)
  refine vx_callq (vx_runV (As := [.int x1]) (rest := [.ref h0]) ⟨hx, hb, hml, hown, hts⟩ (c_eventAt l hst D s.heap.size h0 a x1) (cwV 1 hts (goodIn_app (goodIn_of _ (by decide +kernel)) (goodIn_sub (fun _ h => List.mem_cons_of_mem _ (List.mem_append_right _ (List.mem_append_left _ h))) zX11_eventAt_ws_good)) rfl rfl rfl (by decide +kernel) ⟨Nat.le_of_ble_eq_true rfl, Nat.le_of_ble_eq_true rfl⟩) ⟨zPre.blind, va_recv hKc hPc (ci := 17) (q0 := 0) rfl rfl, zPre.mk hPc hKc hDc hz hS (fun q h => hFc q h)⟩ rfl rfl hl.1 rfl (lv_room (Nat.le_of_ble_eq_true rfl)) dX11_sharers_3 ⟨Nat.le_of_ble_eq_true rfl, Nat.le_of_ble_eq_true rfl⟩) hS (fun q _ h => hFc q h) (fun q h => hFc q h) (fun q _ h => hFc q h) (fun E9 ce q9 u t H1 locs ht9 hvm hpx hBX hz1 hk1 hS hcell hv9 hcl => ?_) (fun _ _ t H1 locs _ _ hw _ _ _ _ => hw.elim)
  · cases hBX
    exact vx_out (fun x hx => (ht x hx).elim) hlocks hcell hv9 hcl (fun t9 ht9 _ => ⟨(), trivial, rfl, hS.F ht9⟩) hS.2.2 (Nat.le_of_ble_eq_true rfl) (Nat.le_of_ble_eq_true rfl)

def zX11_dope_ws : List Cond := .code yX11_dope cX11_dope 4 (some .boolean) :: ([.methodLink RX11 317 yX11_requireAthlete, .instanceMethod yX11_requireAthlete, .selects RX11 yX11_requireAthlete yX11_requireAthlete, .initialized RX11] ++ (zX11_requireAthlete_ws ++ ([])))
theorem zX11_dope_ws_good : zX11_dope_ws.all goodWord = true := by decide +kernel
set_option maxHeartbeats 4000000 in
set_option maxRecDepth 100000 in
/-- dope of games without athletes: throws -/
theorem c_dope (l : Launch) (hst : l.stackTraces = false) (D : va_G) (sz : Nat) (h0 : Nat) (a : Nat → Nat) (a1 a2 : Nat) (x1 x2 : Int32) : vx_Met l yX11_dope zX11_dope_ws (zR 3 1 6) (zPre [.ref h0, .int x1, .int x2] D [(h0, .inr (17, zHS a)), ((a 0), .inr (6, [.ref a1, .ref a2, .int 0]))] [] (fun q : Nat => sz ≤ q) sz) (va_Qi (S := Unit) (fun _ _ => False) (fun _ _ => True) (fun q : Nat => sz ≤ q)) (zThr "java/lang/IndexOutOfBoundsException" (fun q : Nat => sz ≤ q)) 1 6 (fun q : Nat => sz ≤ q) := by
  refine vx_ofW (cc := cX11_dope) (maxL := 4) (ret := (some .boolean)) (by decide) rfl ?_
  intro p e s m args below meth c s₁ B hml ht hv
  obtain ⟨rfl, hsz, hP, hK, hD0, hz⟩ := hv
  have hx := B.exec
  have hb := B.bytes
  have hr := B.returns
  have hts := atoms_spec (ws := zX11_dope_ws) B.pre
  have hown : s.vm.findClass RX11 = some m.cls := findClass_of_methodNamed B.named
  have hlocks := B.notSynchronized
  subst hsz
  obtain ⟨A, hAe⟩ : ∃ A : Nat → Prop, A = (fun q : Nat => s.heap.size ≤ q) := ⟨_, rfl⟩
  rw [← hAe] at hz ⊢
  have hA : ∀ q : Nat, s.heap.size ≤ q → A q := fun q h => by rw [hAe]; exact h
  have hD := hD0
  have hS : va_S A s.heap s.heap [] := va_S.rf
  have hP : va_P D vwCl [(h0, .inr (17, zHS a)), ((a 0), .inr (6, [.ref a1, .ref a2, .int 0]))] s.heap := hP
  have hl := lv_entry ([.ref h0, .int x1, .int x2]) (n := 4) (Nat.le_of_ble_eq_true rfl)
  rw [lg_entry_eq]
  generalize (lg_sl ([.ref h0, .int x1, .int x2]) ++ List.replicate (4 - (lg_sl ([.ref h0, .int x1, .int x2])).length) Slot.unset).toArray = ls at hl ⊢
  have hl : lv_has ls 4 [(0, .ref h0), (1, .int x1), (2, .int x2)] := hl
  refine lv_aload_n hx hb dX11_dope_0 rfl (lv_at hl 0 rfl) ?_
  refine lv_iload_n hx hb dX11_dope_1 rfl (lv_at hl 1 rfl) ?_
  have hPc := hP.sub (ws' := [(h0, .inr (17, zHS a)), ((a 0), .inr (6, [.ref a1, .ref a2, .int 0]))]) [0, 1] rfl
  have hDc := hD.sub (ws' := [(h0, .inr (17, zHS a)), ((a 0), .inr (6, [.ref a1, .ref a2, .int 0]))]) [0, 1] (by decide) rfl
  have hKc := hK.sub (tys' := []) [] rfl
  have hFc : ∀ q : Nat, s.heap.size ≤ q → A q := fun q h => hA q (Nat.le_trans hS.1 h)
  refine vx_callv (vx_runV (As := [.int x1]) (rest := []) ⟨hx, hb, hml, hown, hts⟩ (c_requireAthlete l hst D s.heap.size h0 a a1 a2 x1) (cwV 1 hts (goodIn_app (goodIn_of _ (by decide +kernel)) (goodIn_sub (fun _ h => List.mem_cons_of_mem _ (List.mem_append_right _ (List.mem_append_left _ h))) zX11_requireAthlete_ws_good)) rfl rfl rfl (by decide +kernel) ⟨Nat.le_of_ble_eq_true rfl, Nat.le_of_ble_eq_true rfl⟩) ⟨zPre.blind, va_recv hKc hPc (ci := 17) (q0 := 0) rfl rfl, zPre.mk hPc hKc hDc hz hS (fun q h => hFc q h)⟩ rfl rfl hl.1 rfl (lv_room (Nat.le_of_ble_eq_true rfl)) dX11_dope_2 ⟨Nat.le_of_ble_eq_true rfl, Nat.le_of_ble_eq_true rfl⟩) hS (fun q _ h => hFc q h) (fun q h => hFc q h) (fun q _ h => hFc q h) (fun E9 ce q9 u t H1 locs ht9 hvm hpx hBX hz1 hk1 hS hcell hv9 hcl => ?_) (fun _ t H1 locs _ _ hw _ _ _ _ => hw.elim)
  · cases hBX
    exact vx_out (fun x hx => (ht x hx).elim) hlocks hcell hv9 hcl (fun t9 ht9 _ => ⟨(), trivial, rfl, hS.F ht9⟩) hS.2.2 (Nat.le_of_ble_eq_true rfl) (Nat.le_of_ble_eq_true rfl)

def zX11_decide_ws : List Cond := .code yX11_decide cX11_decide 3 (some .long) :: ([.classLink RX11 299 "java/lang/IndexOutOfBoundsException", .initialized "java/lang/IndexOutOfBoundsException", .fieldLink RX11 25 "HeatStadium" "protests" "LHeatStadium$Protests;"] ++ (((vx_atS RX11 303 "java/lang/IndexOutOfBoundsException" ["java/lang/RuntimeException", "java/lang/Exception"]).filter goodWord) ++ (wsX110 ++ (wsX50 ++ ([])))))
theorem zX11_decide_ws_good : zX11_decide_ws.all goodWord = true := by decide +kernel
set_option maxHeartbeats 4000000 in
set_option maxRecDepth 100000 in
/-- decide of games without protests: throws -/
theorem c_decide (l : Launch) (hst : l.stackTraces = false) (D : va_G) (sz : Nat) (h0 : Nat) (a : Nat → Nat) (p1 p2 p3 : Nat) (x1 x2 : Int32) : vx_Met l yX11_decide zX11_decide_ws (zR 3 1 6) (zPre [.ref h0, .int x1, .int x2] D [(h0, .inr (17, zHS a)), ((a 2), .inr (11, [.ref p1, .ref p2, .ref p3, .int 0, .long 0]))] [] (fun q : Nat => sz ≤ q) sz) (va_Ql (S := Unit) (fun _ _ => False) (fun _ _ => True) (fun q : Nat => sz ≤ q)) (zThr "java/lang/IndexOutOfBoundsException" (fun q : Nat => sz ≤ q)) 1 6 (fun q : Nat => sz ≤ q) := by
  refine vx_ofW (cc := cX11_decide) (maxL := 3) (ret := (some .long)) (by decide) rfl ?_
  intro p e s m args below meth c s₁ B hml ht hv
  obtain ⟨rfl, hsz, hP, hK, hD0, hz⟩ := hv
  have hx := B.exec
  have hb := B.bytes
  have hr := B.returns
  have hts := atoms_spec (ws := zX11_decide_ws) B.pre
  have hown : s.vm.findClass RX11 = some m.cls := findClass_of_methodNamed B.named
  have hlocks := B.notSynchronized
  subst hsz
  obtain ⟨A, hAe⟩ : ∃ A : Nat → Prop, A = (fun q : Nat => s.heap.size ≤ q) := ⟨_, rfl⟩
  rw [← hAe] at hz ⊢
  have hA : ∀ q : Nat, s.heap.size ≤ q → A q := fun q h => by rw [hAe]; exact h
  have hD := hD0
  have hS : va_S A s.heap s.heap [] := va_S.rf
  have hP : va_P D vwCl [(h0, .inr (17, zHS a)), ((a 2), .inr (11, [.ref p1, .ref p2, .ref p3, .int 0, .long 0]))] s.heap := hP
  have hl := lv_entry ([.ref h0, .int x1, .int x2]) (n := 3) (Nat.le_of_ble_eq_true rfl)
  rw [lg_entry_eq]
  generalize (lg_sl ([.ref h0, .int x1, .int x2]) ++ List.replicate (3 - (lg_sl ([.ref h0, .int x1, .int x2])).length) Slot.unset).toArray = ls at hl ⊢
  have hl : lv_has ls 3 [(0, .ref h0), (1, .int x1), (2, .int x2)] := hl
  refine lv_iload_n hx hb dX11_decide_0 rfl (lv_at hl 1 rfl) ?_
  refine lv_if_lt (tgt := 15) hx hb dX11_decide_1 (by decide) (fun c1 => ?_) (fun c1 => ?_)
  · obtain ⟨sa, hstr⟩ := hz.2.1 (RX11, 301, "no such protest") (by decide +kernel)
    exact vx_throwSW (names := ["java/lang/RuntimeException", "java/lang/Exception"]) hx hb hst hown (by decide +kernel) (by decide +kernel) (hts (.classLink RX11 299 "java/lang/IndexOutOfBoundsException") (by decide +kernel)) (hts (.initialized "java/lang/IndexOutOfBoundsException") (by decide +kernel)) hstr (vx_hat (B := zWords) (fun w hw => hts w (List.mem_cons_of_mem _ (List.mem_append_right _ (List.mem_append_left _ hw)))) (by decide +kernel) (fun w hw => hz.w w hw)) (List.all_eq_true.mp (by decide +kernel)) hz.1.1 hz.1.2 hS (hml ▸ hl.1) dX11_decide_15 dX11_decide_18 dX11_decide_19 dX11_decide_22 dX11_decide_25 (fun x hx => (ht x hx).elim) (Nat.le_of_ble_eq_true rfl) (Nat.le_of_ble_eq_true rfl) (Nat.le_of_ble_eq_true rfl) (Nat.le_of_ble_eq_true rfl) hlocks (fun t _ h1 h2 => ⟨(), trivial, rfl, zF hS h1 h2⟩) hS.2.2 (Nat.le_of_ble_eq_true rfl) (Nat.le_of_ble_eq_true rfl)
  · refine lv_iload_n hx hb dX11_decide_4 rfl (lv_at hl 1 rfl) ?_
    refine lv_aload_n hx hb dX11_decide_5 rfl (lv_at hl 0 rfl) ?_
    refine va_get (D := D) (ci := 17) (v := .ref (a 2)) (C := RX11) (T := TX11) (N := 11) hx hb hts (by decide +kernel) hown hK hP 0 rfl rfl 2 (by decide) (hts (.fieldLink RX11 25 "HeatStadium" "protests" "LHeatStadium$Protests;") (by decide +kernel)) (fun _ h9 => h9) rfl dX11_decide_6 ?_
    refine va_getN (D := D) (ci := 11) (v := .int 0) (C := RX5) (T := TX5) (N := 5) hx hb hts (by decide +kernel) hown hK hP 1 rfl rfl 3 (by decide) (hz.w (.fieldLinkNest RX11 292 "HeatStadium$Protests" "count" "I" RX11) (by decide +kernel)) (fun _ h9 => h9) rfl dX11_decide_9 ?_
    refine lv_icmp_lt (tgt := 26) hx hb dX11_decide_12 (by decide) (fun c9 => absurd c9 c1) (fun _ => ?_)
    obtain ⟨sa, hstr⟩ := hz.2.1 (RX11, 301, "no such protest") (by decide +kernel)
    exact vx_throwSW (names := ["java/lang/RuntimeException", "java/lang/Exception"]) hx hb hst hown (by decide +kernel) (by decide +kernel) (hts (.classLink RX11 299 "java/lang/IndexOutOfBoundsException") (by decide +kernel)) (hts (.initialized "java/lang/IndexOutOfBoundsException") (by decide +kernel)) hstr (vx_hat (B := zWords) (fun w hw => hts w (List.mem_cons_of_mem _ (List.mem_append_right _ (List.mem_append_left _ hw)))) (by decide +kernel) (fun w hw => hz.w w hw)) (List.all_eq_true.mp (by decide +kernel)) hz.1.1 hz.1.2 hS (hml ▸ hl.1) dX11_decide_15 dX11_decide_18 dX11_decide_19 dX11_decide_22 dX11_decide_25 (fun x hx => (ht x hx).elim) (Nat.le_of_ble_eq_true rfl) (Nat.le_of_ble_eq_true rfl) (Nat.le_of_ble_eq_true rfl) (Nat.le_of_ble_eq_true rfl) hlocks (fun t _ h1 h2 => ⟨(), trivial, rfl, zF hS h1 h2⟩) hS.2.2 (Nat.le_of_ble_eq_true rfl) (Nat.le_of_ble_eq_true rfl)
