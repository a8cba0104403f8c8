/-! printed rows that this part uses -/
theorem dX17_thrown_0 : decode cX17_thrown 0 = .ok (.aload_n 0, 1) := by decide +kernel
theorem dX17_thrown_1 : decode cX17_thrown 1 = .ok (.getfield 25, 3) := by decide +kernel
theorem dX17_thrown_4 : decode cX17_thrown 4 = .ok (.ireturn, 1) := by decide +kernel
theorem dX17_enter_0 : decode cX17_enter 0 = .ok (.aload_n 0, 1) := by decide +kernel
theorem dX17_enter_1 : decode cX17_enter 1 = .ok (.iload_n 1, 1) := by decide +kernel
theorem dX17_enter_2 : decode cX17_enter 2 = .ok (.iload_n 2, 1) := by decide +kernel
theorem dX17_enter_3 : decode cX17_enter 3 = .ok (.invokevirtual 95, 3) := by decide +kernel
theorem dX17_enter_6 : decode cX17_enter 6 = .ok (.ifCond .eq 5, 3) := by decide +kernel
theorem dX17_enter_9 : decode cX17_enter 9 = .ok (.iconst 0, 1) := by decide +kernel
theorem dX17_enter_10 : decode cX17_enter 10 = .ok (.ireturn, 1) := by decide +kernel
theorem dX17_withdraw_0 : decode cX17_withdraw 0 = .ok (.aload_n 0, 1) := by decide +kernel
theorem dX17_withdraw_1 : decode cX17_withdraw 1 = .ok (.iload_n 1, 1) := by decide +kernel
theorem dX17_withdraw_2 : decode cX17_withdraw 2 = .ok (.iload_n 2, 1) := by decide +kernel
theorem dX17_withdraw_3 : decode cX17_withdraw 3 = .ok (.invokevirtual 95, 3) := by decide +kernel
theorem dX17_withdraw_6 : decode cX17_withdraw 6 = .ok (.ifCond .eq 5, 3) := by decide +kernel
theorem dX17_withdraw_9 : decode cX17_withdraw 9 = .ok (.iconst 0, 1) := by decide +kernel
theorem dX17_withdraw_10 : decode cX17_withdraw 10 = .ok (.ireturn, 1) := by decide +kernel
theorem dX17_field_0 : decode cX17_field 0 = .ok (.aload_n 0, 1) := by decide +kernel
theorem dX17_field_1 : decode cX17_field 1 = .ok (.iload_n 1, 1) := by decide +kernel
theorem dX17_field_2 : decode cX17_field 2 = .ok (.invokevirtual 146, 3) := by decide +kernel
theorem dX17_field_5 : decode cX17_field 5 = .ok (.ifCond .eq 7, 3) := by decide +kernel
theorem dX17_field_8 : decode cX17_field 8 = .ok (.iconst 0, 1) := by decide +kernel
theorem dX17_field_9 : decode cX17_field 9 = .ok (.goto 21, 3) := by decide +kernel
theorem dX17_field_30 : decode cX17_field 30 = .ok (.ireturn, 1) := by decide +kernel
theorem dX17_inField_0 : decode cX17_inField 0 = .ok (.aload_n 0, 1) := by decide +kernel
theorem dX17_inField_1 : decode cX17_inField 1 = .ok (.iload_n 1, 1) := by decide +kernel
theorem dX17_inField_2 : decode cX17_inField 2 = .ok (.invokevirtual 146, 3) := by decide +kernel
theorem dX17_inField_5 : decode cX17_inField 5 = .ok (.ifCond .eq 5, 3) := by decide +kernel
theorem dX17_inField_8 : decode cX17_inField 8 = .ok (.iconst 0, 1) := by decide +kernel
theorem dX17_inField_9 : decode cX17_inField 9 = .ok (.ireturn, 1) := by decide +kernel
theorem dX17_heatOf_0 : decode cX17_heatOf 0 = .ok (.aload_n 0, 1) := by decide +kernel
theorem dX17_heatOf_1 : decode cX17_heatOf 1 = .ok (.iload_n 1, 1) := by decide +kernel
theorem dX17_heatOf_2 : decode cX17_heatOf 2 = .ok (.iload_n 2, 1) := by decide +kernel
theorem dX17_heatOf_3 : decode cX17_heatOf 3 = .ok (.invokevirtual 95, 3) := by decide +kernel
theorem dX17_heatOf_6 : decode cX17_heatOf 6 = .ok (.ifCond .eq 5, 3) := by decide +kernel
theorem dX17_heatOf_9 : decode cX17_heatOf 9 = .ok (.iconst 0, 1) := by decide +kernel
theorem dX17_heatOf_10 : decode cX17_heatOf 10 = .ok (.ireturn, 1) := by decide +kernel
theorem dX17_laneOf_0 : decode cX17_laneOf 0 = .ok (.aload_n 0, 1) := by decide +kernel
theorem dX17_laneOf_1 : decode cX17_laneOf 1 = .ok (.iload_n 1, 1) := by decide +kernel
theorem dX17_laneOf_2 : decode cX17_laneOf 2 = .ok (.iload_n 3, 1) := by decide +kernel
theorem dX17_laneOf_3 : decode cX17_laneOf 3 = .ok (.iload_n 2, 1) := by decide +kernel
theorem dX17_laneOf_4 : decode cX17_laneOf 4 = .ok (.invokevirtual 210, 3) := by decide +kernel
theorem dX17_laneOf_7 : decode cX17_laneOf 7 = .ok (.astore 4, 2) := by decide +kernel
theorem dX17_laneOf_9 : decode cX17_laneOf 9 = .ok (.aload 4, 2) := by decide +kernel
theorem dX17_laneOf_11 : decode cX17_laneOf 11 = .ok (.ifnonnull 5, 3) := by decide +kernel
theorem dX17_laneOf_14 : decode cX17_laneOf 14 = .ok (.iconst 0, 1) := by decide +kernel
theorem dX17_laneOf_15 : decode cX17_laneOf 15 = .ok (.ireturn, 1) := by decide +kernel
theorem dX17_time_0 : decode cX17_time 0 = .ok (.aload_n 0, 1) := by decide +kernel
theorem dX17_time_1 : decode cX17_time 1 = .ok (.iload_n 1, 1) := by decide +kernel
theorem dX17_time_2 : decode cX17_time 2 = .ok (.iload_n 3, 1) := by decide +kernel
theorem dX17_time_3 : decode cX17_time 3 = .ok (.invokevirtual 95, 3) := by decide +kernel
theorem dX17_time_6 : decode cX17_time 6 = .ok (.ifCond .eq 5, 3) := by decide +kernel
theorem dX17_time_9 : decode cX17_time 9 = .ok (.iconst 0, 1) := by decide +kernel
theorem dX17_time_10 : decode cX17_time 10 = .ok (.ireturn, 1) := by decide +kernel
theorem dX17_react_0 : decode cX17_react 0 = .ok (.aload_n 0, 1) := by decide +kernel
theorem dX17_react_1 : decode cX17_react 1 = .ok (.iload_n 1, 1) := by decide +kernel
theorem dX17_react_2 : decode cX17_react 2 = .ok (.iload_n 3, 1) := by decide +kernel
theorem dX17_react_3 : decode cX17_react 3 = .ok (.invokevirtual 95, 3) := by decide +kernel
theorem dX17_react_6 : decode cX17_react 6 = .ok (.ifCond .eq 5, 3) := by decide +kernel
theorem dX17_react_9 : decode cX17_react 9 = .ok (.iconst 0, 1) := by decide +kernel
theorem dX17_react_10 : decode cX17_react 10 = .ok (.ireturn, 1) := by decide +kernel
theorem dX17_putOut_0 : decode cX17_putOut 0 = .ok (.aload_n 0, 1) := by decide +kernel
theorem dX17_putOut_1 : decode cX17_putOut 1 = .ok (.iload_n 1, 1) := by decide +kernel
theorem dX17_putOut_2 : decode cX17_putOut 2 = .ok (.iload_n 3, 1) := by decide +kernel
theorem dX17_putOut_3 : decode cX17_putOut 3 = .ok (.iload_n 2, 1) := by decide +kernel
theorem dX17_putOut_4 : decode cX17_putOut 4 = .ok (.invokevirtual 210, 3) := by decide +kernel
theorem dX17_putOut_7 : decode cX17_putOut 7 = .ok (.astore 4, 2) := by decide +kernel
theorem dX17_putOut_9 : decode cX17_putOut 9 = .ok (.aload 4, 2) := by decide +kernel
theorem dX17_putOut_11 : decode cX17_putOut 11 = .ok (.ifnonnull 5, 3) := by decide +kernel
theorem dX17_putOut_14 : decode cX17_putOut 14 = .ok (.iconst 0, 1) := by decide +kernel
theorem dX17_putOut_15 : decode cX17_putOut 15 = .ok (.ireturn, 1) := by decide +kernel
theorem dX17_isOut_0 : decode cX17_isOut 0 = .ok (.aload_n 0, 1) := by decide +kernel
theorem dX17_isOut_1 : decode cX17_isOut 1 = .ok (.iload_n 1, 1) := by decide +kernel
theorem dX17_isOut_2 : decode cX17_isOut 2 = .ok (.iload_n 3, 1) := by decide +kernel
theorem dX17_isOut_3 : decode cX17_isOut 3 = .ok (.iload_n 2, 1) := by decide +kernel
theorem dX17_isOut_4 : decode cX17_isOut 4 = .ok (.invokevirtual 210, 3) := by decide +kernel
theorem dX17_isOut_7 : decode cX17_isOut 7 = .ok (.astore 4, 2) := by decide +kernel
theorem dX17_isOut_9 : decode cX17_isOut 9 = .ok (.aload 4, 2) := by decide +kernel
theorem dX17_isOut_11 : decode cX17_isOut 11 = .ok (.ifnull 21, 3) := by decide +kernel
theorem dX17_isOut_32 : decode cX17_isOut 32 = .ok (.iconst 0, 1) := by decide +kernel
theorem dX17_isOut_33 : decode cX17_isOut 33 = .ok (.ireturn, 1) := by decide +kernel
theorem dX17_inFinal_0 : decode cX17_inFinal 0 = .ok (.aload_n 0, 1) := by decide +kernel
theorem dX17_inFinal_1 : decode cX17_inFinal 1 = .ok (.iload_n 1, 1) := by decide +kernel
theorem dX17_inFinal_2 : decode cX17_inFinal 2 = .ok (.invokevirtual 146, 3) := by decide +kernel
theorem dX17_inFinal_5 : decode cX17_inFinal 5 = .ok (.ifCond .eq 5, 3) := by decide +kernel
theorem dX17_inFinal_8 : decode cX17_inFinal 8 = .ok (.iconst 0, 1) := by decide +kernel
theorem dX17_inFinal_9 : decode cX17_inFinal 9 = .ok (.ireturn, 1) := by decide +kernel
theorem dX17_bar_0 : decode cX17_bar 0 = .ok (.aload_n 0, 1) := by decide +kernel
theorem dX17_bar_1 : decode cX17_bar 1 = .ok (.iload_n 1, 1) := by decide +kernel
theorem dX17_bar_2 : decode cX17_bar 2 = .ok (.invokevirtual 146, 3) := by decide +kernel
theorem dX17_bar_5 : decode cX17_bar 5 = .ok (.ifCond .eq 5, 3) := by decide +kernel
theorem dX17_bar_8 : decode cX17_bar 8 = .ok (.iconst 0, 1) := by decide +kernel
theorem dX17_bar_9 : decode cX17_bar 9 = .ok (.ireturn, 1) := by decide +kernel
theorem dX17_jump_0 : decode cX17_jump 0 = .ok (.aload_n 0, 1) := by decide +kernel
theorem dX17_jump_1 : decode cX17_jump 1 = .ok (.iload_n 1, 1) := by decide +kernel
theorem dX17_jump_2 : decode cX17_jump 2 = .ok (.iload_n 2, 1) := by decide +kernel
theorem dX17_jump_3 : decode cX17_jump 3 = .ok (.invokevirtual 95, 3) := by decide +kernel
theorem dX17_jump_6 : decode cX17_jump 6 = .ok (.ifCond .eq 5, 3) := by decide +kernel
theorem dX17_jump_9 : decode cX17_jump 9 = .ok (.iconst 0, 1) := by decide +kernel
theorem dX17_jump_10 : decode cX17_jump 10 = .ok (.ireturn, 1) := by decide +kernel
theorem dX17_put_0 : decode cX17_put 0 = .ok (.aload_n 0, 1) := by decide +kernel
theorem dX17_put_1 : decode cX17_put 1 = .ok (.iload_n 1, 1) := by decide +kernel
theorem dX17_put_2 : decode cX17_put 2 = .ok (.iload_n 2, 1) := by decide +kernel
theorem dX17_put_3 : decode cX17_put 3 = .ok (.invokevirtual 95, 3) := by decide +kernel
theorem dX17_put_6 : decode cX17_put 6 = .ok (.ifCond .eq 5, 3) := by decide +kernel
theorem dX17_put_9 : decode cX17_put 9 = .ok (.iconst 0, 1) := by decide +kernel
theorem dX17_put_10 : decode cX17_put 10 = .ok (.ireturn, 1) := by decide +kernel
theorem dX17_rankOf_0 : decode cX17_rankOf 0 = .ok (.aload_n 0, 1) := by decide +kernel
theorem dX17_rankOf_1 : decode cX17_rankOf 1 = .ok (.iload_n 1, 1) := by decide +kernel
theorem dX17_rankOf_2 : decode cX17_rankOf 2 = .ok (.iload_n 2, 1) := by decide +kernel
theorem dX17_rankOf_3 : decode cX17_rankOf 3 = .ok (.invokevirtual 95, 3) := by decide +kernel
theorem dX17_rankOf_6 : decode cX17_rankOf 6 = .ok (.ifCond .eq 5, 3) := by decide +kernel
theorem dX17_rankOf_9 : decode cX17_rankOf 9 = .ok (.iconst 0, 1) := by decide +kernel
theorem dX17_rankOf_10 : decode cX17_rankOf 10 = .ok (.ireturn, 1) := by decide +kernel
theorem dX17_resultOf_0 : decode cX17_resultOf 0 = .ok (.aload_n 0, 1) := by decide +kernel
theorem dX17_resultOf_1 : decode cX17_resultOf 1 = .ok (.iload_n 1, 1) := by decide +kernel
theorem dX17_resultOf_2 : decode cX17_resultOf 2 = .ok (.iload_n 2, 1) := by decide +kernel
theorem dX17_resultOf_3 : decode cX17_resultOf 3 = .ok (.invokevirtual 95, 3) := by decide +kernel
theorem dX17_resultOf_6 : decode cX17_resultOf 6 = .ok (.ifCond .eq 5, 3) := by decide +kernel
theorem dX17_resultOf_9 : decode cX17_resultOf 9 = .ok (.iconst 0, 1) := by decide +kernel
theorem dX17_resultOf_10 : decode cX17_resultOf 10 = .ok (.ireturn, 1) := by decide +kernel
theorem dX17_protest_0 : decode cX17_protest 0 = .ok (.aload_n 0, 1) := by decide +kernel
theorem dX17_protest_1 : decode cX17_protest 1 = .ok (.iload_n 1, 1) := by decide +kernel
theorem dX17_protest_2 : decode cX17_protest 2 = .ok (.iload_n 3, 1) := by decide +kernel
theorem dX17_protest_3 : decode cX17_protest 3 = .ok (.iload_n 2, 1) := by decide +kernel
theorem dX17_protest_4 : decode cX17_protest 4 = .ok (.invokevirtual 210, 3) := by decide +kernel
theorem dX17_protest_7 : decode cX17_protest 7 = .ok (.astore 4, 2) := by decide +kernel
theorem dX17_protest_9 : decode cX17_protest 9 = .ok (.aload 4, 2) := by decide +kernel
theorem dX17_protest_11 : decode cX17_protest 11 = .ok (.ifnonnull 5, 3) := by decide +kernel
theorem dX17_protest_14 : decode cX17_protest 14 = .ok (.iconst 0, 1) := by decide +kernel
theorem dX17_protest_15 : decode cX17_protest 15 = .ok (.ireturn, 1) := by decide +kernel
theorem dX17_decide_0 : decode cX17_decide 0 = .ok (.aload_n 0, 1) := by decide +kernel
theorem dX17_decide_1 : decode cX17_decide 1 = .ok (.iload_n 1, 1) := by decide +kernel
theorem dX17_decide_2 : decode cX17_decide 2 = .ok (.iconst 0, 1) := by decide +kernel
theorem dX17_decide_3 : decode cX17_decide 3 = .ok (.aload_n 0, 1) := by decide +kernel
theorem dX17_decide_4 : decode cX17_decide 4 = .ok (.getfield 22, 3) := by decide +kernel
theorem dX17_decide_7 : decode cX17_decide 7 = .ok (.invokevirtual 33, 3) := by decide +kernel
theorem dX17_decide_10 : decode cX17_decide 10 = .ok (.iconst 1, 1) := by decide +kernel
theorem dX17_decide_11 : decode cX17_decide 11 = .ok (.isub, 1) := by decide +kernel
theorem dX17_decide_12 : decode cX17_decide 12 = .ok (.invokestatic 29, 3) := by decide +kernel
theorem dX17_decide_15 : decode cX17_decide 15 = .ok (.ifCond .ne 7, 3) := by decide +kernel
theorem dX17_decide_18 : decode cX17_decide 18 = .ok (.iconst 1, 1) := by decide +kernel
theorem dX17_decide_19 : decode cX17_decide 19 = .ok (.goto 25, 3) := by decide +kernel
theorem dX17_decide_44 : decode cX17_decide 44 = .ok (.putfield 25, 3) := by decide +kernel
theorem dX17_decide_47 : decode cX17_decide 47 = .ok (.aload_n 0, 1) := by decide +kernel
theorem dX17_decide_48 : decode cX17_decide 48 = .ok (.getfield 25, 3) := by decide +kernel
theorem dX17_decide_51 : decode cX17_decide 51 = .ok (.ifCond .le 5, 3) := by decide +kernel
theorem dX17_decide_54 : decode cX17_decide 54 = .ok (.lconst 0, 1) := by decide +kernel
theorem dX17_decide_55 : decode cX17_decide 55 = .ok (.lreturn, 1) := by decide +kernel
theorem dX17_dope_0 : decode cX17_dope 0 = .ok (.aload_n 0, 1) := by decide +kernel
theorem dX17_dope_1 : decode cX17_dope 1 = .ok (.aload_n 0, 1) := by decide +kernel
theorem dX17_dope_2 : decode cX17_dope 2 = .ok (.iload_n 1, 1) := by decide +kernel
theorem dX17_dope_3 : decode cX17_dope 3 = .ok (.invokevirtual 70, 3) := by decide +kernel
theorem dX17_dope_6 : decode cX17_dope 6 = .ok (.ifCond .eq 7, 3) := by decide +kernel
theorem dX17_dope_13 : decode cX17_dope 13 = .ok (.iconst 1, 1) := by decide +kernel
theorem dX17_dope_14 : decode cX17_dope 14 = .ok (.putfield 25, 3) := by decide +kernel
theorem dX17_dope_17 : decode cX17_dope 17 = .ok (.aload_n 0, 1) := by decide +kernel
theorem dX17_dope_18 : decode cX17_dope 18 = .ok (.getfield 25, 3) := by decide +kernel
theorem dX17_dope_21 : decode cX17_dope 21 = .ok (.ifCond .ne 28, 3) := by decide +kernel
theorem dX17_dope_49 : decode cX17_dope 49 = .ok (.iconst 0, 1) := by decide +kernel
theorem dX17_dope_50 : decode cX17_dope 50 = .ok (.ireturn, 1) := by decide +kernel
theorem dX17_close_0 : decode cX17_close 0 = .ok (.aload_n 0, 1) := by decide +kernel
theorem dX17_close_1 : decode cX17_close 1 = .ok (.iload_n 1, 1) := by decide +kernel
theorem dX17_close_2 : decode cX17_close 2 = .ok (.invokevirtual 146, 3) := by decide +kernel
theorem dX17_close_5 : decode cX17_close 5 = .ok (.ifCond .eq 5, 3) := by decide +kernel
theorem dX17_close_8 : decode cX17_close 8 = .ok (.iconst 0, 1) := by decide +kernel
theorem dX17_close_9 : decode cX17_close 9 = .ok (.ireturn, 1) := by decide +kernel
theorem dX17_record_0 : decode cX17_record 0 = .ok (.aload_n 0, 1) := by decide +kernel
theorem dX17_record_1 : decode cX17_record 1 = .ok (.iload_n 1, 1) := by decide +kernel
theorem dX17_record_2 : decode cX17_record 2 = .ok (.invokevirtual 146, 3) := by decide +kernel
theorem dX17_record_5 : decode cX17_record 5 = .ok (.ifCond .eq 5, 3) := by decide +kernel
theorem dX17_record_8 : decode cX17_record 8 = .ok (.iconst 0, 1) := by decide +kernel
theorem dX17_record_9 : decode cX17_record 9 = .ok (.ireturn, 1) := by decide +kernel
theorem dX17_holder_0 : decode cX17_holder 0 = .ok (.aload_n 0, 1) := by decide +kernel
theorem dX17_holder_1 : decode cX17_holder 1 = .ok (.iload_n 1, 1) := by decide +kernel
theorem dX17_holder_2 : decode cX17_holder 2 = .ok (.invokevirtual 146, 3) := by decide +kernel
theorem dX17_holder_5 : decode cX17_holder 5 = .ok (.ifCond .eq 5, 3) := by decide +kernel
theorem dX17_holder_8 : decode cX17_holder 8 = .ok (.iconst 0, 1) := by decide +kernel
theorem dX17_holder_9 : decode cX17_holder 9 = .ok (.ireturn, 1) := by decide +kernel
theorem dX17_sharers_0 : decode cX17_sharers 0 = .ok (.aload_n 0, 1) := by decide +kernel
theorem dX17_sharers_1 : decode cX17_sharers 1 = .ok (.iload_n 1, 1) := by decide +kernel
theorem dX17_sharers_2 : decode cX17_sharers 2 = .ok (.invokevirtual 146, 3) := by decide +kernel
theorem dX17_sharers_5 : decode cX17_sharers 5 = .ok (.ifCond .eq 5, 3) := by decide +kernel
theorem dX17_sharers_8 : decode cX17_sharers 8 = .ok (.iconst 0, 1) := by decide +kernel
theorem dX17_sharers_9 : decode cX17_sharers 9 = .ok (.ireturn, 1) := by decide +kernel
def zX17_thrown_ws : List Cond := .code yX17_thrown cX17_thrown 1 (some .int) :: ([.fieldLink RX17 25 "HeatStadiumModel" "thrown" "I"] ++ (wsX170 ++ ([])))
theorem zX17_thrown_ws_good : zX17_thrown_ws.all goodWord = true := by decide +kernel
set_option maxHeartbeats 4000000 in
set_option maxRecDepth 100000 in
/-- thrown() -/
theorem cm_thrown (l : Launch) (hst : l.stackTraces = false) (D : va_G) (sz : Nat) (mo b0 b1 b2 b3 dz : Nat) (th : Int32) : Met l yX17_thrown zX17_thrown_ws (zR 0 0 0) (zPre [.ref mo] D [(mo, .inr (23, [.int th, .ref b0, .ref b1, .ref b2, .ref b3, .int 0, .int 0, .long 0]))] [] (fun q : Nat => sz ≤ q) sz) (va_Qi (S := Unit) (fun r _ => r = th) (fun _ _ => True) (fun q : Nat => sz ≤ q)) 0 0 (fun q : Nat => sz ≤ q) := by
  refine Met.ofW (cc := cX17_thrown) (maxL := 1) (ret := (some .int)) (by decide) rfl ?_
  intro p e s m args below meth c s₁ B hml hv
  obtain ⟨rfl, hsz, hP, hK, hD0, hz⟩ := hv
  have hx := B.exec
  have hb := B.bytes
  have hr := B.returns
  have hts := atoms_spec (ws := zX17_thrown_ws) B.pre
  have hown : s.vm.findClass RX17 = some m.cls := findClass_of_methodNamed B.named
  have hlocks := B.notSynchronized
  subst hsz
  obtain ⟨A, hAe⟩ : ∃ A : Nat → Prop, A = (fun q : Nat => s.heap.size ≤ q) := ⟨_, rfl⟩
  rw [← hAe] at hz ⊢
  have hA : ∀ q : Nat, s.heap.size ≤ q → A q := fun q h => by rw [hAe]; exact h
  have hD := hD0
  have hS : va_S A s.heap s.heap [] := va_S.rf
  have hP : va_P D vwCl [(mo, .inr (23, [.int th, .ref b0, .ref b1, .ref b2, .ref b3, .int 0, .int 0, .long 0]))] s.heap := hP
  have hl := lv_entry ([.ref mo]) (n := 1) (Nat.le_of_ble_eq_true rfl)
  rw [lg_entry_eq]
  generalize (lg_sl ([.ref mo]) ++ List.replicate (1 - (lg_sl ([.ref mo])).length) Slot.unset).toArray = ls at hl ⊢
  have hl : lv_has ls 1 [(0, .ref mo)] := hl
  refine lv_aload_n hx hb dX17_thrown_0 rfl (lv_at hl 0 rfl) ?_
  refine va_get (D := D) (ci := 23) (v := .int th) (C := RX17) (T := TX17) (N := 8) hx hb hts (by decide +kernel) hown hK hP 0 rfl rfl 0 (by decide) (hts (.fieldLink RX17 25 "HeatStadiumModel" "thrown" "I") (by decide +kernel)) (fun _ h9 => h9) rfl dX17_thrown_1 ?_
  refine W.widen (k := 0) (n := 0) (by omega) (by omega) ?_
  exact W.iret (v := th) hx hb hr (fun t ht9 hW => ⟨⟨th, (), rfl, rfl, trivial⟩, hS.F ht9⟩) hS.2.2 dX17_thrown_4

def zX17_enter_ws : List Cond := .code yX17_enter cX17_enter 5 (some .int) :: ([.methodLink RX17 95 yX17_noPair, .instanceMethod yX17_noPair, .selects RX17 yX17_noPair yX17_noPair, .initialized RX17] ++ (zX17_noPair_ws ++ ([])))
theorem zX17_enter_ws_good : zX17_enter_ws.all goodWord = true := by decide +kernel
set_option maxHeartbeats 4000000 in
set_option maxRecDepth 100000 in
/-- the reference refuses enter -/
theorem cm_enter (l : Launch) (hst : l.stackTraces = false) (D : va_G) (sz : Nat) (mo b0 b1 b2 b3 dz : Nat) (th : Int32) (x1 x2 x3 : Int32) : Met l yX17_enter zX17_enter_ws (zR 4 0 0) (zPre [.ref mo, .int x1, .int x2, .int x3] D [(mo, .inr (23, [.int th, .ref b0, .ref b1, .ref b2, .ref b3, .int 0, .int 0, .long 0])), (b2, .inr (5, [.int 0, .ref dz, .int 0]))] [] (va_A [(mo, .inr (23, [.int th, .ref b0, .ref b1, .ref b2, .ref b3, .int 0, .int 0, .long 0])), (b2, .inr (5, [.int 0, .ref dz, .int 0]))] sz) sz) (va_Qi (S := Unit) (fun r _ => r = 0) (fun _ t => zAt D [(mo, .inr (23, [.int 1, .ref b0, .ref b1, .ref b2, .ref b3, .int 0, .int 0, .long 0])), (b2, .inr (5, [.int 0, .ref dz, .int 0]))] [] (va_A [(mo, .inr (23, [.int th, .ref b0, .ref b1, .ref b2, .ref b3, .int 0, .int 0, .long 0])), (b2, .inr (5, [.int 0, .ref dz, .int 0]))] sz) t) (va_A [(mo, .inr (23, [.int th, .ref b0, .ref b1, .ref b2, .ref b3, .int 0, .int 0, .long 0])), (b2, .inr (5, [.int 0, .ref dz, .int 0]))] sz)) 0 0 (va_A [(mo, .inr (23, [.int th, .ref b0, .ref b1, .ref b2, .ref b3, .int 0, .int 0, .long 0])), (b2, .inr (5, [.int 0, .ref dz, .int 0]))] sz) := by
  refine Met.ofW (cc := cX17_enter) (maxL := 5) (ret := (some .int)) (by decide) rfl ?_
  intro p e s m args below meth c s₁ B hml hv
  obtain ⟨rfl, hsz, hP, hK, hD0, hz⟩ := hv
  have hx := B.exec
  have hb := B.bytes
  have hr := B.returns
  have hts := atoms_spec (ws := zX17_enter_ws) B.pre
  have hown : s.vm.findClass RX17 = some m.cls := findClass_of_methodNamed B.named
  have hlocks := B.notSynchronized
  subst hsz
  have hD := hD0.self (sz := s.heap.size)
  generalize hAe : va_A [(mo, .inr (23, [.int th, .ref b0, .ref b1, .ref b2, .ref b3, .int 0, .int 0, .long 0])), (b2, .inr (5, [.int 0, .ref dz, .int 0]))] s.heap.size = A at hD hz ⊢
  have hA : ∀ q : Nat, s.heap.size ≤ q → A q := fun q h => by rw [← hAe]; exact Or.inr h
  have hS : va_S A s.heap s.heap [] := va_S.rf
  have hP : va_P D vwCl [(mo, .inr (23, [.int th, .ref b0, .ref b1, .ref b2, .ref b3, .int 0, .int 0, .long 0])), (b2, .inr (5, [.int 0, .ref dz, .int 0]))] s.heap := hP
  have hl := lv_entry ([.ref mo, .int x1, .int x2, .int x3]) (n := 5) (Nat.le_of_ble_eq_true rfl)
  rw [lg_entry_eq]
  generalize (lg_sl ([.ref mo, .int x1, .int x2, .int x3]) ++ List.replicate (5 - (lg_sl ([.ref mo, .int x1, .int x2, .int x3])).length) Slot.unset).toArray = ls at hl ⊢
  have hl : lv_has ls 5 [(0, .ref mo), (1, .int x1), (2, .int x2), (3, .int x3)] := hl
  refine lv_aload_n hx hb dX17_enter_0 rfl (lv_at hl 0 rfl) ?_
  refine lv_iload_n hx hb dX17_enter_1 rfl (lv_at hl 1 rfl) ?_
  refine lv_iload_n hx hb dX17_enter_2 rfl (lv_at hl 2 rfl) ?_
  have hPc := hP.sub (ws' := [(mo, .inr (23, [.int th, .ref b0, .ref b1, .ref b2, .ref b3, .int 0, .int 0, .long 0])), (b2, .inr (5, [.int 0, .ref dz, .int 0]))]) [0, 1] rfl
  have hDc := hD.sub (ws' := [(mo, .inr (23, [.int th, .ref b0, .ref b1, .ref b2, .ref b3, .int 0, .int 0, .long 0])), (b2, .inr (5, [.int 0, .ref dz, .int 0]))]) [0, 1] (by decide) rfl
  have hKc := hK.sub (tys' := []) [] rfl
  have hFc := va_free (wc := [(mo, .inr (23, [.int th, .ref b0, .ref b1, .ref b2, .ref b3, .int 0, .int 0, .long 0])), (b2, .inr (5, [.int 0, .ref dz, .int 0]))]) hD hS hA [0, 1] rfl
  refine va_calli (va_runV (As := [.int x1, .int x2]) (rest := []) ⟨hx, hb, hml, hown, hts⟩ (cm_noPair l hst D s.heap.size mo b0 b1 b2 b3 dz th x1 x2) (cwV 2 hts (goodIn_app (goodIn_of _ (by decide +kernel)) (goodIn_sub (fun _ h => List.mem_cons_of_mem _ (List.mem_append_right _ (List.mem_append_left _ h))) zX17_noPair_ws_good)) rfl rfl rfl (by decide +kernel) ⟨Nat.le_of_ble_eq_true rfl, Nat.le_of_ble_eq_true rfl⟩) ⟨zPre.blind, va_recv hKc hPc (ci := 23) (q0 := 0) rfl rfl, zPre.mk hPc hKc hDc hz hS (fun q h => hFc q h)⟩ rfl rfl hl.1 rfl (lv_room (Nat.le_of_ble_eq_true rfl)) dX17_enter_3 ⟨Nat.le_of_ble_eq_true rfl, Nat.le_of_ble_eq_true rfl⟩) hS (fun q _ h => hFc q h) (fun q h => hFc q h) (fun r9 u t H1 locs ht9 hvm hw hB hz1 hk1 hS => ?_)
  refine W.widen (k := 0) (n := 0) (by omega) (by omega) ?_
  obtain ⟨hP1, hK1, hD1⟩ := hB
  rw [ht9] at hP1
  have hK1 := va_K.moved hvm.symm hK1
  obtain ⟨hP, hD⟩ := va_join (wr := []) (w1 := [(mo, .inr (23, [.int 1, .ref b0, .ref b1, .ref b2, .ref b3, .int 0, .int 0, .long 0])), (b2, .inr (5, [.int 0, .ref dz, .int 0]))]) hP hD [0, 1] [] rfl rfl (by decide) (by decide) hk1 hFc hP1 hD1
  have hK := (hK.sub (tys' := []) [] rfl).app hK1
  generalize H1 = H at hP hS ⊢
  have hP : va_P D vwCl [(mo, .inr (23, [.int 1, .ref b0, .ref b1, .ref b2, .ref b3, .int 0, .int 0, .long 0])), (b2, .inr (5, [.int 0, .ref dz, .int 0]))] H := hP
  have hD : va_D A [(mo, .inr (23, [.int 1, .ref b0, .ref b1, .ref b2, .ref b3, .int 0, .int 0, .long 0])), (b2, .inr (5, [.int 0, .ref dz, .int 0]))] := hD
  have hK : va_K D vwCl [] s := hK
  subst hw
  refine lv_if_eq (tgt := 11) hx hb dX17_enter_6 (by decide) (fun c => absurd c (by decide)) (fun _ => ?_)
  refine lv_iconst (v := 0) hx hb dX17_enter_9 (by decide) ?_
  have hP9 := hP.sub (ws' := [(mo, .inr (23, [.int 1, .ref b0, .ref b1, .ref b2, .ref b3, .int 0, .int 0, .long 0])), (b2, .inr (5, [.int 0, .ref dz, .int 0]))]) [0, 1] rfl
  have hD9 := hD.sub (ws' := [(mo, .inr (23, [.int 1, .ref b0, .ref b1, .ref b2, .ref b3, .int 0, .int 0, .long 0])), (b2, .inr (5, [.int 0, .ref dz, .int 0]))]) [0, 1] (by decide) rfl
  have hK9 := hK.sub (tys' := []) [] rfl
  rw [← hAe] at hD9
  refine W.widen (k := 0) (n := 0) (by omega) (by omega) ?_
  subst hAe
  exact W.iret (v := 0) hx hb hr (fun t ht9 hW => ⟨⟨0, (), rfl, rfl, ⟨by rw [ht9]; exact hP9, va_K.moved hW.alike hK9, hD9⟩⟩, hS.F ht9⟩) hS.2.2 dX17_enter_10

def zX17_withdraw_ws : List Cond := .code yX17_withdraw cX17_withdraw 7 (some .boolean) :: ([.methodLink RX17 95 yX17_noPair, .instanceMethod yX17_noPair, .selects RX17 yX17_noPair yX17_noPair, .initialized RX17] ++ (zX17_noPair_ws ++ ([])))
theorem zX17_withdraw_ws_good : zX17_withdraw_ws.all goodWord = true := by decide +kernel
set_option maxHeartbeats 4000000 in
set_option maxRecDepth 100000 in
/-- the reference refuses withdraw -/
theorem cm_withdraw (l : Launch) (hst : l.stackTraces = false) (D : va_G) (sz : Nat) (mo b0 b1 b2 b3 dz : Nat) (th : Int32) (x1 x2 x3 : Int32) : Met l yX17_withdraw zX17_withdraw_ws (zR 4 0 0) (zPre [.ref mo, .int x1, .int x2, .int x3] D [(mo, .inr (23, [.int th, .ref b0, .ref b1, .ref b2, .ref b3, .int 0, .int 0, .long 0])), (b2, .inr (5, [.int 0, .ref dz, .int 0]))] [] (va_A [(mo, .inr (23, [.int th, .ref b0, .ref b1, .ref b2, .ref b3, .int 0, .int 0, .long 0])), (b2, .inr (5, [.int 0, .ref dz, .int 0]))] sz) sz) (va_Qi (S := Unit) (fun r _ => r = 0) (fun _ t => zAt D [(mo, .inr (23, [.int 1, .ref b0, .ref b1, .ref b2, .ref b3, .int 0, .int 0, .long 0])), (b2, .inr (5, [.int 0, .ref dz, .int 0]))] [] (va_A [(mo, .inr (23, [.int th, .ref b0, .ref b1, .ref b2, .ref b3, .int 0, .int 0, .long 0])), (b2, .inr (5, [.int 0, .ref dz, .int 0]))] sz) t) (va_A [(mo, .inr (23, [.int th, .ref b0, .ref b1, .ref b2, .ref b3, .int 0, .int 0, .long 0])), (b2, .inr (5, [.int 0, .ref dz, .int 0]))] sz)) 0 0 (va_A [(mo, .inr (23, [.int th, .ref b0, .ref b1, .ref b2, .ref b3, .int 0, .int 0, .long 0])), (b2, .inr (5, [.int 0, .ref dz, .int 0]))] sz) := by
  refine Met.ofW (cc := cX17_withdraw) (maxL := 7) (ret := (some .boolean)) (by decide) rfl ?_
  intro p e s m args below meth c s₁ B hml hv
  obtain ⟨rfl, hsz, hP, hK, hD0, hz⟩ := hv
  have hx := B.exec
  have hb := B.bytes
  have hr := B.returns
  have hts := atoms_spec (ws := zX17_withdraw_ws) B.pre
  have hown : s.vm.findClass RX17 = some m.cls := findClass_of_methodNamed B.named
  have hlocks := B.notSynchronized
  subst hsz
  have hD := hD0.self (sz := s.heap.size)
  generalize hAe : va_A [(mo, .inr (23, [.int th, .ref b0, .ref b1, .ref b2, .ref b3, .int 0, .int 0, .long 0])), (b2, .inr (5, [.int 0, .ref dz, .int 0]))] s.heap.size = A at hD hz ⊢
  have hA : ∀ q : Nat, s.heap.size ≤ q → A q := fun q h => by rw [← hAe]; exact Or.inr h
  have hS : va_S A s.heap s.heap [] := va_S.rf
  have hP : va_P D vwCl [(mo, .inr (23, [.int th, .ref b0, .ref b1, .ref b2, .ref b3, .int 0, .int 0, .long 0])), (b2, .inr (5, [.int 0, .ref dz, .int 0]))] s.heap := hP
  have hl := lv_entry ([.ref mo, .int x1, .int x2, .int x3]) (n := 7) (Nat.le_of_ble_eq_true rfl)
  rw [lg_entry_eq]
  generalize (lg_sl ([.ref mo, .int x1, .int x2, .int x3]) ++ List.replicate (7 - (lg_sl ([.ref mo, .int x1, .int x2, .int x3])).length) Slot.unset).toArray = ls at hl ⊢
  have hl : lv_has ls 7 [(0, .ref mo), (1, .int x1), (2, .int x2), (3, .int x3)] := hl
  refine lv_aload_n hx hb dX17_withdraw_0 rfl (lv_at hl 0 rfl) ?_
  refine lv_iload_n hx hb dX17_withdraw_1 rfl (lv_at hl 1 rfl) ?_
  refine lv_iload_n hx hb dX17_withdraw_2 rfl (lv_at hl 2 rfl) ?_
  have hPc := hP.sub (ws' := [(mo, .inr (23, [.int th, .ref b0, .ref b1, .ref b2, .ref b3, .int 0, .int 0, .long 0])), (b2, .inr (5, [.int 0, .ref dz, .int 0]))]) [0, 1] rfl
  have hDc := hD.sub (ws' := [(mo, .inr (23, [.int th, .ref b0, .ref b1, .ref b2, .ref b3, .int 0, .int 0, .long 0])), (b2, .inr (5, [.int 0, .ref dz, .int 0]))]) [0, 1] (by decide) rfl
  have hKc := hK.sub (tys' := []) [] rfl
  have hFc := va_free (wc := [(mo, .inr (23, [.int th, .ref b0, .ref b1, .ref b2, .ref b3, .int 0, .int 0, .long 0])), (b2, .inr (5, [.int 0, .ref dz, .int 0]))]) hD hS hA [0, 1] rfl
  refine va_calli (va_runV (As := [.int x1, .int x2]) (rest := []) ⟨hx, hb, hml, hown, hts⟩ (cm_noPair l hst D s.heap.size mo b0 b1 b2 b3 dz th x1 x2) (cwV 2 hts (goodIn_app (goodIn_of _ (by decide +kernel)) (goodIn_sub (fun _ h => List.mem_cons_of_mem _ (List.mem_append_right _ (List.mem_append_left _ h))) zX17_noPair_ws_good)) rfl rfl rfl (by decide +kernel) ⟨Nat.le_of_ble_eq_true rfl, Nat.le_of_ble_eq_true rfl⟩) ⟨zPre.blind, va_recv hKc hPc (ci := 23) (q0 := 0) rfl rfl, zPre.mk hPc hKc hDc hz hS (fun q h => hFc q h)⟩ rfl rfl hl.1 rfl (lv_room (Nat.le_of_ble_eq_true rfl)) dX17_withdraw_3 ⟨Nat.le_of_ble_eq_true rfl, Nat.le_of_ble_eq_true rfl⟩) hS (fun q _ h => hFc q h) (fun q h => hFc q h) (fun r9 u t H1 locs ht9 hvm hw hB hz1 hk1 hS => ?_)
  refine W.widen (k := 0) (n := 0) (by omega) (by omega) ?_
  obtain ⟨hP1, hK1, hD1⟩ := hB
  rw [ht9] at hP1
  have hK1 := va_K.moved hvm.symm hK1
  obtain ⟨hP, hD⟩ := va_join (wr := []) (w1 := [(mo, .inr (23, [.int 1, .ref b0, .ref b1, .ref b2, .ref b3, .int 0, .int 0, .long 0])), (b2, .inr (5, [.int 0, .ref dz, .int 0]))]) hP hD [0, 1] [] rfl rfl (by decide) (by decide) hk1 hFc hP1 hD1
  have hK := (hK.sub (tys' := []) [] rfl).app hK1
  generalize H1 = H at hP hS ⊢
  have hP : va_P D vwCl [(mo, .inr (23, [.int 1, .ref b0, .ref b1, .ref b2, .ref b3, .int 0, .int 0, .long 0])), (b2, .inr (5, [.int 0, .ref dz, .int 0]))] H := hP
  have hD : va_D A [(mo, .inr (23, [.int 1, .ref b0, .ref b1, .ref b2, .ref b3, .int 0, .int 0, .long 0])), (b2, .inr (5, [.int 0, .ref dz, .int 0]))] := hD
  have hK : va_K D vwCl [] s := hK
  subst hw
  refine lv_if_eq (tgt := 11) hx hb dX17_withdraw_6 (by decide) (fun c => absurd c (by decide)) (fun _ => ?_)
  refine lv_iconst (v := 0) hx hb dX17_withdraw_9 (by decide) ?_
  have hP9 := hP.sub (ws' := [(mo, .inr (23, [.int 1, .ref b0, .ref b1, .ref b2, .ref b3, .int 0, .int 0, .long 0])), (b2, .inr (5, [.int 0, .ref dz, .int 0]))]) [0, 1] rfl
  have hD9 := hD.sub (ws' := [(mo, .inr (23, [.int 1, .ref b0, .ref b1, .ref b2, .ref b3, .int 0, .int 0, .long 0])), (b2, .inr (5, [.int 0, .ref dz, .int 0]))]) [0, 1] (by decide) rfl
  have hK9 := hK.sub (tys' := []) [] rfl
  rw [← hAe] at hD9
  refine W.widen (k := 0) (n := 0) (by omega) (by omega) ?_
  subst hAe
  exact W.zret (v := 0) hx hb hr rfl (fun t ht9 hW => ⟨⟨0, (), rfl, rfl, ⟨by rw [ht9]; exact hP9, va_K.moved hW.alike hK9, hD9⟩⟩, hS.F ht9⟩) hS.2.2 dX17_withdraw_10

def zX17_field_ws : List Cond := .code yX17_field cX17_field 2 (some .int) :: ([.methodLink RX17 146 yX17_noEvent, .instanceMethod yX17_noEvent, .selects RX17 yX17_noEvent yX17_noEvent, .initialized RX17] ++ (zX17_noEvent_ws ++ ([])))
theorem zX17_field_ws_good : zX17_field_ws.all goodWord = true := by decide +kernel
set_option maxHeartbeats 4000000 in
set_option maxRecDepth 100000 in
/-- the reference refuses field -/
theorem cm_field (l : Launch) (hst : l.stackTraces = false) (D : va_G) (sz : Nat) (mo b0 b1 b2 b3 dz : Nat) (th : Int32) (x1 : Int32) : Met l yX17_field zX17_field_ws (zR 4 0 0) (zPre [.ref mo, .int x1] D [(mo, .inr (23, [.int th, .ref b0, .ref b1, .ref b2, .ref b3, .int 0, .int 0, .long 0])), (b2, .inr (5, [.int 0, .ref dz, .int 0]))] [] (va_A [(mo, .inr (23, [.int th, .ref b0, .ref b1, .ref b2, .ref b3, .int 0, .int 0, .long 0])), (b2, .inr (5, [.int 0, .ref dz, .int 0]))] sz) sz) (va_Qi (S := Unit) (fun r _ => r = 0) (fun _ t => zAt D [(mo, .inr (23, [.int 1, .ref b0, .ref b1, .ref b2, .ref b3, .int 0, .int 0, .long 0])), (b2, .inr (5, [.int 0, .ref dz, .int 0]))] [] (va_A [(mo, .inr (23, [.int th, .ref b0, .ref b1, .ref b2, .ref b3, .int 0, .int 0, .long 0])), (b2, .inr (5, [.int 0, .ref dz, .int 0]))] sz) t) (va_A [(mo, .inr (23, [.int th, .ref b0, .ref b1, .ref b2, .ref b3, .int 0, .int 0, .long 0])), (b2, .inr (5, [.int 0, .ref dz, .int 0]))] sz)) 0 0 (va_A [(mo, .inr (23, [.int th, .ref b0, .ref b1, .ref b2, .ref b3, .int 0, .int 0, .long 0])), (b2, .inr (5, [.int 0, .ref dz, .int 0]))] sz) := by
  refine Met.ofW (cc := cX17_field) (maxL := 2) (ret := (some .int)) (by decide) rfl ?_
  intro p e s m args below meth c s₁ B hml hv
  obtain ⟨rfl, hsz, hP, hK, hD0, hz⟩ := hv
  have hx := B.exec
  have hb := B.bytes
  have hr := B.returns
  have hts := atoms_spec (ws := zX17_field_ws) B.pre
  have hown : s.vm.findClass RX17 = some m.cls := findClass_of_methodNamed B.named
  have hlocks := B.notSynchronized
  subst hsz
  have hD := hD0.self (sz := s.heap.size)
  generalize hAe : va_A [(mo, .inr (23, [.int th, .ref b0, .ref b1, .ref b2, .ref b3, .int 0, .int 0, .long 0])), (b2, .inr (5, [.int 0, .ref dz, .int 0]))] s.heap.size = A at hD hz ⊢
  have hA : ∀ q : Nat, s.heap.size ≤ q → A q := fun q h => by rw [← hAe]; exact Or.inr h
  have hS : va_S A s.heap s.heap [] := va_S.rf
  have hP : va_P D vwCl [(mo, .inr (23, [.int th, .ref b0, .ref b1, .ref b2, .ref b3, .int 0, .int 0, .long 0])), (b2, .inr (5, [.int 0, .ref dz, .int 0]))] s.heap := hP
  have hl := lv_entry ([.ref mo, .int x1]) (n := 2) (Nat.le_of_ble_eq_true rfl)
  rw [lg_entry_eq]
  generalize (lg_sl ([.ref mo, .int x1]) ++ List.replicate (2 - (lg_sl ([.ref mo, .int x1])).length) Slot.unset).toArray = ls at hl ⊢
  have hl : lv_has ls 2 [(0, .ref mo), (1, .int x1)] := hl
  refine lv_aload_n hx hb dX17_field_0 rfl (lv_at hl 0 rfl) ?_
  refine lv_iload_n hx hb dX17_field_1 rfl (lv_at hl 1 rfl) ?_
  have hPc := hP.sub (ws' := [(mo, .inr (23, [.int th, .ref b0, .ref b1, .ref b2, .ref b3, .int 0, .int 0, .long 0])), (b2, .inr (5, [.int 0, .ref dz, .int 0]))]) [0, 1] rfl
  have hDc := hD.sub (ws' := [(mo, .inr (23, [.int th, .ref b0, .ref b1, .ref b2, .ref b3, .int 0, .int 0, .long 0])), (b2, .inr (5, [.int 0, .ref dz, .int 0]))]) [0, 1] (by decide) rfl
  have hKc := hK.sub (tys' := []) [] rfl
  have hFc := va_free (wc := [(mo, .inr (23, [.int th, .ref b0, .ref b1, .ref b2, .ref b3, .int 0, .int 0, .long 0])), (b2, .inr (5, [.int 0, .ref dz, .int 0]))]) hD hS hA [0, 1] rfl
  refine va_calli (va_runV (As := [.int x1]) (rest := []) ⟨hx, hb, hml, hown, hts⟩ (cm_noEvent l hst D s.heap.size mo b0 b1 b2 b3 dz th x1) (cwV 1 hts (goodIn_app (goodIn_of _ (by decide +kernel)) (goodIn_sub (fun _ h => List.mem_cons_of_mem _ (List.mem_append_right _ (List.mem_append_left _ h))) zX17_noEvent_ws_good)) rfl rfl rfl (by decide +kernel) ⟨Nat.le_of_ble_eq_true rfl, Nat.le_of_ble_eq_true rfl⟩) ⟨zPre.blind, va_recv hKc hPc (ci := 23) (q0 := 0) rfl rfl, zPre.mk hPc hKc hDc hz hS (fun q h => hFc q h)⟩ rfl rfl hl.1 rfl (lv_room (Nat.le_of_ble_eq_true rfl)) dX17_field_2 ⟨Nat.le_of_ble_eq_true rfl, Nat.le_of_ble_eq_true rfl⟩) hS (fun q _ h => hFc q h) (fun q h => hFc q h) (fun r9 u t H1 locs ht9 hvm hw hB hz1 hk1 hS => ?_)
  refine W.widen (k := 0) (n := 0) (by omega) (by omega) ?_
  obtain ⟨hP1, hK1, hD1⟩ := hB
  rw [ht9] at hP1
  have hK1 := va_K.moved hvm.symm hK1
  obtain ⟨hP, hD⟩ := va_join (wr := []) (w1 := [(mo, .inr (23, [.int 1, .ref b0, .ref b1, .ref b2, .ref b3, .int 0, .int 0, .long 0])), (b2, .inr (5, [.int 0, .ref dz, .int 0]))]) hP hD [0, 1] [] rfl rfl (by decide) (by decide) hk1 hFc hP1 hD1
  have hK := (hK.sub (tys' := []) [] rfl).app hK1
  generalize H1 = H at hP hS ⊢
  have hP : va_P D vwCl [(mo, .inr (23, [.int 1, .ref b0, .ref b1, .ref b2, .ref b3, .int 0, .int 0, .long 0])), (b2, .inr (5, [.int 0, .ref dz, .int 0]))] H := hP
  have hD : va_D A [(mo, .inr (23, [.int 1, .ref b0, .ref b1, .ref b2, .ref b3, .int 0, .int 0, .long 0])), (b2, .inr (5, [.int 0, .ref dz, .int 0]))] := hD
  have hK : va_K D vwCl [] s := hK
  subst hw
  refine lv_if_eq (tgt := 12) hx hb dX17_field_5 (by decide) (fun c => absurd c (by decide)) (fun _ => ?_)
  refine lv_iconst (v := 0) hx hb dX17_field_8 (by decide) ?_
  refine lv_goto (tgt := 30) hx hb dX17_field_9 (by decide) ?_
  have hP9 := hP.sub (ws' := [(mo, .inr (23, [.int 1, .ref b0, .ref b1, .ref b2, .ref b3, .int 0, .int 0, .long 0])), (b2, .inr (5, [.int 0, .ref dz, .int 0]))]) [0, 1] rfl
  have hD9 := hD.sub (ws' := [(mo, .inr (23, [.int 1, .ref b0, .ref b1, .ref b2, .ref b3, .int 0, .int 0, .long 0])), (b2, .inr (5, [.int 0, .ref dz, .int 0]))]) [0, 1] (by decide) rfl
  have hK9 := hK.sub (tys' := []) [] rfl
  rw [← hAe] at hD9
  refine W.widen (k := 0) (n := 0) (by omega) (by omega) ?_
  subst hAe
  exact W.iret (v := 0) hx hb hr (fun t ht9 hW => ⟨⟨0, (), rfl, rfl, ⟨by rw [ht9]; exact hP9, va_K.moved hW.alike hK9, hD9⟩⟩, hS.F ht9⟩) hS.2.2 dX17_field_30

def zX17_inField_ws : List Cond := .code yX17_inField cX17_inField 4 (some .int) :: ([.methodLink RX17 146 yX17_noEvent, .instanceMethod yX17_noEvent, .selects RX17 yX17_noEvent yX17_noEvent, .initialized RX17] ++ (zX17_noEvent_ws ++ ([])))
theorem zX17_inField_ws_good : zX17_inField_ws.all goodWord = true := by decide +kernel
set_option maxHeartbeats 4000000 in
set_option maxRecDepth 100000 in
/-- the reference refuses inField -/
theorem cm_inField (l : Launch) (hst : l.stackTraces = false) (D : va_G) (sz : Nat) (mo b0 b1 b2 b3 dz : Nat) (th : Int32) (x1 x2 : Int32) : Met l yX17_inField zX17_inField_ws (zR 4 0 0) (zPre [.ref mo, .int x1, .int x2] D [(mo, .inr (23, [.int th, .ref b0, .ref b1, .ref b2, .ref b3, .int 0, .int 0, .long 0])), (b2, .inr (5, [.int 0, .ref dz, .int 0]))] [] (va_A [(mo, .inr (23, [.int th, .ref b0, .ref b1, .ref b2, .ref b3, .int 0, .int 0, .long 0])), (b2, .inr (5, [.int 0, .ref dz, .int 0]))] sz) sz) (va_Qi (S := Unit) (fun r _ => r = 0) (fun _ t => zAt D [(mo, .inr (23, [.int 1, .ref b0, .ref b1, .ref b2, .ref b3, .int 0, .int 0, .long 0])), (b2, .inr (5, [.int 0, .ref dz, .int 0]))] [] (va_A [(mo, .inr (23, [.int th, .ref b0, .ref b1, .ref b2, .ref b3, .int 0, .int 0, .long 0])), (b2, .inr (5, [.int 0, .ref dz, .int 0]))] sz) t) (va_A [(mo, .inr (23, [.int th, .ref b0, .ref b1, .ref b2, .ref b3, .int 0, .int 0, .long 0])), (b2, .inr (5, [.int 0, .ref dz, .int 0]))] sz)) 0 0 (va_A [(mo, .inr (23, [.int th, .ref b0, .ref b1, .ref b2, .ref b3, .int 0, .int 0, .long 0])), (b2, .inr (5, [.int 0, .ref dz, .int 0]))] sz) := by
  refine Met.ofW (cc := cX17_inField) (maxL := 4) (ret := (some .int)) (by decide) rfl ?_
  intro p e s m args below meth c s₁ B hml hv
  obtain ⟨rfl, hsz, hP, hK, hD0, hz⟩ := hv
  have hx := B.exec
  have hb := B.bytes
  have hr := B.returns
  have hts := atoms_spec (ws := zX17_inField_ws) B.pre
  have hown : s.vm.findClass RX17 = some m.cls := findClass_of_methodNamed B.named
  have hlocks := B.notSynchronized
  subst hsz
  have hD := hD0.self (sz := s.heap.size)
  generalize hAe : va_A [(mo, .inr (23, [.int th, .ref b0, .ref b1, .ref b2, .ref b3, .int 0, .int 0, .long 0])), (b2, .inr (5, [.int 0, .ref dz, .int 0]))] s.heap.size = A at hD hz ⊢
  have hA : ∀ q : Nat, s.heap.size ≤ q → A q := fun q h => by rw [← hAe]; exact Or.inr h
  have hS : va_S A s.heap s.heap [] := va_S.rf
  have hP : va_P D vwCl [(mo, .inr (23, [.int th, .ref b0, .ref b1, .ref b2, .ref b3, .int 0, .int 0, .long 0])), (b2, .inr (5, [.int 0, .ref dz, .int 0]))] s.heap := hP
  have hl := lv_entry ([.ref mo, .int x1, .int x2]) (n := 4) (Nat.le_of_ble_eq_true rfl)
  rw [lg_entry_eq]
  generalize (lg_sl ([.ref mo, .int x1, .int x2]) ++ List.replicate (4 - (lg_sl ([.ref mo, .int x1, .int x2])).length) Slot.unset).toArray = ls at hl ⊢
  have hl : lv_has ls 4 [(0, .ref mo), (1, .int x1), (2, .int x2)] := hl
  refine lv_aload_n hx hb dX17_inField_0 rfl (lv_at hl 0 rfl) ?_
  refine lv_iload_n hx hb dX17_inField_1 rfl (lv_at hl 1 rfl) ?_
  have hPc := hP.sub (ws' := [(mo, .inr (23, [.int th, .ref b0, .ref b1, .ref b2, .ref b3, .int 0, .int 0, .long 0])), (b2, .inr (5, [.int 0, .ref dz, .int 0]))]) [0, 1] rfl
  have hDc := hD.sub (ws' := [(mo, .inr (23, [.int th, .ref b0, .ref b1, .ref b2, .ref b3, .int 0, .int 0, .long 0])), (b2, .inr (5, [.int 0, .ref dz, .int 0]))]) [0, 1] (by decide) rfl
  have hKc := hK.sub (tys' := []) [] rfl
  have hFc := va_free (wc := [(mo, .inr (23, [.int th, .ref b0, .ref b1, .ref b2, .ref b3, .int 0, .int 0, .long 0])), (b2, .inr (5, [.int 0, .ref dz, .int 0]))]) hD hS hA [0, 1] rfl
  refine va_calli (va_runV (As := [.int x1]) (rest := []) ⟨hx, hb, hml, hown, hts⟩ (cm_noEvent l hst D s.heap.size mo b0 b1 b2 b3 dz th x1) (cwV 1 hts (goodIn_app (goodIn_of _ (by decide +kernel)) (goodIn_sub (fun _ h => List.mem_cons_of_mem _ (List.mem_append_right _ (List.mem_append_left _ h))) zX17_noEvent_ws_good)) rfl rfl rfl (by decide +kernel) ⟨Nat.le_of_ble_eq_true rfl, Nat.le_of_ble_eq_true rfl⟩) ⟨zPre.blind, va_recv hKc hPc (ci := 23) (q0 := 0) rfl rfl, zPre.mk hPc hKc hDc hz hS (fun q h => hFc q h)⟩ rfl rfl hl.1 rfl (lv_room (Nat.le_of_ble_eq_true rfl)) dX17_inField_2 ⟨Nat.le_of_ble_eq_true rfl, Nat.le_of_ble_eq_true rfl⟩) hS (fun q _ h => hFc q h) (fun q h => hFc q h) (fun r9 u t H1 locs ht9 hvm hw hB hz1 hk1 hS => ?_)
  refine W.widen (k := 0) (n := 0) (by omega) (by omega) ?_
  obtain ⟨hP1, hK1, hD1⟩ := hB
  rw [ht9] at hP1
  have hK1 := va_K.moved hvm.symm hK1
  obtain ⟨hP, hD⟩ := va_join (wr := []) (w1 := [(mo, .inr (23, [.int 1, .ref b0, .ref b1, .ref b2, .ref b3, .int 0, .int 0, .long 0])), (b2, .inr (5, [.int 0, .ref dz, .int 0]))]) hP hD [0, 1] [] rfl rfl (by decide) (by decide) hk1 hFc hP1 hD1
  have hK := (hK.sub (tys' := []) [] rfl).app hK1
  generalize H1 = H at hP hS ⊢
  have hP : va_P D vwCl [(mo, .inr (23, [.int 1, .ref b0, .ref b1, .ref b2, .ref b3, .int 0, .int 0, .long 0])), (b2, .inr (5, [.int 0, .ref dz, .int 0]))] H := hP
  have hD : va_D A [(mo, .inr (23, [.int 1, .ref b0, .ref b1, .ref b2, .ref b3, .int 0, .int 0, .long 0])), (b2, .inr (5, [.int 0, .ref dz, .int 0]))] := hD
  have hK : va_K D vwCl [] s := hK
  subst hw
  refine lv_if_eq (tgt := 10) hx hb dX17_inField_5 (by decide) (fun c => absurd c (by decide)) (fun _ => ?_)
  refine lv_iconst (v := 0) hx hb dX17_inField_8 (by decide) ?_
  have hP9 := hP.sub (ws' := [(mo, .inr (23, [.int 1, .ref b0, .ref b1, .ref b2, .ref b3, .int 0, .int 0, .long 0])), (b2, .inr (5, [.int 0, .ref dz, .int 0]))]) [0, 1] rfl
  have hD9 := hD.sub (ws' := [(mo, .inr (23, [.int 1, .ref b0, .ref b1, .ref b2, .ref b3, .int 0, .int 0, .long 0])), (b2, .inr (5, [.int 0, .ref dz, .int 0]))]) [0, 1] (by decide) rfl
  have hK9 := hK.sub (tys' := []) [] rfl
  rw [← hAe] at hD9
  refine W.widen (k := 0) (n := 0) (by omega) (by omega) ?_
  subst hAe
  exact W.iret (v := 0) hx hb hr (fun t ht9 hW => ⟨⟨0, (), rfl, rfl, ⟨by rw [ht9]; exact hP9, va_K.moved hW.alike hK9, hD9⟩⟩, hS.F ht9⟩) hS.2.2 dX17_inField_9

def zX17_heatOf_ws : List Cond := .code yX17_heatOf cX17_heatOf 6 (some .int) :: ([.methodLink RX17 95 yX17_noPair, .instanceMethod yX17_noPair, .selects RX17 yX17_noPair yX17_noPair, .initialized RX17] ++ (zX17_noPair_ws ++ ([])))
theorem zX17_heatOf_ws_good : zX17_heatOf_ws.all goodWord = true := by decide +kernel
set_option maxHeartbeats 4000000 in
set_option maxRecDepth 100000 in
/-- the reference refuses heatOf -/
theorem cm_heatOf (l : Launch) (hst : l.stackTraces = false) (D : va_G) (sz : Nat) (mo b0 b1 b2 b3 dz : Nat) (th : Int32) (x1 x2 : Int32) : Met l yX17_heatOf zX17_heatOf_ws (zR 4 0 0) (zPre [.ref mo, .int x1, .int x2] D [(mo, .inr (23, [.int th, .ref b0, .ref b1, .ref b2, .ref b3, .int 0, .int 0, .long 0])), (b2, .inr (5, [.int 0, .ref dz, .int 0]))] [] (va_A [(mo, .inr (23, [.int th, .ref b0, .ref b1, .ref b2, .ref b3, .int 0, .int 0, .long 0])), (b2, .inr (5, [.int 0, .ref dz, .int 0]))] sz) sz) (va_Qi (S := Unit) (fun r _ => r = 0) (fun _ t => zAt D [(mo, .inr (23, [.int 1, .ref b0, .ref b1, .ref b2, .ref b3, .int 0, .int 0, .long 0])), (b2, .inr (5, [.int 0, .ref dz, .int 0]))] [] (va_A [(mo, .inr (23, [.int th, .ref b0, .ref b1, .ref b2, .ref b3, .int 0, .int 0, .long 0])), (b2, .inr (5, [.int 0, .ref dz, .int 0]))] sz) t) (va_A [(mo, .inr (23, [.int th, .ref b0, .ref b1, .ref b2, .ref b3, .int 0, .int 0, .long 0])), (b2, .inr (5, [.int 0, .ref dz, .int 0]))] sz)) 0 0 (va_A [(mo, .inr (23, [.int th, .ref b0, .ref b1, .ref b2, .ref b3, .int 0, .int 0, .long 0])), (b2, .inr (5, [.int 0, .ref dz, .int 0]))] sz) := by
  refine Met.ofW (cc := cX17_heatOf) (maxL := 6) (ret := (some .int)) (by decide) rfl ?_
  intro p e s m args below meth c s₁ B hml hv
  obtain ⟨rfl, hsz, hP, hK, hD0, hz⟩ := hv
  have hx := B.exec
  have hb := B.bytes
  have hr := B.returns
  have hts := atoms_spec (ws := zX17_heatOf_ws) B.pre
  have hown : s.vm.findClass RX17 = some m.cls := findClass_of_methodNamed B.named
  have hlocks := B.notSynchronized
  subst hsz
  have hD := hD0.self (sz := s.heap.size)
  generalize hAe : va_A [(mo, .inr (23, [.int th, .ref b0, .ref b1, .ref b2, .ref b3, .int 0, .int 0, .long 0])), (b2, .inr (5, [.int 0, .ref dz, .int 0]))] s.heap.size = A at hD hz ⊢
  have hA : ∀ q : Nat, s.heap.size ≤ q → A q := fun q h => by rw [← hAe]; exact Or.inr h
  have hS : va_S A s.heap s.heap [] := va_S.rf
  have hP : va_P D vwCl [(mo, .inr (23, [.int th, .ref b0, .ref b1, .ref b2, .ref b3, .int 0, .int 0, .long 0])), (b2, .inr (5, [.int 0, .ref dz, .int 0]))] s.heap := hP
  have hl := lv_entry ([.ref mo, .int x1, .int x2]) (n := 6) (Nat.le_of_ble_eq_true rfl)
  rw [lg_entry_eq]
  generalize (lg_sl ([.ref mo, .int x1, .int x2]) ++ List.replicate (6 - (lg_sl ([.ref mo, .int x1, .int x2])).length) Slot.unset).toArray = ls at hl ⊢
  have hl : lv_has ls 6 [(0, .ref mo), (1, .int x1), (2, .int x2)] := hl
  refine lv_aload_n hx hb dX17_heatOf_0 rfl (lv_at hl 0 rfl) ?_
  refine lv_iload_n hx hb dX17_heatOf_1 rfl (lv_at hl 1 rfl) ?_
  refine lv_iload_n hx hb dX17_heatOf_2 rfl (lv_at hl 2 rfl) ?_
  have hPc := hP.sub (ws' := [(mo, .inr (23, [.int th, .ref b0, .ref b1, .ref b2, .ref b3, .int 0, .int 0, .long 0])), (b2, .inr (5, [.int 0, .ref dz, .int 0]))]) [0, 1] rfl
  have hDc := hD.sub (ws' := [(mo, .inr (23, [.int th, .ref b0, .ref b1, .ref b2, .ref b3, .int 0, .int 0, .long 0])), (b2, .inr (5, [.int 0, .ref dz, .int 0]))]) [0, 1] (by decide) rfl
  have hKc := hK.sub (tys' := []) [] rfl
  have hFc := va_free (wc := [(mo, .inr (23, [.int th, .ref b0, .ref b1, .ref b2, .ref b3, .int 0, .int 0, .long 0])), (b2, .inr (5, [.int 0, .ref dz, .int 0]))]) hD hS hA [0, 1] rfl
  refine va_calli (va_runV (As := [.int x1, .int x2]) (rest := []) ⟨hx, hb, hml, hown, hts⟩ (cm_noPair l hst D s.heap.size mo b0 b1 b2 b3 dz th x1 x2) (cwV 2 hts (goodIn_app (goodIn_of _ (by decide +kernel)) (goodIn_sub (fun _ h => List.mem_cons_of_mem _ (List.mem_append_right _ (List.mem_append_left _ h))) zX17_noPair_ws_good)) rfl rfl rfl (by decide +kernel) ⟨Nat.le_of_ble_eq_true rfl, Nat.le_of_ble_eq_true rfl⟩) ⟨zPre.blind, va_recv hKc hPc (ci := 23) (q0 := 0) rfl rfl, zPre.mk hPc hKc hDc hz hS (fun q h => hFc q h)⟩ rfl rfl hl.1 rfl (lv_room (Nat.le_of_ble_eq_true rfl)) dX17_heatOf_3 ⟨Nat.le_of_ble_eq_true rfl, Nat.le_of_ble_eq_true rfl⟩) hS (fun q _ h => hFc q h) (fun q h => hFc q h) (fun r9 u t H1 locs ht9 hvm hw hB hz1 hk1 hS => ?_)
  refine W.widen (k := 0) (n := 0) (by omega) (by omega) ?_
  obtain ⟨hP1, hK1, hD1⟩ := hB
  rw [ht9] at hP1
  have hK1 := va_K.moved hvm.symm hK1
  obtain ⟨hP, hD⟩ := va_join (wr := []) (w1 := [(mo, .inr (23, [.int 1, .ref b0, .ref b1, .ref b2, .ref b3, .int 0, .int 0, .long 0])), (b2, .inr (5, [.int 0, .ref dz, .int 0]))]) hP hD [0, 1] [] rfl rfl (by decide) (by decide) hk1 hFc hP1 hD1
  have hK := (hK.sub (tys' := []) [] rfl).app hK1
  generalize H1 = H at hP hS ⊢
  have hP : va_P D vwCl [(mo, .inr (23, [.int 1, .ref b0, .ref b1, .ref b2, .ref b3, .int 0, .int 0, .long 0])), (b2, .inr (5, [.int 0, .ref dz, .int 0]))] H := hP
  have hD : va_D A [(mo, .inr (23, [.int 1, .ref b0, .ref b1, .ref b2, .ref b3, .int 0, .int 0, .long 0])), (b2, .inr (5, [.int 0, .ref dz, .int 0]))] := hD
  have hK : va_K D vwCl [] s := hK
  subst hw
  refine lv_if_eq (tgt := 11) hx hb dX17_heatOf_6 (by decide) (fun c => absurd c (by decide)) (fun _ => ?_)
  refine lv_iconst (v := 0) hx hb dX17_heatOf_9 (by decide) ?_
  have hP9 := hP.sub (ws' := [(mo, .inr (23, [.int 1, .ref b0, .ref b1, .ref b2, .ref b3, .int 0, .int 0, .long 0])), (b2, .inr (5, [.int 0, .ref dz, .int 0]))]) [0, 1] rfl
  have hD9 := hD.sub (ws' := [(mo, .inr (23, [.int 1, .ref b0, .ref b1, .ref b2, .ref b3, .int 0, .int 0, .long 0])), (b2, .inr (5, [.int 0, .ref dz, .int 0]))]) [0, 1] (by decide) rfl
  have hK9 := hK.sub (tys' := []) [] rfl
  rw [← hAe] at hD9
  refine W.widen (k := 0) (n := 0) (by omega) (by omega) ?_
  subst hAe
  exact W.iret (v := 0) hx hb hr (fun t ht9 hW => ⟨⟨0, (), rfl, rfl, ⟨by rw [ht9]; exact hP9, va_K.moved hW.alike hK9, hD9⟩⟩, hS.F ht9⟩) hS.2.2 dX17_heatOf_10

def zX17_laneOf_ws : List Cond := .code yX17_laneOf cX17_laneOf 8 (some .int) :: ([.methodLink RX17 210 yX17_race, .instanceMethod yX17_race, .selects RX17 yX17_race yX17_race, .initialized RX17] ++ (zX17_race_ws ++ ([])))
theorem zX17_laneOf_ws_good : zX17_laneOf_ws.all goodWord = true := by decide +kernel
set_option maxHeartbeats 4000000 in
set_option maxRecDepth 100000 in
/-- the reference refuses laneOf -/
theorem cm_laneOf (l : Launch) (hst : l.stackTraces = false) (D : va_G) (sz : Nat) (mo b0 b1 b2 b3 dz : Nat) (th : Int32) (x1 x2 x3 : Int32) : Met l yX17_laneOf zX17_laneOf_ws (zR 4 0 0) (zPre [.ref mo, .int x1, .int x2, .int x3] D [(mo, .inr (23, [.int th, .ref b0, .ref b1, .ref b2, .ref b3, .int 0, .int 0, .long 0])), (b2, .inr (5, [.int 0, .ref dz, .int 0]))] [] (va_A [(mo, .inr (23, [.int th, .ref b0, .ref b1, .ref b2, .ref b3, .int 0, .int 0, .long 0])), (b2, .inr (5, [.int 0, .ref dz, .int 0]))] sz) sz) (va_Qi (S := Unit) (fun r _ => r = 0) (fun _ t => zAt D [(mo, .inr (23, [.int 1, .ref b0, .ref b1, .ref b2, .ref b3, .int 0, .int 0, .long 0])), (b2, .inr (5, [.int 0, .ref dz, .int 0]))] [] (va_A [(mo, .inr (23, [.int th, .ref b0, .ref b1, .ref b2, .ref b3, .int 0, .int 0, .long 0])), (b2, .inr (5, [.int 0, .ref dz, .int 0]))] sz) t) (va_A [(mo, .inr (23, [.int th, .ref b0, .ref b1, .ref b2, .ref b3, .int 0, .int 0, .long 0])), (b2, .inr (5, [.int 0, .ref dz, .int 0]))] sz)) 0 0 (va_A [(mo, .inr (23, [.int th, .ref b0, .ref b1, .ref b2, .ref b3, .int 0, .int 0, .long 0])), (b2, .inr (5, [.int 0, .ref dz, .int 0]))] sz) := by
  refine Met.ofW (cc := cX17_laneOf) (maxL := 8) (ret := (some .int)) (by decide) rfl ?_
  intro p e s m args below meth c s₁ B hml hv
  obtain ⟨rfl, hsz, hP, hK, hD0, hz⟩ := hv
  have hx := B.exec
  have hb := B.bytes
  have hr := B.returns
  have hts := atoms_spec (ws := zX17_laneOf_ws) B.pre
  have hown : s.vm.findClass RX17 = some m.cls := findClass_of_methodNamed B.named
  have hlocks := B.notSynchronized
  subst hsz
  have hD := hD0.self (sz := s.heap.size)
  generalize hAe : va_A [(mo, .inr (23, [.int th, .ref b0, .ref b1, .ref b2, .ref b3, .int 0, .int 0, .long 0])), (b2, .inr (5, [.int 0, .ref dz, .int 0]))] s.heap.size = A at hD hz ⊢
  have hA : ∀ q : Nat, s.heap.size ≤ q → A q := fun q h => by rw [← hAe]; exact Or.inr h
  have hS : va_S A s.heap s.heap [] := va_S.rf
  have hP : va_P D vwCl [(mo, .inr (23, [.int th, .ref b0, .ref b1, .ref b2, .ref b3, .int 0, .int 0, .long 0])), (b2, .inr (5, [.int 0, .ref dz, .int 0]))] s.heap := hP
  have hl := lv_entry ([.ref mo, .int x1, .int x2, .int x3]) (n := 8) (Nat.le_of_ble_eq_true rfl)
  rw [lg_entry_eq]
  generalize (lg_sl ([.ref mo, .int x1, .int x2, .int x3]) ++ List.replicate (8 - (lg_sl ([.ref mo, .int x1, .int x2, .int x3])).length) Slot.unset).toArray = ls at hl ⊢
  have hl : lv_has ls 8 [(0, .ref mo), (1, .int x1), (2, .int x2), (3, .int x3)] := hl
  refine lv_aload_n hx hb dX17_laneOf_0 rfl (lv_at hl 0 rfl) ?_
  refine lv_iload_n hx hb dX17_laneOf_1 rfl (lv_at hl 1 rfl) ?_
  refine lv_iload_n hx hb dX17_laneOf_2 rfl (lv_at hl 3 rfl) ?_
  refine lv_iload_n hx hb dX17_laneOf_3 rfl (lv_at hl 2 rfl) ?_
  have hPc := hP.sub (ws' := [(mo, .inr (23, [.int th, .ref b0, .ref b1, .ref b2, .ref b3, .int 0, .int 0, .long 0])), (b2, .inr (5, [.int 0, .ref dz, .int 0]))]) [0, 1] rfl
  have hDc := hD.sub (ws' := [(mo, .inr (23, [.int th, .ref b0, .ref b1, .ref b2, .ref b3, .int 0, .int 0, .long 0])), (b2, .inr (5, [.int 0, .ref dz, .int 0]))]) [0, 1] (by decide) rfl
  have hKc := hK.sub (tys' := []) [] rfl
  have hFc := va_free (wc := [(mo, .inr (23, [.int th, .ref b0, .ref b1, .ref b2, .ref b3, .int 0, .int 0, .long 0])), (b2, .inr (5, [.int 0, .ref dz, .int 0]))]) hD hS hA [0, 1] rfl
  refine va_callq (va_runV (As := [.int x1, .int x3, .int x2]) (rest := []) ⟨hx, hb, hml, hown, hts⟩ (cm_race l hst D s.heap.size mo b0 b1 b2 b3 dz th x1 x3 x2) (cwV 3 hts (goodIn_app (goodIn_of _ (by decide +kernel)) (goodIn_sub (fun _ h => List.mem_cons_of_mem _ (List.mem_append_right _ (List.mem_append_left _ h))) zX17_race_ws_good)) rfl rfl rfl (by decide +kernel) ⟨Nat.le_of_ble_eq_true rfl, Nat.le_of_ble_eq_true rfl⟩) ⟨zPre.blind, va_recv hKc hPc (ci := 23) (q0 := 0) rfl rfl, zPre.mk hPc hKc hDc hz hS (fun q h => hFc q h)⟩ rfl rfl hl.1 rfl (lv_room (Nat.le_of_ble_eq_true rfl)) dX17_laneOf_4 ⟨Nat.le_of_ble_eq_true rfl, Nat.le_of_ble_eq_true rfl⟩) hS (fun q _ h => hFc q h) (fun q h => hFc q h) (fun r9 u t H1 locs ht9 hvm hw hB hz1 hk1 hS => ?_)
  refine W.widen (k := 0) (n := 0) (by omega) (by omega) ?_
  obtain ⟨hP1, hK1, hD1⟩ := hB
  rw [ht9] at hP1
  have hK1 := va_K.moved hvm.symm hK1
  obtain ⟨hP, hD⟩ := va_join (wr := []) (w1 := [(mo, .inr (23, [.int 1, .ref b0, .ref b1, .ref b2, .ref b3, .int 0, .int 0, .long 0])), (b2, .inr (5, [.int 0, .ref dz, .int 0]))]) hP hD [0, 1] [] rfl rfl (by decide) (by decide) hk1 hFc hP1 hD1
  have hK := (hK.sub (tys' := []) [] rfl).app hK1
  generalize H1 = H at hP hS ⊢
  have hP : va_P D vwCl [(mo, .inr (23, [.int 1, .ref b0, .ref b1, .ref b2, .ref b3, .int 0, .int 0, .long 0])), (b2, .inr (5, [.int 0, .ref dz, .int 0]))] H := hP
  have hD : va_D A [(mo, .inr (23, [.int 1, .ref b0, .ref b1, .ref b2, .ref b3, .int 0, .int 0, .long 0])), (b2, .inr (5, [.int 0, .ref dz, .int 0]))] := hD
  have hK : va_K D vwCl [] s := hK
  subst hw
  refine lv_astoreN (lv' := [(4, .null), (0, .ref mo), (1, .int x1), (2, .int x2), (3, .int x3)]) hx hb dX17_laneOf_7 hl (by decide) rfl (fun ls hl => ?_)
  refine lv_aloadN hx hb dX17_laneOf_9 (lv_at hl 0 rfl) ?_
  refine lv_ifnonnullN hx hb dX17_laneOf_11 ?_
  refine lv_iconst (v := 0) hx hb dX17_laneOf_14 (by decide) ?_
  have hP9 := hP.sub (ws' := [(mo, .inr (23, [.int 1, .ref b0, .ref b1, .ref b2, .ref b3, .int 0, .int 0, .long 0])), (b2, .inr (5, [.int 0, .ref dz, .int 0]))]) [0, 1] rfl
  have hD9 := hD.sub (ws' := [(mo, .inr (23, [.int 1, .ref b0, .ref b1, .ref b2, .ref b3, .int 0, .int 0, .long 0])), (b2, .inr (5, [.int 0, .ref dz, .int 0]))]) [0, 1] (by decide) rfl
  have hK9 := hK.sub (tys' := []) [] rfl
  rw [← hAe] at hD9
  refine W.widen (k := 0) (n := 0) (by omega) (by omega) ?_
  subst hAe
  exact W.iret (v := 0) hx hb hr (fun t ht9 hW => ⟨⟨0, (), rfl, rfl, ⟨by rw [ht9]; exact hP9, va_K.moved hW.alike hK9, hD9⟩⟩, hS.F ht9⟩) hS.2.2 dX17_laneOf_15

def zX17_time_ws : List Cond := .code yX17_time cX17_time 10 (some .int) :: ([.methodLink RX17 95 yX17_noPair, .instanceMethod yX17_noPair, .selects RX17 yX17_noPair yX17_noPair, .initialized RX17] ++ (zX17_noPair_ws ++ ([])))
theorem zX17_time_ws_good : zX17_time_ws.all goodWord = true := by decide +kernel
set_option maxHeartbeats 4000000 in
set_option maxRecDepth 100000 in
/-- the reference refuses time -/
theorem cm_time (l : Launch) (hst : l.stackTraces = false) (D : va_G) (sz : Nat) (mo b0 b1 b2 b3 dz : Nat) (th : Int32) (x1 x2 x3 x4 x5 x6 : Int32) : Met l yX17_time zX17_time_ws (zR 4 0 0) (zPre [.ref mo, .int x1, .int x2, .int x3, .int x4, .int x5, .int x6] D [(mo, .inr (23, [.int th, .ref b0, .ref b1, .ref b2, .ref b3, .int 0, .int 0, .long 0])), (b2, .inr (5, [.int 0, .ref dz, .int 0]))] [] (va_A [(mo, .inr (23, [.int th, .ref b0, .ref b1, .ref b2, .ref b3, .int 0, .int 0, .long 0])), (b2, .inr (5, [.int 0, .ref dz, .int 0]))] sz) sz) (va_Qi (S := Unit) (fun r _ => r = 0) (fun _ t => zAt D [(mo, .inr (23, [.int 1, .ref b0, .ref b1, .ref b2, .ref b3, .int 0, .int 0, .long 0])), (b2, .inr (5, [.int 0, .ref dz, .int 0]))] [] (va_A [(mo, .inr (23, [.int th, .ref b0, .ref b1, .ref b2, .ref b3, .int 0, .int 0, .long 0])), (b2, .inr (5, [.int 0, .ref dz, .int 0]))] sz) t) (va_A [(mo, .inr (23, [.int th, .ref b0, .ref b1, .ref b2, .ref b3, .int 0, .int 0, .long 0])), (b2, .inr (5, [.int 0, .ref dz, .int 0]))] sz)) 0 0 (va_A [(mo, .inr (23, [.int th, .ref b0, .ref b1, .ref b2, .ref b3, .int 0, .int 0, .long 0])), (b2, .inr (5, [.int 0, .ref dz, .int 0]))] sz) := by
  refine Met.ofW (cc := cX17_time) (maxL := 10) (ret := (some .int)) (by decide) rfl ?_
  intro p e s m args below meth c s₁ B hml hv
  obtain ⟨rfl, hsz, hP, hK, hD0, hz⟩ := hv
  have hx := B.exec
  have hb := B.bytes
  have hr := B.returns
  have hts := atoms_spec (ws := zX17_time_ws) B.pre
  have hown : s.vm.findClass RX17 = some m.cls := findClass_of_methodNamed B.named
  have hlocks := B.notSynchronized
  subst hsz
  have hD := hD0.self (sz := s.heap.size)
  generalize hAe : va_A [(mo, .inr (23, [.int th, .ref b0, .ref b1, .ref b2, .ref b3, .int 0, .int 0, .long 0])), (b2, .inr (5, [.int 0, .ref dz, .int 0]))] s.heap.size = A at hD hz ⊢
  have hA : ∀ q : Nat, s.heap.size ≤ q → A q := fun q h => by rw [← hAe]; exact Or.inr h
  have hS : va_S A s.heap s.heap [] := va_S.rf
  have hP : va_P D vwCl [(mo, .inr (23, [.int th, .ref b0, .ref b1, .ref b2, .ref b3, .int 0, .int 0, .long 0])), (b2, .inr (5, [.int 0, .ref dz, .int 0]))] s.heap := hP
  have hl := lv_entry ([.ref mo, .int x1, .int x2, .int x3, .int x4, .int x5, .int x6]) (n := 10) (Nat.le_of_ble_eq_true rfl)
  rw [lg_entry_eq]
  generalize (lg_sl ([.ref mo, .int x1, .int x2, .int x3, .int x4, .int x5, .int x6]) ++ List.replicate (10 - (lg_sl ([.ref mo, .int x1, .int x2, .int x3, .int x4, .int x5, .int x6])).length) Slot.unset).toArray = ls at hl ⊢
  have hl : lv_has ls 10 [(0, .ref mo), (1, .int x1), (2, .int x2), (3, .int x3), (4, .int x4), (5, .int x5), (6, .int x6)] := hl
  refine lv_aload_n hx hb dX17_time_0 rfl (lv_at hl 0 rfl) ?_
  refine lv_iload_n hx hb dX17_time_1 rfl (lv_at hl 1 rfl) ?_
  refine lv_iload_n hx hb dX17_time_2 rfl (lv_at hl 3 rfl) ?_
  have hPc := hP.sub (ws' := [(mo, .inr (23, [.int th, .ref b0, .ref b1, .ref b2, .ref b3, .int 0, .int 0, .long 0])), (b2, .inr (5, [.int 0, .ref dz, .int 0]))]) [0, 1] rfl
  have hDc := hD.sub (ws' := [(mo, .inr (23, [.int th, .ref b0, .ref b1, .ref b2, .ref b3, .int 0, .int 0, .long 0])), (b2, .inr (5, [.int 0, .ref dz, .int 0]))]) [0, 1] (by decide) rfl
  have hKc := hK.sub (tys' := []) [] rfl
  have hFc := va_free (wc := [(mo, .inr (23, [.int th, .ref b0, .ref b1, .ref b2, .ref b3, .int 0, .int 0, .long 0])), (b2, .inr (5, [.int 0, .ref dz, .int 0]))]) hD hS hA [0, 1] rfl
  refine va_calli (va_runV (As := [.int x1, .int x3]) (rest := []) ⟨hx, hb, hml, hown, hts⟩ (cm_noPair l hst D s.heap.size mo b0 b1 b2 b3 dz th x1 x3) (cwV 2 hts (goodIn_app (goodIn_of _ (by decide +kernel)) (goodIn_sub (fun _ h => List.mem_cons_of_mem _ (List.mem_append_right _ (List.mem_append_left _ h))) zX17_noPair_ws_good)) rfl rfl rfl (by decide +kernel) ⟨Nat.le_of_ble_eq_true rfl, Nat.le_of_ble_eq_true rfl⟩) ⟨zPre.blind, va_recv hKc hPc (ci := 23) (q0 := 0) rfl rfl, zPre.mk hPc hKc hDc hz hS (fun q h => hFc q h)⟩ rfl rfl hl.1 rfl (lv_room (Nat.le_of_ble_eq_true rfl)) dX17_time_3 ⟨Nat.le_of_ble_eq_true rfl, Nat.le_of_ble_eq_true rfl⟩) hS (fun q _ h => hFc q h) (fun q h => hFc q h) (fun r9 u t H1 locs ht9 hvm hw hB hz1 hk1 hS => ?_)
  refine W.widen (k := 0) (n := 0) (by omega) (by omega) ?_
  obtain ⟨hP1, hK1, hD1⟩ := hB
  rw [ht9] at hP1
  have hK1 := va_K.moved hvm.symm hK1
  obtain ⟨hP, hD⟩ := va_join (wr := []) (w1 := [(mo, .inr (23, [.int 1, .ref b0, .ref b1, .ref b2, .ref b3, .int 0, .int 0, .long 0])), (b2, .inr (5, [.int 0, .ref dz, .int 0]))]) hP hD [0, 1] [] rfl rfl (by decide) (by decide) hk1 hFc hP1 hD1
  have hK := (hK.sub (tys' := []) [] rfl).app hK1
  generalize H1 = H at hP hS ⊢
  have hP : va_P D vwCl [(mo, .inr (23, [.int 1, .ref b0, .ref b1, .ref b2, .ref b3, .int 0, .int 0, .long 0])), (b2, .inr (5, [.int 0, .ref dz, .int 0]))] H := hP
  have hD : va_D A [(mo, .inr (23, [.int 1, .ref b0, .ref b1, .ref b2, .ref b3, .int 0, .int 0, .long 0])), (b2, .inr (5, [.int 0, .ref dz, .int 0]))] := hD
  have hK : va_K D vwCl [] s := hK
  subst hw
  refine lv_if_eq (tgt := 11) hx hb dX17_time_6 (by decide) (fun c => absurd c (by decide)) (fun _ => ?_)
  refine lv_iconst (v := 0) hx hb dX17_time_9 (by decide) ?_
  have hP9 := hP.sub (ws' := [(mo, .inr (23, [.int 1, .ref b0, .ref b1, .ref b2, .ref b3, .int 0, .int 0, .long 0])), (b2, .inr (5, [.int 0, .ref dz, .int 0]))]) [0, 1] rfl
  have hD9 := hD.sub (ws' := [(mo, .inr (23, [.int 1, .ref b0, .ref b1, .ref b2, .ref b3, .int 0, .int 0, .long 0])), (b2, .inr (5, [.int 0, .ref dz, .int 0]))]) [0, 1] (by decide) rfl
  have hK9 := hK.sub (tys' := []) [] rfl
  rw [← hAe] at hD9
  refine W.widen (k := 0) (n := 0) (by omega) (by omega) ?_
  subst hAe
  exact W.iret (v := 0) hx hb hr (fun t ht9 hW => ⟨⟨0, (), rfl, rfl, ⟨by rw [ht9]; exact hP9, va_K.moved hW.alike hK9, hD9⟩⟩, hS.F ht9⟩) hS.2.2 dX17_time_10

def zX17_react_ws : List Cond := .code yX17_react cX17_react 7 (some .boolean) :: ([.methodLink RX17 95 yX17_noPair, .instanceMethod yX17_noPair, .selects RX17 yX17_noPair yX17_noPair, .initialized RX17] ++ (zX17_noPair_ws ++ ([])))
theorem zX17_react_ws_good : zX17_react_ws.all goodWord = true := by decide +kernel
set_option maxHeartbeats 4000000 in
set_option maxRecDepth 100000 in
/-- the reference refuses react -/
theorem cm_react (l : Launch) (hst : l.stackTraces = false) (D : va_G) (sz : Nat) (mo b0 b1 b2 b3 dz : Nat) (th : Int32) (x1 x2 x3 x4 : Int32) : Met l yX17_react zX17_react_ws (zR 4 0 0) (zPre [.ref mo, .int x1, .int x2, .int x3, .int x4] D [(mo, .inr (23, [.int th, .ref b0, .ref b1, .ref b2, .ref b3, .int 0, .int 0, .long 0])), (b2, .inr (5, [.int 0, .ref dz, .int 0]))] [] (va_A [(mo, .inr (23, [.int th, .ref b0, .ref b1, .ref b2, .ref b3, .int 0, .int 0, .long 0])), (b2, .inr (5, [.int 0, .ref dz, .int 0]))] sz) sz) (va_Qi (S := Unit) (fun r _ => r = 0) (fun _ t => zAt D [(mo, .inr (23, [.int 1, .ref b0, .ref b1, .ref b2, .ref b3, .int 0, .int 0, .long 0])), (b2, .inr (5, [.int 0, .ref dz, .int 0]))] [] (va_A [(mo, .inr (23, [.int th, .ref b0, .ref b1, .ref b2, .ref b3, .int 0, .int 0, .long 0])), (b2, .inr (5, [.int 0, .ref dz, .int 0]))] sz) t) (va_A [(mo, .inr (23, [.int th, .ref b0, .ref b1, .ref b2, .ref b3, .int 0, .int 0, .long 0])), (b2, .inr (5, [.int 0, .ref dz, .int 0]))] sz)) 0 0 (va_A [(mo, .inr (23, [.int th, .ref b0, .ref b1, .ref b2, .ref b3, .int 0, .int 0, .long 0])), (b2, .inr (5, [.int 0, .ref dz, .int 0]))] sz) := by
  refine Met.ofW (cc := cX17_react) (maxL := 7) (ret := (some .boolean)) (by decide) rfl ?_
  intro p e s m args below meth c s₁ B hml hv
  obtain ⟨rfl, hsz, hP, hK, hD0, hz⟩ := hv
  have hx := B.exec
  have hb := B.bytes
  have hr := B.returns
  have hts := atoms_spec (ws := zX17_react_ws) B.pre
  have hown : s.vm.findClass RX17 = some m.cls := findClass_of_methodNamed B.named
  have hlocks := B.notSynchronized
  subst hsz
  have hD := hD0.self (sz := s.heap.size)
  generalize hAe : va_A [(mo, .inr (23, [.int th, .ref b0, .ref b1, .ref b2, .ref b3, .int 0, .int 0, .long 0])), (b2, .inr (5, [.int 0, .ref dz, .int 0]))] s.heap.size = A at hD hz ⊢
  have hA : ∀ q : Nat, s.heap.size ≤ q → A q := fun q h => by rw [← hAe]; exact Or.inr h
  have hS : va_S A s.heap s.heap [] := va_S.rf
  have hP : va_P D vwCl [(mo, .inr (23, [.int th, .ref b0, .ref b1, .ref b2, .ref b3, .int 0, .int 0, .long 0])), (b2, .inr (5, [.int 0, .ref dz, .int 0]))] s.heap := hP
  have hl := lv_entry ([.ref mo, .int x1, .int x2, .int x3, .int x4]) (n := 7) (Nat.le_of_ble_eq_true rfl)
  rw [lg_entry_eq]
  generalize (lg_sl ([.ref mo, .int x1, .int x2, .int x3, .int x4]) ++ List.replicate (7 - (lg_sl ([.ref mo, .int x1, .int x2, .int x3, .int x4])).length) Slot.unset).toArray = ls at hl ⊢
  have hl : lv_has ls 7 [(0, .ref mo), (1, .int x1), (2, .int x2), (3, .int x3), (4, .int x4)] := hl
  refine lv_aload_n hx hb dX17_react_0 rfl (lv_at hl 0 rfl) ?_
  refine lv_iload_n hx hb dX17_react_1 rfl (lv_at hl 1 rfl) ?_
  refine lv_iload_n hx hb dX17_react_2 rfl (lv_at hl 3 rfl) ?_
  have hPc := hP.sub (ws' := [(mo, .inr (23, [.int th, .ref b0, .ref b1, .ref b2, .ref b3, .int 0, .int 0, .long 0])), (b2, .inr (5, [.int 0, .ref dz, .int 0]))]) [0, 1] rfl
  have hDc := hD.sub (ws' := [(mo, .inr (23, [.int th, .ref b0, .ref b1, .ref b2, .ref b3, .int 0, .int 0, .long 0])), (b2, .inr (5, [.int 0, .ref dz, .int 0]))]) [0, 1] (by decide) rfl
  have hKc := hK.sub (tys' := []) [] rfl
  have hFc := va_free (wc := [(mo, .inr (23, [.int th, .ref b0, .ref b1, .ref b2, .ref b3, .int 0, .int 0, .long 0])), (b2, .inr (5, [.int 0, .ref dz, .int 0]))]) hD hS hA [0, 1] rfl
  refine va_calli (va_runV (As := [.int x1, .int x3]) (rest := []) ⟨hx, hb, hml, hown, hts⟩ (cm_noPair l hst D s.heap.size mo b0 b1 b2 b3 dz th x1 x3) (cwV 2 hts (goodIn_app (goodIn_of _ (by decide +kernel)) (goodIn_sub (fun _ h => List.mem_cons_of_mem _ (List.mem_append_right _ (List.mem_append_left _ h))) zX17_noPair_ws_good)) rfl rfl rfl (by decide +kernel) ⟨Nat.le_of_ble_eq_true rfl, Nat.le_of_ble_eq_true rfl⟩) ⟨zPre.blind, va_recv hKc hPc (ci := 23) (q0 := 0) rfl rfl, zPre.mk hPc hKc hDc hz hS (fun q h => hFc q h)⟩ rfl rfl hl.1 rfl (lv_room (Nat.le_of_ble_eq_true rfl)) dX17_react_3 ⟨Nat.le_of_ble_eq_true rfl, Nat.le_of_ble_eq_true rfl⟩) hS (fun q _ h => hFc q h) (fun q h => hFc q h) (fun r9 u t H1 locs ht9 hvm hw hB hz1 hk1 hS => ?_)
  refine W.widen (k := 0) (n := 0) (by omega) (by omega) ?_
  obtain ⟨hP1, hK1, hD1⟩ := hB
  rw [ht9] at hP1
  have hK1 := va_K.moved hvm.symm hK1
  obtain ⟨hP, hD⟩ := va_join (wr := []) (w1 := [(mo, .inr (23, [.int 1, .ref b0, .ref b1, .ref b2, .ref b3, .int 0, .int 0, .long 0])), (b2, .inr (5, [.int 0, .ref dz, .int 0]))]) hP hD [0, 1] [] rfl rfl (by decide) (by decide) hk1 hFc hP1 hD1
  have hK := (hK.sub (tys' := []) [] rfl).app hK1
  generalize H1 = H at hP hS ⊢
  have hP : va_P D vwCl [(mo, .inr (23, [.int 1, .ref b0, .ref b1, .ref b2, .ref b3, .int 0, .int 0, .long 0])), (b2, .inr (5, [.int 0, .ref dz, .int 0]))] H := hP
  have hD : va_D A [(mo, .inr (23, [.int 1, .ref b0, .ref b1, .ref b2, .ref b3, .int 0, .int 0, .long 0])), (b2, .inr (5, [.int 0, .ref dz, .int 0]))] := hD
  have hK : va_K D vwCl [] s := hK
  subst hw
  refine lv_if_eq (tgt := 11) hx hb dX17_react_6 (by decide) (fun c => absurd c (by decide)) (fun _ => ?_)
  refine lv_iconst (v := 0) hx hb dX17_react_9 (by decide) ?_
  have hP9 := hP.sub (ws' := [(mo, .inr (23, [.int 1, .ref b0, .ref b1, .ref b2, .ref b3, .int 0, .int 0, .long 0])), (b2, .inr (5, [.int 0, .ref dz, .int 0]))]) [0, 1] rfl
  have hD9 := hD.sub (ws' := [(mo, .inr (23, [.int 1, .ref b0, .ref b1, .ref b2, .ref b3, .int 0, .int 0, .long 0])), (b2, .inr (5, [.int 0, .ref dz, .int 0]))]) [0, 1] (by decide) rfl
  have hK9 := hK.sub (tys' := []) [] rfl
  rw [← hAe] at hD9
  refine W.widen (k := 0) (n := 0) (by omega) (by omega) ?_
  subst hAe
  exact W.zret (v := 0) hx hb hr rfl (fun t ht9 hW => ⟨⟨0, (), rfl, rfl, ⟨by rw [ht9]; exact hP9, va_K.moved hW.alike hK9, hD9⟩⟩, hS.F ht9⟩) hS.2.2 dX17_react_10

def zX17_putOut_ws : List Cond := .code yX17_putOut cX17_putOut 6 (some .boolean) :: ([.methodLink RX17 210 yX17_race, .instanceMethod yX17_race, .selects RX17 yX17_race yX17_race, .initialized RX17] ++ (zX17_race_ws ++ ([])))
theorem zX17_putOut_ws_good : zX17_putOut_ws.all goodWord = true := by decide +kernel
set_option maxHeartbeats 4000000 in
set_option maxRecDepth 100000 in
/-- the reference refuses putOut -/
theorem cm_putOut (l : Launch) (hst : l.stackTraces = false) (D : va_G) (sz : Nat) (mo b0 b1 b2 b3 dz : Nat) (th : Int32) (x1 x2 x3 : Int32) : Met l yX17_putOut zX17_putOut_ws (zR 4 0 0) (zPre [.ref mo, .int x1, .int x2, .int x3] D [(mo, .inr (23, [.int th, .ref b0, .ref b1, .ref b2, .ref b3, .int 0, .int 0, .long 0])), (b2, .inr (5, [.int 0, .ref dz, .int 0]))] [] (va_A [(mo, .inr (23, [.int th, .ref b0, .ref b1, .ref b2, .ref b3, .int 0, .int 0, .long 0])), (b2, .inr (5, [.int 0, .ref dz, .int 0]))] sz) sz) (va_Qi (S := Unit) (fun r _ => r = 0) (fun _ t => zAt D [(mo, .inr (23, [.int 1, .ref b0, .ref b1, .ref b2, .ref b3, .int 0, .int 0, .long 0])), (b2, .inr (5, [.int 0, .ref dz, .int 0]))] [] (va_A [(mo, .inr (23, [.int th, .ref b0, .ref b1, .ref b2, .ref b3, .int 0, .int 0, .long 0])), (b2, .inr (5, [.int 0, .ref dz, .int 0]))] sz) t) (va_A [(mo, .inr (23, [.int th, .ref b0, .ref b1, .ref b2, .ref b3, .int 0, .int 0, .long 0])), (b2, .inr (5, [.int 0, .ref dz, .int 0]))] sz)) 0 0 (va_A [(mo, .inr (23, [.int th, .ref b0, .ref b1, .ref b2, .ref b3, .int 0, .int 0, .long 0])), (b2, .inr (5, [.int 0, .ref dz, .int 0]))] sz) := by
  refine Met.ofW (cc := cX17_putOut) (maxL := 6) (ret := (some .boolean)) (by decide) rfl ?_
  intro p e s m args below meth c s₁ B hml hv
  obtain ⟨rfl, hsz, hP, hK, hD0, hz⟩ := hv
  have hx := B.exec
  have hb := B.bytes
  have hr := B.returns
  have hts := atoms_spec (ws := zX17_putOut_ws) B.pre
  have hown : s.vm.findClass RX17 = some m.cls := findClass_of_methodNamed B.named
  have hlocks := B.notSynchronized
  subst hsz
  have hD := hD0.self (sz := s.heap.size)
  generalize hAe : va_A [(mo, .inr (23, [.int th, .ref b0, .ref b1, .ref b2, .ref b3, .int 0, .int 0, .long 0])), (b2, .inr (5, [.int 0, .ref dz, .int 0]))] s.heap.size = A at hD hz ⊢
  have hA : ∀ q : Nat, s.heap.size ≤ q → A q := fun q h => by rw [← hAe]; exact Or.inr h
  have hS : va_S A s.heap s.heap [] := va_S.rf
  have hP : va_P D vwCl [(mo, .inr (23, [.int th, .ref b0, .ref b1, .ref b2, .ref b3, .int 0, .int 0, .long 0])), (b2, .inr (5, [.int 0, .ref dz, .int 0]))] s.heap := hP
  have hl := lv_entry ([.ref mo, .int x1, .int x2, .int x3]) (n := 6) (Nat.le_of_ble_eq_true rfl)
  rw [lg_entry_eq]
  generalize (lg_sl ([.ref mo, .int x1, .int x2, .int x3]) ++ List.replicate (6 - (lg_sl ([.ref mo, .int x1, .int x2, .int x3])).length) Slot.unset).toArray = ls at hl ⊢
  have hl : lv_has ls 6 [(0, .ref mo), (1, .int x1), (2, .int x2), (3, .int x3)] := hl
  refine lv_aload_n hx hb dX17_putOut_0 rfl (lv_at hl 0 rfl) ?_
  refine lv_iload_n hx hb dX17_putOut_1 rfl (lv_at hl 1 rfl) ?_
  refine lv_iload_n hx hb dX17_putOut_2 rfl (lv_at hl 3 rfl) ?_
  refine lv_iload_n hx hb dX17_putOut_3 rfl (lv_at hl 2 rfl) ?_
  have hPc := hP.sub (ws' := [(mo, .inr (23, [.int th, .ref b0, .ref b1, .ref b2, .ref b3, .int 0, .int 0, .long 0])), (b2, .inr (5, [.int 0, .ref dz, .int 0]))]) [0, 1] rfl
  have hDc := hD.sub (ws' := [(mo, .inr (23, [.int th, .ref b0, .ref b1, .ref b2, .ref b3, .int 0, .int 0, .long 0])), (b2, .inr (5, [.int 0, .ref dz, .int 0]))]) [0, 1] (by decide) rfl
  have hKc := hK.sub (tys' := []) [] rfl
  have hFc := va_free (wc := [(mo, .inr (23, [.int th, .ref b0, .ref b1, .ref b2, .ref b3, .int 0, .int 0, .long 0])), (b2, .inr (5, [.int 0, .ref dz, .int 0]))]) hD hS hA [0, 1] rfl
  refine va_callq (va_runV (As := [.int x1, .int x3, .int x2]) (rest := []) ⟨hx, hb, hml, hown, hts⟩ (cm_race l hst D s.heap.size mo b0 b1 b2 b3 dz th x1 x3 x2) (cwV 3 hts (goodIn_app (goodIn_of _ (by decide +kernel)) (goodIn_sub (fun _ h => List.mem_cons_of_mem _ (List.mem_append_right _ (List.mem_append_left _ h))) zX17_race_ws_good)) rfl rfl rfl (by decide +kernel) ⟨Nat.le_of_ble_eq_true rfl, Nat.le_of_ble_eq_true rfl⟩) ⟨zPre.blind, va_recv hKc hPc (ci := 23) (q0 := 0) rfl rfl, zPre.mk hPc hKc hDc hz hS (fun q h => hFc q h)⟩ rfl rfl hl.1 rfl (lv_room (Nat.le_of_ble_eq_true rfl)) dX17_putOut_4 ⟨Nat.le_of_ble_eq_true rfl, Nat.le_of_ble_eq_true rfl⟩) hS (fun q _ h => hFc q h) (fun q h => hFc q h) (fun r9 u t H1 locs ht9 hvm hw hB hz1 hk1 hS => ?_)
  refine W.widen (k := 0) (n := 0) (by omega) (by omega) ?_
  obtain ⟨hP1, hK1, hD1⟩ := hB
  rw [ht9] at hP1
  have hK1 := va_K.moved hvm.symm hK1
  obtain ⟨hP, hD⟩ := va_join (wr := []) (w1 := [(mo, .inr (23, [.int 1, .ref b0, .ref b1, .ref b2, .ref b3, .int 0, .int 0, .long 0])), (b2, .inr (5, [.int 0, .ref dz, .int 0]))]) hP hD [0, 1] [] rfl rfl (by decide) (by decide) hk1 hFc hP1 hD1
  have hK := (hK.sub (tys' := []) [] rfl).app hK1
  generalize H1 = H at hP hS ⊢
  have hP : va_P D vwCl [(mo, .inr (23, [.int 1, .ref b0, .ref b1, .ref b2, .ref b3, .int 0, .int 0, .long 0])), (b2, .inr (5, [.int 0, .ref dz, .int 0]))] H := hP
  have hD : va_D A [(mo, .inr (23, [.int 1, .ref b0, .ref b1, .ref b2, .ref b3, .int 0, .int 0, .long 0])), (b2, .inr (5, [.int 0, .ref dz, .int 0]))] := hD
  have hK : va_K D vwCl [] s := hK
  subst hw
  refine lv_astoreN (lv' := [(4, .null), (0, .ref mo), (1, .int x1), (2, .int x2), (3, .int x3)]) hx hb dX17_putOut_7 hl (by decide) rfl (fun ls hl => ?_)
  refine lv_aloadN hx hb dX17_putOut_9 (lv_at hl 0 rfl) ?_
  refine lv_ifnonnullN hx hb dX17_putOut_11 ?_
  refine lv_iconst (v := 0) hx hb dX17_putOut_14 (by decide) ?_
  have hP9 := hP.sub (ws' := [(mo, .inr (23, [.int 1, .ref b0, .ref b1, .ref b2, .ref b3, .int 0, .int 0, .long 0])), (b2, .inr (5, [.int 0, .ref dz, .int 0]))]) [0, 1] rfl
  have hD9 := hD.sub (ws' := [(mo, .inr (23, [.int 1, .ref b0, .ref b1, .ref b2, .ref b3, .int 0, .int 0, .long 0])), (b2, .inr (5, [.int 0, .ref dz, .int 0]))]) [0, 1] (by decide) rfl
  have hK9 := hK.sub (tys' := []) [] rfl
  rw [← hAe] at hD9
  refine W.widen (k := 0) (n := 0) (by omega) (by omega) ?_
  subst hAe
  exact W.zret (v := 0) hx hb hr rfl (fun t ht9 hW => ⟨⟨0, (), rfl, rfl, ⟨by rw [ht9]; exact hP9, va_K.moved hW.alike hK9, hD9⟩⟩, hS.F ht9⟩) hS.2.2 dX17_putOut_15

def zX17_isOut_ws : List Cond := .code yX17_isOut cX17_isOut 5 (some .boolean) :: ([.methodLink RX17 210 yX17_race, .instanceMethod yX17_race, .selects RX17 yX17_race yX17_race, .initialized RX17] ++ (zX17_race_ws ++ ([])))
theorem zX17_isOut_ws_good : zX17_isOut_ws.all goodWord = true := by decide +kernel
set_option maxHeartbeats 4000000 in
set_option maxRecDepth 100000 in
/-- the reference refuses isOut -/
theorem cm_isOut (l : Launch) (hst : l.stackTraces = false) (D : va_G) (sz : Nat) (mo b0 b1 b2 b3 dz : Nat) (th : Int32) (x1 x2 x3 : Int32) : Met l yX17_isOut zX17_isOut_ws (zR 4 0 0) (zPre [.ref mo, .int x1, .int x2, .int x3] D [(mo, .inr (23, [.int th, .ref b0, .ref b1, .ref b2, .ref b3, .int 0, .int 0, .long 0])), (b2, .inr (5, [.int 0, .ref dz, .int 0]))] [] (va_A [(mo, .inr (23, [.int th, .ref b0, .ref b1, .ref b2, .ref b3, .int 0, .int 0, .long 0])), (b2, .inr (5, [.int 0, .ref dz, .int 0]))] sz) sz) (va_Qi (S := Unit) (fun r _ => r = 0) (fun _ t => zAt D [(mo, .inr (23, [.int 1, .ref b0, .ref b1, .ref b2, .ref b3, .int 0, .int 0, .long 0])), (b2, .inr (5, [.int 0, .ref dz, .int 0]))] [] (va_A [(mo, .inr (23, [.int th, .ref b0, .ref b1, .ref b2, .ref b3, .int 0, .int 0, .long 0])), (b2, .inr (5, [.int 0, .ref dz, .int 0]))] sz) t) (va_A [(mo, .inr (23, [.int th, .ref b0, .ref b1, .ref b2, .ref b3, .int 0, .int 0, .long 0])), (b2, .inr (5, [.int 0, .ref dz, .int 0]))] sz)) 0 0 (va_A [(mo, .inr (23, [.int th, .ref b0, .ref b1, .ref b2, .ref b3, .int 0, .int 0, .long 0])), (b2, .inr (5, [.int 0, .ref dz, .int 0]))] sz) := by
  refine Met.ofW (cc := cX17_isOut) (maxL := 5) (ret := (some .boolean)) (by decide) rfl ?_
  intro p e s m args below meth c s₁ B hml hv
  obtain ⟨rfl, hsz, hP, hK, hD0, hz⟩ := hv
  have hx := B.exec
  have hb := B.bytes
  have hr := B.returns
  have hts := atoms_spec (ws := zX17_isOut_ws) B.pre
  have hown : s.vm.findClass RX17 = some m.cls := findClass_of_methodNamed B.named
  have hlocks := B.notSynchronized
  subst hsz
  have hD := hD0.self (sz := s.heap.size)
  generalize hAe : va_A [(mo, .inr (23, [.int th, .ref b0, .ref b1, .ref b2, .ref b3, .int 0, .int 0, .long 0])), (b2, .inr (5, [.int 0, .ref dz, .int 0]))] s.heap.size = A at hD hz ⊢
  have hA : ∀ q : Nat, s.heap.size ≤ q → A q := fun q h => by rw [← hAe]; exact Or.inr h
  have hS : va_S A s.heap s.heap [] := va_S.rf
  have hP : va_P D vwCl [(mo, .inr (23, [.int th, .ref b0, .ref b1, .ref b2, .ref b3, .int 0, .int 0, .long 0])), (b2, .inr (5, [.int 0, .ref dz, .int 0]))] s.heap := hP
  have hl := lv_entry ([.ref mo, .int x1, .int x2, .int x3]) (n := 5) (Nat.le_of_ble_eq_true rfl)
  rw [lg_entry_eq]
  generalize (lg_sl ([.ref mo, .int x1, .int x2, .int x3]) ++ List.replicate (5 - (lg_sl ([.ref mo, .int x1, .int x2, .int x3])).length) Slot.unset).toArray = ls at hl ⊢
  have hl : lv_has ls 5 [(0, .ref mo), (1, .int x1), (2, .int x2), (3, .int x3)] := hl
  refine lv_aload_n hx hb dX17_isOut_0 rfl (lv_at hl 0 rfl) ?_
  refine lv_iload_n hx hb dX17_isOut_1 rfl (lv_at hl 1 rfl) ?_
  refine lv_iload_n hx hb dX17_isOut_2 rfl (lv_at hl 3 rfl) ?_
  refine lv_iload_n hx hb dX17_isOut_3 rfl (lv_at hl 2 rfl) ?_
  have hPc := hP.sub (ws' := [(mo, .inr (23, [.int th, .ref b0, .ref b1, .ref b2, .ref b3, .int 0, .int 0, .long 0])), (b2, .inr (5, [.int 0, .ref dz, .int 0]))]) [0, 1] rfl
  have hDc := hD.sub (ws' := [(mo, .inr (23, [.int th, .ref b0, .ref b1, .ref b2, .ref b3, .int 0, .int 0, .long 0])), (b2, .inr (5, [.int 0, .ref dz, .int 0]))]) [0, 1] (by decide) rfl
  have hKc := hK.sub (tys' := []) [] rfl
  have hFc := va_free (wc := [(mo, .inr (23, [.int th, .ref b0, .ref b1, .ref b2, .ref b3, .int 0, .int 0, .long 0])), (b2, .inr (5, [.int 0, .ref dz, .int 0]))]) hD hS hA [0, 1] rfl
  refine va_callq (va_runV (As := [.int x1, .int x3, .int x2]) (rest := []) ⟨hx, hb, hml, hown, hts⟩ (cm_race l hst D s.heap.size mo b0 b1 b2 b3 dz th x1 x3 x2) (cwV 3 hts (goodIn_app (goodIn_of _ (by decide +kernel)) (goodIn_sub (fun _ h => List.mem_cons_of_mem _ (List.mem_append_right _ (List.mem_append_left _ h))) zX17_race_ws_good)) rfl rfl rfl (by decide +kernel) ⟨Nat.le_of_ble_eq_true rfl, Nat.le_of_ble_eq_true rfl⟩) ⟨zPre.blind, va_recv hKc hPc (ci := 23) (q0 := 0) rfl rfl, zPre.mk hPc hKc hDc hz hS (fun q h => hFc q h)⟩ rfl rfl hl.1 rfl (lv_room (Nat.le_of_ble_eq_true rfl)) dX17_isOut_4 ⟨Nat.le_of_ble_eq_true rfl, Nat.le_of_ble_eq_true rfl⟩) hS (fun q _ h => hFc q h) (fun q h => hFc q h) (fun r9 u t H1 locs ht9 hvm hw hB hz1 hk1 hS => ?_)
  refine W.widen (k := 0) (n := 0) (by omega) (by omega) ?_
  obtain ⟨hP1, hK1, hD1⟩ := hB
  rw [ht9] at hP1
  have hK1 := va_K.moved hvm.symm hK1
  obtain ⟨hP, hD⟩ := va_join (wr := []) (w1 := [(mo, .inr (23, [.int 1, .ref b0, .ref b1, .ref b2, .ref b3, .int 0, .int 0, .long 0])), (b2, .inr (5, [.int 0, .ref dz, .int 0]))]) hP hD [0, 1] [] rfl rfl (by decide) (by decide) hk1 hFc hP1 hD1
  have hK := (hK.sub (tys' := []) [] rfl).app hK1
  generalize H1 = H at hP hS ⊢
  have hP : va_P D vwCl [(mo, .inr (23, [.int 1, .ref b0, .ref b1, .ref b2, .ref b3, .int 0, .int 0, .long 0])), (b2, .inr (5, [.int 0, .ref dz, .int 0]))] H := hP
  have hD : va_D A [(mo, .inr (23, [.int 1, .ref b0, .ref b1, .ref b2, .ref b3, .int 0, .int 0, .long 0])), (b2, .inr (5, [.int 0, .ref dz, .int 0]))] := hD
  have hK : va_K D vwCl [] s := hK
  subst hw
  refine lv_astoreN (lv' := [(4, .null), (0, .ref mo), (1, .int x1), (2, .int x2), (3, .int x3)]) hx hb dX17_isOut_7 hl (by decide) rfl (fun ls hl => ?_)
  refine lv_aloadN hx hb dX17_isOut_9 (lv_at hl 0 rfl) ?_
  refine lv_ifnullN (tgt := 32) hx hb dX17_isOut_11 (by decide) ?_
  refine lv_iconst (v := 0) hx hb dX17_isOut_32 (by decide) ?_
  have hP9 := hP.sub (ws' := [(mo, .inr (23, [.int 1, .ref b0, .ref b1, .ref b2, .ref b3, .int 0, .int 0, .long 0])), (b2, .inr (5, [.int 0, .ref dz, .int 0]))]) [0, 1] rfl
  have hD9 := hD.sub (ws' := [(mo, .inr (23, [.int 1, .ref b0, .ref b1, .ref b2, .ref b3, .int 0, .int 0, .long 0])), (b2, .inr (5, [.int 0, .ref dz, .int 0]))]) [0, 1] (by decide) rfl
  have hK9 := hK.sub (tys' := []) [] rfl
  rw [← hAe] at hD9
  refine W.widen (k := 0) (n := 0) (by omega) (by omega) ?_
  subst hAe
  exact W.zret (v := 0) hx hb hr rfl (fun t ht9 hW => ⟨⟨0, (), rfl, rfl, ⟨by rw [ht9]; exact hP9, va_K.moved hW.alike hK9, hD9⟩⟩, hS.F ht9⟩) hS.2.2 dX17_isOut_33

def zX17_inFinal_ws : List Cond := .code yX17_inFinal cX17_inFinal 5 (some .int) :: ([.methodLink RX17 146 yX17_noEvent, .instanceMethod yX17_noEvent, .selects RX17 yX17_noEvent yX17_noEvent, .initialized RX17] ++ (zX17_noEvent_ws ++ ([])))
theorem zX17_inFinal_ws_good : zX17_inFinal_ws.all goodWord = true := by decide +kernel
set_option maxHeartbeats 4000000 in
set_option maxRecDepth 100000 in
/-- the reference refuses inFinal -/
theorem cm_inFinal (l : Launch) (hst : l.stackTraces = false) (D : va_G) (sz : Nat) (mo b0 b1 b2 b3 dz : Nat) (th : Int32) (x1 x2 : Int32) : Met l yX17_inFinal zX17_inFinal_ws (zR 4 0 0) (zPre [.ref mo, .int x1, .int x2] D [(mo, .inr (23, [.int th, .ref b0, .ref b1, .ref b2, .ref b3, .int 0, .int 0, .long 0])), (b2, .inr (5, [.int 0, .ref dz, .int 0]))] [] (va_A [(mo, .inr (23, [.int th, .ref b0, .ref b1, .ref b2, .ref b3, .int 0, .int 0, .long 0])), (b2, .inr (5, [.int 0, .ref dz, .int 0]))] sz) sz) (va_Qi (S := Unit) (fun r _ => r = 0) (fun _ t => zAt D [(mo, .inr (23, [.int 1, .ref b0, .ref b1, .ref b2, .ref b3, .int 0, .int 0, .long 0])), (b2, .inr (5, [.int 0, .ref dz, .int 0]))] [] (va_A [(mo, .inr (23, [.int th, .ref b0, .ref b1, .ref b2, .ref b3, .int 0, .int 0, .long 0])), (b2, .inr (5, [.int 0, .ref dz, .int 0]))] sz) t) (va_A [(mo, .inr (23, [.int th, .ref b0, .ref b1, .ref b2, .ref b3, .int 0, .int 0, .long 0])), (b2, .inr (5, [.int 0, .ref dz, .int 0]))] sz)) 0 0 (va_A [(mo, .inr (23, [.int th, .ref b0, .ref b1, .ref b2, .ref b3, .int 0, .int 0, .long 0])), (b2, .inr (5, [.int 0, .ref dz, .int 0]))] sz) := by
  refine Met.ofW (cc := cX17_inFinal) (maxL := 5) (ret := (some .int)) (by decide) rfl ?_
  intro p e s m args below meth c s₁ B hml hv
  obtain ⟨rfl, hsz, hP, hK, hD0, hz⟩ := hv
  have hx := B.exec
  have hb := B.bytes
  have hr := B.returns
  have hts := atoms_spec (ws := zX17_inFinal_ws) B.pre
  have hown : s.vm.findClass RX17 = some m.cls := findClass_of_methodNamed B.named
  have hlocks := B.notSynchronized
  subst hsz
  have hD := hD0.self (sz := s.heap.size)
  generalize hAe : va_A [(mo, .inr (23, [.int th, .ref b0, .ref b1, .ref b2, .ref b3, .int 0, .int 0, .long 0])), (b2, .inr (5, [.int 0, .ref dz, .int 0]))] s.heap.size = A at hD hz ⊢
  have hA : ∀ q : Nat, s.heap.size ≤ q → A q := fun q h => by rw [← hAe]; exact Or.inr h
  have hS : va_S A s.heap s.heap [] := va_S.rf
  have hP : va_P D vwCl [(mo, .inr (23, [.int th, .ref b0, .ref b1, .ref b2, .ref b3, .int 0, .int 0, .long 0])), (b2, .inr (5, [.int 0, .ref dz, .int 0]))] s.heap := hP
  have hl := lv_entry ([.ref mo, .int x1, .int x2]) (n := 5) (Nat.le_of_ble_eq_true rfl)
  rw [lg_entry_eq]
  generalize (lg_sl ([.ref mo, .int x1, .int x2]) ++ List.replicate (5 - (lg_sl ([.ref mo, .int x1, .int x2])).length) Slot.unset).toArray = ls at hl ⊢
  have hl : lv_has ls 5 [(0, .ref mo), (1, .int x1), (2, .int x2)] := hl
  refine lv_aload_n hx hb dX17_inFinal_0 rfl (lv_at hl 0 rfl) ?_
  refine lv_iload_n hx hb dX17_inFinal_1 rfl (lv_at hl 1 rfl) ?_
  have hPc := hP.sub (ws' := [(mo, .inr (23, [.int th, .ref b0, .ref b1, .ref b2, .ref b3, .int 0, .int 0, .long 0])), (b2, .inr (5, [.int 0, .ref dz, .int 0]))]) [0, 1] rfl
  have hDc := hD.sub (ws' := [(mo, .inr (23, [.int th, .ref b0, .ref b1, .ref b2, .ref b3, .int 0, .int 0, .long 0])), (b2, .inr (5, [.int 0, .ref dz, .int 0]))]) [0, 1] (by decide) rfl
  have hKc := hK.sub (tys' := []) [] rfl
  have hFc := va_free (wc := [(mo, .inr (23, [.int th, .ref b0, .ref b1, .ref b2, .ref b3, .int 0, .int 0, .long 0])), (b2, .inr (5, [.int 0, .ref dz, .int 0]))]) hD hS hA [0, 1] rfl
  refine va_calli (va_runV (As := [.int x1]) (rest := []) ⟨hx, hb, hml, hown, hts⟩ (cm_noEvent l hst D s.heap.size mo b0 b1 b2 b3 dz th x1) (cwV 1 hts (goodIn_app (goodIn_of _ (by decide +kernel)) (goodIn_sub (fun _ h => List.mem_cons_of_mem _ (List.mem_append_right _ (List.mem_append_left _ h))) zX17_noEvent_ws_good)) rfl rfl rfl (by decide +kernel) ⟨Nat.le_of_ble_eq_true rfl, Nat.le_of_ble_eq_true rfl⟩) ⟨zPre.blind, va_recv hKc hPc (ci := 23) (q0 := 0) rfl rfl, zPre.mk hPc hKc hDc hz hS (fun q h => hFc q h)⟩ rfl rfl hl.1 rfl (lv_room (Nat.le_of_ble_eq_true rfl)) dX17_inFinal_2 ⟨Nat.le_of_ble_eq_true rfl, Nat.le_of_ble_eq_true rfl⟩) hS (fun q _ h => hFc q h) (fun q h => hFc q h) (fun r9 u t H1 locs ht9 hvm hw hB hz1 hk1 hS => ?_)
  refine W.widen (k := 0) (n := 0) (by omega) (by omega) ?_
  obtain ⟨hP1, hK1, hD1⟩ := hB
  rw [ht9] at hP1
  have hK1 := va_K.moved hvm.symm hK1
  obtain ⟨hP, hD⟩ := va_join (wr := []) (w1 := [(mo, .inr (23, [.int 1, .ref b0, .ref b1, .ref b2, .ref b3, .int 0, .int 0, .long 0])), (b2, .inr (5, [.int 0, .ref dz, .int 0]))]) hP hD [0, 1] [] rfl rfl (by decide) (by decide) hk1 hFc hP1 hD1
  have hK := (hK.sub (tys' := []) [] rfl).app hK1
  generalize H1 = H at hP hS ⊢
  have hP : va_P D vwCl [(mo, .inr (23, [.int 1, .ref b0, .ref b1, .ref b2, .ref b3, .int 0, .int 0, .long 0])), (b2, .inr (5, [.int 0, .ref dz, .int 0]))] H := hP
  have hD : va_D A [(mo, .inr (23, [.int 1, .ref b0, .ref b1, .ref b2, .ref b3, .int 0, .int 0, .long 0])), (b2, .inr (5, [.int 0, .ref dz, .int 0]))] := hD
  have hK : va_K D vwCl [] s := hK
  subst hw
  refine lv_if_eq (tgt := 10) hx hb dX17_inFinal_5 (by decide) (fun c => absurd c (by decide)) (fun _ => ?_)
  refine lv_iconst (v := 0) hx hb dX17_inFinal_8 (by decide) ?_
  have hP9 := hP.sub (ws' := [(mo, .inr (23, [.int 1, .ref b0, .ref b1, .ref b2, .ref b3, .int 0, .int 0, .long 0])), (b2, .inr (5, [.int 0, .ref dz, .int 0]))]) [0, 1] rfl
  have hD9 := hD.sub (ws' := [(mo, .inr (23, [.int 1, .ref b0, .ref b1, .ref b2, .ref b3, .int 0, .int 0, .long 0])), (b2, .inr (5, [.int 0, .ref dz, .int 0]))]) [0, 1] (by decide) rfl
  have hK9 := hK.sub (tys' := []) [] rfl
  rw [← hAe] at hD9
  refine W.widen (k := 0) (n := 0) (by omega) (by omega) ?_
  subst hAe
  exact W.iret (v := 0) hx hb hr (fun t ht9 hW => ⟨⟨0, (), rfl, rfl, ⟨by rw [ht9]; exact hP9, va_K.moved hW.alike hK9, hD9⟩⟩, hS.F ht9⟩) hS.2.2 dX17_inFinal_9

def zX17_bar_ws : List Cond := .code yX17_bar cX17_bar 6 (some .int) :: ([.methodLink RX17 146 yX17_noEvent, .instanceMethod yX17_noEvent, .selects RX17 yX17_noEvent yX17_noEvent, .initialized RX17] ++ (zX17_noEvent_ws ++ ([])))
theorem zX17_bar_ws_good : zX17_bar_ws.all goodWord = true := by decide +kernel
set_option maxHeartbeats 4000000 in
set_option maxRecDepth 100000 in
/-- the reference refuses bar -/
theorem cm_bar (l : Launch) (hst : l.stackTraces = false) (D : va_G) (sz : Nat) (mo b0 b1 b2 b3 dz : Nat) (th : Int32) (x1 x2 : Int32) : Met l yX17_bar zX17_bar_ws (zR 4 0 0) (zPre [.ref mo, .int x1, .int x2] D [(mo, .inr (23, [.int th, .ref b0, .ref b1, .ref b2, .ref b3, .int 0, .int 0, .long 0])), (b2, .inr (5, [.int 0, .ref dz, .int 0]))] [] (va_A [(mo, .inr (23, [.int th, .ref b0, .ref b1, .ref b2, .ref b3, .int 0, .int 0, .long 0])), (b2, .inr (5, [.int 0, .ref dz, .int 0]))] sz) sz) (va_Qi (S := Unit) (fun r _ => r = 0) (fun _ t => zAt D [(mo, .inr (23, [.int 1, .ref b0, .ref b1, .ref b2, .ref b3, .int 0, .int 0, .long 0])), (b2, .inr (5, [.int 0, .ref dz, .int 0]))] [] (va_A [(mo, .inr (23, [.int th, .ref b0, .ref b1, .ref b2, .ref b3, .int 0, .int 0, .long 0])), (b2, .inr (5, [.int 0, .ref dz, .int 0]))] sz) t) (va_A [(mo, .inr (23, [.int th, .ref b0, .ref b1, .ref b2, .ref b3, .int 0, .int 0, .long 0])), (b2, .inr (5, [.int 0, .ref dz, .int 0]))] sz)) 0 0 (va_A [(mo, .inr (23, [.int th, .ref b0, .ref b1, .ref b2, .ref b3, .int 0, .int 0, .long 0])), (b2, .inr (5, [.int 0, .ref dz, .int 0]))] sz) := by
  refine Met.ofW (cc := cX17_bar) (maxL := 6) (ret := (some .int)) (by decide) rfl ?_
  intro p e s m args below meth c s₁ B hml hv
  obtain ⟨rfl, hsz, hP, hK, hD0, hz⟩ := hv
  have hx := B.exec
  have hb := B.bytes
  have hr := B.returns
  have hts := atoms_spec (ws := zX17_bar_ws) B.pre
  have hown : s.vm.findClass RX17 = some m.cls := findClass_of_methodNamed B.named
  have hlocks := B.notSynchronized
  subst hsz
  have hD := hD0.self (sz := s.heap.size)
  generalize hAe : va_A [(mo, .inr (23, [.int th, .ref b0, .ref b1, .ref b2, .ref b3, .int 0, .int 0, .long 0])), (b2, .inr (5, [.int 0, .ref dz, .int 0]))] s.heap.size = A at hD hz ⊢
  have hA : ∀ q : Nat, s.heap.size ≤ q → A q := fun q h => by rw [← hAe]; exact Or.inr h
  have hS : va_S A s.heap s.heap [] := va_S.rf
  have hP : va_P D vwCl [(mo, .inr (23, [.int th, .ref b0, .ref b1, .ref b2, .ref b3, .int 0, .int 0, .long 0])), (b2, .inr (5, [.int 0, .ref dz, .int 0]))] s.heap := hP
  have hl := lv_entry ([.ref mo, .int x1, .int x2]) (n := 6) (Nat.le_of_ble_eq_true rfl)
  rw [lg_entry_eq]
  generalize (lg_sl ([.ref mo, .int x1, .int x2]) ++ List.replicate (6 - (lg_sl ([.ref mo, .int x1, .int x2])).length) Slot.unset).toArray = ls at hl ⊢
  have hl : lv_has ls 6 [(0, .ref mo), (1, .int x1), (2, .int x2)] := hl
  refine lv_aload_n hx hb dX17_bar_0 rfl (lv_at hl 0 rfl) ?_
  refine lv_iload_n hx hb dX17_bar_1 rfl (lv_at hl 1 rfl) ?_
  have hPc := hP.sub (ws' := [(mo, .inr (23, [.int th, .ref b0, .ref b1, .ref b2, .ref b3, .int 0, .int 0, .long 0])), (b2, .inr (5, [.int 0, .ref dz, .int 0]))]) [0, 1] rfl
  have hDc := hD.sub (ws' := [(mo, .inr (23, [.int th, .ref b0, .ref b1, .ref b2, .ref b3, .int 0, .int 0, .long 0])), (b2, .inr (5, [.int 0, .ref dz, .int 0]))]) [0, 1] (by decide) rfl
  have hKc := hK.sub (tys' := []) [] rfl
  have hFc := va_free (wc := [(mo, .inr (23, [.int th, .ref b0, .ref b1, .ref b2, .ref b3, .int 0, .int 0, .long 0])), (b2, .inr (5, [.int 0, .ref dz, .int 0]))]) hD hS hA [0, 1] rfl
  refine va_calli (va_runV (As := [.int x1]) (rest := []) ⟨hx, hb, hml, hown, hts⟩ (cm_noEvent l hst D s.heap.size mo b0 b1 b2 b3 dz th x1) (cwV 1 hts (goodIn_app (goodIn_of _ (by decide +kernel)) (goodIn_sub (fun _ h => List.mem_cons_of_mem _ (List.mem_append_right _ (List.mem_append_left _ h))) zX17_noEvent_ws_good)) rfl rfl rfl (by decide +kernel) ⟨Nat.le_of_ble_eq_true rfl, Nat.le_of_ble_eq_true rfl⟩) ⟨zPre.blind, va_recv hKc hPc (ci := 23) (q0 := 0) rfl rfl, zPre.mk hPc hKc hDc hz hS (fun q h => hFc q h)⟩ rfl rfl hl.1 rfl (lv_room (Nat.le_of_ble_eq_true rfl)) dX17_bar_2 ⟨Nat.le_of_ble_eq_true rfl, Nat.le_of_ble_eq_true rfl⟩) hS (fun q _ h => hFc q h) (fun q h => hFc q h) (fun r9 u t H1 locs ht9 hvm hw hB hz1 hk1 hS => ?_)
  refine W.widen (k := 0) (n := 0) (by omega) (by omega) ?_
  obtain ⟨hP1, hK1, hD1⟩ := hB
  rw [ht9] at hP1
  have hK1 := va_K.moved hvm.symm hK1
  obtain ⟨hP, hD⟩ := va_join (wr := []) (w1 := [(mo, .inr (23, [.int 1, .ref b0, .ref b1, .ref b2, .ref b3, .int 0, .int 0, .long 0])), (b2, .inr (5, [.int 0, .ref dz, .int 0]))]) hP hD [0, 1] [] rfl rfl (by decide) (by decide) hk1 hFc hP1 hD1
  have hK := (hK.sub (tys' := []) [] rfl).app hK1
  generalize H1 = H at hP hS ⊢
  have hP : va_P D vwCl [(mo, .inr (23, [.int 1, .ref b0, .ref b1, .ref b2, .ref b3, .int 0, .int 0, .long 0])), (b2, .inr (5, [.int 0, .ref dz, .int 0]))] H := hP
  have hD : va_D A [(mo, .inr (23, [.int 1, .ref b0, .ref b1, .ref b2, .ref b3, .int 0, .int 0, .long 0])), (b2, .inr (5, [.int 0, .ref dz, .int 0]))] := hD
  have hK : va_K D vwCl [] s := hK
  subst hw
  refine lv_if_eq (tgt := 10) hx hb dX17_bar_5 (by decide) (fun c => absurd c (by decide)) (fun _ => ?_)
  refine lv_iconst (v := 0) hx hb dX17_bar_8 (by decide) ?_
  have hP9 := hP.sub (ws' := [(mo, .inr (23, [.int 1, .ref b0, .ref b1, .ref b2, .ref b3, .int 0, .int 0, .long 0])), (b2, .inr (5, [.int 0, .ref dz, .int 0]))]) [0, 1] rfl
  have hD9 := hD.sub (ws' := [(mo, .inr (23, [.int 1, .ref b0, .ref b1, .ref b2, .ref b3, .int 0, .int 0, .long 0])), (b2, .inr (5, [.int 0, .ref dz, .int 0]))]) [0, 1] (by decide) rfl
  have hK9 := hK.sub (tys' := []) [] rfl
  rw [← hAe] at hD9
  refine W.widen (k := 0) (n := 0) (by omega) (by omega) ?_
  subst hAe
  exact W.iret (v := 0) hx hb hr (fun t ht9 hW => ⟨⟨0, (), rfl, rfl, ⟨by rw [ht9]; exact hP9, va_K.moved hW.alike hK9, hD9⟩⟩, hS.F ht9⟩) hS.2.2 dX17_bar_9

def zX17_jump_ws : List Cond := .code yX17_jump cX17_jump 6 (some .int) :: ([.methodLink RX17 95 yX17_noPair, .instanceMethod yX17_noPair, .selects RX17 yX17_noPair yX17_noPair, .initialized RX17] ++ (zX17_noPair_ws ++ ([])))
theorem zX17_jump_ws_good : zX17_jump_ws.all goodWord = true := by decide +kernel
set_option maxHeartbeats 4000000 in
set_option maxRecDepth 100000 in
/-- the reference refuses jump -/
theorem cm_jump (l : Launch) (hst : l.stackTraces = false) (D : va_G) (sz : Nat) (mo b0 b1 b2 b3 dz : Nat) (th : Int32) (x1 x2 x3 : Int32) : Met l yX17_jump zX17_jump_ws (zR 4 0 0) (zPre [.ref mo, .int x1, .int x2, .int x3] D [(mo, .inr (23, [.int th, .ref b0, .ref b1, .ref b2, .ref b3, .int 0, .int 0, .long 0])), (b2, .inr (5, [.int 0, .ref dz, .int 0]))] [] (va_A [(mo, .inr (23, [.int th, .ref b0, .ref b1, .ref b2, .ref b3, .int 0, .int 0, .long 0])), (b2, .inr (5, [.int 0, .ref dz, .int 0]))] sz) sz) (va_Qi (S := Unit) (fun r _ => r = 0) (fun _ t => zAt D [(mo, .inr (23, [.int 1, .ref b0, .ref b1, .ref b2, .ref b3, .int 0, .int 0, .long 0])), (b2, .inr (5, [.int 0, .ref dz, .int 0]))] [] (va_A [(mo, .inr (23, [.int th, .ref b0, .ref b1, .ref b2, .ref b3, .int 0, .int 0, .long 0])), (b2, .inr (5, [.int 0, .ref dz, .int 0]))] sz) t) (va_A [(mo, .inr (23, [.int th, .ref b0, .ref b1, .ref b2, .ref b3, .int 0, .int 0, .long 0])), (b2, .inr (5, [.int 0, .ref dz, .int 0]))] sz)) 0 0 (va_A [(mo, .inr (23, [.int th, .ref b0, .ref b1, .ref b2, .ref b3, .int 0, .int 0, .long 0])), (b2, .inr (5, [.int 0, .ref dz, .int 0]))] sz) := by
  refine Met.ofW (cc := cX17_jump) (maxL := 6) (ret := (some .int)) (by decide) rfl ?_
  intro p e s m args below meth c s₁ B hml hv
  obtain ⟨rfl, hsz, hP, hK, hD0, hz⟩ := hv
  have hx := B.exec
  have hb := B.bytes
  have hr := B.returns
  have hts := atoms_spec (ws := zX17_jump_ws) B.pre
  have hown : s.vm.findClass RX17 = some m.cls := findClass_of_methodNamed B.named
  have hlocks := B.notSynchronized
  subst hsz
  have hD := hD0.self (sz := s.heap.size)
  generalize hAe : va_A [(mo, .inr (23, [.int th, .ref b0, .ref b1, .ref b2, .ref b3, .int 0, .int 0, .long 0])), (b2, .inr (5, [.int 0, .ref dz, .int 0]))] s.heap.size = A at hD hz ⊢
  have hA : ∀ q : Nat, s.heap.size ≤ q → A q := fun q h => by rw [← hAe]; exact Or.inr h
  have hS : va_S A s.heap s.heap [] := va_S.rf
  have hP : va_P D vwCl [(mo, .inr (23, [.int th, .ref b0, .ref b1, .ref b2, .ref b3, .int 0, .int 0, .long 0])), (b2, .inr (5, [.int 0, .ref dz, .int 0]))] s.heap := hP
  have hl := lv_entry ([.ref mo, .int x1, .int x2, .int x3]) (n := 6) (Nat.le_of_ble_eq_true rfl)
  rw [lg_entry_eq]
  generalize (lg_sl ([.ref mo, .int x1, .int x2, .int x3]) ++ List.replicate (6 - (lg_sl ([.ref mo, .int x1, .int x2, .int x3])).length) Slot.unset).toArray = ls at hl ⊢
  have hl : lv_has ls 6 [(0, .ref mo), (1, .int x1), (2, .int x2), (3, .int x3)] := hl
  refine lv_aload_n hx hb dX17_jump_0 rfl (lv_at hl 0 rfl) ?_
  refine lv_iload_n hx hb dX17_jump_1 rfl (lv_at hl 1 rfl) ?_
  refine lv_iload_n hx hb dX17_jump_2 rfl (lv_at hl 2 rfl) ?_
  have hPc := hP.sub (ws' := [(mo, .inr (23, [.int th, .ref b0, .ref b1, .ref b2, .ref b3, .int 0, .int 0, .long 0])), (b2, .inr (5, [.int 0, .ref dz, .int 0]))]) [0, 1] rfl
  have hDc := hD.sub (ws' := [(mo, .inr (23, [.int th, .ref b0, .ref b1, .ref b2, .ref b3, .int 0, .int 0, .long 0])), (b2, .inr (5, [.int 0, .ref dz, .int 0]))]) [0, 1] (by decide) rfl
  have hKc := hK.sub (tys' := []) [] rfl
  have hFc := va_free (wc := [(mo, .inr (23, [.int th, .ref b0, .ref b1, .ref b2, .ref b3, .int 0, .int 0, .long 0])), (b2, .inr (5, [.int 0, .ref dz, .int 0]))]) hD hS hA [0, 1] rfl
  refine va_calli (va_runV (As := [.int x1, .int x2]) (rest := []) ⟨hx, hb, hml, hown, hts⟩ (cm_noPair l hst D s.heap.size mo b0 b1 b2 b3 dz th x1 x2) (cwV 2 hts (goodIn_app (goodIn_of _ (by decide +kernel)) (goodIn_sub (fun _ h => List.mem_cons_of_mem _ (List.mem_append_right _ (List.mem_append_left _ h))) zX17_noPair_ws_good)) rfl rfl rfl (by decide +kernel) ⟨Nat.le_of_ble_eq_true rfl, Nat.le_of_ble_eq_true rfl⟩) ⟨zPre.blind, va_recv hKc hPc (ci := 23) (q0 := 0) rfl rfl, zPre.mk hPc hKc hDc hz hS (fun q h => hFc q h)⟩ rfl rfl hl.1 rfl (lv_room (Nat.le_of_ble_eq_true rfl)) dX17_jump_3 ⟨Nat.le_of_ble_eq_true rfl, Nat.le_of_ble_eq_true rfl⟩) hS (fun q _ h => hFc q h) (fun q h => hFc q h) (fun r9 u t H1 locs ht9 hvm hw hB hz1 hk1 hS => ?_)
  refine W.widen (k := 0) (n := 0) (by omega) (by omega) ?_
  obtain ⟨hP1, hK1, hD1⟩ := hB
  rw [ht9] at hP1
  have hK1 := va_K.moved hvm.symm hK1
  obtain ⟨hP, hD⟩ := va_join (wr := []) (w1 := [(mo, .inr (23, [.int 1, .ref b0, .ref b1, .ref b2, .ref b3, .int 0, .int 0, .long 0])), (b2, .inr (5, [.int 0, .ref dz, .int 0]))]) hP hD [0, 1] [] rfl rfl (by decide) (by decide) hk1 hFc hP1 hD1
  have hK := (hK.sub (tys' := []) [] rfl).app hK1
  generalize H1 = H at hP hS ⊢
  have hP : va_P D vwCl [(mo, .inr (23, [.int 1, .ref b0, .ref b1, .ref b2, .ref b3, .int 0, .int 0, .long 0])), (b2, .inr (5, [.int 0, .ref dz, .int 0]))] H := hP
  have hD : va_D A [(mo, .inr (23, [.int 1, .ref b0, .ref b1, .ref b2, .ref b3, .int 0, .int 0, .long 0])), (b2, .inr (5, [.int 0, .ref dz, .int 0]))] := hD
  have hK : va_K D vwCl [] s := hK
  subst hw
  refine lv_if_eq (tgt := 11) hx hb dX17_jump_6 (by decide) (fun c => absurd c (by decide)) (fun _ => ?_)
  refine lv_iconst (v := 0) hx hb dX17_jump_9 (by decide) ?_
  have hP9 := hP.sub (ws' := [(mo, .inr (23, [.int 1, .ref b0, .ref b1, .ref b2, .ref b3, .int 0, .int 0, .long 0])), (b2, .inr (5, [.int 0, .ref dz, .int 0]))]) [0, 1] rfl
  have hD9 := hD.sub (ws' := [(mo, .inr (23, [.int 1, .ref b0, .ref b1, .ref b2, .ref b3, .int 0, .int 0, .long 0])), (b2, .inr (5, [.int 0, .ref dz, .int 0]))]) [0, 1] (by decide) rfl
  have hK9 := hK.sub (tys' := []) [] rfl
  rw [← hAe] at hD9
  refine W.widen (k := 0) (n := 0) (by omega) (by omega) ?_
  subst hAe
  exact W.iret (v := 0) hx hb hr (fun t ht9 hW => ⟨⟨0, (), rfl, rfl, ⟨by rw [ht9]; exact hP9, va_K.moved hW.alike hK9, hD9⟩⟩, hS.F ht9⟩) hS.2.2 dX17_jump_10

def zX17_put_ws : List Cond := .code yX17_put cX17_put 6 (some .int) :: ([.methodLink RX17 95 yX17_noPair, .instanceMethod yX17_noPair, .selects RX17 yX17_noPair yX17_noPair, .initialized RX17] ++ (zX17_noPair_ws ++ ([])))
theorem zX17_put_ws_good : zX17_put_ws.all goodWord = true := by decide +kernel
set_option maxHeartbeats 4000000 in
set_option maxRecDepth 100000 in
/-- the reference refuses put -/
theorem cm_put (l : Launch) (hst : l.stackTraces = false) (D : va_G) (sz : Nat) (mo b0 b1 b2 b3 dz : Nat) (th : Int32) (x1 x2 x3 : Int32) : Met l yX17_put zX17_put_ws (zR 4 0 0) (zPre [.ref mo, .int x1, .int x2, .int x3] D [(mo, .inr (23, [.int th, .ref b0, .ref b1, .ref b2, .ref b3, .int 0, .int 0, .long 0])), (b2, .inr (5, [.int 0, .ref dz, .int 0]))] [] (va_A [(mo, .inr (23, [.int th, .ref b0, .ref b1, .ref b2, .ref b3, .int 0, .int 0, .long 0])), (b2, .inr (5, [.int 0, .ref dz, .int 0]))] sz) sz) (va_Qi (S := Unit) (fun r _ => r = 0) (fun _ t => zAt D [(mo, .inr (23, [.int 1, .ref b0, .ref b1, .ref b2, .ref b3, .int 0, .int 0, .long 0])), (b2, .inr (5, [.int 0, .ref dz, .int 0]))] [] (va_A [(mo, .inr (23, [.int th, .ref b0, .ref b1, .ref b2, .ref b3, .int 0, .int 0, .long 0])), (b2, .inr (5, [.int 0, .ref dz, .int 0]))] sz) t) (va_A [(mo, .inr (23, [.int th, .ref b0, .ref b1, .ref b2, .ref b3, .int 0, .int 0, .long 0])), (b2, .inr (5, [.int 0, .ref dz, .int 0]))] sz)) 0 0 (va_A [(mo, .inr (23, [.int th, .ref b0, .ref b1, .ref b2, .ref b3, .int 0, .int 0, .long 0])), (b2, .inr (5, [.int 0, .ref dz, .int 0]))] sz) := by
  refine Met.ofW (cc := cX17_put) (maxL := 6) (ret := (some .int)) (by decide) rfl ?_
  intro p e s m args below meth c s₁ B hml hv
  obtain ⟨rfl, hsz, hP, hK, hD0, hz⟩ := hv
  have hx := B.exec
  have hb := B.bytes
  have hr := B.returns
  have hts := atoms_spec (ws := zX17_put_ws) B.pre
  have hown : s.vm.findClass RX17 = some m.cls := findClass_of_methodNamed B.named
  have hlocks := B.notSynchronized
  subst hsz
  have hD := hD0.self (sz := s.heap.size)
  generalize hAe : va_A [(mo, .inr (23, [.int th, .ref b0, .ref b1, .ref b2, .ref b3, .int 0, .int 0, .long 0])), (b2, .inr (5, [.int 0, .ref dz, .int 0]))] s.heap.size = A at hD hz ⊢
  have hA : ∀ q : Nat, s.heap.size ≤ q → A q := fun q h => by rw [← hAe]; exact Or.inr h
  have hS : va_S A s.heap s.heap [] := va_S.rf
  have hP : va_P D vwCl [(mo, .inr (23, [.int th, .ref b0, .ref b1, .ref b2, .ref b3, .int 0, .int 0, .long 0])), (b2, .inr (5, [.int 0, .ref dz, .int 0]))] s.heap := hP
  have hl := lv_entry ([.ref mo, .int x1, .int x2, .int x3]) (n := 6) (Nat.le_of_ble_eq_true rfl)
  rw [lg_entry_eq]
  generalize (lg_sl ([.ref mo, .int x1, .int x2, .int x3]) ++ List.replicate (6 - (lg_sl ([.ref mo, .int x1, .int x2, .int x3])).length) Slot.unset).toArray = ls at hl ⊢
  have hl : lv_has ls 6 [(0, .ref mo), (1, .int x1), (2, .int x2), (3, .int x3)] := hl
  refine lv_aload_n hx hb dX17_put_0 rfl (lv_at hl 0 rfl) ?_
  refine lv_iload_n hx hb dX17_put_1 rfl (lv_at hl 1 rfl) ?_
  refine lv_iload_n hx hb dX17_put_2 rfl (lv_at hl 2 rfl) ?_
  have hPc := hP.sub (ws' := [(mo, .inr (23, [.int th, .ref b0, .ref b1, .ref b2, .ref b3, .int 0, .int 0, .long 0])), (b2, .inr (5, [.int 0, .ref dz, .int 0]))]) [0, 1] rfl
  have hDc := hD.sub (ws' := [(mo, .inr (23, [.int th, .ref b0, .ref b1, .ref b2, .ref b3, .int 0, .int 0, .long 0])), (b2, .inr (5, [.int 0, .ref dz, .int 0]))]) [0, 1] (by decide) rfl
  have hKc := hK.sub (tys' := []) [] rfl
  have hFc := va_free (wc := [(mo, .inr (23, [.int th, .ref b0, .ref b1, .ref b2, .ref b3, .int 0, .int 0, .long 0])), (b2, .inr (5, [.int 0, .ref dz, .int 0]))]) hD hS hA [0, 1] rfl
  refine va_calli (va_runV (As := [.int x1, .int x2]) (rest := []) ⟨hx, hb, hml, hown, hts⟩ (cm_noPair l hst D s.heap.size mo b0 b1 b2 b3 dz th x1 x2) (cwV 2 hts (goodIn_app (goodIn_of _ (by decide +kernel)) (goodIn_sub (fun _ h => List.mem_cons_of_mem _ (List.mem_append_right _ (List.mem_append_left _ h))) zX17_noPair_ws_good)) rfl rfl rfl (by decide +kernel) ⟨Nat.le_of_ble_eq_true rfl, Nat.le_of_ble_eq_true rfl⟩) ⟨zPre.blind, va_recv hKc hPc (ci := 23) (q0 := 0) rfl rfl, zPre.mk hPc hKc hDc hz hS (fun q h => hFc q h)⟩ rfl rfl hl.1 rfl (lv_room (Nat.le_of_ble_eq_true rfl)) dX17_put_3 ⟨Nat.le_of_ble_eq_true rfl, Nat.le_of_ble_eq_true rfl⟩) hS (fun q _ h => hFc q h) (fun q h => hFc q h) (fun r9 u t H1 locs ht9 hvm hw hB hz1 hk1 hS => ?_)
  refine W.widen (k := 0) (n := 0) (by omega) (by omega) ?_
  obtain ⟨hP1, hK1, hD1⟩ := hB
  rw [ht9] at hP1
  have hK1 := va_K.moved hvm.symm hK1
  obtain ⟨hP, hD⟩ := va_join (wr := []) (w1 := [(mo, .inr (23, [.int 1, .ref b0, .ref b1, .ref b2, .ref b3, .int 0, .int 0, .long 0])), (b2, .inr (5, [.int 0, .ref dz, .int 0]))]) hP hD [0, 1] [] rfl rfl (by decide) (by decide) hk1 hFc hP1 hD1
  have hK := (hK.sub (tys' := []) [] rfl).app hK1
  generalize H1 = H at hP hS ⊢
  have hP : va_P D vwCl [(mo, .inr (23, [.int 1, .ref b0, .ref b1, .ref b2, .ref b3, .int 0, .int 0, .long 0])), (b2, .inr (5, [.int 0, .ref dz, .int 0]))] H := hP
  have hD : va_D A [(mo, .inr (23, [.int 1, .ref b0, .ref b1, .ref b2, .ref b3, .int 0, .int 0, .long 0])), (b2, .inr (5, [.int 0, .ref dz, .int 0]))] := hD
  have hK : va_K D vwCl [] s := hK
  subst hw
  refine lv_if_eq (tgt := 11) hx hb dX17_put_6 (by decide) (fun c => absurd c (by decide)) (fun _ => ?_)
  refine lv_iconst (v := 0) hx hb dX17_put_9 (by decide) ?_
  have hP9 := hP.sub (ws' := [(mo, .inr (23, [.int 1, .ref b0, .ref b1, .ref b2, .ref b3, .int 0, .int 0, .long 0])), (b2, .inr (5, [.int 0, .ref dz, .int 0]))]) [0, 1] rfl
  have hD9 := hD.sub (ws' := [(mo, .inr (23, [.int 1, .ref b0, .ref b1, .ref b2, .ref b3, .int 0, .int 0, .long 0])), (b2, .inr (5, [.int 0, .ref dz, .int 0]))]) [0, 1] (by decide) rfl
  have hK9 := hK.sub (tys' := []) [] rfl
  rw [← hAe] at hD9
  refine W.widen (k := 0) (n := 0) (by omega) (by omega) ?_
  subst hAe
  exact W.iret (v := 0) hx hb hr (fun t ht9 hW => ⟨⟨0, (), rfl, rfl, ⟨by rw [ht9]; exact hP9, va_K.moved hW.alike hK9, hD9⟩⟩, hS.F ht9⟩) hS.2.2 dX17_put_10

def zX17_rankOf_ws : List Cond := .code yX17_rankOf cX17_rankOf 4 (some .int) :: ([.methodLink RX17 95 yX17_noPair, .instanceMethod yX17_noPair, .selects RX17 yX17_noPair yX17_noPair, .initialized RX17] ++ (zX17_noPair_ws ++ ([])))
theorem zX17_rankOf_ws_good : zX17_rankOf_ws.all goodWord = true := by decide +kernel
set_option maxHeartbeats 4000000 in
set_option maxRecDepth 100000 in
/-- the reference refuses rankOf -/
theorem cm_rankOf (l : Launch) (hst : l.stackTraces = false) (D : va_G) (sz : Nat) (mo b0 b1 b2 b3 dz : Nat) (th : Int32) (x1 x2 : Int32) : Met l yX17_rankOf zX17_rankOf_ws (zR 4 0 0) (zPre [.ref mo, .int x1, .int x2] D [(mo, .inr (23, [.int th, .ref b0, .ref b1, .ref b2, .ref b3, .int 0, .int 0, .long 0])), (b2, .inr (5, [.int 0, .ref dz, .int 0]))] [] (va_A [(mo, .inr (23, [.int th, .ref b0, .ref b1, .ref b2, .ref b3, .int 0, .int 0, .long 0])), (b2, .inr (5, [.int 0, .ref dz, .int 0]))] sz) sz) (va_Qi (S := Unit) (fun r _ => r = 0) (fun _ t => zAt D [(mo, .inr (23, [.int 1, .ref b0, .ref b1, .ref b2, .ref b3, .int 0, .int 0, .long 0])), (b2, .inr (5, [.int 0, .ref dz, .int 0]))] [] (va_A [(mo, .inr (23, [.int th, .ref b0, .ref b1, .ref b2, .ref b3, .int 0, .int 0, .long 0])), (b2, .inr (5, [.int 0, .ref dz, .int 0]))] sz) t) (va_A [(mo, .inr (23, [.int th, .ref b0, .ref b1, .ref b2, .ref b3, .int 0, .int 0, .long 0])), (b2, .inr (5, [.int 0, .ref dz, .int 0]))] sz)) 0 0 (va_A [(mo, .inr (23, [.int th, .ref b0, .ref b1, .ref b2, .ref b3, .int 0, .int 0, .long 0])), (b2, .inr (5, [.int 0, .ref dz, .int 0]))] sz) := by
  refine Met.ofW (cc := cX17_rankOf) (maxL := 4) (ret := (some .int)) (by decide) rfl ?_
  intro p e s m args below meth c s₁ B hml hv
  obtain ⟨rfl, hsz, hP, hK, hD0, hz⟩ := hv
  have hx := B.exec
  have hb := B.bytes
  have hr := B.returns
  have hts := atoms_spec (ws := zX17_rankOf_ws) B.pre
  have hown : s.vm.findClass RX17 = some m.cls := findClass_of_methodNamed B.named
  have hlocks := B.notSynchronized
  subst hsz
  have hD := hD0.self (sz := s.heap.size)
  generalize hAe : va_A [(mo, .inr (23, [.int th, .ref b0, .ref b1, .ref b2, .ref b3, .int 0, .int 0, .long 0])), (b2, .inr (5, [.int 0, .ref dz, .int 0]))] s.heap.size = A at hD hz ⊢
  have hA : ∀ q : Nat, s.heap.size ≤ q → A q := fun q h => by rw [← hAe]; exact Or.inr h
  have hS : va_S A s.heap s.heap [] := va_S.rf
  have hP : va_P D vwCl [(mo, .inr (23, [.int th, .ref b0, .ref b1, .ref b2, .ref b3, .int 0, .int 0, .long 0])), (b2, .inr (5, [.int 0, .ref dz, .int 0]))] s.heap := hP
  have hl := lv_entry ([.ref mo, .int x1, .int x2]) (n := 4) (Nat.le_of_ble_eq_true rfl)
  rw [lg_entry_eq]
  generalize (lg_sl ([.ref mo, .int x1, .int x2]) ++ List.replicate (4 - (lg_sl ([.ref mo, .int x1, .int x2])).length) Slot.unset).toArray = ls at hl ⊢
  have hl : lv_has ls 4 [(0, .ref mo), (1, .int x1), (2, .int x2)] := hl
  refine lv_aload_n hx hb dX17_rankOf_0 rfl (lv_at hl 0 rfl) ?_
  refine lv_iload_n hx hb dX17_rankOf_1 rfl (lv_at hl 1 rfl) ?_
  refine lv_iload_n hx hb dX17_rankOf_2 rfl (lv_at hl 2 rfl) ?_
  have hPc := hP.sub (ws' := [(mo, .inr (23, [.int th, .ref b0, .ref b1, .ref b2, .ref b3, .int 0, .int 0, .long 0])), (b2, .inr (5, [.int 0, .ref dz, .int 0]))]) [0, 1] rfl
  have hDc := hD.sub (ws' := [(mo, .inr (23, [.int th, .ref b0, .ref b1, .ref b2, .ref b3, .int 0, .int 0, .long 0])), (b2, .inr (5, [.int 0, .ref dz, .int 0]))]) [0, 1] (by decide) rfl
  have hKc := hK.sub (tys' := []) [] rfl
  have hFc := va_free (wc := [(mo, .inr (23, [.int th, .ref b0, .ref b1, .ref b2, .ref b3, .int 0, .int 0, .long 0])), (b2, .inr (5, [.int 0, .ref dz, .int 0]))]) hD hS hA [0, 1] rfl
  refine va_calli (va_runV (As := [.int x1, .int x2]) (rest := []) ⟨hx, hb, hml, hown, hts⟩ (cm_noPair l hst D s.heap.size mo b0 b1 b2 b3 dz th x1 x2) (cwV 2 hts (goodIn_app (goodIn_of _ (by decide +kernel)) (goodIn_sub (fun _ h => List.mem_cons_of_mem _ (List.mem_append_right _ (List.mem_append_left _ h))) zX17_noPair_ws_good)) rfl rfl rfl (by decide +kernel) ⟨Nat.le_of_ble_eq_true rfl, Nat.le_of_ble_eq_true rfl⟩) ⟨zPre.blind, va_recv hKc hPc (ci := 23) (q0 := 0) rfl rfl, zPre.mk hPc hKc hDc hz hS (fun q h => hFc q h)⟩ rfl rfl hl.1 rfl (lv_room (Nat.le_of_ble_eq_true rfl)) dX17_rankOf_3 ⟨Nat.le_of_ble_eq_true rfl, Nat.le_of_ble_eq_true rfl⟩) hS (fun q _ h => hFc q h) (fun q h => hFc q h) (fun r9 u t H1 locs ht9 hvm hw hB hz1 hk1 hS => ?_)
  refine W.widen (k := 0) (n := 0) (by omega) (by omega) ?_
  obtain ⟨hP1, hK1, hD1⟩ := hB
  rw [ht9] at hP1
  have hK1 := va_K.moved hvm.symm hK1
  obtain ⟨hP, hD⟩ := va_join (wr := []) (w1 := [(mo, .inr (23, [.int 1, .ref b0, .ref b1, .ref b2, .ref b3, .int 0, .int 0, .long 0])), (b2, .inr (5, [.int 0, .ref dz, .int 0]))]) hP hD [0, 1] [] rfl rfl (by decide) (by decide) hk1 hFc hP1 hD1
  have hK := (hK.sub (tys' := []) [] rfl).app hK1
  generalize H1 = H at hP hS ⊢
  have hP : va_P D vwCl [(mo, .inr (23, [.int 1, .ref b0, .ref b1, .ref b2, .ref b3, .int 0, .int 0, .long 0])), (b2, .inr (5, [.int 0, .ref dz, .int 0]))] H := hP
  have hD : va_D A [(mo, .inr (23, [.int 1, .ref b0, .ref b1, .ref b2, .ref b3, .int 0, .int 0, .long 0])), (b2, .inr (5, [.int 0, .ref dz, .int 0]))] := hD
  have hK : va_K D vwCl [] s := hK
  subst hw
  refine lv_if_eq (tgt := 11) hx hb dX17_rankOf_6 (by decide) (fun c => absurd c (by decide)) (fun _ => ?_)
  refine lv_iconst (v := 0) hx hb dX17_rankOf_9 (by decide) ?_
  have hP9 := hP.sub (ws' := [(mo, .inr (23, [.int 1, .ref b0, .ref b1, .ref b2, .ref b3, .int 0, .int 0, .long 0])), (b2, .inr (5, [.int 0, .ref dz, .int 0]))]) [0, 1] rfl
  have hD9 := hD.sub (ws' := [(mo, .inr (23, [.int 1, .ref b0, .ref b1, .ref b2, .ref b3, .int 0, .int 0, .long 0])), (b2, .inr (5, [.int 0, .ref dz, .int 0]))]) [0, 1] (by decide) rfl
  have hK9 := hK.sub (tys' := []) [] rfl
  rw [← hAe] at hD9
  refine W.widen (k := 0) (n := 0) (by omega) (by omega) ?_
  subst hAe
  exact W.iret (v := 0) hx hb hr (fun t ht9 hW => ⟨⟨0, (), rfl, rfl, ⟨by rw [ht9]; exact hP9, va_K.moved hW.alike hK9, hD9⟩⟩, hS.F ht9⟩) hS.2.2 dX17_rankOf_10

def zX17_resultOf_ws : List Cond := .code yX17_resultOf cX17_resultOf 5 (some .int) :: ([.methodLink RX17 95 yX17_noPair, .instanceMethod yX17_noPair, .selects RX17 yX17_noPair yX17_noPair, .initialized RX17] ++ (zX17_noPair_ws ++ ([])))
theorem zX17_resultOf_ws_good : zX17_resultOf_ws.all goodWord = true := by decide +kernel
set_option maxHeartbeats 4000000 in
set_option maxRecDepth 100000 in
/-- the reference refuses resultOf -/
theorem cm_resultOf (l : Launch) (hst : l.stackTraces = false) (D : va_G) (sz : Nat) (mo b0 b1 b2 b3 dz : Nat) (th : Int32) (x1 x2 : Int32) : Met l yX17_resultOf zX17_resultOf_ws (zR 4 0 0) (zPre [.ref mo, .int x1, .int x2] D [(mo, .inr (23, [.int th, .ref b0, .ref b1, .ref b2, .ref b3, .int 0, .int 0, .long 0])), (b2, .inr (5, [.int 0, .ref dz, .int 0]))] [] (va_A [(mo, .inr (23, [.int th, .ref b0, .ref b1, .ref b2, .ref b3, .int 0, .int 0, .long 0])), (b2, .inr (5, [.int 0, .ref dz, .int 0]))] sz) sz) (va_Qi (S := Unit) (fun r _ => r = 0) (fun _ t => zAt D [(mo, .inr (23, [.int 1, .ref b0, .ref b1, .ref b2, .ref b3, .int 0, .int 0, .long 0])), (b2, .inr (5, [.int 0, .ref dz, .int 0]))] [] (va_A [(mo, .inr (23, [.int th, .ref b0, .ref b1, .ref b2, .ref b3, .int 0, .int 0, .long 0])), (b2, .inr (5, [.int 0, .ref dz, .int 0]))] sz) t) (va_A [(mo, .inr (23, [.int th, .ref b0, .ref b1, .ref b2, .ref b3, .int 0, .int 0, .long 0])), (b2, .inr (5, [.int 0, .ref dz, .int 0]))] sz)) 0 0 (va_A [(mo, .inr (23, [.int th, .ref b0, .ref b1, .ref b2, .ref b3, .int 0, .int 0, .long 0])), (b2, .inr (5, [.int 0, .ref dz, .int 0]))] sz) := by
  refine Met.ofW (cc := cX17_resultOf) (maxL := 5) (ret := (some .int)) (by decide) rfl ?_
  intro p e s m args below meth c s₁ B hml hv
  obtain ⟨rfl, hsz, hP, hK, hD0, hz⟩ := hv
  have hx := B.exec
  have hb := B.bytes
  have hr := B.returns
  have hts := atoms_spec (ws := zX17_resultOf_ws) B.pre
  have hown : s.vm.findClass RX17 = some m.cls := findClass_of_methodNamed B.named
  have hlocks := B.notSynchronized
  subst hsz
  have hD := hD0.self (sz := s.heap.size)
  generalize hAe : va_A [(mo, .inr (23, [.int th, .ref b0, .ref b1, .ref b2, .ref b3, .int 0, .int 0, .long 0])), (b2, .inr (5, [.int 0, .ref dz, .int 0]))] s.heap.size = A at hD hz ⊢
  have hA : ∀ q : Nat, s.heap.size ≤ q → A q := fun q h => by rw [← hAe]; exact Or.inr h
  have hS : va_S A s.heap s.heap [] := va_S.rf
  have hP : va_P D vwCl [(mo, .inr (23, [.int th, .ref b0, .ref b1, .ref b2, .ref b3, .int 0, .int 0, .long 0])), (b2, .inr (5, [.int 0, .ref dz, .int 0]))] s.heap := hP
  have hl := lv_entry ([.ref mo, .int x1, .int x2]) (n := 5) (Nat.le_of_ble_eq_true rfl)
  rw [lg_entry_eq]
  generalize (lg_sl ([.ref mo, .int x1, .int x2]) ++ List.replicate (5 - (lg_sl ([.ref mo, .int x1, .int x2])).length) Slot.unset).toArray = ls at hl ⊢
  have hl : lv_has ls 5 [(0, .ref mo), (1, .int x1), (2, .int x2)] := hl
  refine lv_aload_n hx hb dX17_resultOf_0 rfl (lv_at hl 0 rfl) ?_
  refine lv_iload_n hx hb dX17_resultOf_1 rfl (lv_at hl 1 rfl) ?_
  refine lv_iload_n hx hb dX17_resultOf_2 rfl (lv_at hl 2 rfl) ?_
  have hPc := hP.sub (ws' := [(mo, .inr (23, [.int th, .ref b0, .ref b1, .ref b2, .ref b3, .int 0, .int 0, .long 0])), (b2, .inr (5, [.int 0, .ref dz, .int 0]))]) [0, 1] rfl
  have hDc := hD.sub (ws' := [(mo, .inr (23, [.int th, .ref b0, .ref b1, .ref b2, .ref b3, .int 0, .int 0, .long 0])), (b2, .inr (5, [.int 0, .ref dz, .int 0]))]) [0, 1] (by decide) rfl
  have hKc := hK.sub (tys' := []) [] rfl
  have hFc := va_free (wc := [(mo, .inr (23, [.int th, .ref b0, .ref b1, .ref b2, .ref b3, .int 0, .int 0, .long 0])), (b2, .inr (5, [.int 0, .ref dz, .int 0]))]) hD hS hA [0, 1] rfl
  refine va_calli (va_runV (As := [.int x1, .int x2]) (rest := []) ⟨hx, hb, hml, hown, hts⟩ (cm_noPair l hst D s.heap.size mo b0 b1 b2 b3 dz th x1 x2) (cwV 2 hts (goodIn_app (goodIn_of _ (by decide +kernel)) (goodIn_sub (fun _ h => List.mem_cons_of_mem _ (List.mem_append_right _ (List.mem_append_left _ h))) zX17_noPair_ws_good)) rfl rfl rfl (by decide +kernel) ⟨Nat.le_of_ble_eq_true rfl, Nat.le_of_ble_eq_true rfl⟩) ⟨zPre.blind, va_recv hKc hPc (ci := 23) (q0 := 0) rfl rfl, zPre.mk hPc hKc hDc hz hS (fun q h => hFc q h)⟩ rfl rfl hl.1 rfl (lv_room (Nat.le_of_ble_eq_true rfl)) dX17_resultOf_3 ⟨Nat.le_of_ble_eq_true rfl, Nat.le_of_ble_eq_true rfl⟩) hS (fun q _ h => hFc q h) (fun q h => hFc q h) (fun r9 u t H1 locs ht9 hvm hw hB hz1 hk1 hS => ?_)
  refine W.widen (k := 0) (n := 0) (by omega) (by omega) ?_
  obtain ⟨hP1, hK1, hD1⟩ := hB
  rw [ht9] at hP1
  have hK1 := va_K.moved hvm.symm hK1
  obtain ⟨hP, hD⟩ := va_join (wr := []) (w1 := [(mo, .inr (23, [.int 1, .ref b0, .ref b1, .ref b2, .ref b3, .int 0, .int 0, .long 0])), (b2, .inr (5, [.int 0, .ref dz, .int 0]))]) hP hD [0, 1] [] rfl rfl (by decide) (by decide) hk1 hFc hP1 hD1
  have hK := (hK.sub (tys' := []) [] rfl).app hK1
  generalize H1 = H at hP hS ⊢
  have hP : va_P D vwCl [(mo, .inr (23, [.int 1, .ref b0, .ref b1, .ref b2, .ref b3, .int 0, .int 0, .long 0])), (b2, .inr (5, [.int 0, .ref dz, .int 0]))] H := hP
  have hD : va_D A [(mo, .inr (23, [.int 1, .ref b0, .ref b1, .ref b2, .ref b3, .int 0, .int 0, .long 0])), (b2, .inr (5, [.int 0, .ref dz, .int 0]))] := hD
  have hK : va_K D vwCl [] s := hK
  subst hw
  refine lv_if_eq (tgt := 11) hx hb dX17_resultOf_6 (by decide) (fun c => absurd c (by decide)) (fun _ => ?_)
  refine lv_iconst (v := 0) hx hb dX17_resultOf_9 (by decide) ?_
  have hP9 := hP.sub (ws' := [(mo, .inr (23, [.int 1, .ref b0, .ref b1, .ref b2, .ref b3, .int 0, .int 0, .long 0])), (b2, .inr (5, [.int 0, .ref dz, .int 0]))]) [0, 1] rfl
  have hD9 := hD.sub (ws' := [(mo, .inr (23, [.int 1, .ref b0, .ref b1, .ref b2, .ref b3, .int 0, .int 0, .long 0])), (b2, .inr (5, [.int 0, .ref dz, .int 0]))]) [0, 1] (by decide) rfl
  have hK9 := hK.sub (tys' := []) [] rfl
  rw [← hAe] at hD9
  refine W.widen (k := 0) (n := 0) (by omega) (by omega) ?_
  subst hAe
  exact W.iret (v := 0) hx hb hr (fun t ht9 hW => ⟨⟨0, (), rfl, rfl, ⟨by rw [ht9]; exact hP9, va_K.moved hW.alike hK9, hD9⟩⟩, hS.F ht9⟩) hS.2.2 dX17_resultOf_10

def zX17_protest_ws : List Cond := .code yX17_protest cX17_protest 6 (some .int) :: ([.methodLink RX17 210 yX17_race, .instanceMethod yX17_race, .selects RX17 yX17_race yX17_race, .initialized RX17] ++ (zX17_race_ws ++ ([])))
theorem zX17_protest_ws_good : zX17_protest_ws.all goodWord = true := by decide +kernel
set_option maxHeartbeats 4000000 in
set_option maxRecDepth 100000 in
/-- the reference refuses protest -/
theorem cm_protest (l : Launch) (hst : l.stackTraces = false) (D : va_G) (sz : Nat) (mo b0 b1 b2 b3 dz : Nat) (th : Int32) (x1 x2 x3 : Int32) : Met l yX17_protest zX17_protest_ws (zR 4 0 0) (zPre [.ref mo, .int x1, .int x2, .int x3] D [(mo, .inr (23, [.int th, .ref b0, .ref b1, .ref b2, .ref b3, .int 0, .int 0, .long 0])), (b2, .inr (5, [.int 0, .ref dz, .int 0]))] [] (va_A [(mo, .inr (23, [.int th, .ref b0, .ref b1, .ref b2, .ref b3, .int 0, .int 0, .long 0])), (b2, .inr (5, [.int 0, .ref dz, .int 0]))] sz) sz) (va_Qi (S := Unit) (fun r _ => r = 0) (fun _ t => zAt D [(mo, .inr (23, [.int 1, .ref b0, .ref b1, .ref b2, .ref b3, .int 0, .int 0, .long 0])), (b2, .inr (5, [.int 0, .ref dz, .int 0]))] [] (va_A [(mo, .inr (23, [.int th, .ref b0, .ref b1, .ref b2, .ref b3, .int 0, .int 0, .long 0])), (b2, .inr (5, [.int 0, .ref dz, .int 0]))] sz) t) (va_A [(mo, .inr (23, [.int th, .ref b0, .ref b1, .ref b2, .ref b3, .int 0, .int 0, .long 0])), (b2, .inr (5, [.int 0, .ref dz, .int 0]))] sz)) 0 0 (va_A [(mo, .inr (23, [.int th, .ref b0, .ref b1, .ref b2, .ref b3, .int 0, .int 0, .long 0])), (b2, .inr (5, [.int 0, .ref dz, .int 0]))] sz) := by
  refine Met.ofW (cc := cX17_protest) (maxL := 6) (ret := (some .int)) (by decide) rfl ?_
  intro p e s m args below meth c s₁ B hml hv
  obtain ⟨rfl, hsz, hP, hK, hD0, hz⟩ := hv
  have hx := B.exec
  have hb := B.bytes
  have hr := B.returns
  have hts := atoms_spec (ws := zX17_protest_ws) B.pre
  have hown : s.vm.findClass RX17 = some m.cls := findClass_of_methodNamed B.named
  have hlocks := B.notSynchronized
  subst hsz
  have hD := hD0.self (sz := s.heap.size)
  generalize hAe : va_A [(mo, .inr (23, [.int th, .ref b0, .ref b1, .ref b2, .ref b3, .int 0, .int 0, .long 0])), (b2, .inr (5, [.int 0, .ref dz, .int 0]))] s.heap.size = A at hD hz ⊢
  have hA : ∀ q : Nat, s.heap.size ≤ q → A q := fun q h => by rw [← hAe]; exact Or.inr h
  have hS : va_S A s.heap s.heap [] := va_S.rf
  have hP : va_P D vwCl [(mo, .inr (23, [.int th, .ref b0, .ref b1, .ref b2, .ref b3, .int 0, .int 0, .long 0])), (b2, .inr (5, [.int 0, .ref dz, .int 0]))] s.heap := hP
  have hl := lv_entry ([.ref mo, .int x1, .int x2, .int x3]) (n := 6) (Nat.le_of_ble_eq_true rfl)
  rw [lg_entry_eq]
  generalize (lg_sl ([.ref mo, .int x1, .int x2, .int x3]) ++ List.replicate (6 - (lg_sl ([.ref mo, .int x1, .int x2, .int x3])).length) Slot.unset).toArray = ls at hl ⊢
  have hl : lv_has ls 6 [(0, .ref mo), (1, .int x1), (2, .int x2), (3, .int x3)] := hl
  refine lv_aload_n hx hb dX17_protest_0 rfl (lv_at hl 0 rfl) ?_
  refine lv_iload_n hx hb dX17_protest_1 rfl (lv_at hl 1 rfl) ?_
  refine lv_iload_n hx hb dX17_protest_2 rfl (lv_at hl 3 rfl) ?_
  refine lv_iload_n hx hb dX17_protest_3 rfl (lv_at hl 2 rfl) ?_
  have hPc := hP.sub (ws' := [(mo, .inr (23, [.int th, .ref b0, .ref b1, .ref b2, .ref b3, .int 0, .int 0, .long 0])), (b2, .inr (5, [.int 0, .ref dz, .int 0]))]) [0, 1] rfl
  have hDc := hD.sub (ws' := [(mo, .inr (23, [.int th, .ref b0, .ref b1, .ref b2, .ref b3, .int 0, .int 0, .long 0])), (b2, .inr (5, [.int 0, .ref dz, .int 0]))]) [0, 1] (by decide) rfl
  have hKc := hK.sub (tys' := []) [] rfl
  have hFc := va_free (wc := [(mo, .inr (23, [.int th, .ref b0, .ref b1, .ref b2, .ref b3, .int 0, .int 0, .long 0])), (b2, .inr (5, [.int 0, .ref dz, .int 0]))]) hD hS hA [0, 1] rfl
  refine va_callq (va_runV (As := [.int x1, .int x3, .int x2]) (rest := []) ⟨hx, hb, hml, hown, hts⟩ (cm_race l hst D s.heap.size mo b0 b1 b2 b3 dz th x1 x3 x2) (cwV 3 hts (goodIn_app (goodIn_of _ (by decide +kernel)) (goodIn_sub (fun _ h => List.mem_cons_of_mem _ (List.mem_append_right _ (List.mem_append_left _ h))) zX17_race_ws_good)) rfl rfl rfl (by decide +kernel) ⟨Nat.le_of_ble_eq_true rfl, Nat.le_of_ble_eq_true rfl⟩) ⟨zPre.blind, va_recv hKc hPc (ci := 23) (q0 := 0) rfl rfl, zPre.mk hPc hKc hDc hz hS (fun q h => hFc q h)⟩ rfl rfl hl.1 rfl (lv_room (Nat.le_of_ble_eq_true rfl)) dX17_protest_4 ⟨Nat.le_of_ble_eq_true rfl, Nat.le_of_ble_eq_true rfl⟩) hS (fun q _ h => hFc q h) (fun q h => hFc q h) (fun r9 u t H1 locs ht9 hvm hw hB hz1 hk1 hS => ?_)
  refine W.widen (k := 0) (n := 0) (by omega) (by omega) ?_
  obtain ⟨hP1, hK1, hD1⟩ := hB
  rw [ht9] at hP1
  have hK1 := va_K.moved hvm.symm hK1
  obtain ⟨hP, hD⟩ := va_join (wr := []) (w1 := [(mo, .inr (23, [.int 1, .ref b0, .ref b1, .ref b2, .ref b3, .int 0, .int 0, .long 0])), (b2, .inr (5, [.int 0, .ref dz, .int 0]))]) hP hD [0, 1] [] rfl rfl (by decide) (by decide) hk1 hFc hP1 hD1
  have hK := (hK.sub (tys' := []) [] rfl).app hK1
  generalize H1 = H at hP hS ⊢
  have hP : va_P D vwCl [(mo, .inr (23, [.int 1, .ref b0, .ref b1, .ref b2, .ref b3, .int 0, .int 0, .long 0])), (b2, .inr (5, [.int 0, .ref dz, .int 0]))] H := hP
  have hD : va_D A [(mo, .inr (23, [.int 1, .ref b0, .ref b1, .ref b2, .ref b3, .int 0, .int 0, .long 0])), (b2, .inr (5, [.int 0, .ref dz, .int 0]))] := hD
  have hK : va_K D vwCl [] s := hK
  subst hw
  refine lv_astoreN (lv' := [(4, .null), (0, .ref mo), (1, .int x1), (2, .int x2), (3, .int x3)]) hx hb dX17_protest_7 hl (by decide) rfl (fun ls hl => ?_)
  refine lv_aloadN hx hb dX17_protest_9 (lv_at hl 0 rfl) ?_
  refine lv_ifnonnullN hx hb dX17_protest_11 ?_
  refine lv_iconst (v := 0) hx hb dX17_protest_14 (by decide) ?_
  have hP9 := hP.sub (ws' := [(mo, .inr (23, [.int 1, .ref b0, .ref b1, .ref b2, .ref b3, .int 0, .int 0, .long 0])), (b2, .inr (5, [.int 0, .ref dz, .int 0]))]) [0, 1] rfl
  have hD9 := hD.sub (ws' := [(mo, .inr (23, [.int 1, .ref b0, .ref b1, .ref b2, .ref b3, .int 0, .int 0, .long 0])), (b2, .inr (5, [.int 0, .ref dz, .int 0]))]) [0, 1] (by decide) rfl
  have hK9 := hK.sub (tys' := []) [] rfl
  rw [← hAe] at hD9
  refine W.widen (k := 0) (n := 0) (by omega) (by omega) ?_
  subst hAe
  exact W.iret (v := 0) hx hb hr (fun t ht9 hW => ⟨⟨0, (), rfl, rfl, ⟨by rw [ht9]; exact hP9, va_K.moved hW.alike hK9, hD9⟩⟩, hS.F ht9⟩) hS.2.2 dX17_protest_15

def zX17_close_ws : List Cond := .code yX17_close cX17_close 4 (some .boolean) :: ([.methodLink RX17 146 yX17_noEvent, .instanceMethod yX17_noEvent, .selects RX17 yX17_noEvent yX17_noEvent, .initialized RX17] ++ (zX17_noEvent_ws ++ ([])))
theorem zX17_close_ws_good : zX17_close_ws.all goodWord = true := by decide +kernel
set_option maxHeartbeats 4000000 in
set_option maxRecDepth 100000 in
/-- the reference refuses close -/
theorem cm_close (l : Launch) (hst : l.stackTraces = false) (D : va_G) (sz : Nat) (mo b0 b1 b2 b3 dz : Nat) (th : Int32) (x1 x2 : Int32) : Met l yX17_close zX17_close_ws (zR 4 0 0) (zPre [.ref mo, .int x1, .int x2] D [(mo, .inr (23, [.int th, .ref b0, .ref b1, .ref b2, .ref b3, .int 0, .int 0, .long 0])), (b2, .inr (5, [.int 0, .ref dz, .int 0]))] [] (va_A [(mo, .inr (23, [.int th, .ref b0, .ref b1, .ref b2, .ref b3, .int 0, .int 0, .long 0])), (b2, .inr (5, [.int 0, .ref dz, .int 0]))] sz) sz) (va_Qi (S := Unit) (fun r _ => r = 0) (fun _ t => zAt D [(mo, .inr (23, [.int 1, .ref b0, .ref b1, .ref b2, .ref b3, .int 0, .int 0, .long 0])), (b2, .inr (5, [.int 0, .ref dz, .int 0]))] [] (va_A [(mo, .inr (23, [.int th, .ref b0, .ref b1, .ref b2, .ref b3, .int 0, .int 0, .long 0])), (b2, .inr (5, [.int 0, .ref dz, .int 0]))] sz) t) (va_A [(mo, .inr (23, [.int th, .ref b0, .ref b1, .ref b2, .ref b3, .int 0, .int 0, .long 0])), (b2, .inr (5, [.int 0, .ref dz, .int 0]))] sz)) 0 0 (va_A [(mo, .inr (23, [.int th, .ref b0, .ref b1, .ref b2, .ref b3, .int 0, .int 0, .long 0])), (b2, .inr (5, [.int 0, .ref dz, .int 0]))] sz) := by
  refine Met.ofW (cc := cX17_close) (maxL := 4) (ret := (some .boolean)) (by decide) rfl ?_
  intro p e s m args below meth c s₁ B hml hv
  obtain ⟨rfl, hsz, hP, hK, hD0, hz⟩ := hv
  have hx := B.exec
  have hb := B.bytes
  have hr := B.returns
  have hts := atoms_spec (ws := zX17_close_ws) B.pre
  have hown : s.vm.findClass RX17 = some m.cls := findClass_of_methodNamed B.named
  have hlocks := B.notSynchronized
  subst hsz
  have hD := hD0.self (sz := s.heap.size)
  generalize hAe : va_A [(mo, .inr (23, [.int th, .ref b0, .ref b1, .ref b2, .ref b3, .int 0, .int 0, .long 0])), (b2, .inr (5, [.int 0, .ref dz, .int 0]))] s.heap.size = A at hD hz ⊢
  have hA : ∀ q : Nat, s.heap.size ≤ q → A q := fun q h => by rw [← hAe]; exact Or.inr h
  have hS : va_S A s.heap s.heap [] := va_S.rf
  have hP : va_P D vwCl [(mo, .inr (23, [.int th, .ref b0, .ref b1, .ref b2, .ref b3, .int 0, .int 0, .long 0])), (b2, .inr (5, [.int 0, .ref dz, .int 0]))] s.heap := hP
  have hl := lv_entry ([.ref mo, .int x1, .int x2]) (n := 4) (Nat.le_of_ble_eq_true rfl)
  rw [lg_entry_eq]
  generalize (lg_sl ([.ref mo, .int x1, .int x2]) ++ List.replicate (4 - (lg_sl ([.ref mo, .int x1, .int x2])).length) Slot.unset).toArray = ls at hl ⊢
  have hl : lv_has ls 4 [(0, .ref mo), (1, .int x1), (2, .int x2)] := hl
  refine lv_aload_n hx hb dX17_close_0 rfl (lv_at hl 0 rfl) ?_
  refine lv_iload_n hx hb dX17_close_1 rfl (lv_at hl 1 rfl) ?_
  have hPc := hP.sub (ws' := [(mo, .inr (23, [.int th, .ref b0, .ref b1, .ref b2, .ref b3, .int 0, .int 0, .long 0])), (b2, .inr (5, [.int 0, .ref dz, .int 0]))]) [0, 1] rfl
  have hDc := hD.sub (ws' := [(mo, .inr (23, [.int th, .ref b0, .ref b1, .ref b2, .ref b3, .int 0, .int 0, .long 0])), (b2, .inr (5, [.int 0, .ref dz, .int 0]))]) [0, 1] (by decide) rfl
  have hKc := hK.sub (tys' := []) [] rfl
  have hFc := va_free (wc := [(mo, .inr (23, [.int th, .ref b0, .ref b1, .ref b2, .ref b3, .int 0, .int 0, .long 0])), (b2, .inr (5, [.int 0, .ref dz, .int 0]))]) hD hS hA [0, 1] rfl
  refine va_calli (va_runV (As := [.int x1]) (rest := []) ⟨hx, hb, hml, hown, hts⟩ (cm_noEvent l hst D s.heap.size mo b0 b1 b2 b3 dz th x1) (cwV 1 hts (goodIn_app (goodIn_of _ (by decide +kernel)) (goodIn_sub (fun _ h => List.mem_cons_of_mem _ (List.mem_append_right _ (List.mem_append_left _ h))) zX17_noEvent_ws_good)) rfl rfl rfl (by decide +kernel) ⟨Nat.le_of_ble_eq_true rfl, Nat.le_of_ble_eq_true rfl⟩) ⟨zPre.blind, va_recv hKc hPc (ci := 23) (q0 := 0) rfl rfl, zPre.mk hPc hKc hDc hz hS (fun q h => hFc q h)⟩ rfl rfl hl.1 rfl (lv_room (Nat.le_of_ble_eq_true rfl)) dX17_close_2 ⟨Nat.le_of_ble_eq_true rfl, Nat.le_of_ble_eq_true rfl⟩) hS (fun q _ h => hFc q h) (fun q h => hFc q h) (fun r9 u t H1 locs ht9 hvm hw hB hz1 hk1 hS => ?_)
  refine W.widen (k := 0) (n := 0) (by omega) (by omega) ?_
  obtain ⟨hP1, hK1, hD1⟩ := hB
  rw [ht9] at hP1
  have hK1 := va_K.moved hvm.symm hK1
  obtain ⟨hP, hD⟩ := va_join (wr := []) (w1 := [(mo, .inr (23, [.int 1, .ref b0, .ref b1, .ref b2, .ref b3, .int 0, .int 0, .long 0])), (b2, .inr (5, [.int 0, .ref dz, .int 0]))]) hP hD [0, 1] [] rfl rfl (by decide) (by decide) hk1 hFc hP1 hD1
  have hK := (hK.sub (tys' := []) [] rfl).app hK1
  generalize H1 = H at hP hS ⊢
  have hP : va_P D vwCl [(mo, .inr (23, [.int 1, .ref b0, .ref b1, .ref b2, .ref b3, .int 0, .int 0, .long 0])), (b2, .inr (5, [.int 0, .ref dz, .int 0]))] H := hP
  have hD : va_D A [(mo, .inr (23, [.int 1, .ref b0, .ref b1, .ref b2, .ref b3, .int 0, .int 0, .long 0])), (b2, .inr (5, [.int 0, .ref dz, .int 0]))] := hD
  have hK : va_K D vwCl [] s := hK
  subst hw
  refine lv_if_eq (tgt := 10) hx hb dX17_close_5 (by decide) (fun c => absurd c (by decide)) (fun _ => ?_)
  refine lv_iconst (v := 0) hx hb dX17_close_8 (by decide) ?_
  have hP9 := hP.sub (ws' := [(mo, .inr (23, [.int 1, .ref b0, .ref b1, .ref b2, .ref b3, .int 0, .int 0, .long 0])), (b2, .inr (5, [.int 0, .ref dz, .int 0]))]) [0, 1] rfl
  have hD9 := hD.sub (ws' := [(mo, .inr (23, [.int 1, .ref b0, .ref b1, .ref b2, .ref b3, .int 0, .int 0, .long 0])), (b2, .inr (5, [.int 0, .ref dz, .int 0]))]) [0, 1] (by decide) rfl
  have hK9 := hK.sub (tys' := []) [] rfl
  rw [← hAe] at hD9
  refine W.widen (k := 0) (n := 0) (by omega) (by omega) ?_
  subst hAe
  exact W.zret (v := 0) hx hb hr rfl (fun t ht9 hW => ⟨⟨0, (), rfl, rfl, ⟨by rw [ht9]; exact hP9, va_K.moved hW.alike hK9, hD9⟩⟩, hS.F ht9⟩) hS.2.2 dX17_close_9

def zX17_record_ws : List Cond := .code yX17_record cX17_record 4 (some .int) :: ([.methodLink RX17 146 yX17_noEvent, .instanceMethod yX17_noEvent, .selects RX17 yX17_noEvent yX17_noEvent, .initialized RX17] ++ (zX17_noEvent_ws ++ ([])))
theorem zX17_record_ws_good : zX17_record_ws.all goodWord = true := by decide +kernel
set_option maxHeartbeats 4000000 in
set_option maxRecDepth 100000 in
/-- the reference refuses record -/
theorem cm_record (l : Launch) (hst : l.stackTraces = false) (D : va_G) (sz : Nat) (mo b0 b1 b2 b3 dz : Nat) (th : Int32) (x1 : Int32) : Met l yX17_record zX17_record_ws (zR 4 0 0) (zPre [.ref mo, .int x1] D [(mo, .inr (23, [.int th, .ref b0, .ref b1, .ref b2, .ref b3, .int 0, .int 0, .long 0])), (b2, .inr (5, [.int 0, .ref dz, .int 0]))] [] (va_A [(mo, .inr (23, [.int th, .ref b0, .ref b1, .ref b2, .ref b3, .int 0, .int 0, .long 0])), (b2, .inr (5, [.int 0, .ref dz, .int 0]))] sz) sz) (va_Qi (S := Unit) (fun r _ => r = 0) (fun _ t => zAt D [(mo, .inr (23, [.int 1, .ref b0, .ref b1, .ref b2, .ref b3, .int 0, .int 0, .long 0])), (b2, .inr (5, [.int 0, .ref dz, .int 0]))] [] (va_A [(mo, .inr (23, [.int th, .ref b0, .ref b1, .ref b2, .ref b3, .int 0, .int 0, .long 0])), (b2, .inr (5, [.int 0, .ref dz, .int 0]))] sz) t) (va_A [(mo, .inr (23, [.int th, .ref b0, .ref b1, .ref b2, .ref b3, .int 0, .int 0, .long 0])), (b2, .inr (5, [.int 0, .ref dz, .int 0]))] sz)) 0 0 (va_A [(mo, .inr (23, [.int th, .ref b0, .ref b1, .ref b2, .ref b3, .int 0, .int 0, .long 0])), (b2, .inr (5, [.int 0, .ref dz, .int 0]))] sz) := by
  refine Met.ofW (cc := cX17_record) (maxL := 4) (ret := (some .int)) (by decide) rfl ?_
  intro p e s m args below meth c s₁ B hml hv
  obtain ⟨rfl, hsz, hP, hK, hD0, hz⟩ := hv
  have hx := B.exec
  have hb := B.bytes
  have hr := B.returns
  have hts := atoms_spec (ws := zX17_record_ws) B.pre
  have hown : s.vm.findClass RX17 = some m.cls := findClass_of_methodNamed B.named
  have hlocks := B.notSynchronized
  subst hsz
  have hD := hD0.self (sz := s.heap.size)
  generalize hAe : va_A [(mo, .inr (23, [.int th, .ref b0, .ref b1, .ref b2, .ref b3, .int 0, .int 0, .long 0])), (b2, .inr (5, [.int 0, .ref dz, .int 0]))] s.heap.size = A at hD hz ⊢
  have hA : ∀ q : Nat, s.heap.size ≤ q → A q := fun q h => by rw [← hAe]; exact Or.inr h
  have hS : va_S A s.heap s.heap [] := va_S.rf
  have hP : va_P D vwCl [(mo, .inr (23, [.int th, .ref b0, .ref b1, .ref b2, .ref b3, .int 0, .int 0, .long 0])), (b2, .inr (5, [.int 0, .ref dz, .int 0]))] s.heap := hP
  have hl := lv_entry ([.ref mo, .int x1]) (n := 4) (Nat.le_of_ble_eq_true rfl)
  rw [lg_entry_eq]
  generalize (lg_sl ([.ref mo, .int x1]) ++ List.replicate (4 - (lg_sl ([.ref mo, .int x1])).length) Slot.unset).toArray = ls at hl ⊢
  have hl : lv_has ls 4 [(0, .ref mo), (1, .int x1)] := hl
  refine lv_aload_n hx hb dX17_record_0 rfl (lv_at hl 0 rfl) ?_
  refine lv_iload_n hx hb dX17_record_1 rfl (lv_at hl 1 rfl) ?_
  have hPc := hP.sub (ws' := [(mo, .inr (23, [.int th, .ref b0, .ref b1, .ref b2, .ref b3, .int 0, .int 0, .long 0])), (b2, .inr (5, [.int 0, .ref dz, .int 0]))]) [0, 1] rfl
  have hDc := hD.sub (ws' := [(mo, .inr (23, [.int th, .ref b0, .ref b1, .ref b2, .ref b3, .int 0, .int 0, .long 0])), (b2, .inr (5, [.int 0, .ref dz, .int 0]))]) [0, 1] (by decide) rfl
  have hKc := hK.sub (tys' := []) [] rfl
  have hFc := va_free (wc := [(mo, .inr (23, [.int th, .ref b0, .ref b1, .ref b2, .ref b3, .int 0, .int 0, .long 0])), (b2, .inr (5, [.int 0, .ref dz, .int 0]))]) hD hS hA [0, 1] rfl
  refine va_calli (va_runV (As := [.int x1]) (rest := []) ⟨hx, hb, hml, hown, hts⟩ (cm_noEvent l hst D s.heap.size mo b0 b1 b2 b3 dz th x1) (cwV 1 hts (goodIn_app (goodIn_of _ (by decide +kernel)) (goodIn_sub (fun _ h => List.mem_cons_of_mem _ (List.mem_append_right _ (List.mem_append_left _ h))) zX17_noEvent_ws_good)) rfl rfl rfl (by decide +kernel) ⟨Nat.le_of_ble_eq_true rfl, Nat.le_of_ble_eq_true rfl⟩) ⟨zPre.blind, va_recv hKc hPc (ci := 23) (q0 := 0) rfl rfl, zPre.mk hPc hKc hDc hz hS (fun q h => hFc q h)⟩ rfl rfl hl.1 rfl (lv_room (Nat.le_of_ble_eq_true rfl)) dX17_record_2 ⟨Nat.le_of_ble_eq_true rfl, Nat.le_of_ble_eq_true rfl⟩) hS (fun q _ h => hFc q h) (fun q h => hFc q h) (fun r9 u t H1 locs ht9 hvm hw hB hz1 hk1 hS => ?_)
  refine W.widen (k := 0) (n := 0) (by omega) (by omega) ?_
  obtain ⟨hP1, hK1, hD1⟩ := hB
  rw [ht9] at hP1
  have hK1 := va_K.moved hvm.symm hK1
  obtain ⟨hP, hD⟩ := va_join (wr := []) (w1 := [(mo, .inr (23, [.int 1, .ref b0, .ref b1, .ref b2, .ref b3, .int 0, .int 0, .long 0])), (b2, .inr (5, [.int 0, .ref dz, .int 0]))]) hP hD [0, 1] [] rfl rfl (by decide) (by decide) hk1 hFc hP1 hD1
  have hK := (hK.sub (tys' := []) [] rfl).app hK1
  generalize H1 = H at hP hS ⊢
  have hP : va_P D vwCl [(mo, .inr (23, [.int 1, .ref b0, .ref b1, .ref b2, .ref b3, .int 0, .int 0, .long 0])), (b2, .inr (5, [.int 0, .ref dz, .int 0]))] H := hP
  have hD : va_D A [(mo, .inr (23, [.int 1, .ref b0, .ref b1, .ref b2, .ref b3, .int 0, .int 0, .long 0])), (b2, .inr (5, [.int 0, .ref dz, .int 0]))] := hD
  have hK : va_K D vwCl [] s := hK
  subst hw
  refine lv_if_eq (tgt := 10) hx hb dX17_record_5 (by decide) (fun c => absurd c (by decide)) (fun _ => ?_)
  refine lv_iconst (v := 0) hx hb dX17_record_8 (by decide) ?_
  have hP9 := hP.sub (ws' := [(mo, .inr (23, [.int 1, .ref b0, .ref b1, .ref b2, .ref b3, .int 0, .int 0, .long 0])), (b2, .inr (5, [.int 0, .ref dz, .int 0]))]) [0, 1] rfl
  have hD9 := hD.sub (ws' := [(mo, .inr (23, [.int 1, .ref b0, .ref b1, .ref b2, .ref b3, .int 0, .int 0, .long 0])), (b2, .inr (5, [.int 0, .ref dz, .int 0]))]) [0, 1] (by decide) rfl
  have hK9 := hK.sub (tys' := []) [] rfl
  rw [← hAe] at hD9
  refine W.widen (k := 0) (n := 0) (by omega) (by omega) ?_
  subst hAe
  exact W.iret (v := 0) hx hb hr (fun t ht9 hW => ⟨⟨0, (), rfl, rfl, ⟨by rw [ht9]; exact hP9, va_K.moved hW.alike hK9, hD9⟩⟩, hS.F ht9⟩) hS.2.2 dX17_record_9

def zX17_holder_ws : List Cond := .code yX17_holder cX17_holder 4 (some .int) :: ([.methodLink RX17 146 yX17_noEvent, .instanceMethod yX17_noEvent, .selects RX17 yX17_noEvent yX17_noEvent, .initialized RX17] ++ (zX17_noEvent_ws ++ ([])))
theorem zX17_holder_ws_good : zX17_holder_ws.all goodWord = true := by decide +kernel
set_option maxHeartbeats 4000000 in
set_option maxRecDepth 100000 in
/-- the reference refuses holder -/
theorem cm_holder (l : Launch) (hst : l.stackTraces = false) (D : va_G) (sz : Nat) (mo b0 b1 b2 b3 dz : Nat) (th : Int32) (x1 : Int32) : Met l yX17_holder zX17_holder_ws (zR 4 0 0) (zPre [.ref mo, .int x1] D [(mo, .inr (23, [.int th, .ref b0, .ref b1, .ref b2, .ref b3, .int 0, .int 0, .long 0])), (b2, .inr (5, [.int 0, .ref dz, .int 0]))] [] (va_A [(mo, .inr (23, [.int th, .ref b0, .ref b1, .ref b2, .ref b3, .int 0, .int 0, .long 0])), (b2, .inr (5, [.int 0, .ref dz, .int 0]))] sz) sz) (va_Qi (S := Unit) (fun r _ => r = 0) (fun _ t => zAt D [(mo, .inr (23, [.int 1, .ref b0, .ref b1, .ref b2, .ref b3, .int 0, .int 0, .long 0])), (b2, .inr (5, [.int 0, .ref dz, .int 0]))] [] (va_A [(mo, .inr (23, [.int th, .ref b0, .ref b1, .ref b2, .ref b3, .int 0, .int 0, .long 0])), (b2, .inr (5, [.int 0, .ref dz, .int 0]))] sz) t) (va_A [(mo, .inr (23, [.int th, .ref b0, .ref b1, .ref b2, .ref b3, .int 0, .int 0, .long 0])), (b2, .inr (5, [.int 0, .ref dz, .int 0]))] sz)) 0 0 (va_A [(mo, .inr (23, [.int th, .ref b0, .ref b1, .ref b2, .ref b3, .int 0, .int 0, .long 0])), (b2, .inr (5, [.int 0, .ref dz, .int 0]))] sz) := by
  refine Met.ofW (cc := cX17_holder) (maxL := 4) (ret := (some .int)) (by decide) rfl ?_
  intro p e s m args below meth c s₁ B hml hv
  obtain ⟨rfl, hsz, hP, hK, hD0, hz⟩ := hv
  have hx := B.exec
  have hb := B.bytes
  have hr := B.returns
  have hts := atoms_spec (ws := zX17_holder_ws) B.pre
  have hown : s.vm.findClass RX17 = some m.cls := findClass_of_methodNamed B.named
  have hlocks := B.notSynchronized
  subst hsz
  have hD := hD0.self (sz := s.heap.size)
  generalize hAe : va_A [(mo, .inr (23, [.int th, .ref b0, .ref b1, .ref b2, .ref b3, .int 0, .int 0, .long 0])), (b2, .inr (5, [.int 0, .ref dz, .int 0]))] s.heap.size = A at hD hz ⊢
  have hA : ∀ q : Nat, s.heap.size ≤ q → A q := fun q h => by rw [← hAe]; exact Or.inr h
  have hS : va_S A s.heap s.heap [] := va_S.rf
  have hP : va_P D vwCl [(mo, .inr (23, [.int th, .ref b0, .ref b1, .ref b2, .ref b3, .int 0, .int 0, .long 0])), (b2, .inr (5, [.int 0, .ref dz, .int 0]))] s.heap := hP
  have hl := lv_entry ([.ref mo, .int x1]) (n := 4) (Nat.le_of_ble_eq_true rfl)
  rw [lg_entry_eq]
  generalize (lg_sl ([.ref mo, .int x1]) ++ List.replicate (4 - (lg_sl ([.ref mo, .int x1])).length) Slot.unset).toArray = ls at hl ⊢
  have hl : lv_has ls 4 [(0, .ref mo), (1, .int x1)] := hl
  refine lv_aload_n hx hb dX17_holder_0 rfl (lv_at hl 0 rfl) ?_
  refine lv_iload_n hx hb dX17_holder_1 rfl (lv_at hl 1 rfl) ?_
  have hPc := hP.sub (ws' := [(mo, .inr (23, [.int th, .ref b0, .ref b1, .ref b2, .ref b3, .int 0, .int 0, .long 0])), (b2, .inr (5, [.int 0, .ref dz, .int 0]))]) [0, 1] rfl
  have hDc := hD.sub (ws' := [(mo, .inr (23, [.int th, .ref b0, .ref b1, .ref b2, .ref b3, .int 0, .int 0, .long 0])), (b2, .inr (5, [.int 0, .ref dz, .int 0]))]) [0, 1] (by decide) rfl
  have hKc := hK.sub (tys' := []) [] rfl
  have hFc := va_free (wc := [(mo, .inr (23, [.int th, .ref b0, .ref b1, .ref b2, .ref b3, .int 0, .int 0, .long 0])), (b2, .inr (5, [.int 0, .ref dz, .int 0]))]) hD hS hA [0, 1] rfl
  refine va_calli (va_runV (As := [.int x1]) (rest := []) ⟨hx, hb, hml, hown, hts⟩ (cm_noEvent l hst D s.heap.size mo b0 b1 b2 b3 dz th x1) (cwV 1 hts (goodIn_app (goodIn_of _ (by decide +kernel)) (goodIn_sub (fun _ h => List.mem_cons_of_mem _ (List.mem_append_right _ (List.mem_append_left _ h))) zX17_noEvent_ws_good)) rfl rfl rfl (by decide +kernel) ⟨Nat.le_of_ble_eq_true rfl, Nat.le_of_ble_eq_true rfl⟩) ⟨zPre.blind, va_recv hKc hPc (ci := 23) (q0 := 0) rfl rfl, zPre.mk hPc hKc hDc hz hS (fun q h => hFc q h)⟩ rfl rfl hl.1 rfl (lv_room (Nat.le_of_ble_eq_true rfl)) dX17_holder_2 ⟨Nat.le_of_ble_eq_true rfl, Nat.le_of_ble_eq_true rfl⟩) hS (fun q _ h => hFc q h) (fun q h => hFc q h) (fun r9 u t H1 locs ht9 hvm hw hB hz1 hk1 hS => ?_)
  refine W.widen (k := 0) (n := 0) (by omega) (by omega) ?_
  obtain ⟨hP1, hK1, hD1⟩ := hB
  rw [ht9] at hP1
  have hK1 := va_K.moved hvm.symm hK1
  obtain ⟨hP, hD⟩ := va_join (wr := []) (w1 := [(mo, .inr (23, [.int 1, .ref b0, .ref b1, .ref b2, .ref b3, .int 0, .int 0, .long 0])), (b2, .inr (5, [.int 0, .ref dz, .int 0]))]) hP hD [0, 1] [] rfl rfl (by decide) (by decide) hk1 hFc hP1 hD1
  have hK := (hK.sub (tys' := []) [] rfl).app hK1
  generalize H1 = H at hP hS ⊢
  have hP : va_P D vwCl [(mo, .inr (23, [.int 1, .ref b0, .ref b1, .ref b2, .ref b3, .int 0, .int 0, .long 0])), (b2, .inr (5, [.int 0, .ref dz, .int 0]))] H := hP
  have hD : va_D A [(mo, .inr (23, [.int 1, .ref b0, .ref b1, .ref b2, .ref b3, .int 0, .int 0, .long 0])), (b2, .inr (5, [.int 0, .ref dz, .int 0]))] := hD
  have hK : va_K D vwCl [] s := hK
  subst hw
  refine lv_if_eq (tgt := 10) hx hb dX17_holder_5 (by decide) (fun c => absurd c (by decide)) (fun _ => ?_)
  refine lv_iconst (v := 0) hx hb dX17_holder_8 (by decide) ?_
  have hP9 := hP.sub (ws' := [(mo, .inr (23, [.int 1, .ref b0, .ref b1, .ref b2, .ref b3, .int 0, .int 0, .long 0])), (b2, .inr (5, [.int 0, .ref dz, .int 0]))]) [0, 1] rfl
  have hD9 := hD.sub (ws' := [(mo, .inr (23, [.int 1, .ref b0, .ref b1, .ref b2, .ref b3, .int 0, .int 0, .long 0])), (b2, .inr (5, [.int 0, .ref dz, .int 0]))]) [0, 1] (by decide) rfl
  have hK9 := hK.sub (tys' := []) [] rfl
  rw [← hAe] at hD9
  refine W.widen (k := 0) (n := 0) (by omega) (by omega) ?_
  subst hAe
  exact W.iret (v := 0) hx hb hr (fun t ht9 hW => ⟨⟨0, (), rfl, rfl, ⟨by rw [ht9]; exact hP9, va_K.moved hW.alike hK9, hD9⟩⟩, hS.F ht9⟩) hS.2.2 dX17_holder_9

def zX17_sharers_ws : List Cond := .code yX17_sharers cX17_sharers 7 (some .int) :: ([.methodLink RX17 146 yX17_noEvent, .instanceMethod yX17_noEvent, .selects RX17 yX17_noEvent yX17_noEvent, .initialized RX17] ++ (zX17_noEvent_ws ++ ([])))
theorem zX17_sharers_ws_good : zX17_sharers_ws.all goodWord = true := by decide +kernel
set_option maxHeartbeats 4000000 in
set_option maxRecDepth 100000 in
/-- the reference refuses sharers -/
theorem cm_sharers (l : Launch) (hst : l.stackTraces = false) (D : va_G) (sz : Nat) (mo b0 b1 b2 b3 dz : Nat) (th : Int32) (x1 : Int32) : Met l yX17_sharers zX17_sharers_ws (zR 4 0 0) (zPre [.ref mo, .int x1] D [(mo, .inr (23, [.int th, .ref b0, .ref b1, .ref b2, .ref b3, .int 0, .int 0, .long 0])), (b2, .inr (5, [.int 0, .ref dz, .int 0]))] [] (va_A [(mo, .inr (23, [.int th, .ref b0, .ref b1, .ref b2, .ref b3, .int 0, .int 0, .long 0])), (b2, .inr (5, [.int 0, .ref dz, .int 0]))] sz) sz) (va_Qi (S := Unit) (fun r _ => r = 0) (fun _ t => zAt D [(mo, .inr (23, [.int 1, .ref b0, .ref b1, .ref b2, .ref b3, .int 0, .int 0, .long 0])), (b2, .inr (5, [.int 0, .ref dz, .int 0]))] [] (va_A [(mo, .inr (23, [.int th, .ref b0, .ref b1, .ref b2, .ref b3, .int 0, .int 0, .long 0])), (b2, .inr (5, [.int 0, .ref dz, .int 0]))] sz) t) (va_A [(mo, .inr (23, [.int th, .ref b0, .ref b1, .ref b2, .ref b3, .int 0, .int 0, .long 0])), (b2, .inr (5, [.int 0, .ref dz, .int 0]))] sz)) 0 0 (va_A [(mo, .inr (23, [.int th, .ref b0, .ref b1, .ref b2, .ref b3, .int 0, .int 0, .long 0])), (b2, .inr (5, [.int 0, .ref dz, .int 0]))] sz) := by
  refine Met.ofW (cc := cX17_sharers) (maxL := 7) (ret := (some .int)) (by decide) rfl ?_
  intro p e s m args below meth c s₁ B hml hv
  obtain ⟨rfl, hsz, hP, hK, hD0, hz⟩ := hv
  have hx := B.exec
  have hb := B.bytes
  have hr := B.returns
  have hts := atoms_spec (ws := zX17_sharers_ws) B.pre
  have hown : s.vm.findClass RX17 = some m.cls := findClass_of_methodNamed B.named
  have hlocks := B.notSynchronized
  subst hsz
  have hD := hD0.self (sz := s.heap.size)
  generalize hAe : va_A [(mo, .inr (23, [.int th, .ref b0, .ref b1, .ref b2, .ref b3, .int 0, .int 0, .long 0])), (b2, .inr (5, [.int 0, .ref dz, .int 0]))] s.heap.size = A at hD hz ⊢
  have hA : ∀ q : Nat, s.heap.size ≤ q → A q := fun q h => by rw [← hAe]; exact Or.inr h
  have hS : va_S A s.heap s.heap [] := va_S.rf
  have hP : va_P D vwCl [(mo, .inr (23, [.int th, .ref b0, .ref b1, .ref b2, .ref b3, .int 0, .int 0, .long 0])), (b2, .inr (5, [.int 0, .ref dz, .int 0]))] s.heap := hP
  have hl := lv_entry ([.ref mo, .int x1]) (n := 7) (Nat.le_of_ble_eq_true rfl)
  rw [lg_entry_eq]
  generalize (lg_sl ([.ref mo, .int x1]) ++ List.replicate (7 - (lg_sl ([.ref mo, .int x1])).length) Slot.unset).toArray = ls at hl ⊢
  have hl : lv_has ls 7 [(0, .ref mo), (1, .int x1)] := hl
  refine lv_aload_n hx hb dX17_sharers_0 rfl (lv_at hl 0 rfl) ?_
  refine lv_iload_n hx hb dX17_sharers_1 rfl (lv_at hl 1 rfl) ?_
  have hPc := hP.sub (ws' := [(mo, .inr (23, [.int th, .ref b0, .ref b1, .ref b2, .ref b3, .int 0, .int 0, .long 0])), (b2, .inr (5, [.int 0, .ref dz, .int 0]))]) [0, 1] rfl
  have hDc := hD.sub (ws' := [(mo, .inr (23, [.int th, .ref b0, .ref b1, .ref b2, .ref b3, .int 0, .int 0, .long 0])), (b2, .inr (5, [.int 0, .ref dz, .int 0]))]) [0, 1] (by decide) rfl
  have hKc := hK.sub (tys' := []) [] rfl
  have hFc := va_free (wc := [(mo, .inr (23, [.int th, .ref b0, .ref b1, .ref b2, .ref b3, .int 0, .int 0, .long 0])), (b2, .inr (5, [.int 0, .ref dz, .int 0]))]) hD hS hA [0, 1] rfl
  refine va_calli (va_runV (As := [.int x1]) (rest := []) ⟨hx, hb, hml, hown, hts⟩ (cm_noEvent l hst D s.heap.size mo b0 b1 b2 b3 dz th x1) (cwV 1 hts (goodIn_app (goodIn_of _ (by decide +kernel)) (goodIn_sub (fun _ h => List.mem_cons_of_mem _ (List.mem_append_right _ (List.mem_append_left _ h))) zX17_noEvent_ws_good)) rfl rfl rfl (by decide +kernel) ⟨Nat.le_of_ble_eq_true rfl, Nat.le_of_ble_eq_true rfl⟩) ⟨zPre.blind, va_recv hKc hPc (ci := 23) (q0 := 0) rfl rfl, zPre.mk hPc hKc hDc hz hS (fun q h => hFc q h)⟩ rfl rfl hl.1 rfl (lv_room (Nat.le_of_ble_eq_true rfl)) dX17_sharers_2 ⟨Nat.le_of_ble_eq_true rfl, Nat.le_of_ble_eq_true rfl⟩) hS (fun q _ h => hFc q h) (fun q h => hFc q h) (fun r9 u t H1 locs ht9 hvm hw hB hz1 hk1 hS => ?_)
  refine W.widen (k := 0) (n := 0) (by omega) (by omega) ?_
  obtain ⟨hP1, hK1, hD1⟩ := hB
  rw [ht9] at hP1
  have hK1 := va_K.moved hvm.symm hK1
  obtain ⟨hP, hD⟩ := va_join (wr := []) (w1 := [(mo, .inr (23, [.int 1, .ref b0, .ref b1, .ref b2, .ref b3, .int 0, .int 0, .long 0])), (b2, .inr (5, [.int 0, .ref dz, .int 0]))]) hP hD [0, 1] [] rfl rfl (by decide) (by decide) hk1 hFc hP1 hD1
  have hK := (hK.sub (tys' := []) [] rfl).app hK1
  generalize H1 = H at hP hS ⊢
  have hP : va_P D vwCl [(mo, .inr (23, [.int 1, .ref b0, .ref b1, .ref b2, .ref b3, .int 0, .int 0, .long 0])), (b2, .inr (5, [.int 0, .ref dz, .int 0]))] H := hP
  have hD : va_D A [(mo, .inr (23, [.int 1, .ref b0, .ref b1, .ref b2, .ref b3, .int 0, .int 0, .long 0])), (b2, .inr (5, [.int 0, .ref dz, .int 0]))] := hD
  have hK : va_K D vwCl [] s := hK
  subst hw
  refine lv_if_eq (tgt := 10) hx hb dX17_sharers_5 (by decide) (fun c => absurd c (by decide)) (fun _ => ?_)
  refine lv_iconst (v := 0) hx hb dX17_sharers_8 (by decide) ?_
  have hP9 := hP.sub (ws' := [(mo, .inr (23, [.int 1, .ref b0, .ref b1, .ref b2, .ref b3, .int 0, .int 0, .long 0])), (b2, .inr (5, [.int 0, .ref dz, .int 0]))]) [0, 1] rfl
  have hD9 := hD.sub (ws' := [(mo, .inr (23, [.int 1, .ref b0, .ref b1, .ref b2, .ref b3, .int 0, .int 0, .long 0])), (b2, .inr (5, [.int 0, .ref dz, .int 0]))]) [0, 1] (by decide) rfl
  have hK9 := hK.sub (tys' := []) [] rfl
  rw [← hAe] at hD9
  refine W.widen (k := 0) (n := 0) (by omega) (by omega) ?_
  subst hAe
  exact W.iret (v := 0) hx hb hr (fun t ht9 hW => ⟨⟨0, (), rfl, rfl, ⟨by rw [ht9]; exact hP9, va_K.moved hW.alike hK9, hD9⟩⟩, hS.F ht9⟩) hS.2.2 dX17_sharers_9

def zX17_dope_ws : List Cond := .code yX17_dope cX17_dope 3 (some .boolean) :: ([.methodLink RX17 70 yX17_isAthlete, .instanceMethod yX17_isAthlete, .selects RX17 yX17_isAthlete yX17_isAthlete, .initialized RX17, .fieldLink RX17 25 "HeatStadiumModel" "thrown" "I"] ++ (zX17_isAthlete_ws ++ (wsX170 ++ ([]))))
theorem zX17_dope_ws_good : zX17_dope_ws.all goodWord = true := by decide +kernel
set_option maxHeartbeats 4000000 in
set_option maxRecDepth 100000 in
/-- the reference refuses dope -/
theorem cm_dope (l : Launch) (hst : l.stackTraces = false) (D : va_G) (sz : Nat) (mo b0 b1 b2 b3 dz : Nat) (th : Int32) (x1 x2 : Int32) : Met l yX17_dope zX17_dope_ws (zR 4 0 0) (zPre [.ref mo, .int x1, .int x2] D [(mo, .inr (23, [.int th, .ref b0, .ref b1, .ref b2, .ref b3, .int 0, .int 0, .long 0])), (b0, .inr (5, [.int 0, .ref dz, .int 0]))] [] (va_A [(mo, .inr (23, [.int th, .ref b0, .ref b1, .ref b2, .ref b3, .int 0, .int 0, .long 0])), (b0, .inr (5, [.int 0, .ref dz, .int 0]))] sz) sz) (va_Qi (S := Unit) (fun r _ => r = 0) (fun _ t => zAt D [(mo, .inr (23, [.int 1, .ref b0, .ref b1, .ref b2, .ref b3, .int 0, .int 0, .long 0])), (b0, .inr (5, [.int 0, .ref dz, .int 0]))] [] (va_A [(mo, .inr (23, [.int th, .ref b0, .ref b1, .ref b2, .ref b3, .int 0, .int 0, .long 0])), (b0, .inr (5, [.int 0, .ref dz, .int 0]))] sz) t) (va_A [(mo, .inr (23, [.int th, .ref b0, .ref b1, .ref b2, .ref b3, .int 0, .int 0, .long 0])), (b0, .inr (5, [.int 0, .ref dz, .int 0]))] sz)) 0 0 (va_A [(mo, .inr (23, [.int th, .ref b0, .ref b1, .ref b2, .ref b3, .int 0, .int 0, .long 0])), (b0, .inr (5, [.int 0, .ref dz, .int 0]))] sz) := by
  refine Met.ofW (cc := cX17_dope) (maxL := 3) (ret := (some .boolean)) (by decide) rfl ?_
  intro p e s m args below meth c s₁ B hml hv
  obtain ⟨rfl, hsz, hP, hK, hD0, hz⟩ := hv
  have hx := B.exec
  have hb := B.bytes
  have hr := B.returns
  have hts := atoms_spec (ws := zX17_dope_ws) B.pre
  have hown : s.vm.findClass RX17 = some m.cls := findClass_of_methodNamed B.named
  have hlocks := B.notSynchronized
  subst hsz
  have hD := hD0.self (sz := s.heap.size)
  generalize hAe : va_A [(mo, .inr (23, [.int th, .ref b0, .ref b1, .ref b2, .ref b3, .int 0, .int 0, .long 0])), (b0, .inr (5, [.int 0, .ref dz, .int 0]))] s.heap.size = A at hD hz ⊢
  have hA : ∀ q : Nat, s.heap.size ≤ q → A q := fun q h => by rw [← hAe]; exact Or.inr h
  have hS : va_S A s.heap s.heap [] := va_S.rf
  have hP : va_P D vwCl [(mo, .inr (23, [.int th, .ref b0, .ref b1, .ref b2, .ref b3, .int 0, .int 0, .long 0])), (b0, .inr (5, [.int 0, .ref dz, .int 0]))] s.heap := hP
  have hl := lv_entry ([.ref mo, .int x1, .int x2]) (n := 3) (Nat.le_of_ble_eq_true rfl)
  rw [lg_entry_eq]
  generalize (lg_sl ([.ref mo, .int x1, .int x2]) ++ List.replicate (3 - (lg_sl ([.ref mo, .int x1, .int x2])).length) Slot.unset).toArray = ls at hl ⊢
  have hl : lv_has ls 3 [(0, .ref mo), (1, .int x1), (2, .int x2)] := hl
  refine lv_aload_n hx hb dX17_dope_0 rfl (lv_at hl 0 rfl) ?_
  refine lv_aload_n hx hb dX17_dope_1 rfl (lv_at hl 0 rfl) ?_
  refine lv_iload_n hx hb dX17_dope_2 rfl (lv_at hl 1 rfl) ?_
  have hPc := hP.sub (ws' := [(mo, .inr (23, [.int th, .ref b0, .ref b1, .ref b2, .ref b3, .int 0, .int 0, .long 0])), (b0, .inr (5, [.int 0, .ref dz, .int 0]))]) [0, 1] rfl
  have hDc := hD.sub (ws' := [(mo, .inr (23, [.int th, .ref b0, .ref b1, .ref b2, .ref b3, .int 0, .int 0, .long 0])), (b0, .inr (5, [.int 0, .ref dz, .int 0]))]) [0, 1] (by decide) rfl
  have hKc := hK.sub (tys' := []) [] rfl
  have hFc : ∀ q : Nat, s.heap.size ≤ q → A q := fun q h => hA q (Nat.le_trans hS.1 h)
  refine va_calli (va_runV (As := [.int x1]) (rest := [.ref mo]) ⟨hx, hb, hml, hown, hts⟩ (cm_isAthlete l hst D s.heap.size mo b0 b1 b2 b3 dz th x1) (cwV 1 hts (goodIn_app (goodIn_of _ (by decide +kernel)) (goodIn_sub (fun _ h => List.mem_cons_of_mem _ (List.mem_append_right _ (List.mem_append_left _ h))) zX17_isAthlete_ws_good)) rfl rfl rfl (by decide +kernel) ⟨Nat.le_of_ble_eq_true rfl, Nat.le_of_ble_eq_true rfl⟩) ⟨zPre.blind, va_recv hKc hPc (ci := 23) (q0 := 0) rfl rfl, zPre.mk hPc hKc hDc hz hS (fun q h => hFc q h)⟩ rfl rfl hl.1 rfl (lv_room (Nat.le_of_ble_eq_true rfl)) dX17_dope_3 ⟨Nat.le_of_ble_eq_true rfl, Nat.le_of_ble_eq_true rfl⟩) hS (fun q _ h => hFc q h) (fun q h => hFc q h) (fun r9 u t H1 locs ht9 hvm hw hB hz1 hk1 hS => ?_)
  refine W.widen (k := 0) (n := 0) (by omega) (by omega) ?_
  have hP := zKeep hP hk1
  generalize H1 = H at hP hS ⊢
  have hP : va_P D vwCl [(mo, .inr (23, [.int th, .ref b0, .ref b1, .ref b2, .ref b3, .int 0, .int 0, .long 0])), (b0, .inr (5, [.int 0, .ref dz, .int 0]))] H := hP
  subst hw
  refine lv_if_eq (tgt := 13) hx hb dX17_dope_6 (by decide) (fun _ => ?_) (fun c => absurd (by decide) c)
  refine lv_iconst (v := 1) hx hb dX17_dope_13 (by decide) ?_
  refine va_put (D := D) (ci := 23) (v := .int 1) (ty := .int) (C := RX17) (T := TX17) (N := 8) hx hb hts (by decide +kernel) tyX17 tyX17_ok nmX17 hown hK hP hD hS 0 rfl rfl 0 (by decide) (hts (.fieldLink RX17 25 "HeatStadiumModel" "thrown" "I") (by decide +kernel)) (fun _ h9 => h9) rfl (by decide +kernel) rfl rfl (Nat.le_of_ble_eq_true rfl) dX17_dope_14 (fun H locs hP hD hS => ?_)
  have hP : va_P D vwCl [(mo, .inr (23, [.int 1, .ref b0, .ref b1, .ref b2, .ref b3, .int 0, .int 0, .long 0])), (b0, .inr (5, [.int 0, .ref dz, .int 0]))] H := hP
  have hD : va_D A [(mo, .inr (23, [.int 1, .ref b0, .ref b1, .ref b2, .ref b3, .int 0, .int 0, .long 0])), (b0, .inr (5, [.int 0, .ref dz, .int 0]))] := hD
  refine lv_aload_n hx hb dX17_dope_17 rfl (lv_at hl 0 rfl) ?_
  refine va_get (D := D) (ci := 23) (v := .int 1) (C := RX17) (T := TX17) (N := 8) hx hb hts (by decide +kernel) hown hK hP 0 rfl rfl 0 (by decide) (hts (.fieldLink RX17 25 "HeatStadiumModel" "thrown" "I") (by decide +kernel)) (fun _ h9 => h9) rfl dX17_dope_18 ?_
  refine lv_if_ne (tgt := 49) hx hb dX17_dope_21 (by decide) (fun _ => ?_) (fun c => absurd c (by decide))
  refine lv_iconst (v := 0) hx hb dX17_dope_49 (by decide) ?_
  have hP9 := hP.sub (ws' := [(mo, .inr (23, [.int 1, .ref b0, .ref b1, .ref b2, .ref b3, .int 0, .int 0, .long 0])), (b0, .inr (5, [.int 0, .ref dz, .int 0]))]) [0, 1] rfl
  have hD9 := hD.sub (ws' := [(mo, .inr (23, [.int 1, .ref b0, .ref b1, .ref b2, .ref b3, .int 0, .int 0, .long 0])), (b0, .inr (5, [.int 0, .ref dz, .int 0]))]) [0, 1] (by decide) rfl
  have hK9 := hK.sub (tys' := []) [] rfl
  rw [← hAe] at hD9
  refine W.widen (k := 0) (n := 0) (by omega) (by omega) ?_
  subst hAe
  exact W.zret (v := 0) hx hb hr rfl (fun t ht9 hW => ⟨⟨0, (), rfl, rfl, ⟨by rw [ht9]; exact hP9, va_K.moved hW.alike hK9, hD9⟩⟩, hS.F ht9⟩) hS.2.2 dX17_dope_50

def zX17_decide_ws : List Cond := .code yX17_decide cX17_decide 4 (some .long) :: ([.fieldLink RX17 22 "HeatStadiumModel" "protests" "Ljava/util/ArrayList;", .methodLink RX17 33 yJx4a65c_size_8abf5, .instanceMethod yJx4a65c_size_8abf5, .selects RJx4a65c yJx4a65c_size_8abf5 yJx4a65c_size_8abf5, .initialized RJx4a65c, .methodLink RX17 29 yX17_in, .static yX17_in, .initialized RX17, .fieldLink RX17 25 "HeatStadiumModel" "thrown" "I"] ++ (wsX170 ++ (zJx4a65c_size_8abf5_ws ++ (zX17_in_ws ++ ([])))))
theorem zX17_decide_ws_good : zX17_decide_ws.all goodWord = true := by decide +kernel
set_option maxHeartbeats 4000000 in
set_option maxRecDepth 100000 in
/-- the reference refuses decide -/
theorem cm_decide (l : Launch) (hst : l.stackTraces = false) (D : va_G) (sz : Nat) (mo b0 b1 b2 b3 dz : Nat) (th : Int32) (x1 x2 : Int32) : Met l yX17_decide zX17_decide_ws (zR 4 0 0) (zPre [.ref mo, .int x1, .int x2] D [(mo, .inr (23, [.int th, .ref b0, .ref b1, .ref b2, .ref b3, .int 0, .int 0, .long 0])), (b3, .inr (5, [.int 0, .ref dz, .int 0]))] [] (va_A [(mo, .inr (23, [.int th, .ref b0, .ref b1, .ref b2, .ref b3, .int 0, .int 0, .long 0])), (b3, .inr (5, [.int 0, .ref dz, .int 0]))] sz) sz) (va_Ql (S := Unit) (fun r _ => r = 0) (fun _ t => zAt D [(mo, .inr (23, [.int 1, .ref b0, .ref b1, .ref b2, .ref b3, .int 0, .int 0, .long 0])), (b3, .inr (5, [.int 0, .ref dz, .int 0]))] [] (va_A [(mo, .inr (23, [.int th, .ref b0, .ref b1, .ref b2, .ref b3, .int 0, .int 0, .long 0])), (b3, .inr (5, [.int 0, .ref dz, .int 0]))] sz) t) (va_A [(mo, .inr (23, [.int th, .ref b0, .ref b1, .ref b2, .ref b3, .int 0, .int 0, .long 0])), (b3, .inr (5, [.int 0, .ref dz, .int 0]))] sz)) 0 0 (va_A [(mo, .inr (23, [.int th, .ref b0, .ref b1, .ref b2, .ref b3, .int 0, .int 0, .long 0])), (b3, .inr (5, [.int 0, .ref dz, .int 0]))] sz) := by
  refine Met.ofW (cc := cX17_decide) (maxL := 4) (ret := (some .long)) (by decide) rfl ?_
  intro p e s m args below meth c s₁ B hml hv
  obtain ⟨rfl, hsz, hP, hK, hD0, hz⟩ := hv
  have hx := B.exec
  have hb := B.bytes
  have hr := B.returns
  have hts := atoms_spec (ws := zX17_decide_ws) B.pre
  have hown : s.vm.findClass RX17 = some m.cls := findClass_of_methodNamed B.named
  have hlocks := B.notSynchronized
  subst hsz
  have hD := hD0.self (sz := s.heap.size)
  generalize hAe : va_A [(mo, .inr (23, [.int th, .ref b0, .ref b1, .ref b2, .ref b3, .int 0, .int 0, .long 0])), (b3, .inr (5, [.int 0, .ref dz, .int 0]))] s.heap.size = A at hD hz ⊢
  have hA : ∀ q : Nat, s.heap.size ≤ q → A q := fun q h => by rw [← hAe]; exact Or.inr h
  have hS : va_S A s.heap s.heap [] := va_S.rf
  have hP : va_P D vwCl [(mo, .inr (23, [.int th, .ref b0, .ref b1, .ref b2, .ref b3, .int 0, .int 0, .long 0])), (b3, .inr (5, [.int 0, .ref dz, .int 0]))] s.heap := hP
  have hl := lv_entry ([.ref mo, .int x1, .int x2]) (n := 4) (Nat.le_of_ble_eq_true rfl)
  rw [lg_entry_eq]
  generalize (lg_sl ([.ref mo, .int x1, .int x2]) ++ List.replicate (4 - (lg_sl ([.ref mo, .int x1, .int x2])).length) Slot.unset).toArray = ls at hl ⊢
  have hl : lv_has ls 4 [(0, .ref mo), (1, .int x1), (2, .int x2)] := hl
  refine lv_aload_n hx hb dX17_decide_0 rfl (lv_at hl 0 rfl) ?_
  refine lv_iload_n hx hb dX17_decide_1 rfl (lv_at hl 1 rfl) ?_
  refine lv_iconst (v := 0) hx hb dX17_decide_2 (by decide) ?_
  refine lv_aload_n hx hb dX17_decide_3 rfl (lv_at hl 0 rfl) ?_
  refine va_get (D := D) (ci := 23) (v := .ref b3) (C := RX17) (T := TX17) (N := 8) hx hb hts (by decide +kernel) hown hK hP 0 rfl rfl 4 (by decide) (hts (.fieldLink RX17 22 "HeatStadiumModel" "protests" "Ljava/util/ArrayList;") (by decide +kernel)) (fun _ h9 => h9) rfl dX17_decide_4 ?_
  have hPc := hP.sub (ws' := [(b3, .inr (5, [.int 0, .ref dz, .int 0]))]) [1] rfl
  have hDc := hD.sub (ws' := [(b3, .inr (5, [.int 0, .ref dz, .int 0]))]) [1] (by decide) rfl
  have hKc := hK.sub (tys' := []) [] rfl
  have hFc : ∀ q : Nat, s.heap.size ≤ q → A q := fun q h => hA q (Nat.le_trans hS.1 h)
  refine va_calli (va_runV (As := []) (rest := [.int 0, .int x1, .ref mo]) ⟨hx, hb, hml, hown, hts⟩ (c_size l hst D s.heap.size b3 dz 0 0) (cwV 0 hts (goodIn_app (goodIn_of _ (by decide +kernel)) (goodIn_sub (fun _ h => List.mem_cons_of_mem _ (List.mem_append_right _ (List.mem_append_right _ (List.mem_append_left _ h)))) zJx4a65c_size_8abf5_ws_good)) rfl rfl rfl (by decide +kernel) ⟨Nat.le_of_ble_eq_true rfl, Nat.le_of_ble_eq_true rfl⟩) ⟨zPre.blind, va_recv hKc hPc (ci := 5) (q0 := 0) rfl rfl, zPre.mk hPc hKc hDc hz hS (fun q h => hFc q h)⟩ rfl rfl hl.1 rfl (lv_room (Nat.le_of_ble_eq_true rfl)) dX17_decide_7 ⟨Nat.le_of_ble_eq_true rfl, Nat.le_of_ble_eq_true rfl⟩) hS (fun q _ h => hFc q h) (fun q h => hFc q h) (fun r9 u t H1 locs ht9 hvm hw hB hz1 hk1 hS => ?_)
  refine W.widen (k := 0) (n := 0) (by omega) (by omega) ?_
  have hP := zKeep hP hk1
  generalize H1 = H at hP hS ⊢
  have hP : va_P D vwCl [(mo, .inr (23, [.int th, .ref b0, .ref b1, .ref b2, .ref b3, .int 0, .int 0, .long 0])), (b3, .inr (5, [.int 0, .ref dz, .int 0]))] H := hP
  subst hw
  refine lv_iconst (v := 1) hx hb dX17_decide_10 (by decide) ?_
  refine lv_isub hx hb dX17_decide_11 ?_
  refine lv_topi (fun z1 ez1 => ?_)
  obtain rfl : z1 = (-1) := ez1.trans (by decide)
  have hPc := hP.sub (ws' := []) [] rfl
  have hDc := hD.sub (ws' := []) [] (by decide) rfl
  have hKc := hK.sub (tys' := []) [] rfl
  have hFc : ∀ q : Nat, H.size ≤ q → A q := fun q h => hA q (Nat.le_trans hS.1 h)
  refine va_calli (va_runS (As := [.int x1, .int 0, .int (-1)]) (rest := [.ref mo]) ⟨hx, hb, hml, hown, hts⟩ (c_in l hst D H.size x1 0 (-1)) (cwS 3 hts (goodIn_app (goodIn_of _ (by decide +kernel)) (goodIn_sub (fun _ h => List.mem_cons_of_mem _ (List.mem_append_right _ (List.mem_append_right _ (List.mem_append_right _ (List.mem_append_left _ h))))) zX17_in_ws_good)) rfl rfl rfl (by decide +kernel) ⟨Nat.le_of_ble_eq_true rfl, Nat.le_of_ble_eq_true rfl⟩) ⟨zPre.blind, zPre.mk hPc hKc hDc hz hS (fun q h => hFc q h)⟩ rfl rfl hl.1 rfl (lv_room (Nat.le_of_ble_eq_true rfl)) dX17_decide_12 ⟨Nat.le_of_ble_eq_true rfl, Nat.le_of_ble_eq_true rfl⟩) hS (fun q _ h => hFc q h) (fun q h => hFc q h) (fun r9 u t H1 locs ht9 hvm hw hB hz1 hk1 hS => ?_)
  refine W.widen (k := 0) (n := 0) (by omega) (by omega) ?_
  have hP := zKeep hP hk1
  generalize H1 = H at hP hS ⊢
  have hP : va_P D vwCl [(mo, .inr (23, [.int th, .ref b0, .ref b1, .ref b2, .ref b3, .int 0, .int 0, .long 0])), (b3, .inr (5, [.int 0, .ref dz, .int 0]))] H := hP
  obtain rfl : r9 = 0 := hw.trans (zin_none x1)
  refine lv_if_ne (tgt := 22) hx hb dX17_decide_15 (by decide) (fun c => absurd (by decide) c) (fun _ => ?_)
  refine lv_iconst (v := 1) hx hb dX17_decide_18 (by decide) ?_
  refine lv_goto (tgt := 44) hx hb dX17_decide_19 (by decide) ?_
  refine va_put (D := D) (ci := 23) (v := .int 1) (ty := .int) (C := RX17) (T := TX17) (N := 8) hx hb hts (by decide +kernel) tyX17 tyX17_ok nmX17 hown hK hP hD hS 0 rfl rfl 0 (by decide) (hts (.fieldLink RX17 25 "HeatStadiumModel" "thrown" "I") (by decide +kernel)) (fun _ h9 => h9) rfl (by decide +kernel) rfl rfl (Nat.le_of_ble_eq_true rfl) dX17_decide_44 (fun H locs hP hD hS => ?_)
  have hP : va_P D vwCl [(mo, .inr (23, [.int 1, .ref b0, .ref b1, .ref b2, .ref b3, .int 0, .int 0, .long 0])), (b3, .inr (5, [.int 0, .ref dz, .int 0]))] H := hP
  have hD : va_D A [(mo, .inr (23, [.int 1, .ref b0, .ref b1, .ref b2, .ref b3, .int 0, .int 0, .long 0])), (b3, .inr (5, [.int 0, .ref dz, .int 0]))] := hD
  refine lv_aload_n hx hb dX17_decide_47 rfl (lv_at hl 0 rfl) ?_
  refine va_get (D := D) (ci := 23) (v := .int 1) (C := RX17) (T := TX17) (N := 8) hx hb hts (by decide +kernel) hown hK hP 0 rfl rfl 0 (by decide) (hts (.fieldLink RX17 25 "HeatStadiumModel" "thrown" "I") (by decide +kernel)) (fun _ h9 => h9) rfl dX17_decide_48 ?_
  refine lv_if_le (tgt := 56) hx hb dX17_decide_51 (by decide) (fun c => absurd c (by decide)) (fun _ => ?_)
  refine lv_lconst (v := 0) hx hb dX17_decide_54 (by decide) ?_
  have hP9 := hP.sub (ws' := [(mo, .inr (23, [.int 1, .ref b0, .ref b1, .ref b2, .ref b3, .int 0, .int 0, .long 0])), (b3, .inr (5, [.int 0, .ref dz, .int 0]))]) [0, 1] rfl
  have hD9 := hD.sub (ws' := [(mo, .inr (23, [.int 1, .ref b0, .ref b1, .ref b2, .ref b3, .int 0, .int 0, .long 0])), (b3, .inr (5, [.int 0, .ref dz, .int 0]))]) [0, 1] (by decide) rfl
  have hK9 := hK.sub (tys' := []) [] rfl
  rw [← hAe] at hD9
  refine W.widen (k := 0) (n := 0) (by omega) (by omega) ?_
  subst hAe
  exact W.lret (v := 0) hx hb hr (fun t ht9 hW => ⟨⟨0, (), rfl, rfl, ⟨by rw [ht9]; exact hP9, va_K.moved hW.alike hK9, hD9⟩⟩, hS.F ht9⟩) hS.2.2 dX17_decide_55
