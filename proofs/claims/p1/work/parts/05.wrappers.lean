/-! printed rows that this part uses -/
theorem dL_enter_0 : decode cL_enter 0 = .ok (.aload 4, 2) := by decide +kernel
theorem dL_enter_2 : decode cL_enter 2 = .ok (.iconst 0, 1) := by decide +kernel
theorem dL_enter_3 : decode cL_enter 3 = .ok (.aload_n 0, 1) := by decide +kernel
theorem dL_enter_4 : decode cL_enter 4 = .ok (.iload_n 1, 1) := by decide +kernel
theorem dL_enter_5 : decode cL_enter 5 = .ok (.iload_n 2, 1) := by decide +kernel
theorem dL_enter_6 : decode cL_enter 6 = .ok (.iload_n 3, 1) := by decide +kernel
theorem dL_enter_7 : decode cL_enter 7 = .ok (.invokevirtual 21, 3) := by decide +kernel
theorem dL_enter_15 : decode cL_enter 15 = .ok (.astore 5, 2) := by decide +kernel
theorem dL_enter_17 : decode cL_enter 17 = .ok (.iconst 1, 1) := by decide +kernel
theorem dL_enter_18 : decode cL_enter 18 = .ok (.ireturn, 1) := by decide +kernel
theorem dL_withdraw_0 : decode cL_withdraw 0 = .ok (.aload 4, 2) := by decide +kernel
theorem dL_withdraw_2 : decode cL_withdraw 2 = .ok (.iconst 0, 1) := by decide +kernel
theorem dL_withdraw_3 : decode cL_withdraw 3 = .ok (.aload_n 0, 1) := by decide +kernel
theorem dL_withdraw_4 : decode cL_withdraw 4 = .ok (.iload_n 1, 1) := by decide +kernel
theorem dL_withdraw_5 : decode cL_withdraw 5 = .ok (.iload_n 2, 1) := by decide +kernel
theorem dL_withdraw_6 : decode cL_withdraw 6 = .ok (.iload_n 3, 1) := by decide +kernel
theorem dL_withdraw_7 : decode cL_withdraw 7 = .ok (.invokevirtual 27, 3) := by decide +kernel
theorem dL_withdraw_22 : decode cL_withdraw 22 = .ok (.astore 5, 2) := by decide +kernel
theorem dL_withdraw_24 : decode cL_withdraw 24 = .ok (.iconst 1, 1) := by decide +kernel
theorem dL_withdraw_25 : decode cL_withdraw 25 = .ok (.ireturn, 1) := by decide +kernel
theorem dL_field_0 : decode cL_field 0 = .ok (.aload_n 2, 1) := by decide +kernel
theorem dL_field_1 : decode cL_field 1 = .ok (.iconst 0, 1) := by decide +kernel
theorem dL_field_2 : decode cL_field 2 = .ok (.aload_n 0, 1) := by decide +kernel
theorem dL_field_3 : decode cL_field 3 = .ok (.iload_n 1, 1) := by decide +kernel
theorem dL_field_4 : decode cL_field 4 = .ok (.invokevirtual 33, 3) := by decide +kernel
theorem dL_field_12 : decode cL_field 12 = .ok (.astore_n 3, 1) := by decide +kernel
theorem dL_field_13 : decode cL_field 13 = .ok (.iconst 1, 1) := by decide +kernel
theorem dL_field_14 : decode cL_field 14 = .ok (.ireturn, 1) := by decide +kernel
theorem dL_inField_0 : decode cL_inField 0 = .ok (.aload_n 3, 1) := by decide +kernel
theorem dL_inField_1 : decode cL_inField 1 = .ok (.iconst 0, 1) := by decide +kernel
theorem dL_inField_2 : decode cL_inField 2 = .ok (.aload_n 0, 1) := by decide +kernel
theorem dL_inField_3 : decode cL_inField 3 = .ok (.iload_n 1, 1) := by decide +kernel
theorem dL_inField_4 : decode cL_inField 4 = .ok (.iload_n 2, 1) := by decide +kernel
theorem dL_inField_5 : decode cL_inField 5 = .ok (.invokevirtual 36, 3) := by decide +kernel
theorem dL_inField_13 : decode cL_inField 13 = .ok (.astore 4, 2) := by decide +kernel
theorem dL_inField_15 : decode cL_inField 15 = .ok (.iconst 1, 1) := by decide +kernel
theorem dL_inField_16 : decode cL_inField 16 = .ok (.ireturn, 1) := by decide +kernel
theorem dL_heatOf_0 : decode cL_heatOf 0 = .ok (.aload_n 3, 1) := by decide +kernel
theorem dL_heatOf_1 : decode cL_heatOf 1 = .ok (.iconst 0, 1) := by decide +kernel
theorem dL_heatOf_2 : decode cL_heatOf 2 = .ok (.aload_n 0, 1) := by decide +kernel
theorem dL_heatOf_3 : decode cL_heatOf 3 = .ok (.iload_n 1, 1) := by decide +kernel
theorem dL_heatOf_4 : decode cL_heatOf 4 = .ok (.iload_n 2, 1) := by decide +kernel
theorem dL_heatOf_5 : decode cL_heatOf 5 = .ok (.invokevirtual 43, 3) := by decide +kernel
theorem dL_heatOf_13 : decode cL_heatOf 13 = .ok (.astore 4, 2) := by decide +kernel
theorem dL_heatOf_15 : decode cL_heatOf 15 = .ok (.iconst 1, 1) := by decide +kernel
theorem dL_heatOf_16 : decode cL_heatOf 16 = .ok (.ireturn, 1) := by decide +kernel
theorem dL_laneOf_0 : decode cL_laneOf 0 = .ok (.aload 4, 2) := by decide +kernel
theorem dL_laneOf_2 : decode cL_laneOf 2 = .ok (.iconst 0, 1) := by decide +kernel
theorem dL_laneOf_3 : decode cL_laneOf 3 = .ok (.aload_n 0, 1) := by decide +kernel
theorem dL_laneOf_4 : decode cL_laneOf 4 = .ok (.iload_n 1, 1) := by decide +kernel
theorem dL_laneOf_5 : decode cL_laneOf 5 = .ok (.iload_n 2, 1) := by decide +kernel
theorem dL_laneOf_6 : decode cL_laneOf 6 = .ok (.iload_n 3, 1) := by decide +kernel
theorem dL_laneOf_7 : decode cL_laneOf 7 = .ok (.invokevirtual 48, 3) := by decide +kernel
theorem dL_laneOf_15 : decode cL_laneOf 15 = .ok (.astore 5, 2) := by decide +kernel
theorem dL_laneOf_17 : decode cL_laneOf 17 = .ok (.iconst 1, 1) := by decide +kernel
theorem dL_laneOf_18 : decode cL_laneOf 18 = .ok (.ireturn, 1) := by decide +kernel
theorem dL_time_0 : decode cL_time 0 = .ok (.aload 7, 2) := by decide +kernel
theorem dL_time_2 : decode cL_time 2 = .ok (.iconst 0, 1) := by decide +kernel
theorem dL_time_3 : decode cL_time 3 = .ok (.aload_n 0, 1) := by decide +kernel
theorem dL_time_4 : decode cL_time 4 = .ok (.iload_n 1, 1) := by decide +kernel
theorem dL_time_5 : decode cL_time 5 = .ok (.iload_n 2, 1) := by decide +kernel
theorem dL_time_6 : decode cL_time 6 = .ok (.iload_n 3, 1) := by decide +kernel
theorem dL_time_7 : decode cL_time 7 = .ok (.iload 4, 2) := by decide +kernel
theorem dL_time_9 : decode cL_time 9 = .ok (.iload 5, 2) := by decide +kernel
theorem dL_time_11 : decode cL_time 11 = .ok (.iload 6, 2) := by decide +kernel
theorem dL_time_13 : decode cL_time 13 = .ok (.invokevirtual 51, 3) := by decide +kernel
theorem dL_time_21 : decode cL_time 21 = .ok (.astore 8, 2) := by decide +kernel
theorem dL_time_23 : decode cL_time 23 = .ok (.iconst 1, 1) := by decide +kernel
theorem dL_time_24 : decode cL_time 24 = .ok (.ireturn, 1) := by decide +kernel
theorem dL_react_0 : decode cL_react 0 = .ok (.aload 5, 2) := by decide +kernel
theorem dL_react_2 : decode cL_react 2 = .ok (.iconst 0, 1) := by decide +kernel
theorem dL_react_3 : decode cL_react 3 = .ok (.aload_n 0, 1) := by decide +kernel
theorem dL_react_4 : decode cL_react 4 = .ok (.iload_n 1, 1) := by decide +kernel
theorem dL_react_5 : decode cL_react 5 = .ok (.iload_n 2, 1) := by decide +kernel
theorem dL_react_6 : decode cL_react 6 = .ok (.iload_n 3, 1) := by decide +kernel
theorem dL_react_7 : decode cL_react 7 = .ok (.iload 4, 2) := by decide +kernel
theorem dL_react_9 : decode cL_react 9 = .ok (.invokevirtual 55, 3) := by decide +kernel
theorem dL_react_24 : decode cL_react 24 = .ok (.astore 6, 2) := by decide +kernel
theorem dL_react_26 : decode cL_react 26 = .ok (.iconst 1, 1) := by decide +kernel
theorem dL_react_27 : decode cL_react 27 = .ok (.ireturn, 1) := by decide +kernel
theorem dL_putOut_0 : decode cL_putOut 0 = .ok (.aload 4, 2) := by decide +kernel
theorem dL_putOut_2 : decode cL_putOut 2 = .ok (.iconst 0, 1) := by decide +kernel
theorem dL_putOut_3 : decode cL_putOut 3 = .ok (.aload_n 0, 1) := by decide +kernel
theorem dL_putOut_4 : decode cL_putOut 4 = .ok (.iload_n 1, 1) := by decide +kernel
theorem dL_putOut_5 : decode cL_putOut 5 = .ok (.iload_n 2, 1) := by decide +kernel
theorem dL_putOut_6 : decode cL_putOut 6 = .ok (.iload_n 3, 1) := by decide +kernel
theorem dL_putOut_7 : decode cL_putOut 7 = .ok (.invokevirtual 59, 3) := by decide +kernel
theorem dL_putOut_22 : decode cL_putOut 22 = .ok (.astore 5, 2) := by decide +kernel
theorem dL_putOut_24 : decode cL_putOut 24 = .ok (.iconst 1, 1) := by decide +kernel
theorem dL_putOut_25 : decode cL_putOut 25 = .ok (.ireturn, 1) := by decide +kernel
theorem dL_isOut_0 : decode cL_isOut 0 = .ok (.aload 4, 2) := by decide +kernel
theorem dL_isOut_2 : decode cL_isOut 2 = .ok (.iconst 0, 1) := by decide +kernel
theorem dL_isOut_3 : decode cL_isOut 3 = .ok (.aload_n 0, 1) := by decide +kernel
theorem dL_isOut_4 : decode cL_isOut 4 = .ok (.iload_n 1, 1) := by decide +kernel
theorem dL_isOut_5 : decode cL_isOut 5 = .ok (.iload_n 2, 1) := by decide +kernel
theorem dL_isOut_6 : decode cL_isOut 6 = .ok (.iload_n 3, 1) := by decide +kernel
theorem dL_isOut_7 : decode cL_isOut 7 = .ok (.invokevirtual 63, 3) := by decide +kernel
theorem dL_isOut_22 : decode cL_isOut 22 = .ok (.astore 5, 2) := by decide +kernel
theorem dL_isOut_24 : decode cL_isOut 24 = .ok (.iconst 1, 1) := by decide +kernel
theorem dL_isOut_25 : decode cL_isOut 25 = .ok (.ireturn, 1) := by decide +kernel
theorem dL_inFinal_0 : decode cL_inFinal 0 = .ok (.aload_n 3, 1) := by decide +kernel
theorem dL_inFinal_1 : decode cL_inFinal 1 = .ok (.iconst 0, 1) := by decide +kernel
theorem dL_inFinal_2 : decode cL_inFinal 2 = .ok (.aload_n 0, 1) := by decide +kernel
theorem dL_inFinal_3 : decode cL_inFinal 3 = .ok (.iload_n 1, 1) := by decide +kernel
theorem dL_inFinal_4 : decode cL_inFinal 4 = .ok (.iload_n 2, 1) := by decide +kernel
theorem dL_inFinal_5 : decode cL_inFinal 5 = .ok (.invokevirtual 66, 3) := by decide +kernel
theorem dL_inFinal_13 : decode cL_inFinal 13 = .ok (.astore 4, 2) := by decide +kernel
theorem dL_inFinal_15 : decode cL_inFinal 15 = .ok (.iconst 1, 1) := by decide +kernel
theorem dL_inFinal_16 : decode cL_inFinal 16 = .ok (.ireturn, 1) := by decide +kernel
theorem dL_bar_0 : decode cL_bar 0 = .ok (.aload_n 3, 1) := by decide +kernel
theorem dL_bar_1 : decode cL_bar 1 = .ok (.iconst 0, 1) := by decide +kernel
theorem dL_bar_2 : decode cL_bar 2 = .ok (.aload_n 0, 1) := by decide +kernel
theorem dL_bar_3 : decode cL_bar 3 = .ok (.iload_n 1, 1) := by decide +kernel
theorem dL_bar_4 : decode cL_bar 4 = .ok (.iload_n 2, 1) := by decide +kernel
theorem dL_bar_5 : decode cL_bar 5 = .ok (.invokevirtual 69, 3) := by decide +kernel
theorem dL_bar_13 : decode cL_bar 13 = .ok (.astore 4, 2) := by decide +kernel
theorem dL_bar_15 : decode cL_bar 15 = .ok (.iconst 1, 1) := by decide +kernel
theorem dL_bar_16 : decode cL_bar 16 = .ok (.ireturn, 1) := by decide +kernel
theorem dL_jump_0 : decode cL_jump 0 = .ok (.aload 4, 2) := by decide +kernel
theorem dL_jump_2 : decode cL_jump 2 = .ok (.iconst 0, 1) := by decide +kernel
theorem dL_jump_3 : decode cL_jump 3 = .ok (.aload_n 0, 1) := by decide +kernel
theorem dL_jump_4 : decode cL_jump 4 = .ok (.iload_n 1, 1) := by decide +kernel
theorem dL_jump_5 : decode cL_jump 5 = .ok (.iload_n 2, 1) := by decide +kernel
theorem dL_jump_6 : decode cL_jump 6 = .ok (.iload_n 3, 1) := by decide +kernel
theorem dL_jump_7 : decode cL_jump 7 = .ok (.invokevirtual 72, 3) := by decide +kernel
theorem dL_jump_15 : decode cL_jump 15 = .ok (.astore 5, 2) := by decide +kernel
theorem dL_jump_17 : decode cL_jump 17 = .ok (.iconst 1, 1) := by decide +kernel
theorem dL_jump_18 : decode cL_jump 18 = .ok (.ireturn, 1) := by decide +kernel
theorem dL_put_0 : decode cL_put 0 = .ok (.aload 4, 2) := by decide +kernel
theorem dL_put_2 : decode cL_put 2 = .ok (.iconst 0, 1) := by decide +kernel
theorem dL_put_3 : decode cL_put 3 = .ok (.aload_n 0, 1) := by decide +kernel
theorem dL_put_4 : decode cL_put 4 = .ok (.iload_n 1, 1) := by decide +kernel
theorem dL_put_5 : decode cL_put 5 = .ok (.iload_n 2, 1) := by decide +kernel
theorem dL_put_6 : decode cL_put 6 = .ok (.iload_n 3, 1) := by decide +kernel
theorem dL_put_7 : decode cL_put 7 = .ok (.invokevirtual 76, 3) := by decide +kernel
theorem dL_put_15 : decode cL_put 15 = .ok (.astore 5, 2) := by decide +kernel
theorem dL_put_17 : decode cL_put 17 = .ok (.iconst 1, 1) := by decide +kernel
theorem dL_put_18 : decode cL_put 18 = .ok (.ireturn, 1) := by decide +kernel
theorem dL_rankOf_0 : decode cL_rankOf 0 = .ok (.aload_n 3, 1) := by decide +kernel
theorem dL_rankOf_1 : decode cL_rankOf 1 = .ok (.iconst 0, 1) := by decide +kernel
theorem dL_rankOf_2 : decode cL_rankOf 2 = .ok (.aload_n 0, 1) := by decide +kernel
theorem dL_rankOf_3 : decode cL_rankOf 3 = .ok (.iload_n 1, 1) := by decide +kernel
theorem dL_rankOf_4 : decode cL_rankOf 4 = .ok (.iload_n 2, 1) := by decide +kernel
theorem dL_rankOf_5 : decode cL_rankOf 5 = .ok (.invokevirtual 79, 3) := by decide +kernel
theorem dL_rankOf_13 : decode cL_rankOf 13 = .ok (.astore 4, 2) := by decide +kernel
theorem dL_rankOf_15 : decode cL_rankOf 15 = .ok (.iconst 1, 1) := by decide +kernel
theorem dL_rankOf_16 : decode cL_rankOf 16 = .ok (.ireturn, 1) := by decide +kernel
theorem dL_resultOf_0 : decode cL_resultOf 0 = .ok (.aload_n 3, 1) := by decide +kernel
theorem dL_resultOf_1 : decode cL_resultOf 1 = .ok (.iconst 0, 1) := by decide +kernel
theorem dL_resultOf_2 : decode cL_resultOf 2 = .ok (.aload_n 0, 1) := by decide +kernel
theorem dL_resultOf_3 : decode cL_resultOf 3 = .ok (.iload_n 1, 1) := by decide +kernel
theorem dL_resultOf_4 : decode cL_resultOf 4 = .ok (.iload_n 2, 1) := by decide +kernel
theorem dL_resultOf_5 : decode cL_resultOf 5 = .ok (.invokevirtual 82, 3) := by decide +kernel
theorem dL_resultOf_13 : decode cL_resultOf 13 = .ok (.astore 4, 2) := by decide +kernel
theorem dL_resultOf_15 : decode cL_resultOf 15 = .ok (.iconst 1, 1) := by decide +kernel
theorem dL_resultOf_16 : decode cL_resultOf 16 = .ok (.ireturn, 1) := by decide +kernel
theorem dL_protest_0 : decode cL_protest 0 = .ok (.aload 4, 2) := by decide +kernel
theorem dL_protest_2 : decode cL_protest 2 = .ok (.iconst 0, 1) := by decide +kernel
theorem dL_protest_3 : decode cL_protest 3 = .ok (.aload_n 0, 1) := by decide +kernel
theorem dL_protest_4 : decode cL_protest 4 = .ok (.iload_n 1, 1) := by decide +kernel
theorem dL_protest_5 : decode cL_protest 5 = .ok (.iload_n 2, 1) := by decide +kernel
theorem dL_protest_6 : decode cL_protest 6 = .ok (.iload_n 3, 1) := by decide +kernel
theorem dL_protest_7 : decode cL_protest 7 = .ok (.invokevirtual 85, 3) := by decide +kernel
theorem dL_protest_15 : decode cL_protest 15 = .ok (.astore 5, 2) := by decide +kernel
theorem dL_protest_17 : decode cL_protest 17 = .ok (.iconst 1, 1) := by decide +kernel
theorem dL_protest_18 : decode cL_protest 18 = .ok (.ireturn, 1) := by decide +kernel
theorem dL_decide_0 : decode cL_decide 0 = .ok (.aload_n 3, 1) := by decide +kernel
theorem dL_decide_1 : decode cL_decide 1 = .ok (.iconst 0, 1) := by decide +kernel
theorem dL_decide_2 : decode cL_decide 2 = .ok (.aload_n 0, 1) := by decide +kernel
theorem dL_decide_3 : decode cL_decide 3 = .ok (.iload_n 1, 1) := by decide +kernel
theorem dL_decide_4 : decode cL_decide 4 = .ok (.iload_n 2, 1) := by decide +kernel
theorem dL_decide_5 : decode cL_decide 5 = .ok (.invokevirtual 88, 3) := by decide +kernel
theorem dL_decide_12 : decode cL_decide 12 = .ok (.astore 4, 2) := by decide +kernel
theorem dL_decide_14 : decode cL_decide 14 = .ok (.iconst 1, 1) := by decide +kernel
theorem dL_decide_15 : decode cL_decide 15 = .ok (.ireturn, 1) := by decide +kernel
theorem dL_dope_0 : decode cL_dope 0 = .ok (.aload_n 3, 1) := by decide +kernel
theorem dL_dope_1 : decode cL_dope 1 = .ok (.iconst 0, 1) := by decide +kernel
theorem dL_dope_2 : decode cL_dope 2 = .ok (.aload_n 0, 1) := by decide +kernel
theorem dL_dope_3 : decode cL_dope 3 = .ok (.iload_n 1, 1) := by decide +kernel
theorem dL_dope_4 : decode cL_dope 4 = .ok (.iload_n 2, 1) := by decide +kernel
theorem dL_dope_5 : decode cL_dope 5 = .ok (.invokevirtual 92, 3) := by decide +kernel
theorem dL_dope_20 : decode cL_dope 20 = .ok (.astore 4, 2) := by decide +kernel
theorem dL_dope_22 : decode cL_dope 22 = .ok (.iconst 1, 1) := by decide +kernel
theorem dL_dope_23 : decode cL_dope 23 = .ok (.ireturn, 1) := by decide +kernel
theorem dL_close_0 : decode cL_close 0 = .ok (.aload_n 3, 1) := by decide +kernel
theorem dL_close_1 : decode cL_close 1 = .ok (.iconst 0, 1) := by decide +kernel
theorem dL_close_2 : decode cL_close 2 = .ok (.aload_n 0, 1) := by decide +kernel
theorem dL_close_3 : decode cL_close 3 = .ok (.iload_n 1, 1) := by decide +kernel
theorem dL_close_4 : decode cL_close 4 = .ok (.iload_n 2, 1) := by decide +kernel
theorem dL_close_5 : decode cL_close 5 = .ok (.invokevirtual 96, 3) := by decide +kernel
theorem dL_close_20 : decode cL_close 20 = .ok (.astore 4, 2) := by decide +kernel
theorem dL_close_22 : decode cL_close 22 = .ok (.iconst 1, 1) := by decide +kernel
theorem dL_close_23 : decode cL_close 23 = .ok (.ireturn, 1) := by decide +kernel
theorem dL_record_0 : decode cL_record 0 = .ok (.aload_n 2, 1) := by decide +kernel
theorem dL_record_1 : decode cL_record 1 = .ok (.iconst 0, 1) := by decide +kernel
theorem dL_record_2 : decode cL_record 2 = .ok (.aload_n 0, 1) := by decide +kernel
theorem dL_record_3 : decode cL_record 3 = .ok (.iload_n 1, 1) := by decide +kernel
theorem dL_record_4 : decode cL_record 4 = .ok (.invokevirtual 99, 3) := by decide +kernel
theorem dL_record_12 : decode cL_record 12 = .ok (.astore_n 3, 1) := by decide +kernel
theorem dL_record_13 : decode cL_record 13 = .ok (.iconst 1, 1) := by decide +kernel
theorem dL_record_14 : decode cL_record 14 = .ok (.ireturn, 1) := by decide +kernel
theorem dL_holder_0 : decode cL_holder 0 = .ok (.aload_n 2, 1) := by decide +kernel
theorem dL_holder_1 : decode cL_holder 1 = .ok (.iconst 0, 1) := by decide +kernel
theorem dL_holder_2 : decode cL_holder 2 = .ok (.aload_n 0, 1) := by decide +kernel
theorem dL_holder_3 : decode cL_holder 3 = .ok (.iload_n 1, 1) := by decide +kernel
theorem dL_holder_4 : decode cL_holder 4 = .ok (.invokevirtual 102, 3) := by decide +kernel
theorem dL_holder_12 : decode cL_holder 12 = .ok (.astore_n 3, 1) := by decide +kernel
theorem dL_holder_13 : decode cL_holder 13 = .ok (.iconst 1, 1) := by decide +kernel
theorem dL_holder_14 : decode cL_holder 14 = .ok (.ireturn, 1) := by decide +kernel
theorem dL_sharers_0 : decode cL_sharers 0 = .ok (.aload_n 2, 1) := by decide +kernel
theorem dL_sharers_1 : decode cL_sharers 1 = .ok (.iconst 0, 1) := by decide +kernel
theorem dL_sharers_2 : decode cL_sharers 2 = .ok (.aload_n 0, 1) := by decide +kernel
theorem dL_sharers_3 : decode cL_sharers 3 = .ok (.iload_n 1, 1) := by decide +kernel
theorem dL_sharers_4 : decode cL_sharers 4 = .ok (.invokevirtual 105, 3) := by decide +kernel
theorem dL_sharers_12 : decode cL_sharers 12 = .ok (.astore_n 3, 1) := by decide +kernel
theorem dL_sharers_13 : decode cL_sharers 13 = .ok (.iconst 1, 1) := by decide +kernel
theorem dL_sharers_14 : decode cL_sharers 14 = .ok (.ireturn, 1) := by decide +kernel
def zL_enter_ws : List Cond := .codeWith yL_enter cL_enter 6 (some .int) [(0, 12, 15, 25), (0, 12, 19, 13), (0, 12, 23, 15)] :: ([.methodLink RL 21 yX11_enter, .instanceMethod yX11_enter, .selects RX11 yX11_enter yX11_enter, .initialized RX11, .classLink RL 25 "java/lang/IndexOutOfBoundsException"] ++ (zX11_enter_ws ++ ([])))
theorem zL_enter_ws_good : zL_enter_ws.all goodWord = true := by decide +kernel
set_option maxHeartbeats 4000000 in
set_option maxRecDepth 100000 in
/-- the law's enter: 1 is thrown -/
theorem cl_enter (l : Launch) (hst : l.stackTraces = false) (D : va_G) (sz : Nat) (h0 : Nat) (a : Nat → Nat) (x1 x2 x3 : Int32) (o : Nat) : vx_Met l yL_enter zL_enter_ws (zR 4 1 6) (zPre [.ref h0, .int x1, .int x2, .int x3, .ref o] D [(h0, .inr (17, zHS a))] [] (fun q : Nat => sz ≤ q) sz) (va_Qi (S := Unit) (fun r _ => r = 1) (fun _ _ => True) (fun q : Nat => sz ≤ q)) (vx_X (S := Unit) (fun _ => False) (fun _ _ _ => True) (fun q : Nat => sz ≤ q)) 1 6 (fun q : Nat => sz ≤ q) := by
  refine vx_ofWH (cc := cL_enter) (maxL := 6) (ret := (some .int)) (by decide) rfl ?_
  intro p e s m args below meth c s₁ B hml hv
  have htb : c.exceptionTable.toList = tableOf [(0, 12, 15, 25), (0, 12, 19, 13), (0, 12, 23, 15)] := vx_table (x := yL_enter) B (atoms_spec (ws := zL_enter_ws) B.pre _ List.mem_cons_self)
  obtain ⟨rfl, hsz, hP, hK, hD0, hz⟩ := hv
  have hx := B.exec
  have hb := B.bytes
  have hr := B.returns
  have hts := atoms_spec (ws := zL_enter_ws) B.pre
  have hown : s.vm.findClass RL = some m.cls := findClass_of_methodNamed B.named
  have hlocks := B.notSynchronized
  subst hsz
  obtain ⟨A, hAe⟩ : ∃ A : Nat → Prop, A = (fun q : Nat => s.heap.size ≤ q) := ⟨_, rfl⟩
  rw [← hAe] at hz ⊢
  have hA : ∀ q : Nat, s.heap.size ≤ q → A q := fun q h => by rw [hAe]; exact h
  have hD := hD0
  have hS : va_S A s.heap s.heap [] := va_S.rf
  have hP : va_P D vwCl [(h0, .inr (17, zHS a))] s.heap := hP
  have hl := lv_entry ([.ref h0, .int x1, .int x2, .int x3, .ref o]) (n := 6) (Nat.le_of_ble_eq_true rfl)
  rw [lg_entry_eq]
  generalize (lg_sl ([.ref h0, .int x1, .int x2, .int x3, .ref o]) ++ List.replicate (6 - (lg_sl ([.ref h0, .int x1, .int x2, .int x3, .ref o])).length) Slot.unset).toArray = ls at hl ⊢
  have hl : lv_has ls 6 [(0, .ref h0), (1, .int x1), (2, .int x2), (3, .int x3), (4, .ref o)] := hl
  refine lv_aload hx hb dL_enter_0 (lv_at hl 4 rfl) ?_
  refine lv_iconst (v := 0) hx hb dL_enter_2 (by decide) ?_
  refine lv_aload_n hx hb dL_enter_3 rfl (lv_at hl 0 rfl) ?_
  refine lv_iload_n hx hb dL_enter_4 rfl (lv_at hl 1 rfl) ?_
  refine lv_iload_n hx hb dL_enter_5 rfl (lv_at hl 2 rfl) ?_
  refine lv_iload_n hx hb dL_enter_6 rfl (lv_at hl 3 rfl) ?_
  have hPc := hP.sub (ws' := [(h0, .inr (17, zHS a))]) [0] rfl
  have hDc := hD.sub (ws' := [(h0, .inr (17, zHS a))]) [0] (by decide) rfl
  have hKc := hK.sub (tys' := []) [] rfl
  have hFc : ∀ q : Nat, s.heap.size ≤ q → A q := fun q h => hA q (Nat.le_trans hS.1 h)
  refine vx_calli (vx_runV (As := [.int x1, .int x2, .int x3]) (rest := [.int 0, .ref o]) ⟨hx, hb, hml, hown, hts⟩ (c_enter l hst D s.heap.size h0 a x1 x2 x3) (cwV 3 hts (goodIn_app (goodIn_of _ (by decide +kernel)) (goodIn_sub (fun _ h => List.mem_cons_of_mem _ (List.mem_append_right _ (List.mem_append_left _ h))) zX11_enter_ws_good)) rfl rfl rfl (by decide +kernel) ⟨Nat.le_of_ble_eq_true rfl, Nat.le_of_ble_eq_true rfl⟩) ⟨zPre.blind, va_recv hKc hPc (ci := 17) (q0 := 0) rfl rfl, zPre.mk hPc hKc hDc hz hS (fun q h => hFc q h)⟩ rfl rfl hl.1 rfl (lv_room (Nat.le_of_ble_eq_true rfl)) dL_enter_7 ⟨Nat.le_of_ble_eq_true rfl, Nat.le_of_ble_eq_true rfl⟩) hS (fun q _ h => hFc q h) (fun q h => hFc q h) (fun q _ h => hFc q h) (fun E9 ce q9 u t H1 locs ht9 hvm hpx hBX hz1 hk1 hS hcell hv9 hcl => ?_) (fun _ _ t H1 locs _ _ hw _ _ _ _ => hw.elim)
  · cases hBX
    refine vx_catch hown [] _ _ htb (fun z hz9 => nomatch hz9) (by decide) (by decide) (hts (.classLink RL 25 "java/lang/IndexOutOfBoundsException") (by decide +kernel)) (hz.w (.castable "java/lang/IndexOutOfBoundsException" "java/lang/IndexOutOfBoundsException") (by decide +kernel)) hcell hv9 hcl ?_
    refine W.eq (g2 := F0 m 15 ls [.ref q9]) rfl ?_
    refine lv_astore (lv' := [(5, .ref q9), (0, .ref h0), (1, .int x1), (2, .int x2), (3, .int x3), (4, .ref o)]) hx hb dL_enter_15 hl (by decide) rfl (fun ls hl => ?_)
    refine lv_iconst (v := 1) hx hb dL_enter_17 (by decide) ?_
    refine W.widen (k := 1) (n := 6) (by omega) (by omega) ?_
    refine vx_ret ?_
    exact W.iret (v := 1) hx hb hr (fun t ht9 hW => ⟨⟨1, (), rfl, rfl, trivial⟩, hS.F ht9⟩) hS.2.2 dL_enter_18

def zL_withdraw_ws : List Cond := .codeWith yL_withdraw cL_withdraw 6 (some .int) [(0, 19, 22, 25), (0, 19, 26, 31), (0, 19, 30, 15)] :: ([.methodLink RL 27 yX11_withdraw, .instanceMethod yX11_withdraw, .selects RX11 yX11_withdraw yX11_withdraw, .initialized RX11, .classLink RL 25 "java/lang/IndexOutOfBoundsException"] ++ (zX11_withdraw_ws ++ ([])))
theorem zL_withdraw_ws_good : zL_withdraw_ws.all goodWord = true := by decide +kernel
set_option maxHeartbeats 4000000 in
set_option maxRecDepth 100000 in
/-- the law's withdraw: 1 is thrown -/
theorem cl_withdraw (l : Launch) (hst : l.stackTraces = false) (D : va_G) (sz : Nat) (h0 : Nat) (a : Nat → Nat) (x1 x2 x3 : Int32) (o : Nat) : vx_Met l yL_withdraw zL_withdraw_ws (zR 4 1 6) (zPre [.ref h0, .int x1, .int x2, .int x3, .ref o] D [(h0, .inr (17, zHS a))] [] (fun q : Nat => sz ≤ q) sz) (va_Qi (S := Unit) (fun r _ => r = 1) (fun _ _ => True) (fun q : Nat => sz ≤ q)) (vx_X (S := Unit) (fun _ => False) (fun _ _ _ => True) (fun q : Nat => sz ≤ q)) 1 6 (fun q : Nat => sz ≤ q) := by
  refine vx_ofWH (cc := cL_withdraw) (maxL := 6) (ret := (some .int)) (by decide) rfl ?_
  intro p e s m args below meth c s₁ B hml hv
  have htb : c.exceptionTable.toList = tableOf [(0, 19, 22, 25), (0, 19, 26, 31), (0, 19, 30, 15)] := vx_table (x := yL_withdraw) B (atoms_spec (ws := zL_withdraw_ws) B.pre _ List.mem_cons_self)
  obtain ⟨rfl, hsz, hP, hK, hD0, hz⟩ := hv
  have hx := B.exec
  have hb := B.bytes
  have hr := B.returns
  have hts := atoms_spec (ws := zL_withdraw_ws) B.pre
  have hown : s.vm.findClass RL = some m.cls := findClass_of_methodNamed B.named
  have hlocks := B.notSynchronized
  subst hsz
  obtain ⟨A, hAe⟩ : ∃ A : Nat → Prop, A = (fun q : Nat => s.heap.size ≤ q) := ⟨_, rfl⟩
  rw [← hAe] at hz ⊢
  have hA : ∀ q : Nat, s.heap.size ≤ q → A q := fun q h => by rw [hAe]; exact h
  have hD := hD0
  have hS : va_S A s.heap s.heap [] := va_S.rf
  have hP : va_P D vwCl [(h0, .inr (17, zHS a))] s.heap := hP
  have hl := lv_entry ([.ref h0, .int x1, .int x2, .int x3, .ref o]) (n := 6) (Nat.le_of_ble_eq_true rfl)
  rw [lg_entry_eq]
  generalize (lg_sl ([.ref h0, .int x1, .int x2, .int x3, .ref o]) ++ List.replicate (6 - (lg_sl ([.ref h0, .int x1, .int x2, .int x3, .ref o])).length) Slot.unset).toArray = ls at hl ⊢
  have hl : lv_has ls 6 [(0, .ref h0), (1, .int x1), (2, .int x2), (3, .int x3), (4, .ref o)] := hl
  refine lv_aload hx hb dL_withdraw_0 (lv_at hl 4 rfl) ?_
  refine lv_iconst (v := 0) hx hb dL_withdraw_2 (by decide) ?_
  refine lv_aload_n hx hb dL_withdraw_3 rfl (lv_at hl 0 rfl) ?_
  refine lv_iload_n hx hb dL_withdraw_4 rfl (lv_at hl 1 rfl) ?_
  refine lv_iload_n hx hb dL_withdraw_5 rfl (lv_at hl 2 rfl) ?_
  refine lv_iload_n hx hb dL_withdraw_6 rfl (lv_at hl 3 rfl) ?_
  have hPc := hP.sub (ws' := [(h0, .inr (17, zHS a))]) [0] rfl
  have hDc := hD.sub (ws' := [(h0, .inr (17, zHS a))]) [0] (by decide) rfl
  have hKc := hK.sub (tys' := []) [] rfl
  have hFc : ∀ q : Nat, s.heap.size ≤ q → A q := fun q h => hA q (Nat.le_trans hS.1 h)
  refine vx_calli (vx_runV (As := [.int x1, .int x2, .int x3]) (rest := [.int 0, .ref o]) ⟨hx, hb, hml, hown, hts⟩ (c_withdraw l hst D s.heap.size h0 a x1 x2 x3) (cwV 3 hts (goodIn_app (goodIn_of _ (by decide +kernel)) (goodIn_sub (fun _ h => List.mem_cons_of_mem _ (List.mem_append_right _ (List.mem_append_left _ h))) zX11_withdraw_ws_good)) rfl rfl rfl (by decide +kernel) ⟨Nat.le_of_ble_eq_true rfl, Nat.le_of_ble_eq_true rfl⟩) ⟨zPre.blind, va_recv hKc hPc (ci := 17) (q0 := 0) rfl rfl, zPre.mk hPc hKc hDc hz hS (fun q h => hFc q h)⟩ rfl rfl hl.1 rfl (lv_room (Nat.le_of_ble_eq_true rfl)) dL_withdraw_7 ⟨Nat.le_of_ble_eq_true rfl, Nat.le_of_ble_eq_true rfl⟩) hS (fun q _ h => hFc q h) (fun q h => hFc q h) (fun q _ h => hFc q h) (fun E9 ce q9 u t H1 locs ht9 hvm hpx hBX hz1 hk1 hS hcell hv9 hcl => ?_) (fun _ _ t H1 locs _ _ hw _ _ _ _ => hw.elim)
  · cases hBX
    refine vx_catch hown [] _ _ htb (fun z hz9 => nomatch hz9) (by decide) (by decide) (hts (.classLink RL 25 "java/lang/IndexOutOfBoundsException") (by decide +kernel)) (hz.w (.castable "java/lang/IndexOutOfBoundsException" "java/lang/IndexOutOfBoundsException") (by decide +kernel)) hcell hv9 hcl ?_
    refine W.eq (g2 := F0 m 22 ls [.ref q9]) rfl ?_
    refine lv_astore (lv' := [(5, .ref q9), (0, .ref h0), (1, .int x1), (2, .int x2), (3, .int x3), (4, .ref o)]) hx hb dL_withdraw_22 hl (by decide) rfl (fun ls hl => ?_)
    refine lv_iconst (v := 1) hx hb dL_withdraw_24 (by decide) ?_
    refine W.widen (k := 1) (n := 6) (by omega) (by omega) ?_
    refine vx_ret ?_
    exact W.iret (v := 1) hx hb hr (fun t ht9 hW => ⟨⟨1, (), rfl, rfl, trivial⟩, hS.F ht9⟩) hS.2.2 dL_withdraw_25

def zL_field_ws : List Cond := .codeWith yL_field cL_field 4 (some .int) [(0, 9, 12, 25)] :: ([.methodLink RL 33 yX11_field, .instanceMethod yX11_field, .selects RX11 yX11_field yX11_field, .initialized RX11, .classLink RL 25 "java/lang/IndexOutOfBoundsException"] ++ (zX11_field_ws ++ ([])))
theorem zL_field_ws_good : zL_field_ws.all goodWord = true := by decide +kernel
set_option maxHeartbeats 4000000 in
set_option maxRecDepth 100000 in
/-- the law's field: 1 is thrown -/
theorem cl_field (l : Launch) (hst : l.stackTraces = false) (D : va_G) (sz : Nat) (h0 : Nat) (a : Nat → Nat) (x1 : Int32) (o : Nat) : vx_Met l yL_field zL_field_ws (zR 4 1 6) (zPre [.ref h0, .int x1, .ref o] D [(h0, .inr (17, zHS a))] [] (fun q : Nat => sz ≤ q) sz) (va_Qi (S := Unit) (fun r _ => r = 1) (fun _ _ => True) (fun q : Nat => sz ≤ q)) (vx_X (S := Unit) (fun _ => False) (fun _ _ _ => True) (fun q : Nat => sz ≤ q)) 1 6 (fun q : Nat => sz ≤ q) := by
  refine vx_ofWH (cc := cL_field) (maxL := 4) (ret := (some .int)) (by decide) rfl ?_
  intro p e s m args below meth c s₁ B hml hv
  have htb : c.exceptionTable.toList = tableOf [(0, 9, 12, 25)] := vx_table (x := yL_field) B (atoms_spec (ws := zL_field_ws) B.pre _ List.mem_cons_self)
  obtain ⟨rfl, hsz, hP, hK, hD0, hz⟩ := hv
  have hx := B.exec
  have hb := B.bytes
  have hr := B.returns
  have hts := atoms_spec (ws := zL_field_ws) B.pre
  have hown : s.vm.findClass RL = some m.cls := findClass_of_methodNamed B.named
  have hlocks := B.notSynchronized
  subst hsz
  obtain ⟨A, hAe⟩ : ∃ A : Nat → Prop, A = (fun q : Nat => s.heap.size ≤ q) := ⟨_, rfl⟩
  rw [← hAe] at hz ⊢
  have hA : ∀ q : Nat, s.heap.size ≤ q → A q := fun q h => by rw [hAe]; exact h
  have hD := hD0
  have hS : va_S A s.heap s.heap [] := va_S.rf
  have hP : va_P D vwCl [(h0, .inr (17, zHS a))] s.heap := hP
  have hl := lv_entry ([.ref h0, .int x1, .ref o]) (n := 4) (Nat.le_of_ble_eq_true rfl)
  rw [lg_entry_eq]
  generalize (lg_sl ([.ref h0, .int x1, .ref o]) ++ List.replicate (4 - (lg_sl ([.ref h0, .int x1, .ref o])).length) Slot.unset).toArray = ls at hl ⊢
  have hl : lv_has ls 4 [(0, .ref h0), (1, .int x1), (2, .ref o)] := hl
  refine lv_aload_n hx hb dL_field_0 rfl (lv_at hl 2 rfl) ?_
  refine lv_iconst (v := 0) hx hb dL_field_1 (by decide) ?_
  refine lv_aload_n hx hb dL_field_2 rfl (lv_at hl 0 rfl) ?_
  refine lv_iload_n hx hb dL_field_3 rfl (lv_at hl 1 rfl) ?_
  have hPc := hP.sub (ws' := [(h0, .inr (17, zHS a))]) [0] rfl
  have hDc := hD.sub (ws' := [(h0, .inr (17, zHS a))]) [0] (by decide) rfl
  have hKc := hK.sub (tys' := []) [] rfl
  have hFc : ∀ q : Nat, s.heap.size ≤ q → A q := fun q h => hA q (Nat.le_trans hS.1 h)
  refine vx_calli (vx_runV (As := [.int x1]) (rest := [.int 0, .ref o]) ⟨hx, hb, hml, hown, hts⟩ (c_field l hst D s.heap.size h0 a x1) (cwV 1 hts (goodIn_app (goodIn_of _ (by decide +kernel)) (goodIn_sub (fun _ h => List.mem_cons_of_mem _ (List.mem_append_right _ (List.mem_append_left _ h))) zX11_field_ws_good)) rfl rfl rfl (by decide +kernel) ⟨Nat.le_of_ble_eq_true rfl, Nat.le_of_ble_eq_true rfl⟩) ⟨zPre.blind, va_recv hKc hPc (ci := 17) (q0 := 0) rfl rfl, zPre.mk hPc hKc hDc hz hS (fun q h => hFc q h)⟩ rfl rfl hl.1 rfl (lv_room (Nat.le_of_ble_eq_true rfl)) dL_field_4 ⟨Nat.le_of_ble_eq_true rfl, Nat.le_of_ble_eq_true rfl⟩) hS (fun q _ h => hFc q h) (fun q h => hFc q h) (fun q _ h => hFc q h) (fun E9 ce q9 u t H1 locs ht9 hvm hpx hBX hz1 hk1 hS hcell hv9 hcl => ?_) (fun _ _ t H1 locs _ _ hw _ _ _ _ => hw.elim)
  · cases hBX
    refine vx_catch hown [] _ _ htb (fun z hz9 => nomatch hz9) (by decide) (by decide) (hts (.classLink RL 25 "java/lang/IndexOutOfBoundsException") (by decide +kernel)) (hz.w (.castable "java/lang/IndexOutOfBoundsException" "java/lang/IndexOutOfBoundsException") (by decide +kernel)) hcell hv9 hcl ?_
    refine W.eq (g2 := F0 m 12 ls [.ref q9]) rfl ?_
    refine lv_astore_n (lv' := [(3, .ref q9), (0, .ref h0), (1, .int x1), (2, .ref o)]) hx hb dL_field_12 rfl hl (by decide) rfl (fun ls hl => ?_)
    refine lv_iconst (v := 1) hx hb dL_field_13 (by decide) ?_
    refine W.widen (k := 1) (n := 6) (by omega) (by omega) ?_
    refine vx_ret ?_
    exact W.iret (v := 1) hx hb hr (fun t ht9 hW => ⟨⟨1, (), rfl, rfl, trivial⟩, hS.F ht9⟩) hS.2.2 dL_field_14

def zL_inField_ws : List Cond := .codeWith yL_inField cL_inField 5 (some .int) [(0, 10, 13, 25), (0, 10, 17, 31)] :: ([.methodLink RL 36 yX11_inField, .instanceMethod yX11_inField, .selects RX11 yX11_inField yX11_inField, .initialized RX11, .classLink RL 25 "java/lang/IndexOutOfBoundsException"] ++ (zX11_inField_ws ++ ([])))
theorem zL_inField_ws_good : zL_inField_ws.all goodWord = true := by decide +kernel
set_option maxHeartbeats 4000000 in
set_option maxRecDepth 100000 in
/-- the law's inField: 1 is thrown -/
theorem cl_inField (l : Launch) (hst : l.stackTraces = false) (D : va_G) (sz : Nat) (h0 : Nat) (a : Nat → Nat) (x1 x2 : Int32) (o : Nat) : vx_Met l yL_inField zL_inField_ws (zR 4 1 6) (zPre [.ref h0, .int x1, .int x2, .ref o] D [(h0, .inr (17, zHS a))] [] (fun q : Nat => sz ≤ q) sz) (va_Qi (S := Unit) (fun r _ => r = 1) (fun _ _ => True) (fun q : Nat => sz ≤ q)) (vx_X (S := Unit) (fun _ => False) (fun _ _ _ => True) (fun q : Nat => sz ≤ q)) 1 6 (fun q : Nat => sz ≤ q) := by
  refine vx_ofWH (cc := cL_inField) (maxL := 5) (ret := (some .int)) (by decide) rfl ?_
  intro p e s m args below meth c s₁ B hml hv
  have htb : c.exceptionTable.toList = tableOf [(0, 10, 13, 25), (0, 10, 17, 31)] := vx_table (x := yL_inField) B (atoms_spec (ws := zL_inField_ws) B.pre _ List.mem_cons_self)
  obtain ⟨rfl, hsz, hP, hK, hD0, hz⟩ := hv
  have hx := B.exec
  have hb := B.bytes
  have hr := B.returns
  have hts := atoms_spec (ws := zL_inField_ws) B.pre
  have hown : s.vm.findClass RL = some m.cls := findClass_of_methodNamed B.named
  have hlocks := B.notSynchronized
  subst hsz
  obtain ⟨A, hAe⟩ : ∃ A : Nat → Prop, A = (fun q : Nat => s.heap.size ≤ q) := ⟨_, rfl⟩
  rw [← hAe] at hz ⊢
  have hA : ∀ q : Nat, s.heap.size ≤ q → A q := fun q h => by rw [hAe]; exact h
  have hD := hD0
  have hS : va_S A s.heap s.heap [] := va_S.rf
  have hP : va_P D vwCl [(h0, .inr (17, zHS a))] s.heap := hP
  have hl := lv_entry ([.ref h0, .int x1, .int x2, .ref o]) (n := 5) (Nat.le_of_ble_eq_true rfl)
  rw [lg_entry_eq]
  generalize (lg_sl ([.ref h0, .int x1, .int x2, .ref o]) ++ List.replicate (5 - (lg_sl ([.ref h0, .int x1, .int x2, .ref o])).length) Slot.unset).toArray = ls at hl ⊢
  have hl : lv_has ls 5 [(0, .ref h0), (1, .int x1), (2, .int x2), (3, .ref o)] := hl
  refine lv_aload_n hx hb dL_inField_0 rfl (lv_at hl 3 rfl) ?_
  refine lv_iconst (v := 0) hx hb dL_inField_1 (by decide) ?_
  refine lv_aload_n hx hb dL_inField_2 rfl (lv_at hl 0 rfl) ?_
  refine lv_iload_n hx hb dL_inField_3 rfl (lv_at hl 1 rfl) ?_
  refine lv_iload_n hx hb dL_inField_4 rfl (lv_at hl 2 rfl) ?_
  have hPc := hP.sub (ws' := [(h0, .inr (17, zHS a))]) [0] rfl
  have hDc := hD.sub (ws' := [(h0, .inr (17, zHS a))]) [0] (by decide) rfl
  have hKc := hK.sub (tys' := []) [] rfl
  have hFc : ∀ q : Nat, s.heap.size ≤ q → A q := fun q h => hA q (Nat.le_trans hS.1 h)
  refine vx_calli (vx_runV (As := [.int x1, .int x2]) (rest := [.int 0, .ref o]) ⟨hx, hb, hml, hown, hts⟩ (c_inField l hst D s.heap.size h0 a x1 x2) (cwV 2 hts (goodIn_app (goodIn_of _ (by decide +kernel)) (goodIn_sub (fun _ h => List.mem_cons_of_mem _ (List.mem_append_right _ (List.mem_append_left _ h))) zX11_inField_ws_good)) rfl rfl rfl (by decide +kernel) ⟨Nat.le_of_ble_eq_true rfl, Nat.le_of_ble_eq_true rfl⟩) ⟨zPre.blind, va_recv hKc hPc (ci := 17) (q0 := 0) rfl rfl, zPre.mk hPc hKc hDc hz hS (fun q h => hFc q h)⟩ rfl rfl hl.1 rfl (lv_room (Nat.le_of_ble_eq_true rfl)) dL_inField_5 ⟨Nat.le_of_ble_eq_true rfl, Nat.le_of_ble_eq_true rfl⟩) hS (fun q _ h => hFc q h) (fun q h => hFc q h) (fun q _ h => hFc q h) (fun E9 ce q9 u t H1 locs ht9 hvm hpx hBX hz1 hk1 hS hcell hv9 hcl => ?_) (fun _ _ t H1 locs _ _ hw _ _ _ _ => hw.elim)
  · cases hBX
    refine vx_catch hown [] _ _ htb (fun z hz9 => nomatch hz9) (by decide) (by decide) (hts (.classLink RL 25 "java/lang/IndexOutOfBoundsException") (by decide +kernel)) (hz.w (.castable "java/lang/IndexOutOfBoundsException" "java/lang/IndexOutOfBoundsException") (by decide +kernel)) hcell hv9 hcl ?_
    refine W.eq (g2 := F0 m 13 ls [.ref q9]) rfl ?_
    refine lv_astore (lv' := [(4, .ref q9), (0, .ref h0), (1, .int x1), (2, .int x2), (3, .ref o)]) hx hb dL_inField_13 hl (by decide) rfl (fun ls hl => ?_)
    refine lv_iconst (v := 1) hx hb dL_inField_15 (by decide) ?_
    refine W.widen (k := 1) (n := 6) (by omega) (by omega) ?_
    refine vx_ret ?_
    exact W.iret (v := 1) hx hb hr (fun t ht9 hW => ⟨⟨1, (), rfl, rfl, trivial⟩, hS.F ht9⟩) hS.2.2 dL_inField_16

def zL_heatOf_ws : List Cond := .codeWith yL_heatOf cL_heatOf 5 (some .int) [(0, 10, 13, 25), (0, 10, 17, 46), (0, 10, 21, 31)] :: ([.methodLink RL 43 yX11_heatOf, .instanceMethod yX11_heatOf, .selects RX11 yX11_heatOf yX11_heatOf, .initialized RX11, .classLink RL 25 "java/lang/IndexOutOfBoundsException"] ++ (zX11_heatOf_ws ++ ([])))
theorem zL_heatOf_ws_good : zL_heatOf_ws.all goodWord = true := by decide +kernel
set_option maxHeartbeats 4000000 in
set_option maxRecDepth 100000 in
/-- the law's heatOf: 1 is thrown -/
theorem cl_heatOf (l : Launch) (hst : l.stackTraces = false) (D : va_G) (sz : Nat) (h0 : Nat) (a : Nat → Nat) (x1 x2 : Int32) (o : Nat) : vx_Met l yL_heatOf zL_heatOf_ws (zR 4 1 6) (zPre [.ref h0, .int x1, .int x2, .ref o] D [(h0, .inr (17, zHS a))] [] (fun q : Nat => sz ≤ q) sz) (va_Qi (S := Unit) (fun r _ => r = 1) (fun _ _ => True) (fun q : Nat => sz ≤ q)) (vx_X (S := Unit) (fun _ => False) (fun _ _ _ => True) (fun q : Nat => sz ≤ q)) 1 6 (fun q : Nat => sz ≤ q) := by
  refine vx_ofWH (cc := cL_heatOf) (maxL := 5) (ret := (some .int)) (by decide) rfl ?_
  intro p e s m args below meth c s₁ B hml hv
  have htb : c.exceptionTable.toList = tableOf [(0, 10, 13, 25), (0, 10, 17, 46), (0, 10, 21, 31)] := vx_table (x := yL_heatOf) B (atoms_spec (ws := zL_heatOf_ws) B.pre _ List.mem_cons_self)
  obtain ⟨rfl, hsz, hP, hK, hD0, hz⟩ := hv
  have hx := B.exec
  have hb := B.bytes
  have hr := B.returns
  have hts := atoms_spec (ws := zL_heatOf_ws) B.pre
  have hown : s.vm.findClass RL = some m.cls := findClass_of_methodNamed B.named
  have hlocks := B.notSynchronized
  subst hsz
  obtain ⟨A, hAe⟩ : ∃ A : Nat → Prop, A = (fun q : Nat => s.heap.size ≤ q) := ⟨_, rfl⟩
  rw [← hAe] at hz ⊢
  have hA : ∀ q : Nat, s.heap.size ≤ q → A q := fun q h => by rw [hAe]; exact h
  have hD := hD0
  have hS : va_S A s.heap s.heap [] := va_S.rf
  have hP : va_P D vwCl [(h0, .inr (17, zHS a))] s.heap := hP
  have hl := lv_entry ([.ref h0, .int x1, .int x2, .ref o]) (n := 5) (Nat.le_of_ble_eq_true rfl)
  rw [lg_entry_eq]
  generalize (lg_sl ([.ref h0, .int x1, .int x2, .ref o]) ++ List.replicate (5 - (lg_sl ([.ref h0, .int x1, .int x2, .ref o])).length) Slot.unset).toArray = ls at hl ⊢
  have hl : lv_has ls 5 [(0, .ref h0), (1, .int x1), (2, .int x2), (3, .ref o)] := hl
  refine lv_aload_n hx hb dL_heatOf_0 rfl (lv_at hl 3 rfl) ?_
  refine lv_iconst (v := 0) hx hb dL_heatOf_1 (by decide) ?_
  refine lv_aload_n hx hb dL_heatOf_2 rfl (lv_at hl 0 rfl) ?_
  refine lv_iload_n hx hb dL_heatOf_3 rfl (lv_at hl 1 rfl) ?_
  refine lv_iload_n hx hb dL_heatOf_4 rfl (lv_at hl 2 rfl) ?_
  have hPc := hP.sub (ws' := [(h0, .inr (17, zHS a))]) [0] rfl
  have hDc := hD.sub (ws' := [(h0, .inr (17, zHS a))]) [0] (by decide) rfl
  have hKc := hK.sub (tys' := []) [] rfl
  have hFc : ∀ q : Nat, s.heap.size ≤ q → A q := fun q h => hA q (Nat.le_trans hS.1 h)
  refine vx_calli (vx_runV (As := [.int x1, .int x2]) (rest := [.int 0, .ref o]) ⟨hx, hb, hml, hown, hts⟩ (c_heatOf l hst D s.heap.size h0 a x1 x2) (cwV 2 hts (goodIn_app (goodIn_of _ (by decide +kernel)) (goodIn_sub (fun _ h => List.mem_cons_of_mem _ (List.mem_append_right _ (List.mem_append_left _ h))) zX11_heatOf_ws_good)) rfl rfl rfl (by decide +kernel) ⟨Nat.le_of_ble_eq_true rfl, Nat.le_of_ble_eq_true rfl⟩) ⟨zPre.blind, va_recv hKc hPc (ci := 17) (q0 := 0) rfl rfl, zPre.mk hPc hKc hDc hz hS (fun q h => hFc q h)⟩ rfl rfl hl.1 rfl (lv_room (Nat.le_of_ble_eq_true rfl)) dL_heatOf_5 ⟨Nat.le_of_ble_eq_true rfl, Nat.le_of_ble_eq_true rfl⟩) hS (fun q _ h => hFc q h) (fun q h => hFc q h) (fun q _ h => hFc q h) (fun E9 ce q9 u t H1 locs ht9 hvm hpx hBX hz1 hk1 hS hcell hv9 hcl => ?_) (fun _ _ t H1 locs _ _ hw _ _ _ _ => hw.elim)
  · cases hBX
    refine vx_catch hown [] _ _ htb (fun z hz9 => nomatch hz9) (by decide) (by decide) (hts (.classLink RL 25 "java/lang/IndexOutOfBoundsException") (by decide +kernel)) (hz.w (.castable "java/lang/IndexOutOfBoundsException" "java/lang/IndexOutOfBoundsException") (by decide +kernel)) hcell hv9 hcl ?_
    refine W.eq (g2 := F0 m 13 ls [.ref q9]) rfl ?_
    refine lv_astore (lv' := [(4, .ref q9), (0, .ref h0), (1, .int x1), (2, .int x2), (3, .ref o)]) hx hb dL_heatOf_13 hl (by decide) rfl (fun ls hl => ?_)
    refine lv_iconst (v := 1) hx hb dL_heatOf_15 (by decide) ?_
    refine W.widen (k := 1) (n := 6) (by omega) (by omega) ?_
    refine vx_ret ?_
    exact W.iret (v := 1) hx hb hr (fun t ht9 hW => ⟨⟨1, (), rfl, rfl, trivial⟩, hS.F ht9⟩) hS.2.2 dL_heatOf_16

def zL_laneOf_ws : List Cond := .codeWith yL_laneOf cL_laneOf 6 (some .int) [(0, 12, 15, 25), (0, 12, 19, 13), (0, 12, 23, 46), (0, 12, 27, 31)] :: ([.methodLink RL 48 yX11_laneOf, .instanceMethod yX11_laneOf, .selects RX11 yX11_laneOf yX11_laneOf, .initialized RX11, .classLink RL 25 "java/lang/IndexOutOfBoundsException"] ++ (zX11_laneOf_ws ++ ([])))
theorem zL_laneOf_ws_good : zL_laneOf_ws.all goodWord = true := by decide +kernel
set_option maxHeartbeats 4000000 in
set_option maxRecDepth 100000 in
/-- the law's laneOf: 1 is thrown -/
theorem cl_laneOf (l : Launch) (hst : l.stackTraces = false) (D : va_G) (sz : Nat) (h0 : Nat) (a : Nat → Nat) (x1 x2 x3 : Int32) (o : Nat) : vx_Met l yL_laneOf zL_laneOf_ws (zR 4 1 6) (zPre [.ref h0, .int x1, .int x2, .int x3, .ref o] D [(h0, .inr (17, zHS a))] [] (fun q : Nat => sz ≤ q) sz) (va_Qi (S := Unit) (fun r _ => r = 1) (fun _ _ => True) (fun q : Nat => sz ≤ q)) (vx_X (S := Unit) (fun _ => False) (fun _ _ _ => True) (fun q : Nat => sz ≤ q)) 1 6 (fun q : Nat => sz ≤ q) := by
  refine vx_ofWH (cc := cL_laneOf) (maxL := 6) (ret := (some .int)) (by decide) rfl ?_
  intro p e s m args below meth c s₁ B hml hv
  have htb : c.exceptionTable.toList = tableOf [(0, 12, 15, 25), (0, 12, 19, 13), (0, 12, 23, 46), (0, 12, 27, 31)] := vx_table (x := yL_laneOf) B (atoms_spec (ws := zL_laneOf_ws) B.pre _ List.mem_cons_self)
  obtain ⟨rfl, hsz, hP, hK, hD0, hz⟩ := hv
  have hx := B.exec
  have hb := B.bytes
  have hr := B.returns
  have hts := atoms_spec (ws := zL_laneOf_ws) B.pre
  have hown : s.vm.findClass RL = some m.cls := findClass_of_methodNamed B.named
  have hlocks := B.notSynchronized
  subst hsz
  obtain ⟨A, hAe⟩ : ∃ A : Nat → Prop, A = (fun q : Nat => s.heap.size ≤ q) := ⟨_, rfl⟩
  rw [← hAe] at hz ⊢
  have hA : ∀ q : Nat, s.heap.size ≤ q → A q := fun q h => by rw [hAe]; exact h
  have hD := hD0
  have hS : va_S A s.heap s.heap [] := va_S.rf
  have hP : va_P D vwCl [(h0, .inr (17, zHS a))] s.heap := hP
  have hl := lv_entry ([.ref h0, .int x1, .int x2, .int x3, .ref o]) (n := 6) (Nat.le_of_ble_eq_true rfl)
  rw [lg_entry_eq]
  generalize (lg_sl ([.ref h0, .int x1, .int x2, .int x3, .ref o]) ++ List.replicate (6 - (lg_sl ([.ref h0, .int x1, .int x2, .int x3, .ref o])).length) Slot.unset).toArray = ls at hl ⊢
  have hl : lv_has ls 6 [(0, .ref h0), (1, .int x1), (2, .int x2), (3, .int x3), (4, .ref o)] := hl
  refine lv_aload hx hb dL_laneOf_0 (lv_at hl 4 rfl) ?_
  refine lv_iconst (v := 0) hx hb dL_laneOf_2 (by decide) ?_
  refine lv_aload_n hx hb dL_laneOf_3 rfl (lv_at hl 0 rfl) ?_
  refine lv_iload_n hx hb dL_laneOf_4 rfl (lv_at hl 1 rfl) ?_
  refine lv_iload_n hx hb dL_laneOf_5 rfl (lv_at hl 2 rfl) ?_
  refine lv_iload_n hx hb dL_laneOf_6 rfl (lv_at hl 3 rfl) ?_
  have hPc := hP.sub (ws' := [(h0, .inr (17, zHS a))]) [0] rfl
  have hDc := hD.sub (ws' := [(h0, .inr (17, zHS a))]) [0] (by decide) rfl
  have hKc := hK.sub (tys' := []) [] rfl
  have hFc : ∀ q : Nat, s.heap.size ≤ q → A q := fun q h => hA q (Nat.le_trans hS.1 h)
  refine vx_calli (vx_runV (As := [.int x1, .int x2, .int x3]) (rest := [.int 0, .ref o]) ⟨hx, hb, hml, hown, hts⟩ (c_laneOf l hst D s.heap.size h0 a x1 x2 x3) (cwV 3 hts (goodIn_app (goodIn_of _ (by decide +kernel)) (goodIn_sub (fun _ h => List.mem_cons_of_mem _ (List.mem_append_right _ (List.mem_append_left _ h))) zX11_laneOf_ws_good)) rfl rfl rfl (by decide +kernel) ⟨Nat.le_of_ble_eq_true rfl, Nat.le_of_ble_eq_true rfl⟩) ⟨zPre.blind, va_recv hKc hPc (ci := 17) (q0 := 0) rfl rfl, zPre.mk hPc hKc hDc hz hS (fun q h => hFc q h)⟩ rfl rfl hl.1 rfl (lv_room (Nat.le_of_ble_eq_true rfl)) dL_laneOf_7 ⟨Nat.le_of_ble_eq_true rfl, Nat.le_of_ble_eq_true rfl⟩) hS (fun q _ h => hFc q h) (fun q h => hFc q h) (fun q _ h => hFc q h) (fun E9 ce q9 u t H1 locs ht9 hvm hpx hBX hz1 hk1 hS hcell hv9 hcl => ?_) (fun _ _ t H1 locs _ _ hw _ _ _ _ => hw.elim)
  · cases hBX
    refine vx_catch hown [] _ _ htb (fun z hz9 => nomatch hz9) (by decide) (by decide) (hts (.classLink RL 25 "java/lang/IndexOutOfBoundsException") (by decide +kernel)) (hz.w (.castable "java/lang/IndexOutOfBoundsException" "java/lang/IndexOutOfBoundsException") (by decide +kernel)) hcell hv9 hcl ?_
    refine W.eq (g2 := F0 m 15 ls [.ref q9]) rfl ?_
    refine lv_astore (lv' := [(5, .ref q9), (0, .ref h0), (1, .int x1), (2, .int x2), (3, .int x3), (4, .ref o)]) hx hb dL_laneOf_15 hl (by decide) rfl (fun ls hl => ?_)
    refine lv_iconst (v := 1) hx hb dL_laneOf_17 (by decide) ?_
    refine W.widen (k := 1) (n := 6) (by omega) (by omega) ?_
    refine vx_ret ?_
    exact W.iret (v := 1) hx hb hr (fun t ht9 hW => ⟨⟨1, (), rfl, rfl, trivial⟩, hS.F ht9⟩) hS.2.2 dL_laneOf_18

def zL_time_ws : List Cond := .codeWith yL_time cL_time 9 (some .int) [(0, 18, 21, 25), (0, 18, 25, 13), (0, 18, 29, 46), (0, 18, 33, 15)] :: ([.methodLink RL 51 yX11_time, .instanceMethod yX11_time, .selects RX11 yX11_time yX11_time, .initialized RX11, .classLink RL 25 "java/lang/IndexOutOfBoundsException"] ++ (zX11_time_ws ++ ([])))
theorem zL_time_ws_good : zL_time_ws.all goodWord = true := by decide +kernel
set_option maxHeartbeats 4000000 in
set_option maxRecDepth 100000 in
/-- the law's time: 1 is thrown -/
theorem cl_time (l : Launch) (hst : l.stackTraces = false) (D : va_G) (sz : Nat) (h0 : Nat) (a : Nat → Nat) (x1 x2 x3 x4 x5 x6 : Int32) (o : Nat) : vx_Met l yL_time zL_time_ws (zR 4 1 6) (zPre [.ref h0, .int x1, .int x2, .int x3, .int x4, .int x5, .int x6, .ref o] D [(h0, .inr (17, zHS a))] [] (fun q : Nat => sz ≤ q) sz) (va_Qi (S := Unit) (fun r _ => r = 1) (fun _ _ => True) (fun q : Nat => sz ≤ q)) (vx_X (S := Unit) (fun _ => False) (fun _ _ _ => True) (fun q : Nat => sz ≤ q)) 1 6 (fun q : Nat => sz ≤ q) := by
  refine vx_ofWH (cc := cL_time) (maxL := 9) (ret := (some .int)) (by decide) rfl ?_
  intro p e s m args below meth c s₁ B hml hv
  have htb : c.exceptionTable.toList = tableOf [(0, 18, 21, 25), (0, 18, 25, 13), (0, 18, 29, 46), (0, 18, 33, 15)] := vx_table (x := yL_time) B (atoms_spec (ws := zL_time_ws) B.pre _ List.mem_cons_self)
  obtain ⟨rfl, hsz, hP, hK, hD0, hz⟩ := hv
  have hx := B.exec
  have hb := B.bytes
  have hr := B.returns
  have hts := atoms_spec (ws := zL_time_ws) B.pre
  have hown : s.vm.findClass RL = some m.cls := findClass_of_methodNamed B.named
  have hlocks := B.notSynchronized
  subst hsz
  obtain ⟨A, hAe⟩ : ∃ A : Nat → Prop, A = (fun q : Nat => s.heap.size ≤ q) := ⟨_, rfl⟩
  rw [← hAe] at hz ⊢
  have hA : ∀ q : Nat, s.heap.size ≤ q → A q := fun q h => by rw [hAe]; exact h
  have hD := hD0
  have hS : va_S A s.heap s.heap [] := va_S.rf
  have hP : va_P D vwCl [(h0, .inr (17, zHS a))] s.heap := hP
  have hl := lv_entry ([.ref h0, .int x1, .int x2, .int x3, .int x4, .int x5, .int x6, .ref o]) (n := 9) (Nat.le_of_ble_eq_true rfl)
  rw [lg_entry_eq]
  generalize (lg_sl ([.ref h0, .int x1, .int x2, .int x3, .int x4, .int x5, .int x6, .ref o]) ++ List.replicate (9 - (lg_sl ([.ref h0, .int x1, .int x2, .int x3, .int x4, .int x5, .int x6, .ref o])).length) Slot.unset).toArray = ls at hl ⊢
  have hl : lv_has ls 9 [(0, .ref h0), (1, .int x1), (2, .int x2), (3, .int x3), (4, .int x4), (5, .int x5), (6, .int x6), (7, .ref o)] := hl
  refine lv_aload hx hb dL_time_0 (lv_at hl 7 rfl) ?_
  refine lv_iconst (v := 0) hx hb dL_time_2 (by decide) ?_
  refine lv_aload_n hx hb dL_time_3 rfl (lv_at hl 0 rfl) ?_
  refine lv_iload_n hx hb dL_time_4 rfl (lv_at hl 1 rfl) ?_
  refine lv_iload_n hx hb dL_time_5 rfl (lv_at hl 2 rfl) ?_
  refine lv_iload_n hx hb dL_time_6 rfl (lv_at hl 3 rfl) ?_
  refine lv_iload hx hb dL_time_7 (lv_at hl 4 rfl) ?_
  refine lv_iload hx hb dL_time_9 (lv_at hl 5 rfl) ?_
  refine lv_iload hx hb dL_time_11 (lv_at hl 6 rfl) ?_
  have hPc := hP.sub (ws' := [(h0, .inr (17, zHS a))]) [0] rfl
  have hDc := hD.sub (ws' := [(h0, .inr (17, zHS a))]) [0] (by decide) rfl
  have hKc := hK.sub (tys' := []) [] rfl
  have hFc : ∀ q : Nat, s.heap.size ≤ q → A q := fun q h => hA q (Nat.le_trans hS.1 h)
  refine vx_calli (vx_runV (As := [.int x1, .int x2, .int x3, .int x4, .int x5, .int x6]) (rest := [.int 0, .ref o]) ⟨hx, hb, hml, hown, hts⟩ (c_time l hst D s.heap.size h0 a x1 x2 x3 x4 x5 x6) (cwV 6 hts (goodIn_app (goodIn_of _ (by decide +kernel)) (goodIn_sub (fun _ h => List.mem_cons_of_mem _ (List.mem_append_right _ (List.mem_append_left _ h))) zX11_time_ws_good)) rfl rfl rfl (by decide +kernel) ⟨Nat.le_of_ble_eq_true rfl, Nat.le_of_ble_eq_true rfl⟩) ⟨zPre.blind, va_recv hKc hPc (ci := 17) (q0 := 0) rfl rfl, zPre.mk hPc hKc hDc hz hS (fun q h => hFc q h)⟩ rfl rfl hl.1 rfl (lv_room (Nat.le_of_ble_eq_true rfl)) dL_time_13 ⟨Nat.le_of_ble_eq_true rfl, Nat.le_of_ble_eq_true rfl⟩) hS (fun q _ h => hFc q h) (fun q h => hFc q h) (fun q _ h => hFc q h) (fun E9 ce q9 u t H1 locs ht9 hvm hpx hBX hz1 hk1 hS hcell hv9 hcl => ?_) (fun _ _ t H1 locs _ _ hw _ _ _ _ => hw.elim)
  · cases hBX
    refine vx_catch hown [] _ _ htb (fun z hz9 => nomatch hz9) (by decide) (by decide) (hts (.classLink RL 25 "java/lang/IndexOutOfBoundsException") (by decide +kernel)) (hz.w (.castable "java/lang/IndexOutOfBoundsException" "java/lang/IndexOutOfBoundsException") (by decide +kernel)) hcell hv9 hcl ?_
    refine W.eq (g2 := F0 m 21 ls [.ref q9]) rfl ?_
    refine lv_astore (lv' := [(8, .ref q9), (0, .ref h0), (1, .int x1), (2, .int x2), (3, .int x3), (4, .int x4), (5, .int x5), (6, .int x6), (7, .ref o)]) hx hb dL_time_21 hl (by decide) rfl (fun ls hl => ?_)
    refine lv_iconst (v := 1) hx hb dL_time_23 (by decide) ?_
    refine W.widen (k := 1) (n := 6) (by omega) (by omega) ?_
    refine vx_ret ?_
    exact W.iret (v := 1) hx hb hr (fun t ht9 hW => ⟨⟨1, (), rfl, rfl, trivial⟩, hS.F ht9⟩) hS.2.2 dL_time_24

def zL_react_ws : List Cond := .codeWith yL_react cL_react 7 (some .int) [(0, 21, 24, 25), (0, 21, 28, 13), (0, 21, 32, 46), (0, 21, 36, 15)] :: ([.methodLink RL 55 yX11_react, .instanceMethod yX11_react, .selects RX11 yX11_react yX11_react, .initialized RX11, .classLink RL 25 "java/lang/IndexOutOfBoundsException"] ++ (zX11_react_ws ++ ([])))
theorem zL_react_ws_good : zL_react_ws.all goodWord = true := by decide +kernel
set_option maxHeartbeats 4000000 in
set_option maxRecDepth 100000 in
/-- the law's react: 1 is thrown -/
theorem cl_react (l : Launch) (hst : l.stackTraces = false) (D : va_G) (sz : Nat) (h0 : Nat) (a : Nat → Nat) (x1 x2 x3 x4 : Int32) (o : Nat) : vx_Met l yL_react zL_react_ws (zR 4 1 6) (zPre [.ref h0, .int x1, .int x2, .int x3, .int x4, .ref o] D [(h0, .inr (17, zHS a))] [] (fun q : Nat => sz ≤ q) sz) (va_Qi (S := Unit) (fun r _ => r = 1) (fun _ _ => True) (fun q : Nat => sz ≤ q)) (vx_X (S := Unit) (fun _ => False) (fun _ _ _ => True) (fun q : Nat => sz ≤ q)) 1 6 (fun q : Nat => sz ≤ q) := by
  refine vx_ofWH (cc := cL_react) (maxL := 7) (ret := (some .int)) (by decide) rfl ?_
  intro p e s m args below meth c s₁ B hml hv
  have htb : c.exceptionTable.toList = tableOf [(0, 21, 24, 25), (0, 21, 28, 13), (0, 21, 32, 46), (0, 21, 36, 15)] := vx_table (x := yL_react) B (atoms_spec (ws := zL_react_ws) B.pre _ List.mem_cons_self)
  obtain ⟨rfl, hsz, hP, hK, hD0, hz⟩ := hv
  have hx := B.exec
  have hb := B.bytes
  have hr := B.returns
  have hts := atoms_spec (ws := zL_react_ws) B.pre
  have hown : s.vm.findClass RL = some m.cls := findClass_of_methodNamed B.named
  have hlocks := B.notSynchronized
  subst hsz
  obtain ⟨A, hAe⟩ : ∃ A : Nat → Prop, A = (fun q : Nat => s.heap.size ≤ q) := ⟨_, rfl⟩
  rw [← hAe] at hz ⊢
  have hA : ∀ q : Nat, s.heap.size ≤ q → A q := fun q h => by rw [hAe]; exact h
  have hD := hD0
  have hS : va_S A s.heap s.heap [] := va_S.rf
  have hP : va_P D vwCl [(h0, .inr (17, zHS a))] s.heap := hP
  have hl := lv_entry ([.ref h0, .int x1, .int x2, .int x3, .int x4, .ref o]) (n := 7) (Nat.le_of_ble_eq_true rfl)
  rw [lg_entry_eq]
  generalize (lg_sl ([.ref h0, .int x1, .int x2, .int x3, .int x4, .ref o]) ++ List.replicate (7 - (lg_sl ([.ref h0, .int x1, .int x2, .int x3, .int x4, .ref o])).length) Slot.unset).toArray = ls at hl ⊢
  have hl : lv_has ls 7 [(0, .ref h0), (1, .int x1), (2, .int x2), (3, .int x3), (4, .int x4), (5, .ref o)] := hl
  refine lv_aload hx hb dL_react_0 (lv_at hl 5 rfl) ?_
  refine lv_iconst (v := 0) hx hb dL_react_2 (by decide) ?_
  refine lv_aload_n hx hb dL_react_3 rfl (lv_at hl 0 rfl) ?_
  refine lv_iload_n hx hb dL_react_4 rfl (lv_at hl 1 rfl) ?_
  refine lv_iload_n hx hb dL_react_5 rfl (lv_at hl 2 rfl) ?_
  refine lv_iload_n hx hb dL_react_6 rfl (lv_at hl 3 rfl) ?_
  refine lv_iload hx hb dL_react_7 (lv_at hl 4 rfl) ?_
  have hPc := hP.sub (ws' := [(h0, .inr (17, zHS a))]) [0] rfl
  have hDc := hD.sub (ws' := [(h0, .inr (17, zHS a))]) [0] (by decide) rfl
  have hKc := hK.sub (tys' := []) [] rfl
  have hFc : ∀ q : Nat, s.heap.size ≤ q → A q := fun q h => hA q (Nat.le_trans hS.1 h)
  refine vx_calli (vx_runV (As := [.int x1, .int x2, .int x3, .int x4]) (rest := [.int 0, .ref o]) ⟨hx, hb, hml, hown, hts⟩ (c_react l hst D s.heap.size h0 a x1 x2 x3 x4) (cwV 4 hts (goodIn_app (goodIn_of _ (by decide +kernel)) (goodIn_sub (fun _ h => List.mem_cons_of_mem _ (List.mem_append_right _ (List.mem_append_left _ h))) zX11_react_ws_good)) rfl rfl rfl (by decide +kernel) ⟨Nat.le_of_ble_eq_true rfl, Nat.le_of_ble_eq_true rfl⟩) ⟨zPre.blind, va_recv hKc hPc (ci := 17) (q0 := 0) rfl rfl, zPre.mk hPc hKc hDc hz hS (fun q h => hFc q h)⟩ rfl rfl hl.1 rfl (lv_room (Nat.le_of_ble_eq_true rfl)) dL_react_9 ⟨Nat.le_of_ble_eq_true rfl, Nat.le_of_ble_eq_true rfl⟩) hS (fun q _ h => hFc q h) (fun q h => hFc q h) (fun q _ h => hFc q h) (fun E9 ce q9 u t H1 locs ht9 hvm hpx hBX hz1 hk1 hS hcell hv9 hcl => ?_) (fun _ _ t H1 locs _ _ hw _ _ _ _ => hw.elim)
  · cases hBX
    refine vx_catch hown [] _ _ htb (fun z hz9 => nomatch hz9) (by decide) (by decide) (hts (.classLink RL 25 "java/lang/IndexOutOfBoundsException") (by decide +kernel)) (hz.w (.castable "java/lang/IndexOutOfBoundsException" "java/lang/IndexOutOfBoundsException") (by decide +kernel)) hcell hv9 hcl ?_
    refine W.eq (g2 := F0 m 24 ls [.ref q9]) rfl ?_
    refine lv_astore (lv' := [(6, .ref q9), (0, .ref h0), (1, .int x1), (2, .int x2), (3, .int x3), (4, .int x4), (5, .ref o)]) hx hb dL_react_24 hl (by decide) rfl (fun ls hl => ?_)
    refine lv_iconst (v := 1) hx hb dL_react_26 (by decide) ?_
    refine W.widen (k := 1) (n := 6) (by omega) (by omega) ?_
    refine vx_ret ?_
    exact W.iret (v := 1) hx hb hr (fun t ht9 hW => ⟨⟨1, (), rfl, rfl, trivial⟩, hS.F ht9⟩) hS.2.2 dL_react_27

def zL_putOut_ws : List Cond := .codeWith yL_putOut cL_putOut 6 (some .int) [(0, 19, 22, 25), (0, 19, 26, 13), (0, 19, 30, 46), (0, 19, 34, 15)] :: ([.methodLink RL 59 yX11_putOut, .instanceMethod yX11_putOut, .selects RX11 yX11_putOut yX11_putOut, .initialized RX11, .classLink RL 25 "java/lang/IndexOutOfBoundsException"] ++ (zX11_putOut_ws ++ ([])))
theorem zL_putOut_ws_good : zL_putOut_ws.all goodWord = true := by decide +kernel
set_option maxHeartbeats 4000000 in
set_option maxRecDepth 100000 in
/-- the law's putOut: 1 is thrown -/
theorem cl_putOut (l : Launch) (hst : l.stackTraces = false) (D : va_G) (sz : Nat) (h0 : Nat) (a : Nat → Nat) (x1 x2 x3 : Int32) (o : Nat) : vx_Met l yL_putOut zL_putOut_ws (zR 4 1 6) (zPre [.ref h0, .int x1, .int x2, .int x3, .ref o] D [(h0, .inr (17, zHS a))] [] (fun q : Nat => sz ≤ q) sz) (va_Qi (S := Unit) (fun r _ => r = 1) (fun _ _ => True) (fun q : Nat => sz ≤ q)) (vx_X (S := Unit) (fun _ => False) (fun _ _ _ => True) (fun q : Nat => sz ≤ q)) 1 6 (fun q : Nat => sz ≤ q) := by
  refine vx_ofWH (cc := cL_putOut) (maxL := 6) (ret := (some .int)) (by decide) rfl ?_
  intro p e s m args below meth c s₁ B hml hv
  have htb : c.exceptionTable.toList = tableOf [(0, 19, 22, 25), (0, 19, 26, 13), (0, 19, 30, 46), (0, 19, 34, 15)] := vx_table (x := yL_putOut) B (atoms_spec (ws := zL_putOut_ws) B.pre _ List.mem_cons_self)
  obtain ⟨rfl, hsz, hP, hK, hD0, hz⟩ := hv
  have hx := B.exec
  have hb := B.bytes
  have hr := B.returns
  have hts := atoms_spec (ws := zL_putOut_ws) B.pre
  have hown : s.vm.findClass RL = some m.cls := findClass_of_methodNamed B.named
  have hlocks := B.notSynchronized
  subst hsz
  obtain ⟨A, hAe⟩ : ∃ A : Nat → Prop, A = (fun q : Nat => s.heap.size ≤ q) := ⟨_, rfl⟩
  rw [← hAe] at hz ⊢
  have hA : ∀ q : Nat, s.heap.size ≤ q → A q := fun q h => by rw [hAe]; exact h
  have hD := hD0
  have hS : va_S A s.heap s.heap [] := va_S.rf
  have hP : va_P D vwCl [(h0, .inr (17, zHS a))] s.heap := hP
  have hl := lv_entry ([.ref h0, .int x1, .int x2, .int x3, .ref o]) (n := 6) (Nat.le_of_ble_eq_true rfl)
  rw [lg_entry_eq]
  generalize (lg_sl ([.ref h0, .int x1, .int x2, .int x3, .ref o]) ++ List.replicate (6 - (lg_sl ([.ref h0, .int x1, .int x2, .int x3, .ref o])).length) Slot.unset).toArray = ls at hl ⊢
  have hl : lv_has ls 6 [(0, .ref h0), (1, .int x1), (2, .int x2), (3, .int x3), (4, .ref o)] := hl
  refine lv_aload hx hb dL_putOut_0 (lv_at hl 4 rfl) ?_
  refine lv_iconst (v := 0) hx hb dL_putOut_2 (by decide) ?_
  refine lv_aload_n hx hb dL_putOut_3 rfl (lv_at hl 0 rfl) ?_
  refine lv_iload_n hx hb dL_putOut_4 rfl (lv_at hl 1 rfl) ?_
  refine lv_iload_n hx hb dL_putOut_5 rfl (lv_at hl 2 rfl) ?_
  refine lv_iload_n hx hb dL_putOut_6 rfl (lv_at hl 3 rfl) ?_
  have hPc := hP.sub (ws' := [(h0, .inr (17, zHS a))]) [0] rfl
  have hDc := hD.sub (ws' := [(h0, .inr (17, zHS a))]) [0] (by decide) rfl
  have hKc := hK.sub (tys' := []) [] rfl
  have hFc : ∀ q : Nat, s.heap.size ≤ q → A q := fun q h => hA q (Nat.le_trans hS.1 h)
  refine vx_calli (vx_runV (As := [.int x1, .int x2, .int x3]) (rest := [.int 0, .ref o]) ⟨hx, hb, hml, hown, hts⟩ (c_putOut l hst D s.heap.size h0 a x1 x2 x3) (cwV 3 hts (goodIn_app (goodIn_of _ (by decide +kernel)) (goodIn_sub (fun _ h => List.mem_cons_of_mem _ (List.mem_append_right _ (List.mem_append_left _ h))) zX11_putOut_ws_good)) rfl rfl rfl (by decide +kernel) ⟨Nat.le_of_ble_eq_true rfl, Nat.le_of_ble_eq_true rfl⟩) ⟨zPre.blind, va_recv hKc hPc (ci := 17) (q0 := 0) rfl rfl, zPre.mk hPc hKc hDc hz hS (fun q h => hFc q h)⟩ rfl rfl hl.1 rfl (lv_room (Nat.le_of_ble_eq_true rfl)) dL_putOut_7 ⟨Nat.le_of_ble_eq_true rfl, Nat.le_of_ble_eq_true rfl⟩) hS (fun q _ h => hFc q h) (fun q h => hFc q h) (fun q _ h => hFc q h) (fun E9 ce q9 u t H1 locs ht9 hvm hpx hBX hz1 hk1 hS hcell hv9 hcl => ?_) (fun _ _ t H1 locs _ _ hw _ _ _ _ => hw.elim)
  · cases hBX
    refine vx_catch hown [] _ _ htb (fun z hz9 => nomatch hz9) (by decide) (by decide) (hts (.classLink RL 25 "java/lang/IndexOutOfBoundsException") (by decide +kernel)) (hz.w (.castable "java/lang/IndexOutOfBoundsException" "java/lang/IndexOutOfBoundsException") (by decide +kernel)) hcell hv9 hcl ?_
    refine W.eq (g2 := F0 m 22 ls [.ref q9]) rfl ?_
    refine lv_astore (lv' := [(5, .ref q9), (0, .ref h0), (1, .int x1), (2, .int x2), (3, .int x3), (4, .ref o)]) hx hb dL_putOut_22 hl (by decide) rfl (fun ls hl => ?_)
    refine lv_iconst (v := 1) hx hb dL_putOut_24 (by decide) ?_
    refine W.widen (k := 1) (n := 6) (by omega) (by omega) ?_
    refine vx_ret ?_
    exact W.iret (v := 1) hx hb hr (fun t ht9 hW => ⟨⟨1, (), rfl, rfl, trivial⟩, hS.F ht9⟩) hS.2.2 dL_putOut_25

def zL_isOut_ws : List Cond := .codeWith yL_isOut cL_isOut 6 (some .int) [(0, 19, 22, 25), (0, 19, 26, 13), (0, 19, 30, 46)] :: ([.methodLink RL 63 yX11_isOut, .instanceMethod yX11_isOut, .selects RX11 yX11_isOut yX11_isOut, .initialized RX11, .classLink RL 25 "java/lang/IndexOutOfBoundsException"] ++ (zX11_isOut_ws ++ ([])))
theorem zL_isOut_ws_good : zL_isOut_ws.all goodWord = true := by decide +kernel
set_option maxHeartbeats 4000000 in
set_option maxRecDepth 100000 in
/-- the law's isOut: 1 is thrown -/
theorem cl_isOut (l : Launch) (hst : l.stackTraces = false) (D : va_G) (sz : Nat) (h0 : Nat) (a : Nat → Nat) (x1 x2 x3 : Int32) (o : Nat) : vx_Met l yL_isOut zL_isOut_ws (zR 4 1 6) (zPre [.ref h0, .int x1, .int x2, .int x3, .ref o] D [(h0, .inr (17, zHS a))] [] (fun q : Nat => sz ≤ q) sz) (va_Qi (S := Unit) (fun r _ => r = 1) (fun _ _ => True) (fun q : Nat => sz ≤ q)) (vx_X (S := Unit) (fun _ => False) (fun _ _ _ => True) (fun q : Nat => sz ≤ q)) 1 6 (fun q : Nat => sz ≤ q) := by
  refine vx_ofWH (cc := cL_isOut) (maxL := 6) (ret := (some .int)) (by decide) rfl ?_
  intro p e s m args below meth c s₁ B hml hv
  have htb : c.exceptionTable.toList = tableOf [(0, 19, 22, 25), (0, 19, 26, 13), (0, 19, 30, 46)] := vx_table (x := yL_isOut) B (atoms_spec (ws := zL_isOut_ws) B.pre _ List.mem_cons_self)
  obtain ⟨rfl, hsz, hP, hK, hD0, hz⟩ := hv
  have hx := B.exec
  have hb := B.bytes
  have hr := B.returns
  have hts := atoms_spec (ws := zL_isOut_ws) B.pre
  have hown : s.vm.findClass RL = some m.cls := findClass_of_methodNamed B.named
  have hlocks := B.notSynchronized
  subst hsz
  obtain ⟨A, hAe⟩ : ∃ A : Nat → Prop, A = (fun q : Nat => s.heap.size ≤ q) := ⟨_, rfl⟩
  rw [← hAe] at hz ⊢
  have hA : ∀ q : Nat, s.heap.size ≤ q → A q := fun q h => by rw [hAe]; exact h
  have hD := hD0
  have hS : va_S A s.heap s.heap [] := va_S.rf
  have hP : va_P D vwCl [(h0, .inr (17, zHS a))] s.heap := hP
  have hl := lv_entry ([.ref h0, .int x1, .int x2, .int x3, .ref o]) (n := 6) (Nat.le_of_ble_eq_true rfl)
  rw [lg_entry_eq]
  generalize (lg_sl ([.ref h0, .int x1, .int x2, .int x3, .ref o]) ++ List.replicate (6 - (lg_sl ([.ref h0, .int x1, .int x2, .int x3, .ref o])).length) Slot.unset).toArray = ls at hl ⊢
  have hl : lv_has ls 6 [(0, .ref h0), (1, .int x1), (2, .int x2), (3, .int x3), (4, .ref o)] := hl
  refine lv_aload hx hb dL_isOut_0 (lv_at hl 4 rfl) ?_
  refine lv_iconst (v := 0) hx hb dL_isOut_2 (by decide) ?_
  refine lv_aload_n hx hb dL_isOut_3 rfl (lv_at hl 0 rfl) ?_
  refine lv_iload_n hx hb dL_isOut_4 rfl (lv_at hl 1 rfl) ?_
  refine lv_iload_n hx hb dL_isOut_5 rfl (lv_at hl 2 rfl) ?_
  refine lv_iload_n hx hb dL_isOut_6 rfl (lv_at hl 3 rfl) ?_
  have hPc := hP.sub (ws' := [(h0, .inr (17, zHS a))]) [0] rfl
  have hDc := hD.sub (ws' := [(h0, .inr (17, zHS a))]) [0] (by decide) rfl
  have hKc := hK.sub (tys' := []) [] rfl
  have hFc : ∀ q : Nat, s.heap.size ≤ q → A q := fun q h => hA q (Nat.le_trans hS.1 h)
  refine vx_calli (vx_runV (As := [.int x1, .int x2, .int x3]) (rest := [.int 0, .ref o]) ⟨hx, hb, hml, hown, hts⟩ (c_isOut l hst D s.heap.size h0 a x1 x2 x3) (cwV 3 hts (goodIn_app (goodIn_of _ (by decide +kernel)) (goodIn_sub (fun _ h => List.mem_cons_of_mem _ (List.mem_append_right _ (List.mem_append_left _ h))) zX11_isOut_ws_good)) rfl rfl rfl (by decide +kernel) ⟨Nat.le_of_ble_eq_true rfl, Nat.le_of_ble_eq_true rfl⟩) ⟨zPre.blind, va_recv hKc hPc (ci := 17) (q0 := 0) rfl rfl, zPre.mk hPc hKc hDc hz hS (fun q h => hFc q h)⟩ rfl rfl hl.1 rfl (lv_room (Nat.le_of_ble_eq_true rfl)) dL_isOut_7 ⟨Nat.le_of_ble_eq_true rfl, Nat.le_of_ble_eq_true rfl⟩) hS (fun q _ h => hFc q h) (fun q h => hFc q h) (fun q _ h => hFc q h) (fun E9 ce q9 u t H1 locs ht9 hvm hpx hBX hz1 hk1 hS hcell hv9 hcl => ?_) (fun _ _ t H1 locs _ _ hw _ _ _ _ => hw.elim)
  · cases hBX
    refine vx_catch hown [] _ _ htb (fun z hz9 => nomatch hz9) (by decide) (by decide) (hts (.classLink RL 25 "java/lang/IndexOutOfBoundsException") (by decide +kernel)) (hz.w (.castable "java/lang/IndexOutOfBoundsException" "java/lang/IndexOutOfBoundsException") (by decide +kernel)) hcell hv9 hcl ?_
    refine W.eq (g2 := F0 m 22 ls [.ref q9]) rfl ?_
    refine lv_astore (lv' := [(5, .ref q9), (0, .ref h0), (1, .int x1), (2, .int x2), (3, .int x3), (4, .ref o)]) hx hb dL_isOut_22 hl (by decide) rfl (fun ls hl => ?_)
    refine lv_iconst (v := 1) hx hb dL_isOut_24 (by decide) ?_
    refine W.widen (k := 1) (n := 6) (by omega) (by omega) ?_
    refine vx_ret ?_
    exact W.iret (v := 1) hx hb hr (fun t ht9 hW => ⟨⟨1, (), rfl, rfl, trivial⟩, hS.F ht9⟩) hS.2.2 dL_isOut_25

def zL_inFinal_ws : List Cond := .codeWith yL_inFinal cL_inFinal 5 (some .int) [(0, 10, 13, 25), (0, 10, 17, 46), (0, 10, 21, 31)] :: ([.methodLink RL 66 yX11_inFinal, .instanceMethod yX11_inFinal, .selects RX11 yX11_inFinal yX11_inFinal, .initialized RX11, .classLink RL 25 "java/lang/IndexOutOfBoundsException"] ++ (zX11_inFinal_ws ++ ([])))
theorem zL_inFinal_ws_good : zL_inFinal_ws.all goodWord = true := by decide +kernel
set_option maxHeartbeats 4000000 in
set_option maxRecDepth 100000 in
/-- the law's inFinal: 1 is thrown -/
theorem cl_inFinal (l : Launch) (hst : l.stackTraces = false) (D : va_G) (sz : Nat) (h0 : Nat) (a : Nat → Nat) (x1 x2 : Int32) (o : Nat) : vx_Met l yL_inFinal zL_inFinal_ws (zR 4 1 6) (zPre [.ref h0, .int x1, .int x2, .ref o] D [(h0, .inr (17, zHS a))] [] (fun q : Nat => sz ≤ q) sz) (va_Qi (S := Unit) (fun r _ => r = 1) (fun _ _ => True) (fun q : Nat => sz ≤ q)) (vx_X (S := Unit) (fun _ => False) (fun _ _ _ => True) (fun q : Nat => sz ≤ q)) 1 6 (fun q : Nat => sz ≤ q) := by
  refine vx_ofWH (cc := cL_inFinal) (maxL := 5) (ret := (some .int)) (by decide) rfl ?_
  intro p e s m args below meth c s₁ B hml hv
  have htb : c.exceptionTable.toList = tableOf [(0, 10, 13, 25), (0, 10, 17, 46), (0, 10, 21, 31)] := vx_table (x := yL_inFinal) B (atoms_spec (ws := zL_inFinal_ws) B.pre _ List.mem_cons_self)
  obtain ⟨rfl, hsz, hP, hK, hD0, hz⟩ := hv
  have hx := B.exec
  have hb := B.bytes
  have hr := B.returns
  have hts := atoms_spec (ws := zL_inFinal_ws) B.pre
  have hown : s.vm.findClass RL = some m.cls := findClass_of_methodNamed B.named
  have hlocks := B.notSynchronized
  subst hsz
  obtain ⟨A, hAe⟩ : ∃ A : Nat → Prop, A = (fun q : Nat => s.heap.size ≤ q) := ⟨_, rfl⟩
  rw [← hAe] at hz ⊢
  have hA : ∀ q : Nat, s.heap.size ≤ q → A q := fun q h => by rw [hAe]; exact h
  have hD := hD0
  have hS : va_S A s.heap s.heap [] := va_S.rf
  have hP : va_P D vwCl [(h0, .inr (17, zHS a))] s.heap := hP
  have hl := lv_entry ([.ref h0, .int x1, .int x2, .ref o]) (n := 5) (Nat.le_of_ble_eq_true rfl)
  rw [lg_entry_eq]
  generalize (lg_sl ([.ref h0, .int x1, .int x2, .ref o]) ++ List.replicate (5 - (lg_sl ([.ref h0, .int x1, .int x2, .ref o])).length) Slot.unset).toArray = ls at hl ⊢
  have hl : lv_has ls 5 [(0, .ref h0), (1, .int x1), (2, .int x2), (3, .ref o)] := hl
  refine lv_aload_n hx hb dL_inFinal_0 rfl (lv_at hl 3 rfl) ?_
  refine lv_iconst (v := 0) hx hb dL_inFinal_1 (by decide) ?_
  refine lv_aload_n hx hb dL_inFinal_2 rfl (lv_at hl 0 rfl) ?_
  refine lv_iload_n hx hb dL_inFinal_3 rfl (lv_at hl 1 rfl) ?_
  refine lv_iload_n hx hb dL_inFinal_4 rfl (lv_at hl 2 rfl) ?_
  have hPc := hP.sub (ws' := [(h0, .inr (17, zHS a))]) [0] rfl
  have hDc := hD.sub (ws' := [(h0, .inr (17, zHS a))]) [0] (by decide) rfl
  have hKc := hK.sub (tys' := []) [] rfl
  have hFc : ∀ q : Nat, s.heap.size ≤ q → A q := fun q h => hA q (Nat.le_trans hS.1 h)
  refine vx_calli (vx_runV (As := [.int x1, .int x2]) (rest := [.int 0, .ref o]) ⟨hx, hb, hml, hown, hts⟩ (c_inFinal l hst D s.heap.size h0 a x1 x2) (cwV 2 hts (goodIn_app (goodIn_of _ (by decide +kernel)) (goodIn_sub (fun _ h => List.mem_cons_of_mem _ (List.mem_append_right _ (List.mem_append_left _ h))) zX11_inFinal_ws_good)) rfl rfl rfl (by decide +kernel) ⟨Nat.le_of_ble_eq_true rfl, Nat.le_of_ble_eq_true rfl⟩) ⟨zPre.blind, va_recv hKc hPc (ci := 17) (q0 := 0) rfl rfl, zPre.mk hPc hKc hDc hz hS (fun q h => hFc q h)⟩ rfl rfl hl.1 rfl (lv_room (Nat.le_of_ble_eq_true rfl)) dL_inFinal_5 ⟨Nat.le_of_ble_eq_true rfl, Nat.le_of_ble_eq_true rfl⟩) hS (fun q _ h => hFc q h) (fun q h => hFc q h) (fun q _ h => hFc q h) (fun E9 ce q9 u t H1 locs ht9 hvm hpx hBX hz1 hk1 hS hcell hv9 hcl => ?_) (fun _ _ t H1 locs _ _ hw _ _ _ _ => hw.elim)
  · cases hBX
    refine vx_catch hown [] _ _ htb (fun z hz9 => nomatch hz9) (by decide) (by decide) (hts (.classLink RL 25 "java/lang/IndexOutOfBoundsException") (by decide +kernel)) (hz.w (.castable "java/lang/IndexOutOfBoundsException" "java/lang/IndexOutOfBoundsException") (by decide +kernel)) hcell hv9 hcl ?_
    refine W.eq (g2 := F0 m 13 ls [.ref q9]) rfl ?_
    refine lv_astore (lv' := [(4, .ref q9), (0, .ref h0), (1, .int x1), (2, .int x2), (3, .ref o)]) hx hb dL_inFinal_13 hl (by decide) rfl (fun ls hl => ?_)
    refine lv_iconst (v := 1) hx hb dL_inFinal_15 (by decide) ?_
    refine W.widen (k := 1) (n := 6) (by omega) (by omega) ?_
    refine vx_ret ?_
    exact W.iret (v := 1) hx hb hr (fun t ht9 hW => ⟨⟨1, (), rfl, rfl, trivial⟩, hS.F ht9⟩) hS.2.2 dL_inFinal_16

def zL_bar_ws : List Cond := .codeWith yL_bar cL_bar 5 (some .int) [(0, 10, 13, 25), (0, 10, 17, 13), (0, 10, 21, 46), (0, 10, 25, 15)] :: ([.methodLink RL 69 yX11_bar, .instanceMethod yX11_bar, .selects RX11 yX11_bar yX11_bar, .initialized RX11, .classLink RL 25 "java/lang/IndexOutOfBoundsException"] ++ (zX11_bar_ws ++ ([])))
theorem zL_bar_ws_good : zL_bar_ws.all goodWord = true := by decide +kernel
set_option maxHeartbeats 4000000 in
set_option maxRecDepth 100000 in
/-- the law's bar: 1 is thrown -/
theorem cl_bar (l : Launch) (hst : l.stackTraces = false) (D : va_G) (sz : Nat) (h0 : Nat) (a : Nat → Nat) (x1 x2 : Int32) (o : Nat) : vx_Met l yL_bar zL_bar_ws (zR 4 1 6) (zPre [.ref h0, .int x1, .int x2, .ref o] D [(h0, .inr (17, zHS a))] [] (fun q : Nat => sz ≤ q) sz) (va_Qi (S := Unit) (fun r _ => r = 1) (fun _ _ => True) (fun q : Nat => sz ≤ q)) (vx_X (S := Unit) (fun _ => False) (fun _ _ _ => True) (fun q : Nat => sz ≤ q)) 1 6 (fun q : Nat => sz ≤ q) := by
  refine vx_ofWH (cc := cL_bar) (maxL := 5) (ret := (some .int)) (by decide) rfl ?_
  intro p e s m args below meth c s₁ B hml hv
  have htb : c.exceptionTable.toList = tableOf [(0, 10, 13, 25), (0, 10, 17, 13), (0, 10, 21, 46), (0, 10, 25, 15)] := vx_table (x := yL_bar) B (atoms_spec (ws := zL_bar_ws) B.pre _ List.mem_cons_self)
  obtain ⟨rfl, hsz, hP, hK, hD0, hz⟩ := hv
  have hx := B.exec
  have hb := B.bytes
  have hr := B.returns
  have hts := atoms_spec (ws := zL_bar_ws) B.pre
  have hown : s.vm.findClass RL = some m.cls := findClass_of_methodNamed B.named
  have hlocks := B.notSynchronized
  subst hsz
  obtain ⟨A, hAe⟩ : ∃ A : Nat → Prop, A = (fun q : Nat => s.heap.size ≤ q) := ⟨_, rfl⟩
  rw [← hAe] at hz ⊢
  have hA : ∀ q : Nat, s.heap.size ≤ q → A q := fun q h => by rw [hAe]; exact h
  have hD := hD0
  have hS : va_S A s.heap s.heap [] := va_S.rf
  have hP : va_P D vwCl [(h0, .inr (17, zHS a))] s.heap := hP
  have hl := lv_entry ([.ref h0, .int x1, .int x2, .ref o]) (n := 5) (Nat.le_of_ble_eq_true rfl)
  rw [lg_entry_eq]
  generalize (lg_sl ([.ref h0, .int x1, .int x2, .ref o]) ++ List.replicate (5 - (lg_sl ([.ref h0, .int x1, .int x2, .ref o])).length) Slot.unset).toArray = ls at hl ⊢
  have hl : lv_has ls 5 [(0, .ref h0), (1, .int x1), (2, .int x2), (3, .ref o)] := hl
  refine lv_aload_n hx hb dL_bar_0 rfl (lv_at hl 3 rfl) ?_
  refine lv_iconst (v := 0) hx hb dL_bar_1 (by decide) ?_
  refine lv_aload_n hx hb dL_bar_2 rfl (lv_at hl 0 rfl) ?_
  refine lv_iload_n hx hb dL_bar_3 rfl (lv_at hl 1 rfl) ?_
  refine lv_iload_n hx hb dL_bar_4 rfl (lv_at hl 2 rfl) ?_
  have hPc := hP.sub (ws' := [(h0, .inr (17, zHS a))]) [0] rfl
  have hDc := hD.sub (ws' := [(h0, .inr (17, zHS a))]) [0] (by decide) rfl
  have hKc := hK.sub (tys' := []) [] rfl
  have hFc : ∀ q : Nat, s.heap.size ≤ q → A q := fun q h => hA q (Nat.le_trans hS.1 h)
  refine vx_calli (vx_runV (As := [.int x1, .int x2]) (rest := [.int 0, .ref o]) ⟨hx, hb, hml, hown, hts⟩ (c_bar l hst D s.heap.size h0 a x1 x2) (cwV 2 hts (goodIn_app (goodIn_of _ (by decide +kernel)) (goodIn_sub (fun _ h => List.mem_cons_of_mem _ (List.mem_append_right _ (List.mem_append_left _ h))) zX11_bar_ws_good)) rfl rfl rfl (by decide +kernel) ⟨Nat.le_of_ble_eq_true rfl, Nat.le_of_ble_eq_true rfl⟩) ⟨zPre.blind, va_recv hKc hPc (ci := 17) (q0 := 0) rfl rfl, zPre.mk hPc hKc hDc hz hS (fun q h => hFc q h)⟩ rfl rfl hl.1 rfl (lv_room (Nat.le_of_ble_eq_true rfl)) dL_bar_5 ⟨Nat.le_of_ble_eq_true rfl, Nat.le_of_ble_eq_true rfl⟩) hS (fun q _ h => hFc q h) (fun q h => hFc q h) (fun q _ h => hFc q h) (fun E9 ce q9 u t H1 locs ht9 hvm hpx hBX hz1 hk1 hS hcell hv9 hcl => ?_) (fun _ _ t H1 locs _ _ hw _ _ _ _ => hw.elim)
  · cases hBX
    refine vx_catch hown [] _ _ htb (fun z hz9 => nomatch hz9) (by decide) (by decide) (hts (.classLink RL 25 "java/lang/IndexOutOfBoundsException") (by decide +kernel)) (hz.w (.castable "java/lang/IndexOutOfBoundsException" "java/lang/IndexOutOfBoundsException") (by decide +kernel)) hcell hv9 hcl ?_
    refine W.eq (g2 := F0 m 13 ls [.ref q9]) rfl ?_
    refine lv_astore (lv' := [(4, .ref q9), (0, .ref h0), (1, .int x1), (2, .int x2), (3, .ref o)]) hx hb dL_bar_13 hl (by decide) rfl (fun ls hl => ?_)
    refine lv_iconst (v := 1) hx hb dL_bar_15 (by decide) ?_
    refine W.widen (k := 1) (n := 6) (by omega) (by omega) ?_
    refine vx_ret ?_
    exact W.iret (v := 1) hx hb hr (fun t ht9 hW => ⟨⟨1, (), rfl, rfl, trivial⟩, hS.F ht9⟩) hS.2.2 dL_bar_16

def zL_jump_ws : List Cond := .codeWith yL_jump cL_jump 6 (some .int) [(0, 12, 15, 25), (0, 12, 19, 13), (0, 12, 23, 46), (0, 12, 27, 15)] :: ([.methodLink RL 72 yX11_jump, .instanceMethod yX11_jump, .selects RX11 yX11_jump yX11_jump, .initialized RX11, .classLink RL 25 "java/lang/IndexOutOfBoundsException"] ++ (zX11_jump_ws ++ ([])))
theorem zL_jump_ws_good : zL_jump_ws.all goodWord = true := by decide +kernel
set_option maxHeartbeats 4000000 in
set_option maxRecDepth 100000 in
/-- the law's jump: 1 is thrown -/
theorem cl_jump (l : Launch) (hst : l.stackTraces = false) (D : va_G) (sz : Nat) (h0 : Nat) (a : Nat → Nat) (x1 x2 x3 : Int32) (o : Nat) : vx_Met l yL_jump zL_jump_ws (zR 4 1 6) (zPre [.ref h0, .int x1, .int x2, .int x3, .ref o] D [(h0, .inr (17, zHS a))] [] (fun q : Nat => sz ≤ q) sz) (va_Qi (S := Unit) (fun r _ => r = 1) (fun _ _ => True) (fun q : Nat => sz ≤ q)) (vx_X (S := Unit) (fun _ => False) (fun _ _ _ => True) (fun q : Nat => sz ≤ q)) 1 6 (fun q : Nat => sz ≤ q) := by
  refine vx_ofWH (cc := cL_jump) (maxL := 6) (ret := (some .int)) (by decide) rfl ?_
  intro p e s m args below meth c s₁ B hml hv
  have htb : c.exceptionTable.toList = tableOf [(0, 12, 15, 25), (0, 12, 19, 13), (0, 12, 23, 46), (0, 12, 27, 15)] := vx_table (x := yL_jump) B (atoms_spec (ws := zL_jump_ws) B.pre _ List.mem_cons_self)
  obtain ⟨rfl, hsz, hP, hK, hD0, hz⟩ := hv
  have hx := B.exec
  have hb := B.bytes
  have hr := B.returns
  have hts := atoms_spec (ws := zL_jump_ws) B.pre
  have hown : s.vm.findClass RL = some m.cls := findClass_of_methodNamed B.named
  have hlocks := B.notSynchronized
  subst hsz
  obtain ⟨A, hAe⟩ : ∃ A : Nat → Prop, A = (fun q : Nat => s.heap.size ≤ q) := ⟨_, rfl⟩
  rw [← hAe] at hz ⊢
  have hA : ∀ q : Nat, s.heap.size ≤ q → A q := fun q h => by rw [hAe]; exact h
  have hD := hD0
  have hS : va_S A s.heap s.heap [] := va_S.rf
  have hP : va_P D vwCl [(h0, .inr (17, zHS a))] s.heap := hP
  have hl := lv_entry ([.ref h0, .int x1, .int x2, .int x3, .ref o]) (n := 6) (Nat.le_of_ble_eq_true rfl)
  rw [lg_entry_eq]
  generalize (lg_sl ([.ref h0, .int x1, .int x2, .int x3, .ref o]) ++ List.replicate (6 - (lg_sl ([.ref h0, .int x1, .int x2, .int x3, .ref o])).length) Slot.unset).toArray = ls at hl ⊢
  have hl : lv_has ls 6 [(0, .ref h0), (1, .int x1), (2, .int x2), (3, .int x3), (4, .ref o)] := hl
  refine lv_aload hx hb dL_jump_0 (lv_at hl 4 rfl) ?_
  refine lv_iconst (v := 0) hx hb dL_jump_2 (by decide) ?_
  refine lv_aload_n hx hb dL_jump_3 rfl (lv_at hl 0 rfl) ?_
  refine lv_iload_n hx hb dL_jump_4 rfl (lv_at hl 1 rfl) ?_
  refine lv_iload_n hx hb dL_jump_5 rfl (lv_at hl 2 rfl) ?_
  refine lv_iload_n hx hb dL_jump_6 rfl (lv_at hl 3 rfl) ?_
  have hPc := hP.sub (ws' := [(h0, .inr (17, zHS a))]) [0] rfl
  have hDc := hD.sub (ws' := [(h0, .inr (17, zHS a))]) [0] (by decide) rfl
  have hKc := hK.sub (tys' := []) [] rfl
  have hFc : ∀ q : Nat, s.heap.size ≤ q → A q := fun q h => hA q (Nat.le_trans hS.1 h)
  refine vx_calli (vx_runV (As := [.int x1, .int x2, .int x3]) (rest := [.int 0, .ref o]) ⟨hx, hb, hml, hown, hts⟩ (c_jump l hst D s.heap.size h0 a x1 x2 x3) (cwV 3 hts (goodIn_app (goodIn_of _ (by decide +kernel)) (goodIn_sub (fun _ h => List.mem_cons_of_mem _ (List.mem_append_right _ (List.mem_append_left _ h))) zX11_jump_ws_good)) rfl rfl rfl (by decide +kernel) ⟨Nat.le_of_ble_eq_true rfl, Nat.le_of_ble_eq_true rfl⟩) ⟨zPre.blind, va_recv hKc hPc (ci := 17) (q0 := 0) rfl rfl, zPre.mk hPc hKc hDc hz hS (fun q h => hFc q h)⟩ rfl rfl hl.1 rfl (lv_room (Nat.le_of_ble_eq_true rfl)) dL_jump_7 ⟨Nat.le_of_ble_eq_true rfl, Nat.le_of_ble_eq_true rfl⟩) hS (fun q _ h => hFc q h) (fun q h => hFc q h) (fun q _ h => hFc q h) (fun E9 ce q9 u t H1 locs ht9 hvm hpx hBX hz1 hk1 hS hcell hv9 hcl => ?_) (fun _ _ t H1 locs _ _ hw _ _ _ _ => hw.elim)
  · cases hBX
    refine vx_catch hown [] _ _ htb (fun z hz9 => nomatch hz9) (by decide) (by decide) (hts (.classLink RL 25 "java/lang/IndexOutOfBoundsException") (by decide +kernel)) (hz.w (.castable "java/lang/IndexOutOfBoundsException" "java/lang/IndexOutOfBoundsException") (by decide +kernel)) hcell hv9 hcl ?_
    refine W.eq (g2 := F0 m 15 ls [.ref q9]) rfl ?_
    refine lv_astore (lv' := [(5, .ref q9), (0, .ref h0), (1, .int x1), (2, .int x2), (3, .int x3), (4, .ref o)]) hx hb dL_jump_15 hl (by decide) rfl (fun ls hl => ?_)
    refine lv_iconst (v := 1) hx hb dL_jump_17 (by decide) ?_
    refine W.widen (k := 1) (n := 6) (by omega) (by omega) ?_
    refine vx_ret ?_
    exact W.iret (v := 1) hx hb hr (fun t ht9 hW => ⟨⟨1, (), rfl, rfl, trivial⟩, hS.F ht9⟩) hS.2.2 dL_jump_18

def zL_put_ws : List Cond := .codeWith yL_put cL_put 6 (some .int) [(0, 12, 15, 25), (0, 12, 19, 13), (0, 12, 23, 46), (0, 12, 27, 15)] :: ([.methodLink RL 76 yX11_put, .instanceMethod yX11_put, .selects RX11 yX11_put yX11_put, .initialized RX11, .classLink RL 25 "java/lang/IndexOutOfBoundsException"] ++ (zX11_put_ws ++ ([])))
theorem zL_put_ws_good : zL_put_ws.all goodWord = true := by decide +kernel
set_option maxHeartbeats 4000000 in
set_option maxRecDepth 100000 in
/-- the law's put: 1 is thrown -/
theorem cl_put (l : Launch) (hst : l.stackTraces = false) (D : va_G) (sz : Nat) (h0 : Nat) (a : Nat → Nat) (x1 x2 x3 : Int32) (o : Nat) : vx_Met l yL_put zL_put_ws (zR 4 1 6) (zPre [.ref h0, .int x1, .int x2, .int x3, .ref o] D [(h0, .inr (17, zHS a))] [] (fun q : Nat => sz ≤ q) sz) (va_Qi (S := Unit) (fun r _ => r = 1) (fun _ _ => True) (fun q : Nat => sz ≤ q)) (vx_X (S := Unit) (fun _ => False) (fun _ _ _ => True) (fun q : Nat => sz ≤ q)) 1 6 (fun q : Nat => sz ≤ q) := by
  refine vx_ofWH (cc := cL_put) (maxL := 6) (ret := (some .int)) (by decide) rfl ?_
  intro p e s m args below meth c s₁ B hml hv
  have htb : c.exceptionTable.toList = tableOf [(0, 12, 15, 25), (0, 12, 19, 13), (0, 12, 23, 46), (0, 12, 27, 15)] := vx_table (x := yL_put) B (atoms_spec (ws := zL_put_ws) B.pre _ List.mem_cons_self)
  obtain ⟨rfl, hsz, hP, hK, hD0, hz⟩ := hv
  have hx := B.exec
  have hb := B.bytes
  have hr := B.returns
  have hts := atoms_spec (ws := zL_put_ws) B.pre
  have hown : s.vm.findClass RL = some m.cls := findClass_of_methodNamed B.named
  have hlocks := B.notSynchronized
  subst hsz
  obtain ⟨A, hAe⟩ : ∃ A : Nat → Prop, A = (fun q : Nat => s.heap.size ≤ q) := ⟨_, rfl⟩
  rw [← hAe] at hz ⊢
  have hA : ∀ q : Nat, s.heap.size ≤ q → A q := fun q h => by rw [hAe]; exact h
  have hD := hD0
  have hS : va_S A s.heap s.heap [] := va_S.rf
  have hP : va_P D vwCl [(h0, .inr (17, zHS a))] s.heap := hP
  have hl := lv_entry ([.ref h0, .int x1, .int x2, .int x3, .ref o]) (n := 6) (Nat.le_of_ble_eq_true rfl)
  rw [lg_entry_eq]
  generalize (lg_sl ([.ref h0, .int x1, .int x2, .int x3, .ref o]) ++ List.replicate (6 - (lg_sl ([.ref h0, .int x1, .int x2, .int x3, .ref o])).length) Slot.unset).toArray = ls at hl ⊢
  have hl : lv_has ls 6 [(0, .ref h0), (1, .int x1), (2, .int x2), (3, .int x3), (4, .ref o)] := hl
  refine lv_aload hx hb dL_put_0 (lv_at hl 4 rfl) ?_
  refine lv_iconst (v := 0) hx hb dL_put_2 (by decide) ?_
  refine lv_aload_n hx hb dL_put_3 rfl (lv_at hl 0 rfl) ?_
  refine lv_iload_n hx hb dL_put_4 rfl (lv_at hl 1 rfl) ?_
  refine lv_iload_n hx hb dL_put_5 rfl (lv_at hl 2 rfl) ?_
  refine lv_iload_n hx hb dL_put_6 rfl (lv_at hl 3 rfl) ?_
  have hPc := hP.sub (ws' := [(h0, .inr (17, zHS a))]) [0] rfl
  have hDc := hD.sub (ws' := [(h0, .inr (17, zHS a))]) [0] (by decide) rfl
  have hKc := hK.sub (tys' := []) [] rfl
  have hFc : ∀ q : Nat, s.heap.size ≤ q → A q := fun q h => hA q (Nat.le_trans hS.1 h)
  refine vx_calli (vx_runV (As := [.int x1, .int x2, .int x3]) (rest := [.int 0, .ref o]) ⟨hx, hb, hml, hown, hts⟩ (c_put l hst D s.heap.size h0 a x1 x2 x3) (cwV 3 hts (goodIn_app (goodIn_of _ (by decide +kernel)) (goodIn_sub (fun _ h => List.mem_cons_of_mem _ (List.mem_append_right _ (List.mem_append_left _ h))) zX11_put_ws_good)) rfl rfl rfl (by decide +kernel) ⟨Nat.le_of_ble_eq_true rfl, Nat.le_of_ble_eq_true rfl⟩) ⟨zPre.blind, va_recv hKc hPc (ci := 17) (q0 := 0) rfl rfl, zPre.mk hPc hKc hDc hz hS (fun q h => hFc q h)⟩ rfl rfl hl.1 rfl (lv_room (Nat.le_of_ble_eq_true rfl)) dL_put_7 ⟨Nat.le_of_ble_eq_true rfl, Nat.le_of_ble_eq_true rfl⟩) hS (fun q _ h => hFc q h) (fun q h => hFc q h) (fun q _ h => hFc q h) (fun E9 ce q9 u t H1 locs ht9 hvm hpx hBX hz1 hk1 hS hcell hv9 hcl => ?_) (fun _ _ t H1 locs _ _ hw _ _ _ _ => hw.elim)
  · cases hBX
    refine vx_catch hown [] _ _ htb (fun z hz9 => nomatch hz9) (by decide) (by decide) (hts (.classLink RL 25 "java/lang/IndexOutOfBoundsException") (by decide +kernel)) (hz.w (.castable "java/lang/IndexOutOfBoundsException" "java/lang/IndexOutOfBoundsException") (by decide +kernel)) hcell hv9 hcl ?_
    refine W.eq (g2 := F0 m 15 ls [.ref q9]) rfl ?_
    refine lv_astore (lv' := [(5, .ref q9), (0, .ref h0), (1, .int x1), (2, .int x2), (3, .int x3), (4, .ref o)]) hx hb dL_put_15 hl (by decide) rfl (fun ls hl => ?_)
    refine lv_iconst (v := 1) hx hb dL_put_17 (by decide) ?_
    refine W.widen (k := 1) (n := 6) (by omega) (by omega) ?_
    refine vx_ret ?_
    exact W.iret (v := 1) hx hb hr (fun t ht9 hW => ⟨⟨1, (), rfl, rfl, trivial⟩, hS.F ht9⟩) hS.2.2 dL_put_18

def zL_rankOf_ws : List Cond := .codeWith yL_rankOf cL_rankOf 5 (some .int) [(0, 10, 13, 25), (0, 10, 17, 31)] :: ([.methodLink RL 79 yX11_rankOf, .instanceMethod yX11_rankOf, .selects RX11 yX11_rankOf yX11_rankOf, .initialized RX11, .classLink RL 25 "java/lang/IndexOutOfBoundsException"] ++ (zX11_rankOf_ws ++ ([])))
theorem zL_rankOf_ws_good : zL_rankOf_ws.all goodWord = true := by decide +kernel
set_option maxHeartbeats 4000000 in
set_option maxRecDepth 100000 in
/-- the law's rankOf: 1 is thrown -/
theorem cl_rankOf (l : Launch) (hst : l.stackTraces = false) (D : va_G) (sz : Nat) (h0 : Nat) (a : Nat → Nat) (x1 x2 : Int32) (o : Nat) : vx_Met l yL_rankOf zL_rankOf_ws (zR 4 1 6) (zPre [.ref h0, .int x1, .int x2, .ref o] D [(h0, .inr (17, zHS a))] [] (fun q : Nat => sz ≤ q) sz) (va_Qi (S := Unit) (fun r _ => r = 1) (fun _ _ => True) (fun q : Nat => sz ≤ q)) (vx_X (S := Unit) (fun _ => False) (fun _ _ _ => True) (fun q : Nat => sz ≤ q)) 1 6 (fun q : Nat => sz ≤ q) := by
  refine vx_ofWH (cc := cL_rankOf) (maxL := 5) (ret := (some .int)) (by decide) rfl ?_
  intro p e s m args below meth c s₁ B hml hv
  have htb : c.exceptionTable.toList = tableOf [(0, 10, 13, 25), (0, 10, 17, 31)] := vx_table (x := yL_rankOf) B (atoms_spec (ws := zL_rankOf_ws) B.pre _ List.mem_cons_self)
  obtain ⟨rfl, hsz, hP, hK, hD0, hz⟩ := hv
  have hx := B.exec
  have hb := B.bytes
  have hr := B.returns
  have hts := atoms_spec (ws := zL_rankOf_ws) B.pre
  have hown : s.vm.findClass RL = some m.cls := findClass_of_methodNamed B.named
  have hlocks := B.notSynchronized
  subst hsz
  obtain ⟨A, hAe⟩ : ∃ A : Nat → Prop, A = (fun q : Nat => s.heap.size ≤ q) := ⟨_, rfl⟩
  rw [← hAe] at hz ⊢
  have hA : ∀ q : Nat, s.heap.size ≤ q → A q := fun q h => by rw [hAe]; exact h
  have hD := hD0
  have hS : va_S A s.heap s.heap [] := va_S.rf
  have hP : va_P D vwCl [(h0, .inr (17, zHS a))] s.heap := hP
  have hl := lv_entry ([.ref h0, .int x1, .int x2, .ref o]) (n := 5) (Nat.le_of_ble_eq_true rfl)
  rw [lg_entry_eq]
  generalize (lg_sl ([.ref h0, .int x1, .int x2, .ref o]) ++ List.replicate (5 - (lg_sl ([.ref h0, .int x1, .int x2, .ref o])).length) Slot.unset).toArray = ls at hl ⊢
  have hl : lv_has ls 5 [(0, .ref h0), (1, .int x1), (2, .int x2), (3, .ref o)] := hl
  refine lv_aload_n hx hb dL_rankOf_0 rfl (lv_at hl 3 rfl) ?_
  refine lv_iconst (v := 0) hx hb dL_rankOf_1 (by decide) ?_
  refine lv_aload_n hx hb dL_rankOf_2 rfl (lv_at hl 0 rfl) ?_
  refine lv_iload_n hx hb dL_rankOf_3 rfl (lv_at hl 1 rfl) ?_
  refine lv_iload_n hx hb dL_rankOf_4 rfl (lv_at hl 2 rfl) ?_
  have hPc := hP.sub (ws' := [(h0, .inr (17, zHS a))]) [0] rfl
  have hDc := hD.sub (ws' := [(h0, .inr (17, zHS a))]) [0] (by decide) rfl
  have hKc := hK.sub (tys' := []) [] rfl
  have hFc : ∀ q : Nat, s.heap.size ≤ q → A q := fun q h => hA q (Nat.le_trans hS.1 h)
  refine vx_calli (vx_runV (As := [.int x1, .int x2]) (rest := [.int 0, .ref o]) ⟨hx, hb, hml, hown, hts⟩ (c_rankOf l hst D s.heap.size h0 a x1 x2) (cwV 2 hts (goodIn_app (goodIn_of _ (by decide +kernel)) (goodIn_sub (fun _ h => List.mem_cons_of_mem _ (List.mem_append_right _ (List.mem_append_left _ h))) zX11_rankOf_ws_good)) rfl rfl rfl (by decide +kernel) ⟨Nat.le_of_ble_eq_true rfl, Nat.le_of_ble_eq_true rfl⟩) ⟨zPre.blind, va_recv hKc hPc (ci := 17) (q0 := 0) rfl rfl, zPre.mk hPc hKc hDc hz hS (fun q h => hFc q h)⟩ rfl rfl hl.1 rfl (lv_room (Nat.le_of_ble_eq_true rfl)) dL_rankOf_5 ⟨Nat.le_of_ble_eq_true rfl, Nat.le_of_ble_eq_true rfl⟩) hS (fun q _ h => hFc q h) (fun q h => hFc q h) (fun q _ h => hFc q h) (fun E9 ce q9 u t H1 locs ht9 hvm hpx hBX hz1 hk1 hS hcell hv9 hcl => ?_) (fun _ _ t H1 locs _ _ hw _ _ _ _ => hw.elim)
  · cases hBX
    refine vx_catch hown [] _ _ htb (fun z hz9 => nomatch hz9) (by decide) (by decide) (hts (.classLink RL 25 "java/lang/IndexOutOfBoundsException") (by decide +kernel)) (hz.w (.castable "java/lang/IndexOutOfBoundsException" "java/lang/IndexOutOfBoundsException") (by decide +kernel)) hcell hv9 hcl ?_
    refine W.eq (g2 := F0 m 13 ls [.ref q9]) rfl ?_
    refine lv_astore (lv' := [(4, .ref q9), (0, .ref h0), (1, .int x1), (2, .int x2), (3, .ref o)]) hx hb dL_rankOf_13 hl (by decide) rfl (fun ls hl => ?_)
    refine lv_iconst (v := 1) hx hb dL_rankOf_15 (by decide) ?_
    refine W.widen (k := 1) (n := 6) (by omega) (by omega) ?_
    refine vx_ret ?_
    exact W.iret (v := 1) hx hb hr (fun t ht9 hW => ⟨⟨1, (), rfl, rfl, trivial⟩, hS.F ht9⟩) hS.2.2 dL_rankOf_16

def zL_resultOf_ws : List Cond := .codeWith yL_resultOf cL_resultOf 5 (some .int) [(0, 10, 13, 25), (0, 10, 17, 31)] :: ([.methodLink RL 82 yX11_resultOf, .instanceMethod yX11_resultOf, .selects RX11 yX11_resultOf yX11_resultOf, .initialized RX11, .classLink RL 25 "java/lang/IndexOutOfBoundsException"] ++ (zX11_resultOf_ws ++ ([])))
theorem zL_resultOf_ws_good : zL_resultOf_ws.all goodWord = true := by decide +kernel
set_option maxHeartbeats 4000000 in
set_option maxRecDepth 100000 in
/-- the law's resultOf: 1 is thrown -/
theorem cl_resultOf (l : Launch) (hst : l.stackTraces = false) (D : va_G) (sz : Nat) (h0 : Nat) (a : Nat → Nat) (x1 x2 : Int32) (o : Nat) : vx_Met l yL_resultOf zL_resultOf_ws (zR 4 1 6) (zPre [.ref h0, .int x1, .int x2, .ref o] D [(h0, .inr (17, zHS a))] [] (fun q : Nat => sz ≤ q) sz) (va_Qi (S := Unit) (fun r _ => r = 1) (fun _ _ => True) (fun q : Nat => sz ≤ q)) (vx_X (S := Unit) (fun _ => False) (fun _ _ _ => True) (fun q : Nat => sz ≤ q)) 1 6 (fun q : Nat => sz ≤ q) := by
  refine vx_ofWH (cc := cL_resultOf) (maxL := 5) (ret := (some .int)) (by decide) rfl ?_
  intro p e s m args below meth c s₁ B hml hv
  have htb : c.exceptionTable.toList = tableOf [(0, 10, 13, 25), (0, 10, 17, 31)] := vx_table (x := yL_resultOf) B (atoms_spec (ws := zL_resultOf_ws) B.pre _ List.mem_cons_self)
  obtain ⟨rfl, hsz, hP, hK, hD0, hz⟩ := hv
  have hx := B.exec
  have hb := B.bytes
  have hr := B.returns
  have hts := atoms_spec (ws := zL_resultOf_ws) B.pre
  have hown : s.vm.findClass RL = some m.cls := findClass_of_methodNamed B.named
  have hlocks := B.notSynchronized
  subst hsz
  obtain ⟨A, hAe⟩ : ∃ A : Nat → Prop, A = (fun q : Nat => s.heap.size ≤ q) := ⟨_, rfl⟩
  rw [← hAe] at hz ⊢
  have hA : ∀ q : Nat, s.heap.size ≤ q → A q := fun q h => by rw [hAe]; exact h
  have hD := hD0
  have hS : va_S A s.heap s.heap [] := va_S.rf
  have hP : va_P D vwCl [(h0, .inr (17, zHS a))] s.heap := hP
  have hl := lv_entry ([.ref h0, .int x1, .int x2, .ref o]) (n := 5) (Nat.le_of_ble_eq_true rfl)
  rw [lg_entry_eq]
  generalize (lg_sl ([.ref h0, .int x1, .int x2, .ref o]) ++ List.replicate (5 - (lg_sl ([.ref h0, .int x1, .int x2, .ref o])).length) Slot.unset).toArray = ls at hl ⊢
  have hl : lv_has ls 5 [(0, .ref h0), (1, .int x1), (2, .int x2), (3, .ref o)] := hl
  refine lv_aload_n hx hb dL_resultOf_0 rfl (lv_at hl 3 rfl) ?_
  refine lv_iconst (v := 0) hx hb dL_resultOf_1 (by decide) ?_
  refine lv_aload_n hx hb dL_resultOf_2 rfl (lv_at hl 0 rfl) ?_
  refine lv_iload_n hx hb dL_resultOf_3 rfl (lv_at hl 1 rfl) ?_
  refine lv_iload_n hx hb dL_resultOf_4 rfl (lv_at hl 2 rfl) ?_
  have hPc := hP.sub (ws' := [(h0, .inr (17, zHS a))]) [0] rfl
  have hDc := hD.sub (ws' := [(h0, .inr (17, zHS a))]) [0] (by decide) rfl
  have hKc := hK.sub (tys' := []) [] rfl
  have hFc : ∀ q : Nat, s.heap.size ≤ q → A q := fun q h => hA q (Nat.le_trans hS.1 h)
  refine vx_calli (vx_runV (As := [.int x1, .int x2]) (rest := [.int 0, .ref o]) ⟨hx, hb, hml, hown, hts⟩ (c_resultOf l hst D s.heap.size h0 a x1 x2) (cwV 2 hts (goodIn_app (goodIn_of _ (by decide +kernel)) (goodIn_sub (fun _ h => List.mem_cons_of_mem _ (List.mem_append_right _ (List.mem_append_left _ h))) zX11_resultOf_ws_good)) rfl rfl rfl (by decide +kernel) ⟨Nat.le_of_ble_eq_true rfl, Nat.le_of_ble_eq_true rfl⟩) ⟨zPre.blind, va_recv hKc hPc (ci := 17) (q0 := 0) rfl rfl, zPre.mk hPc hKc hDc hz hS (fun q h => hFc q h)⟩ rfl rfl hl.1 rfl (lv_room (Nat.le_of_ble_eq_true rfl)) dL_resultOf_5 ⟨Nat.le_of_ble_eq_true rfl, Nat.le_of_ble_eq_true rfl⟩) hS (fun q _ h => hFc q h) (fun q h => hFc q h) (fun q _ h => hFc q h) (fun E9 ce q9 u t H1 locs ht9 hvm hpx hBX hz1 hk1 hS hcell hv9 hcl => ?_) (fun _ _ t H1 locs _ _ hw _ _ _ _ => hw.elim)
  · cases hBX
    refine vx_catch hown [] _ _ htb (fun z hz9 => nomatch hz9) (by decide) (by decide) (hts (.classLink RL 25 "java/lang/IndexOutOfBoundsException") (by decide +kernel)) (hz.w (.castable "java/lang/IndexOutOfBoundsException" "java/lang/IndexOutOfBoundsException") (by decide +kernel)) hcell hv9 hcl ?_
    refine W.eq (g2 := F0 m 13 ls [.ref q9]) rfl ?_
    refine lv_astore (lv' := [(4, .ref q9), (0, .ref h0), (1, .int x1), (2, .int x2), (3, .ref o)]) hx hb dL_resultOf_13 hl (by decide) rfl (fun ls hl => ?_)
    refine lv_iconst (v := 1) hx hb dL_resultOf_15 (by decide) ?_
    refine W.widen (k := 1) (n := 6) (by omega) (by omega) ?_
    refine vx_ret ?_
    exact W.iret (v := 1) hx hb hr (fun t ht9 hW => ⟨⟨1, (), rfl, rfl, trivial⟩, hS.F ht9⟩) hS.2.2 dL_resultOf_16

def zL_protest_ws : List Cond := .codeWith yL_protest cL_protest 6 (some .int) [(0, 12, 15, 25), (0, 12, 19, 13), (0, 12, 23, 46), (0, 12, 27, 15)] :: ([.methodLink RL 85 yX11_protest, .instanceMethod yX11_protest, .selects RX11 yX11_protest yX11_protest, .initialized RX11, .classLink RL 25 "java/lang/IndexOutOfBoundsException"] ++ (zX11_protest_ws ++ ([])))
theorem zL_protest_ws_good : zL_protest_ws.all goodWord = true := by decide +kernel
set_option maxHeartbeats 4000000 in
set_option maxRecDepth 100000 in
/-- the law's protest: 1 is thrown -/
theorem cl_protest (l : Launch) (hst : l.stackTraces = false) (D : va_G) (sz : Nat) (h0 : Nat) (a : Nat → Nat) (x1 x2 x3 : Int32) (o : Nat) : vx_Met l yL_protest zL_protest_ws (zR 4 1 6) (zPre [.ref h0, .int x1, .int x2, .int x3, .ref o] D [(h0, .inr (17, zHS a))] [] (fun q : Nat => sz ≤ q) sz) (va_Qi (S := Unit) (fun r _ => r = 1) (fun _ _ => True) (fun q : Nat => sz ≤ q)) (vx_X (S := Unit) (fun _ => False) (fun _ _ _ => True) (fun q : Nat => sz ≤ q)) 1 6 (fun q : Nat => sz ≤ q) := by
  refine vx_ofWH (cc := cL_protest) (maxL := 6) (ret := (some .int)) (by decide) rfl ?_
  intro p e s m args below meth c s₁ B hml hv
  have htb : c.exceptionTable.toList = tableOf [(0, 12, 15, 25), (0, 12, 19, 13), (0, 12, 23, 46), (0, 12, 27, 15)] := vx_table (x := yL_protest) B (atoms_spec (ws := zL_protest_ws) B.pre _ List.mem_cons_self)
  obtain ⟨rfl, hsz, hP, hK, hD0, hz⟩ := hv
  have hx := B.exec
  have hb := B.bytes
  have hr := B.returns
  have hts := atoms_spec (ws := zL_protest_ws) B.pre
  have hown : s.vm.findClass RL = some m.cls := findClass_of_methodNamed B.named
  have hlocks := B.notSynchronized
  subst hsz
  obtain ⟨A, hAe⟩ : ∃ A : Nat → Prop, A = (fun q : Nat => s.heap.size ≤ q) := ⟨_, rfl⟩
  rw [← hAe] at hz ⊢
  have hA : ∀ q : Nat, s.heap.size ≤ q → A q := fun q h => by rw [hAe]; exact h
  have hD := hD0
  have hS : va_S A s.heap s.heap [] := va_S.rf
  have hP : va_P D vwCl [(h0, .inr (17, zHS a))] s.heap := hP
  have hl := lv_entry ([.ref h0, .int x1, .int x2, .int x3, .ref o]) (n := 6) (Nat.le_of_ble_eq_true rfl)
  rw [lg_entry_eq]
  generalize (lg_sl ([.ref h0, .int x1, .int x2, .int x3, .ref o]) ++ List.replicate (6 - (lg_sl ([.ref h0, .int x1, .int x2, .int x3, .ref o])).length) Slot.unset).toArray = ls at hl ⊢
  have hl : lv_has ls 6 [(0, .ref h0), (1, .int x1), (2, .int x2), (3, .int x3), (4, .ref o)] := hl
  refine lv_aload hx hb dL_protest_0 (lv_at hl 4 rfl) ?_
  refine lv_iconst (v := 0) hx hb dL_protest_2 (by decide) ?_
  refine lv_aload_n hx hb dL_protest_3 rfl (lv_at hl 0 rfl) ?_
  refine lv_iload_n hx hb dL_protest_4 rfl (lv_at hl 1 rfl) ?_
  refine lv_iload_n hx hb dL_protest_5 rfl (lv_at hl 2 rfl) ?_
  refine lv_iload_n hx hb dL_protest_6 rfl (lv_at hl 3 rfl) ?_
  have hPc := hP.sub (ws' := [(h0, .inr (17, zHS a))]) [0] rfl
  have hDc := hD.sub (ws' := [(h0, .inr (17, zHS a))]) [0] (by decide) rfl
  have hKc := hK.sub (tys' := []) [] rfl
  have hFc : ∀ q : Nat, s.heap.size ≤ q → A q := fun q h => hA q (Nat.le_trans hS.1 h)
  refine vx_calli (vx_runV (As := [.int x1, .int x2, .int x3]) (rest := [.int 0, .ref o]) ⟨hx, hb, hml, hown, hts⟩ (c_protest l hst D s.heap.size h0 a x1 x2 x3) (cwV 3 hts (goodIn_app (goodIn_of _ (by decide +kernel)) (goodIn_sub (fun _ h => List.mem_cons_of_mem _ (List.mem_append_right _ (List.mem_append_left _ h))) zX11_protest_ws_good)) rfl rfl rfl (by decide +kernel) ⟨Nat.le_of_ble_eq_true rfl, Nat.le_of_ble_eq_true rfl⟩) ⟨zPre.blind, va_recv hKc hPc (ci := 17) (q0 := 0) rfl rfl, zPre.mk hPc hKc hDc hz hS (fun q h => hFc q h)⟩ rfl rfl hl.1 rfl (lv_room (Nat.le_of_ble_eq_true rfl)) dL_protest_7 ⟨Nat.le_of_ble_eq_true rfl, Nat.le_of_ble_eq_true rfl⟩) hS (fun q _ h => hFc q h) (fun q h => hFc q h) (fun q _ h => hFc q h) (fun E9 ce q9 u t H1 locs ht9 hvm hpx hBX hz1 hk1 hS hcell hv9 hcl => ?_) (fun _ _ t H1 locs _ _ hw _ _ _ _ => hw.elim)
  · cases hBX
    refine vx_catch hown [] _ _ htb (fun z hz9 => nomatch hz9) (by decide) (by decide) (hts (.classLink RL 25 "java/lang/IndexOutOfBoundsException") (by decide +kernel)) (hz.w (.castable "java/lang/IndexOutOfBoundsException" "java/lang/IndexOutOfBoundsException") (by decide +kernel)) hcell hv9 hcl ?_
    refine W.eq (g2 := F0 m 15 ls [.ref q9]) rfl ?_
    refine lv_astore (lv' := [(5, .ref q9), (0, .ref h0), (1, .int x1), (2, .int x2), (3, .int x3), (4, .ref o)]) hx hb dL_protest_15 hl (by decide) rfl (fun ls hl => ?_)
    refine lv_iconst (v := 1) hx hb dL_protest_17 (by decide) ?_
    refine W.widen (k := 1) (n := 6) (by omega) (by omega) ?_
    refine vx_ret ?_
    exact W.iret (v := 1) hx hb hr (fun t ht9 hW => ⟨⟨1, (), rfl, rfl, trivial⟩, hS.F ht9⟩) hS.2.2 dL_protest_18

def zL_close_ws : List Cond := .codeWith yL_close cL_close 5 (some .int) [(0, 17, 20, 25)] :: ([.methodLink RL 96 yX11_close, .instanceMethod yX11_close, .selects RX11 yX11_close yX11_close, .initialized RX11, .classLink RL 25 "java/lang/IndexOutOfBoundsException"] ++ (zX11_close_ws ++ ([])))
theorem zL_close_ws_good : zL_close_ws.all goodWord = true := by decide +kernel
set_option maxHeartbeats 4000000 in
set_option maxRecDepth 100000 in
/-- the law's close: 1 is thrown -/
theorem cl_close (l : Launch) (hst : l.stackTraces = false) (D : va_G) (sz : Nat) (h0 : Nat) (a : Nat → Nat) (x1 x2 : Int32) (o : Nat) : vx_Met l yL_close zL_close_ws (zR 4 1 6) (zPre [.ref h0, .int x1, .int x2, .ref o] D [(h0, .inr (17, zHS a))] [] (fun q : Nat => sz ≤ q) sz) (va_Qi (S := Unit) (fun r _ => r = 1) (fun _ _ => True) (fun q : Nat => sz ≤ q)) (vx_X (S := Unit) (fun _ => False) (fun _ _ _ => True) (fun q : Nat => sz ≤ q)) 1 6 (fun q : Nat => sz ≤ q) := by
  refine vx_ofWH (cc := cL_close) (maxL := 5) (ret := (some .int)) (by decide) rfl ?_
  intro p e s m args below meth c s₁ B hml hv
  have htb : c.exceptionTable.toList = tableOf [(0, 17, 20, 25)] := vx_table (x := yL_close) B (atoms_spec (ws := zL_close_ws) B.pre _ List.mem_cons_self)
  obtain ⟨rfl, hsz, hP, hK, hD0, hz⟩ := hv
  have hx := B.exec
  have hb := B.bytes
  have hr := B.returns
  have hts := atoms_spec (ws := zL_close_ws) B.pre
  have hown : s.vm.findClass RL = some m.cls := findClass_of_methodNamed B.named
  have hlocks := B.notSynchronized
  subst hsz
  obtain ⟨A, hAe⟩ : ∃ A : Nat → Prop, A = (fun q : Nat => s.heap.size ≤ q) := ⟨_, rfl⟩
  rw [← hAe] at hz ⊢
  have hA : ∀ q : Nat, s.heap.size ≤ q → A q := fun q h => by rw [hAe]; exact h
  have hD := hD0
  have hS : va_S A s.heap s.heap [] := va_S.rf
  have hP : va_P D vwCl [(h0, .inr (17, zHS a))] s.heap := hP
  have hl := lv_entry ([.ref h0, .int x1, .int x2, .ref o]) (n := 5) (Nat.le_of_ble_eq_true rfl)
  rw [lg_entry_eq]
  generalize (lg_sl ([.ref h0, .int x1, .int x2, .ref o]) ++ List.replicate (5 - (lg_sl ([.ref h0, .int x1, .int x2, .ref o])).length) Slot.unset).toArray = ls at hl ⊢
  have hl : lv_has ls 5 [(0, .ref h0), (1, .int x1), (2, .int x2), (3, .ref o)] := hl
  refine lv_aload_n hx hb dL_close_0 rfl (lv_at hl 3 rfl) ?_
  refine lv_iconst (v := 0) hx hb dL_close_1 (by decide) ?_
  refine lv_aload_n hx hb dL_close_2 rfl (lv_at hl 0 rfl) ?_
  refine lv_iload_n hx hb dL_close_3 rfl (lv_at hl 1 rfl) ?_
  refine lv_iload_n hx hb dL_close_4 rfl (lv_at hl 2 rfl) ?_
  have hPc := hP.sub (ws' := [(h0, .inr (17, zHS a))]) [0] rfl
  have hDc := hD.sub (ws' := [(h0, .inr (17, zHS a))]) [0] (by decide) rfl
  have hKc := hK.sub (tys' := []) [] rfl
  have hFc : ∀ q : Nat, s.heap.size ≤ q → A q := fun q h => hA q (Nat.le_trans hS.1 h)
  refine vx_calli (vx_runV (As := [.int x1, .int x2]) (rest := [.int 0, .ref o]) ⟨hx, hb, hml, hown, hts⟩ (c_close l hst D s.heap.size h0 a x1 x2) (cwV 2 hts (goodIn_app (goodIn_of _ (by decide +kernel)) (goodIn_sub (fun _ h => List.mem_cons_of_mem _ (List.mem_append_right _ (List.mem_append_left _ h))) zX11_close_ws_good)) rfl rfl rfl (by decide +kernel) ⟨Nat.le_of_ble_eq_true rfl, Nat.le_of_ble_eq_true rfl⟩) ⟨zPre.blind, va_recv hKc hPc (ci := 17) (q0 := 0) rfl rfl, zPre.mk hPc hKc hDc hz hS (fun q h => hFc q h)⟩ rfl rfl hl.1 rfl (lv_room (Nat.le_of_ble_eq_true rfl)) dL_close_5 ⟨Nat.le_of_ble_eq_true rfl, Nat.le_of_ble_eq_true rfl⟩) hS (fun q _ h => hFc q h) (fun q h => hFc q h) (fun q _ h => hFc q h) (fun E9 ce q9 u t H1 locs ht9 hvm hpx hBX hz1 hk1 hS hcell hv9 hcl => ?_) (fun _ _ t H1 locs _ _ hw _ _ _ _ => hw.elim)
  · cases hBX
    refine vx_catch hown [] _ _ htb (fun z hz9 => nomatch hz9) (by decide) (by decide) (hts (.classLink RL 25 "java/lang/IndexOutOfBoundsException") (by decide +kernel)) (hz.w (.castable "java/lang/IndexOutOfBoundsException" "java/lang/IndexOutOfBoundsException") (by decide +kernel)) hcell hv9 hcl ?_
    refine W.eq (g2 := F0 m 20 ls [.ref q9]) rfl ?_
    refine lv_astore (lv' := [(4, .ref q9), (0, .ref h0), (1, .int x1), (2, .int x2), (3, .ref o)]) hx hb dL_close_20 hl (by decide) rfl (fun ls hl => ?_)
    refine lv_iconst (v := 1) hx hb dL_close_22 (by decide) ?_
    refine W.widen (k := 1) (n := 6) (by omega) (by omega) ?_
    refine vx_ret ?_
    exact W.iret (v := 1) hx hb hr (fun t ht9 hW => ⟨⟨1, (), rfl, rfl, trivial⟩, hS.F ht9⟩) hS.2.2 dL_close_23

def zL_record_ws : List Cond := .codeWith yL_record cL_record 4 (some .int) [(0, 9, 12, 25), (0, 9, 15, 31)] :: ([.methodLink RL 99 yX11_record, .instanceMethod yX11_record, .selects RX11 yX11_record yX11_record, .initialized RX11, .classLink RL 25 "java/lang/IndexOutOfBoundsException"] ++ (zX11_record_ws ++ ([])))
theorem zL_record_ws_good : zL_record_ws.all goodWord = true := by decide +kernel
set_option maxHeartbeats 4000000 in
set_option maxRecDepth 100000 in
/-- the law's record: 1 is thrown -/
theorem cl_record (l : Launch) (hst : l.stackTraces = false) (D : va_G) (sz : Nat) (h0 : Nat) (a : Nat → Nat) (x1 : Int32) (o : Nat) : vx_Met l yL_record zL_record_ws (zR 4 1 6) (zPre [.ref h0, .int x1, .ref o] D [(h0, .inr (17, zHS a))] [] (fun q : Nat => sz ≤ q) sz) (va_Qi (S := Unit) (fun r _ => r = 1) (fun _ _ => True) (fun q : Nat => sz ≤ q)) (vx_X (S := Unit) (fun _ => False) (fun _ _ _ => True) (fun q : Nat => sz ≤ q)) 1 6 (fun q : Nat => sz ≤ q) := by
  refine vx_ofWH (cc := cL_record) (maxL := 4) (ret := (some .int)) (by decide) rfl ?_
  intro p e s m args below meth c s₁ B hml hv
  have htb : c.exceptionTable.toList = tableOf [(0, 9, 12, 25), (0, 9, 15, 31)] := vx_table (x := yL_record) B (atoms_spec (ws := zL_record_ws) B.pre _ List.mem_cons_self)
  obtain ⟨rfl, hsz, hP, hK, hD0, hz⟩ := hv
  have hx := B.exec
  have hb := B.bytes
  have hr := B.returns
  have hts := atoms_spec (ws := zL_record_ws) B.pre
  have hown : s.vm.findClass RL = some m.cls := findClass_of_methodNamed B.named
  have hlocks := B.notSynchronized
  subst hsz
  obtain ⟨A, hAe⟩ : ∃ A : Nat → Prop, A = (fun q : Nat => s.heap.size ≤ q) := ⟨_, rfl⟩
  rw [← hAe] at hz ⊢
  have hA : ∀ q : Nat, s.heap.size ≤ q → A q := fun q h => by rw [hAe]; exact h
  have hD := hD0
  have hS : va_S A s.heap s.heap [] := va_S.rf
  have hP : va_P D vwCl [(h0, .inr (17, zHS a))] s.heap := hP
  have hl := lv_entry ([.ref h0, .int x1, .ref o]) (n := 4) (Nat.le_of_ble_eq_true rfl)
  rw [lg_entry_eq]
  generalize (lg_sl ([.ref h0, .int x1, .ref o]) ++ List.replicate (4 - (lg_sl ([.ref h0, .int x1, .ref o])).length) Slot.unset).toArray = ls at hl ⊢
  have hl : lv_has ls 4 [(0, .ref h0), (1, .int x1), (2, .ref o)] := hl
  refine lv_aload_n hx hb dL_record_0 rfl (lv_at hl 2 rfl) ?_
  refine lv_iconst (v := 0) hx hb dL_record_1 (by decide) ?_
  refine lv_aload_n hx hb dL_record_2 rfl (lv_at hl 0 rfl) ?_
  refine lv_iload_n hx hb dL_record_3 rfl (lv_at hl 1 rfl) ?_
  have hPc := hP.sub (ws' := [(h0, .inr (17, zHS a))]) [0] rfl
  have hDc := hD.sub (ws' := [(h0, .inr (17, zHS a))]) [0] (by decide) rfl
  have hKc := hK.sub (tys' := []) [] rfl
  have hFc : ∀ q : Nat, s.heap.size ≤ q → A q := fun q h => hA q (Nat.le_trans hS.1 h)
  refine vx_calli (vx_runV (As := [.int x1]) (rest := [.int 0, .ref o]) ⟨hx, hb, hml, hown, hts⟩ (c_record l hst D s.heap.size h0 a x1) (cwV 1 hts (goodIn_app (goodIn_of _ (by decide +kernel)) (goodIn_sub (fun _ h => List.mem_cons_of_mem _ (List.mem_append_right _ (List.mem_append_left _ h))) zX11_record_ws_good)) rfl rfl rfl (by decide +kernel) ⟨Nat.le_of_ble_eq_true rfl, Nat.le_of_ble_eq_true rfl⟩) ⟨zPre.blind, va_recv hKc hPc (ci := 17) (q0 := 0) rfl rfl, zPre.mk hPc hKc hDc hz hS (fun q h => hFc q h)⟩ rfl rfl hl.1 rfl (lv_room (Nat.le_of_ble_eq_true rfl)) dL_record_4 ⟨Nat.le_of_ble_eq_true rfl, Nat.le_of_ble_eq_true rfl⟩) hS (fun q _ h => hFc q h) (fun q h => hFc q h) (fun q _ h => hFc q h) (fun E9 ce q9 u t H1 locs ht9 hvm hpx hBX hz1 hk1 hS hcell hv9 hcl => ?_) (fun _ _ t H1 locs _ _ hw _ _ _ _ => hw.elim)
  · cases hBX
    refine vx_catch hown [] _ _ htb (fun z hz9 => nomatch hz9) (by decide) (by decide) (hts (.classLink RL 25 "java/lang/IndexOutOfBoundsException") (by decide +kernel)) (hz.w (.castable "java/lang/IndexOutOfBoundsException" "java/lang/IndexOutOfBoundsException") (by decide +kernel)) hcell hv9 hcl ?_
    refine W.eq (g2 := F0 m 12 ls [.ref q9]) rfl ?_
    refine lv_astore_n (lv' := [(3, .ref q9), (0, .ref h0), (1, .int x1), (2, .ref o)]) hx hb dL_record_12 rfl hl (by decide) rfl (fun ls hl => ?_)
    refine lv_iconst (v := 1) hx hb dL_record_13 (by decide) ?_
    refine W.widen (k := 1) (n := 6) (by omega) (by omega) ?_
    refine vx_ret ?_
    exact W.iret (v := 1) hx hb hr (fun t ht9 hW => ⟨⟨1, (), rfl, rfl, trivial⟩, hS.F ht9⟩) hS.2.2 dL_record_14

def zL_holder_ws : List Cond := .codeWith yL_holder cL_holder 4 (some .int) [(0, 9, 12, 25), (0, 9, 15, 31)] :: ([.methodLink RL 102 yX11_holder, .instanceMethod yX11_holder, .selects RX11 yX11_holder yX11_holder, .initialized RX11, .classLink RL 25 "java/lang/IndexOutOfBoundsException"] ++ (zX11_holder_ws ++ ([])))
theorem zL_holder_ws_good : zL_holder_ws.all goodWord = true := by decide +kernel
set_option maxHeartbeats 4000000 in
set_option maxRecDepth 100000 in
/-- the law's holder: 1 is thrown -/
theorem cl_holder (l : Launch) (hst : l.stackTraces = false) (D : va_G) (sz : Nat) (h0 : Nat) (a : Nat → Nat) (x1 : Int32) (o : Nat) : vx_Met l yL_holder zL_holder_ws (zR 4 1 6) (zPre [.ref h0, .int x1, .ref o] D [(h0, .inr (17, zHS a))] [] (fun q : Nat => sz ≤ q) sz) (va_Qi (S := Unit) (fun r _ => r = 1) (fun _ _ => True) (fun q : Nat => sz ≤ q)) (vx_X (S := Unit) (fun _ => False) (fun _ _ _ => True) (fun q : Nat => sz ≤ q)) 1 6 (fun q : Nat => sz ≤ q) := by
  refine vx_ofWH (cc := cL_holder) (maxL := 4) (ret := (some .int)) (by decide) rfl ?_
  intro p e s m args below meth c s₁ B hml hv
  have htb : c.exceptionTable.toList = tableOf [(0, 9, 12, 25), (0, 9, 15, 31)] := vx_table (x := yL_holder) B (atoms_spec (ws := zL_holder_ws) B.pre _ List.mem_cons_self)
  obtain ⟨rfl, hsz, hP, hK, hD0, hz⟩ := hv
  have hx := B.exec
  have hb := B.bytes
  have hr := B.returns
  have hts := atoms_spec (ws := zL_holder_ws) B.pre
  have hown : s.vm.findClass RL = some m.cls := findClass_of_methodNamed B.named
  have hlocks := B.notSynchronized
  subst hsz
  obtain ⟨A, hAe⟩ : ∃ A : Nat → Prop, A = (fun q : Nat => s.heap.size ≤ q) := ⟨_, rfl⟩
  rw [← hAe] at hz ⊢
  have hA : ∀ q : Nat, s.heap.size ≤ q → A q := fun q h => by rw [hAe]; exact h
  have hD := hD0
  have hS : va_S A s.heap s.heap [] := va_S.rf
  have hP : va_P D vwCl [(h0, .inr (17, zHS a))] s.heap := hP
  have hl := lv_entry ([.ref h0, .int x1, .ref o]) (n := 4) (Nat.le_of_ble_eq_true rfl)
  rw [lg_entry_eq]
  generalize (lg_sl ([.ref h0, .int x1, .ref o]) ++ List.replicate (4 - (lg_sl ([.ref h0, .int x1, .ref o])).length) Slot.unset).toArray = ls at hl ⊢
  have hl : lv_has ls 4 [(0, .ref h0), (1, .int x1), (2, .ref o)] := hl
  refine lv_aload_n hx hb dL_holder_0 rfl (lv_at hl 2 rfl) ?_
  refine lv_iconst (v := 0) hx hb dL_holder_1 (by decide) ?_
  refine lv_aload_n hx hb dL_holder_2 rfl (lv_at hl 0 rfl) ?_
  refine lv_iload_n hx hb dL_holder_3 rfl (lv_at hl 1 rfl) ?_
  have hPc := hP.sub (ws' := [(h0, .inr (17, zHS a))]) [0] rfl
  have hDc := hD.sub (ws' := [(h0, .inr (17, zHS a))]) [0] (by decide) rfl
  have hKc := hK.sub (tys' := []) [] rfl
  have hFc : ∀ q : Nat, s.heap.size ≤ q → A q := fun q h => hA q (Nat.le_trans hS.1 h)
  refine vx_calli (vx_runV (As := [.int x1]) (rest := [.int 0, .ref o]) ⟨hx, hb, hml, hown, hts⟩ (c_holder l hst D s.heap.size h0 a x1) (cwV 1 hts (goodIn_app (goodIn_of _ (by decide +kernel)) (goodIn_sub (fun _ h => List.mem_cons_of_mem _ (List.mem_append_right _ (List.mem_append_left _ h))) zX11_holder_ws_good)) rfl rfl rfl (by decide +kernel) ⟨Nat.le_of_ble_eq_true rfl, Nat.le_of_ble_eq_true rfl⟩) ⟨zPre.blind, va_recv hKc hPc (ci := 17) (q0 := 0) rfl rfl, zPre.mk hPc hKc hDc hz hS (fun q h => hFc q h)⟩ rfl rfl hl.1 rfl (lv_room (Nat.le_of_ble_eq_true rfl)) dL_holder_4 ⟨Nat.le_of_ble_eq_true rfl, Nat.le_of_ble_eq_true rfl⟩) hS (fun q _ h => hFc q h) (fun q h => hFc q h) (fun q _ h => hFc q h) (fun E9 ce q9 u t H1 locs ht9 hvm hpx hBX hz1 hk1 hS hcell hv9 hcl => ?_) (fun _ _ t H1 locs _ _ hw _ _ _ _ => hw.elim)
  · cases hBX
    refine vx_catch hown [] _ _ htb (fun z hz9 => nomatch hz9) (by decide) (by decide) (hts (.classLink RL 25 "java/lang/IndexOutOfBoundsException") (by decide +kernel)) (hz.w (.castable "java/lang/IndexOutOfBoundsException" "java/lang/IndexOutOfBoundsException") (by decide +kernel)) hcell hv9 hcl ?_
    refine W.eq (g2 := F0 m 12 ls [.ref q9]) rfl ?_
    refine lv_astore_n (lv' := [(3, .ref q9), (0, .ref h0), (1, .int x1), (2, .ref o)]) hx hb dL_holder_12 rfl hl (by decide) rfl (fun ls hl => ?_)
    refine lv_iconst (v := 1) hx hb dL_holder_13 (by decide) ?_
    refine W.widen (k := 1) (n := 6) (by omega) (by omega) ?_
    refine vx_ret ?_
    exact W.iret (v := 1) hx hb hr (fun t ht9 hW => ⟨⟨1, (), rfl, rfl, trivial⟩, hS.F ht9⟩) hS.2.2 dL_holder_14

def zL_sharers_ws : List Cond := .codeWith yL_sharers cL_sharers 4 (some .int) [(0, 9, 12, 25)] :: ([.methodLink RL 105 yX11_sharers, .instanceMethod yX11_sharers, .selects RX11 yX11_sharers yX11_sharers, .initialized RX11, .classLink RL 25 "java/lang/IndexOutOfBoundsException"] ++ (zX11_sharers_ws ++ ([])))
theorem zL_sharers_ws_good : zL_sharers_ws.all goodWord = true := by decide +kernel
set_option maxHeartbeats 4000000 in
set_option maxRecDepth 100000 in
/-- the law's sharers: 1 is thrown -/
theorem cl_sharers (l : Launch) (hst : l.stackTraces = false) (D : va_G) (sz : Nat) (h0 : Nat) (a : Nat → Nat) (x1 : Int32) (o : Nat) : vx_Met l yL_sharers zL_sharers_ws (zR 4 1 6) (zPre [.ref h0, .int x1, .ref o] D [(h0, .inr (17, zHS a))] [] (fun q : Nat => sz ≤ q) sz) (va_Qi (S := Unit) (fun r _ => r = 1) (fun _ _ => True) (fun q : Nat => sz ≤ q)) (vx_X (S := Unit) (fun _ => False) (fun _ _ _ => True) (fun q : Nat => sz ≤ q)) 1 6 (fun q : Nat => sz ≤ q) := by
  refine vx_ofWH (cc := cL_sharers) (maxL := 4) (ret := (some .int)) (by decide) rfl ?_
  intro p e s m args below meth c s₁ B hml hv
  have htb : c.exceptionTable.toList = tableOf [(0, 9, 12, 25)] := vx_table (x := yL_sharers) B (atoms_spec (ws := zL_sharers_ws) B.pre _ List.mem_cons_self)
  obtain ⟨rfl, hsz, hP, hK, hD0, hz⟩ := hv
  have hx := B.exec
  have hb := B.bytes
  have hr := B.returns
  have hts := atoms_spec (ws := zL_sharers_ws) B.pre
  have hown : s.vm.findClass RL = some m.cls := findClass_of_methodNamed B.named
  have hlocks := B.notSynchronized
  subst hsz
  obtain ⟨A, hAe⟩ : ∃ A : Nat → Prop, A = (fun q : Nat => s.heap.size ≤ q) := ⟨_, rfl⟩
  rw [← hAe] at hz ⊢
  have hA : ∀ q : Nat, s.heap.size ≤ q → A q := fun q h => by rw [hAe]; exact h
  have hD := hD0
  have hS : va_S A s.heap s.heap [] := va_S.rf
  have hP : va_P D vwCl [(h0, .inr (17, zHS a))] s.heap := hP
  have hl := lv_entry ([.ref h0, .int x1, .ref o]) (n := 4) (Nat.le_of_ble_eq_true rfl)
  rw [lg_entry_eq]
  generalize (lg_sl ([.ref h0, .int x1, .ref o]) ++ List.replicate (4 - (lg_sl ([.ref h0, .int x1, .ref o])).length) Slot.unset).toArray = ls at hl ⊢
  have hl : lv_has ls 4 [(0, .ref h0), (1, .int x1), (2, .ref o)] := hl
  refine lv_aload_n hx hb dL_sharers_0 rfl (lv_at hl 2 rfl) ?_
  refine lv_iconst (v := 0) hx hb dL_sharers_1 (by decide) ?_
  refine lv_aload_n hx hb dL_sharers_2 rfl (lv_at hl 0 rfl) ?_
  refine lv_iload_n hx hb dL_sharers_3 rfl (lv_at hl 1 rfl) ?_
  have hPc := hP.sub (ws' := [(h0, .inr (17, zHS a))]) [0] rfl
  have hDc := hD.sub (ws' := [(h0, .inr (17, zHS a))]) [0] (by decide) rfl
  have hKc := hK.sub (tys' := []) [] rfl
  have hFc : ∀ q : Nat, s.heap.size ≤ q → A q := fun q h => hA q (Nat.le_trans hS.1 h)
  refine vx_calli (vx_runV (As := [.int x1]) (rest := [.int 0, .ref o]) ⟨hx, hb, hml, hown, hts⟩ (c_sharers l hst D s.heap.size h0 a x1) (cwV 1 hts (goodIn_app (goodIn_of _ (by decide +kernel)) (goodIn_sub (fun _ h => List.mem_cons_of_mem _ (List.mem_append_right _ (List.mem_append_left _ h))) zX11_sharers_ws_good)) rfl rfl rfl (by decide +kernel) ⟨Nat.le_of_ble_eq_true rfl, Nat.le_of_ble_eq_true rfl⟩) ⟨zPre.blind, va_recv hKc hPc (ci := 17) (q0 := 0) rfl rfl, zPre.mk hPc hKc hDc hz hS (fun q h => hFc q h)⟩ rfl rfl hl.1 rfl (lv_room (Nat.le_of_ble_eq_true rfl)) dL_sharers_4 ⟨Nat.le_of_ble_eq_true rfl, Nat.le_of_ble_eq_true rfl⟩) hS (fun q _ h => hFc q h) (fun q h => hFc q h) (fun q _ h => hFc q h) (fun E9 ce q9 u t H1 locs ht9 hvm hpx hBX hz1 hk1 hS hcell hv9 hcl => ?_) (fun _ _ t H1 locs _ _ hw _ _ _ _ => hw.elim)
  · cases hBX
    refine vx_catch hown [] _ _ htb (fun z hz9 => nomatch hz9) (by decide) (by decide) (hts (.classLink RL 25 "java/lang/IndexOutOfBoundsException") (by decide +kernel)) (hz.w (.castable "java/lang/IndexOutOfBoundsException" "java/lang/IndexOutOfBoundsException") (by decide +kernel)) hcell hv9 hcl ?_
    refine W.eq (g2 := F0 m 12 ls [.ref q9]) rfl ?_
    refine lv_astore_n (lv' := [(3, .ref q9), (0, .ref h0), (1, .int x1), (2, .ref o)]) hx hb dL_sharers_12 rfl hl (by decide) rfl (fun ls hl => ?_)
    refine lv_iconst (v := 1) hx hb dL_sharers_13 (by decide) ?_
    refine W.widen (k := 1) (n := 6) (by omega) (by omega) ?_
    refine vx_ret ?_
    exact W.iret (v := 1) hx hb hr (fun t ht9 hW => ⟨⟨1, (), rfl, rfl, trivial⟩, hS.F ht9⟩) hS.2.2 dL_sharers_14

def zL_dope_ws : List Cond := .codeWith yL_dope cL_dope 5 (some .int) [(0, 17, 20, 25)] :: ([.methodLink RL 92 yX11_dope, .instanceMethod yX11_dope, .selects RX11 yX11_dope yX11_dope, .initialized RX11, .classLink RL 25 "java/lang/IndexOutOfBoundsException"] ++ (zX11_dope_ws ++ ([])))
theorem zL_dope_ws_good : zL_dope_ws.all goodWord = true := by decide +kernel
set_option maxHeartbeats 4000000 in
set_option maxRecDepth 100000 in
/-- the law's dope: 1 is thrown -/
theorem cl_dope (l : Launch) (hst : l.stackTraces = false) (D : va_G) (sz : Nat) (h0 : Nat) (a : Nat → Nat) (a1 a2 : Nat) (x1 x2 : Int32) (o : Nat) : vx_Met l yL_dope zL_dope_ws (zR 4 1 6) (zPre [.ref h0, .int x1, .int x2, .ref o] D [(h0, .inr (17, zHS a)), ((a 0), .inr (6, [.ref a1, .ref a2, .int 0]))] [] (fun q : Nat => sz ≤ q) sz) (va_Qi (S := Unit) (fun r _ => r = 1) (fun _ _ => True) (fun q : Nat => sz ≤ q)) (vx_X (S := Unit) (fun _ => False) (fun _ _ _ => True) (fun q : Nat => sz ≤ q)) 1 6 (fun q : Nat => sz ≤ q) := by
  refine vx_ofWH (cc := cL_dope) (maxL := 5) (ret := (some .int)) (by decide) rfl ?_
  intro p e s m args below meth c s₁ B hml hv
  have htb : c.exceptionTable.toList = tableOf [(0, 17, 20, 25)] := vx_table (x := yL_dope) B (atoms_spec (ws := zL_dope_ws) B.pre _ List.mem_cons_self)
  obtain ⟨rfl, hsz, hP, hK, hD0, hz⟩ := hv
  have hx := B.exec
  have hb := B.bytes
  have hr := B.returns
  have hts := atoms_spec (ws := zL_dope_ws) B.pre
  have hown : s.vm.findClass RL = some m.cls := findClass_of_methodNamed B.named
  have hlocks := B.notSynchronized
  subst hsz
  obtain ⟨A, hAe⟩ : ∃ A : Nat → Prop, A = (fun q : Nat => s.heap.size ≤ q) := ⟨_, rfl⟩
  rw [← hAe] at hz ⊢
  have hA : ∀ q : Nat, s.heap.size ≤ q → A q := fun q h => by rw [hAe]; exact h
  have hD := hD0
  have hS : va_S A s.heap s.heap [] := va_S.rf
  have hP : va_P D vwCl [(h0, .inr (17, zHS a)), ((a 0), .inr (6, [.ref a1, .ref a2, .int 0]))] s.heap := hP
  have hl := lv_entry ([.ref h0, .int x1, .int x2, .ref o]) (n := 5) (Nat.le_of_ble_eq_true rfl)
  rw [lg_entry_eq]
  generalize (lg_sl ([.ref h0, .int x1, .int x2, .ref o]) ++ List.replicate (5 - (lg_sl ([.ref h0, .int x1, .int x2, .ref o])).length) Slot.unset).toArray = ls at hl ⊢
  have hl : lv_has ls 5 [(0, .ref h0), (1, .int x1), (2, .int x2), (3, .ref o)] := hl
  refine lv_aload_n hx hb dL_dope_0 rfl (lv_at hl 3 rfl) ?_
  refine lv_iconst (v := 0) hx hb dL_dope_1 (by decide) ?_
  refine lv_aload_n hx hb dL_dope_2 rfl (lv_at hl 0 rfl) ?_
  refine lv_iload_n hx hb dL_dope_3 rfl (lv_at hl 1 rfl) ?_
  refine lv_iload_n hx hb dL_dope_4 rfl (lv_at hl 2 rfl) ?_
  have hPc := hP.sub (ws' := [(h0, .inr (17, zHS a)), ((a 0), .inr (6, [.ref a1, .ref a2, .int 0]))]) [0, 1] rfl
  have hDc := hD.sub (ws' := [(h0, .inr (17, zHS a)), ((a 0), .inr (6, [.ref a1, .ref a2, .int 0]))]) [0, 1] (by decide) rfl
  have hKc := hK.sub (tys' := []) [] rfl
  have hFc : ∀ q : Nat, s.heap.size ≤ q → A q := fun q h => hA q (Nat.le_trans hS.1 h)
  refine vx_calli (vx_runV (As := [.int x1, .int x2]) (rest := [.int 0, .ref o]) ⟨hx, hb, hml, hown, hts⟩ (c_dope l hst D s.heap.size h0 a a1 a2 x1 x2) (cwV 2 hts (goodIn_app (goodIn_of _ (by decide +kernel)) (goodIn_sub (fun _ h => List.mem_cons_of_mem _ (List.mem_append_right _ (List.mem_append_left _ h))) zX11_dope_ws_good)) rfl rfl rfl (by decide +kernel) ⟨Nat.le_of_ble_eq_true rfl, Nat.le_of_ble_eq_true rfl⟩) ⟨zPre.blind, va_recv hKc hPc (ci := 17) (q0 := 0) rfl rfl, zPre.mk hPc hKc hDc hz hS (fun q h => hFc q h)⟩ rfl rfl hl.1 rfl (lv_room (Nat.le_of_ble_eq_true rfl)) dL_dope_5 ⟨Nat.le_of_ble_eq_true rfl, Nat.le_of_ble_eq_true rfl⟩) hS (fun q _ h => hFc q h) (fun q h => hFc q h) (fun q _ h => hFc q h) (fun E9 ce q9 u t H1 locs ht9 hvm hpx hBX hz1 hk1 hS hcell hv9 hcl => ?_) (fun _ _ t H1 locs _ _ hw _ _ _ _ => hw.elim)
  · cases hBX
    refine vx_catch hown [] _ _ htb (fun z hz9 => nomatch hz9) (by decide) (by decide) (hts (.classLink RL 25 "java/lang/IndexOutOfBoundsException") (by decide +kernel)) (hz.w (.castable "java/lang/IndexOutOfBoundsException" "java/lang/IndexOutOfBoundsException") (by decide +kernel)) hcell hv9 hcl ?_
    refine W.eq (g2 := F0 m 20 ls [.ref q9]) rfl ?_
    refine lv_astore (lv' := [(4, .ref q9), (0, .ref h0), (1, .int x1), (2, .int x2), (3, .ref o)]) hx hb dL_dope_20 hl (by decide) rfl (fun ls hl => ?_)
    refine lv_iconst (v := 1) hx hb dL_dope_22 (by decide) ?_
    refine W.widen (k := 1) (n := 6) (by omega) (by omega) ?_
    refine vx_ret ?_
    exact W.iret (v := 1) hx hb hr (fun t ht9 hW => ⟨⟨1, (), rfl, rfl, trivial⟩, hS.F ht9⟩) hS.2.2 dL_dope_23

def zL_decide_ws : List Cond := .codeWith yL_decide cL_decide 5 (some .int) [(0, 9, 12, 25), (0, 9, 16, 15)] :: ([.methodLink RL 88 yX11_decide, .instanceMethod yX11_decide, .selects RX11 yX11_decide yX11_decide, .initialized RX11, .classLink RL 25 "java/lang/IndexOutOfBoundsException"] ++ (zX11_decide_ws ++ ([])))
theorem zL_decide_ws_good : zL_decide_ws.all goodWord = true := by decide +kernel
set_option maxHeartbeats 4000000 in
set_option maxRecDepth 100000 in
/-- the law's decide: 1 is thrown -/
theorem cl_decide (l : Launch) (hst : l.stackTraces = false) (D : va_G) (sz : Nat) (h0 : Nat) (a : Nat → Nat) (p1 p2 p3 : Nat) (x1 x2 : Int32) (o : Nat) : vx_Met l yL_decide zL_decide_ws (zR 4 1 6) (zPre [.ref h0, .int x1, .int x2, .ref o] D [(h0, .inr (17, zHS a)), ((a 2), .inr (11, [.ref p1, .ref p2, .ref p3, .int 0, .long 0]))] [] (fun q : Nat => sz ≤ q) sz) (va_Qi (S := Unit) (fun r _ => r = 1) (fun _ _ => True) (fun q : Nat => sz ≤ q)) (vx_X (S := Unit) (fun _ => False) (fun _ _ _ => True) (fun q : Nat => sz ≤ q)) 1 6 (fun q : Nat => sz ≤ q) := by
  refine vx_ofWH (cc := cL_decide) (maxL := 5) (ret := (some .int)) (by decide) rfl ?_
  intro p e s m args below meth c s₁ B hml hv
  have htb : c.exceptionTable.toList = tableOf [(0, 9, 12, 25), (0, 9, 16, 15)] := vx_table (x := yL_decide) B (atoms_spec (ws := zL_decide_ws) B.pre _ List.mem_cons_self)
  obtain ⟨rfl, hsz, hP, hK, hD0, hz⟩ := hv
  have hx := B.exec
  have hb := B.bytes
  have hr := B.returns
  have hts := atoms_spec (ws := zL_decide_ws) B.pre
  have hown : s.vm.findClass RL = some m.cls := findClass_of_methodNamed B.named
  have hlocks := B.notSynchronized
  subst hsz
  obtain ⟨A, hAe⟩ : ∃ A : Nat → Prop, A = (fun q : Nat => s.heap.size ≤ q) := ⟨_, rfl⟩
  rw [← hAe] at hz ⊢
  have hA : ∀ q : Nat, s.heap.size ≤ q → A q := fun q h => by rw [hAe]; exact h
  have hD := hD0
  have hS : va_S A s.heap s.heap [] := va_S.rf
  have hP : va_P D vwCl [(h0, .inr (17, zHS a)), ((a 2), .inr (11, [.ref p1, .ref p2, .ref p3, .int 0, .long 0]))] s.heap := hP
  have hl := lv_entry ([.ref h0, .int x1, .int x2, .ref o]) (n := 5) (Nat.le_of_ble_eq_true rfl)
  rw [lg_entry_eq]
  generalize (lg_sl ([.ref h0, .int x1, .int x2, .ref o]) ++ List.replicate (5 - (lg_sl ([.ref h0, .int x1, .int x2, .ref o])).length) Slot.unset).toArray = ls at hl ⊢
  have hl : lv_has ls 5 [(0, .ref h0), (1, .int x1), (2, .int x2), (3, .ref o)] := hl
  refine lv_aload_n hx hb dL_decide_0 rfl (lv_at hl 3 rfl) ?_
  refine lv_iconst (v := 0) hx hb dL_decide_1 (by decide) ?_
  refine lv_aload_n hx hb dL_decide_2 rfl (lv_at hl 0 rfl) ?_
  refine lv_iload_n hx hb dL_decide_3 rfl (lv_at hl 1 rfl) ?_
  refine lv_iload_n hx hb dL_decide_4 rfl (lv_at hl 2 rfl) ?_
  have hPc := hP.sub (ws' := [(h0, .inr (17, zHS a)), ((a 2), .inr (11, [.ref p1, .ref p2, .ref p3, .int 0, .long 0]))]) [0, 1] rfl
  have hDc := hD.sub (ws' := [(h0, .inr (17, zHS a)), ((a 2), .inr (11, [.ref p1, .ref p2, .ref p3, .int 0, .long 0]))]) [0, 1] (by decide) rfl
  have hKc := hK.sub (tys' := []) [] rfl
  have hFc : ∀ q : Nat, s.heap.size ≤ q → A q := fun q h => hA q (Nat.le_trans hS.1 h)
  refine vx_calll (vx_runV (As := [.int x1, .int x2]) (rest := [.int 0, .ref o]) ⟨hx, hb, hml, hown, hts⟩ (c_decide l hst D s.heap.size h0 a p1 p2 p3 x1 x2) (cwV 2 hts (goodIn_app (goodIn_of _ (by decide +kernel)) (goodIn_sub (fun _ h => List.mem_cons_of_mem _ (List.mem_append_right _ (List.mem_append_left _ h))) zX11_decide_ws_good)) rfl rfl rfl (by decide +kernel) ⟨Nat.le_of_ble_eq_true rfl, Nat.le_of_ble_eq_true rfl⟩) ⟨zPre.blind, va_recv hKc hPc (ci := 17) (q0 := 0) rfl rfl, zPre.mk hPc hKc hDc hz hS (fun q h => hFc q h)⟩ rfl rfl hl.1 rfl (lv_room (Nat.le_of_ble_eq_true rfl)) dL_decide_5 ⟨Nat.le_of_ble_eq_true rfl, Nat.le_of_ble_eq_true rfl⟩) hS (fun q _ h => hFc q h) (fun q h => hFc q h) (fun q _ h => hFc q h) (fun E9 ce q9 u t H1 locs ht9 hvm hpx hBX hz1 hk1 hS hcell hv9 hcl => ?_) (fun _ _ t H1 locs _ _ hw _ _ _ _ => hw.elim)
  · cases hBX
    refine vx_catch hown [] _ _ htb (fun z hz9 => nomatch hz9) (by decide) (by decide) (hts (.classLink RL 25 "java/lang/IndexOutOfBoundsException") (by decide +kernel)) (hz.w (.castable "java/lang/IndexOutOfBoundsException" "java/lang/IndexOutOfBoundsException") (by decide +kernel)) hcell hv9 hcl ?_
    refine W.eq (g2 := F0 m 12 ls [.ref q9]) rfl ?_
    refine lv_astore (lv' := [(4, .ref q9), (0, .ref h0), (1, .int x1), (2, .int x2), (3, .ref o)]) hx hb dL_decide_12 hl (by decide) rfl (fun ls hl => ?_)
    refine lv_iconst (v := 1) hx hb dL_decide_14 (by decide) ?_
    refine W.widen (k := 1) (n := 6) (by omega) (by omega) ?_
    refine vx_ret ?_
    exact W.iret (v := 1) hx hb hr (fun t ht9 hW => ⟨⟨1, (), rfl, rfl, trivial⟩, hS.F ht9⟩) hS.2.2 dL_decide_15
