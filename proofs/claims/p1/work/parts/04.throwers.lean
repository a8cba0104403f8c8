/-! printed rows that this part uses -/
def wsX11_eventAt : List Cond := .code yX11_eventAt cX11_eventAt 3 (some (.object "HeatStadium$Event")) :: ([.classLink RX11 299 "java/lang/IndexOutOfBoundsException", .initialized "java/lang/IndexOutOfBoundsException", .fieldLink RX11 64 "HeatStadium" "eventCount" "I", .fieldLink RX11 18 "HeatStadium" "events" "[LHeatStadium$Event;"] ++ wsX110 ++ (vx_atS RX11 303 "java/lang/IndexOutOfBoundsException" ["java/lang/RuntimeException", "java/lang/Exception"]).filter goodWord)
theorem dX11_eventAt_0 : decode cX11_eventAt 0 = .ok (.iload_n 1, 1) := by decide +kernel
theorem dX11_eventAt_1 : decode cX11_eventAt 1 = .ok (.ifCond .lt 11, 3) := by decide +kernel
theorem dX11_eventAt_4 : decode cX11_eventAt 4 = .ok (.iload_n 1, 1) := by decide +kernel
theorem dX11_eventAt_5 : decode cX11_eventAt 5 = .ok (.aload_n 0, 1) := by decide +kernel
theorem dX11_eventAt_6 : decode cX11_eventAt 6 = .ok (.getfield 64, 3) := by decide +kernel
theorem dX11_eventAt_9 : decode cX11_eventAt 9 = .ok (.if_icmp .lt 14, 3) := by decide +kernel
theorem dX11_eventAt_12 : decode cX11_eventAt 12 = .ok (.new 299, 3) := by decide +kernel
theorem dX11_eventAt_15 : decode cX11_eventAt 15 = .ok (.dup, 1) := by decide +kernel
theorem dX11_eventAt_16 : decode cX11_eventAt 16 = .ok (.ldc_w 382, 3) := by decide +kernel
theorem dX11_eventAt_19 : decode cX11_eventAt 19 = .ok (.invokespecial 303, 3) := by decide +kernel
theorem dX11_eventAt_22 : decode cX11_eventAt 22 = .ok (.athrow, 1) := by decide +kernel
set_option maxHeartbeats 4000000 in
set_option maxRecDepth 100000 in
/-- eventAt(n) of games without events: throws -/
theorem c_eventAt (l : Launch) (hl : l.stackTraces = false) (D : va_G) (h0 sz : Nat) (a : Nat → Nat) (x1 : Int32) : vx_Met l yX11_eventAt wsX11_eventAt (zR 0 1 6) (zPre [.ref h0, .int x1] D [(h0, .inr (17, zHS a))] [] (fun q => sz ≤ q) sz) (va_Qq (S := Unit) (fun _ _ => False) (fun _ _ => True) (fun q => sz ≤ q)) (zThr "java/lang/IndexOutOfBoundsException" (fun q => sz ≤ q)) 1 6 (fun q => sz ≤ q) := by
  refine vx_ofW (cc := cX11_eventAt) (maxL := 3) (ret := some (.object "HeatStadium$Event")) (by decide) rfl ?_
  intro p e s m args below meth c s₁ B hml ht hv
  obtain ⟨rfl, hsz, hP, hK, hD0, hz⟩ := hv
  have hx := B.exec
  have hb := B.bytes
  have hr := B.returns
  have hts := atoms_spec (ws := wsX11_eventAt) B.pre
  have hown : s.vm.findClass RX11 = some m.cls := findClass_of_methodNamed B.named
  have hlocks := B.notSynchronized
  subst hsz
  have hA : ∀ q : Nat, s.heap.size ≤ q → (fun q => s.heap.size ≤ q) q := fun q h => h
  have hS : va_S (fun q => s.heap.size ≤ q) s.heap s.heap [] := va_S.rf
  have hl' := lv_entry ([.ref h0, .int x1]) (n := 3) (Nat.le_of_ble_eq_true rfl)
  rw [lg_entry_eq]
  generalize (lg_sl ([.ref h0, .int x1]) ++ List.replicate (3 - (lg_sl ([.ref h0, .int x1])).length) Slot.unset).toArray = ls at hl' ⊢
  have hl9 : lv_has ls 3 [(0, .ref h0), (1, .int x1)] := hl'
  have hat : ∀ w ∈ vx_atS RX11 303 "java/lang/IndexOutOfBoundsException" ["java/lang/RuntimeException", "java/lang/Exception"], w.before (([.ref h0, .int x1] : List Value).toArray) s = true := by
    refine vx_hat (B := zWords) (fun w hw => hts w ?_) ?_ (fun w hw => hz.w w hw)
    · exact List.mem_cons_of_mem _ (List.mem_append_right _ hw)
    · decide +kernel
  have hthr : W p l e (headSpec wsX11_eventAt (zR 0 1 6)).room s m (([.ref h0, .int x1] : List Value).toArray) below meth c s.heap [] 0 0 (vx_MQ below (va_Qq (S := Unit) (fun _ _ => False) (fun _ _ => True) (fun q => s.heap.size ≤ q)) (zThr "java/lang/IndexOutOfBoundsException" (fun q => s.heap.size ≤ q)) (([.ref h0, .int x1] : List Value).toArray) s 1 6 (fun q => s.heap.size ≤ q)) (F0 m 12 ls []) := by
    obtain ⟨sa, hstr⟩ := hz.2.1 (RX11, 382, "no such event") (by decide +kernel)
    exact vx_throwSW hx hb hl hown (by decide +kernel) (by decide +kernel) (hts (.classLink RX11 299 "java/lang/IndexOutOfBoundsException") (by decide +kernel)) (hts (.initialized "java/lang/IndexOutOfBoundsException") (by decide +kernel)) hstr hat (List.all_eq_true.mp (by decide +kernel)) hz.1.1 hz.1.2 hS (hml ▸ hl9.1) dX11_eventAt_12 dX11_eventAt_15 dX11_eventAt_16 dX11_eventAt_19 dX11_eventAt_22 (fun x hx => (ht x hx).elim) (Nat.le_of_ble_eq_true rfl) (Nat.le_of_ble_eq_true rfl) (Nat.le_of_ble_eq_true rfl) (Nat.le_of_ble_eq_true rfl) hlocks (fun t _ h1 h2 => ⟨(), trivial, rfl, zF hS h1 h2⟩) hS.2.2 (Nat.le_of_ble_eq_true rfl) (Nat.le_of_ble_eq_true rfl)
  refine lv_iload_n hx hb dX11_eventAt_0 rfl (lv_at hl9 1 rfl) ?_
  refine lv_if_lt (tgt := 12) hx hb dX11_eventAt_1 (by decide) (fun _ => hthr) (fun c1 => ?_)
  refine lv_iload_n hx hb dX11_eventAt_4 rfl (lv_at hl9 1 rfl) ?_
  refine lv_aload_n hx hb dX11_eventAt_5 rfl (lv_at hl9 0 rfl) ?_
  refine va_get (D := D) (ci := 17) (v := .int 0) (C := RX11) (T := TX11) (N := 11) hx hb hts (by decide +kernel) hown hK hP 0 rfl rfl 8 (by decide) (hts (.fieldLink RX11 64 "HeatStadium" "eventCount" "I") (by decide +kernel)) (fun _ h9 => h9) rfl dX11_eventAt_6 ?_
  refine lv_icmp_lt (tgt := 23) hx hb dX11_eventAt_9 (by decide) (fun c2 => absurd c2 c1) (fun _ => hthr)
