/-! printed rows that this part uses -/
theorem dX11_athlete_0 : decode cX11_athlete 0 = .ok (.iload_n 1, 1) := by decide +kernel
theorem dX11_athlete_1 : decode cX11_athlete 1 = .ok (.invokestatic 74, 3) := by decide +kernel
theorem dX11_pass_0 : decode cX11_pass 0 = .ok (.iload_n 1, 1) := by decide +kernel
theorem dX11_pass_1 : decode cX11_pass 1 = .ok (.iconst 1, 1) := by decide +kernel
theorem dX11_pass_2 : decode cX11_pass 2 = .ok (.sipush 9999, 3) := by decide +kernel
theorem dX11_pass_5 : decode cX11_pass 5 = .ok (.invokestatic 98, 3) := by decide +kernel
theorem dX11_pass_8 : decode cX11_pass 8 = .ok (.aload_n 0, 1) := by decide +kernel
theorem dX11_pass_9 : decode cX11_pass 9 = .ok (.dup, 1) := by decide +kernel
theorem dX11_pass_10 : decode cX11_pass 10 = .ok (.getfield 68, 3) := by decide +kernel
theorem dX11_pass_13 : decode cX11_pass 13 = .ok (.iload_n 1, 1) := by decide +kernel
theorem dX11_pass_14 : decode cX11_pass 14 = .ok (.iadd, 1) := by decide +kernel
theorem dX11_pass_15 : decode cX11_pass 15 = .ok (.putfield 68, 3) := by decide +kernel
theorem dX11_pass_18 : decode cX11_pass 18 = .ok (.aload_n 0, 1) := by decide +kernel
theorem dX11_pass_19 : decode cX11_pass 19 = .ok (.getfield 68, 3) := by decide +kernel
theorem dX11_pass_22 : decode cX11_pass 22 = .ok (.ireturn, 1) := by decide +kernel
theorem dX11_medals_0 : decode cX11_medals 0 = .ok (.iload_n 1, 1) := by decide +kernel
theorem dX11_medals_1 : decode cX11_medals 1 = .ok (.invokestatic 74, 3) := by decide +kernel
theorem dX11_medals_4 : decode cX11_medals 4 = .ok (.iload_n 2, 1) := by decide +kernel
theorem dX11_medals_5 : decode cX11_medals 5 = .ok (.iconst 0, 1) := by decide +kernel
theorem dX11_medals_6 : decode cX11_medals 6 = .ok (.iconst 3, 1) := by decide +kernel
theorem dX11_medals_7 : decode cX11_medals 7 = .ok (.invokestatic 98, 3) := by decide +kernel
theorem dX11_inTable_0 : decode cX11_inTable 0 = .ok (.iload_n 1, 1) := by decide +kernel
theorem dX11_inTable_1 : decode cX11_inTable 1 = .ok (.iconst 0, 1) := by decide +kernel
theorem dX11_inTable_2 : decode cX11_inTable 2 = .ok (.bipush 7, 2) := by decide +kernel
theorem dX11_inTable_4 : decode cX11_inTable 4 = .ok (.invokestatic 98, 3) := by decide +kernel
theorem dX11_points_0 : decode cX11_points 0 = .ok (.iload_n 1, 1) := by decide +kernel
theorem dX11_points_1 : decode cX11_points 1 = .ok (.invokestatic 74, 3) := by decide +kernel
theorem dX11_points_4 : decode cX11_points 4 = .ok (.dconst 0, 1) := by decide +kernel
theorem dX11_points_5 : decode cX11_points 5 = .ok (.dstore_n 2, 1) := by decide +kernel
theorem dX11_points_6 : decode cX11_points 6 = .ok (.iconst 0, 1) := by decide +kernel
theorem dX11_points_7 : decode cX11_points 7 = .ok (.istore 4, 2) := by decide +kernel
theorem dX11_points_9 : decode cX11_points 9 = .ok (.iload 4, 2) := by decide +kernel
theorem dX11_points_11 : decode cX11_points 11 = .ok (.aload_n 0, 1) := by decide +kernel
theorem dX11_points_12 : decode cX11_points 12 = .ok (.getfield 64, 3) := by decide +kernel
theorem dX11_points_15 : decode cX11_points 15 = .ok (.if_icmp .ge 100, 3) := by decide +kernel
theorem dX11_points_115 : decode cX11_points 115 = .ok (.dload_n 2, 1) := by decide +kernel
theorem dX11_points_116 : decode cX11_points 116 = .ok (.dreturn, 1) := by decide +kernel
theorem dX11_shareBits_0 : decode cX11_shareBits 0 = .ok (.iload_n 1, 1) := by decide +kernel
theorem dX11_shareBits_1 : decode cX11_shareBits 1 = .ok (.invokestatic 74, 3) := by decide +kernel
theorem dX11_requireNation_0 : decode cX11_requireNation 0 = .ok (.iload_n 0, 1) := by decide +kernel
theorem dX11_requireNation_1 : decode cX11_requireNation 1 = .ok (.ifCond .lt 9, 3) := by decide +kernel
theorem dX11_requireNation_4 : decode cX11_requireNation 4 = .ok (.iload_n 0, 1) := by decide +kernel
theorem dX11_requireNation_5 : decode cX11_requireNation 5 = .ok (.bipush 8, 2) := by decide +kernel
theorem dX11_requireNation_7 : decode cX11_requireNation 7 = .ok (.if_icmp .lt 14, 3) := by decide +kernel
theorem dX11_requireNation_10 : decode cX11_requireNation 10 = .ok (.new 92, 3) := by decide +kernel
theorem dX11_requireNation_13 : decode cX11_requireNation 13 = .ok (.dup, 1) := by decide +kernel
theorem dX11_requireNation_14 : decode cX11_requireNation 14 = .ok (.ldc_w 386, 3) := by decide +kernel
theorem dX11_requireNation_17 : decode cX11_requireNation 17 = .ok (.invokespecial 96, 3) := by decide +kernel
theorem dX11_requireNation_20 : decode cX11_requireNation 20 = .ok (.athrow, 1) := by decide +kernel
theorem dX11_requireNation_21 : decode cX11_requireNation 21 = .ok (.return_, 1) := by decide +kernel
theorem dX11_requireRange_0 : decode cX11_requireRange 0 = .ok (.iload_n 0, 1) := by decide +kernel
theorem dX11_requireRange_1 : decode cX11_requireRange 1 = .ok (.iload_n 1, 1) := by decide +kernel
theorem dX11_requireRange_2 : decode cX11_requireRange 2 = .ok (.if_icmp .lt 8, 3) := by decide +kernel
theorem dX11_requireRange_5 : decode cX11_requireRange 5 = .ok (.iload_n 0, 1) := by decide +kernel
theorem dX11_requireRange_6 : decode cX11_requireRange 6 = .ok (.iload_n 2, 1) := by decide +kernel
theorem dX11_requireRange_7 : decode cX11_requireRange 7 = .ok (.if_icmp .le 14, 3) := by decide +kernel
theorem dX11_requireRange_10 : decode cX11_requireRange 10 = .ok (.new 92, 3) := by decide +kernel
theorem dX11_requireRange_13 : decode cX11_requireRange 13 = .ok (.dup, 1) := by decide +kernel
theorem dX11_requireRange_14 : decode cX11_requireRange 14 = .ok (.ldc_w 388, 3) := by decide +kernel
theorem dX11_requireRange_17 : decode cX11_requireRange 17 = .ok (.invokespecial 96, 3) := by decide +kernel
theorem dX11_requireRange_20 : decode cX11_requireRange 20 = .ok (.athrow, 1) := by decide +kernel
theorem dX11_requireRange_21 : decode cX11_requireRange 21 = .ok (.return_, 1) := by decide +kernel
theorem zin_1 {v low high : Int32} (h : zin v low high = 1) : low ≤ v ∧ v ≤ high := by
  rcases Decidable.em (low ≤ v ∧ v ≤ high) with q | q
  · exact q
  · rw [zin, if_neg q] at h; exact absurd h (by decide)
theorem zin_0 {v low high : Int32} (h : zin v low high = 0) : ¬ (low ≤ v ∧ v ≤ high) := by
  intro q
  rw [zin, if_pos q] at h; exact absurd h (by decide)
theorem zin_or (v low high : Int32) : zin v low high = 0 ∨ zin v low high = 1 := by
  rcases Decidable.em (low ≤ v ∧ v ≤ high) with q | q
  · exact Or.inr (if_pos q)
  · exact Or.inl (if_neg q)
theorem z87 {x : Int32} : x < 8 ↔ x ≤ 7 := by
  rw [Int32.lt_iff_toInt_lt, Int32.le_iff_toInt_le]
  have h8 : (8 : Int32).toInt = 8 := by decide
  have h7 : (7 : Int32).toInt = 7 := by decide
  rw [h8, h7]; omega
def zrr1 : List Cond := .code yX11_requireRange cX11_requireRange 3 none :: ([] ++ [])
theorem zrr1_good : zrr1.all goodWord = true := by decide +kernel
set_option maxHeartbeats 4000000 in
set_option maxRecDepth 100000 in
/-- requireRange, in range -/
theorem c_requireRange_ok (l : Launch) (hst : l.stackTraces = false) (D : va_G) (sz : Nat) (x1 x2 x3 : Int32) (h : zin x1 x2 x3 = 1) : Met l yX11_requireRange zrr1 (zR 0 0 0) (zPre [.int x1, .int x2, .int x3] D [] [] (fun q : Nat => sz ≤ q) sz) (va_Qv (S := Unit) (fun _ => True) (fun _ _ => True) (fun q : Nat => sz ≤ q)) 0 0 (fun q : Nat => sz ≤ q) := by
  refine Met.ofW (cc := cX11_requireRange) (maxL := 3) (ret := none) (by decide) rfl ?_
  intro p e s m args below meth c s₁ B hml hv
  obtain ⟨rfl, hsz, hP, hK, hD0, hz⟩ := hv
  have hx := B.exec
  have hb := B.bytes
  have hr := B.returns
  have hts := atoms_spec (ws := zrr1) B.pre
  have hown : s.vm.findClass RX11 = some m.cls := findClass_of_methodNamed B.named
  have hlocks := B.notSynchronized
  subst hsz
  obtain ⟨A, hAe⟩ : ∃ A : Nat → Prop, A = (fun q : Nat => s.heap.size ≤ q) := ⟨_, rfl⟩
  rw [← hAe] at hz ⊢
  have hA : ∀ q : Nat, s.heap.size ≤ q → A q := fun q h => by rw [hAe]; exact h
  have hD := hD0
  have hS : va_S A s.heap s.heap [] := va_S.rf
  have hP : va_P D vwCl [] s.heap := hP
  have hl := lv_entry ([.int x1, .int x2, .int x3]) (n := 3) (Nat.le_of_ble_eq_true rfl)
  rw [lg_entry_eq]
  generalize (lg_sl ([.int x1, .int x2, .int x3]) ++ List.replicate (3 - (lg_sl ([.int x1, .int x2, .int x3])).length) Slot.unset).toArray = ls at hl ⊢
  have hl : lv_has ls 3 [(0, .int x1), (1, .int x2), (2, .int x3)] := hl
  refine lv_iload_n hx hb dX11_requireRange_0 rfl (lv_at hl 0 rfl) ?_
  refine lv_iload_n hx hb dX11_requireRange_1 rfl (lv_at hl 1 rfl) ?_
  refine lv_icmp_lt (tgt := 10) hx hb dX11_requireRange_2 (by decide) (fun c9 => absurd c9 (Int32.not_lt.mpr (zin_1 h).1)) (fun _ => ?_)
  refine lv_iload_n hx hb dX11_requireRange_5 rfl (lv_at hl 0 rfl) ?_
  refine lv_iload_n hx hb dX11_requireRange_6 rfl (lv_at hl 2 rfl) ?_
  refine lv_icmp_le (tgt := 21) hx hb dX11_requireRange_7 (by decide) (fun _ => ?_) (fun c9 => absurd (zin_1 h).2 c9)
  refine W.widen (k := 0) (n := 0) (by omega) (by omega) ?_
  exact W.vret hx hb hr (fun t ht9 hW => ⟨⟨(), rfl, trivial, trivial⟩, hS.F ht9⟩) hS.2.2 dX11_requireRange_21

def zrr2 : List Cond := .code yX11_requireRange cX11_requireRange 3 none :: ([.classLink RX11 92 "java/lang/IllegalArgumentException", .initialized "java/lang/IllegalArgumentException"] ++ (((vx_atS RX11 96 "java/lang/IllegalArgumentException" ["java/lang/RuntimeException", "java/lang/Exception"]).filter goodWord) ++ ([])))
theorem zrr2_good : zrr2.all goodWord = true := by decide +kernel
set_option maxHeartbeats 4000000 in
set_option maxRecDepth 100000 in
/-- requireRange, out of range: throws -/
theorem c_requireRange_no (l : Launch) (hst : l.stackTraces = false) (D : va_G) (sz : Nat) (x1 x2 x3 : Int32) (h : zin x1 x2 x3 = 0) : vx_Met l yX11_requireRange zrr2 (zR 0 1 6) (zPre [.int x1, .int x2, .int x3] D [] [] (fun q : Nat => sz ≤ q) sz) (va_Qv (S := Unit) (fun _ => False) (fun _ _ => True) (fun q : Nat => sz ≤ q)) (zThr "java/lang/IllegalArgumentException" (fun q : Nat => sz ≤ q)) 1 6 (fun q : Nat => sz ≤ q) := by
  refine vx_ofW (cc := cX11_requireRange) (maxL := 3) (ret := none) (by decide) rfl ?_
  intro p e s m args below meth c s₁ B hml ht hv
  obtain ⟨rfl, hsz, hP, hK, hD0, hz⟩ := hv
  have hx := B.exec
  have hb := B.bytes
  have hr := B.returns
  have hts := atoms_spec (ws := zrr2) B.pre
  have hown : s.vm.findClass RX11 = some m.cls := findClass_of_methodNamed B.named
  have hlocks := B.notSynchronized
  subst hsz
  obtain ⟨A, hAe⟩ : ∃ A : Nat → Prop, A = (fun q : Nat => s.heap.size ≤ q) := ⟨_, rfl⟩
  rw [← hAe] at hz ⊢
  have hA : ∀ q : Nat, s.heap.size ≤ q → A q := fun q h => by rw [hAe]; exact h
  have hD := hD0
  have hS : va_S A s.heap s.heap [] := va_S.rf
  have hP : va_P D vwCl [] s.heap := hP
  have hl := lv_entry ([.int x1, .int x2, .int x3]) (n := 3) (Nat.le_of_ble_eq_true rfl)
  rw [lg_entry_eq]
  generalize (lg_sl ([.int x1, .int x2, .int x3]) ++ List.replicate (3 - (lg_sl ([.int x1, .int x2, .int x3])).length) Slot.unset).toArray = ls at hl ⊢
  have hl : lv_has ls 3 [(0, .int x1), (1, .int x2), (2, .int x3)] := hl
  refine lv_iload_n hx hb dX11_requireRange_0 rfl (lv_at hl 0 rfl) ?_
  refine lv_iload_n hx hb dX11_requireRange_1 rfl (lv_at hl 1 rfl) ?_
  refine lv_icmp_lt (tgt := 10) hx hb dX11_requireRange_2 (by decide) (fun c1 => ?_) (fun c1 => ?_)
  · obtain ⟨sa, hstr⟩ := hz.2.1 (RX11, 388, "out of range") (by decide +kernel)
    exact vx_throwSW (names := ["java/lang/RuntimeException", "java/lang/Exception"]) hx hb hst hown (by decide +kernel) (by decide +kernel) (hts (.classLink RX11 92 "java/lang/IllegalArgumentException") (by decide +kernel)) (hts (.initialized "java/lang/IllegalArgumentException") (by decide +kernel)) hstr (vx_hat (B := zWords) (fun w hw => hts w (List.mem_cons_of_mem _ (List.mem_append_right _ (List.mem_append_left _ hw)))) (by decide +kernel) (fun w hw => hz.w w hw)) (List.all_eq_true.mp (by decide +kernel)) hz.1.1 hz.1.2 hS (hml ▸ hl.1) dX11_requireRange_10 dX11_requireRange_13 dX11_requireRange_14 dX11_requireRange_17 dX11_requireRange_20 (fun x hx => (ht x hx).elim) (Nat.le_of_ble_eq_true rfl) (Nat.le_of_ble_eq_true rfl) (Nat.le_of_ble_eq_true rfl) (Nat.le_of_ble_eq_true rfl) hlocks (fun t _ h1 h2 => ⟨(), trivial, rfl, zF hS h1 h2⟩) hS.2.2 (Nat.le_of_ble_eq_true rfl) (Nat.le_of_ble_eq_true rfl)
  · refine lv_iload_n hx hb dX11_requireRange_5 rfl (lv_at hl 0 rfl) ?_
    refine lv_iload_n hx hb dX11_requireRange_6 rfl (lv_at hl 2 rfl) ?_
    refine lv_icmp_le (tgt := 21) hx hb dX11_requireRange_7 (by decide) (fun c9 => absurd ⟨Int32.not_lt.mp c1, c9⟩ (zin_0 h)) (fun _ => ?_)
    obtain ⟨sa, hstr⟩ := hz.2.1 (RX11, 388, "out of range") (by decide +kernel)
    exact vx_throwSW (names := ["java/lang/RuntimeException", "java/lang/Exception"]) hx hb hst hown (by decide +kernel) (by decide +kernel) (hts (.classLink RX11 92 "java/lang/IllegalArgumentException") (by decide +kernel)) (hts (.initialized "java/lang/IllegalArgumentException") (by decide +kernel)) hstr (vx_hat (B := zWords) (fun w hw => hts w (List.mem_cons_of_mem _ (List.mem_append_right _ (List.mem_append_left _ hw)))) (by decide +kernel) (fun w hw => hz.w w hw)) (List.all_eq_true.mp (by decide +kernel)) hz.1.1 hz.1.2 hS (hml ▸ hl.1) dX11_requireRange_10 dX11_requireRange_13 dX11_requireRange_14 dX11_requireRange_17 dX11_requireRange_20 (fun x hx => (ht x hx).elim) (Nat.le_of_ble_eq_true rfl) (Nat.le_of_ble_eq_true rfl) (Nat.le_of_ble_eq_true rfl) (Nat.le_of_ble_eq_true rfl) hlocks (fun t _ h1 h2 => ⟨(), trivial, rfl, zF hS h1 h2⟩) hS.2.2 (Nat.le_of_ble_eq_true rfl) (Nat.le_of_ble_eq_true rfl)

def zrn1 : List Cond := .code yX11_requireNation cX11_requireNation 1 none :: ([] ++ [])
theorem zrn1_good : zrn1.all goodWord = true := by decide +kernel
set_option maxHeartbeats 4000000 in
set_option maxRecDepth 100000 in
/-- requireNation of a nation -/
theorem c_requireNation_ok (l : Launch) (hst : l.stackTraces = false) (D : va_G) (sz : Nat) (x1 : Int32) (h : zin x1 0 7 = 1) : Met l yX11_requireNation zrn1 (zR 0 0 0) (zPre [.int x1] D [] [] (fun q : Nat => sz ≤ q) sz) (va_Qv (S := Unit) (fun _ => True) (fun _ _ => True) (fun q : Nat => sz ≤ q)) 0 0 (fun q : Nat => sz ≤ q) := by
  refine Met.ofW (cc := cX11_requireNation) (maxL := 1) (ret := none) (by decide) rfl ?_
  intro p e s m args below meth c s₁ B hml hv
  obtain ⟨rfl, hsz, hP, hK, hD0, hz⟩ := hv
  have hx := B.exec
  have hb := B.bytes
  have hr := B.returns
  have hts := atoms_spec (ws := zrn1) B.pre
  have hown : s.vm.findClass RX11 = some m.cls := findClass_of_methodNamed B.named
  have hlocks := B.notSynchronized
  subst hsz
  obtain ⟨A, hAe⟩ : ∃ A : Nat → Prop, A = (fun q : Nat => s.heap.size ≤ q) := ⟨_, rfl⟩
  rw [← hAe] at hz ⊢
  have hA : ∀ q : Nat, s.heap.size ≤ q → A q := fun q h => by rw [hAe]; exact h
  have hD := hD0
  have hS : va_S A s.heap s.heap [] := va_S.rf
  have hP : va_P D vwCl [] s.heap := hP
  have hl := lv_entry ([.int x1]) (n := 1) (Nat.le_of_ble_eq_true rfl)
  rw [lg_entry_eq]
  generalize (lg_sl ([.int x1]) ++ List.replicate (1 - (lg_sl ([.int x1])).length) Slot.unset).toArray = ls at hl ⊢
  have hl : lv_has ls 1 [(0, .int x1)] := hl
  refine lv_iload_n hx hb dX11_requireNation_0 rfl (lv_at hl 0 rfl) ?_
  refine lv_if_lt (tgt := 10) hx hb dX11_requireNation_1 (by decide) (fun c9 => absurd c9 (Int32.not_lt.mpr (zin_1 h).1)) (fun _ => ?_)
  refine lv_iload_n hx hb dX11_requireNation_4 rfl (lv_at hl 0 rfl) ?_
  refine lv_bipush (v := 8) hx hb dX11_requireNation_5 (by decide) ?_
  refine lv_icmp_lt (tgt := 21) hx hb dX11_requireNation_7 (by decide) (fun _ => ?_) (fun c9 => absurd (z87.mpr (zin_1 h).2) c9)
  refine W.widen (k := 0) (n := 0) (by omega) (by omega) ?_
  exact W.vret hx hb hr (fun t ht9 hW => ⟨⟨(), rfl, trivial, trivial⟩, hS.F ht9⟩) hS.2.2 dX11_requireNation_21

def zrn2 : List Cond := .code yX11_requireNation cX11_requireNation 1 none :: ([.classLink RX11 92 "java/lang/IllegalArgumentException", .initialized "java/lang/IllegalArgumentException"] ++ (((vx_atS RX11 96 "java/lang/IllegalArgumentException" ["java/lang/RuntimeException", "java/lang/Exception"]).filter goodWord) ++ ([])))
theorem zrn2_good : zrn2.all goodWord = true := by decide +kernel
set_option maxHeartbeats 4000000 in
set_option maxRecDepth 100000 in
/-- requireNation of none: throws -/
theorem c_requireNation_no (l : Launch) (hst : l.stackTraces = false) (D : va_G) (sz : Nat) (x1 : Int32) (h : zin x1 0 7 = 0) : vx_Met l yX11_requireNation zrn2 (zR 0 1 6) (zPre [.int x1] D [] [] (fun q : Nat => sz ≤ q) sz) (va_Qv (S := Unit) (fun _ => False) (fun _ _ => True) (fun q : Nat => sz ≤ q)) (zThr "java/lang/IllegalArgumentException" (fun q : Nat => sz ≤ q)) 1 6 (fun q : Nat => sz ≤ q) := by
  refine vx_ofW (cc := cX11_requireNation) (maxL := 1) (ret := none) (by decide) rfl ?_
  intro p e s m args below meth c s₁ B hml ht hv
  obtain ⟨rfl, hsz, hP, hK, hD0, hz⟩ := hv
  have hx := B.exec
  have hb := B.bytes
  have hr := B.returns
  have hts := atoms_spec (ws := zrn2) B.pre
  have hown : s.vm.findClass RX11 = some m.cls := findClass_of_methodNamed B.named
  have hlocks := B.notSynchronized
  subst hsz
  obtain ⟨A, hAe⟩ : ∃ A : Nat → Prop, A = (fun q : Nat => s.heap.size ≤ q) := ⟨_, rfl⟩
  rw [← hAe] at hz ⊢
  have hA : ∀ q : Nat, s.heap.size ≤ q → A q := fun q h => by rw [hAe]; exact h
  have hD := hD0
  have hS : va_S A s.heap s.heap [] := va_S.rf
  have hP : va_P D vwCl [] s.heap := hP
  have hl := lv_entry ([.int x1]) (n := 1) (Nat.le_of_ble_eq_true rfl)
  rw [lg_entry_eq]
  generalize (lg_sl ([.int x1]) ++ List.replicate (1 - (lg_sl ([.int x1])).length) Slot.unset).toArray = ls at hl ⊢
  have hl : lv_has ls 1 [(0, .int x1)] := hl
  refine lv_iload_n hx hb dX11_requireNation_0 rfl (lv_at hl 0 rfl) ?_
  refine lv_if_lt (tgt := 10) hx hb dX11_requireNation_1 (by decide) (fun c1 => ?_) (fun c1 => ?_)
  · obtain ⟨sa, hstr⟩ := hz.2.1 (RX11, 386, "no such nation") (by decide +kernel)
    exact vx_throwSW (names := ["java/lang/RuntimeException", "java/lang/Exception"]) hx hb hst hown (by decide +kernel) (by decide +kernel) (hts (.classLink RX11 92 "java/lang/IllegalArgumentException") (by decide +kernel)) (hts (.initialized "java/lang/IllegalArgumentException") (by decide +kernel)) hstr (vx_hat (B := zWords) (fun w hw => hts w (List.mem_cons_of_mem _ (List.mem_append_right _ (List.mem_append_left _ hw)))) (by decide +kernel) (fun w hw => hz.w w hw)) (List.all_eq_true.mp (by decide +kernel)) hz.1.1 hz.1.2 hS (hml ▸ hl.1) dX11_requireNation_10 dX11_requireNation_13 dX11_requireNation_14 dX11_requireNation_17 dX11_requireNation_20 (fun x hx => (ht x hx).elim) (Nat.le_of_ble_eq_true rfl) (Nat.le_of_ble_eq_true rfl) (Nat.le_of_ble_eq_true rfl) (Nat.le_of_ble_eq_true rfl) hlocks (fun t _ h1 h2 => ⟨(), trivial, rfl, zF hS h1 h2⟩) hS.2.2 (Nat.le_of_ble_eq_true rfl) (Nat.le_of_ble_eq_true rfl)
  · refine lv_iload_n hx hb dX11_requireNation_4 rfl (lv_at hl 0 rfl) ?_
    refine lv_bipush (v := 8) hx hb dX11_requireNation_5 (by decide) ?_
    refine lv_icmp_lt (tgt := 21) hx hb dX11_requireNation_7 (by decide) (fun c9 => absurd ⟨Int32.not_lt.mp c1, z87.mp c9⟩ (zin_0 h)) (fun _ => ?_)
    obtain ⟨sa, hstr⟩ := hz.2.1 (RX11, 386, "no such nation") (by decide +kernel)
    exact vx_throwSW (names := ["java/lang/RuntimeException", "java/lang/Exception"]) hx hb hst hown (by decide +kernel) (by decide +kernel) (hts (.classLink RX11 92 "java/lang/IllegalArgumentException") (by decide +kernel)) (hts (.initialized "java/lang/IllegalArgumentException") (by decide +kernel)) hstr (vx_hat (B := zWords) (fun w hw => hts w (List.mem_cons_of_mem _ (List.mem_append_right _ (List.mem_append_left _ hw)))) (by decide +kernel) (fun w hw => hz.w w hw)) (List.all_eq_true.mp (by decide +kernel)) hz.1.1 hz.1.2 hS (hml ▸ hl.1) dX11_requireNation_10 dX11_requireNation_13 dX11_requireNation_14 dX11_requireNation_17 dX11_requireNation_20 (fun x hx => (ht x hx).elim) (Nat.le_of_ble_eq_true rfl) (Nat.le_of_ble_eq_true rfl) (Nat.le_of_ble_eq_true rfl) (Nat.le_of_ble_eq_true rfl) hlocks (fun t _ h1 h2 => ⟨(), trivial, rfl, zF hS h1 h2⟩) hS.2.2 (Nat.le_of_ble_eq_true rfl) (Nat.le_of_ble_eq_true rfl)

def zno_pass_no : List Cond := .code yX11_pass cX11_pass 2 (some .int) :: ([.methodLink RX11 98 yX11_requireRange, .static yX11_requireRange, .initialized RX11] ++ (zrr2 ++ ([])))
theorem zno_pass_no_good : zno_pass_no.all goodWord = true := by decide +kernel
set_option maxHeartbeats 4000000 in
set_option maxRecDepth 100000 in
/-- pass: out of range: throws -/
theorem c_pass_no (l : Launch) (hst : l.stackTraces = false) (D : va_G) (sz : Nat) (h0 : Nat) (a : Nat → Nat) (x1 : Int32) (h : zin x1 1 9999 = 0) : vx_Met l yX11_pass zno_pass_no (zR 3 1 6) (zPre [.ref h0, .int x1] D [(h0, .inr (17, zHS a))] [] (fun q : Nat => sz ≤ q) sz) (va_Qi (S := Unit) (fun _ _ => False) (fun _ _ => True) (fun q : Nat => sz ≤ q)) (zThr "java/lang/IllegalArgumentException" (fun q : Nat => sz ≤ q)) 1 6 (fun q : Nat => sz ≤ q) := by
  refine vx_ofW (cc := cX11_pass) (maxL := 2) (ret := (some .int)) (by decide) rfl ?_
  intro p e s m args below meth c s₁ B hml ht hv
  obtain ⟨rfl, hsz, hP, hK, hD0, hz⟩ := hv
  have hx := B.exec
  have hb := B.bytes
  have hr := B.returns
  have hts := atoms_spec (ws := zno_pass_no) B.pre
  have hown : s.vm.findClass RX11 = some m.cls := findClass_of_methodNamed B.named
  have hlocks := B.notSynchronized
  subst hsz
  obtain ⟨A, hAe⟩ : ∃ A : Nat → Prop, A = (fun q : Nat => s.heap.size ≤ q) := ⟨_, rfl⟩
  rw [← hAe] at hz ⊢
  have hA : ∀ q : Nat, s.heap.size ≤ q → A q := fun q h => by rw [hAe]; exact h
  have hD := hD0
  have hS : va_S A s.heap s.heap [] := va_S.rf
  have hP : va_P D vwCl [(h0, .inr (17, zHS a))] s.heap := hP
  have hl := lv_entry ([.ref h0, .int x1]) (n := 2) (Nat.le_of_ble_eq_true rfl)
  rw [lg_entry_eq]
  generalize (lg_sl ([.ref h0, .int x1]) ++ List.replicate (2 - (lg_sl ([.ref h0, .int x1])).length) Slot.unset).toArray = ls at hl ⊢
  have hl : lv_has ls 2 [(0, .ref h0), (1, .int x1)] := hl
  refine lv_iload_n hx hb dX11_pass_0 rfl (lv_at hl 1 rfl) ?_
  refine lv_iconst (v := 1) hx hb dX11_pass_1 (by decide) ?_
  refine lv_sipush (v := 9999) hx hb dX11_pass_2 (by decide) ?_
  have hPc := hP.sub (ws' := []) [] rfl
  have hDc := hD.sub (ws' := []) [] (by decide) rfl
  have hKc := hK.sub (tys' := []) [] rfl
  have hFc : ∀ q : Nat, s.heap.size ≤ q → A q := fun q h => hA q (Nat.le_trans hS.1 h)
  refine vx_callv (vx_runS (As := [.int x1, .int 1, .int 9999]) (rest := []) ⟨hx, hb, hml, hown, hts⟩ (c_requireRange_no l hst D s.heap.size x1 1 9999 h) (cwS 3 hts (goodIn_app (goodIn_of _ (by decide +kernel)) (goodIn_sub (fun _ h => List.mem_cons_of_mem _ (List.mem_append_right _ (List.mem_append_left _ h))) zrr2_good)) rfl rfl rfl (by decide +kernel) ⟨Nat.le_of_ble_eq_true rfl, Nat.le_of_ble_eq_true rfl⟩) ⟨zPre.blind, zPre.mk hPc hKc hDc hz hS (fun q h => hFc q h)⟩ rfl rfl hl.1 rfl (lv_room (Nat.le_of_ble_eq_true rfl)) dX11_pass_5 ⟨Nat.le_of_ble_eq_true rfl, Nat.le_of_ble_eq_true rfl⟩) hS (fun q _ h => hFc q h) (fun q h => hFc q h) (fun q _ h => hFc q h) (fun E9 ce q9 u t H1 locs ht9 hvm hpx hBX hz1 hk1 hS hcell hv9 hcl => ?_) (fun _ t H1 locs _ _ hw _ _ _ _ => hw.elim)
  · cases hBX
    exact vx_out (fun x hx => (ht x hx).elim) hlocks hcell hv9 hcl (fun t9 ht9 _ => ⟨(), trivial, rfl, hS.F ht9⟩) hS.2.2 (Nat.le_of_ble_eq_true rfl) (Nat.le_of_ble_eq_true rfl)

def zno_athlete_no : List Cond := .code yX11_athlete cX11_athlete 3 (some .int) :: ([.methodLink RX11 74 yX11_requireNation, .static yX11_requireNation, .initialized RX11] ++ (zrn2 ++ ([])))
theorem zno_athlete_no_good : zno_athlete_no.all goodWord = true := by decide +kernel
set_option maxHeartbeats 4000000 in
set_option maxRecDepth 100000 in
/-- athlete: out of range: throws -/
theorem c_athlete_no (l : Launch) (hst : l.stackTraces = false) (D : va_G) (sz : Nat) (h0 : Nat) (a : Nat → Nat) (x1 : Int32) (h : zin x1 0 7 = 0) : vx_Met l yX11_athlete zno_athlete_no (zR 3 1 6) (zPre [.ref h0, .int x1] D [(h0, .inr (17, zHS a))] [] (fun q : Nat => sz ≤ q) sz) (va_Qi (S := Unit) (fun _ _ => False) (fun _ _ => True) (fun q : Nat => sz ≤ q)) (zThr "java/lang/IllegalArgumentException" (fun q : Nat => sz ≤ q)) 1 6 (fun q : Nat => sz ≤ q) := by
  refine vx_ofW (cc := cX11_athlete) (maxL := 3) (ret := (some .int)) (by decide) rfl ?_
  intro p e s m args below meth c s₁ B hml ht hv
  obtain ⟨rfl, hsz, hP, hK, hD0, hz⟩ := hv
  have hx := B.exec
  have hb := B.bytes
  have hr := B.returns
  have hts := atoms_spec (ws := zno_athlete_no) B.pre
  have hown : s.vm.findClass RX11 = some m.cls := findClass_of_methodNamed B.named
  have hlocks := B.notSynchronized
  subst hsz
  obtain ⟨A, hAe⟩ : ∃ A : Nat → Prop, A = (fun q : Nat => s.heap.size ≤ q) := ⟨_, rfl⟩
  rw [← hAe] at hz ⊢
  have hA : ∀ q : Nat, s.heap.size ≤ q → A q := fun q h => by rw [hAe]; exact h
  have hD := hD0
  have hS : va_S A s.heap s.heap [] := va_S.rf
  have hP : va_P D vwCl [(h0, .inr (17, zHS a))] s.heap := hP
  have hl := lv_entry ([.ref h0, .int x1]) (n := 3) (Nat.le_of_ble_eq_true rfl)
  rw [lg_entry_eq]
  generalize (lg_sl ([.ref h0, .int x1]) ++ List.replicate (3 - (lg_sl ([.ref h0, .int x1])).length) Slot.unset).toArray = ls at hl ⊢
  have hl : lv_has ls 3 [(0, .ref h0), (1, .int x1)] := hl
  refine lv_iload_n hx hb dX11_athlete_0 rfl (lv_at hl 1 rfl) ?_
  have hPc := hP.sub (ws' := []) [] rfl
  have hDc := hD.sub (ws' := []) [] (by decide) rfl
  have hKc := hK.sub (tys' := []) [] rfl
  have hFc : ∀ q : Nat, s.heap.size ≤ q → A q := fun q h => hA q (Nat.le_trans hS.1 h)
  refine vx_callv (vx_runS (As := [.int x1]) (rest := []) ⟨hx, hb, hml, hown, hts⟩ (c_requireNation_no l hst D s.heap.size x1 h) (cwS 1 hts (goodIn_app (goodIn_of _ (by decide +kernel)) (goodIn_sub (fun _ h => List.mem_cons_of_mem _ (List.mem_append_right _ (List.mem_append_left _ h))) zrn2_good)) rfl rfl rfl (by decide +kernel) ⟨Nat.le_of_ble_eq_true rfl, Nat.le_of_ble_eq_true rfl⟩) ⟨zPre.blind, zPre.mk hPc hKc hDc hz hS (fun q h => hFc q h)⟩ rfl rfl hl.1 rfl (lv_room (Nat.le_of_ble_eq_true rfl)) dX11_athlete_1 ⟨Nat.le_of_ble_eq_true rfl, Nat.le_of_ble_eq_true rfl⟩) hS (fun q _ h => hFc q h) (fun q h => hFc q h) (fun q _ h => hFc q h) (fun E9 ce q9 u t H1 locs ht9 hvm hpx hBX hz1 hk1 hS hcell hv9 hcl => ?_) (fun _ t H1 locs _ _ hw _ _ _ _ => hw.elim)
  · cases hBX
    exact vx_out (fun x hx => (ht x hx).elim) hlocks hcell hv9 hcl (fun t9 ht9 _ => ⟨(), trivial, rfl, hS.F ht9⟩) hS.2.2 (Nat.le_of_ble_eq_true rfl) (Nat.le_of_ble_eq_true rfl)

def zno_points_no : List Cond := .code yX11_points cX11_points 7 (some .double) :: ([.methodLink RX11 74 yX11_requireNation, .static yX11_requireNation, .initialized RX11] ++ (zrn2 ++ ([])))
theorem zno_points_no_good : zno_points_no.all goodWord = true := by decide +kernel
set_option maxHeartbeats 4000000 in
set_option maxRecDepth 100000 in
/-- points: out of range: throws -/
theorem c_points_no (l : Launch) (hst : l.stackTraces = false) (D : va_G) (sz : Nat) (h0 : Nat) (a : Nat → Nat) (x1 : Int32) (h : zin x1 0 7 = 0) : vx_Met l yX11_points zno_points_no (zR 3 1 6) (zPre [.ref h0, .int x1] D [(h0, .inr (17, zHS a))] [] (fun q : Nat => sz ≤ q) sz) (va_Qd (S := Unit) (fun _ _ => False) (fun _ _ => True) (fun q : Nat => sz ≤ q)) (zThr "java/lang/IllegalArgumentException" (fun q : Nat => sz ≤ q)) 1 6 (fun q : Nat => sz ≤ q) := by
  refine vx_ofW (cc := cX11_points) (maxL := 7) (ret := (some .double)) (by decide) rfl ?_
  intro p e s m args below meth c s₁ B hml ht hv
  obtain ⟨rfl, hsz, hP, hK, hD0, hz⟩ := hv
  have hx := B.exec
  have hb := B.bytes
  have hr := B.returns
  have hts := atoms_spec (ws := zno_points_no) B.pre
  have hown : s.vm.findClass RX11 = some m.cls := findClass_of_methodNamed B.named
  have hlocks := B.notSynchronized
  subst hsz
  obtain ⟨A, hAe⟩ : ∃ A : Nat → Prop, A = (fun q : Nat => s.heap.size ≤ q) := ⟨_, rfl⟩
  rw [← hAe] at hz ⊢
  have hA : ∀ q : Nat, s.heap.size ≤ q → A q := fun q h => by rw [hAe]; exact h
  have hD := hD0
  have hS : va_S A s.heap s.heap [] := va_S.rf
  have hP : va_P D vwCl [(h0, .inr (17, zHS a))] s.heap := hP
  have hl := lv_entry ([.ref h0, .int x1]) (n := 7) (Nat.le_of_ble_eq_true rfl)
  rw [lg_entry_eq]
  generalize (lg_sl ([.ref h0, .int x1]) ++ List.replicate (7 - (lg_sl ([.ref h0, .int x1])).length) Slot.unset).toArray = ls at hl ⊢
  have hl : lv_has ls 7 [(0, .ref h0), (1, .int x1)] := hl
  refine lv_iload_n hx hb dX11_points_0 rfl (lv_at hl 1 rfl) ?_
  have hPc := hP.sub (ws' := []) [] rfl
  have hDc := hD.sub (ws' := []) [] (by decide) rfl
  have hKc := hK.sub (tys' := []) [] rfl
  have hFc : ∀ q : Nat, s.heap.size ≤ q → A q := fun q h => hA q (Nat.le_trans hS.1 h)
  refine vx_callv (vx_runS (As := [.int x1]) (rest := []) ⟨hx, hb, hml, hown, hts⟩ (c_requireNation_no l hst D s.heap.size x1 h) (cwS 1 hts (goodIn_app (goodIn_of _ (by decide +kernel)) (goodIn_sub (fun _ h => List.mem_cons_of_mem _ (List.mem_append_right _ (List.mem_append_left _ h))) zrn2_good)) rfl rfl rfl (by decide +kernel) ⟨Nat.le_of_ble_eq_true rfl, Nat.le_of_ble_eq_true rfl⟩) ⟨zPre.blind, zPre.mk hPc hKc hDc hz hS (fun q h => hFc q h)⟩ rfl rfl hl.1 rfl (lv_room (Nat.le_of_ble_eq_true rfl)) dX11_points_1 ⟨Nat.le_of_ble_eq_true rfl, Nat.le_of_ble_eq_true rfl⟩) hS (fun q _ h => hFc q h) (fun q h => hFc q h) (fun q _ h => hFc q h) (fun E9 ce q9 u t H1 locs ht9 hvm hpx hBX hz1 hk1 hS hcell hv9 hcl => ?_) (fun _ t H1 locs _ _ hw _ _ _ _ => hw.elim)
  · cases hBX
    exact vx_out (fun x hx => (ht x hx).elim) hlocks hcell hv9 hcl (fun t9 ht9 _ => ⟨(), trivial, rfl, hS.F ht9⟩) hS.2.2 (Nat.le_of_ble_eq_true rfl) (Nat.le_of_ble_eq_true rfl)

def zno_shareBits_no : List Cond := .code yX11_shareBits cX11_shareBits 2 (some .int) :: ([.methodLink RX11 74 yX11_requireNation, .static yX11_requireNation, .initialized RX11] ++ (zrn2 ++ ([])))
theorem zno_shareBits_no_good : zno_shareBits_no.all goodWord = true := by decide +kernel
set_option maxHeartbeats 4000000 in
set_option maxRecDepth 100000 in
/-- shareBits: out of range: throws -/
theorem c_shareBits_no (l : Launch) (hst : l.stackTraces = false) (D : va_G) (sz : Nat) (h0 : Nat) (a : Nat → Nat) (x1 : Int32) (h : zin x1 0 7 = 0) : vx_Met l yX11_shareBits zno_shareBits_no (zR 3 1 6) (zPre [.ref h0, .int x1] D [(h0, .inr (17, zHS a))] [] (fun q : Nat => sz ≤ q) sz) (va_Qi (S := Unit) (fun _ _ => False) (fun _ _ => True) (fun q : Nat => sz ≤ q)) (zThr "java/lang/IllegalArgumentException" (fun q : Nat => sz ≤ q)) 1 6 (fun q : Nat => sz ≤ q) := by
  refine vx_ofW (cc := cX11_shareBits) (maxL := 2) (ret := (some .int)) (by decide) rfl ?_
  intro p e s m args below meth c s₁ B hml ht hv
  obtain ⟨rfl, hsz, hP, hK, hD0, hz⟩ := hv
  have hx := B.exec
  have hb := B.bytes
  have hr := B.returns
  have hts := atoms_spec (ws := zno_shareBits_no) B.pre
  have hown : s.vm.findClass RX11 = some m.cls := findClass_of_methodNamed B.named
  have hlocks := B.notSynchronized
  subst hsz
  obtain ⟨A, hAe⟩ : ∃ A : Nat → Prop, A = (fun q : Nat => s.heap.size ≤ q) := ⟨_, rfl⟩
  rw [← hAe] at hz ⊢
  have hA : ∀ q : Nat, s.heap.size ≤ q → A q := fun q h => by rw [hAe]; exact h
  have hD := hD0
  have hS : va_S A s.heap s.heap [] := va_S.rf
  have hP : va_P D vwCl [(h0, .inr (17, zHS a))] s.heap := hP
  have hl := lv_entry ([.ref h0, .int x1]) (n := 2) (Nat.le_of_ble_eq_true rfl)
  rw [lg_entry_eq]
  generalize (lg_sl ([.ref h0, .int x1]) ++ List.replicate (2 - (lg_sl ([.ref h0, .int x1])).length) Slot.unset).toArray = ls at hl ⊢
  have hl : lv_has ls 2 [(0, .ref h0), (1, .int x1)] := hl
  refine lv_iload_n hx hb dX11_shareBits_0 rfl (lv_at hl 1 rfl) ?_
  have hPc := hP.sub (ws' := []) [] rfl
  have hDc := hD.sub (ws' := []) [] (by decide) rfl
  have hKc := hK.sub (tys' := []) [] rfl
  have hFc : ∀ q : Nat, s.heap.size ≤ q → A q := fun q h => hA q (Nat.le_trans hS.1 h)
  refine vx_callv (vx_runS (As := [.int x1]) (rest := []) ⟨hx, hb, hml, hown, hts⟩ (c_requireNation_no l hst D s.heap.size x1 h) (cwS 1 hts (goodIn_app (goodIn_of _ (by decide +kernel)) (goodIn_sub (fun _ h => List.mem_cons_of_mem _ (List.mem_append_right _ (List.mem_append_left _ h))) zrn2_good)) rfl rfl rfl (by decide +kernel) ⟨Nat.le_of_ble_eq_true rfl, Nat.le_of_ble_eq_true rfl⟩) ⟨zPre.blind, zPre.mk hPc hKc hDc hz hS (fun q h => hFc q h)⟩ rfl rfl hl.1 rfl (lv_room (Nat.le_of_ble_eq_true rfl)) dX11_shareBits_1 ⟨Nat.le_of_ble_eq_true rfl, Nat.le_of_ble_eq_true rfl⟩) hS (fun q _ h => hFc q h) (fun q h => hFc q h) (fun q _ h => hFc q h) (fun E9 ce q9 u t H1 locs ht9 hvm hpx hBX hz1 hk1 hS hcell hv9 hcl => ?_) (fun _ t H1 locs _ _ hw _ _ _ _ => hw.elim)
  · cases hBX
    exact vx_out (fun x hx => (ht x hx).elim) hlocks hcell hv9 hcl (fun t9 ht9 _ => ⟨(), trivial, rfl, hS.F ht9⟩) hS.2.2 (Nat.le_of_ble_eq_true rfl) (Nat.le_of_ble_eq_true rfl)

def zno_medals_no : List Cond := .code yX11_medals cX11_medals 3 (some .int) :: ([.methodLink RX11 74 yX11_requireNation, .static yX11_requireNation, .initialized RX11] ++ (zrn2 ++ ([])))
theorem zno_medals_no_good : zno_medals_no.all goodWord = true := by decide +kernel
set_option maxHeartbeats 4000000 in
set_option maxRecDepth 100000 in
/-- medals: out of range: throws -/
theorem c_medals_no (l : Launch) (hst : l.stackTraces = false) (D : va_G) (sz : Nat) (h0 : Nat) (a : Nat → Nat) (x1 x2 : Int32) (h : zin x1 0 7 = 0) : vx_Met l yX11_medals zno_medals_no (zR 3 1 6) (zPre [.ref h0, .int x1, .int x2] D [(h0, .inr (17, zHS a))] [] (fun q : Nat => sz ≤ q) sz) (va_Qi (S := Unit) (fun _ _ => False) (fun _ _ => True) (fun q : Nat => sz ≤ q)) (zThr "java/lang/IllegalArgumentException" (fun q : Nat => sz ≤ q)) 1 6 (fun q : Nat => sz ≤ q) := by
  refine vx_ofW (cc := cX11_medals) (maxL := 3) (ret := (some .int)) (by decide) rfl ?_
  intro p e s m args below meth c s₁ B hml ht hv
  obtain ⟨rfl, hsz, hP, hK, hD0, hz⟩ := hv
  have hx := B.exec
  have hb := B.bytes
  have hr := B.returns
  have hts := atoms_spec (ws := zno_medals_no) B.pre
  have hown : s.vm.findClass RX11 = some m.cls := findClass_of_methodNamed B.named
  have hlocks := B.notSynchronized
  subst hsz
  obtain ⟨A, hAe⟩ : ∃ A : Nat → Prop, A = (fun q : Nat => s.heap.size ≤ q) := ⟨_, rfl⟩
  rw [← hAe] at hz ⊢
  have hA : ∀ q : Nat, s.heap.size ≤ q → A q := fun q h => by rw [hAe]; exact h
  have hD := hD0
  have hS : va_S A s.heap s.heap [] := va_S.rf
  have hP : va_P D vwCl [(h0, .inr (17, zHS a))] s.heap := hP
  have hl := lv_entry ([.ref h0, .int x1, .int x2]) (n := 3) (Nat.le_of_ble_eq_true rfl)
  rw [lg_entry_eq]
  generalize (lg_sl ([.ref h0, .int x1, .int x2]) ++ List.replicate (3 - (lg_sl ([.ref h0, .int x1, .int x2])).length) Slot.unset).toArray = ls at hl ⊢
  have hl : lv_has ls 3 [(0, .ref h0), (1, .int x1), (2, .int x2)] := hl
  refine lv_iload_n hx hb dX11_medals_0 rfl (lv_at hl 1 rfl) ?_
  have hPc := hP.sub (ws' := []) [] rfl
  have hDc := hD.sub (ws' := []) [] (by decide) rfl
  have hKc := hK.sub (tys' := []) [] rfl
  have hFc : ∀ q : Nat, s.heap.size ≤ q → A q := fun q h => hA q (Nat.le_trans hS.1 h)
  refine vx_callv (vx_runS (As := [.int x1]) (rest := []) ⟨hx, hb, hml, hown, hts⟩ (c_requireNation_no l hst D s.heap.size x1 h) (cwS 1 hts (goodIn_app (goodIn_of _ (by decide +kernel)) (goodIn_sub (fun _ h => List.mem_cons_of_mem _ (List.mem_append_right _ (List.mem_append_left _ h))) zrn2_good)) rfl rfl rfl (by decide +kernel) ⟨Nat.le_of_ble_eq_true rfl, Nat.le_of_ble_eq_true rfl⟩) ⟨zPre.blind, zPre.mk hPc hKc hDc hz hS (fun q h => hFc q h)⟩ rfl rfl hl.1 rfl (lv_room (Nat.le_of_ble_eq_true rfl)) dX11_medals_1 ⟨Nat.le_of_ble_eq_true rfl, Nat.le_of_ble_eq_true rfl⟩) hS (fun q _ h => hFc q h) (fun q h => hFc q h) (fun q _ h => hFc q h) (fun E9 ce q9 u t H1 locs ht9 hvm hpx hBX hz1 hk1 hS hcell hv9 hcl => ?_) (fun _ t H1 locs _ _ hw _ _ _ _ => hw.elim)
  · cases hBX
    exact vx_out (fun x hx => (ht x hx).elim) hlocks hcell hv9 hcl (fun t9 ht9 _ => ⟨(), trivial, rfl, hS.F ht9⟩) hS.2.2 (Nat.le_of_ble_eq_true rfl) (Nat.le_of_ble_eq_true rfl)

def zno_medals_no2 : List Cond := .code yX11_medals cX11_medals 3 (some .int) :: ([.methodLink RX11 74 yX11_requireNation, .static yX11_requireNation, .initialized RX11, .methodLink RX11 98 yX11_requireRange, .static yX11_requireRange] ++ (zrn1 ++ (zrr2 ++ ([]))))
theorem zno_medals_no2_good : zno_medals_no2.all goodWord = true := by decide +kernel
set_option maxHeartbeats 4000000 in
set_option maxRecDepth 100000 in
/-- medals: out of range: throws -/
theorem c_medals_no2 (l : Launch) (hst : l.stackTraces = false) (D : va_G) (sz : Nat) (h0 : Nat) (a : Nat → Nat) (x1 x2 : Int32) (h : zin x1 0 7 = 1) (h2 : zin x2 0 3 = 0) : vx_Met l yX11_medals zno_medals_no2 (zR 3 1 6) (zPre [.ref h0, .int x1, .int x2] D [(h0, .inr (17, zHS a))] [] (fun q : Nat => sz ≤ q) sz) (va_Qi (S := Unit) (fun _ _ => False) (fun _ _ => True) (fun q : Nat => sz ≤ q)) (zThr "java/lang/IllegalArgumentException" (fun q : Nat => sz ≤ q)) 1 6 (fun q : Nat => sz ≤ q) := by
  refine vx_ofW (cc := cX11_medals) (maxL := 3) (ret := (some .int)) (by decide) rfl ?_
  intro p e s m args below meth c s₁ B hml ht hv
  obtain ⟨rfl, hsz, hP, hK, hD0, hz⟩ := hv
  have hx := B.exec
  have hb := B.bytes
  have hr := B.returns
  have hts := atoms_spec (ws := zno_medals_no2) B.pre
  have hown : s.vm.findClass RX11 = some m.cls := findClass_of_methodNamed B.named
  have hlocks := B.notSynchronized
  subst hsz
  obtain ⟨A, hAe⟩ : ∃ A : Nat → Prop, A = (fun q : Nat => s.heap.size ≤ q) := ⟨_, rfl⟩
  rw [← hAe] at hz ⊢
  have hA : ∀ q : Nat, s.heap.size ≤ q → A q := fun q h => by rw [hAe]; exact h
  have hD := hD0
  have hS : va_S A s.heap s.heap [] := va_S.rf
  have hP : va_P D vwCl [(h0, .inr (17, zHS a))] s.heap := hP
  have hl := lv_entry ([.ref h0, .int x1, .int x2]) (n := 3) (Nat.le_of_ble_eq_true rfl)
  rw [lg_entry_eq]
  generalize (lg_sl ([.ref h0, .int x1, .int x2]) ++ List.replicate (3 - (lg_sl ([.ref h0, .int x1, .int x2])).length) Slot.unset).toArray = ls at hl ⊢
  have hl : lv_has ls 3 [(0, .ref h0), (1, .int x1), (2, .int x2)] := hl
  refine lv_iload_n hx hb dX11_medals_0 rfl (lv_at hl 1 rfl) ?_
  have hPc := hP.sub (ws' := []) [] rfl
  have hDc := hD.sub (ws' := []) [] (by decide) rfl
  have hKc := hK.sub (tys' := []) [] rfl
  have hFc : ∀ q : Nat, s.heap.size ≤ q → A q := fun q h => hA q (Nat.le_trans hS.1 h)
  refine va_callv (va_runS (As := [.int x1]) (rest := []) ⟨hx, hb, hml, hown, hts⟩ (c_requireNation_ok l hst D s.heap.size x1 h) (cwS 1 hts (goodIn_app (goodIn_of _ (by decide +kernel)) (goodIn_sub (fun _ h => List.mem_cons_of_mem _ (List.mem_append_right _ (List.mem_append_left _ h))) zrn1_good)) rfl rfl rfl (by decide +kernel) ⟨Nat.le_of_ble_eq_true rfl, Nat.le_of_ble_eq_true rfl⟩) ⟨zPre.blind, zPre.mk hPc hKc hDc hz hS (fun q h => hFc q h)⟩ rfl rfl hl.1 rfl (lv_room (Nat.le_of_ble_eq_true rfl)) dX11_medals_1 ⟨Nat.le_of_ble_eq_true rfl, Nat.le_of_ble_eq_true rfl⟩) hS (fun q _ h => hFc q h) (fun q h => hFc q h) (fun u t H1 locs ht9 hvm hw hB hz1 hk1 hS => ?_)
  refine W.widen (k := 0) (n := 0) (by omega) (by omega) ?_
  have hP := zKeep hP hk1
  generalize H1 = H at hP hS ⊢
  have hP : va_P D vwCl [(h0, .inr (17, zHS a))] H := hP
  refine lv_iload_n hx hb dX11_medals_4 rfl (lv_at hl 2 rfl) ?_
  refine lv_iconst (v := 0) hx hb dX11_medals_5 (by decide) ?_
  refine lv_iconst (v := 3) hx hb dX11_medals_6 (by decide) ?_
  have hPc := hP.sub (ws' := []) [] rfl
  have hDc := hD.sub (ws' := []) [] (by decide) rfl
  have hKc := hK.sub (tys' := []) [] rfl
  have hFc : ∀ q : Nat, H.size ≤ q → A q := fun q h => hA q (Nat.le_trans hS.1 h)
  refine vx_callv (vx_runS (As := [.int x2, .int 0, .int 3]) (rest := []) ⟨hx, hb, hml, hown, hts⟩ (c_requireRange_no l hst D H.size x2 0 3 h2) (cwS 3 hts (goodIn_app (goodIn_of _ (by decide +kernel)) (goodIn_sub (fun _ h => List.mem_cons_of_mem _ (List.mem_append_right _ (List.mem_append_right _ (List.mem_append_left _ h)))) zrr2_good)) rfl rfl rfl (by decide +kernel) ⟨Nat.le_of_ble_eq_true rfl, Nat.le_of_ble_eq_true rfl⟩) ⟨zPre.blind, zPre.mk hPc hKc hDc hz hS (fun q h => hFc q h)⟩ rfl rfl hl.1 rfl (lv_room (Nat.le_of_ble_eq_true rfl)) dX11_medals_7 ⟨Nat.le_of_ble_eq_true rfl, Nat.le_of_ble_eq_true rfl⟩) hS (fun q _ h => hFc q h) (fun q h => hFc q h) (fun q _ h => hFc q h) (fun E9 ce q9 u t H1 locs ht9 hvm hpx hBX hz1 hk1 hS hcell hv9 hcl => ?_) (fun _ t H1 locs _ _ hw _ _ _ _ => hw.elim)
  · cases hBX
    exact vx_out (fun x hx => (ht x hx).elim) hlocks hcell hv9 hcl (fun t9 ht9 _ => ⟨(), trivial, rfl, hS.F ht9⟩) hS.2.2 (Nat.le_of_ble_eq_true rfl) (Nat.le_of_ble_eq_true rfl)

def zno_inTable_no : List Cond := .code yX11_inTable cX11_inTable 3 (some .int) :: ([.methodLink RX11 98 yX11_requireRange, .static yX11_requireRange, .initialized RX11] ++ (zrr2 ++ ([])))
theorem zno_inTable_no_good : zno_inTable_no.all goodWord = true := by decide +kernel
set_option maxHeartbeats 4000000 in
set_option maxRecDepth 100000 in
/-- inTable: out of range: throws -/
theorem c_inTable_no (l : Launch) (hst : l.stackTraces = false) (D : va_G) (sz : Nat) (h0 : Nat) (a : Nat → Nat) (x1 x2 : Int32) (h : zin x1 0 7 = 0) : vx_Met l yX11_inTable zno_inTable_no (zR 3 1 6) (zPre [.ref h0, .int x1, .int x2] D [(h0, .inr (17, zHS a))] [] (fun q : Nat => sz ≤ q) sz) (va_Qi (S := Unit) (fun _ _ => False) (fun _ _ => True) (fun q : Nat => sz ≤ q)) (zThr "java/lang/IllegalArgumentException" (fun q : Nat => sz ≤ q)) 1 6 (fun q : Nat => sz ≤ q) := by
  refine vx_ofW (cc := cX11_inTable) (maxL := 3) (ret := (some .int)) (by decide) rfl ?_
  intro p e s m args below meth c s₁ B hml ht hv
  obtain ⟨rfl, hsz, hP, hK, hD0, hz⟩ := hv
  have hx := B.exec
  have hb := B.bytes
  have hr := B.returns
  have hts := atoms_spec (ws := zno_inTable_no) B.pre
  have hown : s.vm.findClass RX11 = some m.cls := findClass_of_methodNamed B.named
  have hlocks := B.notSynchronized
  subst hsz
  obtain ⟨A, hAe⟩ : ∃ A : Nat → Prop, A = (fun q : Nat => s.heap.size ≤ q) := ⟨_, rfl⟩
  rw [← hAe] at hz ⊢
  have hA : ∀ q : Nat, s.heap.size ≤ q → A q := fun q h => by rw [hAe]; exact h
  have hD := hD0
  have hS : va_S A s.heap s.heap [] := va_S.rf
  have hP : va_P D vwCl [(h0, .inr (17, zHS a))] s.heap := hP
  have hl := lv_entry ([.ref h0, .int x1, .int x2]) (n := 3) (Nat.le_of_ble_eq_true rfl)
  rw [lg_entry_eq]
  generalize (lg_sl ([.ref h0, .int x1, .int x2]) ++ List.replicate (3 - (lg_sl ([.ref h0, .int x1, .int x2])).length) Slot.unset).toArray = ls at hl ⊢
  have hl : lv_has ls 3 [(0, .ref h0), (1, .int x1), (2, .int x2)] := hl
  refine lv_iload_n hx hb dX11_inTable_0 rfl (lv_at hl 1 rfl) ?_
  refine lv_iconst (v := 0) hx hb dX11_inTable_1 (by decide) ?_
  refine lv_bipush (v := 7) hx hb dX11_inTable_2 (by decide) ?_
  have hPc := hP.sub (ws' := []) [] rfl
  have hDc := hD.sub (ws' := []) [] (by decide) rfl
  have hKc := hK.sub (tys' := []) [] rfl
  have hFc : ∀ q : Nat, s.heap.size ≤ q → A q := fun q h => hA q (Nat.le_trans hS.1 h)
  refine vx_callv (vx_runS (As := [.int x1, .int 0, .int 7]) (rest := []) ⟨hx, hb, hml, hown, hts⟩ (c_requireRange_no l hst D s.heap.size x1 0 7 h) (cwS 3 hts (goodIn_app (goodIn_of _ (by decide +kernel)) (goodIn_sub (fun _ h => List.mem_cons_of_mem _ (List.mem_append_right _ (List.mem_append_left _ h))) zrr2_good)) rfl rfl rfl (by decide +kernel) ⟨Nat.le_of_ble_eq_true rfl, Nat.le_of_ble_eq_true rfl⟩) ⟨zPre.blind, zPre.mk hPc hKc hDc hz hS (fun q h => hFc q h)⟩ rfl rfl hl.1 rfl (lv_room (Nat.le_of_ble_eq_true rfl)) dX11_inTable_4 ⟨Nat.le_of_ble_eq_true rfl, Nat.le_of_ble_eq_true rfl⟩) hS (fun q _ h => hFc q h) (fun q h => hFc q h) (fun q _ h => hFc q h) (fun E9 ce q9 u t H1 locs ht9 hvm hpx hBX hz1 hk1 hS hcell hv9 hcl => ?_) (fun _ t H1 locs _ _ hw _ _ _ _ => hw.elim)
  · cases hBX
    exact vx_out (fun x hx => (ht x hx).elim) hlocks hcell hv9 hcl (fun t9 ht9 _ => ⟨(), trivial, rfl, hS.F ht9⟩) hS.2.2 (Nat.le_of_ble_eq_true rfl) (Nat.le_of_ble_eq_true rfl)

def zX11_pass_ws : List Cond := .code yX11_pass cX11_pass 2 (some .int) :: ([.methodLink RX11 98 yX11_requireRange, .static yX11_requireRange, .initialized RX11, .fieldLink RX11 68 "HeatStadium" "minute" "I"] ++ (zrr1 ++ (wsX110 ++ ([]))))
theorem zX11_pass_ws_good : zX11_pass_ws.all goodWord = true := by decide +kernel
set_option maxHeartbeats 4000000 in
set_option maxRecDepth 100000 in
/-- pass of games at the minute 0 -/
theorem c_pass_ok (l : Launch) (hst : l.stackTraces = false) (D : va_G) (sz : Nat) (h0 : Nat) (a : Nat → Nat) (x1 : Int32) (h : zin x1 1 9999 = 1) : Met l yX11_pass zX11_pass_ws (zR 3 0 0) (zPre [.ref h0, .int x1] D [(h0, .inr (17, zHS a))] [] (va_A [(h0, .inr (17, zHS a))] sz) sz) (va_Qi (S := Unit) (fun r _ => r = 0 + x1) (fun _ t => zAt D [] [] (va_A [(h0, .inr (17, zHS a))] sz) t) (va_A [(h0, .inr (17, zHS a))] sz)) 0 0 (va_A [(h0, .inr (17, zHS a))] sz) := by
  refine Met.ofW (cc := cX11_pass) (maxL := 2) (ret := (some .int)) (by decide) rfl ?_
  intro p e s m args below meth c s₁ B hml hv
  obtain ⟨rfl, hsz, hP, hK, hD0, hz⟩ := hv
  have hx := B.exec
  have hb := B.bytes
  have hr := B.returns
  have hts := atoms_spec (ws := zX11_pass_ws) B.pre
  have hown : s.vm.findClass RX11 = some m.cls := findClass_of_methodNamed B.named
  have hlocks := B.notSynchronized
  subst hsz
  have hD := hD0.self (sz := s.heap.size)
  generalize hAe : va_A [(h0, .inr (17, zHS a))] s.heap.size = A at hD hz ⊢
  have hA : ∀ q : Nat, s.heap.size ≤ q → A q := fun q h => by rw [← hAe]; exact Or.inr h
  have hS : va_S A s.heap s.heap [] := va_S.rf
  have hP : va_P D vwCl [(h0, .inr (17, zHS a))] s.heap := hP
  have hl := lv_entry ([.ref h0, .int x1]) (n := 2) (Nat.le_of_ble_eq_true rfl)
  rw [lg_entry_eq]
  generalize (lg_sl ([.ref h0, .int x1]) ++ List.replicate (2 - (lg_sl ([.ref h0, .int x1])).length) Slot.unset).toArray = ls at hl ⊢
  have hl : lv_has ls 2 [(0, .ref h0), (1, .int x1)] := hl
  refine lv_iload_n hx hb dX11_pass_0 rfl (lv_at hl 1 rfl) ?_
  refine lv_iconst (v := 1) hx hb dX11_pass_1 (by decide) ?_
  refine lv_sipush (v := 9999) hx hb dX11_pass_2 (by decide) ?_
  have hPc := hP.sub (ws' := []) [] rfl
  have hDc := hD.sub (ws' := []) [] (by decide) rfl
  have hKc := hK.sub (tys' := []) [] rfl
  have hFc : ∀ q : Nat, s.heap.size ≤ q → A q := fun q h => hA q (Nat.le_trans hS.1 h)
  refine va_callv (va_runS (As := [.int x1, .int 1, .int 9999]) (rest := []) ⟨hx, hb, hml, hown, hts⟩ (c_requireRange_ok l hst D s.heap.size x1 1 9999 h) (cwS 3 hts (goodIn_app (goodIn_of _ (by decide +kernel)) (goodIn_sub (fun _ h => List.mem_cons_of_mem _ (List.mem_append_right _ (List.mem_append_left _ h))) zrr1_good)) rfl rfl rfl (by decide +kernel) ⟨Nat.le_of_ble_eq_true rfl, Nat.le_of_ble_eq_true rfl⟩) ⟨zPre.blind, zPre.mk hPc hKc hDc hz hS (fun q h => hFc q h)⟩ rfl rfl hl.1 rfl (lv_room (Nat.le_of_ble_eq_true rfl)) dX11_pass_5 ⟨Nat.le_of_ble_eq_true rfl, Nat.le_of_ble_eq_true rfl⟩) hS (fun q _ h => hFc q h) (fun q h => hFc q h) (fun u t H1 locs ht9 hvm hw hB hz1 hk1 hS => ?_)
  refine W.widen (k := 0) (n := 0) (by omega) (by omega) ?_
  have hP := zKeep hP hk1
  generalize H1 = H at hP hS ⊢
  have hP : va_P D vwCl [(h0, .inr (17, zHS a))] H := hP
  refine lv_aload_n hx hb dX11_pass_8 rfl (lv_at hl 0 rfl) ?_
  refine lv_dup hx hb dX11_pass_9 rfl ?_
  refine va_get (D := D) (ci := 17) (v := .int 0) (C := RX11) (T := TX11) (N := 11) hx hb hts (by decide +kernel) hown hK hP 0 rfl rfl 9 (by decide) (hts (.fieldLink RX11 68 "HeatStadium" "minute" "I") (by decide +kernel)) (fun _ h9 => h9) rfl dX11_pass_10 ?_
  refine lv_iload_n hx hb dX11_pass_13 rfl (lv_at hl 1 rfl) ?_
  refine lv_iadd hx hb dX11_pass_14 ?_
  refine va_put (D := D) (ci := 17) (v := .int (0 + x1)) (ty := .int) (C := RX11) (T := TX11) (N := 11) hx hb hts (by decide +kernel) tyX11 tyX11_ok nmX11 hown hK hP hD hS 0 rfl rfl 9 (by decide) (hts (.fieldLink RX11 68 "HeatStadium" "minute" "I") (by decide +kernel)) (fun _ h9 => h9) rfl (by decide +kernel) rfl rfl (Nat.le_of_ble_eq_true rfl) dX11_pass_15 (fun H locs hP hD hS => ?_)
  have hP : va_P D vwCl [(h0, .inr (17, [.ref (a 0), .ref (a 1), .ref (a 2), .ref (a 3), .ref (a 4), .ref (a 5), .ref (a 6), .ref (a 7), .int 0, .int (0 + x1), .int 0]))] H := hP
  have hD : va_D A [(h0, .inr (17, [.ref (a 0), .ref (a 1), .ref (a 2), .ref (a 3), .ref (a 4), .ref (a 5), .ref (a 6), .ref (a 7), .int 0, .int (0 + x1), .int 0]))] := hD
  refine lv_aload_n hx hb dX11_pass_18 rfl (lv_at hl 0 rfl) ?_
  refine va_get (D := D) (ci := 17) (v := .int (0 + x1)) (C := RX11) (T := TX11) (N := 11) hx hb hts (by decide +kernel) hown hK hP 0 rfl rfl 9 (by decide) (hts (.fieldLink RX11 68 "HeatStadium" "minute" "I") (by decide +kernel)) (fun _ h9 => h9) rfl dX11_pass_19 ?_
  have hP9 := hP.sub (ws' := []) [] rfl
  have hD9 := hD.sub (ws' := []) [] (by decide) rfl
  have hK9 := hK.sub (tys' := []) [] rfl
  rw [← hAe] at hD9
  refine W.widen (k := 0) (n := 0) (by omega) (by omega) ?_
  subst hAe
  exact W.iret (v := (0 + x1)) hx hb hr (fun t ht9 hW => ⟨⟨(0 + x1), (), rfl, rfl, ⟨by rw [ht9]; exact hP9, va_K.moved hW.alike hK9, hD9⟩⟩, hS.F ht9⟩) hS.2.2 dX11_pass_22

def zX11_points_ws : List Cond := .code yX11_points cX11_points 7 (some .double) :: ([.methodLink RX11 74 yX11_requireNation, .static yX11_requireNation, .initialized RX11, .fieldLink RX11 64 "HeatStadium" "eventCount" "I"] ++ (zrn1 ++ (wsX110 ++ ([]))))
theorem zX11_points_ws_good : zX11_points_ws.all goodWord = true := by decide +kernel
set_option maxHeartbeats 4000000 in
set_option maxRecDepth 100000 in
/-- points of games without events -/
theorem c_points_ok (l : Launch) (hst : l.stackTraces = false) (D : va_G) (sz : Nat) (h0 : Nat) (a : Nat → Nat) (x1 : Int32) (h : zin x1 0 7 = 1) : Met l yX11_points zX11_points_ws (zR 3 0 0) (zPre [.ref h0, .int x1] D [(h0, .inr (17, zHS a))] [] (fun q : Nat => sz ≤ q) sz) (va_Qd (S := Unit) (fun r _ => r = 0) (fun _ _ => True) (fun q : Nat => sz ≤ q)) 0 0 (fun q : Nat => sz ≤ q) := by
  refine Met.ofW (cc := cX11_points) (maxL := 7) (ret := (some .double)) (by decide) rfl ?_
  intro p e s m args below meth c s₁ B hml hv
  obtain ⟨rfl, hsz, hP, hK, hD0, hz⟩ := hv
  have hx := B.exec
  have hb := B.bytes
  have hr := B.returns
  have hts := atoms_spec (ws := zX11_points_ws) B.pre
  have hown : s.vm.findClass RX11 = some m.cls := findClass_of_methodNamed B.named
  have hlocks := B.notSynchronized
  subst hsz
  obtain ⟨A, hAe⟩ : ∃ A : Nat → Prop, A = (fun q : Nat => s.heap.size ≤ q) := ⟨_, rfl⟩
  rw [← hAe] at hz ⊢
  have hA : ∀ q : Nat, s.heap.size ≤ q → A q := fun q h => by rw [hAe]; exact h
  have hD := hD0
  have hS : va_S A s.heap s.heap [] := va_S.rf
  have hP : va_P D vwCl [(h0, .inr (17, zHS a))] s.heap := hP
  have hl := lv_entry ([.ref h0, .int x1]) (n := 7) (Nat.le_of_ble_eq_true rfl)
  rw [lg_entry_eq]
  generalize (lg_sl ([.ref h0, .int x1]) ++ List.replicate (7 - (lg_sl ([.ref h0, .int x1])).length) Slot.unset).toArray = ls at hl ⊢
  have hl : lv_has ls 7 [(0, .ref h0), (1, .int x1)] := hl
  refine lv_iload_n hx hb dX11_points_0 rfl (lv_at hl 1 rfl) ?_
  have hPc := hP.sub (ws' := []) [] rfl
  have hDc := hD.sub (ws' := []) [] (by decide) rfl
  have hKc := hK.sub (tys' := []) [] rfl
  have hFc : ∀ q : Nat, s.heap.size ≤ q → A q := fun q h => hA q (Nat.le_trans hS.1 h)
  refine va_callv (va_runS (As := [.int x1]) (rest := []) ⟨hx, hb, hml, hown, hts⟩ (c_requireNation_ok l hst D s.heap.size x1 h) (cwS 1 hts (goodIn_app (goodIn_of _ (by decide +kernel)) (goodIn_sub (fun _ h => List.mem_cons_of_mem _ (List.mem_append_right _ (List.mem_append_left _ h))) zrn1_good)) rfl rfl rfl (by decide +kernel) ⟨Nat.le_of_ble_eq_true rfl, Nat.le_of_ble_eq_true rfl⟩) ⟨zPre.blind, zPre.mk hPc hKc hDc hz hS (fun q h => hFc q h)⟩ rfl rfl hl.1 rfl (lv_room (Nat.le_of_ble_eq_true rfl)) dX11_points_1 ⟨Nat.le_of_ble_eq_true rfl, Nat.le_of_ble_eq_true rfl⟩) hS (fun q _ h => hFc q h) (fun q h => hFc q h) (fun u t H1 locs ht9 hvm hw hB hz1 hk1 hS => ?_)
  refine W.widen (k := 0) (n := 0) (by omega) (by omega) ?_
  have hP := zKeep hP hk1
  generalize H1 = H at hP hS ⊢
  have hP : va_P D vwCl [(h0, .inr (17, zHS a))] H := hP
  refine lv_dconst0 hx hb dX11_points_4 ?_
  refine lv_dstore_n (lv' := [(2, .double 0), (0, .ref h0), (1, .int x1)]) hx hb dX11_points_5 rfl hl (by decide) rfl (fun ls hl => ?_)
  refine lv_iconst (v := 0) hx hb dX11_points_6 (by decide) ?_
  refine lv_istore (lv' := [(4, .int 0), (2, .double 0), (0, .ref h0), (1, .int x1)]) hx hb dX11_points_7 hl (by decide) rfl (fun ls hl => ?_)
  refine lv_iload hx hb dX11_points_9 (lv_at hl 0 rfl) ?_
  refine lv_aload_n hx hb dX11_points_11 rfl (lv_at hl 2 rfl) ?_
  refine va_get (D := D) (ci := 17) (v := .int 0) (C := RX11) (T := TX11) (N := 11) hx hb hts (by decide +kernel) hown hK hP 0 rfl rfl 8 (by decide) (hts (.fieldLink RX11 64 "HeatStadium" "eventCount" "I") (by decide +kernel)) (fun _ h9 => h9) rfl dX11_points_12 ?_
  refine lv_icmp_ge (tgt := 115) hx hb dX11_points_15 (by decide) (fun _ => ?_) (fun c => absurd (by decide) c)
  refine lv_dload_n hx hb dX11_points_115 rfl (lv_at hl 1 rfl) ?_
  refine W.widen (k := 0) (n := 0) (by omega) (by omega) ?_
  exact W.dret (v := 0) hx hb hr (fun t ht9 hW => ⟨⟨0, (), rfl, rfl, trivial⟩, hS.F ht9⟩) hS.2.2 dX11_points_116
