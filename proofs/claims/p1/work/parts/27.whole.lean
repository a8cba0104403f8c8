/-! printed rows that this part uses -/
theorem dL_law_0 : decode cL_law 0 = .ok (.new 8, 3) := by decide +kernel
theorem dL_law_3 : decode cL_law 3 = .ok (.dup, 1) := by decide +kernel
theorem dL_law_4 : decode cL_law 4 = .ok (.invokespecial 124, 3) := by decide +kernel
theorem dL_law_7 : decode cL_law 7 = .ok (.astore_n 1, 1) := by decide +kernel
theorem dL_law_8 : decode cL_law 8 = .ok (.new 125, 3) := by decide +kernel
theorem dL_law_11 : decode cL_law 11 = .ok (.dup, 1) := by decide +kernel
theorem dL_law_12 : decode cL_law 12 = .ok (.invokespecial 127, 3) := by decide +kernel
theorem dL_law_15 : decode cL_law 15 = .ok (.astore_n 2, 1) := by decide +kernel
theorem dL_law_16 : decode cL_law 16 = .ok (.iconst 1, 1) := by decide +kernel
theorem dL_law_17 : decode cL_law 17 = .ok (.newarray .long, 2) := by decide +kernel
theorem dL_law_19 : decode cL_law 19 = .ok (.astore_n 3, 1) := by decide +kernel
theorem dL_law_20 : decode cL_law 20 = .ok (.iconst 1, 1) := by decide +kernel
theorem dL_law_21 : decode cL_law 21 = .ok (.newarray .double, 2) := by decide +kernel
theorem dL_law_23 : decode cL_law 23 = .ok (.astore 4, 2) := by decide +kernel
theorem dL_law_25 : decode cL_law 25 = .ok (.iconst 0, 1) := by decide +kernel
theorem dL_law_26 : decode cL_law 26 = .ok (.istore 5, 2) := by decide +kernel
theorem dL_law_28 : decode cL_law 28 = .ok (.iload 5, 2) := by decide +kernel
theorem dL_law_30 : decode cL_law 30 = .ok (.aload_n 0, 1) := by decide +kernel
theorem dL_law_31 : decode cL_law 31 = .ok (.arraylength, 1) := by decide +kernel
theorem dL_law_32 : decode cL_law 32 = .ok (.bipush 7, 2) := by decide +kernel
theorem dL_law_34 : decode cL_law 34 = .ok (.isub, 1) := by decide +kernel
theorem dL_law_35 : decode cL_law 35 = .ok (.if_icmp .gt 2468, 3) := by decide +kernel
theorem dL_law_38 : decode cL_law 38 = .ok (.aload_n 0, 1) := by decide +kernel
theorem dL_law_39 : decode cL_law 39 = .ok (.iload 5, 2) := by decide +kernel
theorem dL_law_41 : decode cL_law 41 = .ok (.iaload, 1) := by decide +kernel
theorem dL_law_42 : decode cL_law 42 = .ok (.bipush 31, 2) := by decide +kernel
theorem dL_law_44 : decode cL_law 44 = .ok (.iand, 1) := by decide +kernel
theorem dL_law_45 : decode cL_law 45 = .ok (.tableswitch 2452 0 30 #[139, 195, 289, 369, 472, 528, 596, 652, 720, 800, 934, 1033, 1120, 1207, 1275, 1343, 1425, 1505, 1573, 1641, 1721, 1804, 1895, 1986, 2042, 2098, 2154, 2222, 2306, 2383, 2439], 139) := by decide +kernel
theorem dL_law_2497 : decode cL_law 2497 = .ok (.iinc 5 7, 3) := by decide +kernel
theorem dL_law_2500 : decode cL_law 2500 = .ok (.goto (-2472), 3) := by decide +kernel
theorem dL_law_2503 : decode cL_law 2503 = .ok (.iconst 1, 1) := by decide +kernel
theorem dL_law_2504 : decode cL_law 2504 = .ok (.ireturn, 1) := by decide +kernel
/-! the law: the switch, the loop, the start -/
/-- a new cell goes ahead of the pool -/
theorem zrot_at {α : Type} {L P : List α} {x q : α} {k : Nat} (h : (L ++ [x] ++ P)[k]? = some q) : ∃ k' : Nat, (L ++ P ++ [x])[k']? = some q ∧ ((k < L.length ∧ k' = k) ∨ (k = L.length ∧ k' = L.length + P.length) ∨ (L.length < k ∧ k' + 1 = k ∧ k' < L.length + P.length)) := by
  rcases Nat.lt_trichotomy k L.length with c | c | c
  · refine ⟨k, ?_, Or.inl ⟨c, rfl⟩⟩
    rw [List.append_assoc, List.getElem?_append_left c] at h
    rw [List.append_assoc, List.getElem?_append_left c]
    exact h
  · refine ⟨L.length + P.length, ?_, Or.inr (Or.inl ⟨c, rfl⟩)⟩
    subst c
    rw [List.append_assoc, List.getElem?_append_right (Nat.le_refl _), Nat.sub_self] at h
    rw [List.getElem?_append_right (by rw [List.length_append]; exact Nat.le_refl _), List.length_append, Nat.sub_self]
    exact h
  · obtain ⟨d, rfl⟩ : ∃ d, k = L.length + 1 + d := ⟨k - L.length - 1, by omega⟩
    have hl : (L ++ [x]).length = L.length + 1 := by rw [List.length_append]; rfl
    rw [List.getElem?_append_right (by omega), hl, Nat.add_sub_cancel_left] at h
    have hd : d < P.length := (List.getElem?_eq_some_iff.mp h).1
    refine ⟨L.length + d, ?_, Or.inr (Or.inr ⟨by omega, by omega, by omega⟩)⟩
    rw [List.append_assoc, List.getElem?_append_right (by omega), Nat.add_sub_cancel_left, List.getElem?_append_left hd]
    exact h
theorem zrotP {D : va_G} {cl : List vw_C} {L P : va_W} {x : Nat × va_E} {H : Heap} (h : va_P D cl (L ++ P ++ [x]) H) : va_P D cl (L ++ [x] ++ P) H := fun k q hq => by
  obtain ⟨k', h1, -⟩ := zrot_at hq
  exact h k' q h1
theorem zrotD {A : Nat → Prop} {L P : va_W} {x : Nat × va_E} (h : va_D A (L ++ P ++ [x])) : va_D A (L ++ [x] ++ P) := by
  refine ⟨fun i j p q hi hj e => ?_, fun k q hq => ?_⟩
  · obtain ⟨i', h1, h2⟩ := zrot_at hi
    obtain ⟨j', h3, h4⟩ := zrot_at hj
    have := h.1 i' j' p q h1 h3 e
    omega
  · obtain ⟨k', h1, -⟩ := zrot_at hq
    exact h.2 k' q h1

set_option maxHeartbeats 4000000 in
set_option maxRecDepth 100000 in
theorem zdispatch {p : Program} {e : Env} {s : State} {m : MethodId} {below : List Frame} {meth : Method} {c : Code} {A : Nat → Prop} {Q : State → Prop} {b : Nat} {xs : Nat → Int32} (l : Launch) (hst : l.stackTraces = false) (D : va_G) (h0 : Nat) (a : Nat → Nat) (a1 a2 cN cE p1 p2 p3 g : Nat) (og : Nat → Option Nat) (LR : List Nat) (cG cI : Nat) (mo b0 b1 b2 b3 dz sa va oL oD cL cD : Nat) (x1 x2 x3 x4 x5 x6 : Int32) (x0 : Int32) (hx : p.tables.exec = Jvm.exec) (hb : c.code = cL_law) (hml : c.maxLocals = 9) (hts : ∀ w ∈ lw_tbl, w.before #[Value.ref b] s = true) (hown : s.vm.findClass RL = some m.cls) (hX : va_X b 7 xs s s.heap) (hbl : b < s.heap.size) (hA : ∀ q : Nat, s.heap.size ≤ q → A q) (hbA : ¬ A b) (hz : zX A s s.heap) (hm : zMS dz sa va A s s.heap) (hg : ∀ i, i < 8 → ∃ y, og i = some y ∧ y ∈ LR) (e1 : xs (1 : Int32).toNatClampNeg = x1) (e2 : xs (2 : Int32).toNatClampNeg = x2) (e3 : xs (3 : Int32).toNatClampNeg = x3) (e4 : xs (4 : Int32).toNatClampNeg = x4) (e5 : xs (5 : Int32).toNatClampNeg = x5) (e6 : xs (6 : Int32).toNatClampNeg = x6) (kk : ∀ (H : Heap) (locs : List Loc), va_S A s.heap H locs → ∀ ls : Array Slot, lv_has ls 9 [(0, .ref b), (5, .int 0)] → W p l e room_1 s m #[Value.ref b] below meth c H locs 600 8000 Q (F0 m 2497 ls [])) (H : Heap) (locs : List Loc) (ls : Array Slot) (hP : va_P D vwCl ([(h0, .inr (17, zHS a)), ((a 0), .inr (6, [.ref a1, .ref a2, .int 0])), (a1, .inl (cN, 30, .inl (fun _ => 0))), ((a 1), .inl (cE, 5, .inr (.inr (.inr (.inr (fun _ => none)))))), ((a 2), .inr (11, [.ref p1, .ref p2, .ref p3, .int 0, .long 0])), ((a 7), .inr (10, [.ref g, .int 0])), (g, .inl (cG, 8, .inr (.inr (.inr (.inr og))))), (mo, .inr (23, [.int 0, .ref b0, .ref b1, .ref b2, .ref b3, .int 0, .int 0, .long 0])), (b0, .inr (5, [.int 0, .ref dz, .int 0])), (b1, .inr (5, [.int 0, .ref dz, .int 0])), (b2, .inr (5, [.int 0, .ref dz, .int 0])), (b3, .inr (5, [.int 0, .ref dz, .int 0])), (oL, .inl (cL, 1, .inr (.inl (fun _ => 0)))), (oD, .inl (cD, 1, .inr (.inr (.inr (.inl (fun _ => 0))))))] ++ va_pl LR (zrow cI)) H) (hD : va_D A ([(h0, .inr (17, zHS a)), ((a 0), .inr (6, [.ref a1, .ref a2, .int 0])), (a1, .inl (cN, 30, .inl (fun _ => 0))), ((a 1), .inl (cE, 5, .inr (.inr (.inr (.inr (fun _ => none)))))), ((a 2), .inr (11, [.ref p1, .ref p2, .ref p3, .int 0, .long 0])), ((a 7), .inr (10, [.ref g, .int 0])), (g, .inl (cG, 8, .inr (.inr (.inr (.inr og))))), (mo, .inr (23, [.int 0, .ref b0, .ref b1, .ref b2, .ref b3, .int 0, .int 0, .long 0])), (b0, .inr (5, [.int 0, .ref dz, .int 0])), (b1, .inr (5, [.int 0, .ref dz, .int 0])), (b2, .inr (5, [.int 0, .ref dz, .int 0])), (b3, .inr (5, [.int 0, .ref dz, .int 0])), (oL, .inl (cL, 1, .inr (.inl (fun _ => 0)))), (oD, .inl (cD, 1, .inr (.inr (.inr (.inl (fun _ => 0))))))] ++ va_pl LR (zrow cI))) (hK : va_K D vwCl [(cN, .int), (cE, .object "HeatStadium$Event"), (cG, .array .int), (cI, .int), (cL, .long), (cD, .double)] s) (hS : va_S A s.heap H locs) (hl : lv_has ls 9 [(0, .ref b), (1, .ref h0), (2, .ref mo), (3, .ref oL), (4, .ref oD), (5, .int 0)]) : W p l e room_1 s m #[Value.ref b] below meth c H locs 200 3000 Q (F0 m 45 ls [.int (x0 &&& 31)]) := by
  obtain ⟨j, hj, ej⟩ := pk_andE x0 (m := 31) 5 (by decide)
  rw [ej]
  have hj : j < 32 := hj
  rcases (show j = 0 ∨ j = 1 ∨ j = 2 ∨ j = 3 ∨ j = 4 ∨ j = 5 ∨ j = 6 ∨ j = 7 ∨ j = 8 ∨ j = 9 ∨ j = 10 ∨ j = 11 ∨ j = 12 ∨ j = 13 ∨ j = 14 ∨ j = 15 ∨ j = 16 ∨ j = 17 ∨ j = 18 ∨ j = 19 ∨ j = 20 ∨ j = 21 ∨ j = 22 ∨ j = 23 ∨ j = 24 ∨ j = 25 ∨ j = 26 ∨ j = 27 ∨ j = 28 ∨ j = 29 ∨ j = 30 ∨ j = 31 by omega) with rfl | rfl | rfl | rfl | rfl | rfl | rfl | rfl | rfl | rfl | rfl | rfl | rfl | rfl | rfl | rfl | rfl | rfl | rfl | rfl | rfl | rfl | rfl | rfl | rfl | rfl | rfl | rfl | rfl | rfl | rfl | rfl
  · refine lv_tableIn (off := 139) (tgt := 184) hx hb dL_law_45 (by decide +kernel) (by decide +kernel) (by decide +kernel) (by decide) ?_
    rcases zin_or x1 0 7 with h | h
    · exact lc_athlete_no l hst D h0 a a1 a2 cN cE p1 p2 p3 g og LR cG cI mo b0 b1 b2 b3 dz sa va oL oD cL cD x1 x2 x3 x4 x5 x6 hx hb hml (fun w hw => hts w (w_lc_athlete_no_in w hw)) hown hX hbl hA hbA hz hm hg e1 e2 e3 e4 e5 e6 h kk H locs ls hP hD hK hS hl
    · exact lc_athlete_ok l hst D h0 a a1 a2 cN cE p1 p2 p3 g og LR cG cI mo b0 b1 b2 b3 dz sa va oL oD cL cD x1 x2 x3 x4 x5 x6 hx hb hml (fun w hw => hts w (w_lc_athlete_ok_in w hw)) hown hX hbl hA hbA hz hm hg e1 e2 e3 e4 e5 e6 h kk H locs ls hP hD hK hS hl
  · refine lv_tableIn (off := 195) (tgt := 240) hx hb dL_law_45 (by decide +kernel) (by decide +kernel) (by decide +kernel) (by decide) ?_
    rcases Decidable.em ((x1.toUInt32 % 65536).toInt32 = 114) with q114 | q114
    · rcases zin_or x2 1 999999 with h2 | h2
      · exact lc_event_no2_114 l hst D h0 a a1 a2 cN cE p1 p2 p3 g og LR cG cI mo b0 b1 b2 b3 dz sa va oL oD cL cD x1 x2 x3 x4 x5 x6 hx hb hml (fun w hw => hts w (w_lc_event_no2_114_in w hw)) hown hX hbl hA hbA hz hm hg e1 e2 e3 e4 e5 e6 q114 h2 kk H locs ls hP hD hK hS hl
      · rcases zin_or x3 1 5 with h3 | h3
        · exact lc_event_no3_114 l hst D h0 a a1 a2 cN cE p1 p2 p3 g og LR cG cI mo b0 b1 b2 b3 dz sa va oL oD cL cD x1 x2 x3 x4 x5 x6 hx hb hml (fun w hw => hts w (w_lc_event_no3_114_in w hw)) hown hX hbl hA hbA hz hm hg e1 e2 e3 e4 e5 e6 q114 h2 h3 kk H locs ls hP hD hK hS hl
        · rcases zin_or x4 2 24 with h4 | h4
          · exact lc_event_no4_114 l hst D h0 a a1 a2 cN cE p1 p2 p3 g og LR cG cI mo b0 b1 b2 b3 dz sa va oL oD cL cD x1 x2 x3 x4 x5 x6 hx hb hml (fun w hw => hts w (w_lc_event_no4_114_in w hw)) hown hX hbl hA hbA hz hm hg e1 e2 e3 e4 e5 e6 q114 h2 h3 h4 kk H locs ls hP hD hK hS hl
          · exact lc_event_ok_114 l hst D h0 a a1 a2 cN cE p1 p2 p3 g og LR cG cI mo b0 b1 b2 b3 dz sa va oL oD cL cD x1 x2 x3 x4 x5 x6 hx hb hml (fun w hw => hts w (w_lc_event_ok_114_in w hw)) hown hX hbl hA hbA hz hm hg e1 e2 e3 e4 e5 e6 q114 h2 h3 h4 kk H locs ls hP hD hK hS hl
    ·
      rcases Decidable.em ((x1.toUInt32 % 65536).toInt32 = 106) with q106 | q106
      · rcases zin_or x2 1 999999 with h2 | h2
        · exact lc_event_no2_106 l hst D h0 a a1 a2 cN cE p1 p2 p3 g og LR cG cI mo b0 b1 b2 b3 dz sa va oL oD cL cD x1 x2 x3 x4 x5 x6 hx hb hml (fun w hw => hts w (w_lc_event_no2_106_in w hw)) hown hX hbl hA hbA hz hm hg e1 e2 e3 e4 e5 e6 q106 h2 kk H locs ls hP hD hK hS hl
        · rcases zin_or x3 1 5 with h3 | h3
          · exact lc_event_no3_106 l hst D h0 a a1 a2 cN cE p1 p2 p3 g og LR cG cI mo b0 b1 b2 b3 dz sa va oL oD cL cD x1 x2 x3 x4 x5 x6 hx hb hml (fun w hw => hts w (w_lc_event_no3_106_in w hw)) hown hX hbl hA hbA hz hm hg e1 e2 e3 e4 e5 e6 q106 h2 h3 kk H locs ls hP hD hK hS hl
          · rcases zin_or x4 2 24 with h4 | h4
            · exact lc_event_no4_106 l hst D h0 a a1 a2 cN cE p1 p2 p3 g og LR cG cI mo b0 b1 b2 b3 dz sa va oL oD cL cD x1 x2 x3 x4 x5 x6 hx hb hml (fun w hw => hts w (w_lc_event_no4_106_in w hw)) hown hX hbl hA hbA hz hm hg e1 e2 e3 e4 e5 e6 q106 h2 h3 h4 kk H locs ls hP hD hK hS hl
            · exact lc_event_ok_106 l hst D h0 a a1 a2 cN cE p1 p2 p3 g og LR cG cI mo b0 b1 b2 b3 dz sa va oL oD cL cD x1 x2 x3 x4 x5 x6 hx hb hml (fun w hw => hts w (w_lc_event_ok_106_in w hw)) hown hX hbl hA hbA hz hm hg e1 e2 e3 e4 e5 e6 q106 h2 h3 h4 kk H locs ls hP hD hK hS hl
      ·
        rcases Decidable.em ((x1.toUInt32 % 65536).toInt32 = 116) with q116 | q116
        · rcases zin_or x2 1 999999 with h2 | h2
          · exact lc_event_no2_116 l hst D h0 a a1 a2 cN cE p1 p2 p3 g og LR cG cI mo b0 b1 b2 b3 dz sa va oL oD cL cD x1 x2 x3 x4 x5 x6 hx hb hml (fun w hw => hts w (w_lc_event_no2_116_in w hw)) hown hX hbl hA hbA hz hm hg e1 e2 e3 e4 e5 e6 q116 h2 kk H locs ls hP hD hK hS hl
          · rcases zin_or x3 1 5 with h3 | h3
            · exact lc_event_no3_116 l hst D h0 a a1 a2 cN cE p1 p2 p3 g og LR cG cI mo b0 b1 b2 b3 dz sa va oL oD cL cD x1 x2 x3 x4 x5 x6 hx hb hml (fun w hw => hts w (w_lc_event_no3_116_in w hw)) hown hX hbl hA hbA hz hm hg e1 e2 e3 e4 e5 e6 q116 h2 h3 kk H locs ls hP hD hK hS hl
            · rcases zin_or x4 2 24 with h4 | h4
              · exact lc_event_no4_116 l hst D h0 a a1 a2 cN cE p1 p2 p3 g og LR cG cI mo b0 b1 b2 b3 dz sa va oL oD cL cD x1 x2 x3 x4 x5 x6 hx hb hml (fun w hw => hts w (w_lc_event_no4_116_in w hw)) hown hX hbl hA hbA hz hm hg e1 e2 e3 e4 e5 e6 q116 h2 h3 h4 kk H locs ls hP hD hK hS hl
              · exact lc_event_ok_116 l hst D h0 a a1 a2 cN cE p1 p2 p3 g og LR cG cI mo b0 b1 b2 b3 dz sa va oL oD cL cD x1 x2 x3 x4 x5 x6 hx hb hml (fun w hw => hts w (w_lc_event_ok_116_in w hw)) hown hX hbl hA hbA hz hm hg e1 e2 e3 e4 e5 e6 q116 h2 h3 h4 kk H locs ls hP hD hK hS hl
        · rcases zin_or (x1.toUInt32 % 65536).toInt32 0 255 with z | z
          · exact lc_event_hi l hst D h0 a a1 a2 cN cE p1 p2 p3 g og LR cG cI mo b0 b1 b2 b3 dz sa va oL oD cL cD x1 x2 x3 x4 x5 x6 hx hb hml (fun w hw => hts w (w_lc_event_hi_in w hw)) hown hX hbl hA hbA hz hm hg e1 e2 e3 e4 e5 e6 _ rfl ⟨q114, q106, q116⟩ z kk H locs ls hP hD hK hS hl
          · exact lc_event_lo l hst D h0 a a1 a2 cN cE p1 p2 p3 g og LR cG cI mo b0 b1 b2 b3 dz sa va oL oD cL cD x1 x2 x3 x4 x5 x6 hx hb hml (fun w hw => hts w (w_lc_event_lo_in w hw)) hown hX hbl hA hbA hz hm hg e1 e2 e3 e4 e5 e6 _ rfl ⟨q114, q106, q116⟩ (Int32.not_lt.mpr (zin_1 z).1) (zin_1 z).2 kk H locs ls hP hD hK hS hl
  · refine lv_tableIn (off := 289) (tgt := 334) hx hb dL_law_45 (by decide +kernel) (by decide +kernel) (by decide +kernel) (by decide) ?_
    exact lc_enter l hst D h0 a a1 a2 cN cE p1 p2 p3 g og LR cG cI mo b0 b1 b2 b3 dz sa va oL oD cL cD x1 x2 x3 x4 x5 x6 hx hb hml (fun w hw => hts w (w_lc_enter_in w hw)) hown hX hbl hA hbA hz hm hg e1 e2 e3 e4 e5 e6 kk H locs ls hP hD hK hS hl
  · refine lv_tableIn (off := 369) (tgt := 414) hx hb dL_law_45 (by decide +kernel) (by decide +kernel) (by decide +kernel) (by decide) ?_
    exact lc_withdraw l hst D h0 a a1 a2 cN cE p1 p2 p3 g og LR cG cI mo b0 b1 b2 b3 dz sa va oL oD cL cD x1 x2 x3 x4 x5 x6 hx hb hml (fun w hw => hts w (w_lc_withdraw_in w hw)) hown hX hbl hA hbA hz hm hg e1 e2 e3 e4 e5 e6 kk H locs ls hP hD hK hS hl
  · refine lv_tableIn (off := 472) (tgt := 517) hx hb dL_law_45 (by decide +kernel) (by decide +kernel) (by decide +kernel) (by decide) ?_
    exact lc_field l hst D h0 a a1 a2 cN cE p1 p2 p3 g og LR cG cI mo b0 b1 b2 b3 dz sa va oL oD cL cD x1 x2 x3 x4 x5 x6 hx hb hml (fun w hw => hts w (w_lc_field_in w hw)) hown hX hbl hA hbA hz hm hg e1 e2 e3 e4 e5 e6 kk H locs ls hP hD hK hS hl
  · refine lv_tableIn (off := 528) (tgt := 573) hx hb dL_law_45 (by decide +kernel) (by decide +kernel) (by decide +kernel) (by decide) ?_
    exact lc_inField l hst D h0 a a1 a2 cN cE p1 p2 p3 g og LR cG cI mo b0 b1 b2 b3 dz sa va oL oD cL cD x1 x2 x3 x4 x5 x6 hx hb hml (fun w hw => hts w (w_lc_inField_in w hw)) hown hX hbl hA hbA hz hm hg e1 e2 e3 e4 e5 e6 kk H locs ls hP hD hK hS hl
  · refine lv_tableIn (off := 596) (tgt := 641) hx hb dL_law_45 (by decide +kernel) (by decide +kernel) (by decide +kernel) (by decide) ?_
    rcases zin_or x1 1 9999 with h | h
    · exact lc_pass_no l hst D h0 a a1 a2 cN cE p1 p2 p3 g og LR cG cI mo b0 b1 b2 b3 dz sa va oL oD cL cD x1 x2 x3 x4 x5 x6 hx hb hml (fun w hw => hts w (w_lc_pass_no_in w hw)) hown hX hbl hA hbA hz hm hg e1 e2 e3 e4 e5 e6 h kk H locs ls hP hD hK hS hl
    · exact lc_pass_ok l hst D h0 a a1 a2 cN cE p1 p2 p3 g og LR cG cI mo b0 b1 b2 b3 dz sa va oL oD cL cD x1 x2 x3 x4 x5 x6 hx hb hml (fun w hw => hts w (w_lc_pass_ok_in w hw)) hown hX hbl hA hbA hz hm hg e1 e2 e3 e4 e5 e6 h kk H locs ls hP hD hK hS hl
  · refine lv_tableIn (off := 652) (tgt := 697) hx hb dL_law_45 (by decide +kernel) (by decide +kernel) (by decide +kernel) (by decide) ?_
    exact lc_heatOf l hst D h0 a a1 a2 cN cE p1 p2 p3 g og LR cG cI mo b0 b1 b2 b3 dz sa va oL oD cL cD x1 x2 x3 x4 x5 x6 hx hb hml (fun w hw => hts w (w_lc_heatOf_in w hw)) hown hX hbl hA hbA hz hm hg e1 e2 e3 e4 e5 e6 kk H locs ls hP hD hK hS hl
  · refine lv_tableIn (off := 720) (tgt := 765) hx hb dL_law_45 (by decide +kernel) (by decide +kernel) (by decide +kernel) (by decide) ?_
    exact lc_laneOf l hst D h0 a a1 a2 cN cE p1 p2 p3 g og LR cG cI mo b0 b1 b2 b3 dz sa va oL oD cL cD x1 x2 x3 x4 x5 x6 hx hb hml (fun w hw => hts w (w_lc_laneOf_in w hw)) hown hX hbl hA hbA hz hm hg e1 e2 e3 e4 e5 e6 kk H locs ls hP hD hK hS hl
  · refine lv_tableIn (off := 800) (tgt := 845) hx hb dL_law_45 (by decide +kernel) (by decide +kernel) (by decide +kernel) (by decide) ?_
    exact lc_time l hst D h0 a a1 a2 cN cE p1 p2 p3 g og LR cG cI mo b0 b1 b2 b3 dz sa va oL oD cL cD x1 x2 x3 x4 x5 x6 hx hb hml (fun w hw => hts w (w_lc_time_in w hw)) hown hX hbl hA hbA hz hm hg e1 e2 e3 e4 e5 e6 kk H locs ls hP hD hK hS hl
  · refine lv_tableIn (off := 934) (tgt := 979) hx hb dL_law_45 (by decide +kernel) (by decide +kernel) (by decide +kernel) (by decide) ?_
    exact lc_react l hst D h0 a a1 a2 cN cE p1 p2 p3 g og LR cG cI mo b0 b1 b2 b3 dz sa va oL oD cL cD x1 x2 x3 x4 x5 x6 hx hb hml (fun w hw => hts w (w_lc_react_in w hw)) hown hX hbl hA hbA hz hm hg e1 e2 e3 e4 e5 e6 kk H locs ls hP hD hK hS hl
  · refine lv_tableIn (off := 1033) (tgt := 1078) hx hb dL_law_45 (by decide +kernel) (by decide +kernel) (by decide +kernel) (by decide) ?_
    exact lc_putOut l hst D h0 a a1 a2 cN cE p1 p2 p3 g og LR cG cI mo b0 b1 b2 b3 dz sa va oL oD cL cD x1 x2 x3 x4 x5 x6 hx hb hml (fun w hw => hts w (w_lc_putOut_in w hw)) hown hX hbl hA hbA hz hm hg e1 e2 e3 e4 e5 e6 kk H locs ls hP hD hK hS hl
  · refine lv_tableIn (off := 1120) (tgt := 1165) hx hb dL_law_45 (by decide +kernel) (by decide +kernel) (by decide +kernel) (by decide) ?_
    exact lc_isOut l hst D h0 a a1 a2 cN cE p1 p2 p3 g og LR cG cI mo b0 b1 b2 b3 dz sa va oL oD cL cD x1 x2 x3 x4 x5 x6 hx hb hml (fun w hw => hts w (w_lc_isOut_in w hw)) hown hX hbl hA hbA hz hm hg e1 e2 e3 e4 e5 e6 kk H locs ls hP hD hK hS hl
  · refine lv_tableIn (off := 1207) (tgt := 1252) hx hb dL_law_45 (by decide +kernel) (by decide +kernel) (by decide +kernel) (by decide) ?_
    exact lc_inFinal l hst D h0 a a1 a2 cN cE p1 p2 p3 g og LR cG cI mo b0 b1 b2 b3 dz sa va oL oD cL cD x1 x2 x3 x4 x5 x6 hx hb hml (fun w hw => hts w (w_lc_inFinal_in w hw)) hown hX hbl hA hbA hz hm hg e1 e2 e3 e4 e5 e6 kk H locs ls hP hD hK hS hl
  · refine lv_tableIn (off := 1275) (tgt := 1320) hx hb dL_law_45 (by decide +kernel) (by decide +kernel) (by decide +kernel) (by decide) ?_
    exact lc_bar l hst D h0 a a1 a2 cN cE p1 p2 p3 g og LR cG cI mo b0 b1 b2 b3 dz sa va oL oD cL cD x1 x2 x3 x4 x5 x6 hx hb hml (fun w hw => hts w (w_lc_bar_in w hw)) hown hX hbl hA hbA hz hm hg e1 e2 e3 e4 e5 e6 kk H locs ls hP hD hK hS hl
  · refine lv_tableIn (off := 1343) (tgt := 1388) hx hb dL_law_45 (by decide +kernel) (by decide +kernel) (by decide +kernel) (by decide) ?_
    exact lc_jump l hst D h0 a a1 a2 cN cE p1 p2 p3 g og LR cG cI mo b0 b1 b2 b3 dz sa va oL oD cL cD x1 x2 x3 x4 x5 x6 hx hb hml (fun w hw => hts w (w_lc_jump_in w hw)) hown hX hbl hA hbA hz hm hg e1 e2 e3 e4 e5 e6 kk H locs ls hP hD hK hS hl
  · refine lv_tableIn (off := 1425) (tgt := 1470) hx hb dL_law_45 (by decide +kernel) (by decide +kernel) (by decide +kernel) (by decide) ?_
    exact lc_put l hst D h0 a a1 a2 cN cE p1 p2 p3 g og LR cG cI mo b0 b1 b2 b3 dz sa va oL oD cL cD x1 x2 x3 x4 x5 x6 hx hb hml (fun w hw => hts w (w_lc_put_in w hw)) hown hX hbl hA hbA hz hm hg e1 e2 e3 e4 e5 e6 kk H locs ls hP hD hK hS hl
  · refine lv_tableIn (off := 1505) (tgt := 1550) hx hb dL_law_45 (by decide +kernel) (by decide +kernel) (by decide +kernel) (by decide) ?_
    exact lc_rankOf l hst D h0 a a1 a2 cN cE p1 p2 p3 g og LR cG cI mo b0 b1 b2 b3 dz sa va oL oD cL cD x1 x2 x3 x4 x5 x6 hx hb hml (fun w hw => hts w (w_lc_rankOf_in w hw)) hown hX hbl hA hbA hz hm hg e1 e2 e3 e4 e5 e6 kk H locs ls hP hD hK hS hl
  · refine lv_tableIn (off := 1573) (tgt := 1618) hx hb dL_law_45 (by decide +kernel) (by decide +kernel) (by decide +kernel) (by decide) ?_
    exact lc_resultOf l hst D h0 a a1 a2 cN cE p1 p2 p3 g og LR cG cI mo b0 b1 b2 b3 dz sa va oL oD cL cD x1 x2 x3 x4 x5 x6 hx hb hml (fun w hw => hts w (w_lc_resultOf_in w hw)) hown hX hbl hA hbA hz hm hg e1 e2 e3 e4 e5 e6 kk H locs ls hP hD hK hS hl
  · refine lv_tableIn (off := 1641) (tgt := 1686) hx hb dL_law_45 (by decide +kernel) (by decide +kernel) (by decide +kernel) (by decide) ?_
    exact lc_protest l hst D h0 a a1 a2 cN cE p1 p2 p3 g og LR cG cI mo b0 b1 b2 b3 dz sa va oL oD cL cD x1 x2 x3 x4 x5 x6 hx hb hml (fun w hw => hts w (w_lc_protest_in w hw)) hown hX hbl hA hbA hz hm hg e1 e2 e3 e4 e5 e6 kk H locs ls hP hD hK hS hl
  · refine lv_tableIn (off := 1721) (tgt := 1766) hx hb dL_law_45 (by decide +kernel) (by decide +kernel) (by decide +kernel) (by decide) ?_
    exact lc_decide l hst D h0 a a1 a2 cN cE p1 p2 p3 g og LR cG cI mo b0 b1 b2 b3 dz sa va oL oD cL cD x1 x2 x3 x4 x5 x6 hx hb hml (fun w hw => hts w (w_lc_decide_in w hw)) hown hX hbl hA hbA hz hm hg e1 e2 e3 e4 e5 e6 kk H locs ls hP hD hK hS hl
  · refine lv_tableIn (off := 1804) (tgt := 1849) hx hb dL_law_45 (by decide +kernel) (by decide +kernel) (by decide +kernel) (by decide) ?_
    exact lc_dope l hst D h0 a a1 a2 cN cE p1 p2 p3 g og LR cG cI mo b0 b1 b2 b3 dz sa va oL oD cL cD x1 x2 x3 x4 x5 x6 hx hb hml (fun w hw => hts w (w_lc_dope_in w hw)) hown hX hbl hA hbA hz hm hg e1 e2 e3 e4 e5 e6 kk H locs ls hP hD hK hS hl
  · refine lv_tableIn (off := 1895) (tgt := 1940) hx hb dL_law_45 (by decide +kernel) (by decide +kernel) (by decide +kernel) (by decide) ?_
    exact lc_close l hst D h0 a a1 a2 cN cE p1 p2 p3 g og LR cG cI mo b0 b1 b2 b3 dz sa va oL oD cL cD x1 x2 x3 x4 x5 x6 hx hb hml (fun w hw => hts w (w_lc_close_in w hw)) hown hX hbl hA hbA hz hm hg e1 e2 e3 e4 e5 e6 kk H locs ls hP hD hK hS hl
  · refine lv_tableIn (off := 1986) (tgt := 2031) hx hb dL_law_45 (by decide +kernel) (by decide +kernel) (by decide +kernel) (by decide) ?_
    exact lc_record l hst D h0 a a1 a2 cN cE p1 p2 p3 g og LR cG cI mo b0 b1 b2 b3 dz sa va oL oD cL cD x1 x2 x3 x4 x5 x6 hx hb hml (fun w hw => hts w (w_lc_record_in w hw)) hown hX hbl hA hbA hz hm hg e1 e2 e3 e4 e5 e6 kk H locs ls hP hD hK hS hl
  · refine lv_tableIn (off := 2042) (tgt := 2087) hx hb dL_law_45 (by decide +kernel) (by decide +kernel) (by decide +kernel) (by decide) ?_
    exact lc_holder l hst D h0 a a1 a2 cN cE p1 p2 p3 g og LR cG cI mo b0 b1 b2 b3 dz sa va oL oD cL cD x1 x2 x3 x4 x5 x6 hx hb hml (fun w hw => hts w (w_lc_holder_in w hw)) hown hX hbl hA hbA hz hm hg e1 e2 e3 e4 e5 e6 kk H locs ls hP hD hK hS hl
  · refine lv_tableIn (off := 2098) (tgt := 2143) hx hb dL_law_45 (by decide +kernel) (by decide +kernel) (by decide +kernel) (by decide) ?_
    exact lc_sharers l hst D h0 a a1 a2 cN cE p1 p2 p3 g og LR cG cI mo b0 b1 b2 b3 dz sa va oL oD cL cD x1 x2 x3 x4 x5 x6 hx hb hml (fun w hw => hts w (w_lc_sharers_in w hw)) hown hX hbl hA hbA hz hm hg e1 e2 e3 e4 e5 e6 kk H locs ls hP hD hK hS hl
  · refine lv_tableIn (off := 2154) (tgt := 2199) hx hb dL_law_45 (by decide +kernel) (by decide +kernel) (by decide +kernel) (by decide) ?_
    rcases zin_or x1 0 7 with h | h
    · exact lc_medals_no l hst D h0 a a1 a2 cN cE p1 p2 p3 g og LR cG cI mo b0 b1 b2 b3 dz sa va oL oD cL cD x1 x2 x3 x4 x5 x6 hx hb hml (fun w hw => hts w (w_lc_medals_no_in w hw)) hown hX hbl hA hbA hz hm hg e1 e2 e3 e4 e5 e6 h kk H locs ls hP hD hK hS hl
    · rcases zin_or x2 0 3 with h2 | h2
      · exact lc_medals_no2 l hst D h0 a a1 a2 cN cE p1 p2 p3 g og LR cG cI mo b0 b1 b2 b3 dz sa va oL oD cL cD x1 x2 x3 x4 x5 x6 hx hb hml (fun w hw => hts w (w_lc_medals_no2_in w hw)) hown hX hbl hA hbA hz hm hg e1 e2 e3 e4 e5 e6 h h2 kk H locs ls hP hD hK hS hl
      · exact lc_medals_ok l hst D h0 a a1 a2 cN cE p1 p2 p3 g og LR cG cI mo b0 b1 b2 b3 dz sa va oL oD cL cD x1 x2 x3 x4 x5 x6 hx hb hml (fun w hw => hts w (w_lc_medals_ok_in w hw)) hown hX hbl hA hbA hz hm hg e1 e2 e3 e4 e5 e6 h h2 kk H locs ls hP hD hK hS hl
  · refine lv_tableIn (off := 2222) (tgt := 2267) hx hb dL_law_45 (by decide +kernel) (by decide +kernel) (by decide +kernel) (by decide) ?_
    rcases zin_or x1 0 7 with h | h
    · exact lc_inTable_no l hst D h0 a a1 a2 cN cE p1 p2 p3 g og LR cG cI mo b0 b1 b2 b3 dz sa va oL oD cL cD x1 x2 x3 x4 x5 x6 hx hb hml (fun w hw => hts w (w_lc_inTable_no_in w hw)) hown hX hbl hA hbA hz hm hg e1 e2 e3 e4 e5 e6 h kk H locs ls hP hD hK hS hl
    · exact lc_inTable_ok l hst D h0 a a1 a2 cN cE p1 p2 p3 g og LR cG cI mo b0 b1 b2 b3 dz sa va oL oD cL cD x1 x2 x3 x4 x5 x6 hx hb hml (fun w hw => hts w (w_lc_inTable_ok_in w hw)) hown hX hbl hA hbA hz hm hg e1 e2 e3 e4 e5 e6 h kk H locs ls hP hD hK hS hl
  · refine lv_tableIn (off := 2306) (tgt := 2351) hx hb dL_law_45 (by decide +kernel) (by decide +kernel) (by decide +kernel) (by decide) ?_
    rcases zin_or x1 0 7 with h | h
    · exact lc_points_no l hst D h0 a a1 a2 cN cE p1 p2 p3 g og LR cG cI mo b0 b1 b2 b3 dz sa va oL oD cL cD x1 x2 x3 x4 x5 x6 hx hb hml (fun w hw => hts w (w_lc_points_no_in w hw)) hown hX hbl hA hbA hz hm hg e1 e2 e3 e4 e5 e6 h kk H locs ls hP hD hK hS hl
    · exact lc_points_ok l hst D h0 a a1 a2 cN cE p1 p2 p3 g og LR cG cI mo b0 b1 b2 b3 dz sa va oL oD cL cD x1 x2 x3 x4 x5 x6 hx hb hml (fun w hw => hts w (w_lc_points_ok_in w hw)) hown hX hbl hA hbA hz hm hg e1 e2 e3 e4 e5 e6 h kk H locs ls hP hD hK hS hl
  · refine lv_tableIn (off := 2383) (tgt := 2428) hx hb dL_law_45 (by decide +kernel) (by decide +kernel) (by decide +kernel) (by decide) ?_
    rcases zin_or x1 0 7 with h | h
    · exact lc_shareBits_no l hst D h0 a a1 a2 cN cE p1 p2 p3 g og LR cG cI mo b0 b1 b2 b3 dz sa va oL oD cL cD x1 x2 x3 x4 x5 x6 hx hb hml (fun w hw => hts w (w_lc_shareBits_no_in w hw)) hown hX hbl hA hbA hz hm hg e1 e2 e3 e4 e5 e6 h kk H locs ls hP hD hK hS hl
    · exact lc_shareBits_none l hst D h0 a a1 a2 cN cE p1 p2 p3 g og LR cG cI mo b0 b1 b2 b3 dz sa va oL oD cL cD x1 x2 x3 x4 x5 x6 hx hb hml (fun w hw => hts w (w_lc_shareBits_none_in w hw)) hown hX hbl hA hbA hz hm hg e1 e2 e3 e4 e5 e6 h kk H locs ls hP hD hK hS hl
  · refine lv_tableIn (off := 2439) (tgt := 2484) hx hb dL_law_45 (by decide +kernel) (by decide +kernel) (by decide +kernel) (by decide) ?_
    exact lc_isTrue l hst D h0 a a1 a2 cN cE p1 p2 p3 g og LR cG cI mo b0 b1 b2 b3 dz sa va oL oD cL cD x1 x2 x3 x4 x5 x6 hx hb hml (fun w hw => hts w (w_lc_isTrue_in w hw)) hown hX hbl hA hbA hz hm hg e1 e2 e3 e4 e5 e6 kk H locs ls hP hD hK hS hl
  · refine lv_tableOut (tgt := 2497) hx hb dL_law_45 (by decide +kernel) (by decide) ?_
    refine W.widen (k := 600) (n := 8000) (by omega) (by omega) ?_
    exact kk H locs hS ls (lv_sub hl [0, 5] rfl)

set_option maxHeartbeats 4000000 in
set_option maxRecDepth 100000 in
theorem zexit {p : Program} {e : Env} {s : State} {m : MethodId} {below : List Frame} {meth : Method} {c : Code} {b k n : Nat} {l : Launch} (hx : p.tables.exec = Jvm.exec) (hb : c.code = cL_law) (hr : meth.sig.returnType = ret) (hlocks : meth.locks = false) (hk : k ≤ 600006) (hn : n ≤ 7302032) {H : Heap} {locs : List Loc} (hS : va_S (fun q : Nat => s.heap.size ≤ q) s.heap H locs) {ls : Array Slot} : W p l e room_1 s m #[Value.ref b] below meth c H locs k n (lw_Z below #[Value.ref b] s) (F0 m 2503 ls []) := by
  refine lv_iconst (v := 1) hx hb dL_law_2503 (by decide) ?_
  refine va_forget (fun q hq => hS.2.2 q hq) ?_
  refine W.widen (k := 600006) (n := 7302032) hk hn ?_
  refine W.base ?_
  exact lw_ret (Drawn.sameBut.refl s.drawn lw_cs) hx hb hr hlocks dL_law_2504

def w_start : List Cond := .classLink RL 8 RX11 :: ([.classLink RL 8 RX11, .instantiable RX11 11, .initialized RX11, .instanceMethod yX11_init, .methodLink RL 124 yX11_init, .classLink RL 125 RX17, .instantiable RX17 8, .initialized RX17, .instanceMethod yX17_init, .methodLink RL 127 yX17_init, .arrayClass .long, .arrayClass .double] ++ (wsX110 ++ (zX11_init_ws ++ (wsX170 ++ (zX17_init_ws ++ ([]))))))
set_option maxHeartbeats 4000000 in
set_option maxRecDepth 100000 in
theorem w_start_in : ∀ w ∈ w_start, w ∈ lw_tbl := by decide +kernel

set_option maxHeartbeats 4000000 in
set_option maxRecDepth 100000 in
/-- from the entry, for every script of at most 7 ints, the law comes to its end with true -/
theorem whole_start {p : Program} {e : Env} {s : State} {m : MethodId} {below : List Frame} {meth : Method} {c : Code} (l : Launch) (hflags : l.flags = flags0) {b L : Nat} {xs : Nat → Int32} (hL : L ≤ 7) (C0 : lw_At p s m meth c b L xs) : W p l e room_1 s m #[Value.ref b] below meth c s.heap [] 0 0 (lw_Z below #[Value.ref b] s) (entryFrame m ([Value.ref b] : List Value).toArray 9) := by
  obtain ⟨hx, hb, hr, hml, hown, hts0, hX, hbl, hlocks, hgv⟩ := C0
  have hst : l.stackTraces = false := by unfold Launch.stackTraces; rw [hflags]; decide +kernel
  have hown : s.vm.findClass RL = some m.cls := hown
  have hb : c.code = cL_law := hb
  obtain ⟨A, hAe⟩ : ∃ A : Nat → Prop, A = (fun q : Nat => s.heap.size ≤ q) := ⟨_, rfl⟩
  have hA : ∀ q : Nat, s.heap.size ≤ q → A q := fun q h => by rw [hAe]; exact h
  have hbA : ¬ A b := by rw [hAe]; exact Nat.not_le.mpr hbl
  have hz : zX A s s.heap := by rw [hAe]; exact zst_X hts0 hgv
  obtain ⟨dz, sa, va, hm⟩ : ∃ dz sa va : Nat, zMS dz sa va A s s.heap := by rw [hAe]; exact zst_M hts0 hgv
  obtain ⟨D, hK⟩ := zst_D hts0
  have hts : ∀ w ∈ w_start, w.before #[Value.ref b] s = true := fun w hw => hts0 w (w_start_in w hw)
  have hS : va_S A s.heap s.heap [] := va_S.rf
  have hP : va_P D vwCl [] s.heap := fun k q h => by simp at h
  have hD : va_D A [] := ⟨fun i j p q h => by simp at h, fun k q h => by simp at h⟩
  have hl := lv_entry ([.ref b]) (n := 9) (Nat.le_of_ble_eq_true rfl)
  rw [lg_entry_eq]
  generalize (lg_sl ([.ref b]) ++ List.replicate (9 - (lg_sl ([.ref b])).length) Slot.unset).toArray = ls at hl ⊢
  have hl : lv_has ls 9 [(0, .ref b)] := hl
  refine va_new (ci := 17) (fs := [.null, .null, .null, .null, .null, .null, .null, .null, .int 0, .int 0, .int 0]) (C := RX11) (T := TX11) (N := 11) hx hb hts (by decide +kernel) tyX11 tyX11_ok hown (hts (.classLink RL 8 RX11) (by decide +kernel)) (hts (.instantiable RX11 11) (by decide +kernel)) (hts (.initialized RX11) (by decide +kernel)) hK hP hD hS hA rfl (fun j hj => by rcases (show j = 0 ∨ j = 1 ∨ j = 2 ∨ j = 3 ∨ j = 4 ∨ j = 5 ∨ j = 6 ∨ j = 7 ∨ j = 8 ∨ j = 9 ∨ j = 10 by omega) with rfl | rfl | rfl | rfl | rfl | rfl | rfl | rfl | rfl | rfl | rfl <;> rfl) (Nat.le_of_ble_eq_true rfl) (Nat.le_of_ble_eq_true rfl) dL_law_0 (fun q1 H hP hD hS => ?_)
  have hP : va_P D vwCl [(q1, .inr (17, [.null, .null, .null, .null, .null, .null, .null, .null, .int 0, .int 0, .int 0]))] H := hP
  have hD : va_D A [(q1, .inr (17, [.null, .null, .null, .null, .null, .null, .null, .null, .int 0, .int 0, .int 0]))] := hD
  refine W.widen (k := 1) (n := 11) (by omega) (by omega) ?_
  refine lv_dup hx hb dL_law_3 rfl ?_
  have hPc := hP.sub (ws' := [(q1, .inr (17, [.null, .null, .null, .null, .null, .null, .null, .null, .int 0, .int 0, .int 0]))]) [0] rfl
  have hDc := hD.sub (ws' := [(q1, .inr (17, [.null, .null, .null, .null, .null, .null, .null, .null, .int 0, .int 0, .int 0]))]) [0] (by decide) rfl
  have hKc := hK.sub (tys' := []) [] rfl
  have hFc := va_free (wc := [(q1, .inr (17, [.null, .null, .null, .null, .null, .null, .null, .null, .int 0, .int 0, .int 0]))]) hD hS hA [0] rfl
  refine va_callv (va_runI (As := []) (rest := [.ref q1]) ⟨hx, hb, hml, hown, hts⟩ (c_HS l hst D H.size q1) (cwI 0 hts (goodIn_sub (fun _ h => List.mem_cons_of_mem _ (List.mem_append_right _ (List.mem_append_right _ (List.mem_append_left _ h)))) zX11_init_ws_good) rfl rfl rfl (hts (.initialized RX11) (by decide +kernel)) (hts (.methodLink RL 124 yX11_init) (by decide +kernel)) (hts (.instanceMethod yX11_init) (by decide +kernel)) rfl (by decide +kernel) ⟨Nat.le_of_ble_eq_true rfl, Nat.le_of_ble_eq_true rfl⟩) ⟨zPre.blind, zPre.mk hPc hKc hDc hz hS (fun q h => hFc q h)⟩ rfl rfl hl.1 rfl (lv_room (Nat.le_of_ble_eq_true rfl)) dL_law_4 ⟨Nat.le_of_ble_eq_true rfl, Nat.le_of_ble_eq_true rfl⟩) hS (fun q _ h => hFc q h) (fun q h => hFc q h) (fun u t H1 locs ht9 hvm hw hB hz1 hk1 hS => ?_)
  refine W.widen (k := 101) (n := 2011) (by omega) (by omega) ?_
  obtain ⟨a, a1, a2, cN, cE, p1, p2, p3, g, og, LR, cG, cI, hg, hP1, hK1, hD1⟩ := hB
  rw [ht9] at hP1
  have hK1 := va_K.moved hvm.symm hK1
  obtain ⟨hP, hD⟩ := va_join (wr := []) (w1 := [(q1, .inr (17, zHS a)), ((a 0), .inr (6, [.ref a1, .ref a2, .int 0])), (a1, .inl (cN, 30, .inl (fun _ => 0))), ((a 1), .inl (cE, 5, .inr (.inr (.inr (.inr (fun _ => none)))))), ((a 2), .inr (11, [.ref p1, .ref p2, .ref p3, .int 0, .long 0])), ((a 7), .inr (10, [.ref g, .int 0])), (g, .inl (cG, 8, .inr (.inr (.inr (.inr og)))))] ++ va_pl LR (zrow cI)) hP hD [0] [] rfl rfl (by decide) (by decide) hk1 hFc hP1 hD1
  have hK := (hK.sub (tys' := []) [] rfl).app hK1
  generalize H1 = H at hP hS ⊢
  have hP : va_P D vwCl ([(q1, .inr (17, zHS a)), ((a 0), .inr (6, [.ref a1, .ref a2, .int 0])), (a1, .inl (cN, 30, .inl (fun _ => 0))), ((a 1), .inl (cE, 5, .inr (.inr (.inr (.inr (fun _ => none)))))), ((a 2), .inr (11, [.ref p1, .ref p2, .ref p3, .int 0, .long 0])), ((a 7), .inr (10, [.ref g, .int 0])), (g, .inl (cG, 8, .inr (.inr (.inr (.inr og)))))] ++ va_pl LR (zrow cI)) H := hP
  have hD : va_D A ([(q1, .inr (17, zHS a)), ((a 0), .inr (6, [.ref a1, .ref a2, .int 0])), (a1, .inl (cN, 30, .inl (fun _ => 0))), ((a 1), .inl (cE, 5, .inr (.inr (.inr (.inr (fun _ => none)))))), ((a 2), .inr (11, [.ref p1, .ref p2, .ref p3, .int 0, .long 0])), ((a 7), .inr (10, [.ref g, .int 0])), (g, .inl (cG, 8, .inr (.inr (.inr (.inr og)))))] ++ va_pl LR (zrow cI)) := hD
  have hK : va_K D vwCl [(cN, .int), (cE, .object "HeatStadium$Event"), (cG, .array .int), (cI, .int)] s := hK
  refine lv_astore_n (lv' := [(1, .ref q1), (0, .ref b)]) hx hb dL_law_7 rfl hl (by decide) rfl (fun ls hl => ?_)
  refine va_new (ci := 23) (fs := [.int 0, .null, .null, .null, .null, .int 0, .int 0, .long 0]) (C := RX17) (T := TX17) (N := 8) hx hb hts (by decide +kernel) tyX17 tyX17_ok hown (hts (.classLink RL 125 RX17) (by decide +kernel)) (hts (.instantiable RX17 8) (by decide +kernel)) (hts (.initialized RX17) (by decide +kernel)) hK hP hD hS hA rfl (fun j hj => by rcases (show j = 0 ∨ j = 1 ∨ j = 2 ∨ j = 3 ∨ j = 4 ∨ j = 5 ∨ j = 6 ∨ j = 7 by omega) with rfl | rfl | rfl | rfl | rfl | rfl | rfl | rfl <;> rfl) (Nat.le_of_ble_eq_true rfl) (Nat.le_of_ble_eq_true rfl) dL_law_8 (fun q2 H hP hD hS => ?_)
  have hP := zrotP hP
  have hD := zrotD hD
  have hP : va_P D vwCl ([(q1, .inr (17, zHS a)), ((a 0), .inr (6, [.ref a1, .ref a2, .int 0])), (a1, .inl (cN, 30, .inl (fun _ => 0))), ((a 1), .inl (cE, 5, .inr (.inr (.inr (.inr (fun _ => none)))))), ((a 2), .inr (11, [.ref p1, .ref p2, .ref p3, .int 0, .long 0])), ((a 7), .inr (10, [.ref g, .int 0])), (g, .inl (cG, 8, .inr (.inr (.inr (.inr og))))), (q2, .inr (23, [.int 0, .null, .null, .null, .null, .int 0, .int 0, .long 0]))] ++ va_pl LR (zrow cI)) H := hP
  have hD : va_D A ([(q1, .inr (17, zHS a)), ((a 0), .inr (6, [.ref a1, .ref a2, .int 0])), (a1, .inl (cN, 30, .inl (fun _ => 0))), ((a 1), .inl (cE, 5, .inr (.inr (.inr (.inr (fun _ => none)))))), ((a 2), .inr (11, [.ref p1, .ref p2, .ref p3, .int 0, .long 0])), ((a 7), .inr (10, [.ref g, .int 0])), (g, .inl (cG, 8, .inr (.inr (.inr (.inr og))))), (q2, .inr (23, [.int 0, .null, .null, .null, .null, .int 0, .int 0, .long 0]))] ++ va_pl LR (zrow cI)) := hD
  refine W.widen (k := 102) (n := 2019) (by omega) (by omega) ?_
  refine lv_dup hx hb dL_law_11 rfl ?_
  have hPc := hP.sub (ws' := [(q2, .inr (23, [.int 0, .null, .null, .null, .null, .int 0, .int 0, .long 0]))]) [7] rfl
  have hDc := hD.sub (ws' := [(q2, .inr (23, [.int 0, .null, .null, .null, .null, .int 0, .int 0, .long 0]))]) [7] (by decide) rfl
  have hKc := hK.sub (tys' := []) [] rfl
  have hFc := va_free (wc := [(q2, .inr (23, [.int 0, .null, .null, .null, .null, .int 0, .int 0, .long 0]))]) hD hS hA [7] rfl
  refine va_callv (va_runI (As := []) (rest := [.ref q2]) ⟨hx, hb, hml, hown, hts⟩ (cm_init l hst D H.size q2 dz) (cwI 0 hts (goodIn_sub (fun _ h => List.mem_cons_of_mem _ (List.mem_append_right _ (List.mem_append_right _ (List.mem_append_right _ (List.mem_append_right _ (List.mem_append_left _ h)))))) zX17_init_ws_good) rfl rfl rfl (hts (.initialized RX17) (by decide +kernel)) (hts (.methodLink RL 127 yX17_init) (by decide +kernel)) (hts (.instanceMethod yX17_init) (by decide +kernel)) rfl (by decide +kernel) ⟨Nat.le_of_ble_eq_true rfl, Nat.le_of_ble_eq_true rfl⟩) ⟨zPreX.blind (zM_ok dz), zPreX.mk (zM_ok dz) (hm.1) hPc hKc hDc hz hS (fun q h => hFc q h)⟩ rfl rfl hl.1 rfl (lv_room (Nat.le_of_ble_eq_true rfl)) dL_law_12 ⟨Nat.le_of_ble_eq_true rfl, Nat.le_of_ble_eq_true rfl⟩) hS (fun q _ h => hFc q h) (fun q h => hFc q h) (fun u t H1 locs ht9 hvm hw hB hz1 hk1 hS => ?_)
  refine W.widen (k := 106) (n := 2031) (by omega) (by omega) ?_
  obtain ⟨n3, n4, n5, n6, hP1, hK1, hD1⟩ := hB
  rw [ht9] at hP1
  have hK1 := va_K.moved hvm.symm hK1
  obtain ⟨hP, hD⟩ := va_joinQ (wr := [(q1, .inr (17, zHS a)), ((a 0), .inr (6, [.ref a1, .ref a2, .int 0])), (a1, .inl (cN, 30, .inl (fun _ => 0))), ((a 1), .inl (cE, 5, .inr (.inr (.inr (.inr (fun _ => none)))))), ((a 2), .inr (11, [.ref p1, .ref p2, .ref p3, .int 0, .long 0])), ((a 7), .inr (10, [.ref g, .int 0])), (g, .inl (cG, 8, .inr (.inr (.inr (.inr og)))))]) (w1 := [(q2, .inr (23, [.int 0, .ref n3, .ref n4, .ref n5, .ref n6, .int 0, .int 0, .long 0])), (n3, .inr (5, [.int 0, .ref dz, .int 0])), (n4, .inr (5, [.int 0, .ref dz, .int 0])), (n5, .inr (5, [.int 0, .ref dz, .int 0])), (n6, .inr (5, [.int 0, .ref dz, .int 0]))]) hP hD [7] [0, 1, 2, 3, 4, 5, 6] rfl rfl (by decide) (by decide) hk1 hFc hP1 hD1
  have hK := (hK.sub (tys' := [(cN, .int), (cE, .object "HeatStadium$Event"), (cG, .array .int), (cI, .int)]) [0, 1, 2, 3] rfl).app hK1
  generalize H1 = H at hP hS ⊢
  have hP : va_P D vwCl ([(q1, .inr (17, zHS a)), ((a 0), .inr (6, [.ref a1, .ref a2, .int 0])), (a1, .inl (cN, 30, .inl (fun _ => 0))), ((a 1), .inl (cE, 5, .inr (.inr (.inr (.inr (fun _ => none)))))), ((a 2), .inr (11, [.ref p1, .ref p2, .ref p3, .int 0, .long 0])), ((a 7), .inr (10, [.ref g, .int 0])), (g, .inl (cG, 8, .inr (.inr (.inr (.inr og))))), (q2, .inr (23, [.int 0, .ref n3, .ref n4, .ref n5, .ref n6, .int 0, .int 0, .long 0])), (n3, .inr (5, [.int 0, .ref dz, .int 0])), (n4, .inr (5, [.int 0, .ref dz, .int 0])), (n5, .inr (5, [.int 0, .ref dz, .int 0])), (n6, .inr (5, [.int 0, .ref dz, .int 0]))] ++ va_pl LR (zrow cI)) H := hP
  have hD : va_D A ([(q1, .inr (17, zHS a)), ((a 0), .inr (6, [.ref a1, .ref a2, .int 0])), (a1, .inl (cN, 30, .inl (fun _ => 0))), ((a 1), .inl (cE, 5, .inr (.inr (.inr (.inr (fun _ => none)))))), ((a 2), .inr (11, [.ref p1, .ref p2, .ref p3, .int 0, .long 0])), ((a 7), .inr (10, [.ref g, .int 0])), (g, .inl (cG, 8, .inr (.inr (.inr (.inr og))))), (q2, .inr (23, [.int 0, .ref n3, .ref n4, .ref n5, .ref n6, .int 0, .int 0, .long 0])), (n3, .inr (5, [.int 0, .ref dz, .int 0])), (n4, .inr (5, [.int 0, .ref dz, .int 0])), (n5, .inr (5, [.int 0, .ref dz, .int 0])), (n6, .inr (5, [.int 0, .ref dz, .int 0]))] ++ va_pl LR (zrow cI)) := hD
  have hK : va_K D vwCl [(cN, .int), (cE, .object "HeatStadium$Event"), (cG, .array .int), (cI, .int)] s := hK
  refine lv_astore_n (lv' := [(2, .ref q2), (1, .ref q1), (0, .ref b)]) hx hb dL_law_15 rfl hl (by decide) rfl (fun ls hl => ?_)
  refine lv_iconst (v := 1) hx hb dL_law_16 (by decide) ?_
  refine va_newa (atype := .long) (ty := .long) (a0 := (1, .inr (.inl (fun _ => 0)))) hx hb (hts (.arrayClass .long) (by decide +kernel)) rfl hK hP hD hS hA (fun _ => rfl) (by decide) (by decide) (Nat.le_of_ble_eq_true rfl) (Nat.le_of_ble_eq_true rfl) (Nat.le_of_ble_eq_true rfl) dL_law_17 (fun q7 cA8 H hK hP hD hS => ?_)
  have hP := zrotP hP
  have hD := zrotD hD
  have hP : va_P D vwCl ([(q1, .inr (17, zHS a)), ((a 0), .inr (6, [.ref a1, .ref a2, .int 0])), (a1, .inl (cN, 30, .inl (fun _ => 0))), ((a 1), .inl (cE, 5, .inr (.inr (.inr (.inr (fun _ => none)))))), ((a 2), .inr (11, [.ref p1, .ref p2, .ref p3, .int 0, .long 0])), ((a 7), .inr (10, [.ref g, .int 0])), (g, .inl (cG, 8, .inr (.inr (.inr (.inr og))))), (q2, .inr (23, [.int 0, .ref n3, .ref n4, .ref n5, .ref n6, .int 0, .int 0, .long 0])), (n3, .inr (5, [.int 0, .ref dz, .int 0])), (n4, .inr (5, [.int 0, .ref dz, .int 0])), (n5, .inr (5, [.int 0, .ref dz, .int 0])), (n6, .inr (5, [.int 0, .ref dz, .int 0])), (q7, .inl (cA8, 1, .inr (.inl (fun _ => 0))))] ++ va_pl LR (zrow cI)) H := hP
  have hD : va_D A ([(q1, .inr (17, zHS a)), ((a 0), .inr (6, [.ref a1, .ref a2, .int 0])), (a1, .inl (cN, 30, .inl (fun _ => 0))), ((a 1), .inl (cE, 5, .inr (.inr (.inr (.inr (fun _ => none)))))), ((a 2), .inr (11, [.ref p1, .ref p2, .ref p3, .int 0, .long 0])), ((a 7), .inr (10, [.ref g, .int 0])), (g, .inl (cG, 8, .inr (.inr (.inr (.inr og))))), (q2, .inr (23, [.int 0, .ref n3, .ref n4, .ref n5, .ref n6, .int 0, .int 0, .long 0])), (n3, .inr (5, [.int 0, .ref dz, .int 0])), (n4, .inr (5, [.int 0, .ref dz, .int 0])), (n5, .inr (5, [.int 0, .ref dz, .int 0])), (n6, .inr (5, [.int 0, .ref dz, .int 0])), (q7, .inl (cA8, 1, .inr (.inl (fun _ => 0))))] ++ va_pl LR (zrow cI)) := hD
  have hK : va_K D vwCl [(cN, .int), (cE, .object "HeatStadium$Event"), (cG, .array .int), (cI, .int), (cA8, .long)] s := hK
  refine W.widen (k := 107) (n := 2032) (by omega) (by omega) ?_
  refine lv_astore_n (lv' := [(3, .ref q7), (2, .ref q2), (1, .ref q1), (0, .ref b)]) hx hb dL_law_19 rfl hl (by decide) rfl (fun ls hl => ?_)
  refine lv_iconst (v := 1) hx hb dL_law_20 (by decide) ?_
  refine va_newa (atype := .double) (ty := .double) (a0 := (1, .inr (.inr (.inr (.inl (fun _ => 0)))))) hx hb (hts (.arrayClass .double) (by decide +kernel)) rfl hK hP hD hS hA (fun _ => rfl) (by decide) (by decide) (Nat.le_of_ble_eq_true rfl) (Nat.le_of_ble_eq_true rfl) (Nat.le_of_ble_eq_true rfl) dL_law_21 (fun q9 cA10 H hK hP hD hS => ?_)
  have hP := zrotP hP
  have hD := zrotD hD
  have hP : va_P D vwCl ([(q1, .inr (17, zHS a)), ((a 0), .inr (6, [.ref a1, .ref a2, .int 0])), (a1, .inl (cN, 30, .inl (fun _ => 0))), ((a 1), .inl (cE, 5, .inr (.inr (.inr (.inr (fun _ => none)))))), ((a 2), .inr (11, [.ref p1, .ref p2, .ref p3, .int 0, .long 0])), ((a 7), .inr (10, [.ref g, .int 0])), (g, .inl (cG, 8, .inr (.inr (.inr (.inr og))))), (q2, .inr (23, [.int 0, .ref n3, .ref n4, .ref n5, .ref n6, .int 0, .int 0, .long 0])), (n3, .inr (5, [.int 0, .ref dz, .int 0])), (n4, .inr (5, [.int 0, .ref dz, .int 0])), (n5, .inr (5, [.int 0, .ref dz, .int 0])), (n6, .inr (5, [.int 0, .ref dz, .int 0])), (q7, .inl (cA8, 1, .inr (.inl (fun _ => 0)))), (q9, .inl (cA10, 1, .inr (.inr (.inr (.inl (fun _ => 0))))))] ++ va_pl LR (zrow cI)) H := hP
  have hD : va_D A ([(q1, .inr (17, zHS a)), ((a 0), .inr (6, [.ref a1, .ref a2, .int 0])), (a1, .inl (cN, 30, .inl (fun _ => 0))), ((a 1), .inl (cE, 5, .inr (.inr (.inr (.inr (fun _ => none)))))), ((a 2), .inr (11, [.ref p1, .ref p2, .ref p3, .int 0, .long 0])), ((a 7), .inr (10, [.ref g, .int 0])), (g, .inl (cG, 8, .inr (.inr (.inr (.inr og))))), (q2, .inr (23, [.int 0, .ref n3, .ref n4, .ref n5, .ref n6, .int 0, .int 0, .long 0])), (n3, .inr (5, [.int 0, .ref dz, .int 0])), (n4, .inr (5, [.int 0, .ref dz, .int 0])), (n5, .inr (5, [.int 0, .ref dz, .int 0])), (n6, .inr (5, [.int 0, .ref dz, .int 0])), (q7, .inl (cA8, 1, .inr (.inl (fun _ => 0)))), (q9, .inl (cA10, 1, .inr (.inr (.inr (.inl (fun _ => 0))))))] ++ va_pl LR (zrow cI)) := hD
  have hK : va_K D vwCl [(cN, .int), (cE, .object "HeatStadium$Event"), (cG, .array .int), (cI, .int), (cA8, .long), (cA10, .double)] s := hK
  refine W.widen (k := 108) (n := 2033) (by omega) (by omega) ?_
  refine lv_astore (lv' := [(4, .ref q9), (3, .ref q7), (2, .ref q2), (1, .ref q1), (0, .ref b)]) hx hb dL_law_23 hl (by decide) rfl (fun ls hl => ?_)
  refine lv_iconst (v := 0) hx hb dL_law_25 (by decide) ?_
  refine lv_istore (lv' := [(5, .int 0), (4, .ref q9), (3, .ref q7), (2, .ref q2), (1, .ref q1), (0, .ref b)]) hx hb dL_law_26 hl (by decide) rfl (fun ls hl => ?_)
  refine lv_iload hx hb dL_law_28 (lv_at hl 0 rfl) ?_
  refine lv_aload_n hx hb dL_law_30 rfl (lv_at hl 5 rfl) ?_
  refine va_slen hx hb hX hbl hbA hS dL_law_31 ?_
  refine lv_bipush (v := 7) hx hb dL_law_32 (by decide) ?_
  refine lv_isub hx hb dL_law_34 ?_
  rcases Nat.lt_or_ge L 7 with q | q
  · have hc : Int32.ofNat L - 7 < 0 := by rcases (show L = 0 ∨ L = 1 ∨ L = 2 ∨ L = 3 ∨ L = 4 ∨ L = 5 ∨ L = 6 by omega) with rfl | rfl | rfl | rfl | rfl | rfl | rfl <;> decide +kernel
    refine lv_icmp_gt (tgt := 2503) hx hb dL_law_35 (by decide) (fun _ => ?_) (fun c9 => absurd hc c9)
    subst hAe
    exact zexit hx hb hr hlocks (by omega) (by omega) hS
  obtain rfl : L = 7 := by omega
  refine lv_icmp_gt (tgt := 2503) hx hb dL_law_35 (by decide) (fun c9 => absurd c9 (by decide +kernel)) (fun _ => ?_)
  refine lv_aload_n hx hb dL_law_38 rfl (lv_at hl 5 rfl) ?_
  refine lv_iload hx hb dL_law_39 (lv_at hl 0 rfl) ?_
  refine va_sld hx hb hX hbl hbA hS (show vp_in 0 7 by unfold vp_in; decide) dL_law_41 ?_
  refine lv_bipush (v := 31) hx hb dL_law_42 (by decide) ?_
  refine lv_iand hx hb dL_law_44 ?_
  refine W.widen (k := 200) (n := 3000) (by omega) (by omega) ?_
  have hP := hP.part (cx := [(q1, .inr (17, zHS a)), ((a 0), .inr (6, [.ref a1, .ref a2, .int 0])), (a1, .inl (cN, 30, .inl (fun _ => 0))), ((a 1), .inl (cE, 5, .inr (.inr (.inr (.inr (fun _ => none)))))), ((a 2), .inr (11, [.ref p1, .ref p2, .ref p3, .int 0, .long 0])), ((a 7), .inr (10, [.ref g, .int 0])), (g, .inl (cG, 8, .inr (.inr (.inr (.inr og))))), (q2, .inr (23, [.int 0, .ref n3, .ref n4, .ref n5, .ref n6, .int 0, .int 0, .long 0])), (n3, .inr (5, [.int 0, .ref dz, .int 0])), (n4, .inr (5, [.int 0, .ref dz, .int 0])), (n5, .inr (5, [.int 0, .ref dz, .int 0])), (n6, .inr (5, [.int 0, .ref dz, .int 0])), (q7, .inl (cA8, 1, .inr (.inl (fun _ => 0)))), (q9, .inl (cA10, 1, .inr (.inr (.inr (.inl (fun _ => 0))))))]) [0, 1, 2, 3, 4, 5, 6, 7, 8, 9, 10, 11, 12, 13] rfl
  have hD := hD.part (cx := [(q1, .inr (17, zHS a)), ((a 0), .inr (6, [.ref a1, .ref a2, .int 0])), (a1, .inl (cN, 30, .inl (fun _ => 0))), ((a 1), .inl (cE, 5, .inr (.inr (.inr (.inr (fun _ => none)))))), ((a 2), .inr (11, [.ref p1, .ref p2, .ref p3, .int 0, .long 0])), ((a 7), .inr (10, [.ref g, .int 0])), (g, .inl (cG, 8, .inr (.inr (.inr (.inr og))))), (q2, .inr (23, [.int 0, .ref n3, .ref n4, .ref n5, .ref n6, .int 0, .int 0, .long 0])), (n3, .inr (5, [.int 0, .ref dz, .int 0])), (n4, .inr (5, [.int 0, .ref dz, .int 0])), (n5, .inr (5, [.int 0, .ref dz, .int 0])), (n6, .inr (5, [.int 0, .ref dz, .int 0])), (q7, .inl (cA8, 1, .inr (.inl (fun _ => 0)))), (q9, .inl (cA10, 1, .inr (.inr (.inr (.inl (fun _ => 0))))))]) [0, 1, 2, 3, 4, 5, 6, 7, 8, 9, 10, 11, 12, 13] (by decide) rfl
  have hK := hK.sub (tys' := [(cN, .int), (cE, .object "HeatStadium$Event"), (cG, .array .int), (cI, .int), (cA8, .long), (cA10, .double)]) [0, 1, 2, 3, 4, 5] rfl
  refine zdispatch l hst D q1 a a1 a2 cN cE p1 p2 p3 g og LR cG cI q2 n3 n4 n5 n6 dz sa va q7 q9 cA8 cA10 _ _ _ _ _ _ _ hx hb hml hts0 hown hX hbl hA hbA hz hm hg rfl rfl rfl rfl rfl rfl (fun H locs hS ls hl => ?_) _ _ ls hP hD hK hS (lv_sub hl [5, 4, 3, 2, 1, 0] rfl)
  refine lv_iinc (v := 7) (lv' := [(5, .int 7), (0, .ref b)]) hx hb dL_law_2497 hl (k := 1) rfl (by decide) (by decide) rfl (fun ls hl => ?_)
  refine lv_goto (tgt := 28) hx hb dL_law_2500 (by decide) ?_
  refine lv_iload hx hb dL_law_28 (lv_at hl 0 rfl) ?_
  refine lv_aload_n hx hb dL_law_30 rfl (lv_at hl 1 rfl) ?_
  refine va_slen hx hb hX hbl hbA hS dL_law_31 ?_
  refine lv_bipush (v := 7) hx hb dL_law_32 (by decide) ?_
  refine lv_isub hx hb dL_law_34 ?_
  refine lv_icmp_gt (tgt := 2503) hx hb dL_law_35 (by decide) (fun _ => ?_) (fun c9 => absurd (by decide +kernel) c9)
  subst hAe
  exact zexit hx hb hr hlocks (by omega) (by omega) hS
