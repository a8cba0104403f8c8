/-! printed rows that this part uses -/
def tyJx35411 : Nat → FieldType := fun k => match k with
  | 0 => .int
  | 1 => .int
  | 2 => .int
  | _ => .object "java/util/ArrayList"
theorem nmJx35411 : ∀ a, a < 4 → ∀ b, b < 4 → a ≠ b → (TJx35411 a).2.1 ≠ (TJx35411 b).2.1 := by decide +kernel
theorem tyJx35411_ok : ∀ k, k < 4 → parseFieldDescriptor (TJx35411 k).2.2.1 = some (tyJx35411 k) := by decide +kernel
theorem dX17_medals_0 : decode cX17_medals 0 = .ok (.bipush 8, 2) := by decide +kernel
theorem dX17_medals_2 : decode cX17_medals 2 = .ok (.iconst 4, 1) := by decide +kernel
theorem dX17_medals_3 : decode cX17_medals 3 = .ok (.multianewarray 364 2, 4) := by decide +kernel
theorem dX17_medals_7 : decode cX17_medals 7 = .ok (.astore_n 1, 1) := by decide +kernel
theorem dX17_medals_8 : decode cX17_medals 8 = .ok (.aload_n 0, 1) := by decide +kernel
theorem dX17_medals_9 : decode cX17_medals 9 = .ok (.getfield 19, 3) := by decide +kernel
theorem dX17_medals_12 : decode cX17_medals 12 = .ok (.invokevirtual 76, 3) := by decide +kernel
theorem dX17_medals_15 : decode cX17_medals 15 = .ok (.astore_n 2, 1) := by decide +kernel
theorem dX17_medals_16 : decode cX17_medals 16 = .ok (.aload_n 2, 1) := by decide +kernel
theorem dX17_medals_17 : decode cX17_medals 17 = .ok (.invokeinterface 80 1, 5) := by decide +kernel
theorem dX17_medals_22 : decode cX17_medals 22 = .ok (.ifCond .eq 116, 3) := by decide +kernel
theorem dX17_medals_138 : decode cX17_medals 138 = .ok (.aload_n 1, 1) := by decide +kernel
theorem dX17_medals_139 : decode cX17_medals 139 = .ok (.areturn, 1) := by decide +kernel
theorem dJx35411_init_45d68_0 : decode cJx35411_init_45d68 0 = .ok (.aload_n 0, 1) := by decide +kernel
theorem dJx35411_init_45d68_1 : decode cJx35411_init_45d68 1 = .ok (.aload_n 1, 1) := by decide +kernel
theorem dJx35411_init_45d68_2 : decode cJx35411_init_45d68 2 = .ok (.putfield 1, 3) := by decide +kernel
theorem dJx35411_init_45d68_5 : decode cJx35411_init_45d68 5 = .ok (.aload_n 0, 1) := by decide +kernel
theorem dJx35411_init_45d68_6 : decode cJx35411_init_45d68 6 = .ok (.invokespecial 7, 3) := by decide +kernel
theorem dJx35411_init_45d68_9 : decode cJx35411_init_45d68 9 = .ok (.aload_n 0, 1) := by decide +kernel
theorem dJx35411_init_45d68_10 : decode cJx35411_init_45d68 10 = .ok (.iconst (-1), 1) := by decide +kernel
theorem dJx35411_init_45d68_11 : decode cJx35411_init_45d68 11 = .ok (.putfield 13, 3) := by decide +kernel
theorem dJx35411_init_45d68_14 : decode cJx35411_init_45d68 14 = .ok (.aload_n 0, 1) := by decide +kernel
theorem dJx35411_init_45d68_15 : decode cJx35411_init_45d68 15 = .ok (.aload_n 0, 1) := by decide +kernel
theorem dJx35411_init_45d68_16 : decode cJx35411_init_45d68 16 = .ok (.getfield 1, 3) := by decide +kernel
theorem dJx35411_init_45d68_19 : decode cJx35411_init_45d68 19 = .ok (.getfield 17, 3) := by decide +kernel
theorem dJx35411_init_45d68_22 : decode cJx35411_init_45d68 22 = .ok (.putfield 22, 3) := by decide +kernel
theorem dJx35411_init_45d68_25 : decode cJx35411_init_45d68 25 = .ok (.return_, 1) := by decide +kernel
theorem dJx35411_hasNext_aae02_0 : decode cJx35411_hasNext_aae02 0 = .ok (.aload_n 0, 1) := by decide +kernel
theorem dJx35411_hasNext_aae02_1 : decode cJx35411_hasNext_aae02 1 = .ok (.getfield 25, 3) := by decide +kernel
theorem dJx35411_hasNext_aae02_4 : decode cJx35411_hasNext_aae02 4 = .ok (.aload_n 0, 1) := by decide +kernel
theorem dJx35411_hasNext_aae02_5 : decode cJx35411_hasNext_aae02 5 = .ok (.getfield 1, 3) := by decide +kernel
theorem dJx35411_hasNext_aae02_8 : decode cJx35411_hasNext_aae02 8 = .ok (.getfield 28, 3) := by decide +kernel
theorem dJx35411_hasNext_aae02_11 : decode cJx35411_hasNext_aae02 11 = .ok (.if_icmp .eq 7, 3) := by decide +kernel
theorem dJx35411_hasNext_aae02_18 : decode cJx35411_hasNext_aae02 18 = .ok (.iconst 0, 1) := by decide +kernel
theorem dJx35411_hasNext_aae02_19 : decode cJx35411_hasNext_aae02 19 = .ok (.ireturn, 1) := by decide +kernel
theorem dJx4a65c_iterator_32c93_0 : decode cJx4a65c_iterator_32c93 0 = .ok (.new 267, 3) := by decide +kernel
theorem dJx4a65c_iterator_32c93_3 : decode cJx4a65c_iterator_32c93 3 = .ok (.dup, 1) := by decide +kernel
theorem dJx4a65c_iterator_32c93_4 : decode cJx4a65c_iterator_32c93 4 = .ok (.aload_n 0, 1) := by decide +kernel
theorem dJx4a65c_iterator_32c93_5 : decode cJx4a65c_iterator_32c93 5 = .ok (.invokespecial 269, 3) := by decide +kernel
theorem dJx4a65c_iterator_32c93_8 : decode cJx4a65c_iterator_32c93 8 = .ok (.areturn, 1) := by decide +kernel
def zJx35411_init_45d68_ws : List Cond := .code yJx35411_init_45d68 cJx35411_init_45d68 2 none :: ([.fieldLink RJx35411 1 "java/util/ArrayList$Itr" "this$0" "Ljava/util/ArrayList;", .methodLink RJx35411 7 objectInit, .instanceMethod objectInit, .code objectInit ⟨#[0xb1]⟩ 1 none, .fieldLink RJx35411 13 "java/util/ArrayList$Itr" "lastRet" "I", .fieldLink RJx35411 17 "java/util/ArrayList" "modCount" "I", .sameField "java/util/ArrayList" "java/util/AbstractList" "modCount" "I", .fieldLink RJx35411 22 "java/util/ArrayList$Itr" "expectedModCount" "I"] ++ (wsJx354110 ++ (wsJx4a65c0 ++ ([]))))
theorem zJx35411_init_45d68_ws_good : zJx35411_init_45d68_ws.all goodWord = true := by decide +kernel
set_option maxHeartbeats 4000000 in
set_option maxRecDepth 100000 in
/-- a new iterator -/
theorem c_Itr (l : Launch) (hst : l.stackTraces = false) (D : va_G) (sz : Nat) (it b dz : Nat) : Met l yJx35411_init_45d68 zJx35411_init_45d68_ws (zR 0 0 0) (zPre [.ref it, .ref b] D [(it, .inr (4, [.int 0, .int 0, .int 0, .null])), (b, .inr (5, [.int 0, .ref dz, .int 0]))] [] (va_A [(it, .inr (4, [.int 0, .int 0, .int 0, .null])), (b, .inr (5, [.int 0, .ref dz, .int 0]))] sz) sz) (va_Qv (S := Unit) (fun _ => True) (fun _ t => zAt D [(it, .inr (4, [.int 0, .int (-1), .int 0, .ref b])), (b, .inr (5, [.int 0, .ref dz, .int 0]))] [] (va_A [(it, .inr (4, [.int 0, .int 0, .int 0, .null])), (b, .inr (5, [.int 0, .ref dz, .int 0]))] sz) t) (va_A [(it, .inr (4, [.int 0, .int 0, .int 0, .null])), (b, .inr (5, [.int 0, .ref dz, .int 0]))] sz)) 0 0 (va_A [(it, .inr (4, [.int 0, .int 0, .int 0, .null])), (b, .inr (5, [.int 0, .ref dz, .int 0]))] sz) := by
  refine Met.ofW (cc := cJx35411_init_45d68) (maxL := 2) (ret := none) (by decide) rfl ?_
  intro p e s m args below meth c s₁ B hml hv
  obtain ⟨rfl, hsz, hP, hK, hD0, hz⟩ := hv
  have hx := B.exec
  have hb := B.bytes
  have hr := B.returns
  have hts := atoms_spec (ws := zJx35411_init_45d68_ws) B.pre
  have hown : s.vm.findClass RJx35411 = some m.cls := findClass_of_methodNamed B.named
  have hlocks := B.notSynchronized
  have hin : meth.name = "<init>" := (name_of_methodNamed B.named B.method).1
  subst hsz
  have hD := hD0.self (sz := s.heap.size)
  generalize hAe : va_A [(it, .inr (4, [.int 0, .int 0, .int 0, .null])), (b, .inr (5, [.int 0, .ref dz, .int 0]))] s.heap.size = A at hD hz ⊢
  have hA : ∀ q : Nat, s.heap.size ≤ q → A q := fun q h => by rw [← hAe]; exact Or.inr h
  have hS : va_S A s.heap s.heap [] := va_S.rf
  have hP : va_P D vwCl [(it, .inr (4, [.int 0, .int 0, .int 0, .null])), (b, .inr (5, [.int 0, .ref dz, .int 0]))] s.heap := hP
  have hl := lv_entry ([.ref it, .ref b]) (n := 2) (Nat.le_of_ble_eq_true rfl)
  rw [lg_entry_eq]
  generalize (lg_sl ([.ref it, .ref b]) ++ List.replicate (2 - (lg_sl ([.ref it, .ref b])).length) Slot.unset).toArray = ls at hl ⊢
  have hl : lv_has ls 2 [(0, .ref it), (1, .ref b)] := hl
  refine lv_aload_n hx hb dJx35411_init_45d68_0 rfl (lv_at hl 0 rfl) ?_
  refine lv_aload_n hx hb dJx35411_init_45d68_1 rfl (lv_at hl 1 rfl) ?_
  refine va_putF (D := D) (ci := 4) (v := .ref b) (ty := .object "java/util/ArrayList") (C := RJx35411) (T := TJx35411) (N := 4) hx hb hts (by decide +kernel) tyJx35411 tyJx35411_ok nmJx35411 hown hK hP hD hS 0 rfl rfl 3 (by decide) (hts (.fieldLink RJx35411 1 "java/util/ArrayList$Itr" "this$0" "Ljava/util/ArrayList;") (by decide +kernel)) (fun _ h9 => h9) rfl hin rfl (by decide +kernel) rfl rfl (Nat.le_of_ble_eq_true rfl) dJx35411_init_45d68_2 (fun H locs hP hD hS => ?_)
  have hP : va_P D vwCl [(it, .inr (4, [.int 0, .int 0, .int 0, .ref b])), (b, .inr (5, [.int 0, .ref dz, .int 0]))] H := hP
  have hD : va_D A [(it, .inr (4, [.int 0, .int 0, .int 0, .ref b])), (b, .inr (5, [.int 0, .ref dz, .int 0]))] := hD
  refine lv_aload_n hx hb dJx35411_init_45d68_5 rfl (lv_at hl 0 rfl) ?_
  refine W.objInit hx hb hown (hts (.methodLink RJx35411 7 objectInit) (by decide +kernel)) (hts (.instanceMethod objectInit) (by decide +kernel)) (hts (.code objectInit ⟨#[0xb1]⟩ 1 none) (by decide +kernel)) rfl (by rw [hml]; exact hl.1) rfl dJx35411_init_45d68_6 (Nat.le_of_ble_eq_true rfl) (Nat.le_of_ble_eq_true rfl) ?_
  refine W.eq (g2 := F0 m 9 ls []) rfl ?_
  refine lv_aload_n hx hb dJx35411_init_45d68_9 rfl (lv_at hl 0 rfl) ?_
  refine lv_iconst (v := (-1)) hx hb dJx35411_init_45d68_10 (by decide) ?_
  refine va_put (D := D) (ci := 4) (v := .int (-1)) (ty := .int) (C := RJx35411) (T := TJx35411) (N := 4) hx hb hts (by decide +kernel) tyJx35411 tyJx35411_ok nmJx35411 hown hK hP hD hS 0 rfl rfl 1 (by decide) (hts (.fieldLink RJx35411 13 "java/util/ArrayList$Itr" "lastRet" "I") (by decide +kernel)) (fun _ h9 => h9) rfl (by decide +kernel) rfl rfl (Nat.le_of_ble_eq_true rfl) dJx35411_init_45d68_11 (fun H locs hP hD hS => ?_)
  have hP : va_P D vwCl [(it, .inr (4, [.int 0, .int (-1), .int 0, .ref b])), (b, .inr (5, [.int 0, .ref dz, .int 0]))] H := hP
  have hD : va_D A [(it, .inr (4, [.int 0, .int (-1), .int 0, .ref b])), (b, .inr (5, [.int 0, .ref dz, .int 0]))] := hD
  refine lv_aload_n hx hb dJx35411_init_45d68_14 rfl (lv_at hl 0 rfl) ?_
  refine lv_aload_n hx hb dJx35411_init_45d68_15 rfl (lv_at hl 0 rfl) ?_
  refine va_get (D := D) (ci := 4) (v := .ref b) (C := RJx35411) (T := TJx35411) (N := 4) hx hb hts (by decide +kernel) hown hK hP 0 rfl rfl 3 (by decide) (hts (.fieldLink RJx35411 1 "java/util/ArrayList$Itr" "this$0" "Ljava/util/ArrayList;") (by decide +kernel)) (fun _ h9 => h9) rfl dJx35411_init_45d68_16 ?_
  refine va_get (D := D) (ci := 5) (v := .int 0) (C := RJx4a65c) (T := TJx4a65c) (N := 3) hx hb hts (by decide +kernel) hown hK hP 1 rfl rfl 0 (by decide) (hts (.fieldLink RJx35411 17 "java/util/ArrayList" "modCount" "I") (by decide +kernel)) (fun x9 h9 => u_same (hts (.sameField "java/util/ArrayList" "java/util/AbstractList" "modCount" "I") (by decide +kernel)) x9 h9) rfl dJx35411_init_45d68_19 ?_
  refine va_put (D := D) (ci := 4) (v := .int 0) (ty := .int) (C := RJx35411) (T := TJx35411) (N := 4) hx hb hts (by decide +kernel) tyJx35411 tyJx35411_ok nmJx35411 hown hK hP hD hS 0 rfl rfl 2 (by decide) (hts (.fieldLink RJx35411 22 "java/util/ArrayList$Itr" "expectedModCount" "I") (by decide +kernel)) (fun _ h9 => h9) rfl (by decide +kernel) rfl rfl (Nat.le_of_ble_eq_true rfl) dJx35411_init_45d68_22 (fun H locs hP hD hS => ?_)
  have hP : va_P D vwCl [(it, .inr (4, [.int 0, .int (-1), .int 0, .ref b])), (b, .inr (5, [.int 0, .ref dz, .int 0]))] H := hP
  have hD : va_D A [(it, .inr (4, [.int 0, .int (-1), .int 0, .ref b])), (b, .inr (5, [.int 0, .ref dz, .int 0]))] := hD
  have hP9 := hP.sub (ws' := [(it, .inr (4, [.int 0, .int (-1), .int 0, .ref b])), (b, .inr (5, [.int 0, .ref dz, .int 0]))]) [0, 1] rfl
  have hD9 := hD.sub (ws' := [(it, .inr (4, [.int 0, .int (-1), .int 0, .ref b])), (b, .inr (5, [.int 0, .ref dz, .int 0]))]) [0, 1] (by decide) rfl
  have hK9 := hK.sub (tys' := []) [] rfl
  rw [← hAe] at hD9
  refine W.widen (k := 0) (n := 0) (by omega) (by omega) ?_
  subst hAe
  exact W.vret hx hb hr (fun t ht9 hW => ⟨⟨(), rfl, trivial, ⟨by rw [ht9]; exact hP9, va_K.moved hW.alike hK9, hD9⟩⟩, hS.F ht9⟩) hS.2.2 dJx35411_init_45d68_25

def zJx4a65c_iterator_32c93_ws : List Cond := .code yJx4a65c_iterator_32c93 cJx4a65c_iterator_32c93 1 (some (.object "java/util/Iterator")) :: ([.classLink RJx4a65c 267 RJx35411, .instantiable RJx35411 4, .initialized RJx35411, .instanceMethod yJx35411_init_45d68, .methodLink RJx4a65c 269 yJx35411_init_45d68] ++ (wsJx354110 ++ (zJx35411_init_45d68_ws ++ ([]))))
theorem zJx4a65c_iterator_32c93_ws_good : zJx4a65c_iterator_32c93_ws.all goodWord = true := by decide +kernel
set_option maxHeartbeats 4000000 in
set_option maxRecDepth 100000 in
/-- iterator() -/
theorem c_iterator (l : Launch) (hst : l.stackTraces = false) (D : va_G) (sz : Nat) (b dz : Nat) : Met l yJx4a65c_iterator_32c93 zJx4a65c_iterator_32c93_ws (zR 1 1 4) (zPre [.ref b] D [(b, .inr (5, [.int 0, .ref dz, .int 0]))] [] (va_A [(b, .inr (5, [.int 0, .ref dz, .int 0]))] sz) sz) (va_Qq (S := Nat) (fun r u => r = some u) (fun u t => zAt D [(b, .inr (5, [.int 0, .ref dz, .int 0])), (u, .inr (4, [.int 0, .int (-1), .int 0, .ref b]))] [] (va_A [(b, .inr (5, [.int 0, .ref dz, .int 0]))] sz) t) (va_A [(b, .inr (5, [.int 0, .ref dz, .int 0]))] sz)) 1 4 (va_A [(b, .inr (5, [.int 0, .ref dz, .int 0]))] sz) := by
  refine Met.ofW (cc := cJx4a65c_iterator_32c93) (maxL := 1) (ret := (some (.object "java/util/Iterator"))) (by decide) rfl ?_
  intro p e s m args below meth c s₁ B hml hv
  obtain ⟨rfl, hsz, hP, hK, hD0, hz⟩ := hv
  have hx := B.exec
  have hb := B.bytes
  have hr := B.returns
  have hts := atoms_spec (ws := zJx4a65c_iterator_32c93_ws) B.pre
  have hown : s.vm.findClass RJx4a65c = some m.cls := findClass_of_methodNamed B.named
  have hlocks := B.notSynchronized
  subst hsz
  have hD := hD0.self (sz := s.heap.size)
  generalize hAe : va_A [(b, .inr (5, [.int 0, .ref dz, .int 0]))] s.heap.size = A at hD hz ⊢
  have hA : ∀ q : Nat, s.heap.size ≤ q → A q := fun q h => by rw [← hAe]; exact Or.inr h
  have hS : va_S A s.heap s.heap [] := va_S.rf
  have hP : va_P D vwCl [(b, .inr (5, [.int 0, .ref dz, .int 0]))] s.heap := hP
  have hl := lv_entry ([.ref b]) (n := 1) (Nat.le_of_ble_eq_true rfl)
  rw [lg_entry_eq]
  generalize (lg_sl ([.ref b]) ++ List.replicate (1 - (lg_sl ([.ref b])).length) Slot.unset).toArray = ls at hl ⊢
  have hl : lv_has ls 1 [(0, .ref b)] := hl
  refine va_new (ci := 4) (fs := [.int 0, .int 0, .int 0, .null]) (C := RJx35411) (T := TJx35411) (N := 4) hx hb hts (by decide +kernel) tyJx35411 tyJx35411_ok hown (hts (.classLink RJx4a65c 267 RJx35411) (by decide +kernel)) (hts (.instantiable RJx35411 4) (by decide +kernel)) (hts (.initialized RJx35411) (by decide +kernel)) hK hP hD hS hA rfl (fun j hj => by rcases (show j = 0 ∨ j = 1 ∨ j = 2 ∨ j = 3 by omega) with rfl | rfl | rfl | rfl <;> rfl) (Nat.le_of_ble_eq_true rfl) (Nat.le_of_ble_eq_true rfl) dJx4a65c_iterator_32c93_0 (fun q1 H hP hD hS => ?_)
  have hP : va_P D vwCl [(b, .inr (5, [.int 0, .ref dz, .int 0])), (q1, .inr (4, [.int 0, .int 0, .int 0, .null]))] H := hP
  have hD : va_D A [(b, .inr (5, [.int 0, .ref dz, .int 0])), (q1, .inr (4, [.int 0, .int 0, .int 0, .null]))] := hD
  refine W.widen (k := 1) (n := 4) (by omega) (by omega) ?_
  refine lv_dup hx hb dJx4a65c_iterator_32c93_3 rfl ?_
  refine lv_aload_n hx hb dJx4a65c_iterator_32c93_4 rfl (lv_at hl 0 rfl) ?_
  have hPc := hP.sub (ws' := [(q1, .inr (4, [.int 0, .int 0, .int 0, .null])), (b, .inr (5, [.int 0, .ref dz, .int 0]))]) [1, 0] rfl
  have hDc := hD.sub (ws' := [(q1, .inr (4, [.int 0, .int 0, .int 0, .null])), (b, .inr (5, [.int 0, .ref dz, .int 0]))]) [1, 0] (by decide) rfl
  have hKc := hK.sub (tys' := []) [] rfl
  have hFc := va_free (wc := [(q1, .inr (4, [.int 0, .int 0, .int 0, .null])), (b, .inr (5, [.int 0, .ref dz, .int 0]))]) hD hS hA [1, 0] rfl
  refine va_callv (va_runI (As := [.ref b]) (rest := [.ref q1]) ⟨hx, hb, hml, hown, hts⟩ (c_Itr l hst D H.size q1 b dz) (cwI 1 hts (goodIn_sub (fun _ h => List.mem_cons_of_mem _ (List.mem_append_right _ (List.mem_append_right _ (List.mem_append_left _ h)))) zJx35411_init_45d68_ws_good) rfl rfl rfl (hts (.initialized RJx35411) (by decide +kernel)) (hts (.methodLink RJx4a65c 269 yJx35411_init_45d68) (by decide +kernel)) (hts (.instanceMethod yJx35411_init_45d68) (by decide +kernel)) rfl (by decide +kernel) ⟨Nat.le_of_ble_eq_true rfl, Nat.le_of_ble_eq_true rfl⟩) ⟨zPre.blind, zPre.mk hPc hKc hDc hz hS (fun q h => hFc q h)⟩ rfl rfl hl.1 rfl (lv_room (Nat.le_of_ble_eq_true rfl)) dJx4a65c_iterator_32c93_5 ⟨Nat.le_of_ble_eq_true rfl, Nat.le_of_ble_eq_true rfl⟩) hS (fun q _ h => hFc q h) (fun q h => hFc q h) (fun u t H1 locs ht9 hvm hw hB hz1 hk1 hS => ?_)
  refine W.widen (k := 1) (n := 4) (by omega) (by omega) ?_
  obtain ⟨hP1, hK1, hD1⟩ := hB
  rw [ht9] at hP1
  have hK1 := va_K.moved hvm.symm hK1
  obtain ⟨hP, hD⟩ := va_join (wr := []) (w1 := [(q1, .inr (4, [.int 0, .int (-1), .int 0, .ref b])), (b, .inr (5, [.int 0, .ref dz, .int 0]))]) hP hD [1, 0] [] rfl rfl (by decide) (by decide) hk1 hFc hP1 hD1
  have hK := (hK.sub (tys' := []) [] rfl).app hK1
  generalize H1 = H at hP hS ⊢
  have hP : va_P D vwCl [(q1, .inr (4, [.int 0, .int (-1), .int 0, .ref b])), (b, .inr (5, [.int 0, .ref dz, .int 0]))] H := hP
  have hD : va_D A [(q1, .inr (4, [.int 0, .int (-1), .int 0, .ref b])), (b, .inr (5, [.int 0, .ref dz, .int 0]))] := hD
  have hK : va_K D vwCl [] s := hK
  have hP9 := hP.sub (ws' := [(b, .inr (5, [.int 0, .ref dz, .int 0])), (q1, .inr (4, [.int 0, .int (-1), .int 0, .ref b]))]) [1, 0] rfl
  have hD9 := hD.sub (ws' := [(b, .inr (5, [.int 0, .ref dz, .int 0])), (q1, .inr (4, [.int 0, .int (-1), .int 0, .ref b]))]) [1, 0] (by decide) rfl
  have hK9 := hK.sub (tys' := []) [] rfl
  rw [← hAe] at hD9
  refine W.widen (k := 1) (n := 4) (by omega) (by omega) ?_
  subst hAe
  exact W.aret (v := .ref q1) hx hb hr (Or.inl ⟨_, rfl⟩) (Or.inr ⟨_, rfl⟩) (fun t ht9 hW => ⟨⟨some q1, q1, rfl, rfl, ⟨by rw [ht9]; exact hP9, va_K.moved hW.alike hK9, hD9⟩⟩, hS.F ht9⟩) hS.2.2 dJx4a65c_iterator_32c93_8

def zJx35411_hasNext_aae02_ws : List Cond := .code yJx35411_hasNext_aae02 cJx35411_hasNext_aae02 1 (some .boolean) :: ([.fieldLink RJx35411 25 "java/util/ArrayList$Itr" "cursor" "I", .fieldLink RJx35411 1 "java/util/ArrayList$Itr" "this$0" "Ljava/util/ArrayList;"] ++ (wsJx354110 ++ (wsJx4a65c0 ++ ([]))))
theorem zJx35411_hasNext_aae02_ws_good : zJx35411_hasNext_aae02_ws.all goodWord = true := by decide +kernel
set_option maxHeartbeats 4000000 in
set_option maxRecDepth 100000 in
/-- hasNext() of an empty list: false -/
theorem c_hasNext (l : Launch) (hst : l.stackTraces = false) (D : va_G) (sz : Nat) (it b dz : Nat) : Met l yJx35411_hasNext_aae02 zJx35411_hasNext_aae02_ws (zR 0 0 0) (zPreX (zM dz) [.ref it] D [(it, .inr (4, [.int 0, .int (-1), .int 0, .ref b])), (b, .inr (5, [.int 0, .ref dz, .int 0]))] [] (fun q : Nat => sz ≤ q) sz) (va_Qi (S := Unit) (fun r _ => r = 0) (fun _ _ => True) (fun q : Nat => sz ≤ q)) 0 0 (fun q : Nat => sz ≤ q) := by
  refine Met.ofW (cc := cJx35411_hasNext_aae02) (maxL := 1) (ret := (some .boolean)) (by decide) rfl ?_
  intro p e s m args below meth c s₁ B hml hv
  obtain ⟨rfl, hsz, hP, hK, hD0, hz, hm⟩ := hv
  have hx := B.exec
  have hb := B.bytes
  have hr := B.returns
  have hts := atoms_spec (ws := zJx35411_hasNext_aae02_ws) B.pre
  have hown : s.vm.findClass RJx35411 = some m.cls := findClass_of_methodNamed B.named
  have hlocks := B.notSynchronized
  subst hsz
  obtain ⟨A, hAe⟩ : ∃ A : Nat → Prop, A = (fun q : Nat => s.heap.size ≤ q) := ⟨_, rfl⟩
  rw [← hAe] at hz hm ⊢
  have hA : ∀ q : Nat, s.heap.size ≤ q → A q := fun q h => by rw [hAe]; exact h
  have hD := hD0
  have hS : va_S A s.heap s.heap [] := va_S.rf
  have hP : va_P D vwCl [(it, .inr (4, [.int 0, .int (-1), .int 0, .ref b])), (b, .inr (5, [.int 0, .ref dz, .int 0]))] s.heap := hP
  have hl := lv_entry ([.ref it]) (n := 1) (Nat.le_of_ble_eq_true rfl)
  rw [lg_entry_eq]
  generalize (lg_sl ([.ref it]) ++ List.replicate (1 - (lg_sl ([.ref it])).length) Slot.unset).toArray = ls at hl ⊢
  have hl : lv_has ls 1 [(0, .ref it)] := hl
  refine lv_aload_n hx hb dJx35411_hasNext_aae02_0 rfl (lv_at hl 0 rfl) ?_
  refine va_get (D := D) (ci := 4) (v := .int 0) (C := RJx35411) (T := TJx35411) (N := 4) hx hb hts (by decide +kernel) hown hK hP 0 rfl rfl 0 (by decide) (hts (.fieldLink RJx35411 25 "java/util/ArrayList$Itr" "cursor" "I") (by decide +kernel)) (fun _ h9 => h9) rfl dJx35411_hasNext_aae02_1 ?_
  refine lv_aload_n hx hb dJx35411_hasNext_aae02_4 rfl (lv_at hl 0 rfl) ?_
  refine va_get (D := D) (ci := 4) (v := .ref b) (C := RJx35411) (T := TJx35411) (N := 4) hx hb hts (by decide +kernel) hown hK hP 0 rfl rfl 3 (by decide) (hts (.fieldLink RJx35411 1 "java/util/ArrayList$Itr" "this$0" "Ljava/util/ArrayList;") (by decide +kernel)) (fun _ h9 => h9) rfl dJx35411_hasNext_aae02_5 ?_
  refine va_getN (D := D) (ci := 5) (v := .int 0) (C := RJx4a65c) (T := TJx4a65c) (N := 3) hx hb hts (by decide +kernel) hown hK hP 1 rfl rfl 2 (by decide) (va_Nw.use rfl (zM.w hm (.fieldLinkNest RJx35411 28 "java/util/ArrayList" "size" "I" RJx4a65c) (by decide +kernel))) (fun _ h9 => h9) rfl dJx35411_hasNext_aae02_8 ?_
  refine lv_icmp_eq (tgt := 18) hx hb dJx35411_hasNext_aae02_11 (by decide) (fun _ => ?_) (fun c => absurd (by decide) c)
  refine lv_iconst (v := 0) hx hb dJx35411_hasNext_aae02_18 (by decide) ?_
  refine W.widen (k := 0) (n := 0) (by omega) (by omega) ?_
  exact W.zret (v := 0) hx hb hr rfl (fun t ht9 hW => ⟨⟨0, (), rfl, rfl, trivial⟩, hS.F ht9⟩) hS.2.2 dJx35411_hasNext_aae02_19

def zX17_medals_ws : List Cond := .code yX17_medals cX17_medals 6 (some (.array (.array .int))) :: ([.classLink RX17 364 "[[I", .arrayClass .int, .fieldLink RX17 19 "HeatStadiumModel" "events" "Ljava/util/ArrayList;", .methodLink RX17 76 yJx4a65c_iterator_32c93, .instanceMethod yJx4a65c_iterator_32c93, .selects RJx4a65c yJx4a65c_iterator_32c93 yJx4a65c_iterator_32c93, .initialized RJx4a65c, .methodLink RX17 80 yItr_next, .selects RJx35411 yItr_next yJx35411_hasNext_aae02, .instanceMethod yJx35411_hasNext_aae02, .initialized RJx35411] ++ (wsX170 ++ (zJx4a65c_iterator_32c93_ws ++ (zJx35411_hasNext_aae02_ws ++ ([])))))
theorem zX17_medals_ws_good : zX17_medals_ws.all goodWord = true := by decide +kernel
set_option maxHeartbeats 4000000 in
set_option maxRecDepth 100000 in
/-- medals(): eight rows of nothing -/
theorem cm_grid (l : Launch) (hst : l.stackTraces = false) (D : va_G) (sz : Nat) (mo b0 b1 b2 b3 dz : Nat) (th : Int32) : Met l yX17_medals zX17_medals_ws (zR 3 12 60) (zPreX (zM dz) [.ref mo] D [(mo, .inr (23, [.int th, .ref b0, .ref b1, .ref b2, .ref b3, .int 0, .int 0, .long 0])), (b2, .inr (5, [.int 0, .ref dz, .int 0]))] [] (va_A [(mo, .inr (23, [.int th, .ref b0, .ref b1, .ref b2, .ref b3, .int 0, .int 0, .long 0])), (b2, .inr (5, [.int 0, .ref dz, .int 0]))] sz) sz) (va_Qq (S := Nat × (Nat → Option Nat) × List Nat × Nat × Nat) (fun r u => r = some u.1) (fun u t => (∀ i, i < 8 → ∃ y, u.2.1 i = some y ∧ y ∈ u.2.2.1) ∧ zAt D ([(mo, .inr (23, [.int th, .ref b0, .ref b1, .ref b2, .ref b3, .int 0, .int 0, .long 0])), (b2, .inr (5, [.int 0, .ref dz, .int 0])), (u.1, .inl (u.2.2.2.1, 8, .inr (.inr (.inr (.inr u.2.1)))))] ++ va_pl u.2.2.1 (zrow u.2.2.2.2)) [(u.2.2.2.1, .array .int), (u.2.2.2.2, .int)] (va_A [(mo, .inr (23, [.int th, .ref b0, .ref b1, .ref b2, .ref b3, .int 0, .int 0, .long 0])), (b2, .inr (5, [.int 0, .ref dz, .int 0]))] sz) t) (va_A [(mo, .inr (23, [.int th, .ref b0, .ref b1, .ref b2, .ref b3, .int 0, .int 0, .long 0])), (b2, .inr (5, [.int 0, .ref dz, .int 0]))] sz)) 12 60 (va_A [(mo, .inr (23, [.int th, .ref b0, .ref b1, .ref b2, .ref b3, .int 0, .int 0, .long 0])), (b2, .inr (5, [.int 0, .ref dz, .int 0]))] sz) := by
  refine Met.ofW (cc := cX17_medals) (maxL := 6) (ret := (some (.array (.array .int)))) (by decide) rfl ?_
  intro p e s m args below meth c s₁ B hml hv
  obtain ⟨rfl, hsz, hP, hK, hD0, hz, hm⟩ := hv
  have hx := B.exec
  have hb := B.bytes
  have hr := B.returns
  have hts := atoms_spec (ws := zX17_medals_ws) B.pre
  have hown : s.vm.findClass RX17 = some m.cls := findClass_of_methodNamed B.named
  have hlocks := B.notSynchronized
  subst hsz
  have hD := hD0.self (sz := s.heap.size)
  generalize hAe : va_A [(mo, .inr (23, [.int th, .ref b0, .ref b1, .ref b2, .ref b3, .int 0, .int 0, .long 0])), (b2, .inr (5, [.int 0, .ref dz, .int 0]))] s.heap.size = A at hD hz hm ⊢
  have hA : ∀ q : Nat, s.heap.size ≤ q → A q := fun q h => by rw [← hAe]; exact Or.inr h
  have hS : va_S A s.heap s.heap [] := va_S.rf
  have hP : va_P D vwCl [(mo, .inr (23, [.int th, .ref b0, .ref b1, .ref b2, .ref b3, .int 0, .int 0, .long 0])), (b2, .inr (5, [.int 0, .ref dz, .int 0]))] s.heap := hP
  have hl := lv_entry ([.ref mo]) (n := 6) (Nat.le_of_ble_eq_true rfl)
  rw [lg_entry_eq]
  generalize (lg_sl ([.ref mo]) ++ List.replicate (6 - (lg_sl ([.ref mo])).length) Slot.unset).toArray = ls at hl ⊢
  have hl : lv_has ls 6 [(0, .ref mo)] := hl
  refine lv_bipush (v := 8) hx hb dX17_medals_0 (by decide) ?_
  refine lv_iconst (v := 4) hx hb dX17_medals_2 (by decide) ?_
  obtain ⟨cy, _, _, hcy, -⟩ := Cond.arrayOver_specA (va_AOA.use (A := #[]) hz.2.2.2.1.2.2)
  refine va_mna (X := [(mo, .inr (23, [.int th, .ref b0, .ref b1, .ref b2, .ref b3, .int 0, .int 0, .long 0])), (b2, .inr (5, [.int 0, .ref dz, .int 0]))]) (L := []) (f := zrow 0) hx hb hown (hts (.classLink RX17 364 "[[I") (by decide +kernel)) hz.2.2.2.1.2.2 (hts (.arrayClass .int) (by decide +kernel)) hcy hK hP hD hS hA (n := 8) (k := 4) (N' := 8) (K' := 4) (z := (4, .inl (fun _ => 0))) (by decide) (by decide) (by decide) (by decide) (Nat.le_of_ble_eq_true rfl) (Nat.le_of_ble_eq_true rfl) (Nat.le_of_ble_eq_true rfl) (by decide) (by decide) (Nat.le_of_ble_eq_true rfl) (Nat.le_of_ble_eq_true rfl) (fun _ => rfl) dX17_medals_3 (fun q1 r2 cA3 H _ _ hK hP hD hS => ?_)
  rw [zPool] at hP hD
  have hK := zIntK (hts (.arrayClass .int) (by decide +kernel)) hcy hK
  have hP : va_P D vwCl ([(mo, .inr (23, [.int th, .ref b0, .ref b1, .ref b2, .ref b3, .int 0, .int 0, .long 0])), (b2, .inr (5, [.int 0, .ref dz, .int 0])), (q1, .inl (cA3, 8, .inr (.inr (.inr (.inr (fun i => if i < 8 then some (r2 i) else none))))))] ++ va_pl ((List.range 8).map r2) (zrow cy)) H := hP
  have hD : va_D A ([(mo, .inr (23, [.int th, .ref b0, .ref b1, .ref b2, .ref b3, .int 0, .int 0, .long 0])), (b2, .inr (5, [.int 0, .ref dz, .int 0])), (q1, .inl (cA3, 8, .inr (.inr (.inr (.inr (fun i => if i < 8 then some (r2 i) else none))))))] ++ va_pl ((List.range 8).map r2) (zrow cy)) := hD
  have hK : va_K D vwCl [(cA3, .array .int), (cy, .int)] s := hK
  refine W.widen (k := 9) (n := 40) (by omega) (by omega) ?_
  refine lv_astore_n (lv' := [(1, .ref q1), (0, .ref mo)]) hx hb dX17_medals_7 rfl hl (by decide) rfl (fun ls hl => ?_)
  refine lv_aload_n hx hb dX17_medals_8 rfl (lv_at hl 1 rfl) ?_
  refine va_get (D := D) (ci := 23) (v := .ref b2) (C := RX17) (T := TX17) (N := 8) hx hb hts (by decide +kernel) hown hK hP 0 rfl rfl 3 (by decide) (hts (.fieldLink RX17 19 "HeatStadiumModel" "events" "Ljava/util/ArrayList;") (by decide +kernel)) (fun _ h9 => h9) rfl dX17_medals_9 ?_
  have hPc := hP.sub (ws' := [(b2, .inr (5, [.int 0, .ref dz, .int 0]))]) [1] rfl
  have hDc := hD.sub (ws' := [(b2, .inr (5, [.int 0, .ref dz, .int 0]))]) [1] (by decide) rfl
  have hKc := hK.sub (tys' := []) [] rfl
  have hFc := va_free (wc := [(b2, .inr (5, [.int 0, .ref dz, .int 0]))]) hD hS hA [1] rfl
  refine va_callq (va_runV (As := []) (rest := []) ⟨hx, hb, hml, hown, hts⟩ (c_iterator l hst D H.size b2 dz) (cwV 0 hts (goodIn_app (goodIn_of _ (by decide +kernel)) (goodIn_sub (fun _ h => List.mem_cons_of_mem _ (List.mem_append_right _ (List.mem_append_right _ (List.mem_append_left _ h)))) zJx4a65c_iterator_32c93_ws_good)) rfl rfl rfl (by decide +kernel) ⟨Nat.le_of_ble_eq_true rfl, Nat.le_of_ble_eq_true rfl⟩) ⟨zPre.blind, va_recv hKc hPc (ci := 5) (q0 := 0) rfl rfl, zPre.mk hPc hKc hDc hz hS (fun q h => hFc q h)⟩ rfl rfl hl.1 rfl (lv_room (Nat.le_of_ble_eq_true rfl)) dX17_medals_12 ⟨Nat.le_of_ble_eq_true rfl, Nat.le_of_ble_eq_true rfl⟩) hS (fun q _ h => hFc q h) (fun q h => hFc q h) (fun r9 u t H1 locs ht9 hvm hw hB hz1 hk1 hS => ?_)
  refine W.widen (k := 10) (n := 44) (by omega) (by omega) ?_
  obtain ⟨it9, rfl⟩ : ∃ z, z = u := ⟨_, rfl⟩
  obtain ⟨hP1, hK1, hD1⟩ := hB
  rw [ht9] at hP1
  have hK1 := va_K.moved hvm.symm hK1
  obtain ⟨hP, hD⟩ := va_joinQ (wr := [(mo, .inr (23, [.int th, .ref b0, .ref b1, .ref b2, .ref b3, .int 0, .int 0, .long 0])), (q1, .inl (cA3, 8, .inr (.inr (.inr (.inr (fun i => if i < 8 then some (r2 i) else none))))))]) (w1 := [(b2, .inr (5, [.int 0, .ref dz, .int 0])), (it9, .inr (4, [.int 0, .int (-1), .int 0, .ref b2]))]) hP hD [1] [0, 2] rfl rfl (by decide) (by decide) hk1 hFc hP1 hD1
  have hK := (hK.sub (tys' := [(cA3, .array .int), (cy, .int)]) [0, 1] rfl).app hK1
  generalize H1 = H at hP hS ⊢
  have hP : va_P D vwCl ([(mo, .inr (23, [.int th, .ref b0, .ref b1, .ref b2, .ref b3, .int 0, .int 0, .long 0])), (q1, .inl (cA3, 8, .inr (.inr (.inr (.inr (fun i => if i < 8 then some (r2 i) else none)))))), (b2, .inr (5, [.int 0, .ref dz, .int 0])), (it9, .inr (4, [.int 0, .int (-1), .int 0, .ref b2]))] ++ va_pl ((List.range 8).map r2) (zrow cy)) H := hP
  have hD : va_D A ([(mo, .inr (23, [.int th, .ref b0, .ref b1, .ref b2, .ref b3, .int 0, .int 0, .long 0])), (q1, .inl (cA3, 8, .inr (.inr (.inr (.inr (fun i => if i < 8 then some (r2 i) else none)))))), (b2, .inr (5, [.int 0, .ref dz, .int 0])), (it9, .inr (4, [.int 0, .int (-1), .int 0, .ref b2]))] ++ va_pl ((List.range 8).map r2) (zrow cy)) := hD
  have hK : va_K D vwCl [(cA3, .array .int), (cy, .int)] s := hK
  subst hw
  refine lv_astore_n (lv' := [(2, .ref it9), (1, .ref q1), (0, .ref mo)]) hx hb dX17_medals_15 rfl hl (by decide) rfl (fun ls hl => ?_)
  refine lv_aload_n hx hb dX17_medals_16 rfl (lv_at hl 0 rfl) ?_
  have hPc := hP.sub (ws' := [(it9, .inr (4, [.int 0, .int (-1), .int 0, .ref b2])), (b2, .inr (5, [.int 0, .ref dz, .int 0]))]) [3, 2] rfl
  have hDc := hD.sub (ws' := [(it9, .inr (4, [.int 0, .int (-1), .int 0, .ref b2])), (b2, .inr (5, [.int 0, .ref dz, .int 0]))]) [3, 2] (by decide) rfl
  have hKc := hK.sub (tys' := []) [] rfl
  have hFc : ∀ q : Nat, H.size ≤ q → A q := fun q h => hA q (Nat.le_trans hS.1 h)
  refine va_callFi (va_runF (As := []) (rest := []) (hK.1 4 (RJx35411, TJx35411, 4) rfl).2 ⟨hx, hb, hml, hown, hts⟩ (c_hasNext l hst D H.size it9 b2 dz) (va_cwF 0 hts (goodIn_app (goodIn_of _ (by decide +kernel)) (goodIn_sub (fun _ h => List.mem_cons_of_mem _ (List.mem_append_right _ (List.mem_append_right _ (List.mem_append_right _ (List.mem_append_left _ h))))) zJx35411_hasNext_aae02_ws_good)) rfl rfl rfl hm.2.2.2.2.2.2 (by decide +kernel) ⟨Nat.le_of_ble_eq_true rfl, Nat.le_of_ble_eq_true rfl⟩) ⟨zPreX.blind (zM_ok dz), va_recv hKc hPc (ci := 4) (q0 := 0) rfl rfl, zPreX.mk (zM_ok dz) hm hPc hKc hDc hz hS (fun q h => hFc q h)⟩ rfl rfl hl.1 rfl (lv_room (Nat.le_of_ble_eq_true rfl)) dX17_medals_17 ⟨Nat.le_of_ble_eq_true rfl, Nat.le_of_ble_eq_true rfl⟩) hS (fun q _ h => hFc q h) (fun q h => hFc q h) (fun r9 u t H1 locs ht9 hvm hw hB hz1 hk1 hS => ?_)
  refine W.widen (k := 10) (n := 44) (by omega) (by omega) ?_
  have hP := zKeep hP hk1
  generalize H1 = H at hP hS ⊢
  have hP : va_P D vwCl ([(mo, .inr (23, [.int th, .ref b0, .ref b1, .ref b2, .ref b3, .int 0, .int 0, .long 0])), (q1, .inl (cA3, 8, .inr (.inr (.inr (.inr (fun i => if i < 8 then some (r2 i) else none)))))), (b2, .inr (5, [.int 0, .ref dz, .int 0])), (it9, .inr (4, [.int 0, .int (-1), .int 0, .ref b2]))] ++ va_pl ((List.range 8).map r2) (zrow cy)) H := hP
  subst hw
  refine lv_if_eq (tgt := 138) hx hb dX17_medals_22 (by decide) (fun _ => ?_) (fun c => absurd (by decide) c)
  refine lv_aload_n hx hb dX17_medals_138 rfl (lv_at hl 1 rfl) ?_
  have hP9 := hP.part (cx := [(mo, .inr (23, [.int th, .ref b0, .ref b1, .ref b2, .ref b3, .int 0, .int 0, .long 0])), (b2, .inr (5, [.int 0, .ref dz, .int 0])), (q1, .inl (cA3, 8, .inr (.inr (.inr (.inr (fun i => if i < 8 then some (r2 i) else none))))))]) [0, 2, 1] rfl
  have hD9 := hD.part (cx := [(mo, .inr (23, [.int th, .ref b0, .ref b1, .ref b2, .ref b3, .int 0, .int 0, .long 0])), (b2, .inr (5, [.int 0, .ref dz, .int 0])), (q1, .inl (cA3, 8, .inr (.inr (.inr (.inr (fun i => if i < 8 then some (r2 i) else none))))))]) [0, 2, 1] (by decide) rfl
  have hK9 := hK.sub (tys' := [(cA3, .array .int), (cy, .int)]) [0, 1] rfl
  rw [← hAe] at hD9
  refine W.widen (k := 12) (n := 60) (by omega) (by omega) ?_
  subst hAe
  exact W.aret (v := .ref q1) hx hb hr (Or.inr ⟨_, rfl⟩) (Or.inr ⟨_, rfl⟩) (fun t ht9 hW => ⟨⟨some q1, (q1, _, _, cA3, cy), rfl, rfl, zGrid r2, ⟨by rw [ht9]; exact hP9, va_K.moved hW.alike hK9, hD9⟩⟩, hS.F ht9⟩) hS.2.2 dX17_medals_139
