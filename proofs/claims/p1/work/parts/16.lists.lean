/-! printed rows that this part uses -/
def tyJx4a65c : Nat → FieldType := fun k => match k with
  | 0 => .int
  | 1 => .array (.object "java/lang/Object")
  | _ => .int
theorem nmJx4a65c : ∀ a, a < 3 → ∀ b, b < 3 → a ≠ b → (TJx4a65c a).2.1 ≠ (TJx4a65c b).2.1 := by decide +kernel
theorem tyJx4a65c_ok : ∀ k, k < 3 → parseFieldDescriptor (TJx4a65c k).2.2.1 = some (tyJx4a65c k) := by decide +kernel
theorem dX17_init_0 : decode cX17_init 0 = .ok (.aload_n 0, 1) := by decide +kernel
theorem dX17_init_1 : decode cX17_init 1 = .ok (.invokespecial 1, 3) := by decide +kernel
theorem dX17_init_4 : decode cX17_init 4 = .ok (.aload_n 0, 1) := by decide +kernel
theorem dX17_init_5 : decode cX17_init 5 = .ok (.new 7, 3) := by decide +kernel
theorem dX17_init_8 : decode cX17_init 8 = .ok (.dup, 1) := by decide +kernel
theorem dX17_init_9 : decode cX17_init 9 = .ok (.invokespecial 9, 3) := by decide +kernel
theorem dX17_init_12 : decode cX17_init 12 = .ok (.putfield 10, 3) := by decide +kernel
theorem dX17_init_15 : decode cX17_init 15 = .ok (.aload_n 0, 1) := by decide +kernel
theorem dX17_init_16 : decode cX17_init 16 = .ok (.new 7, 3) := by decide +kernel
theorem dX17_init_19 : decode cX17_init 19 = .ok (.dup, 1) := by decide +kernel
theorem dX17_init_20 : decode cX17_init 20 = .ok (.invokespecial 9, 3) := by decide +kernel
theorem dX17_init_23 : decode cX17_init 23 = .ok (.putfield 16, 3) := by decide +kernel
theorem dX17_init_26 : decode cX17_init 26 = .ok (.aload_n 0, 1) := by decide +kernel
theorem dX17_init_27 : decode cX17_init 27 = .ok (.new 7, 3) := by decide +kernel
theorem dX17_init_30 : decode cX17_init 30 = .ok (.dup, 1) := by decide +kernel
theorem dX17_init_31 : decode cX17_init 31 = .ok (.invokespecial 9, 3) := by decide +kernel
theorem dX17_init_34 : decode cX17_init 34 = .ok (.putfield 19, 3) := by decide +kernel
theorem dX17_init_37 : decode cX17_init 37 = .ok (.aload_n 0, 1) := by decide +kernel
theorem dX17_init_38 : decode cX17_init 38 = .ok (.new 7, 3) := by decide +kernel
theorem dX17_init_41 : decode cX17_init 41 = .ok (.dup, 1) := by decide +kernel
theorem dX17_init_42 : decode cX17_init 42 = .ok (.invokespecial 9, 3) := by decide +kernel
theorem dX17_init_45 : decode cX17_init 45 = .ok (.putfield 22, 3) := by decide +kernel
theorem dX17_init_48 : decode cX17_init 48 = .ok (.return_, 1) := by decide +kernel
theorem dJxa1e45_init_da8c8_0 : decode cJxa1e45_init_da8c8 0 = .ok (.aload_n 0, 1) := by decide +kernel
theorem dJxa1e45_init_da8c8_1 : decode cJxa1e45_init_da8c8 1 = .ok (.invokespecial 1, 3) := by decide +kernel
theorem dJxa1e45_init_da8c8_4 : decode cJxa1e45_init_da8c8 4 = .ok (.return_, 1) := by decide +kernel
theorem dJxc12de_init_da8c8_0 : decode cJxc12de_init_da8c8 0 = .ok (.aload_n 0, 1) := by decide +kernel
theorem dJxc12de_init_da8c8_1 : decode cJxc12de_init_da8c8 1 = .ok (.invokespecial 1, 3) := by decide +kernel
theorem dJxc12de_init_da8c8_4 : decode cJxc12de_init_da8c8 4 = .ok (.aload_n 0, 1) := by decide +kernel
theorem dJxc12de_init_da8c8_5 : decode cJxc12de_init_da8c8 5 = .ok (.iconst 0, 1) := by decide +kernel
theorem dJxc12de_init_da8c8_6 : decode cJxc12de_init_da8c8 6 = .ok (.putfield 7, 3) := by decide +kernel
theorem dJxc12de_init_da8c8_9 : decode cJxc12de_init_da8c8 9 = .ok (.return_, 1) := by decide +kernel
theorem dJx4a65c_init_da8c8_0 : decode cJx4a65c_init_da8c8 0 = .ok (.aload_n 0, 1) := by decide +kernel
theorem dJx4a65c_init_da8c8_1 : decode cJx4a65c_init_da8c8 1 = .ok (.invokespecial 1, 3) := by decide +kernel
theorem dJx4a65c_init_da8c8_4 : decode cJx4a65c_init_da8c8 4 = .ok (.aload_n 0, 1) := by decide +kernel
theorem dJx4a65c_init_da8c8_5 : decode cJx4a65c_init_da8c8 5 = .ok (.getstatic 39, 3) := by decide +kernel
theorem dJx4a65c_init_da8c8_8 : decode cJx4a65c_init_da8c8 8 = .ok (.putfield 9, 3) := by decide +kernel
theorem dJx4a65c_init_da8c8_11 : decode cJx4a65c_init_da8c8 11 = .ok (.return_, 1) := by decide +kernel
theorem dJx4a65c_grow_92f84_0 : decode cJx4a65c_grow_92f84 0 = .ok (.aload_n 0, 1) := by decide +kernel
theorem dJx4a65c_grow_92f84_1 : decode cJx4a65c_grow_92f84 1 = .ok (.getfield 9, 3) := by decide +kernel
theorem dJx4a65c_grow_92f84_4 : decode cJx4a65c_grow_92f84 4 = .ok (.arraylength, 1) := by decide +kernel
theorem dJx4a65c_grow_92f84_5 : decode cJx4a65c_grow_92f84 5 = .ok (.istore_n 2, 1) := by decide +kernel
theorem dJx4a65c_grow_92f84_6 : decode cJx4a65c_grow_92f84 6 = .ok (.iload_n 2, 1) := by decide +kernel
theorem dJx4a65c_grow_92f84_7 : decode cJx4a65c_grow_92f84 7 = .ok (.ifCond .gt 13, 3) := by decide +kernel
theorem dJx4a65c_grow_92f84_10 : decode cJx4a65c_grow_92f84 10 = .ok (.aload_n 0, 1) := by decide +kernel
theorem dJx4a65c_grow_92f84_11 : decode cJx4a65c_grow_92f84 11 = .ok (.getfield 9, 3) := by decide +kernel
theorem dJx4a65c_grow_92f84_14 : decode cJx4a65c_grow_92f84 14 = .ok (.getstatic 39, 3) := by decide +kernel
theorem dJx4a65c_grow_92f84_17 : decode cJx4a65c_grow_92f84 17 = .ok (.if_acmp .eq 28, 3) := by decide +kernel
theorem dJx4a65c_grow_92f84_45 : decode cJx4a65c_grow_92f84 45 = .ok (.aload_n 0, 1) := by decide +kernel
theorem dJx4a65c_grow_92f84_46 : decode cJx4a65c_grow_92f84 46 = .ok (.bipush 10, 2) := by decide +kernel
theorem dJx4a65c_grow_92f84_48 : decode cJx4a65c_grow_92f84 48 = .ok (.iload_n 1, 1) := by decide +kernel
theorem dJx4a65c_grow_92f84_49 : decode cJx4a65c_grow_92f84 49 = .ok (.invokestatic 79, 3) := by decide +kernel
theorem dJx4a65c_grow_92f84_52 : decode cJx4a65c_grow_92f84 52 = .ok (.anewarray 7, 3) := by decide +kernel
theorem dJx4a65c_grow_92f84_55 : decode cJx4a65c_grow_92f84 55 = .ok (.dup_x1, 1) := by decide +kernel
theorem dJx4a65c_grow_92f84_56 : decode cJx4a65c_grow_92f84 56 = .ok (.putfield 9, 3) := by decide +kernel
theorem dJx4a65c_grow_92f84_59 : decode cJx4a65c_grow_92f84 59 = .ok (.areturn, 1) := by decide +kernel
theorem dJx4a65c_grow_d5877_0 : decode cJx4a65c_grow_d5877 0 = .ok (.aload_n 0, 1) := by decide +kernel
theorem dJx4a65c_grow_d5877_1 : decode cJx4a65c_grow_d5877 1 = .ok (.aload_n 0, 1) := by decide +kernel
theorem dJx4a65c_grow_d5877_2 : decode cJx4a65c_grow_d5877 2 = .ok (.getfield 48, 3) := by decide +kernel
theorem dJx4a65c_grow_d5877_5 : decode cJx4a65c_grow_d5877 5 = .ok (.iconst 1, 1) := by decide +kernel
theorem dJx4a65c_grow_d5877_6 : decode cJx4a65c_grow_d5877 6 = .ok (.iadd, 1) := by decide +kernel
theorem dJx4a65c_grow_d5877_7 : decode cJx4a65c_grow_d5877 7 = .ok (.invokevirtual 69, 3) := by decide +kernel
theorem dJx4a65c_grow_d5877_10 : decode cJx4a65c_grow_d5877 10 = .ok (.areturn, 1) := by decide +kernel
theorem dJx4a65c_add_72be8_0 : decode cJx4a65c_add_72be8 0 = .ok (.iload_n 3, 1) := by decide +kernel
theorem dJx4a65c_add_72be8_1 : decode cJx4a65c_add_72be8 1 = .ok (.aload_n 2, 1) := by decide +kernel
theorem dJx4a65c_add_72be8_2 : decode cJx4a65c_add_72be8 2 = .ok (.arraylength, 1) := by decide +kernel
theorem dJx4a65c_add_72be8_3 : decode cJx4a65c_add_72be8 3 = .ok (.if_icmp .ne 8, 3) := by decide +kernel
theorem dJx4a65c_add_72be8_6 : decode cJx4a65c_add_72be8 6 = .ok (.aload_n 0, 1) := by decide +kernel
theorem dJx4a65c_add_72be8_7 : decode cJx4a65c_add_72be8 7 = .ok (.invokevirtual 129, 3) := by decide +kernel
theorem dJx4a65c_add_72be8_10 : decode cJx4a65c_add_72be8 10 = .ok (.astore_n 2, 1) := by decide +kernel
theorem dJx4a65c_add_72be8_11 : decode cJx4a65c_add_72be8 11 = .ok (.aload_n 2, 1) := by decide +kernel
theorem dJx4a65c_add_72be8_12 : decode cJx4a65c_add_72be8 12 = .ok (.iload_n 3, 1) := by decide +kernel
theorem dJx4a65c_add_72be8_13 : decode cJx4a65c_add_72be8 13 = .ok (.aload_n 1, 1) := by decide +kernel
theorem dJx4a65c_add_72be8_14 : decode cJx4a65c_add_72be8 14 = .ok (.aastore, 1) := by decide +kernel
theorem dJx4a65c_add_72be8_15 : decode cJx4a65c_add_72be8 15 = .ok (.aload_n 0, 1) := by decide +kernel
theorem dJx4a65c_add_72be8_16 : decode cJx4a65c_add_72be8 16 = .ok (.iload_n 3, 1) := by decide +kernel
theorem dJx4a65c_add_72be8_17 : decode cJx4a65c_add_72be8 17 = .ok (.iconst 1, 1) := by decide +kernel
theorem dJx4a65c_add_72be8_18 : decode cJx4a65c_add_72be8 18 = .ok (.iadd, 1) := by decide +kernel
theorem dJx4a65c_add_72be8_19 : decode cJx4a65c_add_72be8 19 = .ok (.putfield 48, 3) := by decide +kernel
theorem dJx4a65c_add_72be8_22 : decode cJx4a65c_add_72be8 22 = .ok (.return_, 1) := by decide +kernel
theorem dJx4a65c_add_9ea2d_0 : decode cJx4a65c_add_9ea2d 0 = .ok (.aload_n 0, 1) := by decide +kernel
theorem dJx4a65c_add_9ea2d_1 : decode cJx4a65c_add_9ea2d 1 = .ok (.dup, 1) := by decide +kernel
theorem dJx4a65c_add_9ea2d_2 : decode cJx4a65c_add_9ea2d 2 = .ok (.getfield 63, 3) := by decide +kernel
theorem dJx4a65c_add_9ea2d_5 : decode cJx4a65c_add_9ea2d 5 = .ok (.iconst 1, 1) := by decide +kernel
theorem dJx4a65c_add_9ea2d_6 : decode cJx4a65c_add_9ea2d 6 = .ok (.iadd, 1) := by decide +kernel
theorem dJx4a65c_add_9ea2d_7 : decode cJx4a65c_add_9ea2d 7 = .ok (.putfield 63, 3) := by decide +kernel
theorem dJx4a65c_add_9ea2d_10 : decode cJx4a65c_add_9ea2d 10 = .ok (.aload_n 0, 1) := by decide +kernel
theorem dJx4a65c_add_9ea2d_11 : decode cJx4a65c_add_9ea2d 11 = .ok (.aload_n 1, 1) := by decide +kernel
theorem dJx4a65c_add_9ea2d_12 : decode cJx4a65c_add_9ea2d 12 = .ok (.aload_n 0, 1) := by decide +kernel
theorem dJx4a65c_add_9ea2d_13 : decode cJx4a65c_add_9ea2d 13 = .ok (.getfield 9, 3) := by decide +kernel
theorem dJx4a65c_add_9ea2d_16 : decode cJx4a65c_add_9ea2d 16 = .ok (.aload_n 0, 1) := by decide +kernel
theorem dJx4a65c_add_9ea2d_17 : decode cJx4a65c_add_9ea2d 17 = .ok (.getfield 48, 3) := by decide +kernel
theorem dJx4a65c_add_9ea2d_20 : decode cJx4a65c_add_9ea2d 20 = .ok (.invokevirtual 131, 3) := by decide +kernel
theorem dJx4a65c_add_9ea2d_23 : decode cJx4a65c_add_9ea2d 23 = .ok (.iconst 1, 1) := by decide +kernel
theorem dJx4a65c_add_9ea2d_24 : decode cJx4a65c_add_9ea2d 24 = .ok (.ireturn, 1) := by decide +kernel
def zJxa1e45_init_da8c8_ws : List Cond := .code yJxa1e45_init_da8c8 cJxa1e45_init_da8c8 1 none :: ([.methodLink RJxa1e45 1 objectInit, .instanceMethod objectInit, .code objectInit ⟨#[0xb1]⟩ 1 none] ++ [])
theorem zJxa1e45_init_da8c8_ws_good : zJxa1e45_init_da8c8_ws.all goodWord = true := by decide +kernel
set_option maxHeartbeats 4000000 in
set_option maxRecDepth 100000 in
/-- its constructor -/
theorem c_AbstractCollection (l : Launch) (hst : l.stackTraces = false) (D : va_G) (sz : Nat) (b : Nat) : Met l yJxa1e45_init_da8c8 zJxa1e45_init_da8c8_ws (zR 0 0 0) (zPre [.ref b] D [(b, .inr (5, [.int 0, .null, .int 0]))] [] (va_A [(b, .inr (5, [.int 0, .null, .int 0]))] sz) sz) (va_Qv (S := Unit) (fun _ => True) (fun _ t => zAt D [(b, .inr (5, [.int 0, .null, .int 0]))] [] (va_A [(b, .inr (5, [.int 0, .null, .int 0]))] sz) t) (va_A [(b, .inr (5, [.int 0, .null, .int 0]))] sz)) 0 0 (va_A [(b, .inr (5, [.int 0, .null, .int 0]))] sz) := by
  refine Met.ofW (cc := cJxa1e45_init_da8c8) (maxL := 1) (ret := none) (by decide) rfl ?_
  intro p e s m args below meth c s₁ B hml hv
  obtain ⟨rfl, hsz, hP, hK, hD0, hz⟩ := hv
  have hx := B.exec
  have hb := B.bytes
  have hr := B.returns
  have hts := atoms_spec (ws := zJxa1e45_init_da8c8_ws) B.pre
  have hown : s.vm.findClass RJxa1e45 = some m.cls := findClass_of_methodNamed B.named
  have hlocks := B.notSynchronized
  have hin : meth.name = "<init>" := (name_of_methodNamed B.named B.method).1
  subst hsz
  have hD := hD0.self (sz := s.heap.size)
  generalize hAe : va_A [(b, .inr (5, [.int 0, .null, .int 0]))] s.heap.size = A at hD hz ⊢
  have hA : ∀ q : Nat, s.heap.size ≤ q → A q := fun q h => by rw [← hAe]; exact Or.inr h
  have hS : va_S A s.heap s.heap [] := va_S.rf
  have hP : va_P D vwCl [(b, .inr (5, [.int 0, .null, .int 0]))] s.heap := hP
  have hl := lv_entry ([.ref b]) (n := 1) (Nat.le_of_ble_eq_true rfl)
  rw [lg_entry_eq]
  generalize (lg_sl ([.ref b]) ++ List.replicate (1 - (lg_sl ([.ref b])).length) Slot.unset).toArray = ls at hl ⊢
  have hl : lv_has ls 1 [(0, .ref b)] := hl
  refine lv_aload_n hx hb dJxa1e45_init_da8c8_0 rfl (lv_at hl 0 rfl) ?_
  refine W.objInit hx hb hown (hts (.methodLink RJxa1e45 1 objectInit) (by decide +kernel)) (hts (.instanceMethod objectInit) (by decide +kernel)) (hts (.code objectInit ⟨#[0xb1]⟩ 1 none) (by decide +kernel)) rfl (by rw [hml]; exact hl.1) rfl dJxa1e45_init_da8c8_1 (Nat.le_of_ble_eq_true rfl) (Nat.le_of_ble_eq_true rfl) ?_
  refine W.eq (g2 := F0 m 4 ls []) rfl ?_
  have hP9 := hP.sub (ws' := [(b, .inr (5, [.int 0, .null, .int 0]))]) [0] rfl
  have hD9 := hD.sub (ws' := [(b, .inr (5, [.int 0, .null, .int 0]))]) [0] (by decide) rfl
  have hK9 := hK.sub (tys' := []) [] rfl
  rw [← hAe] at hD9
  refine W.widen (k := 0) (n := 0) (by omega) (by omega) ?_
  subst hAe
  exact W.vret hx hb hr (fun t ht9 hW => ⟨⟨(), rfl, trivial, ⟨by rw [ht9]; exact hP9, va_K.moved hW.alike hK9, hD9⟩⟩, hS.F ht9⟩) hS.2.2 dJxa1e45_init_da8c8_4

def zJxc12de_init_da8c8_ws : List Cond := .code yJxc12de_init_da8c8 cJxc12de_init_da8c8 1 none :: ([.instanceMethod yJxa1e45_init_da8c8, .initialized RJxa1e45, .methodLink RJxc12de 1 yJxa1e45_init_da8c8, .fieldLink RJxc12de 7 "java/util/AbstractList" "modCount" "I"] ++ (zJxa1e45_init_da8c8_ws ++ (wsJx4a65c0 ++ ([]))))
theorem zJxc12de_init_da8c8_ws_good : zJxc12de_init_da8c8_ws.all goodWord = true := by decide +kernel
set_option maxHeartbeats 4000000 in
set_option maxRecDepth 100000 in
/-- its constructor -/
theorem c_AbstractList (l : Launch) (hst : l.stackTraces = false) (D : va_G) (sz : Nat) (b : Nat) : Met l yJxc12de_init_da8c8 zJxc12de_init_da8c8_ws (zR 1 0 0) (zPre [.ref b] D [(b, .inr (5, [.int 0, .null, .int 0]))] [] (va_A [(b, .inr (5, [.int 0, .null, .int 0]))] sz) sz) (va_Qv (S := Unit) (fun _ => True) (fun _ t => zAt D [(b, .inr (5, [.int 0, .null, .int 0]))] [] (va_A [(b, .inr (5, [.int 0, .null, .int 0]))] sz) t) (va_A [(b, .inr (5, [.int 0, .null, .int 0]))] sz)) 0 0 (va_A [(b, .inr (5, [.int 0, .null, .int 0]))] sz) := by
  refine Met.ofW (cc := cJxc12de_init_da8c8) (maxL := 1) (ret := none) (by decide) rfl ?_
  intro p e s m args below meth c s₁ B hml hv
  obtain ⟨rfl, hsz, hP, hK, hD0, hz⟩ := hv
  have hx := B.exec
  have hb := B.bytes
  have hr := B.returns
  have hts := atoms_spec (ws := zJxc12de_init_da8c8_ws) B.pre
  have hown : s.vm.findClass RJxc12de = some m.cls := findClass_of_methodNamed B.named
  have hlocks := B.notSynchronized
  have hin : meth.name = "<init>" := (name_of_methodNamed B.named B.method).1
  subst hsz
  have hD := hD0.self (sz := s.heap.size)
  generalize hAe : va_A [(b, .inr (5, [.int 0, .null, .int 0]))] s.heap.size = A at hD hz ⊢
  have hA : ∀ q : Nat, s.heap.size ≤ q → A q := fun q h => by rw [← hAe]; exact Or.inr h
  have hS : va_S A s.heap s.heap [] := va_S.rf
  have hP : va_P D vwCl [(b, .inr (5, [.int 0, .null, .int 0]))] s.heap := hP
  have hl := lv_entry ([.ref b]) (n := 1) (Nat.le_of_ble_eq_true rfl)
  rw [lg_entry_eq]
  generalize (lg_sl ([.ref b]) ++ List.replicate (1 - (lg_sl ([.ref b])).length) Slot.unset).toArray = ls at hl ⊢
  have hl : lv_has ls 1 [(0, .ref b)] := hl
  refine lv_aload_n hx hb dJxc12de_init_da8c8_0 rfl (lv_at hl 0 rfl) ?_
  have hPc := hP.sub (ws' := [(b, .inr (5, [.int 0, .null, .int 0]))]) [0] rfl
  have hDc := hD.sub (ws' := [(b, .inr (5, [.int 0, .null, .int 0]))]) [0] (by decide) rfl
  have hKc := hK.sub (tys' := []) [] rfl
  have hFc := va_free (wc := [(b, .inr (5, [.int 0, .null, .int 0]))]) hD hS hA [0] rfl
  refine va_callv (va_runI (As := []) (rest := []) ⟨hx, hb, hml, hown, hts⟩ (c_AbstractCollection l hst D s.heap.size b) (cwI 0 hts (goodIn_sub (fun _ h => List.mem_cons_of_mem _ (List.mem_append_right _ (List.mem_append_left _ h))) zJxa1e45_init_da8c8_ws_good) rfl rfl rfl (hts (.initialized RJxa1e45) (by decide +kernel)) (hts (.methodLink RJxc12de 1 yJxa1e45_init_da8c8) (by decide +kernel)) (hts (.instanceMethod yJxa1e45_init_da8c8) (by decide +kernel)) rfl (by decide +kernel) ⟨Nat.le_of_ble_eq_true rfl, Nat.le_of_ble_eq_true rfl⟩) ⟨zPre.blind, zPre.mk hPc hKc hDc hz hS (fun q h => hFc q h)⟩ rfl rfl hl.1 rfl (lv_room (Nat.le_of_ble_eq_true rfl)) dJxc12de_init_da8c8_1 ⟨Nat.le_of_ble_eq_true rfl, Nat.le_of_ble_eq_true rfl⟩) hS (fun q _ h => hFc q h) (fun q h => hFc q h) (fun u t H1 locs ht9 hvm hw hB hz1 hk1 hS => ?_)
  refine W.widen (k := 0) (n := 0) (by omega) (by omega) ?_
  obtain ⟨hP1, hK1, hD1⟩ := hB
  rw [ht9] at hP1
  have hK1 := va_K.moved hvm.symm hK1
  obtain ⟨hP, hD⟩ := va_join (wr := []) (w1 := [(b, .inr (5, [.int 0, .null, .int 0]))]) hP hD [0] [] rfl rfl (by decide) (by decide) hk1 hFc hP1 hD1
  have hK := (hK.sub (tys' := []) [] rfl).app hK1
  generalize H1 = H at hP hS ⊢
  have hP : va_P D vwCl [(b, .inr (5, [.int 0, .null, .int 0]))] H := hP
  have hD : va_D A [(b, .inr (5, [.int 0, .null, .int 0]))] := hD
  have hK : va_K D vwCl [] s := hK
  refine lv_aload_n hx hb dJxc12de_init_da8c8_4 rfl (lv_at hl 0 rfl) ?_
  refine lv_iconst (v := 0) hx hb dJxc12de_init_da8c8_5 (by decide) ?_
  refine va_put (D := D) (ci := 5) (v := .int 0) (ty := .int) (C := RJx4a65c) (T := TJx4a65c) (N := 3) hx hb hts (by decide +kernel) tyJx4a65c tyJx4a65c_ok nmJx4a65c hown hK hP hD hS 0 rfl rfl 0 (by decide) (hts (.fieldLink RJxc12de 7 "java/util/AbstractList" "modCount" "I") (by decide +kernel)) (fun _ h9 => h9) rfl (by decide +kernel) rfl rfl (Nat.le_of_ble_eq_true rfl) dJxc12de_init_da8c8_6 (fun H locs hP hD hS => ?_)
  have hP : va_P D vwCl [(b, .inr (5, [.int 0, .null, .int 0]))] H := hP
  have hD : va_D A [(b, .inr (5, [.int 0, .null, .int 0]))] := hD
  have hP9 := hP.sub (ws' := [(b, .inr (5, [.int 0, .null, .int 0]))]) [0] rfl
  have hD9 := hD.sub (ws' := [(b, .inr (5, [.int 0, .null, .int 0]))]) [0] (by decide) rfl
  have hK9 := hK.sub (tys' := []) [] rfl
  rw [← hAe] at hD9
  refine W.widen (k := 0) (n := 0) (by omega) (by omega) ?_
  subst hAe
  exact W.vret hx hb hr (fun t ht9 hW => ⟨⟨(), rfl, trivial, ⟨by rw [ht9]; exact hP9, va_K.moved hW.alike hK9, hD9⟩⟩, hS.F ht9⟩) hS.2.2 dJxc12de_init_da8c8_9

def zJx4a65c_init_da8c8_ws : List Cond := .code yJx4a65c_init_da8c8 cJx4a65c_init_da8c8 1 none :: ([.instanceMethod yJxc12de_init_da8c8, .initialized RJxc12de, .methodLink RJx4a65c 1 yJxc12de_init_da8c8, .fieldLink RJx4a65c 39 "java/util/ArrayList" "DEFAULTCAPACITY_EMPTY_ELEMENTDATA" "[Ljava/lang/Object;", .fieldLink RJx4a65c 9 "java/util/ArrayList" "elementData" "[Ljava/lang/Object;"] ++ (zJxc12de_init_da8c8_ws ++ (wsJx4a65c0 ++ ([]))))
theorem zJx4a65c_init_da8c8_ws_good : zJx4a65c_init_da8c8_ws.all goodWord = true := by decide +kernel
set_option maxHeartbeats 4000000 in
set_option maxRecDepth 100000 in
/-- a new list -/
theorem c_ArrayList (l : Launch) (hst : l.stackTraces = false) (D : va_G) (sz : Nat) (b dz : Nat) : Met l yJx4a65c_init_da8c8 zJx4a65c_init_da8c8_ws (zR 2 0 0) (zPreX (zM dz) [.ref b] D [(b, .inr (5, [.int 0, .null, .int 0]))] [] (va_A [(b, .inr (5, [.int 0, .null, .int 0]))] sz) sz) (va_Qv (S := Unit) (fun _ => True) (fun _ t => zAt D [(b, .inr (5, [.int 0, .ref dz, .int 0]))] [] (va_A [(b, .inr (5, [.int 0, .null, .int 0]))] sz) t) (va_A [(b, .inr (5, [.int 0, .null, .int 0]))] sz)) 0 0 (va_A [(b, .inr (5, [.int 0, .null, .int 0]))] sz) := by
  refine Met.ofW (cc := cJx4a65c_init_da8c8) (maxL := 1) (ret := none) (by decide) rfl ?_
  intro p e s m args below meth c s₁ B hml hv
  obtain ⟨rfl, hsz, hP, hK, hD0, hz, hm⟩ := hv
  have hx := B.exec
  have hb := B.bytes
  have hr := B.returns
  have hts := atoms_spec (ws := zJx4a65c_init_da8c8_ws) B.pre
  have hown : s.vm.findClass RJx4a65c = some m.cls := findClass_of_methodNamed B.named
  have hlocks := B.notSynchronized
  have hin : meth.name = "<init>" := (name_of_methodNamed B.named B.method).1
  subst hsz
  have hD := hD0.self (sz := s.heap.size)
  generalize hAe : va_A [(b, .inr (5, [.int 0, .null, .int 0]))] s.heap.size = A at hD hz hm ⊢
  have hA : ∀ q : Nat, s.heap.size ≤ q → A q := fun q h => by rw [← hAe]; exact Or.inr h
  have hS : va_S A s.heap s.heap [] := va_S.rf
  have hP : va_P D vwCl [(b, .inr (5, [.int 0, .null, .int 0]))] s.heap := hP
  have hl := lv_entry ([.ref b]) (n := 1) (Nat.le_of_ble_eq_true rfl)
  rw [lg_entry_eq]
  generalize (lg_sl ([.ref b]) ++ List.replicate (1 - (lg_sl ([.ref b])).length) Slot.unset).toArray = ls at hl ⊢
  have hl : lv_has ls 1 [(0, .ref b)] := hl
  refine lv_aload_n hx hb dJx4a65c_init_da8c8_0 rfl (lv_at hl 0 rfl) ?_
  have hPc := hP.sub (ws' := [(b, .inr (5, [.int 0, .null, .int 0]))]) [0] rfl
  have hDc := hD.sub (ws' := [(b, .inr (5, [.int 0, .null, .int 0]))]) [0] (by decide) rfl
  have hKc := hK.sub (tys' := []) [] rfl
  have hFc := va_free (wc := [(b, .inr (5, [.int 0, .null, .int 0]))]) hD hS hA [0] rfl
  refine va_callv (va_runI (As := []) (rest := []) ⟨hx, hb, hml, hown, hts⟩ (c_AbstractList l hst D s.heap.size b) (cwI 0 hts (goodIn_sub (fun _ h => List.mem_cons_of_mem _ (List.mem_append_right _ (List.mem_append_left _ h))) zJxc12de_init_da8c8_ws_good) rfl rfl rfl (hts (.initialized RJxc12de) (by decide +kernel)) (hts (.methodLink RJx4a65c 1 yJxc12de_init_da8c8) (by decide +kernel)) (hts (.instanceMethod yJxc12de_init_da8c8) (by decide +kernel)) rfl (by decide +kernel) ⟨Nat.le_of_ble_eq_true rfl, Nat.le_of_ble_eq_true rfl⟩) ⟨zPre.blind, zPre.mk hPc hKc hDc hz hS (fun q h => hFc q h)⟩ rfl rfl hl.1 rfl (lv_room (Nat.le_of_ble_eq_true rfl)) dJx4a65c_init_da8c8_1 ⟨Nat.le_of_ble_eq_true rfl, Nat.le_of_ble_eq_true rfl⟩) hS (fun q _ h => hFc q h) (fun q h => hFc q h) (fun u t H1 locs ht9 hvm hw hB hz1 hk1 hS => ?_)
  refine W.widen (k := 0) (n := 0) (by omega) (by omega) ?_
  obtain ⟨hP1, hK1, hD1⟩ := hB
  rw [ht9] at hP1
  have hK1 := va_K.moved hvm.symm hK1
  obtain ⟨hP, hD⟩ := va_join (wr := []) (w1 := [(b, .inr (5, [.int 0, .null, .int 0]))]) hP hD [0] [] rfl rfl (by decide) (by decide) hk1 hFc hP1 hD1
  have hK := (hK.sub (tys' := []) [] rfl).app hK1
  generalize H1 = H at hP hS ⊢
  have hP : va_P D vwCl [(b, .inr (5, [.int 0, .null, .int 0]))] H := hP
  have hD : va_D A [(b, .inr (5, [.int 0, .null, .int 0]))] := hD
  have hK : va_K D vwCl [] s := hK
  refine lv_aload_n hx hb dJx4a65c_init_da8c8_4 rfl (lv_at hl 0 rfl) ?_
  refine va_gets hx hb hm.1 hS hown (hts (.fieldLink RJx4a65c 39 "java/util/ArrayList" "DEFAULTCAPACITY_EMPTY_ELEMENTDATA" "[Ljava/lang/Object;") (by decide +kernel)) (fun _ h9 => h9) dJx4a65c_init_da8c8_5 ?_
  refine va_put (D := D) (ci := 5) (v := .ref dz) (ty := .array (.object "java/lang/Object")) (C := RJx4a65c) (T := TJx4a65c) (N := 3) hx hb hts (by decide +kernel) tyJx4a65c tyJx4a65c_ok nmJx4a65c hown hK hP hD hS 0 rfl rfl 1 (by decide) (hts (.fieldLink RJx4a65c 9 "java/util/ArrayList" "elementData" "[Ljava/lang/Object;") (by decide +kernel)) (fun _ h9 => h9) rfl (by decide +kernel) rfl rfl (Nat.le_of_ble_eq_true rfl) dJx4a65c_init_da8c8_8 (fun H locs hP hD hS => ?_)
  have hP : va_P D vwCl [(b, .inr (5, [.int 0, .ref dz, .int 0]))] H := hP
  have hD : va_D A [(b, .inr (5, [.int 0, .ref dz, .int 0]))] := hD
  have hP9 := hP.sub (ws' := [(b, .inr (5, [.int 0, .ref dz, .int 0]))]) [0] rfl
  have hD9 := hD.sub (ws' := [(b, .inr (5, [.int 0, .ref dz, .int 0]))]) [0] (by decide) rfl
  have hK9 := hK.sub (tys' := []) [] rfl
  rw [← hAe] at hD9
  refine W.widen (k := 0) (n := 0) (by omega) (by omega) ?_
  subst hAe
  exact W.vret hx hb hr (fun t ht9 hW => ⟨⟨(), rfl, trivial, ⟨by rw [ht9]; exact hP9, va_K.moved hW.alike hK9, hD9⟩⟩, hS.F ht9⟩) hS.2.2 dJx4a65c_init_da8c8_11

def zX17_init_ws : List Cond := .code yX17_init cX17_init 1 none :: ([.methodLink RX17 1 objectInit, .instanceMethod objectInit, .code objectInit ⟨#[0xb1]⟩ 1 none, .classLink RX17 7 RJx4a65c, .instantiable RJx4a65c 3, .initialized RJx4a65c, .instanceMethod yJx4a65c_init_da8c8, .methodLink RX17 9 yJx4a65c_init_da8c8, .fieldLink RX17 10 "HeatStadiumModel" "nations" "Ljava/util/ArrayList;", .fieldLink RX17 16 "HeatStadiumModel" "doped" "Ljava/util/ArrayList;", .fieldLink RX17 19 "HeatStadiumModel" "events" "Ljava/util/ArrayList;", .fieldLink RX17 22 "HeatStadiumModel" "protests" "Ljava/util/ArrayList;"] ++ (wsJx4a65c0 ++ (zJx4a65c_init_da8c8_ws ++ (wsX170 ++ ([])))))
theorem zX17_init_ws_good : zX17_init_ws.all goodWord = true := by decide +kernel
set_option maxHeartbeats 4000000 in
set_option maxRecDepth 100000 in
/-- a new reference -/
theorem cm_init (l : Launch) (hst : l.stackTraces = false) (D : va_G) (sz : Nat) (mo dz : Nat) : Met l yX17_init zX17_init_ws (zR 3 4 12) (zPreX (zM dz) [.ref mo] D [(mo, .inr (23, [.int 0, .null, .null, .null, .null, .int 0, .int 0, .long 0]))] [] (va_A [(mo, .inr (23, [.int 0, .null, .null, .null, .null, .int 0, .int 0, .long 0]))] sz) sz) (va_Qv (S := Unit) (fun _ => True) (fun _ t => ∃ (e0 e1 e2 e3 : Nat), zAt D [(mo, .inr (23, [.int 0, .ref e0, .ref e1, .ref e2, .ref e3, .int 0, .int 0, .long 0])), (e0, .inr (5, [.int 0, .ref dz, .int 0])), (e1, .inr (5, [.int 0, .ref dz, .int 0])), (e2, .inr (5, [.int 0, .ref dz, .int 0])), (e3, .inr (5, [.int 0, .ref dz, .int 0]))] [] (va_A [(mo, .inr (23, [.int 0, .null, .null, .null, .null, .int 0, .int 0, .long 0]))] sz) t) (va_A [(mo, .inr (23, [.int 0, .null, .null, .null, .null, .int 0, .int 0, .long 0]))] sz)) 4 12 (va_A [(mo, .inr (23, [.int 0, .null, .null, .null, .null, .int 0, .int 0, .long 0]))] sz) := by
  refine Met.ofW (cc := cX17_init) (maxL := 1) (ret := none) (by decide) rfl ?_
  intro p e s m args below meth c s₁ B hml hv
  obtain ⟨rfl, hsz, hP, hK, hD0, hz, hm⟩ := hv
  have hx := B.exec
  have hb := B.bytes
  have hr := B.returns
  have hts := atoms_spec (ws := zX17_init_ws) B.pre
  have hown : s.vm.findClass RX17 = some m.cls := findClass_of_methodNamed B.named
  have hlocks := B.notSynchronized
  have hin : meth.name = "<init>" := (name_of_methodNamed B.named B.method).1
  subst hsz
  have hD := hD0.self (sz := s.heap.size)
  generalize hAe : va_A [(mo, .inr (23, [.int 0, .null, .null, .null, .null, .int 0, .int 0, .long 0]))] s.heap.size = A at hD hz hm ⊢
  have hA : ∀ q : Nat, s.heap.size ≤ q → A q := fun q h => by rw [← hAe]; exact Or.inr h
  have hS : va_S A s.heap s.heap [] := va_S.rf
  have hP : va_P D vwCl [(mo, .inr (23, [.int 0, .null, .null, .null, .null, .int 0, .int 0, .long 0]))] s.heap := hP
  have hl := lv_entry ([.ref mo]) (n := 1) (Nat.le_of_ble_eq_true rfl)
  rw [lg_entry_eq]
  generalize (lg_sl ([.ref mo]) ++ List.replicate (1 - (lg_sl ([.ref mo])).length) Slot.unset).toArray = ls at hl ⊢
  have hl : lv_has ls 1 [(0, .ref mo)] := hl
  refine lv_aload_n hx hb dX17_init_0 rfl (lv_at hl 0 rfl) ?_
  refine W.objInit hx hb hown (hts (.methodLink RX17 1 objectInit) (by decide +kernel)) (hts (.instanceMethod objectInit) (by decide +kernel)) (hts (.code objectInit ⟨#[0xb1]⟩ 1 none) (by decide +kernel)) rfl (by rw [hml]; exact hl.1) rfl dX17_init_1 (Nat.le_of_ble_eq_true rfl) (Nat.le_of_ble_eq_true rfl) ?_
  refine W.eq (g2 := F0 m 4 ls []) rfl ?_
  refine lv_aload_n hx hb dX17_init_4 rfl (lv_at hl 0 rfl) ?_
  refine va_new (ci := 5) (fs := [.int 0, .null, .int 0]) (C := RJx4a65c) (T := TJx4a65c) (N := 3) hx hb hts (by decide +kernel) tyJx4a65c tyJx4a65c_ok hown (hts (.classLink RX17 7 RJx4a65c) (by decide +kernel)) (hts (.instantiable RJx4a65c 3) (by decide +kernel)) (hts (.initialized RJx4a65c) (by decide +kernel)) hK hP hD hS hA rfl (fun j hj => by rcases (show j = 0 ∨ j = 1 ∨ j = 2 by omega) with rfl | rfl | rfl <;> rfl) (Nat.le_of_ble_eq_true rfl) (Nat.le_of_ble_eq_true rfl) dX17_init_5 (fun q1 H hP hD hS => ?_)
  have hP : va_P D vwCl [(mo, .inr (23, [.int 0, .null, .null, .null, .null, .int 0, .int 0, .long 0])), (q1, .inr (5, [.int 0, .null, .int 0]))] H := hP
  have hD : va_D A [(mo, .inr (23, [.int 0, .null, .null, .null, .null, .int 0, .int 0, .long 0])), (q1, .inr (5, [.int 0, .null, .int 0]))] := hD
  refine W.widen (k := 1) (n := 3) (by omega) (by omega) ?_
  refine lv_dup hx hb dX17_init_8 rfl ?_
  have hPc := hP.sub (ws' := [(q1, .inr (5, [.int 0, .null, .int 0]))]) [1] rfl
  have hDc := hD.sub (ws' := [(q1, .inr (5, [.int 0, .null, .int 0]))]) [1] (by decide) rfl
  have hKc := hK.sub (tys' := []) [] rfl
  have hFc := va_free (wc := [(q1, .inr (5, [.int 0, .null, .int 0]))]) hD hS hA [1] rfl
  refine va_callv (va_runI (As := []) (rest := [.ref q1, .ref mo]) ⟨hx, hb, hml, hown, hts⟩ (c_ArrayList l hst D H.size q1 dz) (cwI 0 hts (goodIn_sub (fun _ h => List.mem_cons_of_mem _ (List.mem_append_right _ (List.mem_append_right _ (List.mem_append_left _ h)))) zJx4a65c_init_da8c8_ws_good) rfl rfl rfl (hts (.initialized RJx4a65c) (by decide +kernel)) (hts (.methodLink RX17 9 yJx4a65c_init_da8c8) (by decide +kernel)) (hts (.instanceMethod yJx4a65c_init_da8c8) (by decide +kernel)) rfl (by decide +kernel) ⟨Nat.le_of_ble_eq_true rfl, Nat.le_of_ble_eq_true rfl⟩) ⟨zPreX.blind (zM_ok dz), zPreX.mk (zM_ok dz) (hm) hPc hKc hDc hz hS (fun q h => hFc q h)⟩ rfl rfl hl.1 rfl (lv_room (Nat.le_of_ble_eq_true rfl)) dX17_init_9 ⟨Nat.le_of_ble_eq_true rfl, Nat.le_of_ble_eq_true rfl⟩) hS (fun q _ h => hFc q h) (fun q h => hFc q h) (fun u t H1 locs ht9 hvm hw hB hz1 hk1 hS => ?_)
  refine W.widen (k := 1) (n := 3) (by omega) (by omega) ?_
  obtain ⟨hP1, hK1, hD1⟩ := hB
  rw [ht9] at hP1
  have hK1 := va_K.moved hvm.symm hK1
  obtain ⟨hP, hD⟩ := va_join (wr := [(mo, .inr (23, [.int 0, .null, .null, .null, .null, .int 0, .int 0, .long 0]))]) (w1 := [(q1, .inr (5, [.int 0, .ref dz, .int 0]))]) hP hD [1] [0] rfl rfl (by decide) (by decide) hk1 hFc hP1 hD1
  have hK := (hK.sub (tys' := []) [] rfl).app hK1
  generalize H1 = H at hP hS ⊢
  have hP : va_P D vwCl [(mo, .inr (23, [.int 0, .null, .null, .null, .null, .int 0, .int 0, .long 0])), (q1, .inr (5, [.int 0, .ref dz, .int 0]))] H := hP
  have hD : va_D A [(mo, .inr (23, [.int 0, .null, .null, .null, .null, .int 0, .int 0, .long 0])), (q1, .inr (5, [.int 0, .ref dz, .int 0]))] := hD
  have hK : va_K D vwCl [] s := hK
  refine va_putF (D := D) (ci := 23) (v := .ref q1) (ty := .object "java/util/ArrayList") (C := RX17) (T := TX17) (N := 8) hx hb hts (by decide +kernel) tyX17 tyX17_ok nmX17 hown hK hP hD hS 0 rfl rfl 1 (by decide) (hts (.fieldLink RX17 10 "HeatStadiumModel" "nations" "Ljava/util/ArrayList;") (by decide +kernel)) (fun _ h9 => h9) rfl hin rfl (by decide +kernel) rfl rfl (Nat.le_of_ble_eq_true rfl) dX17_init_12 (fun H locs hP hD hS => ?_)
  have hP : va_P D vwCl [(mo, .inr (23, [.int 0, .ref q1, .null, .null, .null, .int 0, .int 0, .long 0])), (q1, .inr (5, [.int 0, .ref dz, .int 0]))] H := hP
  have hD : va_D A [(mo, .inr (23, [.int 0, .ref q1, .null, .null, .null, .int 0, .int 0, .long 0])), (q1, .inr (5, [.int 0, .ref dz, .int 0]))] := hD
  refine lv_aload_n hx hb dX17_init_15 rfl (lv_at hl 0 rfl) ?_
  refine va_new (ci := 5) (fs := [.int 0, .null, .int 0]) (C := RJx4a65c) (T := TJx4a65c) (N := 3) hx hb hts (by decide +kernel) tyJx4a65c tyJx4a65c_ok hown (hts (.classLink RX17 7 RJx4a65c) (by decide +kernel)) (hts (.instantiable RJx4a65c 3) (by decide +kernel)) (hts (.initialized RJx4a65c) (by decide +kernel)) hK hP hD hS hA rfl (fun j hj => by rcases (show j = 0 ∨ j = 1 ∨ j = 2 by omega) with rfl | rfl | rfl <;> rfl) (Nat.le_of_ble_eq_true rfl) (Nat.le_of_ble_eq_true rfl) dX17_init_16 (fun q2 H hP hD hS => ?_)
  have hP : va_P D vwCl [(mo, .inr (23, [.int 0, .ref q1, .null, .null, .null, .int 0, .int 0, .long 0])), (q1, .inr (5, [.int 0, .ref dz, .int 0])), (q2, .inr (5, [.int 0, .null, .int 0]))] H := hP
  have hD : va_D A [(mo, .inr (23, [.int 0, .ref q1, .null, .null, .null, .int 0, .int 0, .long 0])), (q1, .inr (5, [.int 0, .ref dz, .int 0])), (q2, .inr (5, [.int 0, .null, .int 0]))] := hD
  refine W.widen (k := 2) (n := 6) (by omega) (by omega) ?_
  refine lv_dup hx hb dX17_init_19 rfl ?_
  have hPc := hP.sub (ws' := [(q2, .inr (5, [.int 0, .null, .int 0]))]) [2] rfl
  have hDc := hD.sub (ws' := [(q2, .inr (5, [.int 0, .null, .int 0]))]) [2] (by decide) rfl
  have hKc := hK.sub (tys' := []) [] rfl
  have hFc := va_free (wc := [(q2, .inr (5, [.int 0, .null, .int 0]))]) hD hS hA [2] rfl
  refine va_callv (va_runI (As := []) (rest := [.ref q2, .ref mo]) ⟨hx, hb, hml, hown, hts⟩ (c_ArrayList l hst D H.size q2 dz) (cwI 0 hts (goodIn_sub (fun _ h => List.mem_cons_of_mem _ (List.mem_append_right _ (List.mem_append_right _ (List.mem_append_left _ h)))) zJx4a65c_init_da8c8_ws_good) rfl rfl rfl (hts (.initialized RJx4a65c) (by decide +kernel)) (hts (.methodLink RX17 9 yJx4a65c_init_da8c8) (by decide +kernel)) (hts (.instanceMethod yJx4a65c_init_da8c8) (by decide +kernel)) rfl (by decide +kernel) ⟨Nat.le_of_ble_eq_true rfl, Nat.le_of_ble_eq_true rfl⟩) ⟨zPreX.blind (zM_ok dz), zPreX.mk (zM_ok dz) (hm) hPc hKc hDc hz hS (fun q h => hFc q h)⟩ rfl rfl hl.1 rfl (lv_room (Nat.le_of_ble_eq_true rfl)) dX17_init_20 ⟨Nat.le_of_ble_eq_true rfl, Nat.le_of_ble_eq_true rfl⟩) hS (fun q _ h => hFc q h) (fun q h => hFc q h) (fun u t H1 locs ht9 hvm hw hB hz1 hk1 hS => ?_)
  refine W.widen (k := 2) (n := 6) (by omega) (by omega) ?_
  obtain ⟨hP1, hK1, hD1⟩ := hB
  rw [ht9] at hP1
  have hK1 := va_K.moved hvm.symm hK1
  obtain ⟨hP, hD⟩ := va_join (wr := [(mo, .inr (23, [.int 0, .ref q1, .null, .null, .null, .int 0, .int 0, .long 0])), (q1, .inr (5, [.int 0, .ref dz, .int 0]))]) (w1 := [(q2, .inr (5, [.int 0, .ref dz, .int 0]))]) hP hD [2] [0, 1] rfl rfl (by decide) (by decide) hk1 hFc hP1 hD1
  have hK := (hK.sub (tys' := []) [] rfl).app hK1
  generalize H1 = H at hP hS ⊢
  have hP : va_P D vwCl [(mo, .inr (23, [.int 0, .ref q1, .null, .null, .null, .int 0, .int 0, .long 0])), (q1, .inr (5, [.int 0, .ref dz, .int 0])), (q2, .inr (5, [.int 0, .ref dz, .int 0]))] H := hP
  have hD : va_D A [(mo, .inr (23, [.int 0, .ref q1, .null, .null, .null, .int 0, .int 0, .long 0])), (q1, .inr (5, [.int 0, .ref dz, .int 0])), (q2, .inr (5, [.int 0, .ref dz, .int 0]))] := hD
  have hK : va_K D vwCl [] s := hK
  refine va_putF (D := D) (ci := 23) (v := .ref q2) (ty := .object "java/util/ArrayList") (C := RX17) (T := TX17) (N := 8) hx hb hts (by decide +kernel) tyX17 tyX17_ok nmX17 hown hK hP hD hS 0 rfl rfl 2 (by decide) (hts (.fieldLink RX17 16 "HeatStadiumModel" "doped" "Ljava/util/ArrayList;") (by decide +kernel)) (fun _ h9 => h9) rfl hin rfl (by decide +kernel) rfl rfl (Nat.le_of_ble_eq_true rfl) dX17_init_23 (fun H locs hP hD hS => ?_)
  have hP : va_P D vwCl [(mo, .inr (23, [.int 0, .ref q1, .ref q2, .null, .null, .int 0, .int 0, .long 0])), (q1, .inr (5, [.int 0, .ref dz, .int 0])), (q2, .inr (5, [.int 0, .ref dz, .int 0]))] H := hP
  have hD : va_D A [(mo, .inr (23, [.int 0, .ref q1, .ref q2, .null, .null, .int 0, .int 0, .long 0])), (q1, .inr (5, [.int 0, .ref dz, .int 0])), (q2, .inr (5, [.int 0, .ref dz, .int 0]))] := hD
  refine lv_aload_n hx hb dX17_init_26 rfl (lv_at hl 0 rfl) ?_
  refine va_new (ci := 5) (fs := [.int 0, .null, .int 0]) (C := RJx4a65c) (T := TJx4a65c) (N := 3) hx hb hts (by decide +kernel) tyJx4a65c tyJx4a65c_ok hown (hts (.classLink RX17 7 RJx4a65c) (by decide +kernel)) (hts (.instantiable RJx4a65c 3) (by decide +kernel)) (hts (.initialized RJx4a65c) (by decide +kernel)) hK hP hD hS hA rfl (fun j hj => by rcases (show j = 0 ∨ j = 1 ∨ j = 2 by omega) with rfl | rfl | rfl <;> rfl) (Nat.le_of_ble_eq_true rfl) (Nat.le_of_ble_eq_true rfl) dX17_init_27 (fun q3 H hP hD hS => ?_)
  have hP : va_P D vwCl [(mo, .inr (23, [.int 0, .ref q1, .ref q2, .null, .null, .int 0, .int 0, .long 0])), (q1, .inr (5, [.int 0, .ref dz, .int 0])), (q2, .inr (5, [.int 0, .ref dz, .int 0])), (q3, .inr (5, [.int 0, .null, .int 0]))] H := hP
  have hD : va_D A [(mo, .inr (23, [.int 0, .ref q1, .ref q2, .null, .null, .int 0, .int 0, .long 0])), (q1, .inr (5, [.int 0, .ref dz, .int 0])), (q2, .inr (5, [.int 0, .ref dz, .int 0])), (q3, .inr (5, [.int 0, .null, .int 0]))] := hD
  refine W.widen (k := 3) (n := 9) (by omega) (by omega) ?_
  refine lv_dup hx hb dX17_init_30 rfl ?_
  have hPc := hP.sub (ws' := [(q3, .inr (5, [.int 0, .null, .int 0]))]) [3] rfl
  have hDc := hD.sub (ws' := [(q3, .inr (5, [.int 0, .null, .int 0]))]) [3] (by decide) rfl
  have hKc := hK.sub (tys' := []) [] rfl
  have hFc := va_free (wc := [(q3, .inr (5, [.int 0, .null, .int 0]))]) hD hS hA [3] rfl
  refine va_callv (va_runI (As := []) (rest := [.ref q3, .ref mo]) ⟨hx, hb, hml, hown, hts⟩ (c_ArrayList l hst D H.size q3 dz) (cwI 0 hts (goodIn_sub (fun _ h => List.mem_cons_of_mem _ (List.mem_append_right _ (List.mem_append_right _ (List.mem_append_left _ h)))) zJx4a65c_init_da8c8_ws_good) rfl rfl rfl (hts (.initialized RJx4a65c) (by decide +kernel)) (hts (.methodLink RX17 9 yJx4a65c_init_da8c8) (by decide +kernel)) (hts (.instanceMethod yJx4a65c_init_da8c8) (by decide +kernel)) rfl (by decide +kernel) ⟨Nat.le_of_ble_eq_true rfl, Nat.le_of_ble_eq_true rfl⟩) ⟨zPreX.blind (zM_ok dz), zPreX.mk (zM_ok dz) (hm) hPc hKc hDc hz hS (fun q h => hFc q h)⟩ rfl rfl hl.1 rfl (lv_room (Nat.le_of_ble_eq_true rfl)) dX17_init_31 ⟨Nat.le_of_ble_eq_true rfl, Nat.le_of_ble_eq_true rfl⟩) hS (fun q _ h => hFc q h) (fun q h => hFc q h) (fun u t H1 locs ht9 hvm hw hB hz1 hk1 hS => ?_)
  refine W.widen (k := 3) (n := 9) (by omega) (by omega) ?_
  obtain ⟨hP1, hK1, hD1⟩ := hB
  rw [ht9] at hP1
  have hK1 := va_K.moved hvm.symm hK1
  obtain ⟨hP, hD⟩ := va_join (wr := [(mo, .inr (23, [.int 0, .ref q1, .ref q2, .null, .null, .int 0, .int 0, .long 0])), (q1, .inr (5, [.int 0, .ref dz, .int 0])), (q2, .inr (5, [.int 0, .ref dz, .int 0]))]) (w1 := [(q3, .inr (5, [.int 0, .ref dz, .int 0]))]) hP hD [3] [0, 1, 2] rfl rfl (by decide) (by decide) hk1 hFc hP1 hD1
  have hK := (hK.sub (tys' := []) [] rfl).app hK1
  generalize H1 = H at hP hS ⊢
  have hP : va_P D vwCl [(mo, .inr (23, [.int 0, .ref q1, .ref q2, .null, .null, .int 0, .int 0, .long 0])), (q1, .inr (5, [.int 0, .ref dz, .int 0])), (q2, .inr (5, [.int 0, .ref dz, .int 0])), (q3, .inr (5, [.int 0, .ref dz, .int 0]))] H := hP
  have hD : va_D A [(mo, .inr (23, [.int 0, .ref q1, .ref q2, .null, .null, .int 0, .int 0, .long 0])), (q1, .inr (5, [.int 0, .ref dz, .int 0])), (q2, .inr (5, [.int 0, .ref dz, .int 0])), (q3, .inr (5, [.int 0, .ref dz, .int 0]))] := hD
  have hK : va_K D vwCl [] s := hK
  refine va_putF (D := D) (ci := 23) (v := .ref q3) (ty := .object "java/util/ArrayList") (C := RX17) (T := TX17) (N := 8) hx hb hts (by decide +kernel) tyX17 tyX17_ok nmX17 hown hK hP hD hS 0 rfl rfl 3 (by decide) (hts (.fieldLink RX17 19 "HeatStadiumModel" "events" "Ljava/util/ArrayList;") (by decide +kernel)) (fun _ h9 => h9) rfl hin rfl (by decide +kernel) rfl rfl (Nat.le_of_ble_eq_true rfl) dX17_init_34 (fun H locs hP hD hS => ?_)
  have hP : va_P D vwCl [(mo, .inr (23, [.int 0, .ref q1, .ref q2, .ref q3, .null, .int 0, .int 0, .long 0])), (q1, .inr (5, [.int 0, .ref dz, .int 0])), (q2, .inr (5, [.int 0, .ref dz, .int 0])), (q3, .inr (5, [.int 0, .ref dz, .int 0]))] H := hP
  have hD : va_D A [(mo, .inr (23, [.int 0, .ref q1, .ref q2, .ref q3, .null, .int 0, .int 0, .long 0])), (q1, .inr (5, [.int 0, .ref dz, .int 0])), (q2, .inr (5, [.int 0, .ref dz, .int 0])), (q3, .inr (5, [.int 0, .ref dz, .int 0]))] := hD
  refine lv_aload_n hx hb dX17_init_37 rfl (lv_at hl 0 rfl) ?_
  refine va_new (ci := 5) (fs := [.int 0, .null, .int 0]) (C := RJx4a65c) (T := TJx4a65c) (N := 3) hx hb hts (by decide +kernel) tyJx4a65c tyJx4a65c_ok hown (hts (.classLink RX17 7 RJx4a65c) (by decide +kernel)) (hts (.instantiable RJx4a65c 3) (by decide +kernel)) (hts (.initialized RJx4a65c) (by decide +kernel)) hK hP hD hS hA rfl (fun j hj => by rcases (show j = 0 ∨ j = 1 ∨ j = 2 by omega) with rfl | rfl | rfl <;> rfl) (Nat.le_of_ble_eq_true rfl) (Nat.le_of_ble_eq_true rfl) dX17_init_38 (fun q4 H hP hD hS => ?_)
  have hP : va_P D vwCl [(mo, .inr (23, [.int 0, .ref q1, .ref q2, .ref q3, .null, .int 0, .int 0, .long 0])), (q1, .inr (5, [.int 0, .ref dz, .int 0])), (q2, .inr (5, [.int 0, .ref dz, .int 0])), (q3, .inr (5, [.int 0, .ref dz, .int 0])), (q4, .inr (5, [.int 0, .null, .int 0]))] H := hP
  have hD : va_D A [(mo, .inr (23, [.int 0, .ref q1, .ref q2, .ref q3, .null, .int 0, .int 0, .long 0])), (q1, .inr (5, [.int 0, .ref dz, .int 0])), (q2, .inr (5, [.int 0, .ref dz, .int 0])), (q3, .inr (5, [.int 0, .ref dz, .int 0])), (q4, .inr (5, [.int 0, .null, .int 0]))] := hD
  refine W.widen (k := 4) (n := 12) (by omega) (by omega) ?_
  refine lv_dup hx hb dX17_init_41 rfl ?_
  have hPc := hP.sub (ws' := [(q4, .inr (5, [.int 0, .null, .int 0]))]) [4] rfl
  have hDc := hD.sub (ws' := [(q4, .inr (5, [.int 0, .null, .int 0]))]) [4] (by decide) rfl
  have hKc := hK.sub (tys' := []) [] rfl
  have hFc := va_free (wc := [(q4, .inr (5, [.int 0, .null, .int 0]))]) hD hS hA [4] rfl
  refine va_callv (va_runI (As := []) (rest := [.ref q4, .ref mo]) ⟨hx, hb, hml, hown, hts⟩ (c_ArrayList l hst D H.size q4 dz) (cwI 0 hts (goodIn_sub (fun _ h => List.mem_cons_of_mem _ (List.mem_append_right _ (List.mem_append_right _ (List.mem_append_left _ h)))) zJx4a65c_init_da8c8_ws_good) rfl rfl rfl (hts (.initialized RJx4a65c) (by decide +kernel)) (hts (.methodLink RX17 9 yJx4a65c_init_da8c8) (by decide +kernel)) (hts (.instanceMethod yJx4a65c_init_da8c8) (by decide +kernel)) rfl (by decide +kernel) ⟨Nat.le_of_ble_eq_true rfl, Nat.le_of_ble_eq_true rfl⟩) ⟨zPreX.blind (zM_ok dz), zPreX.mk (zM_ok dz) (hm) hPc hKc hDc hz hS (fun q h => hFc q h)⟩ rfl rfl hl.1 rfl (lv_room (Nat.le_of_ble_eq_true rfl)) dX17_init_42 ⟨Nat.le_of_ble_eq_true rfl, Nat.le_of_ble_eq_true rfl⟩) hS (fun q _ h => hFc q h) (fun q h => hFc q h) (fun u t H1 locs ht9 hvm hw hB hz1 hk1 hS => ?_)
  refine W.widen (k := 4) (n := 12) (by omega) (by omega) ?_
  obtain ⟨hP1, hK1, hD1⟩ := hB
  rw [ht9] at hP1
  have hK1 := va_K.moved hvm.symm hK1
  obtain ⟨hP, hD⟩ := va_join (wr := [(mo, .inr (23, [.int 0, .ref q1, .ref q2, .ref q3, .null, .int 0, .int 0, .long 0])), (q1, .inr (5, [.int 0, .ref dz, .int 0])), (q2, .inr (5, [.int 0, .ref dz, .int 0])), (q3, .inr (5, [.int 0, .ref dz, .int 0]))]) (w1 := [(q4, .inr (5, [.int 0, .ref dz, .int 0]))]) hP hD [4] [0, 1, 2, 3] rfl rfl (by decide) (by decide) hk1 hFc hP1 hD1
  have hK := (hK.sub (tys' := []) [] rfl).app hK1
  generalize H1 = H at hP hS ⊢
  have hP : va_P D vwCl [(mo, .inr (23, [.int 0, .ref q1, .ref q2, .ref q3, .null, .int 0, .int 0, .long 0])), (q1, .inr (5, [.int 0, .ref dz, .int 0])), (q2, .inr (5, [.int 0, .ref dz, .int 0])), (q3, .inr (5, [.int 0, .ref dz, .int 0])), (q4, .inr (5, [.int 0, .ref dz, .int 0]))] H := hP
  have hD : va_D A [(mo, .inr (23, [.int 0, .ref q1, .ref q2, .ref q3, .null, .int 0, .int 0, .long 0])), (q1, .inr (5, [.int 0, .ref dz, .int 0])), (q2, .inr (5, [.int 0, .ref dz, .int 0])), (q3, .inr (5, [.int 0, .ref dz, .int 0])), (q4, .inr (5, [.int 0, .ref dz, .int 0]))] := hD
  have hK : va_K D vwCl [] s := hK
  refine va_putF (D := D) (ci := 23) (v := .ref q4) (ty := .object "java/util/ArrayList") (C := RX17) (T := TX17) (N := 8) hx hb hts (by decide +kernel) tyX17 tyX17_ok nmX17 hown hK hP hD hS 0 rfl rfl 4 (by decide) (hts (.fieldLink RX17 22 "HeatStadiumModel" "protests" "Ljava/util/ArrayList;") (by decide +kernel)) (fun _ h9 => h9) rfl hin rfl (by decide +kernel) rfl rfl (Nat.le_of_ble_eq_true rfl) dX17_init_45 (fun H locs hP hD hS => ?_)
  have hP : va_P D vwCl [(mo, .inr (23, [.int 0, .ref q1, .ref q2, .ref q3, .ref q4, .int 0, .int 0, .long 0])), (q1, .inr (5, [.int 0, .ref dz, .int 0])), (q2, .inr (5, [.int 0, .ref dz, .int 0])), (q3, .inr (5, [.int 0, .ref dz, .int 0])), (q4, .inr (5, [.int 0, .ref dz, .int 0]))] H := hP
  have hD : va_D A [(mo, .inr (23, [.int 0, .ref q1, .ref q2, .ref q3, .ref q4, .int 0, .int 0, .long 0])), (q1, .inr (5, [.int 0, .ref dz, .int 0])), (q2, .inr (5, [.int 0, .ref dz, .int 0])), (q3, .inr (5, [.int 0, .ref dz, .int 0])), (q4, .inr (5, [.int 0, .ref dz, .int 0]))] := hD
  have hP9 := hP.sub (ws' := [(mo, .inr (23, [.int 0, .ref q1, .ref q2, .ref q3, .ref q4, .int 0, .int 0, .long 0])), (q1, .inr (5, [.int 0, .ref dz, .int 0])), (q2, .inr (5, [.int 0, .ref dz, .int 0])), (q3, .inr (5, [.int 0, .ref dz, .int 0])), (q4, .inr (5, [.int 0, .ref dz, .int 0]))]) [0, 1, 2, 3, 4] rfl
  have hD9 := hD.sub (ws' := [(mo, .inr (23, [.int 0, .ref q1, .ref q2, .ref q3, .ref q4, .int 0, .int 0, .long 0])), (q1, .inr (5, [.int 0, .ref dz, .int 0])), (q2, .inr (5, [.int 0, .ref dz, .int 0])), (q3, .inr (5, [.int 0, .ref dz, .int 0])), (q4, .inr (5, [.int 0, .ref dz, .int 0]))]) [0, 1, 2, 3, 4] (by decide) rfl
  have hK9 := hK.sub (tys' := []) [] rfl
  rw [← hAe] at hD9
  refine W.widen (k := 4) (n := 12) (by omega) (by omega) ?_
  subst hAe
  exact W.vret hx hb hr (fun t ht9 hW => ⟨⟨(), rfl, trivial, ⟨q1, q2, q3, q4, by rw [ht9]; exact hP9, va_K.moved hW.alike hK9, hD9⟩⟩, hS.F ht9⟩) hS.2.2 dX17_init_48

def zJx4a65c_grow_92f84_ws : List Cond := .code yJx4a65c_grow_92f84 cJx4a65c_grow_92f84 4 (some (.array (.object "java/lang/Object"))) :: ([.fieldLink RJx4a65c 9 "java/util/ArrayList" "elementData" "[Ljava/lang/Object;", .fieldLink RJx4a65c 39 "java/util/ArrayList" "DEFAULTCAPACITY_EMPTY_ELEMENTDATA" "[Ljava/lang/Object;", .code Lib.Math.max.name Lib.Math.max.code 2 (some .int), .methodLink RJx4a65c 79 Lib.Math.max.name, .static Lib.Math.max.name, .initialized "java/lang/Math", .classLink RJx4a65c 7 "java/lang/Object"] ++ (wsJx4a65c0 ++ ([])))
theorem zJx4a65c_grow_92f84_ws_good : zJx4a65c_grow_92f84_ws.all goodWord = true := by decide +kernel
set_option maxHeartbeats 4000000 in
set_option maxRecDepth 100000 in
/-- the first place of a list: ten -/
theorem c_grow1 (l : Launch) (hst : l.stackTraces = false) (D : va_G) (sz : Nat) (b dz : Nat) (md : Int32) : Met l yJx4a65c_grow_92f84 zJx4a65c_grow_92f84_ws (zR 0 1 10) (zPreX (zM dz) [.ref b, .int 1] D [(b, .inr (5, [.int md, .ref dz, .int 0]))] [] (va_A [(b, .inr (5, [.int md, .ref dz, .int 0]))] sz) sz) (va_Qq (S := Nat × Nat) (fun r u => r = some u.1) (fun u t => zAt D [(b, .inr (5, [.int md, .ref u.1, .int 0])), (u.1, .inl (u.2, 10, .inr (.inr (.inr (.inr (fun _ => none))))))] [(u.2, .object "java/lang/Object")] (va_A [(b, .inr (5, [.int md, .ref dz, .int 0]))] sz) t) (va_A [(b, .inr (5, [.int md, .ref dz, .int 0]))] sz)) 1 10 (va_A [(b, .inr (5, [.int md, .ref dz, .int 0]))] sz) := by
  refine Met.ofW (cc := cJx4a65c_grow_92f84) (maxL := 4) (ret := (some (.array (.object "java/lang/Object")))) (by decide) rfl ?_
  intro p e s m args below meth c s₁ B hml hv
  obtain ⟨rfl, hsz, hP, hK, hD0, hz, hm⟩ := hv
  have hx := B.exec
  have hb := B.bytes
  have hr := B.returns
  have hts := atoms_spec (ws := zJx4a65c_grow_92f84_ws) B.pre
  have hown : s.vm.findClass RJx4a65c = some m.cls := findClass_of_methodNamed B.named
  have hlocks := B.notSynchronized
  subst hsz
  have hD := hD0.self (sz := s.heap.size)
  generalize hAe : va_A [(b, .inr (5, [.int md, .ref dz, .int 0]))] s.heap.size = A at hD hz hm ⊢
  have hA : ∀ q : Nat, s.heap.size ≤ q → A q := fun q h => by rw [← hAe]; exact Or.inr h
  have hS : va_S A s.heap s.heap [] := va_S.rf
  have hP : va_P D vwCl [(b, .inr (5, [.int md, .ref dz, .int 0]))] s.heap := hP
  have hl := lv_entry ([.ref b, .int 1]) (n := 4) (Nat.le_of_ble_eq_true rfl)
  rw [lg_entry_eq]
  generalize (lg_sl ([.ref b, .int 1]) ++ List.replicate (4 - (lg_sl ([.ref b, .int 1])).length) Slot.unset).toArray = ls at hl ⊢
  have hl : lv_has ls 4 [(0, .ref b), (1, .int 1)] := hl
  refine lv_aload_n hx hb dJx4a65c_grow_92f84_0 rfl (lv_at hl 0 rfl) ?_
  refine va_get (D := D) (ci := 5) (v := .ref dz) (C := RJx4a65c) (T := TJx4a65c) (N := 3) hx hb hts (by decide +kernel) hown hK hP 0 rfl rfl 1 (by decide) (hts (.fieldLink RJx4a65c 9 "java/util/ArrayList" "elementData" "[Ljava/lang/Object;") (by decide +kernel)) (fun _ h9 => h9) rfl dJx4a65c_grow_92f84_1 ?_
  refine va_tlen (v := 0) hx hb hm.2.1 hS rfl dJx4a65c_grow_92f84_4 ?_
  refine lv_istore_n (lv' := [(2, .int 0), (0, .ref b), (1, .int 1)]) hx hb dJx4a65c_grow_92f84_5 rfl hl (by decide) rfl (fun ls hl => ?_)
  refine lv_iload_n hx hb dJx4a65c_grow_92f84_6 rfl (lv_at hl 0 rfl) ?_
  refine lv_if_gt (tgt := 20) hx hb dJx4a65c_grow_92f84_7 (by decide) (fun c => absurd c (by decide)) (fun _ => ?_)
  refine lv_aload_n hx hb dJx4a65c_grow_92f84_10 rfl (lv_at hl 1 rfl) ?_
  refine va_get (D := D) (ci := 5) (v := .ref dz) (C := RJx4a65c) (T := TJx4a65c) (N := 3) hx hb hts (by decide +kernel) hown hK hP 0 rfl rfl 1 (by decide) (hts (.fieldLink RJx4a65c 9 "java/util/ArrayList" "elementData" "[Ljava/lang/Object;") (by decide +kernel)) (fun _ h9 => h9) rfl dJx4a65c_grow_92f84_11 ?_
  refine va_gets hx hb hm.1 hS hown (hts (.fieldLink RJx4a65c 39 "java/util/ArrayList" "DEFAULTCAPACITY_EMPTY_ELEMENTDATA" "[Ljava/lang/Object;") (by decide +kernel)) (fun _ h9 => h9) dJx4a65c_grow_92f84_14 ?_
  refine lv_acmp_eq (rx := some dz) (ry := some dz) (tgt := 45) hx hb dJx4a65c_grow_92f84_17 (by decide) (fun _ => ?_) (fun c9 => absurd rfl c9)
  refine lv_aload_n hx hb dJx4a65c_grow_92f84_45 rfl (lv_at hl 1 rfl) ?_
  refine lv_bipush (v := 10) hx hb dJx4a65c_grow_92f84_46 (by decide) ?_
  refine lv_iload_n hx hb dJx4a65c_grow_92f84_48 rfl (lv_at hl 2 rfl) ?_
  refine va_mmax hx hb (hml.trans hl.1.symm) hown (hts (.methodLink RJx4a65c 79 Lib.Math.max.name) (by decide +kernel)) (hts (.static Lib.Math.max.name) (by decide +kernel)) (hts (.initialized "java/lang/Math") (by decide +kernel)) (hts (.code Lib.Math.max.name Lib.Math.max.code 2 (some .int)) (by decide +kernel)) (Nat.le_of_ble_eq_true rfl) (Nat.le_of_ble_eq_true rfl) (Nat.le_of_ble_eq_true rfl) (Nat.le_of_ble_eq_true rfl) dJx4a65c_grow_92f84_49 ?_
  refine lv_topi (fun z1 ez1 => ?_)
  obtain rfl : z1 = 10 := ez1.trans (by decide)
  refine va_newq hx hb hown (hts (.classLink RJx4a65c 7 "java/lang/Object") (by decide +kernel)) hm.2.2.2.2.1 hK hP hD hS hA (n := 10) (N' := 10) (by decide) (by decide) (Nat.le_of_ble_eq_true rfl) (Nat.le_of_ble_eq_true rfl) (Nat.le_of_ble_eq_true rfl) dJx4a65c_grow_92f84_52 (fun q2 cA3 H hK hP hD hS => ?_)
  have hP : va_P D vwCl [(b, .inr (5, [.int md, .ref dz, .int 0])), (q2, .inl (cA3, 10, .inr (.inr (.inr (.inr (fun _ => none))))))] H := hP
  have hD : va_D A [(b, .inr (5, [.int md, .ref dz, .int 0])), (q2, .inl (cA3, 10, .inr (.inr (.inr (.inr (fun _ => none))))))] := hD
  have hK : va_K D vwCl [(cA3, .object "java/lang/Object")] s := hK
  refine W.widen (k := 1) (n := 10) (by omega) (by omega) ?_
  refine lv_dup_x1 hx hb dJx4a65c_grow_92f84_55 rfl rfl ?_
  refine va_put (D := D) (ci := 5) (v := .ref q2) (ty := .array (.object "java/lang/Object")) (C := RJx4a65c) (T := TJx4a65c) (N := 3) hx hb hts (by decide +kernel) tyJx4a65c tyJx4a65c_ok nmJx4a65c hown hK hP hD hS 0 rfl rfl 1 (by decide) (hts (.fieldLink RJx4a65c 9 "java/util/ArrayList" "elementData" "[Ljava/lang/Object;") (by decide +kernel)) (fun _ h9 => h9) rfl (by decide +kernel) rfl rfl (Nat.le_of_ble_eq_true rfl) dJx4a65c_grow_92f84_56 (fun H locs hP hD hS => ?_)
  have hP : va_P D vwCl [(b, .inr (5, [.int md, .ref q2, .int 0])), (q2, .inl (cA3, 10, .inr (.inr (.inr (.inr (fun _ => none))))))] H := hP
  have hD : va_D A [(b, .inr (5, [.int md, .ref q2, .int 0])), (q2, .inl (cA3, 10, .inr (.inr (.inr (.inr (fun _ => none))))))] := hD
  have hP9 := hP.sub (ws' := [(b, .inr (5, [.int md, .ref q2, .int 0])), (q2, .inl (cA3, 10, .inr (.inr (.inr (.inr (fun _ => none))))))]) [0, 1] rfl
  have hD9 := hD.sub (ws' := [(b, .inr (5, [.int md, .ref q2, .int 0])), (q2, .inl (cA3, 10, .inr (.inr (.inr (.inr (fun _ => none))))))]) [0, 1] (by decide) rfl
  have hK9 := hK.sub (tys' := [(cA3, .object "java/lang/Object")]) [0] rfl
  rw [← hAe] at hD9
  refine W.widen (k := 1) (n := 10) (by omega) (by omega) ?_
  subst hAe
  exact W.aret (v := .ref q2) hx hb hr (Or.inr ⟨_, rfl⟩) (Or.inr ⟨_, rfl⟩) (fun t ht9 hW => ⟨⟨some q2, (q2, cA3), rfl, rfl, ⟨by rw [ht9]; exact hP9, va_K.moved hW.alike hK9, hD9⟩⟩, hS.F ht9⟩) hS.2.2 dJx4a65c_grow_92f84_59

def zJx4a65c_grow_d5877_ws : List Cond := .code yJx4a65c_grow_d5877 cJx4a65c_grow_d5877 1 (some (.array (.object "java/lang/Object"))) :: ([.fieldLink RJx4a65c 48 "java/util/ArrayList" "size" "I", .methodLink RJx4a65c 69 yJx4a65c_grow_92f84, .instanceMethod yJx4a65c_grow_92f84, .selects RJx4a65c yJx4a65c_grow_92f84 yJx4a65c_grow_92f84, .initialized RJx4a65c] ++ (wsJx4a65c0 ++ (zJx4a65c_grow_92f84_ws ++ ([]))))
theorem zJx4a65c_grow_d5877_ws_good : zJx4a65c_grow_d5877_ws.all goodWord = true := by decide +kernel
set_option maxHeartbeats 4000000 in
set_option maxRecDepth 100000 in
/-- the first place of a list: ten -/
theorem c_grow0 (l : Launch) (hst : l.stackTraces = false) (D : va_G) (sz : Nat) (b dz : Nat) (md : Int32) : Met l yJx4a65c_grow_d5877 zJx4a65c_grow_d5877_ws (zR 1 1 10) (zPreX (zM dz) [.ref b] D [(b, .inr (5, [.int md, .ref dz, .int 0]))] [] (va_A [(b, .inr (5, [.int md, .ref dz, .int 0]))] sz) sz) (va_Qq (S := Nat × Nat) (fun r u => r = some u.1) (fun u t => zAt D [(b, .inr (5, [.int md, .ref u.1, .int 0])), (u.1, .inl (u.2, 10, .inr (.inr (.inr (.inr (fun _ => none))))))] [(u.2, .object "java/lang/Object")] (va_A [(b, .inr (5, [.int md, .ref dz, .int 0]))] sz) t) (va_A [(b, .inr (5, [.int md, .ref dz, .int 0]))] sz)) 1 10 (va_A [(b, .inr (5, [.int md, .ref dz, .int 0]))] sz) := by
  refine Met.ofW (cc := cJx4a65c_grow_d5877) (maxL := 1) (ret := (some (.array (.object "java/lang/Object")))) (by decide) rfl ?_
  intro p e s m args below meth c s₁ B hml hv
  obtain ⟨rfl, hsz, hP, hK, hD0, hz, hm⟩ := hv
  have hx := B.exec
  have hb := B.bytes
  have hr := B.returns
  have hts := atoms_spec (ws := zJx4a65c_grow_d5877_ws) B.pre
  have hown : s.vm.findClass RJx4a65c = some m.cls := findClass_of_methodNamed B.named
  have hlocks := B.notSynchronized
  subst hsz
  have hD := hD0.self (sz := s.heap.size)
  generalize hAe : va_A [(b, .inr (5, [.int md, .ref dz, .int 0]))] s.heap.size = A at hD hz hm ⊢
  have hA : ∀ q : Nat, s.heap.size ≤ q → A q := fun q h => by rw [← hAe]; exact Or.inr h
  have hS : va_S A s.heap s.heap [] := va_S.rf
  have hP : va_P D vwCl [(b, .inr (5, [.int md, .ref dz, .int 0]))] s.heap := hP
  have hl := lv_entry ([.ref b]) (n := 1) (Nat.le_of_ble_eq_true rfl)
  rw [lg_entry_eq]
  generalize (lg_sl ([.ref b]) ++ List.replicate (1 - (lg_sl ([.ref b])).length) Slot.unset).toArray = ls at hl ⊢
  have hl : lv_has ls 1 [(0, .ref b)] := hl
  refine lv_aload_n hx hb dJx4a65c_grow_d5877_0 rfl (lv_at hl 0 rfl) ?_
  refine lv_aload_n hx hb dJx4a65c_grow_d5877_1 rfl (lv_at hl 0 rfl) ?_
  refine va_get (D := D) (ci := 5) (v := .int 0) (C := RJx4a65c) (T := TJx4a65c) (N := 3) hx hb hts (by decide +kernel) hown hK hP 0 rfl rfl 2 (by decide) (hts (.fieldLink RJx4a65c 48 "java/util/ArrayList" "size" "I") (by decide +kernel)) (fun _ h9 => h9) rfl dJx4a65c_grow_d5877_2 ?_
  refine lv_iconst (v := 1) hx hb dJx4a65c_grow_d5877_5 (by decide) ?_
  refine lv_iadd hx hb dJx4a65c_grow_d5877_6 ?_
  refine lv_topi (fun z1 ez1 => ?_)
  obtain rfl : z1 = 1 := ez1.trans (by decide)
  have hPc := hP.sub (ws' := [(b, .inr (5, [.int md, .ref dz, .int 0]))]) [0] rfl
  have hDc := hD.sub (ws' := [(b, .inr (5, [.int md, .ref dz, .int 0]))]) [0] (by decide) rfl
  have hKc := hK.sub (tys' := []) [] rfl
  have hFc := va_free (wc := [(b, .inr (5, [.int md, .ref dz, .int 0]))]) hD hS hA [0] rfl
  refine va_callq (va_runV (As := [.int 1]) (rest := []) ⟨hx, hb, hml, hown, hts⟩ (c_grow1 l hst D s.heap.size b dz md) (cwV 1 hts (goodIn_app (goodIn_of _ (by decide +kernel)) (goodIn_sub (fun _ h => List.mem_cons_of_mem _ (List.mem_append_right _ (List.mem_append_right _ (List.mem_append_left _ h)))) zJx4a65c_grow_92f84_ws_good)) rfl rfl rfl (by decide +kernel) ⟨Nat.le_of_ble_eq_true rfl, Nat.le_of_ble_eq_true rfl⟩) ⟨zPreX.blind (zM_ok dz), va_recv hKc hPc (ci := 5) (q0 := 0) rfl rfl, zPreX.mk (zM_ok dz) (hm) hPc hKc hDc hz hS (fun q h => hFc q h)⟩ rfl rfl hl.1 rfl (lv_room (Nat.le_of_ble_eq_true rfl)) dJx4a65c_grow_d5877_7 ⟨Nat.le_of_ble_eq_true rfl, Nat.le_of_ble_eq_true rfl⟩) hS (fun q _ h => hFc q h) (fun q h => hFc q h) (fun r9 u t H1 locs ht9 hvm hw hB hz1 hk1 hS => ?_)
  refine W.widen (k := 1) (n := 10) (by omega) (by omega) ?_
  obtain ⟨g2, cg2⟩ := u
  obtain ⟨hP1, hK1, hD1⟩ := hB
  rw [ht9] at hP1
  have hK1 := va_K.moved hvm.symm hK1
  obtain ⟨hP, hD⟩ := va_join (wr := []) (w1 := [(b, .inr (5, [.int md, .ref g2, .int 0])), (g2, .inl (cg2, 10, .inr (.inr (.inr (.inr (fun _ => none))))))]) hP hD [0] [] rfl rfl (by decide) (by decide) hk1 hFc hP1 hD1
  have hK := (hK.sub (tys' := []) [] rfl).app hK1
  generalize H1 = H at hP hS ⊢
  have hP : va_P D vwCl [(b, .inr (5, [.int md, .ref g2, .int 0])), (g2, .inl (cg2, 10, .inr (.inr (.inr (.inr (fun _ => none))))))] H := hP
  have hD : va_D A [(b, .inr (5, [.int md, .ref g2, .int 0])), (g2, .inl (cg2, 10, .inr (.inr (.inr (.inr (fun _ => none))))))] := hD
  have hK : va_K D vwCl [(cg2, .object "java/lang/Object")] s := hK
  subst hw
  have hP9 := hP.sub (ws' := [(b, .inr (5, [.int md, .ref g2, .int 0])), (g2, .inl (cg2, 10, .inr (.inr (.inr (.inr (fun _ => none))))))]) [0, 1] rfl
  have hD9 := hD.sub (ws' := [(b, .inr (5, [.int md, .ref g2, .int 0])), (g2, .inl (cg2, 10, .inr (.inr (.inr (.inr (fun _ => none))))))]) [0, 1] (by decide) rfl
  have hK9 := hK.sub (tys' := [(cg2, .object "java/lang/Object")]) [0] rfl
  rw [← hAe] at hD9
  refine W.widen (k := 1) (n := 10) (by omega) (by omega) ?_
  subst hAe
  exact W.aret (v := .ref g2) hx hb hr (Or.inr ⟨_, rfl⟩) (Or.inr ⟨_, rfl⟩) (fun t ht9 hW => ⟨⟨some g2, (g2, cg2), rfl, rfl, ⟨by rw [ht9]; exact hP9, va_K.moved hW.alike hK9, hD9⟩⟩, hS.F ht9⟩) hS.2.2 dJx4a65c_grow_d5877_10

def zJx4a65c_add_72be8_const : List Cond := .code yJx4a65c_add_72be8 cJx4a65c_add_72be8 4 none :: ([.methodLink RJx4a65c 129 yJx4a65c_grow_d5877, .instanceMethod yJx4a65c_grow_d5877, .selects RJx4a65c yJx4a65c_grow_d5877 yJx4a65c_grow_d5877, .initialized RJx4a65c, .fieldLink RJx4a65c 48 "java/util/ArrayList" "size" "I"] ++ (zJx4a65c_grow_d5877_ws ++ (wsJx4a65c0 ++ ([]))))
theorem zJx4a65c_add_72be8_const_good : zJx4a65c_add_72be8_const.all goodWord = true := by decide +kernel
set_option maxHeartbeats 4000000 in
set_option maxRecDepth 100000 in
/-- the first thing of a list -/
theorem c_addAt_const (l : Launch) (hst : l.stackTraces = false) (D : va_G) (sz : Nat) (b dz : Nat) (C : String) (y : Nat) (hC : Cond.castable C "java/lang/Object" ∈ zWordsM) : Met l yJx4a65c_add_72be8 zJx4a65c_add_72be8_const (zR 2 1 10) (zPreX (zE dz C y) [.ref b, .ref y, .ref dz, .int 0] D [(b, .inr (5, [.int 1, .ref dz, .int 0]))] [] (va_A [(b, .inr (5, [.int 1, .ref dz, .int 0]))] sz) sz) (va_Qv (S := Unit) (fun _ => True) (fun _ t => ∃ (e0 : Nat), zAt D [(b, .inr (5, [.int 1, .ref e0, .int 1]))] [] (va_A [(b, .inr (5, [.int 1, .ref dz, .int 0]))] sz) t) (va_A [(b, .inr (5, [.int 1, .ref dz, .int 0]))] sz)) 1 10 (va_A [(b, .inr (5, [.int 1, .ref dz, .int 0]))] sz) := by
  refine Met.ofW (cc := cJx4a65c_add_72be8) (maxL := 4) (ret := none) (by decide) rfl ?_
  intro p e s m args below meth c s₁ B hml hv
  obtain ⟨rfl, hsz, hP, hK, hD0, hz, hm⟩ := hv
  have hx := B.exec
  have hb := B.bytes
  have hr := B.returns
  have hts := atoms_spec (ws := zJx4a65c_add_72be8_const) B.pre
  have hown : s.vm.findClass RJx4a65c = some m.cls := findClass_of_methodNamed B.named
  have hlocks := B.notSynchronized
  subst hsz
  have hD := hD0.self (sz := s.heap.size)
  generalize hAe : va_A [(b, .inr (5, [.int 1, .ref dz, .int 0]))] s.heap.size = A at hD hz hm ⊢
  have hA : ∀ q : Nat, s.heap.size ≤ q → A q := fun q h => by rw [← hAe]; exact Or.inr h
  have hS : va_S A s.heap s.heap [] := va_S.rf
  have hP : va_P D vwCl [(b, .inr (5, [.int 1, .ref dz, .int 0]))] s.heap := hP
  have hl := lv_entry ([.ref b, .ref y, .ref dz, .int 0]) (n := 4) (Nat.le_of_ble_eq_true rfl)
  rw [lg_entry_eq]
  generalize (lg_sl ([.ref b, .ref y, .ref dz, .int 0]) ++ List.replicate (4 - (lg_sl ([.ref b, .ref y, .ref dz, .int 0])).length) Slot.unset).toArray = ls at hl ⊢
  have hl : lv_has ls 4 [(0, .ref b), (1, .ref y), (2, .ref dz), (3, .int 0)] := hl
  refine lv_iload_n hx hb dJx4a65c_add_72be8_0 rfl (lv_at hl 3 rfl) ?_
  refine lv_aload_n hx hb dJx4a65c_add_72be8_1 rfl (lv_at hl 2 rfl) ?_
  refine va_tlen (v := 0) hx hb hm.1.2.1 hS rfl dJx4a65c_add_72be8_2 ?_
  refine lv_icmp_ne (tgt := 11) hx hb dJx4a65c_add_72be8_3 (by decide) (fun c => absurd (by decide) c) (fun _ => ?_)
  refine lv_aload_n hx hb dJx4a65c_add_72be8_6 rfl (lv_at hl 0 rfl) ?_
  have hPc := hP.sub (ws' := [(b, .inr (5, [.int 1, .ref dz, .int 0]))]) [0] rfl
  have hDc := hD.sub (ws' := [(b, .inr (5, [.int 1, .ref dz, .int 0]))]) [0] (by decide) rfl
  have hKc := hK.sub (tys' := []) [] rfl
  have hFc := va_free (wc := [(b, .inr (5, [.int 1, .ref dz, .int 0]))]) hD hS hA [0] rfl
  refine va_callq (va_runV (As := []) (rest := []) ⟨hx, hb, hml, hown, hts⟩ (c_grow0 l hst D s.heap.size b dz 1) (cwV 0 hts (goodIn_app (goodIn_of _ (by decide +kernel)) (goodIn_sub (fun _ h => List.mem_cons_of_mem _ (List.mem_append_right _ (List.mem_append_left _ h))) zJx4a65c_grow_d5877_ws_good)) rfl rfl rfl (by decide +kernel) ⟨Nat.le_of_ble_eq_true rfl, Nat.le_of_ble_eq_true rfl⟩) ⟨zPreX.blind (zM_ok dz), va_recv hKc hPc (ci := 5) (q0 := 0) rfl rfl, zPreX.mk (zM_ok dz) (hm.1) hPc hKc hDc hz hS (fun q h => hFc q h)⟩ rfl rfl hl.1 rfl (lv_room (Nat.le_of_ble_eq_true rfl)) dJx4a65c_add_72be8_7 ⟨Nat.le_of_ble_eq_true rfl, Nat.le_of_ble_eq_true rfl⟩) hS (fun q _ h => hFc q h) (fun q h => hFc q h) (fun r9 u t H1 locs ht9 hvm hw hB hz1 hk1 hS => ?_)
  refine W.widen (k := 1) (n := 10) (by omega) (by omega) ?_
  obtain ⟨g1, cg1⟩ := u
  obtain ⟨hP1, hK1, hD1⟩ := hB
  rw [ht9] at hP1
  have hK1 := va_K.moved hvm.symm hK1
  obtain ⟨hP, hD⟩ := va_join (wr := []) (w1 := [(b, .inr (5, [.int 1, .ref g1, .int 0])), (g1, .inl (cg1, 10, .inr (.inr (.inr (.inr (fun _ => none))))))]) hP hD [0] [] rfl rfl (by decide) (by decide) hk1 hFc hP1 hD1
  have hK := (hK.sub (tys' := []) [] rfl).app hK1
  generalize H1 = H at hP hS ⊢
  have hP : va_P D vwCl [(b, .inr (5, [.int 1, .ref g1, .int 0])), (g1, .inl (cg1, 10, .inr (.inr (.inr (.inr (fun _ => none))))))] H := hP
  have hD : va_D A [(b, .inr (5, [.int 1, .ref g1, .int 0])), (g1, .inl (cg1, 10, .inr (.inr (.inr (.inr (fun _ => none))))))] := hD
  have hK : va_K D vwCl [(cg1, .object "java/lang/Object")] s := hK
  subst hw
  refine lv_astore_n (lv' := [(2, .ref g1), (0, .ref b), (1, .ref y), (3, .int 0)]) hx hb dJx4a65c_add_72be8_10 rfl hl (by decide) rfl (fun ls hl => ?_)
  refine lv_aload_n hx hb dJx4a65c_add_72be8_11 rfl (lv_at hl 0 rfl) ?_
  refine lv_iload_n hx hb dJx4a65c_add_72be8_12 rfl (lv_at hl 3 rfl) ?_
  refine lv_aload_n hx hb dJx4a65c_add_72be8_13 rfl (lv_at hl 2 rfl) ?_
  obtain ⟨ce8, u81, u82, u83, -⟩ := hm.2.kept hS.2.1
  refine vb_astq hx hb hK hP hD hS 1 0 rfl rfl ⟨ce8, u81, u82, u83⟩ (vb_asgC (zM.w hm.1 (.castable C "java/lang/Object") hC)) (show vp_in 0 10 by unfold vp_in; decide) dJx4a65c_add_72be8_14 (fun H locs hP hD hS => ?_)
  have hP : va_P D vwCl [(b, .inr (5, [.int 1, .ref g1, .int 0])), (g1, .inl (cg1, 10, .inr (.inr (.inr (.inr (va_up (fun _ => none) (0 : Int32).toNatClampNeg (some y)))))))] H := hP
  have hD : va_D A [(b, .inr (5, [.int 1, .ref g1, .int 0])), (g1, .inl (cg1, 10, .inr (.inr (.inr (.inr (va_up (fun _ => none) (0 : Int32).toNatClampNeg (some y)))))))] := hD
  refine lv_aload_n hx hb dJx4a65c_add_72be8_15 rfl (lv_at hl 1 rfl) ?_
  refine lv_iload_n hx hb dJx4a65c_add_72be8_16 rfl (lv_at hl 3 rfl) ?_
  refine lv_iconst (v := 1) hx hb dJx4a65c_add_72be8_17 (by decide) ?_
  refine lv_iadd hx hb dJx4a65c_add_72be8_18 ?_
  refine lv_topi (fun z2 ez2 => ?_)
  obtain rfl : z2 = 1 := ez2.trans (by decide)
  refine va_put (D := D) (ci := 5) (v := .int 1) (ty := .int) (C := RJx4a65c) (T := TJx4a65c) (N := 3) hx hb hts (by decide +kernel) tyJx4a65c tyJx4a65c_ok nmJx4a65c hown hK hP hD hS 0 rfl rfl 2 (by decide) (hts (.fieldLink RJx4a65c 48 "java/util/ArrayList" "size" "I") (by decide +kernel)) (fun _ h9 => h9) rfl (by decide +kernel) rfl rfl (Nat.le_of_ble_eq_true rfl) dJx4a65c_add_72be8_19 (fun H locs hP hD hS => ?_)
  have hP : va_P D vwCl [(b, .inr (5, [.int 1, .ref g1, .int 1])), (g1, .inl (cg1, 10, .inr (.inr (.inr (.inr (va_up (fun _ => none) (0 : Int32).toNatClampNeg (some y)))))))] H := hP
  have hD : va_D A [(b, .inr (5, [.int 1, .ref g1, .int 1])), (g1, .inl (cg1, 10, .inr (.inr (.inr (.inr (va_up (fun _ => none) (0 : Int32).toNatClampNeg (some y)))))))] := hD
  have hP9 := hP.sub (ws' := [(b, .inr (5, [.int 1, .ref g1, .int 1]))]) [0] rfl
  have hD9 := hD.sub (ws' := [(b, .inr (5, [.int 1, .ref g1, .int 1]))]) [0] (by decide) rfl
  have hK9 := hK.sub (tys' := []) [] rfl
  rw [← hAe] at hD9
  refine W.widen (k := 1) (n := 10) (by omega) (by omega) ?_
  subst hAe
  exact W.vret hx hb hr (fun t ht9 hW => ⟨⟨(), rfl, trivial, ⟨g1, by rw [ht9]; exact hP9, va_K.moved hW.alike hK9, hD9⟩⟩, hS.F ht9⟩) hS.2.2 dJx4a65c_add_72be8_22

def zJx4a65c_add_9ea2d_const : List Cond := .code yJx4a65c_add_9ea2d cJx4a65c_add_9ea2d 2 (some .boolean) :: ([.fieldLink RJx4a65c 63 "java/util/ArrayList" "modCount" "I", .sameField "java/util/ArrayList" "java/util/AbstractList" "modCount" "I", .fieldLink RJx4a65c 9 "java/util/ArrayList" "elementData" "[Ljava/lang/Object;", .fieldLink RJx4a65c 48 "java/util/ArrayList" "size" "I", .methodLink RJx4a65c 131 yJx4a65c_add_72be8, .instanceMethod yJx4a65c_add_72be8, .selects RJx4a65c yJx4a65c_add_72be8 yJx4a65c_add_72be8, .initialized RJx4a65c] ++ (wsJx4a65c0 ++ (zJx4a65c_add_72be8_const ++ ([]))))
theorem zJx4a65c_add_9ea2d_const_good : zJx4a65c_add_9ea2d_const.all goodWord = true := by decide +kernel
set_option maxHeartbeats 4000000 in
set_option maxRecDepth 100000 in
/-- the first thing of a list -/
theorem c_add_const (l : Launch) (hst : l.stackTraces = false) (D : va_G) (sz : Nat) (b dz : Nat) (C : String) (y : Nat) (hC : Cond.castable C "java/lang/Object" ∈ zWordsM) : Met l yJx4a65c_add_9ea2d zJx4a65c_add_9ea2d_const (zR 3 1 10) (zPreX (zE dz C y) [.ref b, .ref y] D [(b, .inr (5, [.int 0, .ref dz, .int 0]))] [] (va_A [(b, .inr (5, [.int 0, .ref dz, .int 0]))] sz) sz) (va_Qi (S := Unit) (fun r _ => r = 1) (fun _ t => ∃ (e0 : Nat), zAt D [(b, .inr (5, [.int 1, .ref e0, .int 1]))] [] (va_A [(b, .inr (5, [.int 0, .ref dz, .int 0]))] sz) t) (va_A [(b, .inr (5, [.int 0, .ref dz, .int 0]))] sz)) 1 10 (va_A [(b, .inr (5, [.int 0, .ref dz, .int 0]))] sz) := by
  refine Met.ofW (cc := cJx4a65c_add_9ea2d) (maxL := 2) (ret := (some .boolean)) (by decide) rfl ?_
  intro p e s m args below meth c s₁ B hml hv
  obtain ⟨rfl, hsz, hP, hK, hD0, hz, hm⟩ := hv
  have hx := B.exec
  have hb := B.bytes
  have hr := B.returns
  have hts := atoms_spec (ws := zJx4a65c_add_9ea2d_const) B.pre
  have hown : s.vm.findClass RJx4a65c = some m.cls := findClass_of_methodNamed B.named
  have hlocks := B.notSynchronized
  subst hsz
  have hD := hD0.self (sz := s.heap.size)
  generalize hAe : va_A [(b, .inr (5, [.int 0, .ref dz, .int 0]))] s.heap.size = A at hD hz hm ⊢
  have hA : ∀ q : Nat, s.heap.size ≤ q → A q := fun q h => by rw [← hAe]; exact Or.inr h
  have hS : va_S A s.heap s.heap [] := va_S.rf
  have hP : va_P D vwCl [(b, .inr (5, [.int 0, .ref dz, .int 0]))] s.heap := hP
  have hl := lv_entry ([.ref b, .ref y]) (n := 2) (Nat.le_of_ble_eq_true rfl)
  rw [lg_entry_eq]
  generalize (lg_sl ([.ref b, .ref y]) ++ List.replicate (2 - (lg_sl ([.ref b, .ref y])).length) Slot.unset).toArray = ls at hl ⊢
  have hl : lv_has ls 2 [(0, .ref b), (1, .ref y)] := hl
  refine lv_aload_n hx hb dJx4a65c_add_9ea2d_0 rfl (lv_at hl 0 rfl) ?_
  refine lv_dup hx hb dJx4a65c_add_9ea2d_1 rfl ?_
  refine va_get (D := D) (ci := 5) (v := .int 0) (C := RJx4a65c) (T := TJx4a65c) (N := 3) hx hb hts (by decide +kernel) hown hK hP 0 rfl rfl 0 (by decide) (hts (.fieldLink RJx4a65c 63 "java/util/ArrayList" "modCount" "I") (by decide +kernel)) (fun x9 h9 => u_same (hts (.sameField "java/util/ArrayList" "java/util/AbstractList" "modCount" "I") (by decide +kernel)) x9 h9) rfl dJx4a65c_add_9ea2d_2 ?_
  refine lv_iconst (v := 1) hx hb dJx4a65c_add_9ea2d_5 (by decide) ?_
  refine lv_iadd hx hb dJx4a65c_add_9ea2d_6 ?_
  refine lv_topi (fun z1 ez1 => ?_)
  obtain rfl : z1 = 1 := ez1.trans (by decide)
  refine va_put (D := D) (ci := 5) (v := .int 1) (ty := .int) (C := RJx4a65c) (T := TJx4a65c) (N := 3) hx hb hts (by decide +kernel) tyJx4a65c tyJx4a65c_ok nmJx4a65c hown hK hP hD hS 0 rfl rfl 0 (by decide) (hts (.fieldLink RJx4a65c 63 "java/util/ArrayList" "modCount" "I") (by decide +kernel)) (fun x9 h9 => u_same (hts (.sameField "java/util/ArrayList" "java/util/AbstractList" "modCount" "I") (by decide +kernel)) x9 h9) rfl (by decide +kernel) rfl rfl (Nat.le_of_ble_eq_true rfl) dJx4a65c_add_9ea2d_7 (fun H locs hP hD hS => ?_)
  have hP : va_P D vwCl [(b, .inr (5, [.int 1, .ref dz, .int 0]))] H := hP
  have hD : va_D A [(b, .inr (5, [.int 1, .ref dz, .int 0]))] := hD
  refine lv_aload_n hx hb dJx4a65c_add_9ea2d_10 rfl (lv_at hl 0 rfl) ?_
  refine lv_aload_n hx hb dJx4a65c_add_9ea2d_11 rfl (lv_at hl 1 rfl) ?_
  refine lv_aload_n hx hb dJx4a65c_add_9ea2d_12 rfl (lv_at hl 0 rfl) ?_
  refine va_get (D := D) (ci := 5) (v := .ref dz) (C := RJx4a65c) (T := TJx4a65c) (N := 3) hx hb hts (by decide +kernel) hown hK hP 0 rfl rfl 1 (by decide) (hts (.fieldLink RJx4a65c 9 "java/util/ArrayList" "elementData" "[Ljava/lang/Object;") (by decide +kernel)) (fun _ h9 => h9) rfl dJx4a65c_add_9ea2d_13 ?_
  refine lv_aload_n hx hb dJx4a65c_add_9ea2d_16 rfl (lv_at hl 0 rfl) ?_
  refine va_get (D := D) (ci := 5) (v := .int 0) (C := RJx4a65c) (T := TJx4a65c) (N := 3) hx hb hts (by decide +kernel) hown hK hP 0 rfl rfl 2 (by decide) (hts (.fieldLink RJx4a65c 48 "java/util/ArrayList" "size" "I") (by decide +kernel)) (fun _ h9 => h9) rfl dJx4a65c_add_9ea2d_17 ?_
  have hPc := hP.sub (ws' := [(b, .inr (5, [.int 1, .ref dz, .int 0]))]) [0] rfl
  have hDc := hD.sub (ws' := [(b, .inr (5, [.int 1, .ref dz, .int 0]))]) [0] (by decide) rfl
  have hKc := hK.sub (tys' := []) [] rfl
  have hFc := va_free (wc := [(b, .inr (5, [.int 1, .ref dz, .int 0]))]) hD hS hA [0] rfl
  refine va_callv (va_runV (As := [.ref y, .ref dz, .int 0]) (rest := []) ⟨hx, hb, hml, hown, hts⟩ (c_addAt_const l hst D H.size b dz C y hC) (cwV 3 hts (goodIn_app (goodIn_of _ (by decide +kernel)) (goodIn_sub (fun _ h => List.mem_cons_of_mem _ (List.mem_append_right _ (List.mem_append_right _ (List.mem_append_left _ h)))) zJx4a65c_add_72be8_const_good)) rfl rfl rfl (by decide +kernel) ⟨Nat.le_of_ble_eq_true rfl, Nat.le_of_ble_eq_true rfl⟩) ⟨zPreX.blind (zE_ok dz C y), va_recv hKc hPc (ci := 5) (q0 := 0) rfl rfl, zPreX.mk (zE_ok dz C y) (hm) hPc hKc hDc hz hS (fun q h => hFc q h)⟩ rfl rfl hl.1 rfl (lv_room (Nat.le_of_ble_eq_true rfl)) dJx4a65c_add_9ea2d_20 ⟨Nat.le_of_ble_eq_true rfl, Nat.le_of_ble_eq_true rfl⟩) hS (fun q _ h => hFc q h) (fun q h => hFc q h) (fun u t H1 locs ht9 hvm hw hB hz1 hk1 hS => ?_)
  refine W.widen (k := 1) (n := 10) (by omega) (by omega) ?_
  obtain ⟨n2, hP1, hK1, hD1⟩ := hB
  rw [ht9] at hP1
  have hK1 := va_K.moved hvm.symm hK1
  obtain ⟨hP, hD⟩ := va_join (wr := []) (w1 := [(b, .inr (5, [.int 1, .ref n2, .int 1]))]) hP hD [0] [] rfl rfl (by decide) (by decide) hk1 hFc hP1 hD1
  have hK := (hK.sub (tys' := []) [] rfl).app hK1
  generalize H1 = H at hP hS ⊢
  have hP : va_P D vwCl [(b, .inr (5, [.int 1, .ref n2, .int 1]))] H := hP
  have hD : va_D A [(b, .inr (5, [.int 1, .ref n2, .int 1]))] := hD
  have hK : va_K D vwCl [] s := hK
  refine lv_iconst (v := 1) hx hb dJx4a65c_add_9ea2d_23 (by decide) ?_
  have hP9 := hP.sub (ws' := [(b, .inr (5, [.int 1, .ref n2, .int 1]))]) [0] rfl
  have hD9 := hD.sub (ws' := [(b, .inr (5, [.int 1, .ref n2, .int 1]))]) [0] (by decide) rfl
  have hK9 := hK.sub (tys' := []) [] rfl
  rw [← hAe] at hD9
  refine W.widen (k := 1) (n := 10) (by omega) (by omega) ?_
  subst hAe
  exact W.zret (v := 1) hx hb hr rfl (fun t ht9 hW => ⟨⟨1, (), rfl, rfl, ⟨n2, by rw [ht9]; exact hP9, va_K.moved hW.alike hK9, hD9⟩⟩, hS.F ht9⟩) hS.2.2 dJx4a65c_add_9ea2d_24

def zJx4a65c_add_72be8_event : List Cond := .code yJx4a65c_add_72be8 cJx4a65c_add_72be8 4 none :: ([.methodLink RJx4a65c 129 yJx4a65c_grow_d5877, .instanceMethod yJx4a65c_grow_d5877, .selects RJx4a65c yJx4a65c_grow_d5877 yJx4a65c_grow_d5877, .initialized RJx4a65c, .fieldLink RJx4a65c 48 "java/util/ArrayList" "size" "I"] ++ (zJx4a65c_grow_d5877_ws ++ (wsJx4a65c0 ++ ([]))))
theorem zJx4a65c_add_72be8_event_good : zJx4a65c_add_72be8_event.all goodWord = true := by decide +kernel
set_option maxHeartbeats 4000000 in
set_option maxRecDepth 100000 in
/-- the first thing of a list -/
theorem c_addAt_event (l : Launch) (hst : l.stackTraces = false) (D : va_G) (sz : Nat) (b dz : Nat) (y : Nat) (fs : List Value) : Met l yJx4a65c_add_72be8 zJx4a65c_add_72be8_event (zR 2 1 10) (zPreX (zM dz) [.ref b, .ref y, .ref dz, .int 0] D [(b, .inr (5, [.int 1, .ref dz, .int 0])), (y, .inr (19, fs))] [] (va_A [(b, .inr (5, [.int 1, .ref dz, .int 0])), (y, .inr (19, fs))] sz) sz) (va_Qv (S := Unit) (fun _ => True) (fun _ t => ∃ (e0 : Nat), zAt D [(b, .inr (5, [.int 1, .ref e0, .int 1]))] [] (va_A [(b, .inr (5, [.int 1, .ref dz, .int 0])), (y, .inr (19, fs))] sz) t) (va_A [(b, .inr (5, [.int 1, .ref dz, .int 0])), (y, .inr (19, fs))] sz)) 1 10 (va_A [(b, .inr (5, [.int 1, .ref dz, .int 0])), (y, .inr (19, fs))] sz) := by
  refine Met.ofW (cc := cJx4a65c_add_72be8) (maxL := 4) (ret := none) (by decide) rfl ?_
  intro p e s m args below meth c s₁ B hml hv
  obtain ⟨rfl, hsz, hP, hK, hD0, hz, hm⟩ := hv
  have hx := B.exec
  have hb := B.bytes
  have hr := B.returns
  have hts := atoms_spec (ws := zJx4a65c_add_72be8_event) B.pre
  have hown : s.vm.findClass RJx4a65c = some m.cls := findClass_of_methodNamed B.named
  have hlocks := B.notSynchronized
  subst hsz
  have hD := hD0.self (sz := s.heap.size)
  generalize hAe : va_A [(b, .inr (5, [.int 1, .ref dz, .int 0])), (y, .inr (19, fs))] s.heap.size = A at hD hz hm ⊢
  have hA : ∀ q : Nat, s.heap.size ≤ q → A q := fun q h => by rw [← hAe]; exact Or.inr h
  have hS : va_S A s.heap s.heap [] := va_S.rf
  have hP : va_P D vwCl [(b, .inr (5, [.int 1, .ref dz, .int 0])), (y, .inr (19, fs))] s.heap := hP
  have hl := lv_entry ([.ref b, .ref y, .ref dz, .int 0]) (n := 4) (Nat.le_of_ble_eq_true rfl)
  rw [lg_entry_eq]
  generalize (lg_sl ([.ref b, .ref y, .ref dz, .int 0]) ++ List.replicate (4 - (lg_sl ([.ref b, .ref y, .ref dz, .int 0])).length) Slot.unset).toArray = ls at hl ⊢
  have hl : lv_has ls 4 [(0, .ref b), (1, .ref y), (2, .ref dz), (3, .int 0)] := hl
  refine lv_iload_n hx hb dJx4a65c_add_72be8_0 rfl (lv_at hl 3 rfl) ?_
  refine lv_aload_n hx hb dJx4a65c_add_72be8_1 rfl (lv_at hl 2 rfl) ?_
  refine va_tlen (v := 0) hx hb hm.2.1 hS rfl dJx4a65c_add_72be8_2 ?_
  refine lv_icmp_ne (tgt := 11) hx hb dJx4a65c_add_72be8_3 (by decide) (fun c => absurd (by decide) c) (fun _ => ?_)
  refine lv_aload_n hx hb dJx4a65c_add_72be8_6 rfl (lv_at hl 0 rfl) ?_
  have hPc := hP.sub (ws' := [(b, .inr (5, [.int 1, .ref dz, .int 0]))]) [0] rfl
  have hDc := hD.sub (ws' := [(b, .inr (5, [.int 1, .ref dz, .int 0]))]) [0] (by decide) rfl
  have hKc := hK.sub (tys' := []) [] rfl
  have hFc := va_free (wc := [(b, .inr (5, [.int 1, .ref dz, .int 0]))]) hD hS hA [0] rfl
  refine va_callq (va_runV (As := []) (rest := []) ⟨hx, hb, hml, hown, hts⟩ (c_grow0 l hst D s.heap.size b dz 1) (cwV 0 hts (goodIn_app (goodIn_of _ (by decide +kernel)) (goodIn_sub (fun _ h => List.mem_cons_of_mem _ (List.mem_append_right _ (List.mem_append_left _ h))) zJx4a65c_grow_d5877_ws_good)) rfl rfl rfl (by decide +kernel) ⟨Nat.le_of_ble_eq_true rfl, Nat.le_of_ble_eq_true rfl⟩) ⟨zPreX.blind (zM_ok dz), va_recv hKc hPc (ci := 5) (q0 := 0) rfl rfl, zPreX.mk (zM_ok dz) (hm) hPc hKc hDc hz hS (fun q h => hFc q h)⟩ rfl rfl hl.1 rfl (lv_room (Nat.le_of_ble_eq_true rfl)) dJx4a65c_add_72be8_7 ⟨Nat.le_of_ble_eq_true rfl, Nat.le_of_ble_eq_true rfl⟩) hS (fun q _ h => hFc q h) (fun q h => hFc q h) (fun r9 u t H1 locs ht9 hvm hw hB hz1 hk1 hS => ?_)
  refine W.widen (k := 1) (n := 10) (by omega) (by omega) ?_
  obtain ⟨g1, cg1⟩ := u
  obtain ⟨hP1, hK1, hD1⟩ := hB
  rw [ht9] at hP1
  have hK1 := va_K.moved hvm.symm hK1
  obtain ⟨hP, hD⟩ := va_join (wr := [(y, .inr (19, fs))]) (w1 := [(b, .inr (5, [.int 1, .ref g1, .int 0])), (g1, .inl (cg1, 10, .inr (.inr (.inr (.inr (fun _ => none))))))]) hP hD [0] [1] rfl rfl (by decide) (by decide) hk1 hFc hP1 hD1
  have hK := (hK.sub (tys' := []) [] rfl).app hK1
  generalize H1 = H at hP hS ⊢
  have hP : va_P D vwCl [(y, .inr (19, fs)), (b, .inr (5, [.int 1, .ref g1, .int 0])), (g1, .inl (cg1, 10, .inr (.inr (.inr (.inr (fun _ => none))))))] H := hP
  have hD : va_D A [(y, .inr (19, fs)), (b, .inr (5, [.int 1, .ref g1, .int 0])), (g1, .inl (cg1, 10, .inr (.inr (.inr (.inr (fun _ => none))))))] := hD
  have hK : va_K D vwCl [(cg1, .object "java/lang/Object")] s := hK
  subst hw
  refine lv_astore_n (lv' := [(2, .ref g1), (0, .ref b), (1, .ref y), (3, .int 0)]) hx hb dJx4a65c_add_72be8_10 rfl hl (by decide) rfl (fun ls hl => ?_)
  refine lv_aload_n hx hb dJx4a65c_add_72be8_11 rfl (lv_at hl 0 rfl) ?_
  refine lv_iload_n hx hb dJx4a65c_add_72be8_12 rfl (lv_at hl 3 rfl) ?_
  refine lv_aload_n hx hb dJx4a65c_add_72be8_13 rfl (lv_at hl 2 rfl) ?_
  refine vb_astq hx hb hK hP hD hS 2 0 rfl rfl (va_recv hK hP (ci := 19) (q0 := 0) rfl rfl) (vb_asgC (zM.w hm (.castable RX13 "java/lang/Object") (by decide +kernel))) (show vp_in 0 10 by unfold vp_in; decide) dJx4a65c_add_72be8_14 (fun H locs hP hD hS => ?_)
  have hP : va_P D vwCl [(y, .inr (19, fs)), (b, .inr (5, [.int 1, .ref g1, .int 0])), (g1, .inl (cg1, 10, .inr (.inr (.inr (.inr (va_up (fun _ => none) (0 : Int32).toNatClampNeg (some y)))))))] H := hP
  have hD : va_D A [(y, .inr (19, fs)), (b, .inr (5, [.int 1, .ref g1, .int 0])), (g1, .inl (cg1, 10, .inr (.inr (.inr (.inr (va_up (fun _ => none) (0 : Int32).toNatClampNeg (some y)))))))] := hD
  refine lv_aload_n hx hb dJx4a65c_add_72be8_15 rfl (lv_at hl 1 rfl) ?_
  refine lv_iload_n hx hb dJx4a65c_add_72be8_16 rfl (lv_at hl 3 rfl) ?_
  refine lv_iconst (v := 1) hx hb dJx4a65c_add_72be8_17 (by decide) ?_
  refine lv_iadd hx hb dJx4a65c_add_72be8_18 ?_
  refine lv_topi (fun z2 ez2 => ?_)
  obtain rfl : z2 = 1 := ez2.trans (by decide)
  refine va_put (D := D) (ci := 5) (v := .int 1) (ty := .int) (C := RJx4a65c) (T := TJx4a65c) (N := 3) hx hb hts (by decide +kernel) tyJx4a65c tyJx4a65c_ok nmJx4a65c hown hK hP hD hS 1 rfl rfl 2 (by decide) (hts (.fieldLink RJx4a65c 48 "java/util/ArrayList" "size" "I") (by decide +kernel)) (fun _ h9 => h9) rfl (by decide +kernel) rfl rfl (Nat.le_of_ble_eq_true rfl) dJx4a65c_add_72be8_19 (fun H locs hP hD hS => ?_)
  have hP : va_P D vwCl [(y, .inr (19, fs)), (b, .inr (5, [.int 1, .ref g1, .int 1])), (g1, .inl (cg1, 10, .inr (.inr (.inr (.inr (va_up (fun _ => none) (0 : Int32).toNatClampNeg (some y)))))))] H := hP
  have hD : va_D A [(y, .inr (19, fs)), (b, .inr (5, [.int 1, .ref g1, .int 1])), (g1, .inl (cg1, 10, .inr (.inr (.inr (.inr (va_up (fun _ => none) (0 : Int32).toNatClampNeg (some y)))))))] := hD
  have hP9 := hP.sub (ws' := [(b, .inr (5, [.int 1, .ref g1, .int 1]))]) [1] rfl
  have hD9 := hD.sub (ws' := [(b, .inr (5, [.int 1, .ref g1, .int 1]))]) [1] (by decide) rfl
  have hK9 := hK.sub (tys' := []) [] rfl
  rw [← hAe] at hD9
  refine W.widen (k := 1) (n := 10) (by omega) (by omega) ?_
  subst hAe
  exact W.vret hx hb hr (fun t ht9 hW => ⟨⟨(), rfl, trivial, ⟨g1, by rw [ht9]; exact hP9, va_K.moved hW.alike hK9, hD9⟩⟩, hS.F ht9⟩) hS.2.2 dJx4a65c_add_72be8_22

def zJx4a65c_add_9ea2d_event : List Cond := .code yJx4a65c_add_9ea2d cJx4a65c_add_9ea2d 2 (some .boolean) :: ([.fieldLink RJx4a65c 63 "java/util/ArrayList" "modCount" "I", .sameField "java/util/ArrayList" "java/util/AbstractList" "modCount" "I", .fieldLink RJx4a65c 9 "java/util/ArrayList" "elementData" "[Ljava/lang/Object;", .fieldLink RJx4a65c 48 "java/util/ArrayList" "size" "I", .methodLink RJx4a65c 131 yJx4a65c_add_72be8, .instanceMethod yJx4a65c_add_72be8, .selects RJx4a65c yJx4a65c_add_72be8 yJx4a65c_add_72be8, .initialized RJx4a65c] ++ (wsJx4a65c0 ++ (zJx4a65c_add_72be8_event ++ ([]))))
theorem zJx4a65c_add_9ea2d_event_good : zJx4a65c_add_9ea2d_event.all goodWord = true := by decide +kernel
set_option maxHeartbeats 4000000 in
set_option maxRecDepth 100000 in
/-- the first thing of a list -/
theorem c_add_event (l : Launch) (hst : l.stackTraces = false) (D : va_G) (sz : Nat) (b dz : Nat) (y : Nat) (fs : List Value) : Met l yJx4a65c_add_9ea2d zJx4a65c_add_9ea2d_event (zR 3 1 10) (zPreX (zM dz) [.ref b, .ref y] D [(b, .inr (5, [.int 0, .ref dz, .int 0])), (y, .inr (19, fs))] [] (va_A [(b, .inr (5, [.int 0, .ref dz, .int 0])), (y, .inr (19, fs))] sz) sz) (va_Qi (S := Unit) (fun r _ => r = 1) (fun _ t => ∃ (e0 : Nat), zAt D [(b, .inr (5, [.int 1, .ref e0, .int 1]))] [] (va_A [(b, .inr (5, [.int 0, .ref dz, .int 0])), (y, .inr (19, fs))] sz) t) (va_A [(b, .inr (5, [.int 0, .ref dz, .int 0])), (y, .inr (19, fs))] sz)) 1 10 (va_A [(b, .inr (5, [.int 0, .ref dz, .int 0])), (y, .inr (19, fs))] sz) := by
  refine Met.ofW (cc := cJx4a65c_add_9ea2d) (maxL := 2) (ret := (some .boolean)) (by decide) rfl ?_
  intro p e s m args below meth c s₁ B hml hv
  obtain ⟨rfl, hsz, hP, hK, hD0, hz, hm⟩ := hv
  have hx := B.exec
  have hb := B.bytes
  have hr := B.returns
  have hts := atoms_spec (ws := zJx4a65c_add_9ea2d_event) B.pre
  have hown : s.vm.findClass RJx4a65c = some m.cls := findClass_of_methodNamed B.named
  have hlocks := B.notSynchronized
  subst hsz
  have hD := hD0.self (sz := s.heap.size)
  generalize hAe : va_A [(b, .inr (5, [.int 0, .ref dz, .int 0])), (y, .inr (19, fs))] s.heap.size = A at hD hz hm ⊢
  have hA : ∀ q : Nat, s.heap.size ≤ q → A q := fun q h => by rw [← hAe]; exact Or.inr h
  have hS : va_S A s.heap s.heap [] := va_S.rf
  have hP : va_P D vwCl [(b, .inr (5, [.int 0, .ref dz, .int 0])), (y, .inr (19, fs))] s.heap := hP
  have hl := lv_entry ([.ref b, .ref y]) (n := 2) (Nat.le_of_ble_eq_true rfl)
  rw [lg_entry_eq]
  generalize (lg_sl ([.ref b, .ref y]) ++ List.replicate (2 - (lg_sl ([.ref b, .ref y])).length) Slot.unset).toArray = ls at hl ⊢
  have hl : lv_has ls 2 [(0, .ref b), (1, .ref y)] := hl
  refine lv_aload_n hx hb dJx4a65c_add_9ea2d_0 rfl (lv_at hl 0 rfl) ?_
  refine lv_dup hx hb dJx4a65c_add_9ea2d_1 rfl ?_
  refine va_get (D := D) (ci := 5) (v := .int 0) (C := RJx4a65c) (T := TJx4a65c) (N := 3) hx hb hts (by decide +kernel) hown hK hP 0 rfl rfl 0 (by decide) (hts (.fieldLink RJx4a65c 63 "java/util/ArrayList" "modCount" "I") (by decide +kernel)) (fun x9 h9 => u_same (hts (.sameField "java/util/ArrayList" "java/util/AbstractList" "modCount" "I") (by decide +kernel)) x9 h9) rfl dJx4a65c_add_9ea2d_2 ?_
  refine lv_iconst (v := 1) hx hb dJx4a65c_add_9ea2d_5 (by decide) ?_
  refine lv_iadd hx hb dJx4a65c_add_9ea2d_6 ?_
  refine lv_topi (fun z1 ez1 => ?_)
  obtain rfl : z1 = 1 := ez1.trans (by decide)
  refine va_put (D := D) (ci := 5) (v := .int 1) (ty := .int) (C := RJx4a65c) (T := TJx4a65c) (N := 3) hx hb hts (by decide +kernel) tyJx4a65c tyJx4a65c_ok nmJx4a65c hown hK hP hD hS 0 rfl rfl 0 (by decide) (hts (.fieldLink RJx4a65c 63 "java/util/ArrayList" "modCount" "I") (by decide +kernel)) (fun x9 h9 => u_same (hts (.sameField "java/util/ArrayList" "java/util/AbstractList" "modCount" "I") (by decide +kernel)) x9 h9) rfl (by decide +kernel) rfl rfl (Nat.le_of_ble_eq_true rfl) dJx4a65c_add_9ea2d_7 (fun H locs hP hD hS => ?_)
  have hP : va_P D vwCl [(b, .inr (5, [.int 1, .ref dz, .int 0])), (y, .inr (19, fs))] H := hP
  have hD : va_D A [(b, .inr (5, [.int 1, .ref dz, .int 0])), (y, .inr (19, fs))] := hD
  refine lv_aload_n hx hb dJx4a65c_add_9ea2d_10 rfl (lv_at hl 0 rfl) ?_
  refine lv_aload_n hx hb dJx4a65c_add_9ea2d_11 rfl (lv_at hl 1 rfl) ?_
  refine lv_aload_n hx hb dJx4a65c_add_9ea2d_12 rfl (lv_at hl 0 rfl) ?_
  refine va_get (D := D) (ci := 5) (v := .ref dz) (C := RJx4a65c) (T := TJx4a65c) (N := 3) hx hb hts (by decide +kernel) hown hK hP 0 rfl rfl 1 (by decide) (hts (.fieldLink RJx4a65c 9 "java/util/ArrayList" "elementData" "[Ljava/lang/Object;") (by decide +kernel)) (fun _ h9 => h9) rfl dJx4a65c_add_9ea2d_13 ?_
  refine lv_aload_n hx hb dJx4a65c_add_9ea2d_16 rfl (lv_at hl 0 rfl) ?_
  refine va_get (D := D) (ci := 5) (v := .int 0) (C := RJx4a65c) (T := TJx4a65c) (N := 3) hx hb hts (by decide +kernel) hown hK hP 0 rfl rfl 2 (by decide) (hts (.fieldLink RJx4a65c 48 "java/util/ArrayList" "size" "I") (by decide +kernel)) (fun _ h9 => h9) rfl dJx4a65c_add_9ea2d_17 ?_
  have hPc := hP.sub (ws' := [(b, .inr (5, [.int 1, .ref dz, .int 0])), (y, .inr (19, fs))]) [0, 1] rfl
  have hDc := hD.sub (ws' := [(b, .inr (5, [.int 1, .ref dz, .int 0])), (y, .inr (19, fs))]) [0, 1] (by decide) rfl
  have hKc := hK.sub (tys' := []) [] rfl
  have hFc := va_free (wc := [(b, .inr (5, [.int 1, .ref dz, .int 0])), (y, .inr (19, fs))]) hD hS hA [0, 1] rfl
  refine va_callv (va_runV (As := [.ref y, .ref dz, .int 0]) (rest := []) ⟨hx, hb, hml, hown, hts⟩ (c_addAt_event l hst D H.size b dz y fs) (cwV 3 hts (goodIn_app (goodIn_of _ (by decide +kernel)) (goodIn_sub (fun _ h => List.mem_cons_of_mem _ (List.mem_append_right _ (List.mem_append_right _ (List.mem_append_left _ h)))) zJx4a65c_add_72be8_event_good)) rfl rfl rfl (by decide +kernel) ⟨Nat.le_of_ble_eq_true rfl, Nat.le_of_ble_eq_true rfl⟩) ⟨zPreX.blind (zM_ok dz), va_recv hKc hPc (ci := 5) (q0 := 0) rfl rfl, zPreX.mk (zM_ok dz) (hm) hPc hKc hDc hz hS (fun q h => hFc q h)⟩ rfl rfl hl.1 rfl (lv_room (Nat.le_of_ble_eq_true rfl)) dJx4a65c_add_9ea2d_20 ⟨Nat.le_of_ble_eq_true rfl, Nat.le_of_ble_eq_true rfl⟩) hS (fun q _ h => hFc q h) (fun q h => hFc q h) (fun u t H1 locs ht9 hvm hw hB hz1 hk1 hS => ?_)
  refine W.widen (k := 1) (n := 10) (by omega) (by omega) ?_
  obtain ⟨n2, hP1, hK1, hD1⟩ := hB
  rw [ht9] at hP1
  have hK1 := va_K.moved hvm.symm hK1
  obtain ⟨hP, hD⟩ := va_join (wr := []) (w1 := [(b, .inr (5, [.int 1, .ref n2, .int 1]))]) hP hD [0, 1] [] rfl rfl (by decide) (by decide) hk1 hFc hP1 hD1
  have hK := (hK.sub (tys' := []) [] rfl).app hK1
  generalize H1 = H at hP hS ⊢
  have hP : va_P D vwCl [(b, .inr (5, [.int 1, .ref n2, .int 1]))] H := hP
  have hD : va_D A [(b, .inr (5, [.int 1, .ref n2, .int 1]))] := hD
  have hK : va_K D vwCl [] s := hK
  refine lv_iconst (v := 1) hx hb dJx4a65c_add_9ea2d_23 (by decide) ?_
  have hP9 := hP.sub (ws' := [(b, .inr (5, [.int 1, .ref n2, .int 1]))]) [0] rfl
  have hD9 := hD.sub (ws' := [(b, .inr (5, [.int 1, .ref n2, .int 1]))]) [0] (by decide) rfl
  have hK9 := hK.sub (tys' := []) [] rfl
  rw [← hAe] at hD9
  refine W.widen (k := 1) (n := 10) (by omega) (by omega) ?_
  subst hAe
  exact W.zret (v := 1) hx hb hr rfl (fun t ht9 hW => ⟨⟨1, (), rfl, rfl, ⟨n2, by rw [ht9]; exact hP9, va_K.moved hW.alike hK9, hD9⟩⟩, hS.F ht9⟩) hS.2.2 dJx4a65c_add_9ea2d_24
