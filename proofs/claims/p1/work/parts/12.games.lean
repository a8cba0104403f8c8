/-! printed rows that this part uses -/
theorem dX4_init_0 : decode cX4_init 0 = .ok (.aload_n 0, 1) := by decide +kernel
theorem dX4_init_1 : decode cX4_init 1 = .ok (.invokespecial 3, 3) := by decide +kernel
theorem dX4_init_4 : decode cX4_init 4 = .ok (.aload_n 0, 1) := by decide +kernel
theorem dX4_init_5 : decode cX4_init 5 = .ok (.bipush 8, 2) := by decide +kernel
theorem dX4_init_7 : decode cX4_init 7 = .ok (.iconst 4, 1) := by decide +kernel
theorem dX4_init_8 : decode cX4_init 8 = .ok (.multianewarray 9 2, 4) := by decide +kernel
theorem dX4_init_12 : decode cX4_init 12 = .ok (.putfield 11, 3) := by decide +kernel
theorem dX4_init_15 : decode cX4_init 15 = .ok (.return_, 1) := by decide +kernel
theorem dX11_init_0 : decode cX11_init 0 = .ok (.aload_n 0, 1) := by decide +kernel
theorem dX11_init_1 : decode cX11_init 1 = .ok (.invokespecial 3, 3) := by decide +kernel
theorem dX11_init_4 : decode cX11_init 4 = .ok (.aload_n 0, 1) := by decide +kernel
theorem dX11_init_5 : decode cX11_init 5 = .ok (.new 9, 3) := by decide +kernel
theorem dX11_init_8 : decode cX11_init 8 = .ok (.dup, 1) := by decide +kernel
theorem dX11_init_9 : decode cX11_init 9 = .ok (.invokespecial 11, 3) := by decide +kernel
theorem dX11_init_12 : decode cX11_init 12 = .ok (.putfield 12, 3) := by decide +kernel
theorem dX11_init_15 : decode cX11_init 15 = .ok (.aload_n 0, 1) := by decide +kernel
theorem dX11_init_16 : decode cX11_init 16 = .ok (.iconst 5, 1) := by decide +kernel
theorem dX11_init_17 : decode cX11_init 17 = .ok (.anewarray 16, 3) := by decide +kernel
theorem dX11_init_20 : decode cX11_init 20 = .ok (.putfield 18, 3) := by decide +kernel
theorem dX11_init_23 : decode cX11_init 23 = .ok (.aload_n 0, 1) := by decide +kernel
theorem dX11_init_24 : decode cX11_init 24 = .ok (.new 22, 3) := by decide +kernel
theorem dX11_init_27 : decode cX11_init 27 = .ok (.dup, 1) := by decide +kernel
theorem dX11_init_28 : decode cX11_init 28 = .ok (.invokespecial 24, 3) := by decide +kernel
theorem dX11_init_31 : decode cX11_init 31 = .ok (.putfield 25, 3) := by decide +kernel
theorem dX11_init_34 : decode cX11_init 34 = .ok (.aload_n 0, 1) := by decide +kernel
theorem dX11_init_35 : decode cX11_init 35 = .ok (.new 29, 3) := by decide +kernel
theorem dX11_init_38 : decode cX11_init 38 = .ok (.dup, 1) := by decide +kernel
theorem dX11_init_39 : decode cX11_init 39 = .ok (.invokespecial 31, 3) := by decide +kernel
theorem dX11_init_42 : decode cX11_init 42 = .ok (.putfield 32, 3) := by decide +kernel
theorem dX11_init_45 : decode cX11_init 45 = .ok (.aload_n 0, 1) := by decide +kernel
theorem dX11_init_46 : decode cX11_init 46 = .ok (.new 36, 3) := by decide +kernel
theorem dX11_init_49 : decode cX11_init 49 = .ok (.dup, 1) := by decide +kernel
theorem dX11_init_50 : decode cX11_init 50 = .ok (.invokespecial 38, 3) := by decide +kernel
theorem dX11_init_53 : decode cX11_init 53 = .ok (.putfield 39, 3) := by decide +kernel
theorem dX11_init_56 : decode cX11_init 56 = .ok (.aload_n 0, 1) := by decide +kernel
theorem dX11_init_57 : decode cX11_init 57 = .ok (.new 43, 3) := by decide +kernel
theorem dX11_init_60 : decode cX11_init 60 = .ok (.dup, 1) := by decide +kernel
theorem dX11_init_61 : decode cX11_init 61 = .ok (.invokespecial 45, 3) := by decide +kernel
theorem dX11_init_64 : decode cX11_init 64 = .ok (.putfield 46, 3) := by decide +kernel
theorem dX11_init_67 : decode cX11_init 67 = .ok (.aload_n 0, 1) := by decide +kernel
theorem dX11_init_68 : decode cX11_init 68 = .ok (.new 50, 3) := by decide +kernel
theorem dX11_init_71 : decode cX11_init 71 = .ok (.dup, 1) := by decide +kernel
theorem dX11_init_72 : decode cX11_init 72 = .ok (.invokespecial 52, 3) := by decide +kernel
theorem dX11_init_75 : decode cX11_init 75 = .ok (.putfield 53, 3) := by decide +kernel
theorem dX11_init_78 : decode cX11_init 78 = .ok (.aload_n 0, 1) := by decide +kernel
theorem dX11_init_79 : decode cX11_init 79 = .ok (.new 57, 3) := by decide +kernel
theorem dX11_init_82 : decode cX11_init 82 = .ok (.dup, 1) := by decide +kernel
theorem dX11_init_83 : decode cX11_init 83 = .ok (.invokespecial 59, 3) := by decide +kernel
theorem dX11_init_86 : decode cX11_init 86 = .ok (.putfield 60, 3) := by decide +kernel
theorem dX11_init_89 : decode cX11_init 89 = .ok (.aload_n 0, 1) := by decide +kernel
theorem dX11_init_90 : decode cX11_init 90 = .ok (.iconst 0, 1) := by decide +kernel
theorem dX11_init_91 : decode cX11_init 91 = .ok (.putfield 64, 3) := by decide +kernel
theorem dX11_init_94 : decode cX11_init 94 = .ok (.aload_n 0, 1) := by decide +kernel
theorem dX11_init_95 : decode cX11_init 95 = .ok (.iconst 0, 1) := by decide +kernel
theorem dX11_init_96 : decode cX11_init 96 = .ok (.putfield 68, 3) := by decide +kernel
theorem dX11_init_99 : decode cX11_init 99 = .ok (.aload_n 0, 1) := by decide +kernel
theorem dX11_init_100 : decode cX11_init 100 = .ok (.iconst 0, 1) := by decide +kernel
theorem dX11_init_101 : decode cX11_init 101 = .ok (.putfield 71, 3) := by decide +kernel
theorem dX11_init_104 : decode cX11_init 104 = .ok (.return_, 1) := by decide +kernel
def zX4_init_ws : List Cond := .code yX4_init cX4_init 1 none :: ([.methodLink RX4 3 objectInit, .instanceMethod objectInit, .code objectInit ⟨#[0xb1]⟩ 1 none, .classLink RX4 9 "[[I", .arrayClass .int, .fieldLink RX4 11 "HeatStadium$MedalTable" "counts" "[[I"] ++ (wsX40 ++ ([])))
theorem zX4_init_ws_good : zX4_init_ws.all goodWord = true := by decide +kernel
set_option maxHeartbeats 4000000 in
set_option maxRecDepth 100000 in
/-- a new table of medals -/
theorem c_X4_init (l : Launch) (hst : l.stackTraces = false) (D : va_G) (sz : Nat) (h : Nat) : Met l yX4_init zX4_init_ws (zR 0 9 40) (zPre [.ref h] D [(h, .inr (10, [.null, .int 0]))] [] (va_A [(h, .inr (10, [.null, .int 0]))] sz) sz) (va_Qv (S := Unit) (fun _ => True) (fun _ t => ∃ (g : Nat) (og : Nat → Option Nat) (LR : List Nat) (cG cI : Nat), (∀ i, i < 8 → ∃ y, og i = some y ∧ y ∈ LR) ∧ zAt D ([(h, .inr (10, [.ref g, .int 0])), (g, .inl (cG, 8, .inr (.inr (.inr (.inr og)))))] ++ va_pl LR (zrow cI)) [(cG, .array .int), (cI, .int)] (va_A [(h, .inr (10, [.null, .int 0]))] sz) t) (va_A [(h, .inr (10, [.null, .int 0]))] sz)) 9 40 (va_A [(h, .inr (10, [.null, .int 0]))] sz) := by
  refine Met.ofW (cc := cX4_init) (maxL := 1) (ret := none) (by decide) rfl ?_
  intro p e s m args below meth c s₁ B hml hv
  obtain ⟨rfl, hsz, hP, hK, hD0, hz⟩ := hv
  have hx := B.exec
  have hb := B.bytes
  have hr := B.returns
  have hts := atoms_spec (ws := zX4_init_ws) B.pre
  have hown : s.vm.findClass RX4 = some m.cls := findClass_of_methodNamed B.named
  have hlocks := B.notSynchronized
  have hin : meth.name = "<init>" := (name_of_methodNamed B.named B.method).1
  subst hsz
  have hD := hD0.self (sz := s.heap.size)
  generalize hAe : va_A [(h, .inr (10, [.null, .int 0]))] s.heap.size = A at hD hz ⊢
  have hA : ∀ q : Nat, s.heap.size ≤ q → A q := fun q h => by rw [← hAe]; exact Or.inr h
  have hS : va_S A s.heap s.heap [] := va_S.rf
  have hP : va_P D vwCl [(h, .inr (10, [.null, .int 0]))] s.heap := hP
  have hl := lv_entry ([.ref h]) (n := 1) (Nat.le_of_ble_eq_true rfl)
  rw [lg_entry_eq]
  generalize (lg_sl ([.ref h]) ++ List.replicate (1 - (lg_sl ([.ref h])).length) Slot.unset).toArray = ls at hl ⊢
  have hl : lv_has ls 1 [(0, .ref h)] := hl
  refine lv_aload_n hx hb dX4_init_0 rfl (lv_at hl 0 rfl) ?_
  refine W.objInit hx hb hown (hts (.methodLink RX4 3 objectInit) (by decide +kernel)) (hts (.instanceMethod objectInit) (by decide +kernel)) (hts (.code objectInit ⟨#[0xb1]⟩ 1 none) (by decide +kernel)) rfl (by rw [hml]; exact hl.1) rfl dX4_init_1 (Nat.le_of_ble_eq_true rfl) (Nat.le_of_ble_eq_true rfl) ?_
  refine W.eq (g2 := F0 m 4 ls []) rfl ?_
  refine lv_aload_n hx hb dX4_init_4 rfl (lv_at hl 0 rfl) ?_
  refine lv_bipush (v := 8) hx hb dX4_init_5 (by decide) ?_
  refine lv_iconst (v := 4) hx hb dX4_init_7 (by decide) ?_
  obtain ⟨cy, _, _, hcy, -⟩ := Cond.arrayOver_specA (va_AOA.use (A := #[]) hz.2.2.2.1.2.2)
  refine va_mna (X := [(h, .inr (10, [.null, .int 0]))]) (L := []) (f := zrow 0) hx hb hown (hts (.classLink RX4 9 "[[I") (by decide +kernel)) hz.2.2.2.1.2.2 (hts (.arrayClass .int) (by decide +kernel)) hcy hK hP hD hS hA (n := 8) (k := 4) (N' := 8) (K' := 4) (z := (4, .inl (fun _ => 0))) (by decide) (by decide) (by decide) (by decide) (Nat.le_of_ble_eq_true rfl) (Nat.le_of_ble_eq_true rfl) (Nat.le_of_ble_eq_true rfl) (by decide) (by decide) (Nat.le_of_ble_eq_true rfl) (Nat.le_of_ble_eq_true rfl) (fun _ => rfl) dX4_init_8 (fun q1 r2 cA3 H _ _ hK hP hD hS => ?_)
  rw [zPool] at hP hD
  have hK := zIntK (hts (.arrayClass .int) (by decide +kernel)) hcy hK
  have hP : va_P D vwCl ([(h, .inr (10, [.null, .int 0])), (q1, .inl (cA3, 8, .inr (.inr (.inr (.inr (fun i => if i < 8 then some (r2 i) else none))))))] ++ va_pl ((List.range 8).map r2) (zrow cy)) H := hP
  have hD : va_D A ([(h, .inr (10, [.null, .int 0])), (q1, .inl (cA3, 8, .inr (.inr (.inr (.inr (fun i => if i < 8 then some (r2 i) else none))))))] ++ va_pl ((List.range 8).map r2) (zrow cy)) := hD
  have hK : va_K D vwCl [(cA3, .array .int), (cy, .int)] s := hK
  refine W.widen (k := 9) (n := 40) (by omega) (by omega) ?_
  refine va_putF (D := D) (ci := 10) (v := .ref q1) (ty := .array (.array .int)) (C := RX4) (T := TX4) (N := 2) hx hb hts (by decide +kernel) tyX4 tyX4_ok nmX4 hown hK hP hD hS 0 rfl rfl 0 (by decide) (hts (.fieldLink RX4 11 "HeatStadium$MedalTable" "counts" "[[I") (by decide +kernel)) (fun _ h9 => h9) rfl hin rfl (by decide +kernel) rfl rfl (Nat.le_of_ble_eq_true rfl) dX4_init_12 (fun H locs hP hD hS => ?_)
  have hP : va_P D vwCl ([(h, .inr (10, [.ref q1, .int 0])), (q1, .inl (cA3, 8, .inr (.inr (.inr (.inr (fun i => if i < 8 then some (r2 i) else none))))))] ++ va_pl ((List.range 8).map r2) (zrow cy)) H := hP
  have hD : va_D A ([(h, .inr (10, [.ref q1, .int 0])), (q1, .inl (cA3, 8, .inr (.inr (.inr (.inr (fun i => if i < 8 then some (r2 i) else none))))))] ++ va_pl ((List.range 8).map r2) (zrow cy)) := hD
  have hP9 := hP.part (cx := [(h, .inr (10, [.ref q1, .int 0])), (q1, .inl (cA3, 8, .inr (.inr (.inr (.inr (fun i => if i < 8 then some (r2 i) else none))))))]) [0, 1] rfl
  have hD9 := hD.part (cx := [(h, .inr (10, [.ref q1, .int 0])), (q1, .inl (cA3, 8, .inr (.inr (.inr (.inr (fun i => if i < 8 then some (r2 i) else none))))))]) [0, 1] (by decide) rfl
  have hK9 := hK.sub (tys' := [(cA3, .array .int), (cy, .int)]) [0, 1] rfl
  rw [← hAe] at hD9
  refine W.widen (k := 9) (n := 40) (by omega) (by omega) ?_
  subst hAe
  exact W.vret hx hb hr (fun t ht9 hW => ⟨⟨(), rfl, trivial, ⟨q1, _, _, cA3, cy, zGrid r2, by rw [ht9]; exact hP9, va_K.moved hW.alike hK9, hD9⟩⟩, hS.F ht9⟩) hS.2.2 dX4_init_15

def zX11_init_ws : List Cond := .code yX11_init cX11_init 1 none :: ([.methodLink RX11 3 objectInit, .instanceMethod objectInit, .code objectInit ⟨#[0xb1]⟩ 1 none, .classLink RX11 9 RX0, .instantiable RX0 3, .initialized RX0, .instanceMethod yX0_init, .fieldLink RX11 12 "HeatStadium" "athletes" "LHeatStadium$Athletes;", .classLink RX11 16 RX1, .fieldLink RX11 18 "HeatStadium" "events" "[LHeatStadium$Event;", .classLink RX11 22 RX5, .instantiable RX5 5, .initialized RX5, .instanceMethod yX5_init, .fieldLink RX11 25 "HeatStadium" "protests" "LHeatStadium$Protests;", .classLink RX11 29 RX2, .instantiable RX2 5, .initialized RX2, .instanceMethod yX2_init, .fieldLink RX11 32 "HeatStadium" "fieldNow" "LHeatStadium$FieldNow;", .classLink RX11 36 RX6, .instantiable RX6 8, .initialized RX6, .instanceMethod yX6_init, .fieldLink RX11 39 "HeatStadium" "draw" "LHeatStadium$RaceDraw;", .classLink RX11 43 RX8, .instantiable RX8 4, .initialized RX8, .instanceMethod yX8_init, .fieldLink RX11 46 "HeatStadium" "results" "LHeatStadium$Results;", .classLink RX11 50 RX7, .instantiable RX7 5, .initialized RX7, .instanceMethod yX7_init, .fieldLink RX11 53 "HeatStadium" "best" "LHeatStadium$RecordMark;", .classLink RX11 57 RX4, .instantiable RX4 2, .initialized RX4, .instanceMethod yX4_init, .fieldLink RX11 60 "HeatStadium" "table" "LHeatStadium$MedalTable;", .fieldLink RX11 64 "HeatStadium" "eventCount" "I", .fieldLink RX11 68 "HeatStadium" "minute" "I", .fieldLink RX11 71 "HeatStadium" "marksTold" "I"] ++ (wsX00 ++ (zX0_init_ws ++ (wsX110 ++ (wsX50 ++ (zX5_init_ws ++ (wsX20 ++ (zX2_init_ws ++ (wsX60 ++ (zX6_init_ws ++ (wsX80 ++ (zX8_init_ws ++ (wsX70 ++ (zX7_init_ws ++ (wsX40 ++ (zX4_init_ws ++ ([])))))))))))))))))
theorem zX11_init_ws_good : zX11_init_ws.all goodWord = true := by decide +kernel
set_option maxHeartbeats 4000000 in
set_option maxRecDepth 100000 in
/-- new games -/
theorem c_HS (l : Launch) (hst : l.stackTraces = false) (D : va_G) (sz : Nat) (h0 : Nat) : Met l yX11_init zX11_init_ws (zR 1 100 2000) (zPre [.ref h0] D [(h0, .inr (17, [.null, .null, .null, .null, .null, .null, .null, .null, .int 0, .int 0, .int 0]))] [] (va_A [(h0, .inr (17, [.null, .null, .null, .null, .null, .null, .null, .null, .int 0, .int 0, .int 0]))] sz) sz) (va_Qv (S := Unit) (fun _ => True) (fun _ t => ∃ (a : Nat → Nat) (a1 a2 cN cE p1 p2 p3 g : Nat) (og : Nat → Option Nat) (LR : List Nat) (cG cI : Nat), (∀ i, i < 8 → ∃ y, og i = some y ∧ y ∈ LR) ∧ zAt D ([(h0, .inr (17, zHS a)), ((a 0), .inr (6, [.ref a1, .ref a2, .int 0])), (a1, .inl (cN, 30, .inl (fun _ => 0))), ((a 1), .inl (cE, 5, .inr (.inr (.inr (.inr (fun _ => none)))))), ((a 2), .inr (11, [.ref p1, .ref p2, .ref p3, .int 0, .long 0])), ((a 7), .inr (10, [.ref g, .int 0])), (g, .inl (cG, 8, .inr (.inr (.inr (.inr og)))))] ++ va_pl LR (zrow cI)) [(cN, .int), (cE, .object "HeatStadium$Event"), (cG, .array .int), (cI, .int)] (va_A [(h0, .inr (17, [.null, .null, .null, .null, .null, .null, .null, .null, .int 0, .int 0, .int 0]))] sz) t) (va_A [(h0, .inr (17, [.null, .null, .null, .null, .null, .null, .null, .null, .int 0, .int 0, .int 0]))] sz)) 100 2000 (va_A [(h0, .inr (17, [.null, .null, .null, .null, .null, .null, .null, .null, .int 0, .int 0, .int 0]))] sz) := by
  refine Met.ofW (cc := cX11_init) (maxL := 1) (ret := none) (by decide) rfl ?_
  intro p e s m args below meth c s₁ B hml hv
  obtain ⟨rfl, hsz, hP, hK, hD0, hz⟩ := hv
  have hx := B.exec
  have hb := B.bytes
  have hr := B.returns
  have hts := atoms_spec (ws := zX11_init_ws) B.pre
  have hown : s.vm.findClass RX11 = some m.cls := findClass_of_methodNamed B.named
  have hlocks := B.notSynchronized
  have hin : meth.name = "<init>" := (name_of_methodNamed B.named B.method).1
  subst hsz
  have hD := hD0.self (sz := s.heap.size)
  generalize hAe : va_A [(h0, .inr (17, [.null, .null, .null, .null, .null, .null, .null, .null, .int 0, .int 0, .int 0]))] s.heap.size = A at hD hz ⊢
  have hA : ∀ q : Nat, s.heap.size ≤ q → A q := fun q h => by rw [← hAe]; exact Or.inr h
  have hS : va_S A s.heap s.heap [] := va_S.rf
  have hP : va_P D vwCl [(h0, .inr (17, [.null, .null, .null, .null, .null, .null, .null, .null, .int 0, .int 0, .int 0]))] s.heap := hP
  have hl := lv_entry ([.ref h0]) (n := 1) (Nat.le_of_ble_eq_true rfl)
  rw [lg_entry_eq]
  generalize (lg_sl ([.ref h0]) ++ List.replicate (1 - (lg_sl ([.ref h0])).length) Slot.unset).toArray = ls at hl ⊢
  have hl : lv_has ls 1 [(0, .ref h0)] := hl
  refine lv_aload_n hx hb dX11_init_0 rfl (lv_at hl 0 rfl) ?_
  refine W.objInit hx hb hown (hts (.methodLink RX11 3 objectInit) (by decide +kernel)) (hts (.instanceMethod objectInit) (by decide +kernel)) (hts (.code objectInit ⟨#[0xb1]⟩ 1 none) (by decide +kernel)) rfl (by rw [hml]; exact hl.1) rfl dX11_init_1 (Nat.le_of_ble_eq_true rfl) (Nat.le_of_ble_eq_true rfl) ?_
  refine W.eq (g2 := F0 m 4 ls []) rfl ?_
  refine lv_aload_n hx hb dX11_init_4 rfl (lv_at hl 0 rfl) ?_
  refine va_new (ci := 6) (fs := [.null, .null, .int 0]) (C := RX0) (T := TX0) (N := 3) hx hb hts (by decide +kernel) tyX0 tyX0_ok hown (hts (.classLink RX11 9 RX0) (by decide +kernel)) (hts (.instantiable RX0 3) (by decide +kernel)) (hts (.initialized RX0) (by decide +kernel)) hK hP hD hS hA rfl (fun j hj => by rcases (show j = 0 ∨ j = 1 ∨ j = 2 by omega) with rfl | rfl | rfl <;> rfl) (Nat.le_of_ble_eq_true rfl) (Nat.le_of_ble_eq_true rfl) dX11_init_5 (fun q1 H hP hD hS => ?_)
  have hP : va_P D vwCl [(h0, .inr (17, [.null, .null, .null, .null, .null, .null, .null, .null, .int 0, .int 0, .int 0])), (q1, .inr (6, [.null, .null, .int 0]))] H := hP
  have hD : va_D A [(h0, .inr (17, [.null, .null, .null, .null, .null, .null, .null, .null, .int 0, .int 0, .int 0])), (q1, .inr (6, [.null, .null, .int 0]))] := hD
  refine W.widen (k := 1) (n := 3) (by omega) (by omega) ?_
  refine lv_dup hx hb dX11_init_8 rfl ?_
  have hPc := hP.sub (ws' := [(q1, .inr (6, [.null, .null, .int 0]))]) [1] rfl
  have hDc := hD.sub (ws' := [(q1, .inr (6, [.null, .null, .int 0]))]) [1] (by decide) rfl
  have hKc := hK.sub (tys' := []) [] rfl
  have hFc := va_free (wc := [(q1, .inr (6, [.null, .null, .int 0]))]) hD hS hA [1] rfl
  refine va_callv (va_runIN (As := []) (rest := [.ref q1, .ref h0]) ⟨hx, hb, hml, hown, hts⟩ (c_X0_init l hst D H.size q1) ⟨va_cnB 0 hts (goodIn_sub (fun _ h => List.mem_cons_of_mem _ (List.mem_append_right _ (List.mem_append_right _ (List.mem_append_left _ h)))) zX0_init_ws_good) rfl rfl rfl (hz.2.2.1 (.methodLinkNest RX11 11 yX0_init RX11) (by decide +kernel)) (hts (.initialized RX0) (by decide +kernel)) (by decide +kernel) ⟨Nat.le_of_ble_eq_true rfl, Nat.le_of_ble_eq_true rfl⟩, rfl, (hts (.instanceMethod yX0_init) (by decide +kernel))⟩ ⟨zPre.blind, zPre.mk hPc hKc hDc hz hS (fun q h => hFc q h)⟩ rfl rfl hl.1 rfl (lv_room (Nat.le_of_ble_eq_true rfl)) dX11_init_9 ⟨Nat.le_of_ble_eq_true rfl, Nat.le_of_ble_eq_true rfl⟩) hS (fun q _ h => hFc q h) (fun q h => hFc q h) (fun u t H1 locs ht9 hvm hw hB hz1 hk1 hS => ?_)
  refine W.widen (k := 3) (n := 63) (by omega) (by omega) ?_
  obtain ⟨n2, n3, n4, hP1, hK1, hD1⟩ := hB
  rw [ht9] at hP1
  have hK1 := va_K.moved hvm.symm hK1
  obtain ⟨hP, hD⟩ := va_join (wr := [(h0, .inr (17, [.null, .null, .null, .null, .null, .null, .null, .null, .int 0, .int 0, .int 0]))]) (w1 := [(q1, .inr (6, [.ref n2, .ref n3, .int 0])), (n2, .inl (n4, 30, .inl (fun _ => 0)))]) hP hD [1] [0] rfl rfl (by decide) (by decide) hk1 hFc hP1 hD1
  have hK := (hK.sub (tys' := []) [] rfl).app hK1
  generalize H1 = H at hP hS ⊢
  have hP : va_P D vwCl [(h0, .inr (17, [.null, .null, .null, .null, .null, .null, .null, .null, .int 0, .int 0, .int 0])), (q1, .inr (6, [.ref n2, .ref n3, .int 0])), (n2, .inl (n4, 30, .inl (fun _ => 0)))] H := hP
  have hD : va_D A [(h0, .inr (17, [.null, .null, .null, .null, .null, .null, .null, .null, .int 0, .int 0, .int 0])), (q1, .inr (6, [.ref n2, .ref n3, .int 0])), (n2, .inl (n4, 30, .inl (fun _ => 0)))] := hD
  have hK : va_K D vwCl [(n4, .int)] s := hK
  refine va_putF (D := D) (ci := 17) (v := .ref q1) (ty := .object "HeatStadium$Athletes") (C := RX11) (T := TX11) (N := 11) hx hb hts (by decide +kernel) tyX11 tyX11_ok nmX11 hown hK hP hD hS 0 rfl rfl 0 (by decide) (hts (.fieldLink RX11 12 "HeatStadium" "athletes" "LHeatStadium$Athletes;") (by decide +kernel)) (fun _ h9 => h9) rfl hin rfl (by decide +kernel) rfl rfl (Nat.le_of_ble_eq_true rfl) dX11_init_12 (fun H locs hP hD hS => ?_)
  have hP : va_P D vwCl [(h0, .inr (17, [.ref q1, .null, .null, .null, .null, .null, .null, .null, .int 0, .int 0, .int 0])), (q1, .inr (6, [.ref n2, .ref n3, .int 0])), (n2, .inl (n4, 30, .inl (fun _ => 0)))] H := hP
  have hD : va_D A [(h0, .inr (17, [.ref q1, .null, .null, .null, .null, .null, .null, .null, .int 0, .int 0, .int 0])), (q1, .inr (6, [.ref n2, .ref n3, .int 0])), (n2, .inl (n4, 30, .inl (fun _ => 0)))] := hD
  refine lv_aload_n hx hb dX11_init_15 rfl (lv_at hl 0 rfl) ?_
  refine lv_iconst (v := 5) hx hb dX11_init_16 (by decide) ?_
  refine va_newq hx hb hown (hts (.classLink RX11 16 RX1) (by decide +kernel)) hz.2.2.2.1.1 hK hP hD hS hA (n := 5) (N' := 5) (by decide) (by decide) (Nat.le_of_ble_eq_true rfl) (Nat.le_of_ble_eq_true rfl) (Nat.le_of_ble_eq_true rfl) dX11_init_17 (fun q5 cA6 H hK hP hD hS => ?_)
  have hP : va_P D vwCl [(h0, .inr (17, [.ref q1, .null, .null, .null, .null, .null, .null, .null, .int 0, .int 0, .int 0])), (q1, .inr (6, [.ref n2, .ref n3, .int 0])), (n2, .inl (n4, 30, .inl (fun _ => 0))), (q5, .inl (cA6, 5, .inr (.inr (.inr (.inr (fun _ => none))))))] H := hP
  have hD : va_D A [(h0, .inr (17, [.ref q1, .null, .null, .null, .null, .null, .null, .null, .int 0, .int 0, .int 0])), (q1, .inr (6, [.ref n2, .ref n3, .int 0])), (n2, .inl (n4, 30, .inl (fun _ => 0))), (q5, .inl (cA6, 5, .inr (.inr (.inr (.inr (fun _ => none))))))] := hD
  have hK : va_K D vwCl [(n4, .int), (cA6, .object "HeatStadium$Event")] s := hK
  refine W.widen (k := 4) (n := 68) (by omega) (by omega) ?_
  refine va_putF (D := D) (ci := 17) (v := .ref q5) (ty := .array (.object "HeatStadium$Event")) (C := RX11) (T := TX11) (N := 11) hx hb hts (by decide +kernel) tyX11 tyX11_ok nmX11 hown hK hP hD hS 0 rfl rfl 1 (by decide) (hts (.fieldLink RX11 18 "HeatStadium" "events" "[LHeatStadium$Event;") (by decide +kernel)) (fun _ h9 => h9) rfl hin rfl (by decide +kernel) rfl rfl (Nat.le_of_ble_eq_true rfl) dX11_init_20 (fun H locs hP hD hS => ?_)
  have hP : va_P D vwCl [(h0, .inr (17, [.ref q1, .ref q5, .null, .null, .null, .null, .null, .null, .int 0, .int 0, .int 0])), (q1, .inr (6, [.ref n2, .ref n3, .int 0])), (n2, .inl (n4, 30, .inl (fun _ => 0))), (q5, .inl (cA6, 5, .inr (.inr (.inr (.inr (fun _ => none))))))] H := hP
  have hD : va_D A [(h0, .inr (17, [.ref q1, .ref q5, .null, .null, .null, .null, .null, .null, .int 0, .int 0, .int 0])), (q1, .inr (6, [.ref n2, .ref n3, .int 0])), (n2, .inl (n4, 30, .inl (fun _ => 0))), (q5, .inl (cA6, 5, .inr (.inr (.inr (.inr (fun _ => none))))))] := hD
  refine lv_aload_n hx hb dX11_init_23 rfl (lv_at hl 0 rfl) ?_
  refine va_new (ci := 11) (fs := [.null, .null, .null, .int 0, .long 0]) (C := RX5) (T := TX5) (N := 5) hx hb hts (by decide +kernel) tyX5 tyX5_ok hown (hts (.classLink RX11 22 RX5) (by decide +kernel)) (hts (.instantiable RX5 5) (by decide +kernel)) (hts (.initialized RX5) (by decide +kernel)) hK hP hD hS hA rfl (fun j hj => by rcases (show j = 0 ∨ j = 1 ∨ j = 2 ∨ j = 3 ∨ j = 4 by omega) with rfl | rfl | rfl | rfl | rfl <;> rfl) (Nat.le_of_ble_eq_true rfl) (Nat.le_of_ble_eq_true rfl) dX11_init_24 (fun q7 H hP hD hS => ?_)
  have hP : va_P D vwCl [(h0, .inr (17, [.ref q1, .ref q5, .null, .null, .null, .null, .null, .null, .int 0, .int 0, .int 0])), (q1, .inr (6, [.ref n2, .ref n3, .int 0])), (n2, .inl (n4, 30, .inl (fun _ => 0))), (q5, .inl (cA6, 5, .inr (.inr (.inr (.inr (fun _ => none)))))), (q7, .inr (11, [.null, .null, .null, .int 0, .long 0]))] H := hP
  have hD : va_D A [(h0, .inr (17, [.ref q1, .ref q5, .null, .null, .null, .null, .null, .null, .int 0, .int 0, .int 0])), (q1, .inr (6, [.ref n2, .ref n3, .int 0])), (n2, .inl (n4, 30, .inl (fun _ => 0))), (q5, .inl (cA6, 5, .inr (.inr (.inr (.inr (fun _ => none)))))), (q7, .inr (11, [.null, .null, .null, .int 0, .long 0]))] := hD
  refine W.widen (k := 5) (n := 73) (by omega) (by omega) ?_
  refine lv_dup hx hb dX11_init_27 rfl ?_
  have hPc := hP.sub (ws' := [(q7, .inr (11, [.null, .null, .null, .int 0, .long 0]))]) [4] rfl
  have hDc := hD.sub (ws' := [(q7, .inr (11, [.null, .null, .null, .int 0, .long 0]))]) [4] (by decide) rfl
  have hKc := hK.sub (tys' := []) [] rfl
  have hFc := va_free (wc := [(q7, .inr (11, [.null, .null, .null, .int 0, .long 0]))]) hD hS hA [4] rfl
  refine va_callv (va_runIN (As := []) (rest := [.ref q7, .ref h0]) ⟨hx, hb, hml, hown, hts⟩ (c_X5_init l hst D H.size q7) ⟨va_cnB 0 hts (goodIn_sub (fun _ h => List.mem_cons_of_mem _ (List.mem_append_right _ (List.mem_append_right _ (List.mem_append_right _ (List.mem_append_right _ (List.mem_append_right _ (List.mem_append_left _ h))))))) zX5_init_ws_good) rfl rfl rfl (hz.2.2.1 (.methodLinkNest RX11 24 yX5_init RX11) (by decide +kernel)) (hts (.initialized RX5) (by decide +kernel)) (by decide +kernel) ⟨Nat.le_of_ble_eq_true rfl, Nat.le_of_ble_eq_true rfl⟩, rfl, (hts (.instanceMethod yX5_init) (by decide +kernel))⟩ ⟨zPre.blind, zPre.mk hPc hKc hDc hz hS (fun q h => hFc q h)⟩ rfl rfl hl.1 rfl (lv_room (Nat.le_of_ble_eq_true rfl)) dX11_init_28 ⟨Nat.le_of_ble_eq_true rfl, Nat.le_of_ble_eq_true rfl⟩) hS (fun q _ h => hFc q h) (fun q h => hFc q h) (fun u t H1 locs ht9 hvm hw hB hz1 hk1 hS => ?_)
  refine W.widen (k := 8) (n := 973) (by omega) (by omega) ?_
  obtain ⟨n8, n9, n10, hP1, hK1, hD1⟩ := hB
  rw [ht9] at hP1
  have hK1 := va_K.moved hvm.symm hK1
  obtain ⟨hP, hD⟩ := va_join (wr := [(h0, .inr (17, [.ref q1, .ref q5, .null, .null, .null, .null, .null, .null, .int 0, .int 0, .int 0])), (q1, .inr (6, [.ref n2, .ref n3, .int 0])), (n2, .inl (n4, 30, .inl (fun _ => 0))), (q5, .inl (cA6, 5, .inr (.inr (.inr (.inr (fun _ => none))))))]) (w1 := [(q7, .inr (11, [.ref n8, .ref n9, .ref n10, .int 0, .long 0]))]) hP hD [4] [0, 1, 2, 3] rfl rfl (by decide) (by decide) hk1 hFc hP1 hD1
  have hK := (hK.sub (tys' := [(n4, .int), (cA6, .object "HeatStadium$Event")]) [0, 1] rfl).app hK1
  generalize H1 = H at hP hS ⊢
  have hP : va_P D vwCl [(h0, .inr (17, [.ref q1, .ref q5, .null, .null, .null, .null, .null, .null, .int 0, .int 0, .int 0])), (q1, .inr (6, [.ref n2, .ref n3, .int 0])), (n2, .inl (n4, 30, .inl (fun _ => 0))), (q5, .inl (cA6, 5, .inr (.inr (.inr (.inr (fun _ => none)))))), (q7, .inr (11, [.ref n8, .ref n9, .ref n10, .int 0, .long 0]))] H := hP
  have hD : va_D A [(h0, .inr (17, [.ref q1, .ref q5, .null, .null, .null, .null, .null, .null, .int 0, .int 0, .int 0])), (q1, .inr (6, [.ref n2, .ref n3, .int 0])), (n2, .inl (n4, 30, .inl (fun _ => 0))), (q5, .inl (cA6, 5, .inr (.inr (.inr (.inr (fun _ => none)))))), (q7, .inr (11, [.ref n8, .ref n9, .ref n10, .int 0, .long 0]))] := hD
  have hK : va_K D vwCl [(n4, .int), (cA6, .object "HeatStadium$Event")] s := hK
  refine va_putF (D := D) (ci := 17) (v := .ref q7) (ty := .object "HeatStadium$Protests") (C := RX11) (T := TX11) (N := 11) hx hb hts (by decide +kernel) tyX11 tyX11_ok nmX11 hown hK hP hD hS 0 rfl rfl 2 (by decide) (hts (.fieldLink RX11 25 "HeatStadium" "protests" "LHeatStadium$Protests;") (by decide +kernel)) (fun _ h9 => h9) rfl hin rfl (by decide +kernel) rfl rfl (Nat.le_of_ble_eq_true rfl) dX11_init_31 (fun H locs hP hD hS => ?_)
  have hP : va_P D vwCl [(h0, .inr (17, [.ref q1, .ref q5, .ref q7, .null, .null, .null, .null, .null, .int 0, .int 0, .int 0])), (q1, .inr (6, [.ref n2, .ref n3, .int 0])), (n2, .inl (n4, 30, .inl (fun _ => 0))), (q5, .inl (cA6, 5, .inr (.inr (.inr (.inr (fun _ => none)))))), (q7, .inr (11, [.ref n8, .ref n9, .ref n10, .int 0, .long 0]))] H := hP
  have hD : va_D A [(h0, .inr (17, [.ref q1, .ref q5, .ref q7, .null, .null, .null, .null, .null, .int 0, .int 0, .int 0])), (q1, .inr (6, [.ref n2, .ref n3, .int 0])), (n2, .inl (n4, 30, .inl (fun _ => 0))), (q5, .inl (cA6, 5, .inr (.inr (.inr (.inr (fun _ => none)))))), (q7, .inr (11, [.ref n8, .ref n9, .ref n10, .int 0, .long 0]))] := hD
  refine lv_aload_n hx hb dX11_init_34 rfl (lv_at hl 0 rfl) ?_
  refine va_new (ci := 8) (fs := [.null, .null, .null, .null, .int 0]) (C := RX2) (T := TX2) (N := 5) hx hb hts (by decide +kernel) tyX2 tyX2_ok hown (hts (.classLink RX11 29 RX2) (by decide +kernel)) (hts (.instantiable RX2 5) (by decide +kernel)) (hts (.initialized RX2) (by decide +kernel)) hK hP hD hS hA rfl (fun j hj => by rcases (show j = 0 ∨ j = 1 ∨ j = 2 ∨ j = 3 ∨ j = 4 by omega) with rfl | rfl | rfl | rfl | rfl <;> rfl) (Nat.le_of_ble_eq_true rfl) (Nat.le_of_ble_eq_true rfl) dX11_init_35 (fun q11 H hP hD hS => ?_)
  have hP : va_P D vwCl [(h0, .inr (17, [.ref q1, .ref q5, .ref q7, .null, .null, .null, .null, .null, .int 0, .int 0, .int 0])), (q1, .inr (6, [.ref n2, .ref n3, .int 0])), (n2, .inl (n4, 30, .inl (fun _ => 0))), (q5, .inl (cA6, 5, .inr (.inr (.inr (.inr (fun _ => none)))))), (q7, .inr (11, [.ref n8, .ref n9, .ref n10, .int 0, .long 0])), (q11, .inr (8, [.null, .null, .null, .null, .int 0]))] H := hP
  have hD : va_D A [(h0, .inr (17, [.ref q1, .ref q5, .ref q7, .null, .null, .null, .null, .null, .int 0, .int 0, .int 0])), (q1, .inr (6, [.ref n2, .ref n3, .int 0])), (n2, .inl (n4, 30, .inl (fun _ => 0))), (q5, .inl (cA6, 5, .inr (.inr (.inr (.inr (fun _ => none)))))), (q7, .inr (11, [.ref n8, .ref n9, .ref n10, .int 0, .long 0])), (q11, .inr (8, [.null, .null, .null, .null, .int 0]))] := hD
  refine W.widen (k := 9) (n := 978) (by omega) (by omega) ?_
  refine lv_dup hx hb dX11_init_38 rfl ?_
  have hPc := hP.sub (ws' := [(q11, .inr (8, [.null, .null, .null, .null, .int 0]))]) [5] rfl
  have hDc := hD.sub (ws' := [(q11, .inr (8, [.null, .null, .null, .null, .int 0]))]) [5] (by decide) rfl
  have hKc := hK.sub (tys' := []) [] rfl
  have hFc := va_free (wc := [(q11, .inr (8, [.null, .null, .null, .null, .int 0]))]) hD hS hA [5] rfl
  refine va_callv (va_runIN (As := []) (rest := [.ref q11, .ref h0]) ⟨hx, hb, hml, hown, hts⟩ (c_X2_init l hst D H.size q11) ⟨va_cnB 0 hts (goodIn_sub (fun _ h => List.mem_cons_of_mem _ (List.mem_append_right _ (List.mem_append_right _ (List.mem_append_right _ (List.mem_append_right _ (List.mem_append_right _ (List.mem_append_right _ (List.mem_append_right _ (List.mem_append_left _ h))))))))) zX2_init_ws_good) rfl rfl rfl (hz.2.2.1 (.methodLinkNest RX11 31 yX2_init RX11) (by decide +kernel)) (hts (.initialized RX2) (by decide +kernel)) (by decide +kernel) ⟨Nat.le_of_ble_eq_true rfl, Nat.le_of_ble_eq_true rfl⟩, rfl, (hts (.instanceMethod yX2_init) (by decide +kernel))⟩ ⟨zPre.blind, zPre.mk hPc hKc hDc hz hS (fun q h => hFc q h)⟩ rfl rfl hl.1 rfl (lv_room (Nat.le_of_ble_eq_true rfl)) dX11_init_39 ⟨Nat.le_of_ble_eq_true rfl, Nat.le_of_ble_eq_true rfl⟩) hS (fun q _ h => hFc q h) (fun q h => hFc q h) (fun u t H1 locs ht9 hvm hw hB hz1 hk1 hS => ?_)
  refine W.widen (k := 13) (n := 1070) (by omega) (by omega) ?_
  obtain ⟨hP1, hK1, hD1⟩ := hB
  rw [ht9] at hP1
  have hK1 := va_K.moved hvm.symm hK1
  obtain ⟨hP, hD⟩ := va_join (wr := [(h0, .inr (17, [.ref q1, .ref q5, .ref q7, .null, .null, .null, .null, .null, .int 0, .int 0, .int 0])), (q1, .inr (6, [.ref n2, .ref n3, .int 0])), (n2, .inl (n4, 30, .inl (fun _ => 0))), (q5, .inl (cA6, 5, .inr (.inr (.inr (.inr (fun _ => none)))))), (q7, .inr (11, [.ref n8, .ref n9, .ref n10, .int 0, .long 0]))]) (w1 := []) hP hD [5] [0, 1, 2, 3, 4] rfl rfl (by decide) (by decide) hk1 hFc hP1 hD1
  have hK := (hK.sub (tys' := [(n4, .int), (cA6, .object "HeatStadium$Event")]) [0, 1] rfl).app hK1
  generalize H1 = H at hP hS ⊢
  have hP : va_P D vwCl [(h0, .inr (17, [.ref q1, .ref q5, .ref q7, .null, .null, .null, .null, .null, .int 0, .int 0, .int 0])), (q1, .inr (6, [.ref n2, .ref n3, .int 0])), (n2, .inl (n4, 30, .inl (fun _ => 0))), (q5, .inl (cA6, 5, .inr (.inr (.inr (.inr (fun _ => none)))))), (q7, .inr (11, [.ref n8, .ref n9, .ref n10, .int 0, .long 0]))] H := hP
  have hD : va_D A [(h0, .inr (17, [.ref q1, .ref q5, .ref q7, .null, .null, .null, .null, .null, .int 0, .int 0, .int 0])), (q1, .inr (6, [.ref n2, .ref n3, .int 0])), (n2, .inl (n4, 30, .inl (fun _ => 0))), (q5, .inl (cA6, 5, .inr (.inr (.inr (.inr (fun _ => none)))))), (q7, .inr (11, [.ref n8, .ref n9, .ref n10, .int 0, .long 0]))] := hD
  have hK : va_K D vwCl [(n4, .int), (cA6, .object "HeatStadium$Event")] s := hK
  refine va_putF (D := D) (ci := 17) (v := .ref q11) (ty := .object "HeatStadium$FieldNow") (C := RX11) (T := TX11) (N := 11) hx hb hts (by decide +kernel) tyX11 tyX11_ok nmX11 hown hK hP hD hS 0 rfl rfl 3 (by decide) (hts (.fieldLink RX11 32 "HeatStadium" "fieldNow" "LHeatStadium$FieldNow;") (by decide +kernel)) (fun _ h9 => h9) rfl hin rfl (by decide +kernel) rfl rfl (Nat.le_of_ble_eq_true rfl) dX11_init_42 (fun H locs hP hD hS => ?_)
  have hP : va_P D vwCl [(h0, .inr (17, [.ref q1, .ref q5, .ref q7, .ref q11, .null, .null, .null, .null, .int 0, .int 0, .int 0])), (q1, .inr (6, [.ref n2, .ref n3, .int 0])), (n2, .inl (n4, 30, .inl (fun _ => 0))), (q5, .inl (cA6, 5, .inr (.inr (.inr (.inr (fun _ => none)))))), (q7, .inr (11, [.ref n8, .ref n9, .ref n10, .int 0, .long 0]))] H := hP
  have hD : va_D A [(h0, .inr (17, [.ref q1, .ref q5, .ref q7, .ref q11, .null, .null, .null, .null, .int 0, .int 0, .int 0])), (q1, .inr (6, [.ref n2, .ref n3, .int 0])), (n2, .inl (n4, 30, .inl (fun _ => 0))), (q5, .inl (cA6, 5, .inr (.inr (.inr (.inr (fun _ => none)))))), (q7, .inr (11, [.ref n8, .ref n9, .ref n10, .int 0, .long 0]))] := hD
  refine lv_aload_n hx hb dX11_init_45 rfl (lv_at hl 0 rfl) ?_
  refine va_new (ci := 12) (fs := [.null, .null, .null, .null, .null, .null, .int 0, .int 0]) (C := RX6) (T := TX6) (N := 8) hx hb hts (by decide +kernel) tyX6 tyX6_ok hown (hts (.classLink RX11 36 RX6) (by decide +kernel)) (hts (.instantiable RX6 8) (by decide +kernel)) (hts (.initialized RX6) (by decide +kernel)) hK hP hD hS hA rfl (fun j hj => by rcases (show j = 0 ∨ j = 1 ∨ j = 2 ∨ j = 3 ∨ j = 4 ∨ j = 5 ∨ j = 6 ∨ j = 7 by omega) with rfl | rfl | rfl | rfl | rfl | rfl | rfl | rfl <;> rfl) (Nat.le_of_ble_eq_true rfl) (Nat.le_of_ble_eq_true rfl) dX11_init_46 (fun q12 H hP hD hS => ?_)
  have hP : va_P D vwCl [(h0, .inr (17, [.ref q1, .ref q5, .ref q7, .ref q11, .null, .null, .null, .null, .int 0, .int 0, .int 0])), (q1, .inr (6, [.ref n2, .ref n3, .int 0])), (n2, .inl (n4, 30, .inl (fun _ => 0))), (q5, .inl (cA6, 5, .inr (.inr (.inr (.inr (fun _ => none)))))), (q7, .inr (11, [.ref n8, .ref n9, .ref n10, .int 0, .long 0])), (q12, .inr (12, [.null, .null, .null, .null, .null, .null, .int 0, .int 0]))] H := hP
  have hD : va_D A [(h0, .inr (17, [.ref q1, .ref q5, .ref q7, .ref q11, .null, .null, .null, .null, .int 0, .int 0, .int 0])), (q1, .inr (6, [.ref n2, .ref n3, .int 0])), (n2, .inl (n4, 30, .inl (fun _ => 0))), (q5, .inl (cA6, 5, .inr (.inr (.inr (.inr (fun _ => none)))))), (q7, .inr (11, [.ref n8, .ref n9, .ref n10, .int 0, .long 0])), (q12, .inr (12, [.null, .null, .null, .null, .null, .null, .int 0, .int 0]))] := hD
  refine W.widen (k := 14) (n := 1078) (by omega) (by omega) ?_
  refine lv_dup hx hb dX11_init_49 rfl ?_
  have hPc := hP.sub (ws' := [(q12, .inr (12, [.null, .null, .null, .null, .null, .null, .int 0, .int 0]))]) [5] rfl
  have hDc := hD.sub (ws' := [(q12, .inr (12, [.null, .null, .null, .null, .null, .null, .int 0, .int 0]))]) [5] (by decide) rfl
  have hKc := hK.sub (tys' := []) [] rfl
  have hFc := va_free (wc := [(q12, .inr (12, [.null, .null, .null, .null, .null, .null, .int 0, .int 0]))]) hD hS hA [5] rfl
  refine va_callv (va_runIN (As := []) (rest := [.ref q12, .ref h0]) ⟨hx, hb, hml, hown, hts⟩ (c_X6_init l hst D H.size q12) ⟨va_cnB 0 hts (goodIn_sub (fun _ h => List.mem_cons_of_mem _ (List.mem_append_right _ (List.mem_append_right _ (List.mem_append_right _ (List.mem_append_right _ (List.mem_append_right _ (List.mem_append_right _ (List.mem_append_right _ (List.mem_append_right _ (List.mem_append_right _ (List.mem_append_left _ h))))))))))) zX6_init_ws_good) rfl rfl rfl (hz.2.2.1 (.methodLinkNest RX11 38 yX6_init RX11) (by decide +kernel)) (hts (.initialized RX6) (by decide +kernel)) (by decide +kernel) ⟨Nat.le_of_ble_eq_true rfl, Nat.le_of_ble_eq_true rfl⟩, rfl, (hts (.instanceMethod yX6_init) (by decide +kernel))⟩ ⟨zPre.blind, zPre.mk hPc hKc hDc hz hS (fun q h => hFc q h)⟩ rfl rfl hl.1 rfl (lv_room (Nat.le_of_ble_eq_true rfl)) dX11_init_50 ⟨Nat.le_of_ble_eq_true rfl, Nat.le_of_ble_eq_true rfl⟩) hS (fun q _ h => hFc q h) (fun q h => hFc q h) (fun u t H1 locs ht9 hvm hw hB hz1 hk1 hS => ?_)
  refine W.widen (k := 20) (n := 1212) (by omega) (by omega) ?_
  obtain ⟨hP1, hK1, hD1⟩ := hB
  rw [ht9] at hP1
  have hK1 := va_K.moved hvm.symm hK1
  obtain ⟨hP, hD⟩ := va_join (wr := [(h0, .inr (17, [.ref q1, .ref q5, .ref q7, .ref q11, .null, .null, .null, .null, .int 0, .int 0, .int 0])), (q1, .inr (6, [.ref n2, .ref n3, .int 0])), (n2, .inl (n4, 30, .inl (fun _ => 0))), (q5, .inl (cA6, 5, .inr (.inr (.inr (.inr (fun _ => none)))))), (q7, .inr (11, [.ref n8, .ref n9, .ref n10, .int 0, .long 0]))]) (w1 := []) hP hD [5] [0, 1, 2, 3, 4] rfl rfl (by decide) (by decide) hk1 hFc hP1 hD1
  have hK := (hK.sub (tys' := [(n4, .int), (cA6, .object "HeatStadium$Event")]) [0, 1] rfl).app hK1
  generalize H1 = H at hP hS ⊢
  have hP : va_P D vwCl [(h0, .inr (17, [.ref q1, .ref q5, .ref q7, .ref q11, .null, .null, .null, .null, .int 0, .int 0, .int 0])), (q1, .inr (6, [.ref n2, .ref n3, .int 0])), (n2, .inl (n4, 30, .inl (fun _ => 0))), (q5, .inl (cA6, 5, .inr (.inr (.inr (.inr (fun _ => none)))))), (q7, .inr (11, [.ref n8, .ref n9, .ref n10, .int 0, .long 0]))] H := hP
  have hD : va_D A [(h0, .inr (17, [.ref q1, .ref q5, .ref q7, .ref q11, .null, .null, .null, .null, .int 0, .int 0, .int 0])), (q1, .inr (6, [.ref n2, .ref n3, .int 0])), (n2, .inl (n4, 30, .inl (fun _ => 0))), (q5, .inl (cA6, 5, .inr (.inr (.inr (.inr (fun _ => none)))))), (q7, .inr (11, [.ref n8, .ref n9, .ref n10, .int 0, .long 0]))] := hD
  have hK : va_K D vwCl [(n4, .int), (cA6, .object "HeatStadium$Event")] s := hK
  refine va_putF (D := D) (ci := 17) (v := .ref q12) (ty := .object "HeatStadium$RaceDraw") (C := RX11) (T := TX11) (N := 11) hx hb hts (by decide +kernel) tyX11 tyX11_ok nmX11 hown hK hP hD hS 0 rfl rfl 4 (by decide) (hts (.fieldLink RX11 39 "HeatStadium" "draw" "LHeatStadium$RaceDraw;") (by decide +kernel)) (fun _ h9 => h9) rfl hin rfl (by decide +kernel) rfl rfl (Nat.le_of_ble_eq_true rfl) dX11_init_53 (fun H locs hP hD hS => ?_)
  have hP : va_P D vwCl [(h0, .inr (17, [.ref q1, .ref q5, .ref q7, .ref q11, .ref q12, .null, .null, .null, .int 0, .int 0, .int 0])), (q1, .inr (6, [.ref n2, .ref n3, .int 0])), (n2, .inl (n4, 30, .inl (fun _ => 0))), (q5, .inl (cA6, 5, .inr (.inr (.inr (.inr (fun _ => none)))))), (q7, .inr (11, [.ref n8, .ref n9, .ref n10, .int 0, .long 0]))] H := hP
  have hD : va_D A [(h0, .inr (17, [.ref q1, .ref q5, .ref q7, .ref q11, .ref q12, .null, .null, .null, .int 0, .int 0, .int 0])), (q1, .inr (6, [.ref n2, .ref n3, .int 0])), (n2, .inl (n4, 30, .inl (fun _ => 0))), (q5, .inl (cA6, 5, .inr (.inr (.inr (.inr (fun _ => none)))))), (q7, .inr (11, [.ref n8, .ref n9, .ref n10, .int 0, .long 0]))] := hD
  refine lv_aload_n hx hb dX11_init_56 rfl (lv_at hl 0 rfl) ?_
  refine va_new (ci := 14) (fs := [.null, .null, .null, .null]) (C := RX8) (T := TX8) (N := 4) hx hb hts (by decide +kernel) tyX8 tyX8_ok hown (hts (.classLink RX11 43 RX8) (by decide +kernel)) (hts (.instantiable RX8 4) (by decide +kernel)) (hts (.initialized RX8) (by decide +kernel)) hK hP hD hS hA rfl (fun j hj => by rcases (show j = 0 ∨ j = 1 ∨ j = 2 ∨ j = 3 by omega) with rfl | rfl | rfl | rfl <;> rfl) (Nat.le_of_ble_eq_true rfl) (Nat.le_of_ble_eq_true rfl) dX11_init_57 (fun q13 H hP hD hS => ?_)
  have hP : va_P D vwCl [(h0, .inr (17, [.ref q1, .ref q5, .ref q7, .ref q11, .ref q12, .null, .null, .null, .int 0, .int 0, .int 0])), (q1, .inr (6, [.ref n2, .ref n3, .int 0])), (n2, .inl (n4, 30, .inl (fun _ => 0))), (q5, .inl (cA6, 5, .inr (.inr (.inr (.inr (fun _ => none)))))), (q7, .inr (11, [.ref n8, .ref n9, .ref n10, .int 0, .long 0])), (q13, .inr (14, [.null, .null, .null, .null]))] H := hP
  have hD : va_D A [(h0, .inr (17, [.ref q1, .ref q5, .ref q7, .ref q11, .ref q12, .null, .null, .null, .int 0, .int 0, .int 0])), (q1, .inr (6, [.ref n2, .ref n3, .int 0])), (n2, .inl (n4, 30, .inl (fun _ => 0))), (q5, .inl (cA6, 5, .inr (.inr (.inr (.inr (fun _ => none)))))), (q7, .inr (11, [.ref n8, .ref n9, .ref n10, .int 0, .long 0])), (q13, .inr (14, [.null, .null, .null, .null]))] := hD
  refine W.widen (k := 21) (n := 1216) (by omega) (by omega) ?_
  refine lv_dup hx hb dX11_init_60 rfl ?_
  have hPc := hP.sub (ws' := [(q13, .inr (14, [.null, .null, .null, .null]))]) [5] rfl
  have hDc := hD.sub (ws' := [(q13, .inr (14, [.null, .null, .null, .null]))]) [5] (by decide) rfl
  have hKc := hK.sub (tys' := []) [] rfl
  have hFc := va_free (wc := [(q13, .inr (14, [.null, .null, .null, .null]))]) hD hS hA [5] rfl
  refine va_callv (va_runIN (As := []) (rest := [.ref q13, .ref h0]) ⟨hx, hb, hml, hown, hts⟩ (c_X8_init l hst D H.size q13) ⟨va_cnB 0 hts (goodIn_sub (fun _ h => List.mem_cons_of_mem _ (List.mem_append_right _ (List.mem_append_right _ (List.mem_append_right _ (List.mem_append_right _ (List.mem_append_right _ (List.mem_append_right _ (List.mem_append_right _ (List.mem_append_right _ (List.mem_append_right _ (List.mem_append_right _ (List.mem_append_right _ (List.mem_append_left _ h))))))))))))) zX8_init_ws_good) rfl rfl rfl (hz.2.2.1 (.methodLinkNest RX11 45 yX8_init RX11) (by decide +kernel)) (hts (.initialized RX8) (by decide +kernel)) (by decide +kernel) ⟨Nat.le_of_ble_eq_true rfl, Nat.le_of_ble_eq_true rfl⟩, rfl, (hts (.instanceMethod yX8_init) (by decide +kernel))⟩ ⟨zPre.blind, zPre.mk hPc hKc hDc hz hS (fun q h => hFc q h)⟩ rfl rfl hl.1 rfl (lv_room (Nat.le_of_ble_eq_true rfl)) dX11_init_61 ⟨Nat.le_of_ble_eq_true rfl, Nat.le_of_ble_eq_true rfl⟩) hS (fun q _ h => hFc q h) (fun q h => hFc q h) (fun u t H1 locs ht9 hvm hw hB hz1 hk1 hS => ?_)
  refine W.widen (k := 55) (n := 1516) (by omega) (by omega) ?_
  obtain ⟨hP1, hK1, hD1⟩ := hB
  rw [ht9] at hP1
  have hK1 := va_K.moved hvm.symm hK1
  obtain ⟨hP, hD⟩ := va_join (wr := [(h0, .inr (17, [.ref q1, .ref q5, .ref q7, .ref q11, .ref q12, .null, .null, .null, .int 0, .int 0, .int 0])), (q1, .inr (6, [.ref n2, .ref n3, .int 0])), (n2, .inl (n4, 30, .inl (fun _ => 0))), (q5, .inl (cA6, 5, .inr (.inr (.inr (.inr (fun _ => none)))))), (q7, .inr (11, [.ref n8, .ref n9, .ref n10, .int 0, .long 0]))]) (w1 := []) hP hD [5] [0, 1, 2, 3, 4] rfl rfl (by decide) (by decide) hk1 hFc hP1 hD1
  have hK := (hK.sub (tys' := [(n4, .int), (cA6, .object "HeatStadium$Event")]) [0, 1] rfl).app hK1
  generalize H1 = H at hP hS ⊢
  have hP : va_P D vwCl [(h0, .inr (17, [.ref q1, .ref q5, .ref q7, .ref q11, .ref q12, .null, .null, .null, .int 0, .int 0, .int 0])), (q1, .inr (6, [.ref n2, .ref n3, .int 0])), (n2, .inl (n4, 30, .inl (fun _ => 0))), (q5, .inl (cA6, 5, .inr (.inr (.inr (.inr (fun _ => none)))))), (q7, .inr (11, [.ref n8, .ref n9, .ref n10, .int 0, .long 0]))] H := hP
  have hD : va_D A [(h0, .inr (17, [.ref q1, .ref q5, .ref q7, .ref q11, .ref q12, .null, .null, .null, .int 0, .int 0, .int 0])), (q1, .inr (6, [.ref n2, .ref n3, .int 0])), (n2, .inl (n4, 30, .inl (fun _ => 0))), (q5, .inl (cA6, 5, .inr (.inr (.inr (.inr (fun _ => none)))))), (q7, .inr (11, [.ref n8, .ref n9, .ref n10, .int 0, .long 0]))] := hD
  have hK : va_K D vwCl [(n4, .int), (cA6, .object "HeatStadium$Event")] s := hK
  refine va_putF (D := D) (ci := 17) (v := .ref q13) (ty := .object "HeatStadium$Results") (C := RX11) (T := TX11) (N := 11) hx hb hts (by decide +kernel) tyX11 tyX11_ok nmX11 hown hK hP hD hS 0 rfl rfl 5 (by decide) (hts (.fieldLink RX11 46 "HeatStadium" "results" "LHeatStadium$Results;") (by decide +kernel)) (fun _ h9 => h9) rfl hin rfl (by decide +kernel) rfl rfl (Nat.le_of_ble_eq_true rfl) dX11_init_64 (fun H locs hP hD hS => ?_)
  have hP : va_P D vwCl [(h0, .inr (17, [.ref q1, .ref q5, .ref q7, .ref q11, .ref q12, .ref q13, .null, .null, .int 0, .int 0, .int 0])), (q1, .inr (6, [.ref n2, .ref n3, .int 0])), (n2, .inl (n4, 30, .inl (fun _ => 0))), (q5, .inl (cA6, 5, .inr (.inr (.inr (.inr (fun _ => none)))))), (q7, .inr (11, [.ref n8, .ref n9, .ref n10, .int 0, .long 0]))] H := hP
  have hD : va_D A [(h0, .inr (17, [.ref q1, .ref q5, .ref q7, .ref q11, .ref q12, .ref q13, .null, .null, .int 0, .int 0, .int 0])), (q1, .inr (6, [.ref n2, .ref n3, .int 0])), (n2, .inl (n4, 30, .inl (fun _ => 0))), (q5, .inl (cA6, 5, .inr (.inr (.inr (.inr (fun _ => none)))))), (q7, .inr (11, [.ref n8, .ref n9, .ref n10, .int 0, .long 0]))] := hD
  refine lv_aload_n hx hb dX11_init_67 rfl (lv_at hl 0 rfl) ?_
  refine va_new (ci := 13) (fs := [.int 0, .int 0, .int 0, .int 0, .int 0]) (C := RX7) (T := TX7) (N := 5) hx hb hts (by decide +kernel) tyX7 tyX7_ok hown (hts (.classLink RX11 50 RX7) (by decide +kernel)) (hts (.instantiable RX7 5) (by decide +kernel)) (hts (.initialized RX7) (by decide +kernel)) hK hP hD hS hA rfl (fun j hj => by rcases (show j = 0 ∨ j = 1 ∨ j = 2 ∨ j = 3 ∨ j = 4 by omega) with rfl | rfl | rfl | rfl | rfl <;> rfl) (Nat.le_of_ble_eq_true rfl) (Nat.le_of_ble_eq_true rfl) dX11_init_68 (fun q14 H hP hD hS => ?_)
  have hP : va_P D vwCl [(h0, .inr (17, [.ref q1, .ref q5, .ref q7, .ref q11, .ref q12, .ref q13, .null, .null, .int 0, .int 0, .int 0])), (q1, .inr (6, [.ref n2, .ref n3, .int 0])), (n2, .inl (n4, 30, .inl (fun _ => 0))), (q5, .inl (cA6, 5, .inr (.inr (.inr (.inr (fun _ => none)))))), (q7, .inr (11, [.ref n8, .ref n9, .ref n10, .int 0, .long 0])), (q14, .inr (13, [.int 0, .int 0, .int 0, .int 0, .int 0]))] H := hP
  have hD : va_D A [(h0, .inr (17, [.ref q1, .ref q5, .ref q7, .ref q11, .ref q12, .ref q13, .null, .null, .int 0, .int 0, .int 0])), (q1, .inr (6, [.ref n2, .ref n3, .int 0])), (n2, .inl (n4, 30, .inl (fun _ => 0))), (q5, .inl (cA6, 5, .inr (.inr (.inr (.inr (fun _ => none)))))), (q7, .inr (11, [.ref n8, .ref n9, .ref n10, .int 0, .long 0])), (q14, .inr (13, [.int 0, .int 0, .int 0, .int 0, .int 0]))] := hD
  refine W.widen (k := 56) (n := 1521) (by omega) (by omega) ?_
  refine lv_dup hx hb dX11_init_71 rfl ?_
  have hPc := hP.sub (ws' := [(q14, .inr (13, [.int 0, .int 0, .int 0, .int 0, .int 0]))]) [5] rfl
  have hDc := hD.sub (ws' := [(q14, .inr (13, [.int 0, .int 0, .int 0, .int 0, .int 0]))]) [5] (by decide) rfl
  have hKc := hK.sub (tys' := []) [] rfl
  have hFc := va_free (wc := [(q14, .inr (13, [.int 0, .int 0, .int 0, .int 0, .int 0]))]) hD hS hA [5] rfl
  refine va_callv (va_runIN (As := []) (rest := [.ref q14, .ref h0]) ⟨hx, hb, hml, hown, hts⟩ (c_X7_init l hst D H.size q14) ⟨va_cnB 0 hts (goodIn_sub (fun _ h => List.mem_cons_of_mem _ (List.mem_append_right _ (List.mem_append_right _ (List.mem_append_right _ (List.mem_append_right _ (List.mem_append_right _ (List.mem_append_right _ (List.mem_append_right _ (List.mem_append_right _ (List.mem_append_right _ (List.mem_append_right _ (List.mem_append_right _ (List.mem_append_right _ (List.mem_append_right _ (List.mem_append_left _ h))))))))))))))) zX7_init_ws_good) rfl rfl rfl (hz.2.2.1 (.methodLinkNest RX11 52 yX7_init RX11) (by decide +kernel)) (hts (.initialized RX7) (by decide +kernel)) (by decide +kernel) ⟨Nat.le_of_ble_eq_true rfl, Nat.le_of_ble_eq_true rfl⟩, rfl, (hts (.instanceMethod yX7_init) (by decide +kernel))⟩ ⟨zPre.blind, zPre.mk hPc hKc hDc hz hS (fun q h => hFc q h)⟩ rfl rfl hl.1 rfl (lv_room (Nat.le_of_ble_eq_true rfl)) dX11_init_72 ⟨Nat.le_of_ble_eq_true rfl, Nat.le_of_ble_eq_true rfl⟩) hS (fun q _ h => hFc q h) (fun q h => hFc q h) (fun u t H1 locs ht9 hvm hw hB hz1 hk1 hS => ?_)
  refine W.widen (k := 56) (n := 1521) (by omega) (by omega) ?_
  obtain ⟨hP1, hK1, hD1⟩ := hB
  rw [ht9] at hP1
  have hK1 := va_K.moved hvm.symm hK1
  obtain ⟨hP, hD⟩ := va_join (wr := [(h0, .inr (17, [.ref q1, .ref q5, .ref q7, .ref q11, .ref q12, .ref q13, .null, .null, .int 0, .int 0, .int 0])), (q1, .inr (6, [.ref n2, .ref n3, .int 0])), (n2, .inl (n4, 30, .inl (fun _ => 0))), (q5, .inl (cA6, 5, .inr (.inr (.inr (.inr (fun _ => none)))))), (q7, .inr (11, [.ref n8, .ref n9, .ref n10, .int 0, .long 0]))]) (w1 := []) hP hD [5] [0, 1, 2, 3, 4] rfl rfl (by decide) (by decide) hk1 hFc hP1 hD1
  have hK := (hK.sub (tys' := [(n4, .int), (cA6, .object "HeatStadium$Event")]) [0, 1] rfl).app hK1
  generalize H1 = H at hP hS ⊢
  have hP : va_P D vwCl [(h0, .inr (17, [.ref q1, .ref q5, .ref q7, .ref q11, .ref q12, .ref q13, .null, .null, .int 0, .int 0, .int 0])), (q1, .inr (6, [.ref n2, .ref n3, .int 0])), (n2, .inl (n4, 30, .inl (fun _ => 0))), (q5, .inl (cA6, 5, .inr (.inr (.inr (.inr (fun _ => none)))))), (q7, .inr (11, [.ref n8, .ref n9, .ref n10, .int 0, .long 0]))] H := hP
  have hD : va_D A [(h0, .inr (17, [.ref q1, .ref q5, .ref q7, .ref q11, .ref q12, .ref q13, .null, .null, .int 0, .int 0, .int 0])), (q1, .inr (6, [.ref n2, .ref n3, .int 0])), (n2, .inl (n4, 30, .inl (fun _ => 0))), (q5, .inl (cA6, 5, .inr (.inr (.inr (.inr (fun _ => none)))))), (q7, .inr (11, [.ref n8, .ref n9, .ref n10, .int 0, .long 0]))] := hD
  have hK : va_K D vwCl [(n4, .int), (cA6, .object "HeatStadium$Event")] s := hK
  refine va_putF (D := D) (ci := 17) (v := .ref q14) (ty := .object "HeatStadium$RecordMark") (C := RX11) (T := TX11) (N := 11) hx hb hts (by decide +kernel) tyX11 tyX11_ok nmX11 hown hK hP hD hS 0 rfl rfl 6 (by decide) (hts (.fieldLink RX11 53 "HeatStadium" "best" "LHeatStadium$RecordMark;") (by decide +kernel)) (fun _ h9 => h9) rfl hin rfl (by decide +kernel) rfl rfl (Nat.le_of_ble_eq_true rfl) dX11_init_75 (fun H locs hP hD hS => ?_)
  have hP : va_P D vwCl [(h0, .inr (17, [.ref q1, .ref q5, .ref q7, .ref q11, .ref q12, .ref q13, .ref q14, .null, .int 0, .int 0, .int 0])), (q1, .inr (6, [.ref n2, .ref n3, .int 0])), (n2, .inl (n4, 30, .inl (fun _ => 0))), (q5, .inl (cA6, 5, .inr (.inr (.inr (.inr (fun _ => none)))))), (q7, .inr (11, [.ref n8, .ref n9, .ref n10, .int 0, .long 0]))] H := hP
  have hD : va_D A [(h0, .inr (17, [.ref q1, .ref q5, .ref q7, .ref q11, .ref q12, .ref q13, .ref q14, .null, .int 0, .int 0, .int 0])), (q1, .inr (6, [.ref n2, .ref n3, .int 0])), (n2, .inl (n4, 30, .inl (fun _ => 0))), (q5, .inl (cA6, 5, .inr (.inr (.inr (.inr (fun _ => none)))))), (q7, .inr (11, [.ref n8, .ref n9, .ref n10, .int 0, .long 0]))] := hD
  refine lv_aload_n hx hb dX11_init_78 rfl (lv_at hl 0 rfl) ?_
  refine va_new (ci := 10) (fs := [.null, .int 0]) (C := RX4) (T := TX4) (N := 2) hx hb hts (by decide +kernel) tyX4 tyX4_ok hown (hts (.classLink RX11 57 RX4) (by decide +kernel)) (hts (.instantiable RX4 2) (by decide +kernel)) (hts (.initialized RX4) (by decide +kernel)) hK hP hD hS hA rfl (fun j hj => by rcases (show j = 0 ∨ j = 1 by omega) with rfl | rfl <;> rfl) (Nat.le_of_ble_eq_true rfl) (Nat.le_of_ble_eq_true rfl) dX11_init_79 (fun q15 H hP hD hS => ?_)
  have hP : va_P D vwCl [(h0, .inr (17, [.ref q1, .ref q5, .ref q7, .ref q11, .ref q12, .ref q13, .ref q14, .null, .int 0, .int 0, .int 0])), (q1, .inr (6, [.ref n2, .ref n3, .int 0])), (n2, .inl (n4, 30, .inl (fun _ => 0))), (q5, .inl (cA6, 5, .inr (.inr (.inr (.inr (fun _ => none)))))), (q7, .inr (11, [.ref n8, .ref n9, .ref n10, .int 0, .long 0])), (q15, .inr (10, [.null, .int 0]))] H := hP
  have hD : va_D A [(h0, .inr (17, [.ref q1, .ref q5, .ref q7, .ref q11, .ref q12, .ref q13, .ref q14, .null, .int 0, .int 0, .int 0])), (q1, .inr (6, [.ref n2, .ref n3, .int 0])), (n2, .inl (n4, 30, .inl (fun _ => 0))), (q5, .inl (cA6, 5, .inr (.inr (.inr (.inr (fun _ => none)))))), (q7, .inr (11, [.ref n8, .ref n9, .ref n10, .int 0, .long 0])), (q15, .inr (10, [.null, .int 0]))] := hD
  refine W.widen (k := 57) (n := 1523) (by omega) (by omega) ?_
  refine lv_dup hx hb dX11_init_82 rfl ?_
  have hPc := hP.sub (ws' := [(q15, .inr (10, [.null, .int 0]))]) [5] rfl
  have hDc := hD.sub (ws' := [(q15, .inr (10, [.null, .int 0]))]) [5] (by decide) rfl
  have hKc := hK.sub (tys' := []) [] rfl
  have hFc := va_free (wc := [(q15, .inr (10, [.null, .int 0]))]) hD hS hA [5] rfl
  refine va_callv (va_runIN (As := []) (rest := [.ref q15, .ref h0]) ⟨hx, hb, hml, hown, hts⟩ (c_X4_init l hst D H.size q15) ⟨va_cnB 0 hts (goodIn_sub (fun _ h => List.mem_cons_of_mem _ (List.mem_append_right _ (List.mem_append_right _ (List.mem_append_right _ (List.mem_append_right _ (List.mem_append_right _ (List.mem_append_right _ (List.mem_append_right _ (List.mem_append_right _ (List.mem_append_right _ (List.mem_append_right _ (List.mem_append_right _ (List.mem_append_right _ (List.mem_append_right _ (List.mem_append_right _ (List.mem_append_right _ (List.mem_append_left _ h))))))))))))))))) zX4_init_ws_good) rfl rfl rfl (hz.2.2.1 (.methodLinkNest RX11 59 yX4_init RX11) (by decide +kernel)) (hts (.initialized RX4) (by decide +kernel)) (by decide +kernel) ⟨Nat.le_of_ble_eq_true rfl, Nat.le_of_ble_eq_true rfl⟩, rfl, (hts (.instanceMethod yX4_init) (by decide +kernel))⟩ ⟨zPre.blind, zPre.mk hPc hKc hDc hz hS (fun q h => hFc q h)⟩ rfl rfl hl.1 rfl (lv_room (Nat.le_of_ble_eq_true rfl)) dX11_init_83 ⟨Nat.le_of_ble_eq_true rfl, Nat.le_of_ble_eq_true rfl⟩) hS (fun q _ h => hFc q h) (fun q h => hFc q h) (fun u t H1 locs ht9 hvm hw hB hz1 hk1 hS => ?_)
  refine W.widen (k := 66) (n := 1563) (by omega) (by omega) ?_
  obtain ⟨g, og, LR, cG, cI, hg, hP1, hK1, hD1⟩ := hB
  rw [ht9] at hP1
  have hK1 := va_K.moved hvm.symm hK1
  obtain ⟨hP, hD⟩ := va_join (wr := [(h0, .inr (17, [.ref q1, .ref q5, .ref q7, .ref q11, .ref q12, .ref q13, .ref q14, .null, .int 0, .int 0, .int 0])), (q1, .inr (6, [.ref n2, .ref n3, .int 0])), (n2, .inl (n4, 30, .inl (fun _ => 0))), (q5, .inl (cA6, 5, .inr (.inr (.inr (.inr (fun _ => none)))))), (q7, .inr (11, [.ref n8, .ref n9, .ref n10, .int 0, .long 0]))]) (w1 := [(q15, .inr (10, [.ref g, .int 0])), (g, .inl (cG, 8, .inr (.inr (.inr (.inr og)))))] ++ va_pl LR (zrow cI)) hP hD [5] [0, 1, 2, 3, 4] rfl rfl (by decide) (by decide) hk1 hFc hP1 hD1
  have hK := (hK.sub (tys' := [(n4, .int), (cA6, .object "HeatStadium$Event")]) [0, 1] rfl).app hK1
  generalize H1 = H at hP hS ⊢
  have hP : va_P D vwCl ([(h0, .inr (17, [.ref q1, .ref q5, .ref q7, .ref q11, .ref q12, .ref q13, .ref q14, .null, .int 0, .int 0, .int 0])), (q1, .inr (6, [.ref n2, .ref n3, .int 0])), (n2, .inl (n4, 30, .inl (fun _ => 0))), (q5, .inl (cA6, 5, .inr (.inr (.inr (.inr (fun _ => none)))))), (q7, .inr (11, [.ref n8, .ref n9, .ref n10, .int 0, .long 0])), (q15, .inr (10, [.ref g, .int 0])), (g, .inl (cG, 8, .inr (.inr (.inr (.inr og)))))] ++ va_pl LR (zrow cI)) H := hP
  have hD : va_D A ([(h0, .inr (17, [.ref q1, .ref q5, .ref q7, .ref q11, .ref q12, .ref q13, .ref q14, .null, .int 0, .int 0, .int 0])), (q1, .inr (6, [.ref n2, .ref n3, .int 0])), (n2, .inl (n4, 30, .inl (fun _ => 0))), (q5, .inl (cA6, 5, .inr (.inr (.inr (.inr (fun _ => none)))))), (q7, .inr (11, [.ref n8, .ref n9, .ref n10, .int 0, .long 0])), (q15, .inr (10, [.ref g, .int 0])), (g, .inl (cG, 8, .inr (.inr (.inr (.inr og)))))] ++ va_pl LR (zrow cI)) := hD
  have hK : va_K D vwCl [(n4, .int), (cA6, .object "HeatStadium$Event"), (cG, .array .int), (cI, .int)] s := hK
  refine va_putF (D := D) (ci := 17) (v := .ref q15) (ty := .object "HeatStadium$MedalTable") (C := RX11) (T := TX11) (N := 11) hx hb hts (by decide +kernel) tyX11 tyX11_ok nmX11 hown hK hP hD hS 0 rfl rfl 7 (by decide) (hts (.fieldLink RX11 60 "HeatStadium" "table" "LHeatStadium$MedalTable;") (by decide +kernel)) (fun _ h9 => h9) rfl hin rfl (by decide +kernel) rfl rfl (Nat.le_of_ble_eq_true rfl) dX11_init_86 (fun H locs hP hD hS => ?_)
  have hP : va_P D vwCl ([(h0, .inr (17, [.ref q1, .ref q5, .ref q7, .ref q11, .ref q12, .ref q13, .ref q14, .ref q15, .int 0, .int 0, .int 0])), (q1, .inr (6, [.ref n2, .ref n3, .int 0])), (n2, .inl (n4, 30, .inl (fun _ => 0))), (q5, .inl (cA6, 5, .inr (.inr (.inr (.inr (fun _ => none)))))), (q7, .inr (11, [.ref n8, .ref n9, .ref n10, .int 0, .long 0])), (q15, .inr (10, [.ref g, .int 0])), (g, .inl (cG, 8, .inr (.inr (.inr (.inr og)))))] ++ va_pl LR (zrow cI)) H := hP
  have hD : va_D A ([(h0, .inr (17, [.ref q1, .ref q5, .ref q7, .ref q11, .ref q12, .ref q13, .ref q14, .ref q15, .int 0, .int 0, .int 0])), (q1, .inr (6, [.ref n2, .ref n3, .int 0])), (n2, .inl (n4, 30, .inl (fun _ => 0))), (q5, .inl (cA6, 5, .inr (.inr (.inr (.inr (fun _ => none)))))), (q7, .inr (11, [.ref n8, .ref n9, .ref n10, .int 0, .long 0])), (q15, .inr (10, [.ref g, .int 0])), (g, .inl (cG, 8, .inr (.inr (.inr (.inr og)))))] ++ va_pl LR (zrow cI)) := hD
  refine lv_aload_n hx hb dX11_init_89 rfl (lv_at hl 0 rfl) ?_
  refine lv_iconst (v := 0) hx hb dX11_init_90 (by decide) ?_
  refine va_put (D := D) (ci := 17) (v := .int 0) (ty := .int) (C := RX11) (T := TX11) (N := 11) hx hb hts (by decide +kernel) tyX11 tyX11_ok nmX11 hown hK hP hD hS 0 rfl rfl 8 (by decide) (hts (.fieldLink RX11 64 "HeatStadium" "eventCount" "I") (by decide +kernel)) (fun _ h9 => h9) rfl (by decide +kernel) rfl rfl (Nat.le_of_ble_eq_true rfl) dX11_init_91 (fun H locs hP hD hS => ?_)
  have hP : va_P D vwCl ([(h0, .inr (17, [.ref q1, .ref q5, .ref q7, .ref q11, .ref q12, .ref q13, .ref q14, .ref q15, .int 0, .int 0, .int 0])), (q1, .inr (6, [.ref n2, .ref n3, .int 0])), (n2, .inl (n4, 30, .inl (fun _ => 0))), (q5, .inl (cA6, 5, .inr (.inr (.inr (.inr (fun _ => none)))))), (q7, .inr (11, [.ref n8, .ref n9, .ref n10, .int 0, .long 0])), (q15, .inr (10, [.ref g, .int 0])), (g, .inl (cG, 8, .inr (.inr (.inr (.inr og)))))] ++ va_pl LR (zrow cI)) H := hP
  have hD : va_D A ([(h0, .inr (17, [.ref q1, .ref q5, .ref q7, .ref q11, .ref q12, .ref q13, .ref q14, .ref q15, .int 0, .int 0, .int 0])), (q1, .inr (6, [.ref n2, .ref n3, .int 0])), (n2, .inl (n4, 30, .inl (fun _ => 0))), (q5, .inl (cA6, 5, .inr (.inr (.inr (.inr (fun _ => none)))))), (q7, .inr (11, [.ref n8, .ref n9, .ref n10, .int 0, .long 0])), (q15, .inr (10, [.ref g, .int 0])), (g, .inl (cG, 8, .inr (.inr (.inr (.inr og)))))] ++ va_pl LR (zrow cI)) := hD
  refine lv_aload_n hx hb dX11_init_94 rfl (lv_at hl 0 rfl) ?_
  refine lv_iconst (v := 0) hx hb dX11_init_95 (by decide) ?_
  refine va_put (D := D) (ci := 17) (v := .int 0) (ty := .int) (C := RX11) (T := TX11) (N := 11) hx hb hts (by decide +kernel) tyX11 tyX11_ok nmX11 hown hK hP hD hS 0 rfl rfl 9 (by decide) (hts (.fieldLink RX11 68 "HeatStadium" "minute" "I") (by decide +kernel)) (fun _ h9 => h9) rfl (by decide +kernel) rfl rfl (Nat.le_of_ble_eq_true rfl) dX11_init_96 (fun H locs hP hD hS => ?_)
  have hP : va_P D vwCl ([(h0, .inr (17, [.ref q1, .ref q5, .ref q7, .ref q11, .ref q12, .ref q13, .ref q14, .ref q15, .int 0, .int 0, .int 0])), (q1, .inr (6, [.ref n2, .ref n3, .int 0])), (n2, .inl (n4, 30, .inl (fun _ => 0))), (q5, .inl (cA6, 5, .inr (.inr (.inr (.inr (fun _ => none)))))), (q7, .inr (11, [.ref n8, .ref n9, .ref n10, .int 0, .long 0])), (q15, .inr (10, [.ref g, .int 0])), (g, .inl (cG, 8, .inr (.inr (.inr (.inr og)))))] ++ va_pl LR (zrow cI)) H := hP
  have hD : va_D A ([(h0, .inr (17, [.ref q1, .ref q5, .ref q7, .ref q11, .ref q12, .ref q13, .ref q14, .ref q15, .int 0, .int 0, .int 0])), (q1, .inr (6, [.ref n2, .ref n3, .int 0])), (n2, .inl (n4, 30, .inl (fun _ => 0))), (q5, .inl (cA6, 5, .inr (.inr (.inr (.inr (fun _ => none)))))), (q7, .inr (11, [.ref n8, .ref n9, .ref n10, .int 0, .long 0])), (q15, .inr (10, [.ref g, .int 0])), (g, .inl (cG, 8, .inr (.inr (.inr (.inr og)))))] ++ va_pl LR (zrow cI)) := hD
  refine lv_aload_n hx hb dX11_init_99 rfl (lv_at hl 0 rfl) ?_
  refine lv_iconst (v := 0) hx hb dX11_init_100 (by decide) ?_
  refine va_put (D := D) (ci := 17) (v := .int 0) (ty := .int) (C := RX11) (T := TX11) (N := 11) hx hb hts (by decide +kernel) tyX11 tyX11_ok nmX11 hown hK hP hD hS 0 rfl rfl 10 (by decide) (hts (.fieldLink RX11 71 "HeatStadium" "marksTold" "I") (by decide +kernel)) (fun _ h9 => h9) rfl (by decide +kernel) rfl rfl (Nat.le_of_ble_eq_true rfl) dX11_init_101 (fun H locs hP hD hS => ?_)
  have hP : va_P D vwCl ([(h0, .inr (17, [.ref q1, .ref q5, .ref q7, .ref q11, .ref q12, .ref q13, .ref q14, .ref q15, .int 0, .int 0, .int 0])), (q1, .inr (6, [.ref n2, .ref n3, .int 0])), (n2, .inl (n4, 30, .inl (fun _ => 0))), (q5, .inl (cA6, 5, .inr (.inr (.inr (.inr (fun _ => none)))))), (q7, .inr (11, [.ref n8, .ref n9, .ref n10, .int 0, .long 0])), (q15, .inr (10, [.ref g, .int 0])), (g, .inl (cG, 8, .inr (.inr (.inr (.inr og)))))] ++ va_pl LR (zrow cI)) H := hP
  have hD : va_D A ([(h0, .inr (17, [.ref q1, .ref q5, .ref q7, .ref q11, .ref q12, .ref q13, .ref q14, .ref q15, .int 0, .int 0, .int 0])), (q1, .inr (6, [.ref n2, .ref n3, .int 0])), (n2, .inl (n4, 30, .inl (fun _ => 0))), (q5, .inl (cA6, 5, .inr (.inr (.inr (.inr (fun _ => none)))))), (q7, .inr (11, [.ref n8, .ref n9, .ref n10, .int 0, .long 0])), (q15, .inr (10, [.ref g, .int 0])), (g, .inl (cG, 8, .inr (.inr (.inr (.inr og)))))] ++ va_pl LR (zrow cI)) := hD
  have hP9 := hP.part (cx := [(h0, .inr (17, [.ref q1, .ref q5, .ref q7, .ref q11, .ref q12, .ref q13, .ref q14, .ref q15, .int 0, .int 0, .int 0])), (q1, .inr (6, [.ref n2, .ref n3, .int 0])), (n2, .inl (n4, 30, .inl (fun _ => 0))), (q5, .inl (cA6, 5, .inr (.inr (.inr (.inr (fun _ => none)))))), (q7, .inr (11, [.ref n8, .ref n9, .ref n10, .int 0, .long 0])), (q15, .inr (10, [.ref g, .int 0])), (g, .inl (cG, 8, .inr (.inr (.inr (.inr og)))))]) [0, 1, 2, 3, 4, 5, 6] rfl
  have hD9 := hD.part (cx := [(h0, .inr (17, [.ref q1, .ref q5, .ref q7, .ref q11, .ref q12, .ref q13, .ref q14, .ref q15, .int 0, .int 0, .int 0])), (q1, .inr (6, [.ref n2, .ref n3, .int 0])), (n2, .inl (n4, 30, .inl (fun _ => 0))), (q5, .inl (cA6, 5, .inr (.inr (.inr (.inr (fun _ => none)))))), (q7, .inr (11, [.ref n8, .ref n9, .ref n10, .int 0, .long 0])), (q15, .inr (10, [.ref g, .int 0])), (g, .inl (cG, 8, .inr (.inr (.inr (.inr og)))))]) [0, 1, 2, 3, 4, 5, 6] (by decide) rfl
  have hK9 := hK.sub (tys' := [(n4, .int), (cA6, .object "HeatStadium$Event"), (cG, .array .int), (cI, .int)]) [0, 1, 2, 3] rfl
  rw [← hAe] at hD9
  refine W.widen (k := 100) (n := 2000) (by omega) (by omega) ?_
  subst hAe
  exact W.vret hx hb hr (fun t ht9 hW => ⟨⟨(), rfl, trivial, ⟨(fun k => ([q1, q5, q7, q11, q12, q13, q14, q15] : List Nat).getD k 0), n2, n3, n4, cA6, n8, n9, n10, g, og, LR, cG, cI, hg, by rw [ht9]; exact hP9, va_K.moved hW.alike hK9, hD9⟩⟩, hS.F ht9⟩) hS.2.2 dX11_init_104
