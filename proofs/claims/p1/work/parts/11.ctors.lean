/-! printed rows that this part uses -/
theorem dX0_init_0 : decode cX0_init 0 = .ok (.aload_n 0, 1) := by decide +kernel
theorem dX0_init_1 : decode cX0_init 1 = .ok (.invokespecial 3, 3) := by decide +kernel
theorem dX0_init_4 : decode cX0_init 4 = .ok (.aload_n 0, 1) := by decide +kernel
theorem dX0_init_5 : decode cX0_init 5 = .ok (.bipush 30, 2) := by decide +kernel
theorem dX0_init_7 : decode cX0_init 7 = .ok (.newarray .int, 2) := by decide +kernel
theorem dX0_init_9 : decode cX0_init 9 = .ok (.putfield 9, 3) := by decide +kernel
theorem dX0_init_12 : decode cX0_init 12 = .ok (.aload_n 0, 1) := by decide +kernel
theorem dX0_init_13 : decode cX0_init 13 = .ok (.bipush 30, 2) := by decide +kernel
theorem dX0_init_15 : decode cX0_init 15 = .ok (.newarray .boolean, 2) := by decide +kernel
theorem dX0_init_17 : decode cX0_init 17 = .ok (.putfield 15, 3) := by decide +kernel
theorem dX0_init_20 : decode cX0_init 20 = .ok (.return_, 1) := by decide +kernel
theorem dX2_init_0 : decode cX2_init 0 = .ok (.aload_n 0, 1) := by decide +kernel
theorem dX2_init_1 : decode cX2_init 1 = .ok (.invokespecial 3, 3) := by decide +kernel
theorem dX2_init_4 : decode cX2_init 4 = .ok (.aload_n 0, 1) := by decide +kernel
theorem dX2_init_5 : decode cX2_init 5 = .ok (.bipush 24, 2) := by decide +kernel
theorem dX2_init_7 : decode cX2_init 7 = .ok (.newarray .int, 2) := by decide +kernel
theorem dX2_init_9 : decode cX2_init 9 = .ok (.putfield 9, 3) := by decide +kernel
theorem dX2_init_12 : decode cX2_init 12 = .ok (.aload_n 0, 1) := by decide +kernel
theorem dX2_init_13 : decode cX2_init 13 = .ok (.bipush 30, 2) := by decide +kernel
theorem dX2_init_15 : decode cX2_init 15 = .ok (.newarray .boolean, 2) := by decide +kernel
theorem dX2_init_17 : decode cX2_init 17 = .ok (.putfield 15, 3) := by decide +kernel
theorem dX2_init_20 : decode cX2_init 20 = .ok (.aload_n 0, 1) := by decide +kernel
theorem dX2_init_21 : decode cX2_init 21 = .ok (.bipush 30, 2) := by decide +kernel
theorem dX2_init_23 : decode cX2_init 23 = .ok (.newarray .int, 2) := by decide +kernel
theorem dX2_init_25 : decode cX2_init 25 = .ok (.putfield 19, 3) := by decide +kernel
theorem dX2_init_28 : decode cX2_init 28 = .ok (.aload_n 0, 1) := by decide +kernel
theorem dX2_init_29 : decode cX2_init 29 = .ok (.bipush 8, 2) := by decide +kernel
theorem dX2_init_31 : decode cX2_init 31 = .ok (.newarray .int, 2) := by decide +kernel
theorem dX2_init_33 : decode cX2_init 33 = .ok (.putfield 22, 3) := by decide +kernel
theorem dX2_init_36 : decode cX2_init 36 = .ok (.return_, 1) := by decide +kernel
theorem dX3_init_0 : decode cX3_init 0 = .ok (.aload_n 0, 1) := by decide +kernel
theorem dX3_init_1 : decode cX3_init 1 = .ok (.invokespecial 3, 3) := by decide +kernel
theorem dX3_init_4 : decode cX3_init 4 = .ok (.aload_n 0, 1) := by decide +kernel
theorem dX3_init_5 : decode cX3_init 5 = .ok (.bipush 10, 2) := by decide +kernel
theorem dX3_init_7 : decode cX3_init 7 = .ok (.newarray .int, 2) := by decide +kernel
theorem dX3_init_9 : decode cX3_init 9 = .ok (.putfield 9, 3) := by decide +kernel
theorem dX3_init_12 : decode cX3_init 12 = .ok (.aload_n 0, 1) := by decide +kernel
theorem dX3_init_13 : decode cX3_init 13 = .ok (.bipush 30, 2) := by decide +kernel
theorem dX3_init_15 : decode cX3_init 15 = .ok (.bipush 10, 2) := by decide +kernel
theorem dX3_init_17 : decode cX3_init 17 = .ok (.multianewarray 15 2, 4) := by decide +kernel
theorem dX3_init_21 : decode cX3_init 21 = .ok (.putfield 17, 3) := by decide +kernel
theorem dX3_init_24 : decode cX3_init 24 = .ok (.aload_n 0, 1) := by decide +kernel
theorem dX3_init_25 : decode cX3_init 25 = .ok (.bipush 30, 2) := by decide +kernel
theorem dX3_init_27 : decode cX3_init 27 = .ok (.bipush 10, 2) := by decide +kernel
theorem dX3_init_29 : decode cX3_init 29 = .ok (.multianewarray 15 2, 4) := by decide +kernel
theorem dX3_init_33 : decode cX3_init 33 = .ok (.putfield 20, 3) := by decide +kernel
theorem dX3_init_36 : decode cX3_init 36 = .ok (.aload_n 0, 1) := by decide +kernel
theorem dX3_init_37 : decode cX3_init 37 = .ok (.bipush 30, 2) := by decide +kernel
theorem dX3_init_39 : decode cX3_init 39 = .ok (.newarray .int, 2) := by decide +kernel
theorem dX3_init_41 : decode cX3_init 41 = .ok (.putfield 23, 3) := by decide +kernel
theorem dX3_init_44 : decode cX3_init 44 = .ok (.aload_n 0, 1) := by decide +kernel
theorem dX3_init_45 : decode cX3_init 45 = .ok (.bipush 30, 2) := by decide +kernel
theorem dX3_init_47 : decode cX3_init 47 = .ok (.newarray .int, 2) := by decide +kernel
theorem dX3_init_49 : decode cX3_init 49 = .ok (.putfield 26, 3) := by decide +kernel
theorem dX3_init_52 : decode cX3_init 52 = .ok (.return_, 1) := by decide +kernel
theorem dX5_init_0 : decode cX5_init 0 = .ok (.aload_n 0, 1) := by decide +kernel
theorem dX5_init_1 : decode cX5_init 1 = .ok (.invokespecial 3, 3) := by decide +kernel
theorem dX5_init_4 : decode cX5_init 4 = .ok (.aload_n 0, 1) := by decide +kernel
theorem dX5_init_5 : decode cX5_init 5 = .ok (.sipush 300, 3) := by decide +kernel
theorem dX5_init_8 : decode cX5_init 8 = .ok (.anewarray 9, 3) := by decide +kernel
theorem dX5_init_11 : decode cX5_init 11 = .ok (.putfield 11, 3) := by decide +kernel
theorem dX5_init_14 : decode cX5_init 14 = .ok (.aload_n 0, 1) := by decide +kernel
theorem dX5_init_15 : decode cX5_init 15 = .ok (.sipush 300, 3) := by decide +kernel
theorem dX5_init_18 : decode cX5_init 18 = .ok (.newarray .int, 2) := by decide +kernel
theorem dX5_init_20 : decode cX5_init 20 = .ok (.putfield 17, 3) := by decide +kernel
theorem dX5_init_23 : decode cX5_init 23 = .ok (.aload_n 0, 1) := by decide +kernel
theorem dX5_init_24 : decode cX5_init 24 = .ok (.sipush 300, 3) := by decide +kernel
theorem dX5_init_27 : decode cX5_init 27 = .ok (.newarray .boolean, 2) := by decide +kernel
theorem dX5_init_29 : decode cX5_init 29 = .ok (.putfield 21, 3) := by decide +kernel
theorem dX5_init_32 : decode cX5_init 32 = .ok (.return_, 1) := by decide +kernel
theorem dX6_init_0 : decode cX6_init 0 = .ok (.aload_n 0, 1) := by decide +kernel
theorem dX6_init_1 : decode cX6_init 1 = .ok (.invokespecial 3, 3) := by decide +kernel
theorem dX6_init_4 : decode cX6_init 4 = .ok (.aload_n 0, 1) := by decide +kernel
theorem dX6_init_5 : decode cX6_init 5 = .ok (.bipush 30, 2) := by decide +kernel
theorem dX6_init_7 : decode cX6_init 7 = .ok (.newarray .int, 2) := by decide +kernel
theorem dX6_init_9 : decode cX6_init 9 = .ok (.putfield 9, 3) := by decide +kernel
theorem dX6_init_12 : decode cX6_init 12 = .ok (.aload_n 0, 1) := by decide +kernel
theorem dX6_init_13 : decode cX6_init 13 = .ok (.iconst 3, 1) := by decide +kernel
theorem dX6_init_14 : decode cX6_init 14 = .ok (.newarray .int, 2) := by decide +kernel
theorem dX6_init_16 : decode cX6_init 16 = .ok (.putfield 15, 3) := by decide +kernel
theorem dX6_init_19 : decode cX6_init 19 = .ok (.aload_n 0, 1) := by decide +kernel
theorem dX6_init_20 : decode cX6_init 20 = .ok (.iconst 3, 1) := by decide +kernel
theorem dX6_init_21 : decode cX6_init 21 = .ok (.newarray .int, 2) := by decide +kernel
theorem dX6_init_23 : decode cX6_init 23 = .ok (.putfield 18, 3) := by decide +kernel
theorem dX6_init_26 : decode cX6_init 26 = .ok (.aload_n 0, 1) := by decide +kernel
theorem dX6_init_27 : decode cX6_init 27 = .ok (.bipush 30, 2) := by decide +kernel
theorem dX6_init_29 : decode cX6_init 29 = .ok (.newarray .int, 2) := by decide +kernel
theorem dX6_init_31 : decode cX6_init 31 = .ok (.putfield 21, 3) := by decide +kernel
theorem dX6_init_34 : decode cX6_init 34 = .ok (.aload_n 0, 1) := by decide +kernel
theorem dX6_init_35 : decode cX6_init 35 = .ok (.bipush 30, 2) := by decide +kernel
theorem dX6_init_37 : decode cX6_init 37 = .ok (.newarray .int, 2) := by decide +kernel
theorem dX6_init_39 : decode cX6_init 39 = .ok (.putfield 24, 3) := by decide +kernel
theorem dX6_init_42 : decode cX6_init 42 = .ok (.aload_n 0, 1) := by decide +kernel
theorem dX6_init_43 : decode cX6_init 43 = .ok (.bipush 8, 2) := by decide +kernel
theorem dX6_init_45 : decode cX6_init 45 = .ok (.newarray .int, 2) := by decide +kernel
theorem dX6_init_47 : decode cX6_init 47 = .ok (.putfield 27, 3) := by decide +kernel
theorem dX6_init_50 : decode cX6_init 50 = .ok (.return_, 1) := by decide +kernel
theorem dX7_init_0 : decode cX7_init 0 = .ok (.aload_n 0, 1) := by decide +kernel
theorem dX7_init_1 : decode cX7_init 1 = .ok (.invokespecial 1, 3) := by decide +kernel
theorem dX7_init_4 : decode cX7_init 4 = .ok (.return_, 1) := by decide +kernel
theorem dX8_init_0 : decode cX8_init 0 = .ok (.aload_n 0, 1) := by decide +kernel
theorem dX8_init_1 : decode cX8_init 1 = .ok (.invokespecial 3, 3) := by decide +kernel
theorem dX8_init_4 : decode cX8_init 4 = .ok (.aload_n 0, 1) := by decide +kernel
theorem dX8_init_5 : decode cX8_init 5 = .ok (.bipush 30, 2) := by decide +kernel
theorem dX8_init_7 : decode cX8_init 7 = .ok (.newarray .boolean, 2) := by decide +kernel
theorem dX8_init_9 : decode cX8_init 9 = .ok (.putfield 9, 3) := by decide +kernel
theorem dX8_init_12 : decode cX8_init 12 = .ok (.aload_n 0, 1) := by decide +kernel
theorem dX8_init_13 : decode cX8_init 13 = .ok (.bipush 30, 2) := by decide +kernel
theorem dX8_init_15 : decode cX8_init 15 = .ok (.bipush 6, 2) := by decide +kernel
theorem dX8_init_17 : decode cX8_init 17 = .ok (.multianewarray 15 2, 4) := by decide +kernel
theorem dX8_init_21 : decode cX8_init 21 = .ok (.putfield 17, 3) := by decide +kernel
theorem dX8_init_24 : decode cX8_init 24 = .ok (.aload_n 0, 1) := by decide +kernel
theorem dX8_init_25 : decode cX8_init 25 = .ok (.bipush 30, 2) := by decide +kernel
theorem dX8_init_27 : decode cX8_init 27 = .ok (.newarray .int, 2) := by decide +kernel
theorem dX8_init_29 : decode cX8_init 29 = .ok (.putfield 20, 3) := by decide +kernel
theorem dX8_init_32 : decode cX8_init 32 = .ok (.aload_n 0, 1) := by decide +kernel
theorem dX8_init_33 : decode cX8_init 33 = .ok (.bipush 30, 2) := by decide +kernel
theorem dX8_init_35 : decode cX8_init 35 = .ok (.newarray .int, 2) := by decide +kernel
theorem dX8_init_37 : decode cX8_init 37 = .ok (.putfield 24, 3) := by decide +kernel
theorem dX8_init_40 : decode cX8_init 40 = .ok (.return_, 1) := by decide +kernel
theorem dX9_init_0 : decode cX9_init 0 = .ok (.aload_n 0, 1) := by decide +kernel
theorem dX9_init_1 : decode cX9_init 1 = .ok (.invokespecial 3, 3) := by decide +kernel
theorem dX9_init_4 : decode cX9_init 4 = .ok (.aload_n 0, 1) := by decide +kernel
theorem dX9_init_5 : decode cX9_init 5 = .ok (.bipush 30, 2) := by decide +kernel
theorem dX9_init_7 : decode cX9_init 7 = .ok (.newarray .int, 2) := by decide +kernel
theorem dX9_init_9 : decode cX9_init 9 = .ok (.putfield 9, 3) := by decide +kernel
theorem dX9_init_12 : decode cX9_init 12 = .ok (.aload_n 0, 1) := by decide +kernel
theorem dX9_init_13 : decode cX9_init 13 = .ok (.bipush 30, 2) := by decide +kernel
theorem dX9_init_15 : decode cX9_init 15 = .ok (.newarray .int, 2) := by decide +kernel
theorem dX9_init_17 : decode cX9_init 17 = .ok (.putfield 15, 3) := by decide +kernel
theorem dX9_init_20 : decode cX9_init 20 = .ok (.aload_n 0, 1) := by decide +kernel
theorem dX9_init_21 : decode cX9_init 21 = .ok (.bipush 30, 2) := by decide +kernel
theorem dX9_init_23 : decode cX9_init 23 = .ok (.newarray .int, 2) := by decide +kernel
theorem dX9_init_25 : decode cX9_init 25 = .ok (.putfield 18, 3) := by decide +kernel
theorem dX9_init_28 : decode cX9_init 28 = .ok (.aload_n 0, 1) := by decide +kernel
theorem dX9_init_29 : decode cX9_init 29 = .ok (.bipush 30, 2) := by decide +kernel
theorem dX9_init_31 : decode cX9_init 31 = .ok (.newarray .boolean, 2) := by decide +kernel
theorem dX9_init_33 : decode cX9_init 33 = .ok (.putfield 21, 3) := by decide +kernel
theorem dX9_init_36 : decode cX9_init 36 = .ok (.aload_n 0, 1) := by decide +kernel
theorem dX9_init_37 : decode cX9_init 37 = .ok (.bipush 30, 2) := by decide +kernel
theorem dX9_init_39 : decode cX9_init 39 = .ok (.newarray .int, 2) := by decide +kernel
theorem dX9_init_41 : decode cX9_init 41 = .ok (.putfield 25, 3) := by decide +kernel
theorem dX9_init_44 : decode cX9_init 44 = .ok (.aload_n 0, 1) := by decide +kernel
theorem dX9_init_45 : decode cX9_init 45 = .ok (.bipush 30, 2) := by decide +kernel
theorem dX9_init_47 : decode cX9_init 47 = .ok (.newarray .boolean, 2) := by decide +kernel
theorem dX9_init_49 : decode cX9_init 49 = .ok (.putfield 28, 3) := by decide +kernel
theorem dX9_init_52 : decode cX9_init 52 = .ok (.return_, 1) := by decide +kernel
theorem dX10_init_0 : decode cX10_init 0 = .ok (.aload_n 0, 1) := by decide +kernel
theorem dX10_init_1 : decode cX10_init 1 = .ok (.invokespecial 3, 3) := by decide +kernel
theorem dX10_init_4 : decode cX10_init 4 = .ok (.aload_n 0, 1) := by decide +kernel
theorem dX10_init_5 : decode cX10_init 5 = .ok (.bipush 30, 2) := by decide +kernel
theorem dX10_init_7 : decode cX10_init 7 = .ok (.bipush 6, 2) := by decide +kernel
theorem dX10_init_9 : decode cX10_init 9 = .ok (.multianewarray 9 2, 4) := by decide +kernel
theorem dX10_init_13 : decode cX10_init 13 = .ok (.putfield 11, 3) := by decide +kernel
theorem dX10_init_16 : decode cX10_init 16 = .ok (.aload_n 0, 1) := by decide +kernel
theorem dX10_init_17 : decode cX10_init 17 = .ok (.bipush 30, 2) := by decide +kernel
theorem dX10_init_19 : decode cX10_init 19 = .ok (.bipush 6, 2) := by decide +kernel
theorem dX10_init_21 : decode cX10_init 21 = .ok (.multianewarray 9 2, 4) := by decide +kernel
theorem dX10_init_25 : decode cX10_init 25 = .ok (.putfield 16, 3) := by decide +kernel
theorem dX10_init_28 : decode cX10_init 28 = .ok (.aload_n 0, 1) := by decide +kernel
theorem dX10_init_29 : decode cX10_init 29 = .ok (.bipush 30, 2) := by decide +kernel
theorem dX10_init_31 : decode cX10_init 31 = .ok (.newarray .int, 2) := by decide +kernel
theorem dX10_init_33 : decode cX10_init 33 = .ok (.putfield 19, 3) := by decide +kernel
theorem dX10_init_36 : decode cX10_init 36 = .ok (.return_, 1) := by decide +kernel
theorem zIntK {args : Array Value} {s : State} {D : va_G} {cl : List vw_C} {tys : List (ClassId × FieldType)} {cy : ClassId} (harr : (Cond.arrayClass .int).before args s = true) (hcy : s.vm.findClass (FieldType.array .int).toString = some cy) (hK : va_K D cl tys s) : va_K D cl (tys ++ [(cy, .int)]) s := by
  obtain ⟨c, k, comp, h1, h2, h3⟩ := Cond.arrayClass_spec harr
  have e : c = cy := Option.some.inj (h1.symm.trans hcy)
  subst e
  refine ⟨hK.1, fun i x hx => ?_⟩
  by_cases hl : i < tys.length
  · rw [List.getElem?_append_left hl] at hx
    exact hK.2 i x hx
  · rw [List.getElem?_append_right (by omega)] at hx
    have hz : i - tys.length < 1 := (List.getElem?_eq_some_iff.mp hx).1
    rw [show i - tys.length = 0 by omega] at hx
    cases hx
    exact ⟨fun n z => ⟨fun k9 h9 => (by cases h9), k, h2, comp, h3⟩, hcy⟩
theorem zPool {f : Nat → va_E} {l : List Nat} {cy : ClassId} : va_pl ([] ++ l) (vr_up f l (.inl (cy, 4, .inl (fun _ => 0)))) = va_pl l (zrow cy) := by
  unfold va_pl
  exact List.map_congr_left fun x hx => by
    have hx : x ∈ l := hx
    rw [vr_up_in hx]
theorem zGrid (r : Nat → Nat) : ∀ i, i < 8 → ∃ y, (fun i => if i < 8 then some (r i) else none) i = some y ∧ y ∈ (List.range 8).map r := fun i hi => ⟨r i, if_pos hi, List.mem_map.mpr ⟨i, List.mem_range.mpr hi, rfl⟩⟩
def zX2_init_ws : List Cond := .code yX2_init cX2_init 1 none :: ([.methodLink RX2 3 objectInit, .instanceMethod objectInit, .code objectInit ⟨#[0xb1]⟩ 1 none, .arrayClass .int, .fieldLink RX2 9 "HeatStadium$FieldNow" "members" "[I", .arrayClass .boolean, .fieldLink RX2 15 "HeatStadium$FieldNow" "isIn" "[Z", .fieldLink RX2 19 "HeatStadium$FieldNow" "inOrder" "[I", .fieldLink RX2 22 "HeatStadium$FieldNow" "ofNation" "[I"] ++ (wsX20 ++ ([])))
theorem zX2_init_ws_good : zX2_init_ws.all goodWord = true := by decide +kernel
set_option maxHeartbeats 4000000 in
set_option maxRecDepth 100000 in
/-- a new RX2 -/
theorem c_X2_init (l : Launch) (hst : l.stackTraces = false) (D : va_G) (sz : Nat) (h : Nat) : Met l yX2_init zX2_init_ws (zR 0 4 92) (zPre [.ref h] D [(h, .inr (8, [.null, .null, .null, .null, .int 0]))] [] (va_A [(h, .inr (8, [.null, .null, .null, .null, .int 0]))] sz) sz) (va_Qv (S := Unit) (fun _ => True) (fun _ t => zAt D [] [] (va_A [(h, .inr (8, [.null, .null, .null, .null, .int 0]))] sz) t) (va_A [(h, .inr (8, [.null, .null, .null, .null, .int 0]))] sz)) 4 92 (va_A [(h, .inr (8, [.null, .null, .null, .null, .int 0]))] sz) := by
  refine Met.ofW (cc := cX2_init) (maxL := 1) (ret := none) (by decide) rfl ?_
  intro p e s m args below meth c s₁ B hml hv
  obtain ⟨rfl, hsz, hP, hK, hD0, hz⟩ := hv
  have hx := B.exec
  have hb := B.bytes
  have hr := B.returns
  have hts := atoms_spec (ws := zX2_init_ws) B.pre
  have hown : s.vm.findClass RX2 = some m.cls := findClass_of_methodNamed B.named
  have hlocks := B.notSynchronized
  have hin : meth.name = "<init>" := (name_of_methodNamed B.named B.method).1
  subst hsz
  have hD := hD0.self (sz := s.heap.size)
  generalize hAe : va_A [(h, .inr (8, [.null, .null, .null, .null, .int 0]))] s.heap.size = A at hD hz ⊢
  have hA : ∀ q : Nat, s.heap.size ≤ q → A q := fun q h => by rw [← hAe]; exact Or.inr h
  have hS : va_S A s.heap s.heap [] := va_S.rf
  have hP : va_P D vwCl [(h, .inr (8, [.null, .null, .null, .null, .int 0]))] s.heap := hP
  have hl := lv_entry ([.ref h]) (n := 1) (Nat.le_of_ble_eq_true rfl)
  rw [lg_entry_eq]
  generalize (lg_sl ([.ref h]) ++ List.replicate (1 - (lg_sl ([.ref h])).length) Slot.unset).toArray = ls at hl ⊢
  have hl : lv_has ls 1 [(0, .ref h)] := hl
  refine lv_aload_n hx hb dX2_init_0 rfl (lv_at hl 0 rfl) ?_
  refine W.objInit hx hb hown (hts (.methodLink RX2 3 objectInit) (by decide +kernel)) (hts (.instanceMethod objectInit) (by decide +kernel)) (hts (.code objectInit ⟨#[0xb1]⟩ 1 none) (by decide +kernel)) rfl (by rw [hml]; exact hl.1) rfl dX2_init_1 (Nat.le_of_ble_eq_true rfl) (Nat.le_of_ble_eq_true rfl) ?_
  refine W.eq (g2 := F0 m 4 ls []) rfl ?_
  refine lv_aload_n hx hb dX2_init_4 rfl (lv_at hl 0 rfl) ?_
  refine lv_bipush (v := 24) hx hb dX2_init_5 (by decide) ?_
  refine va_newa (atype := .int) (ty := .int) (a0 := (24, .inl (fun _ => 0))) hx hb (hts (.arrayClass .int) (by decide +kernel)) rfl hK hP hD hS hA (fun _ => rfl) (by decide) (by decide) (Nat.le_of_ble_eq_true rfl) (Nat.le_of_ble_eq_true rfl) (Nat.le_of_ble_eq_true rfl) dX2_init_7 (fun q1 cA2 H hK hP hD hS => ?_)
  have hP : va_P D vwCl [(h, .inr (8, [.null, .null, .null, .null, .int 0])), (q1, .inl (cA2, 24, .inl (fun _ => 0)))] H := hP
  have hD : va_D A [(h, .inr (8, [.null, .null, .null, .null, .int 0])), (q1, .inl (cA2, 24, .inl (fun _ => 0)))] := hD
  have hK : va_K D vwCl [(cA2, .int)] s := hK
  refine W.widen (k := 1) (n := 24) (by omega) (by omega) ?_
  refine va_putF (D := D) (ci := 8) (v := .ref q1) (ty := .array .int) (C := RX2) (T := TX2) (N := 5) hx hb hts (by decide +kernel) tyX2 tyX2_ok nmX2 hown hK hP hD hS 0 rfl rfl 0 (by decide) (hts (.fieldLink RX2 9 "HeatStadium$FieldNow" "members" "[I") (by decide +kernel)) (fun _ h9 => h9) rfl hin rfl (by decide +kernel) rfl rfl (Nat.le_of_ble_eq_true rfl) dX2_init_9 (fun H locs hP hD hS => ?_)
  have hP : va_P D vwCl [(h, .inr (8, [.ref q1, .null, .null, .null, .int 0])), (q1, .inl (cA2, 24, .inl (fun _ => 0)))] H := hP
  have hD : va_D A [(h, .inr (8, [.ref q1, .null, .null, .null, .int 0])), (q1, .inl (cA2, 24, .inl (fun _ => 0)))] := hD
  refine lv_aload_n hx hb dX2_init_12 rfl (lv_at hl 0 rfl) ?_
  refine lv_bipush (v := 30) hx hb dX2_init_13 (by decide) ?_
  refine va_newa (atype := .boolean) (ty := .boolean) (a0 := (30, .inl (fun _ => 0))) hx hb (hts (.arrayClass .boolean) (by decide +kernel)) rfl hK hP hD hS hA (fun _ => rfl) (by decide) (by decide) (Nat.le_of_ble_eq_true rfl) (Nat.le_of_ble_eq_true rfl) (Nat.le_of_ble_eq_true rfl) dX2_init_15 (fun q3 cA4 H hK hP hD hS => ?_)
  have hP : va_P D vwCl [(h, .inr (8, [.ref q1, .null, .null, .null, .int 0])), (q1, .inl (cA2, 24, .inl (fun _ => 0))), (q3, .inl (cA4, 30, .inl (fun _ => 0)))] H := hP
  have hD : va_D A [(h, .inr (8, [.ref q1, .null, .null, .null, .int 0])), (q1, .inl (cA2, 24, .inl (fun _ => 0))), (q3, .inl (cA4, 30, .inl (fun _ => 0)))] := hD
  have hK : va_K D vwCl [(cA2, .int), (cA4, .boolean)] s := hK
  refine W.widen (k := 2) (n := 54) (by omega) (by omega) ?_
  refine va_putF (D := D) (ci := 8) (v := .ref q3) (ty := .array .boolean) (C := RX2) (T := TX2) (N := 5) hx hb hts (by decide +kernel) tyX2 tyX2_ok nmX2 hown hK hP hD hS 0 rfl rfl 1 (by decide) (hts (.fieldLink RX2 15 "HeatStadium$FieldNow" "isIn" "[Z") (by decide +kernel)) (fun _ h9 => h9) rfl hin rfl (by decide +kernel) rfl rfl (Nat.le_of_ble_eq_true rfl) dX2_init_17 (fun H locs hP hD hS => ?_)
  have hP : va_P D vwCl [(h, .inr (8, [.ref q1, .ref q3, .null, .null, .int 0])), (q1, .inl (cA2, 24, .inl (fun _ => 0))), (q3, .inl (cA4, 30, .inl (fun _ => 0)))] H := hP
  have hD : va_D A [(h, .inr (8, [.ref q1, .ref q3, .null, .null, .int 0])), (q1, .inl (cA2, 24, .inl (fun _ => 0))), (q3, .inl (cA4, 30, .inl (fun _ => 0)))] := hD
  refine lv_aload_n hx hb dX2_init_20 rfl (lv_at hl 0 rfl) ?_
  refine lv_bipush (v := 30) hx hb dX2_init_21 (by decide) ?_
  refine va_newa (atype := .int) (ty := .int) (a0 := (30, .inl (fun _ => 0))) hx hb (hts (.arrayClass .int) (by decide +kernel)) rfl hK hP hD hS hA (fun _ => rfl) (by decide) (by decide) (Nat.le_of_ble_eq_true rfl) (Nat.le_of_ble_eq_true rfl) (Nat.le_of_ble_eq_true rfl) dX2_init_23 (fun q5 cA6 H hK hP hD hS => ?_)
  have hP : va_P D vwCl [(h, .inr (8, [.ref q1, .ref q3, .null, .null, .int 0])), (q1, .inl (cA2, 24, .inl (fun _ => 0))), (q3, .inl (cA4, 30, .inl (fun _ => 0))), (q5, .inl (cA6, 30, .inl (fun _ => 0)))] H := hP
  have hD : va_D A [(h, .inr (8, [.ref q1, .ref q3, .null, .null, .int 0])), (q1, .inl (cA2, 24, .inl (fun _ => 0))), (q3, .inl (cA4, 30, .inl (fun _ => 0))), (q5, .inl (cA6, 30, .inl (fun _ => 0)))] := hD
  have hK : va_K D vwCl [(cA2, .int), (cA4, .boolean), (cA6, .int)] s := hK
  refine W.widen (k := 3) (n := 84) (by omega) (by omega) ?_
  refine va_putF (D := D) (ci := 8) (v := .ref q5) (ty := .array .int) (C := RX2) (T := TX2) (N := 5) hx hb hts (by decide +kernel) tyX2 tyX2_ok nmX2 hown hK hP hD hS 0 rfl rfl 2 (by decide) (hts (.fieldLink RX2 19 "HeatStadium$FieldNow" "inOrder" "[I") (by decide +kernel)) (fun _ h9 => h9) rfl hin rfl (by decide +kernel) rfl rfl (Nat.le_of_ble_eq_true rfl) dX2_init_25 (fun H locs hP hD hS => ?_)
  have hP : va_P D vwCl [(h, .inr (8, [.ref q1, .ref q3, .ref q5, .null, .int 0])), (q1, .inl (cA2, 24, .inl (fun _ => 0))), (q3, .inl (cA4, 30, .inl (fun _ => 0))), (q5, .inl (cA6, 30, .inl (fun _ => 0)))] H := hP
  have hD : va_D A [(h, .inr (8, [.ref q1, .ref q3, .ref q5, .null, .int 0])), (q1, .inl (cA2, 24, .inl (fun _ => 0))), (q3, .inl (cA4, 30, .inl (fun _ => 0))), (q5, .inl (cA6, 30, .inl (fun _ => 0)))] := hD
  refine lv_aload_n hx hb dX2_init_28 rfl (lv_at hl 0 rfl) ?_
  refine lv_bipush (v := 8) hx hb dX2_init_29 (by decide) ?_
  refine va_newa (atype := .int) (ty := .int) (a0 := (8, .inl (fun _ => 0))) hx hb (hts (.arrayClass .int) (by decide +kernel)) rfl hK hP hD hS hA (fun _ => rfl) (by decide) (by decide) (Nat.le_of_ble_eq_true rfl) (Nat.le_of_ble_eq_true rfl) (Nat.le_of_ble_eq_true rfl) dX2_init_31 (fun q7 cA8 H hK hP hD hS => ?_)
  have hP : va_P D vwCl [(h, .inr (8, [.ref q1, .ref q3, .ref q5, .null, .int 0])), (q1, .inl (cA2, 24, .inl (fun _ => 0))), (q3, .inl (cA4, 30, .inl (fun _ => 0))), (q5, .inl (cA6, 30, .inl (fun _ => 0))), (q7, .inl (cA8, 8, .inl (fun _ => 0)))] H := hP
  have hD : va_D A [(h, .inr (8, [.ref q1, .ref q3, .ref q5, .null, .int 0])), (q1, .inl (cA2, 24, .inl (fun _ => 0))), (q3, .inl (cA4, 30, .inl (fun _ => 0))), (q5, .inl (cA6, 30, .inl (fun _ => 0))), (q7, .inl (cA8, 8, .inl (fun _ => 0)))] := hD
  have hK : va_K D vwCl [(cA2, .int), (cA4, .boolean), (cA6, .int), (cA8, .int)] s := hK
  refine W.widen (k := 4) (n := 92) (by omega) (by omega) ?_
  refine va_putF (D := D) (ci := 8) (v := .ref q7) (ty := .array .int) (C := RX2) (T := TX2) (N := 5) hx hb hts (by decide +kernel) tyX2 tyX2_ok nmX2 hown hK hP hD hS 0 rfl rfl 3 (by decide) (hts (.fieldLink RX2 22 "HeatStadium$FieldNow" "ofNation" "[I") (by decide +kernel)) (fun _ h9 => h9) rfl hin rfl (by decide +kernel) rfl rfl (Nat.le_of_ble_eq_true rfl) dX2_init_33 (fun H locs hP hD hS => ?_)
  have hP : va_P D vwCl [(h, .inr (8, [.ref q1, .ref q3, .ref q5, .ref q7, .int 0])), (q1, .inl (cA2, 24, .inl (fun _ => 0))), (q3, .inl (cA4, 30, .inl (fun _ => 0))), (q5, .inl (cA6, 30, .inl (fun _ => 0))), (q7, .inl (cA8, 8, .inl (fun _ => 0)))] H := hP
  have hD : va_D A [(h, .inr (8, [.ref q1, .ref q3, .ref q5, .ref q7, .int 0])), (q1, .inl (cA2, 24, .inl (fun _ => 0))), (q3, .inl (cA4, 30, .inl (fun _ => 0))), (q5, .inl (cA6, 30, .inl (fun _ => 0))), (q7, .inl (cA8, 8, .inl (fun _ => 0)))] := hD
  have hP9 := hP.sub (ws' := []) [] rfl
  have hD9 := hD.sub (ws' := []) [] (by decide) rfl
  have hK9 := hK.sub (tys' := []) [] rfl
  rw [← hAe] at hD9
  refine W.widen (k := 4) (n := 92) (by omega) (by omega) ?_
  subst hAe
  exact W.vret hx hb hr (fun t ht9 hW => ⟨⟨(), rfl, trivial, ⟨by rw [ht9]; exact hP9, va_K.moved hW.alike hK9, hD9⟩⟩, hS.F ht9⟩) hS.2.2 dX2_init_36

def zX6_init_ws : List Cond := .code yX6_init cX6_init 1 none :: ([.methodLink RX6 3 objectInit, .instanceMethod objectInit, .code objectInit ⟨#[0xb1]⟩ 1 none, .arrayClass .int, .fieldLink RX6 9 "HeatStadium$RaceDraw" "heats" "[I", .fieldLink RX6 15 "HeatStadium$RaceDraw" "inHeat" "[I", .fieldLink RX6 18 "HeatStadium$RaceDraw" "nationsInHeat" "[I", .fieldLink RX6 21 "HeatStadium$RaceDraw" "arrivals" "[I", .fieldLink RX6 24 "HeatStadium$RaceDraw" "tiers" "[I", .fieldLink RX6 27 "HeatStadium$RaceDraw" "finalists" "[I"] ++ (wsX60 ++ ([])))
theorem zX6_init_ws_good : zX6_init_ws.all goodWord = true := by decide +kernel
set_option maxHeartbeats 4000000 in
set_option maxRecDepth 100000 in
/-- a new RX6 -/
theorem c_X6_init (l : Launch) (hst : l.stackTraces = false) (D : va_G) (sz : Nat) (h : Nat) : Met l yX6_init zX6_init_ws (zR 0 6 134) (zPre [.ref h] D [(h, .inr (12, [.null, .null, .null, .null, .null, .null, .int 0, .int 0]))] [] (va_A [(h, .inr (12, [.null, .null, .null, .null, .null, .null, .int 0, .int 0]))] sz) sz) (va_Qv (S := Unit) (fun _ => True) (fun _ t => zAt D [] [] (va_A [(h, .inr (12, [.null, .null, .null, .null, .null, .null, .int 0, .int 0]))] sz) t) (va_A [(h, .inr (12, [.null, .null, .null, .null, .null, .null, .int 0, .int 0]))] sz)) 6 134 (va_A [(h, .inr (12, [.null, .null, .null, .null, .null, .null, .int 0, .int 0]))] sz) := by
  refine Met.ofW (cc := cX6_init) (maxL := 1) (ret := none) (by decide) rfl ?_
  intro p e s m args below meth c s₁ B hml hv
  obtain ⟨rfl, hsz, hP, hK, hD0, hz⟩ := hv
  have hx := B.exec
  have hb := B.bytes
  have hr := B.returns
  have hts := atoms_spec (ws := zX6_init_ws) B.pre
  have hown : s.vm.findClass RX6 = some m.cls := findClass_of_methodNamed B.named
  have hlocks := B.notSynchronized
  have hin : meth.name = "<init>" := (name_of_methodNamed B.named B.method).1
  subst hsz
  have hD := hD0.self (sz := s.heap.size)
  generalize hAe : va_A [(h, .inr (12, [.null, .null, .null, .null, .null, .null, .int 0, .int 0]))] s.heap.size = A at hD hz ⊢
  have hA : ∀ q : Nat, s.heap.size ≤ q → A q := fun q h => by rw [← hAe]; exact Or.inr h
  have hS : va_S A s.heap s.heap [] := va_S.rf
  have hP : va_P D vwCl [(h, .inr (12, [.null, .null, .null, .null, .null, .null, .int 0, .int 0]))] s.heap := hP
  have hl := lv_entry ([.ref h]) (n := 1) (Nat.le_of_ble_eq_true rfl)
  rw [lg_entry_eq]
  generalize (lg_sl ([.ref h]) ++ List.replicate (1 - (lg_sl ([.ref h])).length) Slot.unset).toArray = ls at hl ⊢
  have hl : lv_has ls 1 [(0, .ref h)] := hl
  refine lv_aload_n hx hb dX6_init_0 rfl (lv_at hl 0 rfl) ?_
  refine W.objInit hx hb hown (hts (.methodLink RX6 3 objectInit) (by decide +kernel)) (hts (.instanceMethod objectInit) (by decide +kernel)) (hts (.code objectInit ⟨#[0xb1]⟩ 1 none) (by decide +kernel)) rfl (by rw [hml]; exact hl.1) rfl dX6_init_1 (Nat.le_of_ble_eq_true rfl) (Nat.le_of_ble_eq_true rfl) ?_
  refine W.eq (g2 := F0 m 4 ls []) rfl ?_
  refine lv_aload_n hx hb dX6_init_4 rfl (lv_at hl 0 rfl) ?_
  refine lv_bipush (v := 30) hx hb dX6_init_5 (by decide) ?_
  refine va_newa (atype := .int) (ty := .int) (a0 := (30, .inl (fun _ => 0))) hx hb (hts (.arrayClass .int) (by decide +kernel)) rfl hK hP hD hS hA (fun _ => rfl) (by decide) (by decide) (Nat.le_of_ble_eq_true rfl) (Nat.le_of_ble_eq_true rfl) (Nat.le_of_ble_eq_true rfl) dX6_init_7 (fun q1 cA2 H hK hP hD hS => ?_)
  have hP : va_P D vwCl [(h, .inr (12, [.null, .null, .null, .null, .null, .null, .int 0, .int 0])), (q1, .inl (cA2, 30, .inl (fun _ => 0)))] H := hP
  have hD : va_D A [(h, .inr (12, [.null, .null, .null, .null, .null, .null, .int 0, .int 0])), (q1, .inl (cA2, 30, .inl (fun _ => 0)))] := hD
  have hK : va_K D vwCl [(cA2, .int)] s := hK
  refine W.widen (k := 1) (n := 30) (by omega) (by omega) ?_
  refine va_putF (D := D) (ci := 12) (v := .ref q1) (ty := .array .int) (C := RX6) (T := TX6) (N := 8) hx hb hts (by decide +kernel) tyX6 tyX6_ok nmX6 hown hK hP hD hS 0 rfl rfl 0 (by decide) (hts (.fieldLink RX6 9 "HeatStadium$RaceDraw" "heats" "[I") (by decide +kernel)) (fun _ h9 => h9) rfl hin rfl (by decide +kernel) rfl rfl (Nat.le_of_ble_eq_true rfl) dX6_init_9 (fun H locs hP hD hS => ?_)
  have hP : va_P D vwCl [(h, .inr (12, [.ref q1, .null, .null, .null, .null, .null, .int 0, .int 0])), (q1, .inl (cA2, 30, .inl (fun _ => 0)))] H := hP
  have hD : va_D A [(h, .inr (12, [.ref q1, .null, .null, .null, .null, .null, .int 0, .int 0])), (q1, .inl (cA2, 30, .inl (fun _ => 0)))] := hD
  refine lv_aload_n hx hb dX6_init_12 rfl (lv_at hl 0 rfl) ?_
  refine lv_iconst (v := 3) hx hb dX6_init_13 (by decide) ?_
  refine va_newa (atype := .int) (ty := .int) (a0 := (3, .inl (fun _ => 0))) hx hb (hts (.arrayClass .int) (by decide +kernel)) rfl hK hP hD hS hA (fun _ => rfl) (by decide) (by decide) (Nat.le_of_ble_eq_true rfl) (Nat.le_of_ble_eq_true rfl) (Nat.le_of_ble_eq_true rfl) dX6_init_14 (fun q3 cA4 H hK hP hD hS => ?_)
  have hP : va_P D vwCl [(h, .inr (12, [.ref q1, .null, .null, .null, .null, .null, .int 0, .int 0])), (q1, .inl (cA2, 30, .inl (fun _ => 0))), (q3, .inl (cA4, 3, .inl (fun _ => 0)))] H := hP
  have hD : va_D A [(h, .inr (12, [.ref q1, .null, .null, .null, .null, .null, .int 0, .int 0])), (q1, .inl (cA2, 30, .inl (fun _ => 0))), (q3, .inl (cA4, 3, .inl (fun _ => 0)))] := hD
  have hK : va_K D vwCl [(cA2, .int), (cA4, .int)] s := hK
  refine W.widen (k := 2) (n := 33) (by omega) (by omega) ?_
  refine va_putF (D := D) (ci := 12) (v := .ref q3) (ty := .array .int) (C := RX6) (T := TX6) (N := 8) hx hb hts (by decide +kernel) tyX6 tyX6_ok nmX6 hown hK hP hD hS 0 rfl rfl 1 (by decide) (hts (.fieldLink RX6 15 "HeatStadium$RaceDraw" "inHeat" "[I") (by decide +kernel)) (fun _ h9 => h9) rfl hin rfl (by decide +kernel) rfl rfl (Nat.le_of_ble_eq_true rfl) dX6_init_16 (fun H locs hP hD hS => ?_)
  have hP : va_P D vwCl [(h, .inr (12, [.ref q1, .ref q3, .null, .null, .null, .null, .int 0, .int 0])), (q1, .inl (cA2, 30, .inl (fun _ => 0))), (q3, .inl (cA4, 3, .inl (fun _ => 0)))] H := hP
  have hD : va_D A [(h, .inr (12, [.ref q1, .ref q3, .null, .null, .null, .null, .int 0, .int 0])), (q1, .inl (cA2, 30, .inl (fun _ => 0))), (q3, .inl (cA4, 3, .inl (fun _ => 0)))] := hD
  refine lv_aload_n hx hb dX6_init_19 rfl (lv_at hl 0 rfl) ?_
  refine lv_iconst (v := 3) hx hb dX6_init_20 (by decide) ?_
  refine va_newa (atype := .int) (ty := .int) (a0 := (3, .inl (fun _ => 0))) hx hb (hts (.arrayClass .int) (by decide +kernel)) rfl hK hP hD hS hA (fun _ => rfl) (by decide) (by decide) (Nat.le_of_ble_eq_true rfl) (Nat.le_of_ble_eq_true rfl) (Nat.le_of_ble_eq_true rfl) dX6_init_21 (fun q5 cA6 H hK hP hD hS => ?_)
  have hP : va_P D vwCl [(h, .inr (12, [.ref q1, .ref q3, .null, .null, .null, .null, .int 0, .int 0])), (q1, .inl (cA2, 30, .inl (fun _ => 0))), (q3, .inl (cA4, 3, .inl (fun _ => 0))), (q5, .inl (cA6, 3, .inl (fun _ => 0)))] H := hP
  have hD : va_D A [(h, .inr (12, [.ref q1, .ref q3, .null, .null, .null, .null, .int 0, .int 0])), (q1, .inl (cA2, 30, .inl (fun _ => 0))), (q3, .inl (cA4, 3, .inl (fun _ => 0))), (q5, .inl (cA6, 3, .inl (fun _ => 0)))] := hD
  have hK : va_K D vwCl [(cA2, .int), (cA4, .int), (cA6, .int)] s := hK
  refine W.widen (k := 3) (n := 36) (by omega) (by omega) ?_
  refine va_putF (D := D) (ci := 12) (v := .ref q5) (ty := .array .int) (C := RX6) (T := TX6) (N := 8) hx hb hts (by decide +kernel) tyX6 tyX6_ok nmX6 hown hK hP hD hS 0 rfl rfl 2 (by decide) (hts (.fieldLink RX6 18 "HeatStadium$RaceDraw" "nationsInHeat" "[I") (by decide +kernel)) (fun _ h9 => h9) rfl hin rfl (by decide +kernel) rfl rfl (Nat.le_of_ble_eq_true rfl) dX6_init_23 (fun H locs hP hD hS => ?_)
  have hP : va_P D vwCl [(h, .inr (12, [.ref q1, .ref q3, .ref q5, .null, .null, .null, .int 0, .int 0])), (q1, .inl (cA2, 30, .inl (fun _ => 0))), (q3, .inl (cA4, 3, .inl (fun _ => 0))), (q5, .inl (cA6, 3, .inl (fun _ => 0)))] H := hP
  have hD : va_D A [(h, .inr (12, [.ref q1, .ref q3, .ref q5, .null, .null, .null, .int 0, .int 0])), (q1, .inl (cA2, 30, .inl (fun _ => 0))), (q3, .inl (cA4, 3, .inl (fun _ => 0))), (q5, .inl (cA6, 3, .inl (fun _ => 0)))] := hD
  refine lv_aload_n hx hb dX6_init_26 rfl (lv_at hl 0 rfl) ?_
  refine lv_bipush (v := 30) hx hb dX6_init_27 (by decide) ?_
  refine va_newa (atype := .int) (ty := .int) (a0 := (30, .inl (fun _ => 0))) hx hb (hts (.arrayClass .int) (by decide +kernel)) rfl hK hP hD hS hA (fun _ => rfl) (by decide) (by decide) (Nat.le_of_ble_eq_true rfl) (Nat.le_of_ble_eq_true rfl) (Nat.le_of_ble_eq_true rfl) dX6_init_29 (fun q7 cA8 H hK hP hD hS => ?_)
  have hP : va_P D vwCl [(h, .inr (12, [.ref q1, .ref q3, .ref q5, .null, .null, .null, .int 0, .int 0])), (q1, .inl (cA2, 30, .inl (fun _ => 0))), (q3, .inl (cA4, 3, .inl (fun _ => 0))), (q5, .inl (cA6, 3, .inl (fun _ => 0))), (q7, .inl (cA8, 30, .inl (fun _ => 0)))] H := hP
  have hD : va_D A [(h, .inr (12, [.ref q1, .ref q3, .ref q5, .null, .null, .null, .int 0, .int 0])), (q1, .inl (cA2, 30, .inl (fun _ => 0))), (q3, .inl (cA4, 3, .inl (fun _ => 0))), (q5, .inl (cA6, 3, .inl (fun _ => 0))), (q7, .inl (cA8, 30, .inl (fun _ => 0)))] := hD
  have hK : va_K D vwCl [(cA2, .int), (cA4, .int), (cA6, .int), (cA8, .int)] s := hK
  refine W.widen (k := 4) (n := 66) (by omega) (by omega) ?_
  refine va_putF (D := D) (ci := 12) (v := .ref q7) (ty := .array .int) (C := RX6) (T := TX6) (N := 8) hx hb hts (by decide +kernel) tyX6 tyX6_ok nmX6 hown hK hP hD hS 0 rfl rfl 3 (by decide) (hts (.fieldLink RX6 21 "HeatStadium$RaceDraw" "arrivals" "[I") (by decide +kernel)) (fun _ h9 => h9) rfl hin rfl (by decide +kernel) rfl rfl (Nat.le_of_ble_eq_true rfl) dX6_init_31 (fun H locs hP hD hS => ?_)
  have hP : va_P D vwCl [(h, .inr (12, [.ref q1, .ref q3, .ref q5, .ref q7, .null, .null, .int 0, .int 0])), (q1, .inl (cA2, 30, .inl (fun _ => 0))), (q3, .inl (cA4, 3, .inl (fun _ => 0))), (q5, .inl (cA6, 3, .inl (fun _ => 0))), (q7, .inl (cA8, 30, .inl (fun _ => 0)))] H := hP
  have hD : va_D A [(h, .inr (12, [.ref q1, .ref q3, .ref q5, .ref q7, .null, .null, .int 0, .int 0])), (q1, .inl (cA2, 30, .inl (fun _ => 0))), (q3, .inl (cA4, 3, .inl (fun _ => 0))), (q5, .inl (cA6, 3, .inl (fun _ => 0))), (q7, .inl (cA8, 30, .inl (fun _ => 0)))] := hD
  refine lv_aload_n hx hb dX6_init_34 rfl (lv_at hl 0 rfl) ?_
  refine lv_bipush (v := 30) hx hb dX6_init_35 (by decide) ?_
  refine va_newa (atype := .int) (ty := .int) (a0 := (30, .inl (fun _ => 0))) hx hb (hts (.arrayClass .int) (by decide +kernel)) rfl hK hP hD hS hA (fun _ => rfl) (by decide) (by decide) (Nat.le_of_ble_eq_true rfl) (Nat.le_of_ble_eq_true rfl) (Nat.le_of_ble_eq_true rfl) dX6_init_37 (fun q9 cA10 H hK hP hD hS => ?_)
  have hP : va_P D vwCl [(h, .inr (12, [.ref q1, .ref q3, .ref q5, .ref q7, .null, .null, .int 0, .int 0])), (q1, .inl (cA2, 30, .inl (fun _ => 0))), (q3, .inl (cA4, 3, .inl (fun _ => 0))), (q5, .inl (cA6, 3, .inl (fun _ => 0))), (q7, .inl (cA8, 30, .inl (fun _ => 0))), (q9, .inl (cA10, 30, .inl (fun _ => 0)))] H := hP
  have hD : va_D A [(h, .inr (12, [.ref q1, .ref q3, .ref q5, .ref q7, .null, .null, .int 0, .int 0])), (q1, .inl (cA2, 30, .inl (fun _ => 0))), (q3, .inl (cA4, 3, .inl (fun _ => 0))), (q5, .inl (cA6, 3, .inl (fun _ => 0))), (q7, .inl (cA8, 30, .inl (fun _ => 0))), (q9, .inl (cA10, 30, .inl (fun _ => 0)))] := hD
  have hK : va_K D vwCl [(cA2, .int), (cA4, .int), (cA6, .int), (cA8, .int), (cA10, .int)] s := hK
  refine W.widen (k := 5) (n := 96) (by omega) (by omega) ?_
  refine va_putF (D := D) (ci := 12) (v := .ref q9) (ty := .array .int) (C := RX6) (T := TX6) (N := 8) hx hb hts (by decide +kernel) tyX6 tyX6_ok nmX6 hown hK hP hD hS 0 rfl rfl 4 (by decide) (hts (.fieldLink RX6 24 "HeatStadium$RaceDraw" "tiers" "[I") (by decide +kernel)) (fun _ h9 => h9) rfl hin rfl (by decide +kernel) rfl rfl (Nat.le_of_ble_eq_true rfl) dX6_init_39 (fun H locs hP hD hS => ?_)
  have hP : va_P D vwCl [(h, .inr (12, [.ref q1, .ref q3, .ref q5, .ref q7, .ref q9, .null, .int 0, .int 0])), (q1, .inl (cA2, 30, .inl (fun _ => 0))), (q3, .inl (cA4, 3, .inl (fun _ => 0))), (q5, .inl (cA6, 3, .inl (fun _ => 0))), (q7, .inl (cA8, 30, .inl (fun _ => 0))), (q9, .inl (cA10, 30, .inl (fun _ => 0)))] H := hP
  have hD : va_D A [(h, .inr (12, [.ref q1, .ref q3, .ref q5, .ref q7, .ref q9, .null, .int 0, .int 0])), (q1, .inl (cA2, 30, .inl (fun _ => 0))), (q3, .inl (cA4, 3, .inl (fun _ => 0))), (q5, .inl (cA6, 3, .inl (fun _ => 0))), (q7, .inl (cA8, 30, .inl (fun _ => 0))), (q9, .inl (cA10, 30, .inl (fun _ => 0)))] := hD
  refine lv_aload_n hx hb dX6_init_42 rfl (lv_at hl 0 rfl) ?_
  refine lv_bipush (v := 8) hx hb dX6_init_43 (by decide) ?_
  refine va_newa (atype := .int) (ty := .int) (a0 := (8, .inl (fun _ => 0))) hx hb (hts (.arrayClass .int) (by decide +kernel)) rfl hK hP hD hS hA (fun _ => rfl) (by decide) (by decide) (Nat.le_of_ble_eq_true rfl) (Nat.le_of_ble_eq_true rfl) (Nat.le_of_ble_eq_true rfl) dX6_init_45 (fun q11 cA12 H hK hP hD hS => ?_)
  have hP : va_P D vwCl [(h, .inr (12, [.ref q1, .ref q3, .ref q5, .ref q7, .ref q9, .null, .int 0, .int 0])), (q1, .inl (cA2, 30, .inl (fun _ => 0))), (q3, .inl (cA4, 3, .inl (fun _ => 0))), (q5, .inl (cA6, 3, .inl (fun _ => 0))), (q7, .inl (cA8, 30, .inl (fun _ => 0))), (q9, .inl (cA10, 30, .inl (fun _ => 0))), (q11, .inl (cA12, 8, .inl (fun _ => 0)))] H := hP
  have hD : va_D A [(h, .inr (12, [.ref q1, .ref q3, .ref q5, .ref q7, .ref q9, .null, .int 0, .int 0])), (q1, .inl (cA2, 30, .inl (fun _ => 0))), (q3, .inl (cA4, 3, .inl (fun _ => 0))), (q5, .inl (cA6, 3, .inl (fun _ => 0))), (q7, .inl (cA8, 30, .inl (fun _ => 0))), (q9, .inl (cA10, 30, .inl (fun _ => 0))), (q11, .inl (cA12, 8, .inl (fun _ => 0)))] := hD
  have hK : va_K D vwCl [(cA2, .int), (cA4, .int), (cA6, .int), (cA8, .int), (cA10, .int), (cA12, .int)] s := hK
  refine W.widen (k := 6) (n := 104) (by omega) (by omega) ?_
  refine va_putF (D := D) (ci := 12) (v := .ref q11) (ty := .array .int) (C := RX6) (T := TX6) (N := 8) hx hb hts (by decide +kernel) tyX6 tyX6_ok nmX6 hown hK hP hD hS 0 rfl rfl 5 (by decide) (hts (.fieldLink RX6 27 "HeatStadium$RaceDraw" "finalists" "[I") (by decide +kernel)) (fun _ h9 => h9) rfl hin rfl (by decide +kernel) rfl rfl (Nat.le_of_ble_eq_true rfl) dX6_init_47 (fun H locs hP hD hS => ?_)
  have hP : va_P D vwCl [(h, .inr (12, [.ref q1, .ref q3, .ref q5, .ref q7, .ref q9, .ref q11, .int 0, .int 0])), (q1, .inl (cA2, 30, .inl (fun _ => 0))), (q3, .inl (cA4, 3, .inl (fun _ => 0))), (q5, .inl (cA6, 3, .inl (fun _ => 0))), (q7, .inl (cA8, 30, .inl (fun _ => 0))), (q9, .inl (cA10, 30, .inl (fun _ => 0))), (q11, .inl (cA12, 8, .inl (fun _ => 0)))] H := hP
  have hD : va_D A [(h, .inr (12, [.ref q1, .ref q3, .ref q5, .ref q7, .ref q9, .ref q11, .int 0, .int 0])), (q1, .inl (cA2, 30, .inl (fun _ => 0))), (q3, .inl (cA4, 3, .inl (fun _ => 0))), (q5, .inl (cA6, 3, .inl (fun _ => 0))), (q7, .inl (cA8, 30, .inl (fun _ => 0))), (q9, .inl (cA10, 30, .inl (fun _ => 0))), (q11, .inl (cA12, 8, .inl (fun _ => 0)))] := hD
  have hP9 := hP.sub (ws' := []) [] rfl
  have hD9 := hD.sub (ws' := []) [] (by decide) rfl
  have hK9 := hK.sub (tys' := []) [] rfl
  rw [← hAe] at hD9
  refine W.widen (k := 6) (n := 134) (by omega) (by omega) ?_
  subst hAe
  exact W.vret hx hb hr (fun t ht9 hW => ⟨⟨(), rfl, trivial, ⟨by rw [ht9]; exact hP9, va_K.moved hW.alike hK9, hD9⟩⟩, hS.F ht9⟩) hS.2.2 dX6_init_50

def zX8_init_ws : List Cond := .code yX8_init cX8_init 1 none :: ([.methodLink RX8 3 objectInit, .instanceMethod objectInit, .code objectInit ⟨#[0xb1]⟩ 1 none, .arrayClass .boolean, .fieldLink RX8 9 "HeatStadium$Results" "has" "[Z", .classLink RX8 15 "[[I", .arrayClass .int, .fieldLink RX8 17 "HeatStadium$Results" "worths" "[[I", .fieldLink RX8 20 "HeatStadium$Results" "ranks" "[I", .fieldLink RX8 24 "HeatStadium$Results" "throwsCounting" "[I"] ++ (wsX80 ++ ([])))
theorem zX8_init_ws_good : zX8_init_ws.all goodWord = true := by decide +kernel
set_option maxHeartbeats 4000000 in
set_option maxRecDepth 100000 in
/-- a new RX8 -/
theorem c_X8_init (l : Launch) (hst : l.stackTraces = false) (D : va_G) (sz : Nat) (h : Nat) : Met l yX8_init zX8_init_ws (zR 0 34 300) (zPre [.ref h] D [(h, .inr (14, [.null, .null, .null, .null]))] [] (va_A [(h, .inr (14, [.null, .null, .null, .null]))] sz) sz) (va_Qv (S := Unit) (fun _ => True) (fun _ t => zAt D [] [] (va_A [(h, .inr (14, [.null, .null, .null, .null]))] sz) t) (va_A [(h, .inr (14, [.null, .null, .null, .null]))] sz)) 34 300 (va_A [(h, .inr (14, [.null, .null, .null, .null]))] sz) := by
  refine Met.ofW (cc := cX8_init) (maxL := 1) (ret := none) (by decide) rfl ?_
  intro p e s m args below meth c s₁ B hml hv
  obtain ⟨rfl, hsz, hP, hK, hD0, hz⟩ := hv
  have hx := B.exec
  have hb := B.bytes
  have hr := B.returns
  have hts := atoms_spec (ws := zX8_init_ws) B.pre
  have hown : s.vm.findClass RX8 = some m.cls := findClass_of_methodNamed B.named
  have hlocks := B.notSynchronized
  have hin : meth.name = "<init>" := (name_of_methodNamed B.named B.method).1
  subst hsz
  have hD := hD0.self (sz := s.heap.size)
  generalize hAe : va_A [(h, .inr (14, [.null, .null, .null, .null]))] s.heap.size = A at hD hz ⊢
  have hA : ∀ q : Nat, s.heap.size ≤ q → A q := fun q h => by rw [← hAe]; exact Or.inr h
  have hS : va_S A s.heap s.heap [] := va_S.rf
  have hP : va_P D vwCl [(h, .inr (14, [.null, .null, .null, .null]))] s.heap := hP
  have hl := lv_entry ([.ref h]) (n := 1) (Nat.le_of_ble_eq_true rfl)
  rw [lg_entry_eq]
  generalize (lg_sl ([.ref h]) ++ List.replicate (1 - (lg_sl ([.ref h])).length) Slot.unset).toArray = ls at hl ⊢
  have hl : lv_has ls 1 [(0, .ref h)] := hl
  refine lv_aload_n hx hb dX8_init_0 rfl (lv_at hl 0 rfl) ?_
  refine W.objInit hx hb hown (hts (.methodLink RX8 3 objectInit) (by decide +kernel)) (hts (.instanceMethod objectInit) (by decide +kernel)) (hts (.code objectInit ⟨#[0xb1]⟩ 1 none) (by decide +kernel)) rfl (by rw [hml]; exact hl.1) rfl dX8_init_1 (Nat.le_of_ble_eq_true rfl) (Nat.le_of_ble_eq_true rfl) ?_
  refine W.eq (g2 := F0 m 4 ls []) rfl ?_
  refine lv_aload_n hx hb dX8_init_4 rfl (lv_at hl 0 rfl) ?_
  refine lv_bipush (v := 30) hx hb dX8_init_5 (by decide) ?_
  refine va_newa (atype := .boolean) (ty := .boolean) (a0 := (30, .inl (fun _ => 0))) hx hb (hts (.arrayClass .boolean) (by decide +kernel)) rfl hK hP hD hS hA (fun _ => rfl) (by decide) (by decide) (Nat.le_of_ble_eq_true rfl) (Nat.le_of_ble_eq_true rfl) (Nat.le_of_ble_eq_true rfl) dX8_init_7 (fun q1 cA2 H hK hP hD hS => ?_)
  have hP : va_P D vwCl [(h, .inr (14, [.null, .null, .null, .null])), (q1, .inl (cA2, 30, .inl (fun _ => 0)))] H := hP
  have hD : va_D A [(h, .inr (14, [.null, .null, .null, .null])), (q1, .inl (cA2, 30, .inl (fun _ => 0)))] := hD
  have hK : va_K D vwCl [(cA2, .boolean)] s := hK
  refine W.widen (k := 1) (n := 30) (by omega) (by omega) ?_
  refine va_putF (D := D) (ci := 14) (v := .ref q1) (ty := .array .boolean) (C := RX8) (T := TX8) (N := 4) hx hb hts (by decide +kernel) tyX8 tyX8_ok nmX8 hown hK hP hD hS 0 rfl rfl 0 (by decide) (hts (.fieldLink RX8 9 "HeatStadium$Results" "has" "[Z") (by decide +kernel)) (fun _ h9 => h9) rfl hin rfl (by decide +kernel) rfl rfl (Nat.le_of_ble_eq_true rfl) dX8_init_9 (fun H locs hP hD hS => ?_)
  have hP : va_P D vwCl [(h, .inr (14, [.ref q1, .null, .null, .null])), (q1, .inl (cA2, 30, .inl (fun _ => 0)))] H := hP
  have hD : va_D A [(h, .inr (14, [.ref q1, .null, .null, .null])), (q1, .inl (cA2, 30, .inl (fun _ => 0)))] := hD
  refine lv_aload_n hx hb dX8_init_12 rfl (lv_at hl 0 rfl) ?_
  refine lv_bipush (v := 30) hx hb dX8_init_13 (by decide) ?_
  refine lv_bipush (v := 6) hx hb dX8_init_15 (by decide) ?_
  obtain ⟨cy, _, _, hcy, -⟩ := Cond.arrayOver_specA (va_AOA.use (A := #[]) hz.2.2.2.1.2.2)
  refine va_mna (X := [(h, .inr (14, [.ref q1, .null, .null, .null])), (q1, .inl (cA2, 30, .inl (fun _ => 0)))]) (L := []) (f := zrow 0) hx hb hown (hts (.classLink RX8 15 "[[I") (by decide +kernel)) hz.2.2.2.1.2.2 (hts (.arrayClass .int) (by decide +kernel)) hcy hK hP hD hS hA (n := 30) (k := 6) (N' := 30) (K' := 6) (z := (6, .inl (fun _ => 0))) (by decide) (by decide) (by decide) (by decide) (Nat.le_of_ble_eq_true rfl) (Nat.le_of_ble_eq_true rfl) (Nat.le_of_ble_eq_true rfl) (by decide) (by decide) (Nat.le_of_ble_eq_true rfl) (Nat.le_of_ble_eq_true rfl) (fun _ => rfl) dX8_init_17 (fun q3 r4 cA5 H _ _ hK hP hD hS => ?_)
  have hP := hP.sub (ws' := [(h, .inr (14, [.ref q1, .null, .null, .null])), (q1, .inl (cA2, 30, .inl (fun _ => 0))), (q3, .inl (cA5, 30, .inr (.inr (.inr (.inr (fun i => if i < 30 then some (r4 i) else none))))))]) [0, 1, 2] rfl
  have hD := hD.sub (ws' := [(h, .inr (14, [.ref q1, .null, .null, .null])), (q1, .inl (cA2, 30, .inl (fun _ => 0))), (q3, .inl (cA5, 30, .inr (.inr (.inr (.inr (fun i => if i < 30 then some (r4 i) else none))))))]) [0, 1, 2] (by decide) rfl
  have hK : va_K D vwCl [(cA2, .boolean), (cA5, .array .int)] s := hK
  refine W.widen (k := 32) (n := 240) (by omega) (by omega) ?_
  refine va_putF (D := D) (ci := 14) (v := .ref q3) (ty := .array (.array .int)) (C := RX8) (T := TX8) (N := 4) hx hb hts (by decide +kernel) tyX8 tyX8_ok nmX8 hown hK hP hD hS 0 rfl rfl 1 (by decide) (hts (.fieldLink RX8 17 "HeatStadium$Results" "worths" "[[I") (by decide +kernel)) (fun _ h9 => h9) rfl hin rfl (by decide +kernel) rfl rfl (Nat.le_of_ble_eq_true rfl) dX8_init_21 (fun H locs hP hD hS => ?_)
  have hP : va_P D vwCl [(h, .inr (14, [.ref q1, .ref q3, .null, .null])), (q1, .inl (cA2, 30, .inl (fun _ => 0))), (q3, .inl (cA5, 30, .inr (.inr (.inr (.inr (fun i => if i < 30 then some (r4 i) else none))))))] H := hP
  have hD : va_D A [(h, .inr (14, [.ref q1, .ref q3, .null, .null])), (q1, .inl (cA2, 30, .inl (fun _ => 0))), (q3, .inl (cA5, 30, .inr (.inr (.inr (.inr (fun i => if i < 30 then some (r4 i) else none))))))] := hD
  refine lv_aload_n hx hb dX8_init_24 rfl (lv_at hl 0 rfl) ?_
  refine lv_bipush (v := 30) hx hb dX8_init_25 (by decide) ?_
  refine va_newa (atype := .int) (ty := .int) (a0 := (30, .inl (fun _ => 0))) hx hb (hts (.arrayClass .int) (by decide +kernel)) rfl hK hP hD hS hA (fun _ => rfl) (by decide) (by decide) (Nat.le_of_ble_eq_true rfl) (Nat.le_of_ble_eq_true rfl) (Nat.le_of_ble_eq_true rfl) dX8_init_27 (fun q6 cA7 H hK hP hD hS => ?_)
  have hP : va_P D vwCl [(h, .inr (14, [.ref q1, .ref q3, .null, .null])), (q1, .inl (cA2, 30, .inl (fun _ => 0))), (q3, .inl (cA5, 30, .inr (.inr (.inr (.inr (fun i => if i < 30 then some (r4 i) else none)))))), (q6, .inl (cA7, 30, .inl (fun _ => 0)))] H := hP
  have hD : va_D A [(h, .inr (14, [.ref q1, .ref q3, .null, .null])), (q1, .inl (cA2, 30, .inl (fun _ => 0))), (q3, .inl (cA5, 30, .inr (.inr (.inr (.inr (fun i => if i < 30 then some (r4 i) else none)))))), (q6, .inl (cA7, 30, .inl (fun _ => 0)))] := hD
  have hK : va_K D vwCl [(cA2, .boolean), (cA5, .array .int), (cA7, .int)] s := hK
  refine W.widen (k := 33) (n := 270) (by omega) (by omega) ?_
  refine va_putF (D := D) (ci := 14) (v := .ref q6) (ty := .array .int) (C := RX8) (T := TX8) (N := 4) hx hb hts (by decide +kernel) tyX8 tyX8_ok nmX8 hown hK hP hD hS 0 rfl rfl 2 (by decide) (hts (.fieldLink RX8 20 "HeatStadium$Results" "ranks" "[I") (by decide +kernel)) (fun _ h9 => h9) rfl hin rfl (by decide +kernel) rfl rfl (Nat.le_of_ble_eq_true rfl) dX8_init_29 (fun H locs hP hD hS => ?_)
  have hP : va_P D vwCl [(h, .inr (14, [.ref q1, .ref q3, .ref q6, .null])), (q1, .inl (cA2, 30, .inl (fun _ => 0))), (q3, .inl (cA5, 30, .inr (.inr (.inr (.inr (fun i => if i < 30 then some (r4 i) else none)))))), (q6, .inl (cA7, 30, .inl (fun _ => 0)))] H := hP
  have hD : va_D A [(h, .inr (14, [.ref q1, .ref q3, .ref q6, .null])), (q1, .inl (cA2, 30, .inl (fun _ => 0))), (q3, .inl (cA5, 30, .inr (.inr (.inr (.inr (fun i => if i < 30 then some (r4 i) else none)))))), (q6, .inl (cA7, 30, .inl (fun _ => 0)))] := hD
  refine lv_aload_n hx hb dX8_init_32 rfl (lv_at hl 0 rfl) ?_
  refine lv_bipush (v := 30) hx hb dX8_init_33 (by decide) ?_
  refine va_newa (atype := .int) (ty := .int) (a0 := (30, .inl (fun _ => 0))) hx hb (hts (.arrayClass .int) (by decide +kernel)) rfl hK hP hD hS hA (fun _ => rfl) (by decide) (by decide) (Nat.le_of_ble_eq_true rfl) (Nat.le_of_ble_eq_true rfl) (Nat.le_of_ble_eq_true rfl) dX8_init_35 (fun q8 cA9 H hK hP hD hS => ?_)
  have hP : va_P D vwCl [(h, .inr (14, [.ref q1, .ref q3, .ref q6, .null])), (q1, .inl (cA2, 30, .inl (fun _ => 0))), (q3, .inl (cA5, 30, .inr (.inr (.inr (.inr (fun i => if i < 30 then some (r4 i) else none)))))), (q6, .inl (cA7, 30, .inl (fun _ => 0))), (q8, .inl (cA9, 30, .inl (fun _ => 0)))] H := hP
  have hD : va_D A [(h, .inr (14, [.ref q1, .ref q3, .ref q6, .null])), (q1, .inl (cA2, 30, .inl (fun _ => 0))), (q3, .inl (cA5, 30, .inr (.inr (.inr (.inr (fun i => if i < 30 then some (r4 i) else none)))))), (q6, .inl (cA7, 30, .inl (fun _ => 0))), (q8, .inl (cA9, 30, .inl (fun _ => 0)))] := hD
  have hK : va_K D vwCl [(cA2, .boolean), (cA5, .array .int), (cA7, .int), (cA9, .int)] s := hK
  refine W.widen (k := 34) (n := 300) (by omega) (by omega) ?_
  refine va_putF (D := D) (ci := 14) (v := .ref q8) (ty := .array .int) (C := RX8) (T := TX8) (N := 4) hx hb hts (by decide +kernel) tyX8 tyX8_ok nmX8 hown hK hP hD hS 0 rfl rfl 3 (by decide) (hts (.fieldLink RX8 24 "HeatStadium$Results" "throwsCounting" "[I") (by decide +kernel)) (fun _ h9 => h9) rfl hin rfl (by decide +kernel) rfl rfl (Nat.le_of_ble_eq_true rfl) dX8_init_37 (fun H locs hP hD hS => ?_)
  have hP : va_P D vwCl [(h, .inr (14, [.ref q1, .ref q3, .ref q6, .ref q8])), (q1, .inl (cA2, 30, .inl (fun _ => 0))), (q3, .inl (cA5, 30, .inr (.inr (.inr (.inr (fun i => if i < 30 then some (r4 i) else none)))))), (q6, .inl (cA7, 30, .inl (fun _ => 0))), (q8, .inl (cA9, 30, .inl (fun _ => 0)))] H := hP
  have hD : va_D A [(h, .inr (14, [.ref q1, .ref q3, .ref q6, .ref q8])), (q1, .inl (cA2, 30, .inl (fun _ => 0))), (q3, .inl (cA5, 30, .inr (.inr (.inr (.inr (fun i => if i < 30 then some (r4 i) else none)))))), (q6, .inl (cA7, 30, .inl (fun _ => 0))), (q8, .inl (cA9, 30, .inl (fun _ => 0)))] := hD
  have hP9 := hP.sub (ws' := []) [] rfl
  have hD9 := hD.sub (ws' := []) [] (by decide) rfl
  have hK9 := hK.sub (tys' := []) [] rfl
  rw [← hAe] at hD9
  refine W.widen (k := 34) (n := 300) (by omega) (by omega) ?_
  subst hAe
  exact W.vret hx hb hr (fun t ht9 hW => ⟨⟨(), rfl, trivial, ⟨by rw [ht9]; exact hP9, va_K.moved hW.alike hK9, hD9⟩⟩, hS.F ht9⟩) hS.2.2 dX8_init_40

def zX7_init_ws : List Cond := .code yX7_init cX7_init 1 none :: ([.methodLink RX7 1 objectInit, .instanceMethod objectInit, .code objectInit ⟨#[0xb1]⟩ 1 none] ++ [])
theorem zX7_init_ws_good : zX7_init_ws.all goodWord = true := by decide +kernel
set_option maxHeartbeats 4000000 in
set_option maxRecDepth 100000 in
/-- a new RX7 -/
theorem c_X7_init (l : Launch) (hst : l.stackTraces = false) (D : va_G) (sz : Nat) (h : Nat) : Met l yX7_init zX7_init_ws (zR 0 0 0) (zPre [.ref h] D [(h, .inr (13, [.int 0, .int 0, .int 0, .int 0, .int 0]))] [] (va_A [(h, .inr (13, [.int 0, .int 0, .int 0, .int 0, .int 0]))] sz) sz) (va_Qv (S := Unit) (fun _ => True) (fun _ t => zAt D [] [] (va_A [(h, .inr (13, [.int 0, .int 0, .int 0, .int 0, .int 0]))] sz) t) (va_A [(h, .inr (13, [.int 0, .int 0, .int 0, .int 0, .int 0]))] sz)) 0 0 (va_A [(h, .inr (13, [.int 0, .int 0, .int 0, .int 0, .int 0]))] sz) := by
  refine Met.ofW (cc := cX7_init) (maxL := 1) (ret := none) (by decide) rfl ?_
  intro p e s m args below meth c s₁ B hml hv
  obtain ⟨rfl, hsz, hP, hK, hD0, hz⟩ := hv
  have hx := B.exec
  have hb := B.bytes
  have hr := B.returns
  have hts := atoms_spec (ws := zX7_init_ws) B.pre
  have hown : s.vm.findClass RX7 = some m.cls := findClass_of_methodNamed B.named
  have hlocks := B.notSynchronized
  have hin : meth.name = "<init>" := (name_of_methodNamed B.named B.method).1
  subst hsz
  have hD := hD0.self (sz := s.heap.size)
  generalize hAe : va_A [(h, .inr (13, [.int 0, .int 0, .int 0, .int 0, .int 0]))] s.heap.size = A at hD hz ⊢
  have hA : ∀ q : Nat, s.heap.size ≤ q → A q := fun q h => by rw [← hAe]; exact Or.inr h
  have hS : va_S A s.heap s.heap [] := va_S.rf
  have hP : va_P D vwCl [(h, .inr (13, [.int 0, .int 0, .int 0, .int 0, .int 0]))] s.heap := hP
  have hl := lv_entry ([.ref h]) (n := 1) (Nat.le_of_ble_eq_true rfl)
  rw [lg_entry_eq]
  generalize (lg_sl ([.ref h]) ++ List.replicate (1 - (lg_sl ([.ref h])).length) Slot.unset).toArray = ls at hl ⊢
  have hl : lv_has ls 1 [(0, .ref h)] := hl
  refine lv_aload_n hx hb dX7_init_0 rfl (lv_at hl 0 rfl) ?_
  refine W.objInit hx hb hown (hts (.methodLink RX7 1 objectInit) (by decide +kernel)) (hts (.instanceMethod objectInit) (by decide +kernel)) (hts (.code objectInit ⟨#[0xb1]⟩ 1 none) (by decide +kernel)) rfl (by rw [hml]; exact hl.1) rfl dX7_init_1 (Nat.le_of_ble_eq_true rfl) (Nat.le_of_ble_eq_true rfl) ?_
  refine W.eq (g2 := F0 m 4 ls []) rfl ?_
  have hP9 := hP.sub (ws' := []) [] rfl
  have hD9 := hD.sub (ws' := []) [] (by decide) rfl
  have hK9 := hK.sub (tys' := []) [] rfl
  rw [← hAe] at hD9
  refine W.widen (k := 0) (n := 0) (by omega) (by omega) ?_
  subst hAe
  exact W.vret hx hb hr (fun t ht9 hW => ⟨⟨(), rfl, trivial, ⟨by rw [ht9]; exact hP9, va_K.moved hW.alike hK9, hD9⟩⟩, hS.F ht9⟩) hS.2.2 dX7_init_4

def zX9_init_ws : List Cond := .code yX9_init cX9_init 1 none :: ([.methodLink RX9 3 objectInit, .instanceMethod objectInit, .code objectInit ⟨#[0xb1]⟩ 1 none, .arrayClass .int, .fieldLink RX9 9 "HeatStadium$Round" "times" "[I", .fieldLink RX9 15 "HeatStadium$Round" "winds" "[I", .fieldLink RX9 18 "HeatStadium$Round" "toldAs" "[I", .arrayClass .boolean, .fieldLink RX9 21 "HeatStadium$Round" "out" "[Z", .fieldLink RX9 25 "HeatStadium$Round" "outSince" "[I", .fieldLink RX9 28 "HeatStadium$Round" "protested" "[Z"] ++ (wsX90 ++ ([])))
theorem zX9_init_ws_good : zX9_init_ws.all goodWord = true := by decide +kernel
set_option maxHeartbeats 4000000 in
set_option maxRecDepth 100000 in
/-- a new RX9 -/
theorem c_X9_init (l : Launch) (hst : l.stackTraces = false) (D : va_G) (sz : Nat) (h : Nat) : Met l yX9_init zX9_init_ws (zR 0 6 180) (zPre [.ref h] D [(h, .inr (15, [.null, .null, .null, .null, .null, .null]))] [] (va_A [(h, .inr (15, [.null, .null, .null, .null, .null, .null]))] sz) sz) (va_Qv (S := Unit) (fun _ => True) (fun _ t => zAt D [] [] (va_A [(h, .inr (15, [.null, .null, .null, .null, .null, .null]))] sz) t) (va_A [(h, .inr (15, [.null, .null, .null, .null, .null, .null]))] sz)) 6 180 (va_A [(h, .inr (15, [.null, .null, .null, .null, .null, .null]))] sz) := by
  refine Met.ofW (cc := cX9_init) (maxL := 1) (ret := none) (by decide) rfl ?_
  intro p e s m args below meth c s₁ B hml hv
  obtain ⟨rfl, hsz, hP, hK, hD0, hz⟩ := hv
  have hx := B.exec
  have hb := B.bytes
  have hr := B.returns
  have hts := atoms_spec (ws := zX9_init_ws) B.pre
  have hown : s.vm.findClass RX9 = some m.cls := findClass_of_methodNamed B.named
  have hlocks := B.notSynchronized
  have hin : meth.name = "<init>" := (name_of_methodNamed B.named B.method).1
  subst hsz
  have hD := hD0.self (sz := s.heap.size)
  generalize hAe : va_A [(h, .inr (15, [.null, .null, .null, .null, .null, .null]))] s.heap.size = A at hD hz ⊢
  have hA : ∀ q : Nat, s.heap.size ≤ q → A q := fun q h => by rw [← hAe]; exact Or.inr h
  have hS : va_S A s.heap s.heap [] := va_S.rf
  have hP : va_P D vwCl [(h, .inr (15, [.null, .null, .null, .null, .null, .null]))] s.heap := hP
  have hl := lv_entry ([.ref h]) (n := 1) (Nat.le_of_ble_eq_true rfl)
  rw [lg_entry_eq]
  generalize (lg_sl ([.ref h]) ++ List.replicate (1 - (lg_sl ([.ref h])).length) Slot.unset).toArray = ls at hl ⊢
  have hl : lv_has ls 1 [(0, .ref h)] := hl
  refine lv_aload_n hx hb dX9_init_0 rfl (lv_at hl 0 rfl) ?_
  refine W.objInit hx hb hown (hts (.methodLink RX9 3 objectInit) (by decide +kernel)) (hts (.instanceMethod objectInit) (by decide +kernel)) (hts (.code objectInit ⟨#[0xb1]⟩ 1 none) (by decide +kernel)) rfl (by rw [hml]; exact hl.1) rfl dX9_init_1 (Nat.le_of_ble_eq_true rfl) (Nat.le_of_ble_eq_true rfl) ?_
  refine W.eq (g2 := F0 m 4 ls []) rfl ?_
  refine lv_aload_n hx hb dX9_init_4 rfl (lv_at hl 0 rfl) ?_
  refine lv_bipush (v := 30) hx hb dX9_init_5 (by decide) ?_
  refine va_newa (atype := .int) (ty := .int) (a0 := (30, .inl (fun _ => 0))) hx hb (hts (.arrayClass .int) (by decide +kernel)) rfl hK hP hD hS hA (fun _ => rfl) (by decide) (by decide) (Nat.le_of_ble_eq_true rfl) (Nat.le_of_ble_eq_true rfl) (Nat.le_of_ble_eq_true rfl) dX9_init_7 (fun q1 cA2 H hK hP hD hS => ?_)
  have hP : va_P D vwCl [(h, .inr (15, [.null, .null, .null, .null, .null, .null])), (q1, .inl (cA2, 30, .inl (fun _ => 0)))] H := hP
  have hD : va_D A [(h, .inr (15, [.null, .null, .null, .null, .null, .null])), (q1, .inl (cA2, 30, .inl (fun _ => 0)))] := hD
  have hK : va_K D vwCl [(cA2, .int)] s := hK
  refine W.widen (k := 1) (n := 30) (by omega) (by omega) ?_
  refine va_putF (D := D) (ci := 15) (v := .ref q1) (ty := .array .int) (C := RX9) (T := TX9) (N := 6) hx hb hts (by decide +kernel) tyX9 tyX9_ok nmX9 hown hK hP hD hS 0 rfl rfl 0 (by decide) (hts (.fieldLink RX9 9 "HeatStadium$Round" "times" "[I") (by decide +kernel)) (fun _ h9 => h9) rfl hin rfl (by decide +kernel) rfl rfl (Nat.le_of_ble_eq_true rfl) dX9_init_9 (fun H locs hP hD hS => ?_)
  have hP : va_P D vwCl [(h, .inr (15, [.ref q1, .null, .null, .null, .null, .null])), (q1, .inl (cA2, 30, .inl (fun _ => 0)))] H := hP
  have hD : va_D A [(h, .inr (15, [.ref q1, .null, .null, .null, .null, .null])), (q1, .inl (cA2, 30, .inl (fun _ => 0)))] := hD
  refine lv_aload_n hx hb dX9_init_12 rfl (lv_at hl 0 rfl) ?_
  refine lv_bipush (v := 30) hx hb dX9_init_13 (by decide) ?_
  refine va_newa (atype := .int) (ty := .int) (a0 := (30, .inl (fun _ => 0))) hx hb (hts (.arrayClass .int) (by decide +kernel)) rfl hK hP hD hS hA (fun _ => rfl) (by decide) (by decide) (Nat.le_of_ble_eq_true rfl) (Nat.le_of_ble_eq_true rfl) (Nat.le_of_ble_eq_true rfl) dX9_init_15 (fun q3 cA4 H hK hP hD hS => ?_)
  have hP : va_P D vwCl [(h, .inr (15, [.ref q1, .null, .null, .null, .null, .null])), (q1, .inl (cA2, 30, .inl (fun _ => 0))), (q3, .inl (cA4, 30, .inl (fun _ => 0)))] H := hP
  have hD : va_D A [(h, .inr (15, [.ref q1, .null, .null, .null, .null, .null])), (q1, .inl (cA2, 30, .inl (fun _ => 0))), (q3, .inl (cA4, 30, .inl (fun _ => 0)))] := hD
  have hK : va_K D vwCl [(cA2, .int), (cA4, .int)] s := hK
  refine W.widen (k := 2) (n := 60) (by omega) (by omega) ?_
  refine va_putF (D := D) (ci := 15) (v := .ref q3) (ty := .array .int) (C := RX9) (T := TX9) (N := 6) hx hb hts (by decide +kernel) tyX9 tyX9_ok nmX9 hown hK hP hD hS 0 rfl rfl 1 (by decide) (hts (.fieldLink RX9 15 "HeatStadium$Round" "winds" "[I") (by decide +kernel)) (fun _ h9 => h9) rfl hin rfl (by decide +kernel) rfl rfl (Nat.le_of_ble_eq_true rfl) dX9_init_17 (fun H locs hP hD hS => ?_)
  have hP : va_P D vwCl [(h, .inr (15, [.ref q1, .ref q3, .null, .null, .null, .null])), (q1, .inl (cA2, 30, .inl (fun _ => 0))), (q3, .inl (cA4, 30, .inl (fun _ => 0)))] H := hP
  have hD : va_D A [(h, .inr (15, [.ref q1, .ref q3, .null, .null, .null, .null])), (q1, .inl (cA2, 30, .inl (fun _ => 0))), (q3, .inl (cA4, 30, .inl (fun _ => 0)))] := hD
  refine lv_aload_n hx hb dX9_init_20 rfl (lv_at hl 0 rfl) ?_
  refine lv_bipush (v := 30) hx hb dX9_init_21 (by decide) ?_
  refine va_newa (atype := .int) (ty := .int) (a0 := (30, .inl (fun _ => 0))) hx hb (hts (.arrayClass .int) (by decide +kernel)) rfl hK hP hD hS hA (fun _ => rfl) (by decide) (by decide) (Nat.le_of_ble_eq_true rfl) (Nat.le_of_ble_eq_true rfl) (Nat.le_of_ble_eq_true rfl) dX9_init_23 (fun q5 cA6 H hK hP hD hS => ?_)
  have hP : va_P D vwCl [(h, .inr (15, [.ref q1, .ref q3, .null, .null, .null, .null])), (q1, .inl (cA2, 30, .inl (fun _ => 0))), (q3, .inl (cA4, 30, .inl (fun _ => 0))), (q5, .inl (cA6, 30, .inl (fun _ => 0)))] H := hP
  have hD : va_D A [(h, .inr (15, [.ref q1, .ref q3, .null, .null, .null, .null])), (q1, .inl (cA2, 30, .inl (fun _ => 0))), (q3, .inl (cA4, 30, .inl (fun _ => 0))), (q5, .inl (cA6, 30, .inl (fun _ => 0)))] := hD
  have hK : va_K D vwCl [(cA2, .int), (cA4, .int), (cA6, .int)] s := hK
  refine W.widen (k := 3) (n := 90) (by omega) (by omega) ?_
  refine va_putF (D := D) (ci := 15) (v := .ref q5) (ty := .array .int) (C := RX9) (T := TX9) (N := 6) hx hb hts (by decide +kernel) tyX9 tyX9_ok nmX9 hown hK hP hD hS 0 rfl rfl 2 (by decide) (hts (.fieldLink RX9 18 "HeatStadium$Round" "toldAs" "[I") (by decide +kernel)) (fun _ h9 => h9) rfl hin rfl (by decide +kernel) rfl rfl (Nat.le_of_ble_eq_true rfl) dX9_init_25 (fun H locs hP hD hS => ?_)
  have hP : va_P D vwCl [(h, .inr (15, [.ref q1, .ref q3, .ref q5, .null, .null, .null])), (q1, .inl (cA2, 30, .inl (fun _ => 0))), (q3, .inl (cA4, 30, .inl (fun _ => 0))), (q5, .inl (cA6, 30, .inl (fun _ => 0)))] H := hP
  have hD : va_D A [(h, .inr (15, [.ref q1, .ref q3, .ref q5, .null, .null, .null])), (q1, .inl (cA2, 30, .inl (fun _ => 0))), (q3, .inl (cA4, 30, .inl (fun _ => 0))), (q5, .inl (cA6, 30, .inl (fun _ => 0)))] := hD
  refine lv_aload_n hx hb dX9_init_28 rfl (lv_at hl 0 rfl) ?_
  refine lv_bipush (v := 30) hx hb dX9_init_29 (by decide) ?_
  refine va_newa (atype := .boolean) (ty := .boolean) (a0 := (30, .inl (fun _ => 0))) hx hb (hts (.arrayClass .boolean) (by decide +kernel)) rfl hK hP hD hS hA (fun _ => rfl) (by decide) (by decide) (Nat.le_of_ble_eq_true rfl) (Nat.le_of_ble_eq_true rfl) (Nat.le_of_ble_eq_true rfl) dX9_init_31 (fun q7 cA8 H hK hP hD hS => ?_)
  have hP : va_P D vwCl [(h, .inr (15, [.ref q1, .ref q3, .ref q5, .null, .null, .null])), (q1, .inl (cA2, 30, .inl (fun _ => 0))), (q3, .inl (cA4, 30, .inl (fun _ => 0))), (q5, .inl (cA6, 30, .inl (fun _ => 0))), (q7, .inl (cA8, 30, .inl (fun _ => 0)))] H := hP
  have hD : va_D A [(h, .inr (15, [.ref q1, .ref q3, .ref q5, .null, .null, .null])), (q1, .inl (cA2, 30, .inl (fun _ => 0))), (q3, .inl (cA4, 30, .inl (fun _ => 0))), (q5, .inl (cA6, 30, .inl (fun _ => 0))), (q7, .inl (cA8, 30, .inl (fun _ => 0)))] := hD
  have hK : va_K D vwCl [(cA2, .int), (cA4, .int), (cA6, .int), (cA8, .boolean)] s := hK
  refine W.widen (k := 4) (n := 120) (by omega) (by omega) ?_
  refine va_putF (D := D) (ci := 15) (v := .ref q7) (ty := .array .boolean) (C := RX9) (T := TX9) (N := 6) hx hb hts (by decide +kernel) tyX9 tyX9_ok nmX9 hown hK hP hD hS 0 rfl rfl 3 (by decide) (hts (.fieldLink RX9 21 "HeatStadium$Round" "out" "[Z") (by decide +kernel)) (fun _ h9 => h9) rfl hin rfl (by decide +kernel) rfl rfl (Nat.le_of_ble_eq_true rfl) dX9_init_33 (fun H locs hP hD hS => ?_)
  have hP : va_P D vwCl [(h, .inr (15, [.ref q1, .ref q3, .ref q5, .ref q7, .null, .null])), (q1, .inl (cA2, 30, .inl (fun _ => 0))), (q3, .inl (cA4, 30, .inl (fun _ => 0))), (q5, .inl (cA6, 30, .inl (fun _ => 0))), (q7, .inl (cA8, 30, .inl (fun _ => 0)))] H := hP
  have hD : va_D A [(h, .inr (15, [.ref q1, .ref q3, .ref q5, .ref q7, .null, .null])), (q1, .inl (cA2, 30, .inl (fun _ => 0))), (q3, .inl (cA4, 30, .inl (fun _ => 0))), (q5, .inl (cA6, 30, .inl (fun _ => 0))), (q7, .inl (cA8, 30, .inl (fun _ => 0)))] := hD
  refine lv_aload_n hx hb dX9_init_36 rfl (lv_at hl 0 rfl) ?_
  refine lv_bipush (v := 30) hx hb dX9_init_37 (by decide) ?_
  refine va_newa (atype := .int) (ty := .int) (a0 := (30, .inl (fun _ => 0))) hx hb (hts (.arrayClass .int) (by decide +kernel)) rfl hK hP hD hS hA (fun _ => rfl) (by decide) (by decide) (Nat.le_of_ble_eq_true rfl) (Nat.le_of_ble_eq_true rfl) (Nat.le_of_ble_eq_true rfl) dX9_init_39 (fun q9 cA10 H hK hP hD hS => ?_)
  have hP : va_P D vwCl [(h, .inr (15, [.ref q1, .ref q3, .ref q5, .ref q7, .null, .null])), (q1, .inl (cA2, 30, .inl (fun _ => 0))), (q3, .inl (cA4, 30, .inl (fun _ => 0))), (q5, .inl (cA6, 30, .inl (fun _ => 0))), (q7, .inl (cA8, 30, .inl (fun _ => 0))), (q9, .inl (cA10, 30, .inl (fun _ => 0)))] H := hP
  have hD : va_D A [(h, .inr (15, [.ref q1, .ref q3, .ref q5, .ref q7, .null, .null])), (q1, .inl (cA2, 30, .inl (fun _ => 0))), (q3, .inl (cA4, 30, .inl (fun _ => 0))), (q5, .inl (cA6, 30, .inl (fun _ => 0))), (q7, .inl (cA8, 30, .inl (fun _ => 0))), (q9, .inl (cA10, 30, .inl (fun _ => 0)))] := hD
  have hK : va_K D vwCl [(cA2, .int), (cA4, .int), (cA6, .int), (cA8, .boolean), (cA10, .int)] s := hK
  refine W.widen (k := 5) (n := 150) (by omega) (by omega) ?_
  refine va_putF (D := D) (ci := 15) (v := .ref q9) (ty := .array .int) (C := RX9) (T := TX9) (N := 6) hx hb hts (by decide +kernel) tyX9 tyX9_ok nmX9 hown hK hP hD hS 0 rfl rfl 4 (by decide) (hts (.fieldLink RX9 25 "HeatStadium$Round" "outSince" "[I") (by decide +kernel)) (fun _ h9 => h9) rfl hin rfl (by decide +kernel) rfl rfl (Nat.le_of_ble_eq_true rfl) dX9_init_41 (fun H locs hP hD hS => ?_)
  have hP : va_P D vwCl [(h, .inr (15, [.ref q1, .ref q3, .ref q5, .ref q7, .ref q9, .null])), (q1, .inl (cA2, 30, .inl (fun _ => 0))), (q3, .inl (cA4, 30, .inl (fun _ => 0))), (q5, .inl (cA6, 30, .inl (fun _ => 0))), (q7, .inl (cA8, 30, .inl (fun _ => 0))), (q9, .inl (cA10, 30, .inl (fun _ => 0)))] H := hP
  have hD : va_D A [(h, .inr (15, [.ref q1, .ref q3, .ref q5, .ref q7, .ref q9, .null])), (q1, .inl (cA2, 30, .inl (fun _ => 0))), (q3, .inl (cA4, 30, .inl (fun _ => 0))), (q5, .inl (cA6, 30, .inl (fun _ => 0))), (q7, .inl (cA8, 30, .inl (fun _ => 0))), (q9, .inl (cA10, 30, .inl (fun _ => 0)))] := hD
  refine lv_aload_n hx hb dX9_init_44 rfl (lv_at hl 0 rfl) ?_
  refine lv_bipush (v := 30) hx hb dX9_init_45 (by decide) ?_
  refine va_newa (atype := .boolean) (ty := .boolean) (a0 := (30, .inl (fun _ => 0))) hx hb (hts (.arrayClass .boolean) (by decide +kernel)) rfl hK hP hD hS hA (fun _ => rfl) (by decide) (by decide) (Nat.le_of_ble_eq_true rfl) (Nat.le_of_ble_eq_true rfl) (Nat.le_of_ble_eq_true rfl) dX9_init_47 (fun q11 cA12 H hK hP hD hS => ?_)
  have hP : va_P D vwCl [(h, .inr (15, [.ref q1, .ref q3, .ref q5, .ref q7, .ref q9, .null])), (q1, .inl (cA2, 30, .inl (fun _ => 0))), (q3, .inl (cA4, 30, .inl (fun _ => 0))), (q5, .inl (cA6, 30, .inl (fun _ => 0))), (q7, .inl (cA8, 30, .inl (fun _ => 0))), (q9, .inl (cA10, 30, .inl (fun _ => 0))), (q11, .inl (cA12, 30, .inl (fun _ => 0)))] H := hP
  have hD : va_D A [(h, .inr (15, [.ref q1, .ref q3, .ref q5, .ref q7, .ref q9, .null])), (q1, .inl (cA2, 30, .inl (fun _ => 0))), (q3, .inl (cA4, 30, .inl (fun _ => 0))), (q5, .inl (cA6, 30, .inl (fun _ => 0))), (q7, .inl (cA8, 30, .inl (fun _ => 0))), (q9, .inl (cA10, 30, .inl (fun _ => 0))), (q11, .inl (cA12, 30, .inl (fun _ => 0)))] := hD
  have hK : va_K D vwCl [(cA2, .int), (cA4, .int), (cA6, .int), (cA8, .boolean), (cA10, .int), (cA12, .boolean)] s := hK
  refine W.widen (k := 6) (n := 180) (by omega) (by omega) ?_
  refine va_putF (D := D) (ci := 15) (v := .ref q11) (ty := .array .boolean) (C := RX9) (T := TX9) (N := 6) hx hb hts (by decide +kernel) tyX9 tyX9_ok nmX9 hown hK hP hD hS 0 rfl rfl 5 (by decide) (hts (.fieldLink RX9 28 "HeatStadium$Round" "protested" "[Z") (by decide +kernel)) (fun _ h9 => h9) rfl hin rfl (by decide +kernel) rfl rfl (Nat.le_of_ble_eq_true rfl) dX9_init_49 (fun H locs hP hD hS => ?_)
  have hP : va_P D vwCl [(h, .inr (15, [.ref q1, .ref q3, .ref q5, .ref q7, .ref q9, .ref q11])), (q1, .inl (cA2, 30, .inl (fun _ => 0))), (q3, .inl (cA4, 30, .inl (fun _ => 0))), (q5, .inl (cA6, 30, .inl (fun _ => 0))), (q7, .inl (cA8, 30, .inl (fun _ => 0))), (q9, .inl (cA10, 30, .inl (fun _ => 0))), (q11, .inl (cA12, 30, .inl (fun _ => 0)))] H := hP
  have hD : va_D A [(h, .inr (15, [.ref q1, .ref q3, .ref q5, .ref q7, .ref q9, .ref q11])), (q1, .inl (cA2, 30, .inl (fun _ => 0))), (q3, .inl (cA4, 30, .inl (fun _ => 0))), (q5, .inl (cA6, 30, .inl (fun _ => 0))), (q7, .inl (cA8, 30, .inl (fun _ => 0))), (q9, .inl (cA10, 30, .inl (fun _ => 0))), (q11, .inl (cA12, 30, .inl (fun _ => 0)))] := hD
  have hP9 := hP.sub (ws' := []) [] rfl
  have hD9 := hD.sub (ws' := []) [] (by decide) rfl
  have hK9 := hK.sub (tys' := []) [] rfl
  rw [← hAe] at hD9
  refine W.widen (k := 6) (n := 180) (by omega) (by omega) ?_
  subst hAe
  exact W.vret hx hb hr (fun t ht9 hW => ⟨⟨(), rfl, trivial, ⟨by rw [ht9]; exact hP9, va_K.moved hW.alike hK9, hD9⟩⟩, hS.F ht9⟩) hS.2.2 dX9_init_52

def zX3_init_ws : List Cond := .code yX3_init cX3_init 1 none :: ([.methodLink RX3 3 objectInit, .instanceMethod objectInit, .code objectInit ⟨#[0xb1]⟩ 1 none, .arrayClass .int, .fieldLink RX3 9 "HeatStadium$Jumps" "heights" "[I", .classLink RX3 15 "[[I", .fieldLink RX3 17 "HeatStadium$Jumps" "failures" "[[I", .fieldLink RX3 20 "HeatStadium$Jumps" "clearedAs" "[[I", .fieldLink RX3 23 "HeatStadium$Jumps" "failuresInRow" "[I", .fieldLink RX3 26 "HeatStadium$Jumps" "doneWith" "[I"] ++ (wsX30 ++ ([])))
theorem zX3_init_ws_good : zX3_init_ws.all goodWord = true := by decide +kernel
set_option maxHeartbeats 4000000 in
set_option maxRecDepth 100000 in
/-- a new RX3 -/
theorem c_X3_init (l : Launch) (hst : l.stackTraces = false) (D : va_G) (sz : Nat) (h : Nat) : Met l yX3_init zX3_init_ws (zR 0 65 730) (zPre [.ref h] D [(h, .inr (9, [.null, .null, .null, .null, .null, .int 0]))] [] (va_A [(h, .inr (9, [.null, .null, .null, .null, .null, .int 0]))] sz) sz) (va_Qv (S := Unit) (fun _ => True) (fun _ t => zAt D [] [] (va_A [(h, .inr (9, [.null, .null, .null, .null, .null, .int 0]))] sz) t) (va_A [(h, .inr (9, [.null, .null, .null, .null, .null, .int 0]))] sz)) 65 730 (va_A [(h, .inr (9, [.null, .null, .null, .null, .null, .int 0]))] sz) := by
  refine Met.ofW (cc := cX3_init) (maxL := 1) (ret := none) (by decide) rfl ?_
  intro p e s m args below meth c s₁ B hml hv
  obtain ⟨rfl, hsz, hP, hK, hD0, hz⟩ := hv
  have hx := B.exec
  have hb := B.bytes
  have hr := B.returns
  have hts := atoms_spec (ws := zX3_init_ws) B.pre
  have hown : s.vm.findClass RX3 = some m.cls := findClass_of_methodNamed B.named
  have hlocks := B.notSynchronized
  have hin : meth.name = "<init>" := (name_of_methodNamed B.named B.method).1
  subst hsz
  have hD := hD0.self (sz := s.heap.size)
  generalize hAe : va_A [(h, .inr (9, [.null, .null, .null, .null, .null, .int 0]))] s.heap.size = A at hD hz ⊢
  have hA : ∀ q : Nat, s.heap.size ≤ q → A q := fun q h => by rw [← hAe]; exact Or.inr h
  have hS : va_S A s.heap s.heap [] := va_S.rf
  have hP : va_P D vwCl [(h, .inr (9, [.null, .null, .null, .null, .null, .int 0]))] s.heap := hP
  have hl := lv_entry ([.ref h]) (n := 1) (Nat.le_of_ble_eq_true rfl)
  rw [lg_entry_eq]
  generalize (lg_sl ([.ref h]) ++ List.replicate (1 - (lg_sl ([.ref h])).length) Slot.unset).toArray = ls at hl ⊢
  have hl : lv_has ls 1 [(0, .ref h)] := hl
  refine lv_aload_n hx hb dX3_init_0 rfl (lv_at hl 0 rfl) ?_
  refine W.objInit hx hb hown (hts (.methodLink RX3 3 objectInit) (by decide +kernel)) (hts (.instanceMethod objectInit) (by decide +kernel)) (hts (.code objectInit ⟨#[0xb1]⟩ 1 none) (by decide +kernel)) rfl (by rw [hml]; exact hl.1) rfl dX3_init_1 (Nat.le_of_ble_eq_true rfl) (Nat.le_of_ble_eq_true rfl) ?_
  refine W.eq (g2 := F0 m 4 ls []) rfl ?_
  refine lv_aload_n hx hb dX3_init_4 rfl (lv_at hl 0 rfl) ?_
  refine lv_bipush (v := 10) hx hb dX3_init_5 (by decide) ?_
  refine va_newa (atype := .int) (ty := .int) (a0 := (10, .inl (fun _ => 0))) hx hb (hts (.arrayClass .int) (by decide +kernel)) rfl hK hP hD hS hA (fun _ => rfl) (by decide) (by decide) (Nat.le_of_ble_eq_true rfl) (Nat.le_of_ble_eq_true rfl) (Nat.le_of_ble_eq_true rfl) dX3_init_7 (fun q1 cA2 H hK hP hD hS => ?_)
  have hP : va_P D vwCl [(h, .inr (9, [.null, .null, .null, .null, .null, .int 0])), (q1, .inl (cA2, 10, .inl (fun _ => 0)))] H := hP
  have hD : va_D A [(h, .inr (9, [.null, .null, .null, .null, .null, .int 0])), (q1, .inl (cA2, 10, .inl (fun _ => 0)))] := hD
  have hK : va_K D vwCl [(cA2, .int)] s := hK
  refine W.widen (k := 1) (n := 10) (by omega) (by omega) ?_
  refine va_putF (D := D) (ci := 9) (v := .ref q1) (ty := .array .int) (C := RX3) (T := TX3) (N := 6) hx hb hts (by decide +kernel) tyX3 tyX3_ok nmX3 hown hK hP hD hS 0 rfl rfl 0 (by decide) (hts (.fieldLink RX3 9 "HeatStadium$Jumps" "heights" "[I") (by decide +kernel)) (fun _ h9 => h9) rfl hin rfl (by decide +kernel) rfl rfl (Nat.le_of_ble_eq_true rfl) dX3_init_9 (fun H locs hP hD hS => ?_)
  have hP : va_P D vwCl [(h, .inr (9, [.ref q1, .null, .null, .null, .null, .int 0])), (q1, .inl (cA2, 10, .inl (fun _ => 0)))] H := hP
  have hD : va_D A [(h, .inr (9, [.ref q1, .null, .null, .null, .null, .int 0])), (q1, .inl (cA2, 10, .inl (fun _ => 0)))] := hD
  refine lv_aload_n hx hb dX3_init_12 rfl (lv_at hl 0 rfl) ?_
  refine lv_bipush (v := 30) hx hb dX3_init_13 (by decide) ?_
  refine lv_bipush (v := 10) hx hb dX3_init_15 (by decide) ?_
  obtain ⟨cy, _, _, hcy, -⟩ := Cond.arrayOver_specA (va_AOA.use (A := #[]) hz.2.2.2.1.2.2)
  refine va_mna (X := [(h, .inr (9, [.ref q1, .null, .null, .null, .null, .int 0])), (q1, .inl (cA2, 10, .inl (fun _ => 0)))]) (L := []) (f := zrow 0) hx hb hown (hts (.classLink RX3 15 "[[I") (by decide +kernel)) hz.2.2.2.1.2.2 (hts (.arrayClass .int) (by decide +kernel)) hcy hK hP hD hS hA (n := 30) (k := 10) (N' := 30) (K' := 10) (z := (10, .inl (fun _ => 0))) (by decide) (by decide) (by decide) (by decide) (Nat.le_of_ble_eq_true rfl) (Nat.le_of_ble_eq_true rfl) (Nat.le_of_ble_eq_true rfl) (by decide) (by decide) (Nat.le_of_ble_eq_true rfl) (Nat.le_of_ble_eq_true rfl) (fun _ => rfl) dX3_init_17 (fun q3 r4 cA5 H _ _ hK hP hD hS => ?_)
  have hP := hP.sub (ws' := [(h, .inr (9, [.ref q1, .null, .null, .null, .null, .int 0])), (q1, .inl (cA2, 10, .inl (fun _ => 0))), (q3, .inl (cA5, 30, .inr (.inr (.inr (.inr (fun i => if i < 30 then some (r4 i) else none))))))]) [0, 1, 2] rfl
  have hD := hD.sub (ws' := [(h, .inr (9, [.ref q1, .null, .null, .null, .null, .int 0])), (q1, .inl (cA2, 10, .inl (fun _ => 0))), (q3, .inl (cA5, 30, .inr (.inr (.inr (.inr (fun i => if i < 30 then some (r4 i) else none))))))]) [0, 1, 2] (by decide) rfl
  have hK : va_K D vwCl [(cA2, .int), (cA5, .array .int)] s := hK
  refine W.widen (k := 32) (n := 340) (by omega) (by omega) ?_
  refine va_putF (D := D) (ci := 9) (v := .ref q3) (ty := .array (.array .int)) (C := RX3) (T := TX3) (N := 6) hx hb hts (by decide +kernel) tyX3 tyX3_ok nmX3 hown hK hP hD hS 0 rfl rfl 1 (by decide) (hts (.fieldLink RX3 17 "HeatStadium$Jumps" "failures" "[[I") (by decide +kernel)) (fun _ h9 => h9) rfl hin rfl (by decide +kernel) rfl rfl (Nat.le_of_ble_eq_true rfl) dX3_init_21 (fun H locs hP hD hS => ?_)
  have hP : va_P D vwCl [(h, .inr (9, [.ref q1, .ref q3, .null, .null, .null, .int 0])), (q1, .inl (cA2, 10, .inl (fun _ => 0))), (q3, .inl (cA5, 30, .inr (.inr (.inr (.inr (fun i => if i < 30 then some (r4 i) else none))))))] H := hP
  have hD : va_D A [(h, .inr (9, [.ref q1, .ref q3, .null, .null, .null, .int 0])), (q1, .inl (cA2, 10, .inl (fun _ => 0))), (q3, .inl (cA5, 30, .inr (.inr (.inr (.inr (fun i => if i < 30 then some (r4 i) else none))))))] := hD
  refine lv_aload_n hx hb dX3_init_24 rfl (lv_at hl 0 rfl) ?_
  refine lv_bipush (v := 30) hx hb dX3_init_25 (by decide) ?_
  refine lv_bipush (v := 10) hx hb dX3_init_27 (by decide) ?_
  refine va_mna (X := [(h, .inr (9, [.ref q1, .ref q3, .null, .null, .null, .int 0])), (q1, .inl (cA2, 10, .inl (fun _ => 0))), (q3, .inl (cA5, 30, .inr (.inr (.inr (.inr (fun i => if i < 30 then some (r4 i) else none))))))]) (L := []) (f := zrow 0) hx hb hown (hts (.classLink RX3 15 "[[I") (by decide +kernel)) hz.2.2.2.1.2.2 (hts (.arrayClass .int) (by decide +kernel)) hcy hK hP hD hS hA (n := 30) (k := 10) (N' := 30) (K' := 10) (z := (10, .inl (fun _ => 0))) (by decide) (by decide) (by decide) (by decide) (Nat.le_of_ble_eq_true rfl) (Nat.le_of_ble_eq_true rfl) (Nat.le_of_ble_eq_true rfl) (by decide) (by decide) (Nat.le_of_ble_eq_true rfl) (Nat.le_of_ble_eq_true rfl) (fun _ => rfl) dX3_init_29 (fun q6 r7 cA8 H _ _ hK hP hD hS => ?_)
  have hP := hP.sub (ws' := [(h, .inr (9, [.ref q1, .ref q3, .null, .null, .null, .int 0])), (q1, .inl (cA2, 10, .inl (fun _ => 0))), (q3, .inl (cA5, 30, .inr (.inr (.inr (.inr (fun i => if i < 30 then some (r4 i) else none)))))), (q6, .inl (cA8, 30, .inr (.inr (.inr (.inr (fun i => if i < 30 then some (r7 i) else none))))))]) [0, 1, 2, 3] rfl
  have hD := hD.sub (ws' := [(h, .inr (9, [.ref q1, .ref q3, .null, .null, .null, .int 0])), (q1, .inl (cA2, 10, .inl (fun _ => 0))), (q3, .inl (cA5, 30, .inr (.inr (.inr (.inr (fun i => if i < 30 then some (r4 i) else none)))))), (q6, .inl (cA8, 30, .inr (.inr (.inr (.inr (fun i => if i < 30 then some (r7 i) else none))))))]) [0, 1, 2, 3] (by decide) rfl
  have hK : va_K D vwCl [(cA2, .int), (cA5, .array .int), (cA8, .array .int)] s := hK
  refine W.widen (k := 63) (n := 670) (by omega) (by omega) ?_
  refine va_putF (D := D) (ci := 9) (v := .ref q6) (ty := .array (.array .int)) (C := RX3) (T := TX3) (N := 6) hx hb hts (by decide +kernel) tyX3 tyX3_ok nmX3 hown hK hP hD hS 0 rfl rfl 2 (by decide) (hts (.fieldLink RX3 20 "HeatStadium$Jumps" "clearedAs" "[[I") (by decide +kernel)) (fun _ h9 => h9) rfl hin rfl (by decide +kernel) rfl rfl (Nat.le_of_ble_eq_true rfl) dX3_init_33 (fun H locs hP hD hS => ?_)
  have hP : va_P D vwCl [(h, .inr (9, [.ref q1, .ref q3, .ref q6, .null, .null, .int 0])), (q1, .inl (cA2, 10, .inl (fun _ => 0))), (q3, .inl (cA5, 30, .inr (.inr (.inr (.inr (fun i => if i < 30 then some (r4 i) else none)))))), (q6, .inl (cA8, 30, .inr (.inr (.inr (.inr (fun i => if i < 30 then some (r7 i) else none))))))] H := hP
  have hD : va_D A [(h, .inr (9, [.ref q1, .ref q3, .ref q6, .null, .null, .int 0])), (q1, .inl (cA2, 10, .inl (fun _ => 0))), (q3, .inl (cA5, 30, .inr (.inr (.inr (.inr (fun i => if i < 30 then some (r4 i) else none)))))), (q6, .inl (cA8, 30, .inr (.inr (.inr (.inr (fun i => if i < 30 then some (r7 i) else none))))))] := hD
  refine lv_aload_n hx hb dX3_init_36 rfl (lv_at hl 0 rfl) ?_
  refine lv_bipush (v := 30) hx hb dX3_init_37 (by decide) ?_
  refine va_newa (atype := .int) (ty := .int) (a0 := (30, .inl (fun _ => 0))) hx hb (hts (.arrayClass .int) (by decide +kernel)) rfl hK hP hD hS hA (fun _ => rfl) (by decide) (by decide) (Nat.le_of_ble_eq_true rfl) (Nat.le_of_ble_eq_true rfl) (Nat.le_of_ble_eq_true rfl) dX3_init_39 (fun q9 cA10 H hK hP hD hS => ?_)
  have hP : va_P D vwCl [(h, .inr (9, [.ref q1, .ref q3, .ref q6, .null, .null, .int 0])), (q1, .inl (cA2, 10, .inl (fun _ => 0))), (q3, .inl (cA5, 30, .inr (.inr (.inr (.inr (fun i => if i < 30 then some (r4 i) else none)))))), (q6, .inl (cA8, 30, .inr (.inr (.inr (.inr (fun i => if i < 30 then some (r7 i) else none)))))), (q9, .inl (cA10, 30, .inl (fun _ => 0)))] H := hP
  have hD : va_D A [(h, .inr (9, [.ref q1, .ref q3, .ref q6, .null, .null, .int 0])), (q1, .inl (cA2, 10, .inl (fun _ => 0))), (q3, .inl (cA5, 30, .inr (.inr (.inr (.inr (fun i => if i < 30 then some (r4 i) else none)))))), (q6, .inl (cA8, 30, .inr (.inr (.inr (.inr (fun i => if i < 30 then some (r7 i) else none)))))), (q9, .inl (cA10, 30, .inl (fun _ => 0)))] := hD
  have hK : va_K D vwCl [(cA2, .int), (cA5, .array .int), (cA8, .array .int), (cA10, .int)] s := hK
  refine W.widen (k := 64) (n := 700) (by omega) (by omega) ?_
  refine va_putF (D := D) (ci := 9) (v := .ref q9) (ty := .array .int) (C := RX3) (T := TX3) (N := 6) hx hb hts (by decide +kernel) tyX3 tyX3_ok nmX3 hown hK hP hD hS 0 rfl rfl 3 (by decide) (hts (.fieldLink RX3 23 "HeatStadium$Jumps" "failuresInRow" "[I") (by decide +kernel)) (fun _ h9 => h9) rfl hin rfl (by decide +kernel) rfl rfl (Nat.le_of_ble_eq_true rfl) dX3_init_41 (fun H locs hP hD hS => ?_)
  have hP : va_P D vwCl [(h, .inr (9, [.ref q1, .ref q3, .ref q6, .ref q9, .null, .int 0])), (q1, .inl (cA2, 10, .inl (fun _ => 0))), (q3, .inl (cA5, 30, .inr (.inr (.inr (.inr (fun i => if i < 30 then some (r4 i) else none)))))), (q6, .inl (cA8, 30, .inr (.inr (.inr (.inr (fun i => if i < 30 then some (r7 i) else none)))))), (q9, .inl (cA10, 30, .inl (fun _ => 0)))] H := hP
  have hD : va_D A [(h, .inr (9, [.ref q1, .ref q3, .ref q6, .ref q9, .null, .int 0])), (q1, .inl (cA2, 10, .inl (fun _ => 0))), (q3, .inl (cA5, 30, .inr (.inr (.inr (.inr (fun i => if i < 30 then some (r4 i) else none)))))), (q6, .inl (cA8, 30, .inr (.inr (.inr (.inr (fun i => if i < 30 then some (r7 i) else none)))))), (q9, .inl (cA10, 30, .inl (fun _ => 0)))] := hD
  refine lv_aload_n hx hb dX3_init_44 rfl (lv_at hl 0 rfl) ?_
  refine lv_bipush (v := 30) hx hb dX3_init_45 (by decide) ?_
  refine va_newa (atype := .int) (ty := .int) (a0 := (30, .inl (fun _ => 0))) hx hb (hts (.arrayClass .int) (by decide +kernel)) rfl hK hP hD hS hA (fun _ => rfl) (by decide) (by decide) (Nat.le_of_ble_eq_true rfl) (Nat.le_of_ble_eq_true rfl) (Nat.le_of_ble_eq_true rfl) dX3_init_47 (fun q11 cA12 H hK hP hD hS => ?_)
  have hP : va_P D vwCl [(h, .inr (9, [.ref q1, .ref q3, .ref q6, .ref q9, .null, .int 0])), (q1, .inl (cA2, 10, .inl (fun _ => 0))), (q3, .inl (cA5, 30, .inr (.inr (.inr (.inr (fun i => if i < 30 then some (r4 i) else none)))))), (q6, .inl (cA8, 30, .inr (.inr (.inr (.inr (fun i => if i < 30 then some (r7 i) else none)))))), (q9, .inl (cA10, 30, .inl (fun _ => 0))), (q11, .inl (cA12, 30, .inl (fun _ => 0)))] H := hP
  have hD : va_D A [(h, .inr (9, [.ref q1, .ref q3, .ref q6, .ref q9, .null, .int 0])), (q1, .inl (cA2, 10, .inl (fun _ => 0))), (q3, .inl (cA5, 30, .inr (.inr (.inr (.inr (fun i => if i < 30 then some (r4 i) else none)))))), (q6, .inl (cA8, 30, .inr (.inr (.inr (.inr (fun i => if i < 30 then some (r7 i) else none)))))), (q9, .inl (cA10, 30, .inl (fun _ => 0))), (q11, .inl (cA12, 30, .inl (fun _ => 0)))] := hD
  have hK : va_K D vwCl [(cA2, .int), (cA5, .array .int), (cA8, .array .int), (cA10, .int), (cA12, .int)] s := hK
  refine W.widen (k := 65) (n := 730) (by omega) (by omega) ?_
  refine va_putF (D := D) (ci := 9) (v := .ref q11) (ty := .array .int) (C := RX3) (T := TX3) (N := 6) hx hb hts (by decide +kernel) tyX3 tyX3_ok nmX3 hown hK hP hD hS 0 rfl rfl 4 (by decide) (hts (.fieldLink RX3 26 "HeatStadium$Jumps" "doneWith" "[I") (by decide +kernel)) (fun _ h9 => h9) rfl hin rfl (by decide +kernel) rfl rfl (Nat.le_of_ble_eq_true rfl) dX3_init_49 (fun H locs hP hD hS => ?_)
  have hP : va_P D vwCl [(h, .inr (9, [.ref q1, .ref q3, .ref q6, .ref q9, .ref q11, .int 0])), (q1, .inl (cA2, 10, .inl (fun _ => 0))), (q3, .inl (cA5, 30, .inr (.inr (.inr (.inr (fun i => if i < 30 then some (r4 i) else none)))))), (q6, .inl (cA8, 30, .inr (.inr (.inr (.inr (fun i => if i < 30 then some (r7 i) else none)))))), (q9, .inl (cA10, 30, .inl (fun _ => 0))), (q11, .inl (cA12, 30, .inl (fun _ => 0)))] H := hP
  have hD : va_D A [(h, .inr (9, [.ref q1, .ref q3, .ref q6, .ref q9, .ref q11, .int 0])), (q1, .inl (cA2, 10, .inl (fun _ => 0))), (q3, .inl (cA5, 30, .inr (.inr (.inr (.inr (fun i => if i < 30 then some (r4 i) else none)))))), (q6, .inl (cA8, 30, .inr (.inr (.inr (.inr (fun i => if i < 30 then some (r7 i) else none)))))), (q9, .inl (cA10, 30, .inl (fun _ => 0))), (q11, .inl (cA12, 30, .inl (fun _ => 0)))] := hD
  have hP9 := hP.sub (ws' := []) [] rfl
  have hD9 := hD.sub (ws' := []) [] (by decide) rfl
  have hK9 := hK.sub (tys' := []) [] rfl
  rw [← hAe] at hD9
  refine W.widen (k := 65) (n := 730) (by omega) (by omega) ?_
  subst hAe
  exact W.vret hx hb hr (fun t ht9 hW => ⟨⟨(), rfl, trivial, ⟨by rw [ht9]; exact hP9, va_K.moved hW.alike hK9, hD9⟩⟩, hS.F ht9⟩) hS.2.2 dX3_init_52

def zX10_init_ws : List Cond := .code yX10_init cX10_init 1 none :: ([.methodLink RX10 3 objectInit, .instanceMethod objectInit, .code objectInit ⟨#[0xb1]⟩ 1 none, .classLink RX10 9 "[[I", .arrayClass .int, .fieldLink RX10 11 "HeatStadium$Throws" "lengths" "[[I", .fieldLink RX10 16 "HeatStadium$Throws" "toldAs" "[[I", .fieldLink RX10 19 "HeatStadium$Throws" "counts" "[I"] ++ (wsX100 ++ ([])))
theorem zX10_init_ws_good : zX10_init_ws.all goodWord = true := by decide +kernel
set_option maxHeartbeats 4000000 in
set_option maxRecDepth 100000 in
/-- a new RX10 -/
theorem c_X10_init (l : Launch) (hst : l.stackTraces = false) (D : va_G) (sz : Nat) (h : Nat) : Met l yX10_init zX10_init_ws (zR 0 63 450) (zPre [.ref h] D [(h, .inr (16, [.null, .null, .null]))] [] (va_A [(h, .inr (16, [.null, .null, .null]))] sz) sz) (va_Qv (S := Unit) (fun _ => True) (fun _ t => zAt D [] [] (va_A [(h, .inr (16, [.null, .null, .null]))] sz) t) (va_A [(h, .inr (16, [.null, .null, .null]))] sz)) 63 450 (va_A [(h, .inr (16, [.null, .null, .null]))] sz) := by
  refine Met.ofW (cc := cX10_init) (maxL := 1) (ret := none) (by decide) rfl ?_
  intro p e s m args below meth c s₁ B hml hv
  obtain ⟨rfl, hsz, hP, hK, hD0, hz⟩ := hv
  have hx := B.exec
  have hb := B.bytes
  have hr := B.returns
  have hts := atoms_spec (ws := zX10_init_ws) B.pre
  have hown : s.vm.findClass RX10 = some m.cls := findClass_of_methodNamed B.named
  have hlocks := B.notSynchronized
  have hin : meth.name = "<init>" := (name_of_methodNamed B.named B.method).1
  subst hsz
  have hD := hD0.self (sz := s.heap.size)
  generalize hAe : va_A [(h, .inr (16, [.null, .null, .null]))] s.heap.size = A at hD hz ⊢
  have hA : ∀ q : Nat, s.heap.size ≤ q → A q := fun q h => by rw [← hAe]; exact Or.inr h
  have hS : va_S A s.heap s.heap [] := va_S.rf
  have hP : va_P D vwCl [(h, .inr (16, [.null, .null, .null]))] s.heap := hP
  have hl := lv_entry ([.ref h]) (n := 1) (Nat.le_of_ble_eq_true rfl)
  rw [lg_entry_eq]
  generalize (lg_sl ([.ref h]) ++ List.replicate (1 - (lg_sl ([.ref h])).length) Slot.unset).toArray = ls at hl ⊢
  have hl : lv_has ls 1 [(0, .ref h)] := hl
  refine lv_aload_n hx hb dX10_init_0 rfl (lv_at hl 0 rfl) ?_
  refine W.objInit hx hb hown (hts (.methodLink RX10 3 objectInit) (by decide +kernel)) (hts (.instanceMethod objectInit) (by decide +kernel)) (hts (.code objectInit ⟨#[0xb1]⟩ 1 none) (by decide +kernel)) rfl (by rw [hml]; exact hl.1) rfl dX10_init_1 (Nat.le_of_ble_eq_true rfl) (Nat.le_of_ble_eq_true rfl) ?_
  refine W.eq (g2 := F0 m 4 ls []) rfl ?_
  refine lv_aload_n hx hb dX10_init_4 rfl (lv_at hl 0 rfl) ?_
  refine lv_bipush (v := 30) hx hb dX10_init_5 (by decide) ?_
  refine lv_bipush (v := 6) hx hb dX10_init_7 (by decide) ?_
  obtain ⟨cy, _, _, hcy, -⟩ := Cond.arrayOver_specA (va_AOA.use (A := #[]) hz.2.2.2.1.2.2)
  refine va_mna (X := [(h, .inr (16, [.null, .null, .null]))]) (L := []) (f := zrow 0) hx hb hown (hts (.classLink RX10 9 "[[I") (by decide +kernel)) hz.2.2.2.1.2.2 (hts (.arrayClass .int) (by decide +kernel)) hcy hK hP hD hS hA (n := 30) (k := 6) (N' := 30) (K' := 6) (z := (6, .inl (fun _ => 0))) (by decide) (by decide) (by decide) (by decide) (Nat.le_of_ble_eq_true rfl) (Nat.le_of_ble_eq_true rfl) (Nat.le_of_ble_eq_true rfl) (by decide) (by decide) (Nat.le_of_ble_eq_true rfl) (Nat.le_of_ble_eq_true rfl) (fun _ => rfl) dX10_init_9 (fun q1 r2 cA3 H _ _ hK hP hD hS => ?_)
  have hP := hP.sub (ws' := [(h, .inr (16, [.null, .null, .null])), (q1, .inl (cA3, 30, .inr (.inr (.inr (.inr (fun i => if i < 30 then some (r2 i) else none))))))]) [0, 1] rfl
  have hD := hD.sub (ws' := [(h, .inr (16, [.null, .null, .null])), (q1, .inl (cA3, 30, .inr (.inr (.inr (.inr (fun i => if i < 30 then some (r2 i) else none))))))]) [0, 1] (by decide) rfl
  have hK : va_K D vwCl [(cA3, .array .int)] s := hK
  refine W.widen (k := 31) (n := 210) (by omega) (by omega) ?_
  refine va_putF (D := D) (ci := 16) (v := .ref q1) (ty := .array (.array .int)) (C := RX10) (T := TX10) (N := 3) hx hb hts (by decide +kernel) tyX10 tyX10_ok nmX10 hown hK hP hD hS 0 rfl rfl 0 (by decide) (hts (.fieldLink RX10 11 "HeatStadium$Throws" "lengths" "[[I") (by decide +kernel)) (fun _ h9 => h9) rfl hin rfl (by decide +kernel) rfl rfl (Nat.le_of_ble_eq_true rfl) dX10_init_13 (fun H locs hP hD hS => ?_)
  have hP : va_P D vwCl [(h, .inr (16, [.ref q1, .null, .null])), (q1, .inl (cA3, 30, .inr (.inr (.inr (.inr (fun i => if i < 30 then some (r2 i) else none))))))] H := hP
  have hD : va_D A [(h, .inr (16, [.ref q1, .null, .null])), (q1, .inl (cA3, 30, .inr (.inr (.inr (.inr (fun i => if i < 30 then some (r2 i) else none))))))] := hD
  refine lv_aload_n hx hb dX10_init_16 rfl (lv_at hl 0 rfl) ?_
  refine lv_bipush (v := 30) hx hb dX10_init_17 (by decide) ?_
  refine lv_bipush (v := 6) hx hb dX10_init_19 (by decide) ?_
  refine va_mna (X := [(h, .inr (16, [.ref q1, .null, .null])), (q1, .inl (cA3, 30, .inr (.inr (.inr (.inr (fun i => if i < 30 then some (r2 i) else none))))))]) (L := []) (f := zrow 0) hx hb hown (hts (.classLink RX10 9 "[[I") (by decide +kernel)) hz.2.2.2.1.2.2 (hts (.arrayClass .int) (by decide +kernel)) hcy hK hP hD hS hA (n := 30) (k := 6) (N' := 30) (K' := 6) (z := (6, .inl (fun _ => 0))) (by decide) (by decide) (by decide) (by decide) (Nat.le_of_ble_eq_true rfl) (Nat.le_of_ble_eq_true rfl) (Nat.le_of_ble_eq_true rfl) (by decide) (by decide) (Nat.le_of_ble_eq_true rfl) (Nat.le_of_ble_eq_true rfl) (fun _ => rfl) dX10_init_21 (fun q4 r5 cA6 H _ _ hK hP hD hS => ?_)
  have hP := hP.sub (ws' := [(h, .inr (16, [.ref q1, .null, .null])), (q1, .inl (cA3, 30, .inr (.inr (.inr (.inr (fun i => if i < 30 then some (r2 i) else none)))))), (q4, .inl (cA6, 30, .inr (.inr (.inr (.inr (fun i => if i < 30 then some (r5 i) else none))))))]) [0, 1, 2] rfl
  have hD := hD.sub (ws' := [(h, .inr (16, [.ref q1, .null, .null])), (q1, .inl (cA3, 30, .inr (.inr (.inr (.inr (fun i => if i < 30 then some (r2 i) else none)))))), (q4, .inl (cA6, 30, .inr (.inr (.inr (.inr (fun i => if i < 30 then some (r5 i) else none))))))]) [0, 1, 2] (by decide) rfl
  have hK : va_K D vwCl [(cA3, .array .int), (cA6, .array .int)] s := hK
  refine W.widen (k := 62) (n := 420) (by omega) (by omega) ?_
  refine va_putF (D := D) (ci := 16) (v := .ref q4) (ty := .array (.array .int)) (C := RX10) (T := TX10) (N := 3) hx hb hts (by decide +kernel) tyX10 tyX10_ok nmX10 hown hK hP hD hS 0 rfl rfl 1 (by decide) (hts (.fieldLink RX10 16 "HeatStadium$Throws" "toldAs" "[[I") (by decide +kernel)) (fun _ h9 => h9) rfl hin rfl (by decide +kernel) rfl rfl (Nat.le_of_ble_eq_true rfl) dX10_init_25 (fun H locs hP hD hS => ?_)
  have hP : va_P D vwCl [(h, .inr (16, [.ref q1, .ref q4, .null])), (q1, .inl (cA3, 30, .inr (.inr (.inr (.inr (fun i => if i < 30 then some (r2 i) else none)))))), (q4, .inl (cA6, 30, .inr (.inr (.inr (.inr (fun i => if i < 30 then some (r5 i) else none))))))] H := hP
  have hD : va_D A [(h, .inr (16, [.ref q1, .ref q4, .null])), (q1, .inl (cA3, 30, .inr (.inr (.inr (.inr (fun i => if i < 30 then some (r2 i) else none)))))), (q4, .inl (cA6, 30, .inr (.inr (.inr (.inr (fun i => if i < 30 then some (r5 i) else none))))))] := hD
  refine lv_aload_n hx hb dX10_init_28 rfl (lv_at hl 0 rfl) ?_
  refine lv_bipush (v := 30) hx hb dX10_init_29 (by decide) ?_
  refine va_newa (atype := .int) (ty := .int) (a0 := (30, .inl (fun _ => 0))) hx hb (hts (.arrayClass .int) (by decide +kernel)) rfl hK hP hD hS hA (fun _ => rfl) (by decide) (by decide) (Nat.le_of_ble_eq_true rfl) (Nat.le_of_ble_eq_true rfl) (Nat.le_of_ble_eq_true rfl) dX10_init_31 (fun q7 cA8 H hK hP hD hS => ?_)
  have hP : va_P D vwCl [(h, .inr (16, [.ref q1, .ref q4, .null])), (q1, .inl (cA3, 30, .inr (.inr (.inr (.inr (fun i => if i < 30 then some (r2 i) else none)))))), (q4, .inl (cA6, 30, .inr (.inr (.inr (.inr (fun i => if i < 30 then some (r5 i) else none)))))), (q7, .inl (cA8, 30, .inl (fun _ => 0)))] H := hP
  have hD : va_D A [(h, .inr (16, [.ref q1, .ref q4, .null])), (q1, .inl (cA3, 30, .inr (.inr (.inr (.inr (fun i => if i < 30 then some (r2 i) else none)))))), (q4, .inl (cA6, 30, .inr (.inr (.inr (.inr (fun i => if i < 30 then some (r5 i) else none)))))), (q7, .inl (cA8, 30, .inl (fun _ => 0)))] := hD
  have hK : va_K D vwCl [(cA3, .array .int), (cA6, .array .int), (cA8, .int)] s := hK
  refine W.widen (k := 63) (n := 450) (by omega) (by omega) ?_
  refine va_putF (D := D) (ci := 16) (v := .ref q7) (ty := .array .int) (C := RX10) (T := TX10) (N := 3) hx hb hts (by decide +kernel) tyX10 tyX10_ok nmX10 hown hK hP hD hS 0 rfl rfl 2 (by decide) (hts (.fieldLink RX10 19 "HeatStadium$Throws" "counts" "[I") (by decide +kernel)) (fun _ h9 => h9) rfl hin rfl (by decide +kernel) rfl rfl (Nat.le_of_ble_eq_true rfl) dX10_init_33 (fun H locs hP hD hS => ?_)
  have hP : va_P D vwCl [(h, .inr (16, [.ref q1, .ref q4, .ref q7])), (q1, .inl (cA3, 30, .inr (.inr (.inr (.inr (fun i => if i < 30 then some (r2 i) else none)))))), (q4, .inl (cA6, 30, .inr (.inr (.inr (.inr (fun i => if i < 30 then some (r5 i) else none)))))), (q7, .inl (cA8, 30, .inl (fun _ => 0)))] H := hP
  have hD : va_D A [(h, .inr (16, [.ref q1, .ref q4, .ref q7])), (q1, .inl (cA3, 30, .inr (.inr (.inr (.inr (fun i => if i < 30 then some (r2 i) else none)))))), (q4, .inl (cA6, 30, .inr (.inr (.inr (.inr (fun i => if i < 30 then some (r5 i) else none)))))), (q7, .inl (cA8, 30, .inl (fun _ => 0)))] := hD
  have hP9 := hP.sub (ws' := []) [] rfl
  have hD9 := hD.sub (ws' := []) [] (by decide) rfl
  have hK9 := hK.sub (tys' := []) [] rfl
  rw [← hAe] at hD9
  refine W.widen (k := 63) (n := 450) (by omega) (by omega) ?_
  subst hAe
  exact W.vret hx hb hr (fun t ht9 hW => ⟨⟨(), rfl, trivial, ⟨by rw [ht9]; exact hP9, va_K.moved hW.alike hK9, hD9⟩⟩, hS.F ht9⟩) hS.2.2 dX10_init_36

def zX0_init_ws : List Cond := .code yX0_init cX0_init 1 none :: ([.methodLink RX0 3 objectInit, .instanceMethod objectInit, .code objectInit ⟨#[0xb1]⟩ 1 none, .arrayClass .int, .fieldLink RX0 9 "HeatStadium$Athletes" "nations" "[I", .arrayClass .boolean, .fieldLink RX0 15 "HeatStadium$Athletes" "doped" "[Z"] ++ (wsX00 ++ ([])))
theorem zX0_init_ws_good : zX0_init_ws.all goodWord = true := by decide +kernel
set_option maxHeartbeats 4000000 in
set_option maxRecDepth 100000 in
/-- a new Athletes -/
theorem c_X0_init (l : Launch) (hst : l.stackTraces = false) (D : va_G) (sz : Nat) (h : Nat) : Met l yX0_init zX0_init_ws (zR 0 2 60) (zPre [.ref h] D [(h, .inr (6, [.null, .null, .int 0]))] [] (va_A [(h, .inr (6, [.null, .null, .int 0]))] sz) sz) (va_Qv (S := Unit) (fun _ => True) (fun _ t => ∃ (n1 n2 cI : Nat), zAt D [(h, .inr (6, [.ref n1, .ref n2, .int 0])), (n1, .inl (cI, 30, .inl (fun _ => 0)))] [(cI, .int)] (va_A [(h, .inr (6, [.null, .null, .int 0]))] sz) t) (va_A [(h, .inr (6, [.null, .null, .int 0]))] sz)) 2 60 (va_A [(h, .inr (6, [.null, .null, .int 0]))] sz) := by
  refine Met.ofW (cc := cX0_init) (maxL := 1) (ret := none) (by decide) rfl ?_
  intro p e s m args below meth c s₁ B hml hv
  obtain ⟨rfl, hsz, hP, hK, hD0, hz⟩ := hv
  have hx := B.exec
  have hb := B.bytes
  have hr := B.returns
  have hts := atoms_spec (ws := zX0_init_ws) B.pre
  have hown : s.vm.findClass RX0 = some m.cls := findClass_of_methodNamed B.named
  have hlocks := B.notSynchronized
  have hin : meth.name = "<init>" := (name_of_methodNamed B.named B.method).1
  subst hsz
  have hD := hD0.self (sz := s.heap.size)
  generalize hAe : va_A [(h, .inr (6, [.null, .null, .int 0]))] s.heap.size = A at hD hz ⊢
  have hA : ∀ q : Nat, s.heap.size ≤ q → A q := fun q h => by rw [← hAe]; exact Or.inr h
  have hS : va_S A s.heap s.heap [] := va_S.rf
  have hP : va_P D vwCl [(h, .inr (6, [.null, .null, .int 0]))] s.heap := hP
  have hl := lv_entry ([.ref h]) (n := 1) (Nat.le_of_ble_eq_true rfl)
  rw [lg_entry_eq]
  generalize (lg_sl ([.ref h]) ++ List.replicate (1 - (lg_sl ([.ref h])).length) Slot.unset).toArray = ls at hl ⊢
  have hl : lv_has ls 1 [(0, .ref h)] := hl
  refine lv_aload_n hx hb dX0_init_0 rfl (lv_at hl 0 rfl) ?_
  refine W.objInit hx hb hown (hts (.methodLink RX0 3 objectInit) (by decide +kernel)) (hts (.instanceMethod objectInit) (by decide +kernel)) (hts (.code objectInit ⟨#[0xb1]⟩ 1 none) (by decide +kernel)) rfl (by rw [hml]; exact hl.1) rfl dX0_init_1 (Nat.le_of_ble_eq_true rfl) (Nat.le_of_ble_eq_true rfl) ?_
  refine W.eq (g2 := F0 m 4 ls []) rfl ?_
  refine lv_aload_n hx hb dX0_init_4 rfl (lv_at hl 0 rfl) ?_
  refine lv_bipush (v := 30) hx hb dX0_init_5 (by decide) ?_
  refine va_newa (atype := .int) (ty := .int) (a0 := (30, .inl (fun _ => 0))) hx hb (hts (.arrayClass .int) (by decide +kernel)) rfl hK hP hD hS hA (fun _ => rfl) (by decide) (by decide) (Nat.le_of_ble_eq_true rfl) (Nat.le_of_ble_eq_true rfl) (Nat.le_of_ble_eq_true rfl) dX0_init_7 (fun q1 cA2 H hK hP hD hS => ?_)
  have hP : va_P D vwCl [(h, .inr (6, [.null, .null, .int 0])), (q1, .inl (cA2, 30, .inl (fun _ => 0)))] H := hP
  have hD : va_D A [(h, .inr (6, [.null, .null, .int 0])), (q1, .inl (cA2, 30, .inl (fun _ => 0)))] := hD
  have hK : va_K D vwCl [(cA2, .int)] s := hK
  refine W.widen (k := 1) (n := 30) (by omega) (by omega) ?_
  refine va_putF (D := D) (ci := 6) (v := .ref q1) (ty := .array .int) (C := RX0) (T := TX0) (N := 3) hx hb hts (by decide +kernel) tyX0 tyX0_ok nmX0 hown hK hP hD hS 0 rfl rfl 0 (by decide) (hts (.fieldLink RX0 9 "HeatStadium$Athletes" "nations" "[I") (by decide +kernel)) (fun _ h9 => h9) rfl hin rfl (by decide +kernel) rfl rfl (Nat.le_of_ble_eq_true rfl) dX0_init_9 (fun H locs hP hD hS => ?_)
  have hP : va_P D vwCl [(h, .inr (6, [.ref q1, .null, .int 0])), (q1, .inl (cA2, 30, .inl (fun _ => 0)))] H := hP
  have hD : va_D A [(h, .inr (6, [.ref q1, .null, .int 0])), (q1, .inl (cA2, 30, .inl (fun _ => 0)))] := hD
  refine lv_aload_n hx hb dX0_init_12 rfl (lv_at hl 0 rfl) ?_
  refine lv_bipush (v := 30) hx hb dX0_init_13 (by decide) ?_
  refine va_newa (atype := .boolean) (ty := .boolean) (a0 := (30, .inl (fun _ => 0))) hx hb (hts (.arrayClass .boolean) (by decide +kernel)) rfl hK hP hD hS hA (fun _ => rfl) (by decide) (by decide) (Nat.le_of_ble_eq_true rfl) (Nat.le_of_ble_eq_true rfl) (Nat.le_of_ble_eq_true rfl) dX0_init_15 (fun q3 cA4 H hK hP hD hS => ?_)
  have hP : va_P D vwCl [(h, .inr (6, [.ref q1, .null, .int 0])), (q1, .inl (cA2, 30, .inl (fun _ => 0))), (q3, .inl (cA4, 30, .inl (fun _ => 0)))] H := hP
  have hD : va_D A [(h, .inr (6, [.ref q1, .null, .int 0])), (q1, .inl (cA2, 30, .inl (fun _ => 0))), (q3, .inl (cA4, 30, .inl (fun _ => 0)))] := hD
  have hK : va_K D vwCl [(cA2, .int), (cA4, .boolean)] s := hK
  refine W.widen (k := 2) (n := 60) (by omega) (by omega) ?_
  refine va_putF (D := D) (ci := 6) (v := .ref q3) (ty := .array .boolean) (C := RX0) (T := TX0) (N := 3) hx hb hts (by decide +kernel) tyX0 tyX0_ok nmX0 hown hK hP hD hS 0 rfl rfl 1 (by decide) (hts (.fieldLink RX0 15 "HeatStadium$Athletes" "doped" "[Z") (by decide +kernel)) (fun _ h9 => h9) rfl hin rfl (by decide +kernel) rfl rfl (Nat.le_of_ble_eq_true rfl) dX0_init_17 (fun H locs hP hD hS => ?_)
  have hP : va_P D vwCl [(h, .inr (6, [.ref q1, .ref q3, .int 0])), (q1, .inl (cA2, 30, .inl (fun _ => 0))), (q3, .inl (cA4, 30, .inl (fun _ => 0)))] H := hP
  have hD : va_D A [(h, .inr (6, [.ref q1, .ref q3, .int 0])), (q1, .inl (cA2, 30, .inl (fun _ => 0))), (q3, .inl (cA4, 30, .inl (fun _ => 0)))] := hD
  have hP9 := hP.sub (ws' := [(h, .inr (6, [.ref q1, .ref q3, .int 0])), (q1, .inl (cA2, 30, .inl (fun _ => 0)))]) [0, 1] rfl
  have hD9 := hD.sub (ws' := [(h, .inr (6, [.ref q1, .ref q3, .int 0])), (q1, .inl (cA2, 30, .inl (fun _ => 0)))]) [0, 1] (by decide) rfl
  have hK9 := hK.sub (tys' := [(cA2, .int)]) [0] rfl
  rw [← hAe] at hD9
  refine W.widen (k := 2) (n := 60) (by omega) (by omega) ?_
  subst hAe
  exact W.vret hx hb hr (fun t ht9 hW => ⟨⟨(), rfl, trivial, ⟨q1, q3, cA2, by rw [ht9]; exact hP9, va_K.moved hW.alike hK9, hD9⟩⟩, hS.F ht9⟩) hS.2.2 dX0_init_20

def zX5_init_ws : List Cond := .code yX5_init cX5_init 1 none :: ([.methodLink RX5 3 objectInit, .instanceMethod objectInit, .code objectInit ⟨#[0xb1]⟩ 1 none, .classLink RX5 9 RX9, .fieldLink RX5 11 "HeatStadium$Protests" "rounds" "[LHeatStadium$Round;", .arrayClass .int, .fieldLink RX5 17 "HeatStadium$Protests" "protesters" "[I", .arrayClass .boolean, .fieldLink RX5 21 "HeatStadium$Protests" "decided" "[Z"] ++ (wsX50 ++ ([])))
theorem zX5_init_ws_good : zX5_init_ws.all goodWord = true := by decide +kernel
set_option maxHeartbeats 4000000 in
set_option maxRecDepth 100000 in
/-- a new Protests -/
theorem c_X5_init (l : Launch) (hst : l.stackTraces = false) (D : va_G) (sz : Nat) (h : Nat) : Met l yX5_init zX5_init_ws (zR 0 3 900) (zPre [.ref h] D [(h, .inr (11, [.null, .null, .null, .int 0, .long 0]))] [] (va_A [(h, .inr (11, [.null, .null, .null, .int 0, .long 0]))] sz) sz) (va_Qv (S := Unit) (fun _ => True) (fun _ t => ∃ (p1 p2 p3 : Nat), zAt D [(h, .inr (11, [.ref p1, .ref p2, .ref p3, .int 0, .long 0]))] [] (va_A [(h, .inr (11, [.null, .null, .null, .int 0, .long 0]))] sz) t) (va_A [(h, .inr (11, [.null, .null, .null, .int 0, .long 0]))] sz)) 3 900 (va_A [(h, .inr (11, [.null, .null, .null, .int 0, .long 0]))] sz) := by
  refine Met.ofW (cc := cX5_init) (maxL := 1) (ret := none) (by decide) rfl ?_
  intro p e s m args below meth c s₁ B hml hv
  obtain ⟨rfl, hsz, hP, hK, hD0, hz⟩ := hv
  have hx := B.exec
  have hb := B.bytes
  have hr := B.returns
  have hts := atoms_spec (ws := zX5_init_ws) B.pre
  have hown : s.vm.findClass RX5 = some m.cls := findClass_of_methodNamed B.named
  have hlocks := B.notSynchronized
  have hin : meth.name = "<init>" := (name_of_methodNamed B.named B.method).1
  subst hsz
  have hD := hD0.self (sz := s.heap.size)
  generalize hAe : va_A [(h, .inr (11, [.null, .null, .null, .int 0, .long 0]))] s.heap.size = A at hD hz ⊢
  have hA : ∀ q : Nat, s.heap.size ≤ q → A q := fun q h => by rw [← hAe]; exact Or.inr h
  have hS : va_S A s.heap s.heap [] := va_S.rf
  have hP : va_P D vwCl [(h, .inr (11, [.null, .null, .null, .int 0, .long 0]))] s.heap := hP
  have hl := lv_entry ([.ref h]) (n := 1) (Nat.le_of_ble_eq_true rfl)
  rw [lg_entry_eq]
  generalize (lg_sl ([.ref h]) ++ List.replicate (1 - (lg_sl ([.ref h])).length) Slot.unset).toArray = ls at hl ⊢
  have hl : lv_has ls 1 [(0, .ref h)] := hl
  refine lv_aload_n hx hb dX5_init_0 rfl (lv_at hl 0 rfl) ?_
  refine W.objInit hx hb hown (hts (.methodLink RX5 3 objectInit) (by decide +kernel)) (hts (.instanceMethod objectInit) (by decide +kernel)) (hts (.code objectInit ⟨#[0xb1]⟩ 1 none) (by decide +kernel)) rfl (by rw [hml]; exact hl.1) rfl dX5_init_1 (Nat.le_of_ble_eq_true rfl) (Nat.le_of_ble_eq_true rfl) ?_
  refine W.eq (g2 := F0 m 4 ls []) rfl ?_
  refine lv_aload_n hx hb dX5_init_4 rfl (lv_at hl 0 rfl) ?_
  refine lv_sipush (v := 300) hx hb dX5_init_5 (by decide) ?_
  refine va_newq hx hb hown (hts (.classLink RX5 9 RX9) (by decide +kernel)) hz.2.2.2.1.2.1 hK hP hD hS hA (n := 300) (N' := 300) (by decide) (by decide) (Nat.le_of_ble_eq_true rfl) (Nat.le_of_ble_eq_true rfl) (Nat.le_of_ble_eq_true rfl) dX5_init_8 (fun q1 cA2 H hK hP hD hS => ?_)
  have hP : va_P D vwCl [(h, .inr (11, [.null, .null, .null, .int 0, .long 0])), (q1, .inl (cA2, 300, .inr (.inr (.inr (.inr (fun _ => none))))))] H := hP
  have hD : va_D A [(h, .inr (11, [.null, .null, .null, .int 0, .long 0])), (q1, .inl (cA2, 300, .inr (.inr (.inr (.inr (fun _ => none))))))] := hD
  have hK : va_K D vwCl [(cA2, .object "HeatStadium$Round")] s := hK
  refine W.widen (k := 1) (n := 300) (by omega) (by omega) ?_
  refine va_putF (D := D) (ci := 11) (v := .ref q1) (ty := .array (.object "HeatStadium$Round")) (C := RX5) (T := TX5) (N := 5) hx hb hts (by decide +kernel) tyX5 tyX5_ok nmX5 hown hK hP hD hS 0 rfl rfl 0 (by decide) (hts (.fieldLink RX5 11 "HeatStadium$Protests" "rounds" "[LHeatStadium$Round;") (by decide +kernel)) (fun _ h9 => h9) rfl hin rfl (by decide +kernel) rfl rfl (Nat.le_of_ble_eq_true rfl) dX5_init_11 (fun H locs hP hD hS => ?_)
  have hP : va_P D vwCl [(h, .inr (11, [.ref q1, .null, .null, .int 0, .long 0])), (q1, .inl (cA2, 300, .inr (.inr (.inr (.inr (fun _ => none))))))] H := hP
  have hD : va_D A [(h, .inr (11, [.ref q1, .null, .null, .int 0, .long 0])), (q1, .inl (cA2, 300, .inr (.inr (.inr (.inr (fun _ => none))))))] := hD
  refine lv_aload_n hx hb dX5_init_14 rfl (lv_at hl 0 rfl) ?_
  refine lv_sipush (v := 300) hx hb dX5_init_15 (by decide) ?_
  refine va_newa (atype := .int) (ty := .int) (a0 := (300, .inl (fun _ => 0))) hx hb (hts (.arrayClass .int) (by decide +kernel)) rfl hK hP hD hS hA (fun _ => rfl) (by decide) (by decide) (Nat.le_of_ble_eq_true rfl) (Nat.le_of_ble_eq_true rfl) (Nat.le_of_ble_eq_true rfl) dX5_init_18 (fun q3 cA4 H hK hP hD hS => ?_)
  have hP : va_P D vwCl [(h, .inr (11, [.ref q1, .null, .null, .int 0, .long 0])), (q1, .inl (cA2, 300, .inr (.inr (.inr (.inr (fun _ => none)))))), (q3, .inl (cA4, 300, .inl (fun _ => 0)))] H := hP
  have hD : va_D A [(h, .inr (11, [.ref q1, .null, .null, .int 0, .long 0])), (q1, .inl (cA2, 300, .inr (.inr (.inr (.inr (fun _ => none)))))), (q3, .inl (cA4, 300, .inl (fun _ => 0)))] := hD
  have hK : va_K D vwCl [(cA2, .object "HeatStadium$Round"), (cA4, .int)] s := hK
  refine W.widen (k := 2) (n := 600) (by omega) (by omega) ?_
  refine va_putF (D := D) (ci := 11) (v := .ref q3) (ty := .array .int) (C := RX5) (T := TX5) (N := 5) hx hb hts (by decide +kernel) tyX5 tyX5_ok nmX5 hown hK hP hD hS 0 rfl rfl 1 (by decide) (hts (.fieldLink RX5 17 "HeatStadium$Protests" "protesters" "[I") (by decide +kernel)) (fun _ h9 => h9) rfl hin rfl (by decide +kernel) rfl rfl (Nat.le_of_ble_eq_true rfl) dX5_init_20 (fun H locs hP hD hS => ?_)
  have hP : va_P D vwCl [(h, .inr (11, [.ref q1, .ref q3, .null, .int 0, .long 0])), (q1, .inl (cA2, 300, .inr (.inr (.inr (.inr (fun _ => none)))))), (q3, .inl (cA4, 300, .inl (fun _ => 0)))] H := hP
  have hD : va_D A [(h, .inr (11, [.ref q1, .ref q3, .null, .int 0, .long 0])), (q1, .inl (cA2, 300, .inr (.inr (.inr (.inr (fun _ => none)))))), (q3, .inl (cA4, 300, .inl (fun _ => 0)))] := hD
  refine lv_aload_n hx hb dX5_init_23 rfl (lv_at hl 0 rfl) ?_
  refine lv_sipush (v := 300) hx hb dX5_init_24 (by decide) ?_
  refine va_newa (atype := .boolean) (ty := .boolean) (a0 := (300, .inl (fun _ => 0))) hx hb (hts (.arrayClass .boolean) (by decide +kernel)) rfl hK hP hD hS hA (fun _ => rfl) (by decide) (by decide) (Nat.le_of_ble_eq_true rfl) (Nat.le_of_ble_eq_true rfl) (Nat.le_of_ble_eq_true rfl) dX5_init_27 (fun q5 cA6 H hK hP hD hS => ?_)
  have hP : va_P D vwCl [(h, .inr (11, [.ref q1, .ref q3, .null, .int 0, .long 0])), (q1, .inl (cA2, 300, .inr (.inr (.inr (.inr (fun _ => none)))))), (q3, .inl (cA4, 300, .inl (fun _ => 0))), (q5, .inl (cA6, 300, .inl (fun _ => 0)))] H := hP
  have hD : va_D A [(h, .inr (11, [.ref q1, .ref q3, .null, .int 0, .long 0])), (q1, .inl (cA2, 300, .inr (.inr (.inr (.inr (fun _ => none)))))), (q3, .inl (cA4, 300, .inl (fun _ => 0))), (q5, .inl (cA6, 300, .inl (fun _ => 0)))] := hD
  have hK : va_K D vwCl [(cA2, .object "HeatStadium$Round"), (cA4, .int), (cA6, .boolean)] s := hK
  refine W.widen (k := 3) (n := 900) (by omega) (by omega) ?_
  refine va_putF (D := D) (ci := 11) (v := .ref q5) (ty := .array .boolean) (C := RX5) (T := TX5) (N := 5) hx hb hts (by decide +kernel) tyX5 tyX5_ok nmX5 hown hK hP hD hS 0 rfl rfl 2 (by decide) (hts (.fieldLink RX5 21 "HeatStadium$Protests" "decided" "[Z") (by decide +kernel)) (fun _ h9 => h9) rfl hin rfl (by decide +kernel) rfl rfl (Nat.le_of_ble_eq_true rfl) dX5_init_29 (fun H locs hP hD hS => ?_)
  have hP : va_P D vwCl [(h, .inr (11, [.ref q1, .ref q3, .ref q5, .int 0, .long 0])), (q1, .inl (cA2, 300, .inr (.inr (.inr (.inr (fun _ => none)))))), (q3, .inl (cA4, 300, .inl (fun _ => 0))), (q5, .inl (cA6, 300, .inl (fun _ => 0)))] H := hP
  have hD : va_D A [(h, .inr (11, [.ref q1, .ref q3, .ref q5, .int 0, .long 0])), (q1, .inl (cA2, 300, .inr (.inr (.inr (.inr (fun _ => none)))))), (q3, .inl (cA4, 300, .inl (fun _ => 0))), (q5, .inl (cA6, 300, .inl (fun _ => 0)))] := hD
  have hP9 := hP.sub (ws' := [(h, .inr (11, [.ref q1, .ref q3, .ref q5, .int 0, .long 0]))]) [0] rfl
  have hD9 := hD.sub (ws' := [(h, .inr (11, [.ref q1, .ref q3, .ref q5, .int 0, .long 0]))]) [0] (by decide) rfl
  have hK9 := hK.sub (tys' := []) [] rfl
  rw [← hAe] at hD9
  refine W.widen (k := 3) (n := 900) (by omega) (by omega) ?_
  subst hAe
  exact W.vret hx hb hr (fun t ht9 hW => ⟨⟨(), rfl, trivial, ⟨q1, q3, q5, by rw [ht9]; exact hP9, va_K.moved hW.alike hK9, hD9⟩⟩, hS.F ht9⟩) hS.2.2 dX5_init_32
