/-! printed rows that this part uses -/
theorem dX17_athlete_0 : decode cX17_athlete 0 = .ok (.aload_n 0, 1) := by decide +kernel
theorem dX17_athlete_1 : decode cX17_athlete 1 = .ok (.iload_n 1, 1) := by decide +kernel
theorem dX17_athlete_2 : decode cX17_athlete 2 = .ok (.iconst 0, 1) := by decide +kernel
theorem dX17_athlete_3 : decode cX17_athlete 3 = .ok (.bipush 7, 2) := by decide +kernel
theorem dX17_athlete_5 : decode cX17_athlete 5 = .ok (.invokestatic 29, 3) := by decide +kernel
theorem dX17_athlete_8 : decode cX17_athlete 8 = .ok (.ifCond .ne 7, 3) := by decide +kernel
theorem dX17_athlete_11 : decode cX17_athlete 11 = .ok (.iconst 1, 1) := by decide +kernel
theorem dX17_athlete_12 : decode cX17_athlete 12 = .ok (.goto 20, 3) := by decide +kernel
theorem dX17_athlete_15 : decode cX17_athlete 15 = .ok (.aload_n 0, 1) := by decide +kernel
theorem dX17_athlete_16 : decode cX17_athlete 16 = .ok (.getfield 10, 3) := by decide +kernel
theorem dX17_athlete_19 : decode cX17_athlete 19 = .ok (.invokevirtual 33, 3) := by decide +kernel
theorem dX17_athlete_22 : decode cX17_athlete 22 = .ok (.bipush 30, 2) := by decide +kernel
theorem dX17_athlete_24 : decode cX17_athlete 24 = .ok (.if_icmp .ne 7, 3) := by decide +kernel
theorem dX17_athlete_31 : decode cX17_athlete 31 = .ok (.iconst 0, 1) := by decide +kernel
theorem dX17_athlete_32 : decode cX17_athlete 32 = .ok (.putfield 25, 3) := by decide +kernel
theorem dX17_athlete_35 : decode cX17_athlete 35 = .ok (.aload_n 0, 1) := by decide +kernel
theorem dX17_athlete_36 : decode cX17_athlete 36 = .ok (.getfield 25, 3) := by decide +kernel
theorem dX17_athlete_39 : decode cX17_athlete 39 = .ok (.ifCond .le 5, 3) := by decide +kernel
theorem dX17_athlete_42 : decode cX17_athlete 42 = .ok (.iconst 0, 1) := by decide +kernel
theorem dX17_athlete_43 : decode cX17_athlete 43 = .ok (.ireturn, 1) := by decide +kernel
theorem dX17_athlete_44 : decode cX17_athlete 44 = .ok (.aload_n 0, 1) := by decide +kernel
theorem dX17_athlete_45 : decode cX17_athlete 45 = .ok (.getfield 10, 3) := by decide +kernel
theorem dX17_athlete_48 : decode cX17_athlete 48 = .ok (.iload_n 1, 1) := by decide +kernel
theorem dX17_athlete_49 : decode cX17_athlete 49 = .ok (.invokestatic 37, 3) := by decide +kernel
theorem dX17_athlete_52 : decode cX17_athlete 52 = .ok (.invokevirtual 43, 3) := by decide +kernel
theorem dX17_athlete_55 : decode cX17_athlete 55 = .ok (.pop, 1) := by decide +kernel
theorem dX17_athlete_56 : decode cX17_athlete 56 = .ok (.aload_n 0, 1) := by decide +kernel
theorem dX17_athlete_57 : decode cX17_athlete 57 = .ok (.getfield 16, 3) := by decide +kernel
theorem dX17_athlete_60 : decode cX17_athlete 60 = .ok (.iconst 0, 1) := by decide +kernel
theorem dX17_athlete_61 : decode cX17_athlete 61 = .ok (.invokestatic 47, 3) := by decide +kernel
theorem dX17_athlete_64 : decode cX17_athlete 64 = .ok (.invokevirtual 43, 3) := by decide +kernel
theorem dX17_athlete_67 : decode cX17_athlete 67 = .ok (.pop, 1) := by decide +kernel
theorem dX17_athlete_68 : decode cX17_athlete 68 = .ok (.aload_n 0, 1) := by decide +kernel
theorem dX17_athlete_69 : decode cX17_athlete 69 = .ok (.getfield 10, 3) := by decide +kernel
theorem dX17_athlete_72 : decode cX17_athlete 72 = .ok (.invokevirtual 33, 3) := by decide +kernel
theorem dX17_athlete_75 : decode cX17_athlete 75 = .ok (.iconst 1, 1) := by decide +kernel
theorem dX17_athlete_76 : decode cX17_athlete 76 = .ok (.isub, 1) := by decide +kernel
theorem dX17_athlete_77 : decode cX17_athlete 77 = .ok (.ireturn, 1) := by decide +kernel
theorem dX17_pass_0 : decode cX17_pass 0 = .ok (.aload_n 0, 1) := by decide +kernel
theorem dX17_pass_1 : decode cX17_pass 1 = .ok (.iload_n 1, 1) := by decide +kernel
theorem dX17_pass_2 : decode cX17_pass 2 = .ok (.iconst 1, 1) := by decide +kernel
theorem dX17_pass_3 : decode cX17_pass 3 = .ok (.sipush 9999, 3) := by decide +kernel
theorem dX17_pass_6 : decode cX17_pass 6 = .ok (.invokestatic 29, 3) := by decide +kernel
theorem dX17_pass_9 : decode cX17_pass 9 = .ok (.ifCond .eq 7, 3) := by decide +kernel
theorem dX17_pass_12 : decode cX17_pass 12 = .ok (.iconst 0, 1) := by decide +kernel
theorem dX17_pass_13 : decode cX17_pass 13 = .ok (.goto 4, 3) := by decide +kernel
theorem dX17_pass_16 : decode cX17_pass 16 = .ok (.iconst 1, 1) := by decide +kernel
theorem dX17_pass_17 : decode cX17_pass 17 = .ok (.putfield 25, 3) := by decide +kernel
theorem dX17_pass_20 : decode cX17_pass 20 = .ok (.aload_n 0, 1) := by decide +kernel
theorem dX17_pass_21 : decode cX17_pass 21 = .ok (.dup, 1) := by decide +kernel
theorem dX17_pass_22 : decode cX17_pass 22 = .ok (.getfield 152, 3) := by decide +kernel
theorem dX17_pass_25 : decode cX17_pass 25 = .ok (.aload_n 0, 1) := by decide +kernel
theorem dX17_pass_26 : decode cX17_pass 26 = .ok (.getfield 25, 3) := by decide +kernel
theorem dX17_pass_29 : decode cX17_pass 29 = .ok (.ifCond .le 7, 3) := by decide +kernel
theorem dX17_pass_32 : decode cX17_pass 32 = .ok (.iconst 0, 1) := by decide +kernel
theorem dX17_pass_33 : decode cX17_pass 33 = .ok (.goto 4, 3) := by decide +kernel
theorem dX17_pass_36 : decode cX17_pass 36 = .ok (.iload_n 1, 1) := by decide +kernel
theorem dX17_pass_37 : decode cX17_pass 37 = .ok (.iadd, 1) := by decide +kernel
theorem dX17_pass_38 : decode cX17_pass 38 = .ok (.putfield 152, 3) := by decide +kernel
theorem dX17_pass_41 : decode cX17_pass 41 = .ok (.aload_n 0, 1) := by decide +kernel
theorem dX17_pass_42 : decode cX17_pass 42 = .ok (.getfield 25, 3) := by decide +kernel
theorem dX17_pass_45 : decode cX17_pass 45 = .ok (.ifCond .le 7, 3) := by decide +kernel
theorem dX17_pass_48 : decode cX17_pass 48 = .ok (.iconst 0, 1) := by decide +kernel
theorem dX17_pass_49 : decode cX17_pass 49 = .ok (.goto 7, 3) := by decide +kernel
theorem dX17_pass_52 : decode cX17_pass 52 = .ok (.aload_n 0, 1) := by decide +kernel
theorem dX17_pass_53 : decode cX17_pass 53 = .ok (.getfield 152, 3) := by decide +kernel
theorem dX17_pass_56 : decode cX17_pass 56 = .ok (.ireturn, 1) := by decide +kernel
theorem dX17_medals__0 : decode cX17_medals_ 0 = .ok (.aload_n 0, 1) := by decide +kernel
theorem dX17_medals__1 : decode cX17_medals_ 1 = .ok (.iload_n 1, 1) := by decide +kernel
theorem dX17_medals__2 : decode cX17_medals_ 2 = .ok (.iconst 0, 1) := by decide +kernel
theorem dX17_medals__3 : decode cX17_medals_ 3 = .ok (.bipush 7, 2) := by decide +kernel
theorem dX17_medals__5 : decode cX17_medals_ 5 = .ok (.invokestatic 29, 3) := by decide +kernel
theorem dX17_medals__8 : decode cX17_medals_ 8 = .ok (.ifCond .eq 16, 3) := by decide +kernel
theorem dX17_medals__11 : decode cX17_medals_ 11 = .ok (.iload_n 2, 1) := by decide +kernel
theorem dX17_medals__12 : decode cX17_medals_ 12 = .ok (.iconst 0, 1) := by decide +kernel
theorem dX17_medals__13 : decode cX17_medals_ 13 = .ok (.iconst 3, 1) := by decide +kernel
theorem dX17_medals__14 : decode cX17_medals_ 14 = .ok (.invokestatic 29, 3) := by decide +kernel
theorem dX17_medals__17 : decode cX17_medals_ 17 = .ok (.ifCond .eq 7, 3) := by decide +kernel
theorem dX17_medals__24 : decode cX17_medals_ 24 = .ok (.iconst 1, 1) := by decide +kernel
theorem dX17_medals__25 : decode cX17_medals_ 25 = .ok (.putfield 25, 3) := by decide +kernel
theorem dX17_medals__28 : decode cX17_medals_ 28 = .ok (.aload_n 0, 1) := by decide +kernel
theorem dX17_medals__29 : decode cX17_medals_ 29 = .ok (.getfield 25, 3) := by decide +kernel
theorem dX17_medals__32 : decode cX17_medals_ 32 = .ok (.ifCond .le 7, 3) := by decide +kernel
theorem dX17_medals__35 : decode cX17_medals_ 35 = .ok (.iconst 0, 1) := by decide +kernel
theorem dX17_medals__36 : decode cX17_medals_ 36 = .ok (.goto 11, 3) := by decide +kernel
theorem dX17_medals__47 : decode cX17_medals_ 47 = .ok (.ireturn, 1) := by decide +kernel
theorem dX17_points_0 : decode cX17_points 0 = .ok (.aload_n 0, 1) := by decide +kernel
theorem dX17_points_1 : decode cX17_points 1 = .ok (.iload_n 1, 1) := by decide +kernel
theorem dX17_points_2 : decode cX17_points 2 = .ok (.iconst 0, 1) := by decide +kernel
theorem dX17_points_3 : decode cX17_points 3 = .ok (.bipush 7, 2) := by decide +kernel
theorem dX17_points_5 : decode cX17_points 5 = .ok (.invokestatic 29, 3) := by decide +kernel
theorem dX17_points_8 : decode cX17_points 8 = .ok (.ifCond .eq 7, 3) := by decide +kernel
theorem dX17_points_11 : decode cX17_points 11 = .ok (.iconst 0, 1) := by decide +kernel
theorem dX17_points_12 : decode cX17_points 12 = .ok (.goto 4, 3) := by decide +kernel
theorem dX17_points_15 : decode cX17_points 15 = .ok (.iconst 1, 1) := by decide +kernel
theorem dX17_points_16 : decode cX17_points 16 = .ok (.putfield 25, 3) := by decide +kernel
theorem dX17_points_19 : decode cX17_points 19 = .ok (.dconst 0, 1) := by decide +kernel
theorem dX17_points_20 : decode cX17_points 20 = .ok (.dstore_n 2, 1) := by decide +kernel
theorem dX17_points_21 : decode cX17_points 21 = .ok (.iconst 0, 1) := by decide +kernel
theorem dX17_points_22 : decode cX17_points 22 = .ok (.istore 4, 2) := by decide +kernel
theorem dX17_points_24 : decode cX17_points 24 = .ok (.iload 4, 2) := by decide +kernel
theorem dX17_points_26 : decode cX17_points 26 = .ok (.aload_n 0, 1) := by decide +kernel
theorem dX17_points_27 : decode cX17_points 27 = .ok (.getfield 19, 3) := by decide +kernel
theorem dX17_points_30 : decode cX17_points 30 = .ok (.invokevirtual 33, 3) := by decide +kernel
theorem dX17_points_33 : decode cX17_points 33 = .ok (.if_icmp .ge 187, 3) := by decide +kernel
theorem dX17_points_220 : decode cX17_points 220 = .ok (.aload_n 0, 1) := by decide +kernel
theorem dX17_points_221 : decode cX17_points 221 = .ok (.getfield 25, 3) := by decide +kernel
theorem dX17_points_224 : decode cX17_points 224 = .ok (.ifCond .le 7, 3) := by decide +kernel
theorem dX17_points_227 : decode cX17_points 227 = .ok (.dconst 0, 1) := by decide +kernel
theorem dX17_points_228 : decode cX17_points 228 = .ok (.goto 4, 3) := by decide +kernel
theorem dX17_points_231 : decode cX17_points 231 = .ok (.dload_n 2, 1) := by decide +kernel
theorem dX17_points_232 : decode cX17_points 232 = .ok (.dreturn, 1) := by decide +kernel
theorem dX17_isTrue_0 : decode cX17_isTrue 0 = .ok (.aload_n 0, 1) := by decide +kernel
theorem dX17_isTrue_1 : decode cX17_isTrue 1 = .ok (.iconst 0, 1) := by decide +kernel
theorem dX17_isTrue_2 : decode cX17_isTrue 2 = .ok (.putfield 25, 3) := by decide +kernel
theorem dX17_isTrue_5 : decode cX17_isTrue 5 = .ok (.iconst 1, 1) := by decide +kernel
theorem dX17_isTrue_6 : decode cX17_isTrue 6 = .ok (.ireturn, 1) := by decide +kernel
theorem dJ14_valueOf_4531c_0 : decode cJ14_valueOf_4531c 0 = .ok (.iload_n 0, 1) := by decide +kernel
theorem dJ14_valueOf_4531c_1 : decode cJ14_valueOf_4531c 1 = .ok (.ifCond .eq 9, 3) := by decide +kernel
theorem dJ14_valueOf_4531c_10 : decode cJ14_valueOf_4531c 10 = .ok (.getstatic 31, 3) := by decide +kernel
theorem dJ14_valueOf_4531c_13 : decode cJ14_valueOf_4531c 13 = .ok (.areturn, 1) := by decide +kernel
theorem dJ6_valueOf_2dffe_0 : decode cJ6_valueOf_2dffe 0 = .ok (.iload_n 0, 1) := by decide +kernel
theorem dJ6_valueOf_2dffe_1 : decode cJ6_valueOf_2dffe 1 = .ok (.bipush (-128), 2) := by decide +kernel
theorem dJ6_valueOf_2dffe_3 : decode cJ6_valueOf_2dffe 3 = .ok (.if_icmp .lt 20, 3) := by decide +kernel
theorem dJ6_valueOf_2dffe_6 : decode cJ6_valueOf_2dffe 6 = .ok (.iload_n 0, 1) := by decide +kernel
theorem dJ6_valueOf_2dffe_7 : decode cJ6_valueOf_2dffe 7 = .ok (.getstatic 191, 3) := by decide +kernel
theorem dJ6_valueOf_2dffe_10 : decode cJ6_valueOf_2dffe 10 = .ok (.if_icmp .gt 13, 3) := by decide +kernel
theorem dJ6_valueOf_2dffe_13 : decode cJ6_valueOf_2dffe 13 = .ok (.getstatic 195, 3) := by decide +kernel
theorem dJ6_valueOf_2dffe_16 : decode cJ6_valueOf_2dffe 16 = .ok (.iload_n 0, 1) := by decide +kernel
theorem dJ6_valueOf_2dffe_17 : decode cJ6_valueOf_2dffe 17 = .ok (.sipush 128, 3) := by decide +kernel
theorem dJ6_valueOf_2dffe_20 : decode cJ6_valueOf_2dffe 20 = .ok (.iadd, 1) := by decide +kernel
theorem dJ6_valueOf_2dffe_21 : decode cJ6_valueOf_2dffe 21 = .ok (.aaload, 1) := by decide +kernel
theorem dJ6_valueOf_2dffe_22 : decode cJ6_valueOf_2dffe 22 = .ok (.areturn, 1) := by decide +kernel
/-- the cache of small Integers; Boolean.FALSE -/
def zI (cz : Nat) (ad : Nat → Nat) (A : Nat → Prop) (U : State) (H : Heap) : Prop :=
  va_Z "java/lang/Integer$IntegerCache" "high" "I" (.int 127) A U H ∧ va_Z "java/lang/Integer$IntegerCache" "cache" "[Ljava/lang/Integer;" (.ref cz) A U H ∧ va_T (.object "java/lang/Integer") cz 256 (fun j => .ref (ad j)) A U H ∧ vb_C ad A U H
theorem zI_ok (cz : Nat) (ad : Nat → Nat) : zOk (zI cz ad) := by
  refine ⟨fun A B s U H locs h hS hU hW hB => ?_, fun A U g mk a h => ?_⟩
  · subst hU
    obtain ⟨i1, i2, i3, i4⟩ := h
    have ha := hW.alike
    exact ⟨(va_Z.moved ha (i1.kept hS.2.1)).narrow hB, (va_Z.moved ha (i2.kept hS.2.1)).narrow hB, (va_T.moved ha (i3.kept hS.2.1)).narrow hB, (vb_C.moved ha (i4.kept hS.2.1)).narrow hB⟩
  · obtain ⟨i1, i2, i3, i4⟩ := h
    have ha : U.vm.Alike (U.calling g mk a).vm := Vm.Alike.refl U.vm
    exact ⟨va_Z.moved ha i1, va_Z.moved ha i2, va_T.moved ha i3, vb_C.moved ha i4⟩
def zB (bz : Nat) (A : Nat → Prop) (U : State) (H : Heap) : Prop := va_Z "java/lang/Boolean" "FALSE" "Ljava/lang/Boolean;" (.ref bz) A U H ∧ va_O "java/lang/Boolean" bz A U H
theorem zB_ok (bz : Nat) : zOk (zB bz) := by
  refine ⟨fun A B s U H locs h hS hU hW hB => ?_, fun A U g mk a h => ?_⟩
  · subst hU
    exact ⟨(va_Z.moved hW.alike (h.1.kept hS.2.1)).narrow hB, (va_O.moved hW.alike (h.2.kept hS.2.1)).narrow hB⟩
  · have ha : U.vm.Alike (U.calling g mk a).vm := Vm.Alike.refl U.vm
    exact ⟨va_Z.moved ha h.1, va_O.moved ha h.2⟩
theorem znlo {i : Nat} (hi : i < 8) : ¬ nI i < (-128) := fun c => by
  rw [Int32.lt_iff_toInt_lt, nI_toInt (by omega)] at c
  have h : (-128 : Int32).toInt = -128 := by decide
  omega
theorem znhi {i : Nat} (hi : i < 8) : ¬ 127 < nI i := fun c => by
  rw [Int32.lt_iff_toInt_lt, nI_toInt (by omega)] at c
  have h : (127 : Int32).toInt = 127 := by decide
  omega
def zJ6_valueOf_2dffe_ws : List Cond := .code yJ6_valueOf_2dffe cJ6_valueOf_2dffe 1 (some (.object "java/lang/Integer")) :: ([.fieldLink RJ6 191 "java/lang/Integer$IntegerCache" "high" "I", .fieldLink RJ6 195 "java/lang/Integer$IntegerCache" "cache" "[Ljava/lang/Integer;"] ++ [])
theorem zJ6_valueOf_2dffe_ws_good : zJ6_valueOf_2dffe_ws.all goodWord = true := by decide +kernel
set_option maxHeartbeats 4000000 in
set_option maxRecDepth 100000 in
/-- Integer.valueOf of 0 to 7 -/
theorem c_valueOf (l : Launch) (hst : l.stackTraces = false) (D : va_G) (sz : Nat) (cz : Nat) (ad : Nat → Nat) (i : Nat) (hi : i < 8) : Met l yJ6_valueOf_2dffe zJ6_valueOf_2dffe_ws (zR 0 0 0) (zPreX (zI cz ad) [.int (nI i)] D [] [] (fun q : Nat => sz ≤ q) sz) (va_Qq (S := Unit) (fun r _ => r = some (ad (i + 128))) (fun _ _ => True) (fun q : Nat => sz ≤ q)) 0 0 (fun q : Nat => sz ≤ q) := by
  refine Met.ofW (cc := cJ6_valueOf_2dffe) (maxL := 1) (ret := (some (.object "java/lang/Integer"))) (by decide) rfl ?_
  intro p e s m args below meth c s₁ B hml hv
  obtain ⟨rfl, hsz, hP, hK, hD0, hz, hm⟩ := hv
  have hx := B.exec
  have hb := B.bytes
  have hr := B.returns
  have hts := atoms_spec (ws := zJ6_valueOf_2dffe_ws) B.pre
  have hown : s.vm.findClass RJ6 = some m.cls := findClass_of_methodNamed B.named
  have hlocks := B.notSynchronized
  subst hsz
  obtain ⟨A, hAe⟩ : ∃ A : Nat → Prop, A = (fun q : Nat => s.heap.size ≤ q) := ⟨_, rfl⟩
  rw [← hAe] at hz hm ⊢
  have hA : ∀ q : Nat, s.heap.size ≤ q → A q := fun q h => by rw [hAe]; exact h
  have hD := hD0
  have hS : va_S A s.heap s.heap [] := va_S.rf
  have hP : va_P D vwCl [] s.heap := hP
  have hl := lv_entry ([.int (nI i)]) (n := 1) (Nat.le_of_ble_eq_true rfl)
  rw [lg_entry_eq]
  generalize (lg_sl ([.int (nI i)]) ++ List.replicate (1 - (lg_sl ([.int (nI i)])).length) Slot.unset).toArray = ls at hl ⊢
  have hl : lv_has ls 1 [(0, .int (nI i))] := hl
  refine lv_iload_n hx hb dJ6_valueOf_2dffe_0 rfl (lv_at hl 0 rfl) ?_
  refine lv_bipush (v := (-128)) hx hb dJ6_valueOf_2dffe_1 (by decide) ?_
  refine lv_icmp_lt (tgt := 23) hx hb dJ6_valueOf_2dffe_3 (by decide) (fun c9 => absurd c9 (znlo hi)) (fun _ => ?_)
  refine lv_iload_n hx hb dJ6_valueOf_2dffe_6 rfl (lv_at hl 0 rfl) ?_
  refine va_gets hx hb hm.1 hS hown (hts (.fieldLink RJ6 191 "java/lang/Integer$IntegerCache" "high" "I") (by decide +kernel)) (fun _ h9 => h9) dJ6_valueOf_2dffe_7 ?_
  refine lv_icmp_gt (tgt := 23) hx hb dJ6_valueOf_2dffe_10 (by decide) (fun c9 => absurd c9 (znhi hi)) (fun _ => ?_)
  refine va_gets hx hb hm.2.1 hS hown (hts (.fieldLink RJ6 195 "java/lang/Integer$IntegerCache" "cache" "[Ljava/lang/Integer;") (by decide +kernel)) (fun _ h9 => h9) dJ6_valueOf_2dffe_13 ?_
  refine lv_iload_n hx hb dJ6_valueOf_2dffe_16 rfl (lv_at hl 0 rfl) ?_
  refine lv_sipush (v := 128) hx hb dJ6_valueOf_2dffe_17 (by decide) ?_
  refine lv_iadd hx hb dJ6_valueOf_2dffe_20 ?_
  refine lv_topi (fun z5 ez5 => ?_)
  obtain rfl : z5 = nI (i + 128) := ez5.trans (nI_add i 128)
  refine vb_tq (v := .ref (ad (i + 128))) hx hb hm.2.2.1 hS (vp_in_nI (by omega) (by decide)) (congrArg (fun q => Value.ref (ad q)) (nI_clamp (by omega))) dJ6_valueOf_2dffe_21 ?_
  refine W.widen (k := 0) (n := 0) (by omega) (by omega) ?_
  exact W.aret (v := .ref (ad (i + 128))) hx hb hr (Or.inl ⟨_, rfl⟩) (Or.inr ⟨_, rfl⟩) (fun t ht9 hW => ⟨⟨some (ad (i + 128)), (), rfl, rfl, trivial⟩, hS.F ht9⟩) hS.2.2 dJ6_valueOf_2dffe_22

def zJ14_valueOf_4531c_ws : List Cond := .code yJ14_valueOf_4531c cJ14_valueOf_4531c 1 (some (.object "java/lang/Boolean")) :: ([.fieldLink RJ14 31 "java/lang/Boolean" "FALSE" "Ljava/lang/Boolean;"] ++ [])
theorem zJ14_valueOf_4531c_ws_good : zJ14_valueOf_4531c_ws.all goodWord = true := by decide +kernel
set_option maxHeartbeats 4000000 in
set_option maxRecDepth 100000 in
/-- Boolean.valueOf(false) -/
theorem c_false (l : Launch) (hst : l.stackTraces = false) (D : va_G) (sz : Nat) (bz : Nat) : Met l yJ14_valueOf_4531c zJ14_valueOf_4531c_ws (zR 0 0 0) (zPreX (zB bz) [.int 0] D [] [] (fun q : Nat => sz ≤ q) sz) (va_Qq (S := Unit) (fun r _ => r = some bz) (fun _ _ => True) (fun q : Nat => sz ≤ q)) 0 0 (fun q : Nat => sz ≤ q) := by
  refine Met.ofW (cc := cJ14_valueOf_4531c) (maxL := 1) (ret := (some (.object "java/lang/Boolean"))) (by decide) rfl ?_
  intro p e s m args below meth c s₁ B hml hv
  obtain ⟨rfl, hsz, hP, hK, hD0, hz, hm⟩ := hv
  have hx := B.exec
  have hb := B.bytes
  have hr := B.returns
  have hts := atoms_spec (ws := zJ14_valueOf_4531c_ws) B.pre
  have hown : s.vm.findClass RJ14 = some m.cls := findClass_of_methodNamed B.named
  have hlocks := B.notSynchronized
  subst hsz
  obtain ⟨A, hAe⟩ : ∃ A : Nat → Prop, A = (fun q : Nat => s.heap.size ≤ q) := ⟨_, rfl⟩
  rw [← hAe] at hz hm ⊢
  have hA : ∀ q : Nat, s.heap.size ≤ q → A q := fun q h => by rw [hAe]; exact h
  have hD := hD0
  have hS : va_S A s.heap s.heap [] := va_S.rf
  have hP : va_P D vwCl [] s.heap := hP
  have hl := lv_entry ([.int 0]) (n := 1) (Nat.le_of_ble_eq_true rfl)
  rw [lg_entry_eq]
  generalize (lg_sl ([.int 0]) ++ List.replicate (1 - (lg_sl ([.int 0])).length) Slot.unset).toArray = ls at hl ⊢
  have hl : lv_has ls 1 [(0, .int 0)] := hl
  refine lv_iload_n hx hb dJ14_valueOf_4531c_0 rfl (lv_at hl 0 rfl) ?_
  refine lv_if_eq (tgt := 10) hx hb dJ14_valueOf_4531c_1 (by decide) (fun _ => ?_) (fun c => absurd (by decide) c)
  refine va_gets hx hb hm.1 hS hown (hts (.fieldLink RJ14 31 "java/lang/Boolean" "FALSE" "Ljava/lang/Boolean;") (by decide +kernel)) (fun _ h9 => h9) dJ14_valueOf_4531c_10 ?_
  refine W.widen (k := 0) (n := 0) (by omega) (by omega) ?_
  exact W.aret (v := .ref bz) hx hb hr (Or.inl ⟨_, rfl⟩) (Or.inr ⟨_, rfl⟩) (fun t ht9 hW => ⟨⟨some bz, (), rfl, rfl, trivial⟩, hS.F ht9⟩) hS.2.2 dJ14_valueOf_4531c_13

def zX17_athlete_ws : List Cond := .code yX17_athlete cX17_athlete 2 (some .int) :: ([.methodLink RX17 29 yX17_in, .static yX17_in, .initialized RX17, .fieldLink RX17 10 "HeatStadiumModel" "nations" "Ljava/util/ArrayList;", .methodLink RX17 33 yJx4a65c_size_8abf5, .instanceMethod yJx4a65c_size_8abf5, .selects RJx4a65c yJx4a65c_size_8abf5 yJx4a65c_size_8abf5, .initialized RJx4a65c, .fieldLink RX17 25 "HeatStadiumModel" "thrown" "I", .methodLink RX17 37 yJ6_valueOf_2dffe, .static yJ6_valueOf_2dffe, .initialized RJ6, .methodLink RX17 43 yJx4a65c_add_9ea2d, .instanceMethod yJx4a65c_add_9ea2d, .selects RJx4a65c yJx4a65c_add_9ea2d yJx4a65c_add_9ea2d, .fieldLink RX17 16 "HeatStadiumModel" "doped" "Ljava/util/ArrayList;", .methodLink RX17 47 yJ14_valueOf_4531c, .static yJ14_valueOf_4531c, .initialized RJ14] ++ (zX17_in_ws ++ (wsX170 ++ (zJx4a65c_size_8abf5_ws ++ (zJ6_valueOf_2dffe_ws ++ (zJx4a65c_add_9ea2d_const ++ (zJ14_valueOf_4531c_ws ++ ([]))))))))
theorem zX17_athlete_ws_good : zX17_athlete_ws.all goodWord = true := by decide +kernel
set_option maxHeartbeats 4000000 in
set_option maxRecDepth 100000 in
/-- the first athlete of the reference: 0 -/
theorem cm_athlete_ok (l : Launch) (hst : l.stackTraces = false) (D : va_G) (sz : Nat) (mo b0 b1 b2 b3 dz : Nat) (th : Int32) (x1 : Int32) (h : zin x1 0 7 = 1) : Met l yX17_athlete zX17_athlete_ws (zR 4 2 20) (zPreX (zM dz) [.ref mo, .int x1] D [(mo, .inr (23, [.int th, .ref b0, .ref b1, .ref b2, .ref b3, .int 0, .int 0, .long 0])), (b0, .inr (5, [.int 0, .ref dz, .int 0])), (b1, .inr (5, [.int 0, .ref dz, .int 0]))] [] (va_A [(mo, .inr (23, [.int th, .ref b0, .ref b1, .ref b2, .ref b3, .int 0, .int 0, .long 0])), (b0, .inr (5, [.int 0, .ref dz, .int 0])), (b1, .inr (5, [.int 0, .ref dz, .int 0]))] sz) sz) (va_Qi (S := Unit) (fun r _ => r = 0) (fun _ t => zAt D [(mo, .inr (23, [.int 0, .ref b0, .ref b1, .ref b2, .ref b3, .int 0, .int 0, .long 0]))] [] (va_A [(mo, .inr (23, [.int th, .ref b0, .ref b1, .ref b2, .ref b3, .int 0, .int 0, .long 0])), (b0, .inr (5, [.int 0, .ref dz, .int 0])), (b1, .inr (5, [.int 0, .ref dz, .int 0]))] sz) t) (va_A [(mo, .inr (23, [.int th, .ref b0, .ref b1, .ref b2, .ref b3, .int 0, .int 0, .long 0])), (b0, .inr (5, [.int 0, .ref dz, .int 0])), (b1, .inr (5, [.int 0, .ref dz, .int 0]))] sz)) 2 20 (va_A [(mo, .inr (23, [.int th, .ref b0, .ref b1, .ref b2, .ref b3, .int 0, .int 0, .long 0])), (b0, .inr (5, [.int 0, .ref dz, .int 0])), (b1, .inr (5, [.int 0, .ref dz, .int 0]))] sz) := by
  obtain ⟨i, hi, rfl⟩ := zin_7 h
  refine Met.ofW (cc := cX17_athlete) (maxL := 2) (ret := (some .int)) (by decide) rfl ?_
  intro p e s m args below meth c s₁ B hml hv
  obtain ⟨rfl, hsz, hP, hK, hD0, hz, hm⟩ := hv
  have hx := B.exec
  have hb := B.bytes
  have hr := B.returns
  have hts := atoms_spec (ws := zX17_athlete_ws) B.pre
  have hown : s.vm.findClass RX17 = some m.cls := findClass_of_methodNamed B.named
  have hlocks := B.notSynchronized
  subst hsz
  have hD := hD0.self (sz := s.heap.size)
  generalize hAe : va_A [(mo, .inr (23, [.int th, .ref b0, .ref b1, .ref b2, .ref b3, .int 0, .int 0, .long 0])), (b0, .inr (5, [.int 0, .ref dz, .int 0])), (b1, .inr (5, [.int 0, .ref dz, .int 0]))] s.heap.size = A at hD hz hm ⊢
  have hA : ∀ q : Nat, s.heap.size ≤ q → A q := fun q h => by rw [← hAe]; exact Or.inr h
  have hS : va_S A s.heap s.heap [] := va_S.rf
  have hP : va_P D vwCl [(mo, .inr (23, [.int th, .ref b0, .ref b1, .ref b2, .ref b3, .int 0, .int 0, .long 0])), (b0, .inr (5, [.int 0, .ref dz, .int 0])), (b1, .inr (5, [.int 0, .ref dz, .int 0]))] s.heap := hP
  have hl := lv_entry ([.ref mo, .int (nI i)]) (n := 2) (Nat.le_of_ble_eq_true rfl)
  rw [lg_entry_eq]
  generalize (lg_sl ([.ref mo, .int (nI i)]) ++ List.replicate (2 - (lg_sl ([.ref mo, .int (nI i)])).length) Slot.unset).toArray = ls at hl ⊢
  have hl : lv_has ls 2 [(0, .ref mo), (1, .int (nI i))] := hl
  obtain ⟨cz, ad, i1, i2, i3, i4⟩ := hm.2.2.1
  obtain ⟨bz, b1_, b2_⟩ := hm.2.2.2.1
  refine lv_aload_n hx hb dX17_athlete_0 rfl (lv_at hl 0 rfl) ?_
  refine lv_iload_n hx hb dX17_athlete_1 rfl (lv_at hl 1 rfl) ?_
  refine lv_iconst (v := 0) hx hb dX17_athlete_2 (by decide) ?_
  refine lv_bipush (v := 7) hx hb dX17_athlete_3 (by decide) ?_
  have hPc := hP.sub (ws' := []) [] rfl
  have hDc := hD.sub (ws' := []) [] (by decide) rfl
  have hKc := hK.sub (tys' := []) [] rfl
  have hFc : ∀ q : Nat, s.heap.size ≤ q → A q := fun q h => hA q (Nat.le_trans hS.1 h)
  refine va_calli (va_runS (As := [.int (nI i), .int 0, .int 7]) (rest := [.ref mo]) ⟨hx, hb, hml, hown, hts⟩ (c_in l hst D s.heap.size (nI i) 0 7) (cwS 3 hts (goodIn_app (goodIn_of _ (by decide +kernel)) (goodIn_sub (fun _ h => List.mem_cons_of_mem _ (List.mem_append_right _ (List.mem_append_left _ h))) zX17_in_ws_good)) rfl rfl rfl (by decide +kernel) ⟨Nat.le_of_ble_eq_true rfl, Nat.le_of_ble_eq_true rfl⟩) ⟨zPre.blind, zPre.mk hPc hKc hDc hz hS (fun q h => hFc q h)⟩ rfl rfl hl.1 rfl (lv_room (Nat.le_of_ble_eq_true rfl)) dX17_athlete_5 ⟨Nat.le_of_ble_eq_true rfl, Nat.le_of_ble_eq_true rfl⟩) hS (fun q _ h => hFc q h) (fun q h => hFc q h) (fun r9 u t H1 locs ht9 hvm hw hB hz1 hk1 hS => ?_)
  refine W.widen (k := 0) (n := 0) (by omega) (by omega) ?_
  have hP := zKeep hP hk1
  generalize H1 = H at hP hS ⊢
  have hP : va_P D vwCl [(mo, .inr (23, [.int th, .ref b0, .ref b1, .ref b2, .ref b3, .int 0, .int 0, .long 0])), (b0, .inr (5, [.int 0, .ref dz, .int 0])), (b1, .inr (5, [.int 0, .ref dz, .int 0]))] H := hP
  obtain rfl : r9 = 1 := hw.trans h
  refine lv_if_ne (tgt := 15) hx hb dX17_athlete_8 (by decide) (fun _ => ?_) (fun c => absurd c (by decide))
  refine lv_aload_n hx hb dX17_athlete_15 rfl (lv_at hl 0 rfl) ?_
  refine va_get (D := D) (ci := 23) (v := .ref b0) (C := RX17) (T := TX17) (N := 8) hx hb hts (by decide +kernel) hown hK hP 0 rfl rfl 1 (by decide) (hts (.fieldLink RX17 10 "HeatStadiumModel" "nations" "Ljava/util/ArrayList;") (by decide +kernel)) (fun _ h9 => h9) rfl dX17_athlete_16 ?_
  have hPc := hP.sub (ws' := [(b0, .inr (5, [.int 0, .ref dz, .int 0]))]) [1] rfl
  have hDc := hD.sub (ws' := [(b0, .inr (5, [.int 0, .ref dz, .int 0]))]) [1] (by decide) rfl
  have hKc := hK.sub (tys' := []) [] rfl
  have hFc : ∀ q : Nat, H.size ≤ q → A q := fun q h => hA q (Nat.le_trans hS.1 h)
  refine va_calli (va_runV (As := []) (rest := [.ref mo]) ⟨hx, hb, hml, hown, hts⟩ (c_size l hst D H.size b0 dz 0 0) (cwV 0 hts (goodIn_app (goodIn_of _ (by decide +kernel)) (goodIn_sub (fun _ h => List.mem_cons_of_mem _ (List.mem_append_right _ (List.mem_append_right _ (List.mem_append_right _ (List.mem_append_left _ h))))) zJx4a65c_size_8abf5_ws_good)) rfl rfl rfl (by decide +kernel) ⟨Nat.le_of_ble_eq_true rfl, Nat.le_of_ble_eq_true rfl⟩) ⟨zPre.blind, va_recv hKc hPc (ci := 5) (q0 := 0) rfl rfl, zPre.mk hPc hKc hDc hz hS (fun q h => hFc q h)⟩ rfl rfl hl.1 rfl (lv_room (Nat.le_of_ble_eq_true rfl)) dX17_athlete_19 ⟨Nat.le_of_ble_eq_true rfl, Nat.le_of_ble_eq_true rfl⟩) hS (fun q _ h => hFc q h) (fun q h => hFc q h) (fun r9 u t H1 locs ht9 hvm hw hB hz1 hk1 hS => ?_)
  refine W.widen (k := 0) (n := 0) (by omega) (by omega) ?_
  have hP := zKeep hP hk1
  generalize H1 = H at hP hS ⊢
  have hP : va_P D vwCl [(mo, .inr (23, [.int th, .ref b0, .ref b1, .ref b2, .ref b3, .int 0, .int 0, .long 0])), (b0, .inr (5, [.int 0, .ref dz, .int 0])), (b1, .inr (5, [.int 0, .ref dz, .int 0]))] H := hP
  subst hw
  refine lv_bipush (v := 30) hx hb dX17_athlete_22 (by decide) ?_
  refine lv_icmp_ne (tgt := 31) hx hb dX17_athlete_24 (by decide) (fun _ => ?_) (fun c => absurd c (by decide))
  refine lv_iconst (v := 0) hx hb dX17_athlete_31 (by decide) ?_
  refine va_put (D := D) (ci := 23) (v := .int 0) (ty := .int) (C := RX17) (T := TX17) (N := 8) hx hb hts (by decide +kernel) tyX17 tyX17_ok nmX17 hown hK hP hD hS 0 rfl rfl 0 (by decide) (hts (.fieldLink RX17 25 "HeatStadiumModel" "thrown" "I") (by decide +kernel)) (fun _ h9 => h9) rfl (by decide +kernel) rfl rfl (Nat.le_of_ble_eq_true rfl) dX17_athlete_32 (fun H locs hP hD hS => ?_)
  have hP : va_P D vwCl [(mo, .inr (23, [.int 0, .ref b0, .ref b1, .ref b2, .ref b3, .int 0, .int 0, .long 0])), (b0, .inr (5, [.int 0, .ref dz, .int 0])), (b1, .inr (5, [.int 0, .ref dz, .int 0]))] H := hP
  have hD : va_D A [(mo, .inr (23, [.int 0, .ref b0, .ref b1, .ref b2, .ref b3, .int 0, .int 0, .long 0])), (b0, .inr (5, [.int 0, .ref dz, .int 0])), (b1, .inr (5, [.int 0, .ref dz, .int 0]))] := hD
  refine lv_aload_n hx hb dX17_athlete_35 rfl (lv_at hl 0 rfl) ?_
  refine va_get (D := D) (ci := 23) (v := .int 0) (C := RX17) (T := TX17) (N := 8) hx hb hts (by decide +kernel) hown hK hP 0 rfl rfl 0 (by decide) (hts (.fieldLink RX17 25 "HeatStadiumModel" "thrown" "I") (by decide +kernel)) (fun _ h9 => h9) rfl dX17_athlete_36 ?_
  refine lv_if_le (tgt := 44) hx hb dX17_athlete_39 (by decide) (fun _ => ?_) (fun c => absurd (by decide) c)
  refine lv_aload_n hx hb dX17_athlete_44 rfl (lv_at hl 0 rfl) ?_
  refine va_get (D := D) (ci := 23) (v := .ref b0) (C := RX17) (T := TX17) (N := 8) hx hb hts (by decide +kernel) hown hK hP 0 rfl rfl 1 (by decide) (hts (.fieldLink RX17 10 "HeatStadiumModel" "nations" "Ljava/util/ArrayList;") (by decide +kernel)) (fun _ h9 => h9) rfl dX17_athlete_45 ?_
  refine lv_iload_n hx hb dX17_athlete_48 rfl (lv_at hl 1 rfl) ?_
  have hPc := hP.sub (ws' := []) [] rfl
  have hDc := hD.sub (ws' := []) [] (by decide) rfl
  have hKc := hK.sub (tys' := []) [] rfl
  have hFc : ∀ q : Nat, H.size ≤ q → A q := fun q h => hA q (Nat.le_trans hS.1 h)
  refine va_callq (va_runS (As := [.int (nI i)]) (rest := [.ref b0]) ⟨hx, hb, hml, hown, hts⟩ (c_valueOf l hst D H.size cz ad i hi) (va_cwS 1 hts (goodIn_app (goodIn_of _ (by decide +kernel)) (goodIn_sub (fun _ h => List.mem_cons_of_mem _ (List.mem_append_right _ (List.mem_append_right _ (List.mem_append_right _ (List.mem_append_right _ (List.mem_append_left _ h)))))) zJ6_valueOf_2dffe_ws_good)) rfl rfl rfl (by decide +kernel) ⟨Nat.le_of_ble_eq_true rfl, Nat.le_of_ble_eq_true rfl⟩) ⟨zPreX.blind (zI_ok cz ad), zPreX.mk (zI_ok cz ad) (⟨i1, i2, i3, i4⟩) hPc hKc hDc hz hS (fun q h => hFc q h)⟩ rfl rfl hl.1 rfl (lv_room (Nat.le_of_ble_eq_true rfl)) dX17_athlete_49 ⟨Nat.le_of_ble_eq_true rfl, Nat.le_of_ble_eq_true rfl⟩) hS (fun q _ h => hFc q h) (fun q h => hFc q h) (fun r9 u t H1 locs ht9 hvm hw hB hz1 hk1 hS => ?_)
  refine W.widen (k := 0) (n := 0) (by omega) (by omega) ?_
  have hP := zKeep hP hk1
  generalize H1 = H at hP hS ⊢
  have hP : va_P D vwCl [(mo, .inr (23, [.int 0, .ref b0, .ref b1, .ref b2, .ref b3, .int 0, .int 0, .long 0])), (b0, .inr (5, [.int 0, .ref dz, .int 0])), (b1, .inr (5, [.int 0, .ref dz, .int 0]))] H := hP
  subst hw
  have hPc := hP.sub (ws' := [(b0, .inr (5, [.int 0, .ref dz, .int 0]))]) [1] rfl
  have hDc := hD.sub (ws' := [(b0, .inr (5, [.int 0, .ref dz, .int 0]))]) [1] (by decide) rfl
  have hKc := hK.sub (tys' := []) [] rfl
  have hFc := va_free (wc := [(b0, .inr (5, [.int 0, .ref dz, .int 0]))]) hD hS hA [1] rfl
  refine va_calli (va_runV (As := [.ref (ad (i + 128))]) (rest := []) ⟨hx, hb, hml, hown, hts⟩ (c_add_const l hst D H.size b0 dz RJ6 (ad (i + 128)) (by decide +kernel)) (cwV 1 hts (goodIn_app (goodIn_of _ (by decide +kernel)) (goodIn_sub (fun _ h => List.mem_cons_of_mem _ (List.mem_append_right _ (List.mem_append_right _ (List.mem_append_right _ (List.mem_append_right _ (List.mem_append_right _ (List.mem_append_left _ h))))))) zJx4a65c_add_9ea2d_const_good)) rfl rfl rfl (by decide +kernel) ⟨Nat.le_of_ble_eq_true rfl, Nat.le_of_ble_eq_true rfl⟩) ⟨zPreX.blind (zE_ok dz RJ6 (ad (i + 128))), va_recv hKc hPc (ci := 5) (q0 := 0) rfl rfl, zPreX.mk (zE_ok dz RJ6 (ad (i + 128))) (⟨hm, i4.1 (i + 128) (by omega)⟩) hPc hKc hDc hz hS (fun q h => hFc q h)⟩ rfl rfl hl.1 rfl (lv_room (Nat.le_of_ble_eq_true rfl)) dX17_athlete_52 ⟨Nat.le_of_ble_eq_true rfl, Nat.le_of_ble_eq_true rfl⟩) hS (fun q _ h => hFc q h) (fun q h => hFc q h) (fun r9 u t H1 locs ht9 hvm hw hB hz1 hk1 hS => ?_)
  refine W.widen (k := 1) (n := 10) (by omega) (by omega) ?_
  obtain ⟨n1, hP1, hK1, hD1⟩ := hB
  rw [ht9] at hP1
  have hK1 := va_K.moved hvm.symm hK1
  obtain ⟨hP, hD⟩ := va_join (wr := [(mo, .inr (23, [.int 0, .ref b0, .ref b1, .ref b2, .ref b3, .int 0, .int 0, .long 0])), (b1, .inr (5, [.int 0, .ref dz, .int 0]))]) (w1 := [(b0, .inr (5, [.int 1, .ref n1, .int 1]))]) hP hD [1] [0, 2] rfl rfl (by decide) (by decide) hk1 hFc hP1 hD1
  have hK := (hK.sub (tys' := []) [] rfl).app hK1
  generalize H1 = H at hP hS ⊢
  have hP : va_P D vwCl [(mo, .inr (23, [.int 0, .ref b0, .ref b1, .ref b2, .ref b3, .int 0, .int 0, .long 0])), (b1, .inr (5, [.int 0, .ref dz, .int 0])), (b0, .inr (5, [.int 1, .ref n1, .int 1]))] H := hP
  have hD : va_D A [(mo, .inr (23, [.int 0, .ref b0, .ref b1, .ref b2, .ref b3, .int 0, .int 0, .long 0])), (b1, .inr (5, [.int 0, .ref dz, .int 0])), (b0, .inr (5, [.int 1, .ref n1, .int 1]))] := hD
  have hK : va_K D vwCl [] s := hK
  subst hw
  refine lv_pop hx hb dX17_athlete_55 rfl ?_
  refine lv_aload_n hx hb dX17_athlete_56 rfl (lv_at hl 0 rfl) ?_
  refine va_get (D := D) (ci := 23) (v := .ref b1) (C := RX17) (T := TX17) (N := 8) hx hb hts (by decide +kernel) hown hK hP 0 rfl rfl 2 (by decide) (hts (.fieldLink RX17 16 "HeatStadiumModel" "doped" "Ljava/util/ArrayList;") (by decide +kernel)) (fun _ h9 => h9) rfl dX17_athlete_57 ?_
  refine lv_iconst (v := 0) hx hb dX17_athlete_60 (by decide) ?_
  have hPc := hP.sub (ws' := []) [] rfl
  have hDc := hD.sub (ws' := []) [] (by decide) rfl
  have hKc := hK.sub (tys' := []) [] rfl
  have hFc : ∀ q : Nat, H.size ≤ q → A q := fun q h => hA q (Nat.le_trans hS.1 h)
  refine va_callq (va_runS (As := [.int 0]) (rest := [.ref b1]) ⟨hx, hb, hml, hown, hts⟩ (c_false l hst D H.size bz) (va_cwS 1 hts (goodIn_app (goodIn_of _ (by decide +kernel)) (goodIn_sub (fun _ h => List.mem_cons_of_mem _ (List.mem_append_right _ (List.mem_append_right _ (List.mem_append_right _ (List.mem_append_right _ (List.mem_append_right _ (List.mem_append_right _ (List.mem_append_left _ h)))))))) zJ14_valueOf_4531c_ws_good)) rfl rfl rfl (by decide +kernel) ⟨Nat.le_of_ble_eq_true rfl, Nat.le_of_ble_eq_true rfl⟩) ⟨zPreX.blind (zB_ok bz), zPreX.mk (zB_ok bz) (⟨b1_, b2_⟩) hPc hKc hDc hz hS (fun q h => hFc q h)⟩ rfl rfl hl.1 rfl (lv_room (Nat.le_of_ble_eq_true rfl)) dX17_athlete_61 ⟨Nat.le_of_ble_eq_true rfl, Nat.le_of_ble_eq_true rfl⟩) hS (fun q _ h => hFc q h) (fun q h => hFc q h) (fun r9 u t H1 locs ht9 hvm hw hB hz1 hk1 hS => ?_)
  refine W.widen (k := 1) (n := 10) (by omega) (by omega) ?_
  have hP := zKeep hP hk1
  generalize H1 = H at hP hS ⊢
  have hP : va_P D vwCl [(mo, .inr (23, [.int 0, .ref b0, .ref b1, .ref b2, .ref b3, .int 0, .int 0, .long 0])), (b1, .inr (5, [.int 0, .ref dz, .int 0])), (b0, .inr (5, [.int 1, .ref n1, .int 1]))] H := hP
  subst hw
  have hPc := hP.sub (ws' := [(b1, .inr (5, [.int 0, .ref dz, .int 0]))]) [1] rfl
  have hDc := hD.sub (ws' := [(b1, .inr (5, [.int 0, .ref dz, .int 0]))]) [1] (by decide) rfl
  have hKc := hK.sub (tys' := []) [] rfl
  have hFc := va_free (wc := [(b1, .inr (5, [.int 0, .ref dz, .int 0]))]) hD hS hA [1] rfl
  refine va_calli (va_runV (As := [.ref bz]) (rest := []) ⟨hx, hb, hml, hown, hts⟩ (c_add_const l hst D H.size b1 dz "java/lang/Boolean" bz (by decide +kernel)) (cwV 1 hts (goodIn_app (goodIn_of _ (by decide +kernel)) (goodIn_sub (fun _ h => List.mem_cons_of_mem _ (List.mem_append_right _ (List.mem_append_right _ (List.mem_append_right _ (List.mem_append_right _ (List.mem_append_right _ (List.mem_append_left _ h))))))) zJx4a65c_add_9ea2d_const_good)) rfl rfl rfl (by decide +kernel) ⟨Nat.le_of_ble_eq_true rfl, Nat.le_of_ble_eq_true rfl⟩) ⟨zPreX.blind (zE_ok dz "java/lang/Boolean" bz), va_recv hKc hPc (ci := 5) (q0 := 0) rfl rfl, zPreX.mk (zE_ok dz "java/lang/Boolean" bz) (⟨hm, b2_⟩) hPc hKc hDc hz hS (fun q h => hFc q h)⟩ rfl rfl hl.1 rfl (lv_room (Nat.le_of_ble_eq_true rfl)) dX17_athlete_64 ⟨Nat.le_of_ble_eq_true rfl, Nat.le_of_ble_eq_true rfl⟩) hS (fun q _ h => hFc q h) (fun q h => hFc q h) (fun r9 u t H1 locs ht9 hvm hw hB hz1 hk1 hS => ?_)
  refine W.widen (k := 2) (n := 20) (by omega) (by omega) ?_
  obtain ⟨n2, hP1, hK1, hD1⟩ := hB
  rw [ht9] at hP1
  have hK1 := va_K.moved hvm.symm hK1
  obtain ⟨hP, hD⟩ := va_join (wr := [(mo, .inr (23, [.int 0, .ref b0, .ref b1, .ref b2, .ref b3, .int 0, .int 0, .long 0])), (b0, .inr (5, [.int 1, .ref n1, .int 1]))]) (w1 := [(b1, .inr (5, [.int 1, .ref n2, .int 1]))]) hP hD [1] [0, 2] rfl rfl (by decide) (by decide) hk1 hFc hP1 hD1
  have hK := (hK.sub (tys' := []) [] rfl).app hK1
  generalize H1 = H at hP hS ⊢
  have hP : va_P D vwCl [(mo, .inr (23, [.int 0, .ref b0, .ref b1, .ref b2, .ref b3, .int 0, .int 0, .long 0])), (b0, .inr (5, [.int 1, .ref n1, .int 1])), (b1, .inr (5, [.int 1, .ref n2, .int 1]))] H := hP
  have hD : va_D A [(mo, .inr (23, [.int 0, .ref b0, .ref b1, .ref b2, .ref b3, .int 0, .int 0, .long 0])), (b0, .inr (5, [.int 1, .ref n1, .int 1])), (b1, .inr (5, [.int 1, .ref n2, .int 1]))] := hD
  have hK : va_K D vwCl [] s := hK
  subst hw
  refine lv_pop hx hb dX17_athlete_67 rfl ?_
  refine lv_aload_n hx hb dX17_athlete_68 rfl (lv_at hl 0 rfl) ?_
  refine va_get (D := D) (ci := 23) (v := .ref b0) (C := RX17) (T := TX17) (N := 8) hx hb hts (by decide +kernel) hown hK hP 0 rfl rfl 1 (by decide) (hts (.fieldLink RX17 10 "HeatStadiumModel" "nations" "Ljava/util/ArrayList;") (by decide +kernel)) (fun _ h9 => h9) rfl dX17_athlete_69 ?_
  have hPc := hP.sub (ws' := [(b0, .inr (5, [.int 1, .ref n1, .int 1]))]) [1] rfl
  have hDc := hD.sub (ws' := [(b0, .inr (5, [.int 1, .ref n1, .int 1]))]) [1] (by decide) rfl
  have hKc := hK.sub (tys' := []) [] rfl
  have hFc : ∀ q : Nat, H.size ≤ q → A q := fun q h => hA q (Nat.le_trans hS.1 h)
  refine va_calli (va_runV (As := []) (rest := []) ⟨hx, hb, hml, hown, hts⟩ (c_size l hst D H.size b0 n1 1 1) (cwV 0 hts (goodIn_app (goodIn_of _ (by decide +kernel)) (goodIn_sub (fun _ h => List.mem_cons_of_mem _ (List.mem_append_right _ (List.mem_append_right _ (List.mem_append_right _ (List.mem_append_left _ h))))) zJx4a65c_size_8abf5_ws_good)) rfl rfl rfl (by decide +kernel) ⟨Nat.le_of_ble_eq_true rfl, Nat.le_of_ble_eq_true rfl⟩) ⟨zPre.blind, va_recv hKc hPc (ci := 5) (q0 := 0) rfl rfl, zPre.mk hPc hKc hDc hz hS (fun q h => hFc q h)⟩ rfl rfl hl.1 rfl (lv_room (Nat.le_of_ble_eq_true rfl)) dX17_athlete_72 ⟨Nat.le_of_ble_eq_true rfl, Nat.le_of_ble_eq_true rfl⟩) hS (fun q _ h => hFc q h) (fun q h => hFc q h) (fun r9 u t H1 locs ht9 hvm hw hB hz1 hk1 hS => ?_)
  refine W.widen (k := 2) (n := 20) (by omega) (by omega) ?_
  have hP := zKeep hP hk1
  generalize H1 = H at hP hS ⊢
  have hP : va_P D vwCl [(mo, .inr (23, [.int 0, .ref b0, .ref b1, .ref b2, .ref b3, .int 0, .int 0, .long 0])), (b0, .inr (5, [.int 1, .ref n1, .int 1])), (b1, .inr (5, [.int 1, .ref n2, .int 1]))] H := hP
  subst hw
  refine lv_iconst (v := 1) hx hb dX17_athlete_75 (by decide) ?_
  refine lv_isub hx hb dX17_athlete_76 ?_
  refine lv_topi (fun z3 ez3 => ?_)
  obtain rfl : z3 = 0 := ez3.trans (by decide)
  have hP9 := hP.sub (ws' := [(mo, .inr (23, [.int 0, .ref b0, .ref b1, .ref b2, .ref b3, .int 0, .int 0, .long 0]))]) [0] rfl
  have hD9 := hD.sub (ws' := [(mo, .inr (23, [.int 0, .ref b0, .ref b1, .ref b2, .ref b3, .int 0, .int 0, .long 0]))]) [0] (by decide) rfl
  have hK9 := hK.sub (tys' := []) [] rfl
  rw [← hAe] at hD9
  refine W.widen (k := 2) (n := 20) (by omega) (by omega) ?_
  subst hAe
  exact W.iret (v := 0) hx hb hr (fun t ht9 hW => ⟨⟨0, (), rfl, rfl, ⟨by rw [ht9]; exact hP9, va_K.moved hW.alike hK9, hD9⟩⟩, hS.F ht9⟩) hS.2.2 dX17_athlete_77

def zm_athlete_no : List Cond := .code yX17_athlete cX17_athlete 2 (some .int) :: ([.methodLink RX17 29 yX17_in, .static yX17_in, .initialized RX17, .fieldLink RX17 25 "HeatStadiumModel" "thrown" "I"] ++ (zX17_in_ws ++ (wsX170 ++ ([]))))
theorem zm_athlete_no_good : zm_athlete_no.all goodWord = true := by decide +kernel
set_option maxHeartbeats 4000000 in
set_option maxRecDepth 100000 in
/-- the reference: athlete (no) -/
theorem cm_athlete_no (l : Launch) (hst : l.stackTraces = false) (D : va_G) (sz : Nat) (mo b0 b1 b2 b3 dz : Nat) (th : Int32) (x1 : Int32) (h : zin x1 0 7 = 0) : Met l yX17_athlete zm_athlete_no (zR 4 0 0) (zPre [.ref mo, .int x1] D [(mo, .inr (23, [.int th, .ref b0, .ref b1, .ref b2, .ref b3, .int 0, .int 0, .long 0]))] [] (va_A [(mo, .inr (23, [.int th, .ref b0, .ref b1, .ref b2, .ref b3, .int 0, .int 0, .long 0]))] sz) sz) (va_Qi (S := Unit) (fun r _ => r = 0) (fun _ t => zAt D [(mo, .inr (23, [.int 1, .ref b0, .ref b1, .ref b2, .ref b3, .int 0, .int 0, .long 0]))] [] (va_A [(mo, .inr (23, [.int th, .ref b0, .ref b1, .ref b2, .ref b3, .int 0, .int 0, .long 0]))] sz) t) (va_A [(mo, .inr (23, [.int th, .ref b0, .ref b1, .ref b2, .ref b3, .int 0, .int 0, .long 0]))] sz)) 0 0 (va_A [(mo, .inr (23, [.int th, .ref b0, .ref b1, .ref b2, .ref b3, .int 0, .int 0, .long 0]))] sz) := by
  refine Met.ofW (cc := cX17_athlete) (maxL := 2) (ret := (some .int)) (by decide) rfl ?_
  intro p e s m args below meth c s₁ B hml hv
  obtain ⟨rfl, hsz, hP, hK, hD0, hz⟩ := hv
  have hx := B.exec
  have hb := B.bytes
  have hr := B.returns
  have hts := atoms_spec (ws := zm_athlete_no) B.pre
  have hown : s.vm.findClass RX17 = some m.cls := findClass_of_methodNamed B.named
  have hlocks := B.notSynchronized
  subst hsz
  have hD := hD0.self (sz := s.heap.size)
  generalize hAe : va_A [(mo, .inr (23, [.int th, .ref b0, .ref b1, .ref b2, .ref b3, .int 0, .int 0, .long 0]))] s.heap.size = A at hD hz ⊢
  have hA : ∀ q : Nat, s.heap.size ≤ q → A q := fun q h => by rw [← hAe]; exact Or.inr h
  have hS : va_S A s.heap s.heap [] := va_S.rf
  have hP : va_P D vwCl [(mo, .inr (23, [.int th, .ref b0, .ref b1, .ref b2, .ref b3, .int 0, .int 0, .long 0]))] s.heap := hP
  have hl := lv_entry ([.ref mo, .int x1]) (n := 2) (Nat.le_of_ble_eq_true rfl)
  rw [lg_entry_eq]
  generalize (lg_sl ([.ref mo, .int x1]) ++ List.replicate (2 - (lg_sl ([.ref mo, .int x1])).length) Slot.unset).toArray = ls at hl ⊢
  have hl : lv_has ls 2 [(0, .ref mo), (1, .int x1)] := hl
  refine lv_aload_n hx hb dX17_athlete_0 rfl (lv_at hl 0 rfl) ?_
  refine lv_iload_n hx hb dX17_athlete_1 rfl (lv_at hl 1 rfl) ?_
  refine lv_iconst (v := 0) hx hb dX17_athlete_2 (by decide) ?_
  refine lv_bipush (v := 7) hx hb dX17_athlete_3 (by decide) ?_
  have hPc := hP.sub (ws' := []) [] rfl
  have hDc := hD.sub (ws' := []) [] (by decide) rfl
  have hKc := hK.sub (tys' := []) [] rfl
  have hFc : ∀ q : Nat, s.heap.size ≤ q → A q := fun q h => hA q (Nat.le_trans hS.1 h)
  refine va_calli (va_runS (As := [.int x1, .int 0, .int 7]) (rest := [.ref mo]) ⟨hx, hb, hml, hown, hts⟩ (c_in l hst D s.heap.size x1 0 7) (cwS 3 hts (goodIn_app (goodIn_of _ (by decide +kernel)) (goodIn_sub (fun _ h => List.mem_cons_of_mem _ (List.mem_append_right _ (List.mem_append_left _ h))) zX17_in_ws_good)) rfl rfl rfl (by decide +kernel) ⟨Nat.le_of_ble_eq_true rfl, Nat.le_of_ble_eq_true rfl⟩) ⟨zPre.blind, zPre.mk hPc hKc hDc hz hS (fun q h => hFc q h)⟩ rfl rfl hl.1 rfl (lv_room (Nat.le_of_ble_eq_true rfl)) dX17_athlete_5 ⟨Nat.le_of_ble_eq_true rfl, Nat.le_of_ble_eq_true rfl⟩) hS (fun q _ h => hFc q h) (fun q h => hFc q h) (fun r9 u t H1 locs ht9 hvm hw hB hz1 hk1 hS => ?_)
  refine W.widen (k := 0) (n := 0) (by omega) (by omega) ?_
  have hP := zKeep hP hk1
  generalize H1 = H at hP hS ⊢
  have hP : va_P D vwCl [(mo, .inr (23, [.int th, .ref b0, .ref b1, .ref b2, .ref b3, .int 0, .int 0, .long 0]))] H := hP
  obtain rfl : r9 = 0 := hw.trans h
  refine lv_if_ne (tgt := 15) hx hb dX17_athlete_8 (by decide) (fun c => absurd (by decide) c) (fun _ => ?_)
  refine lv_iconst (v := 1) hx hb dX17_athlete_11 (by decide) ?_
  refine lv_goto (tgt := 32) hx hb dX17_athlete_12 (by decide) ?_
  refine va_put (D := D) (ci := 23) (v := .int 1) (ty := .int) (C := RX17) (T := TX17) (N := 8) hx hb hts (by decide +kernel) tyX17 tyX17_ok nmX17 hown hK hP hD hS 0 rfl rfl 0 (by decide) (hts (.fieldLink RX17 25 "HeatStadiumModel" "thrown" "I") (by decide +kernel)) (fun _ h9 => h9) rfl (by decide +kernel) rfl rfl (Nat.le_of_ble_eq_true rfl) dX17_athlete_32 (fun H locs hP hD hS => ?_)
  have hP : va_P D vwCl [(mo, .inr (23, [.int 1, .ref b0, .ref b1, .ref b2, .ref b3, .int 0, .int 0, .long 0]))] H := hP
  have hD : va_D A [(mo, .inr (23, [.int 1, .ref b0, .ref b1, .ref b2, .ref b3, .int 0, .int 0, .long 0]))] := hD
  refine lv_aload_n hx hb dX17_athlete_35 rfl (lv_at hl 0 rfl) ?_
  refine va_get (D := D) (ci := 23) (v := .int 1) (C := RX17) (T := TX17) (N := 8) hx hb hts (by decide +kernel) hown hK hP 0 rfl rfl 0 (by decide) (hts (.fieldLink RX17 25 "HeatStadiumModel" "thrown" "I") (by decide +kernel)) (fun _ h9 => h9) rfl dX17_athlete_36 ?_
  refine lv_if_le (tgt := 44) hx hb dX17_athlete_39 (by decide) (fun c => absurd c (by decide)) (fun _ => ?_)
  refine lv_iconst (v := 0) hx hb dX17_athlete_42 (by decide) ?_
  have hP9 := hP.sub (ws' := [(mo, .inr (23, [.int 1, .ref b0, .ref b1, .ref b2, .ref b3, .int 0, .int 0, .long 0]))]) [0] rfl
  have hD9 := hD.sub (ws' := [(mo, .inr (23, [.int 1, .ref b0, .ref b1, .ref b2, .ref b3, .int 0, .int 0, .long 0]))]) [0] (by decide) rfl
  have hK9 := hK.sub (tys' := []) [] rfl
  rw [← hAe] at hD9
  refine W.widen (k := 0) (n := 0) (by omega) (by omega) ?_
  subst hAe
  exact W.iret (v := 0) hx hb hr (fun t ht9 hW => ⟨⟨0, (), rfl, rfl, ⟨by rw [ht9]; exact hP9, va_K.moved hW.alike hK9, hD9⟩⟩, hS.F ht9⟩) hS.2.2 dX17_athlete_43

def zm_pass_no : List Cond := .code yX17_pass cX17_pass 2 (some .int) :: ([.methodLink RX17 29 yX17_in, .static yX17_in, .initialized RX17, .fieldLink RX17 25 "HeatStadiumModel" "thrown" "I", .fieldLink RX17 152 "HeatStadiumModel" "minute" "I"] ++ (zX17_in_ws ++ (wsX170 ++ ([]))))
theorem zm_pass_no_good : zm_pass_no.all goodWord = true := by decide +kernel
set_option maxHeartbeats 4000000 in
set_option maxRecDepth 100000 in
/-- the reference: pass (no) -/
theorem cm_pass_no (l : Launch) (hst : l.stackTraces = false) (D : va_G) (sz : Nat) (mo b0 b1 b2 b3 dz : Nat) (th : Int32) (x1 : Int32) (h : zin x1 1 9999 = 0) : Met l yX17_pass zm_pass_no (zR 4 0 0) (zPre [.ref mo, .int x1] D [(mo, .inr (23, [.int th, .ref b0, .ref b1, .ref b2, .ref b3, .int 0, .int 0, .long 0]))] [] (va_A [(mo, .inr (23, [.int th, .ref b0, .ref b1, .ref b2, .ref b3, .int 0, .int 0, .long 0]))] sz) sz) (va_Qi (S := Unit) (fun r _ => r = 0) (fun _ t => zAt D [(mo, .inr (23, [.int 1, .ref b0, .ref b1, .ref b2, .ref b3, .int 0, .int 0, .long 0]))] [] (va_A [(mo, .inr (23, [.int th, .ref b0, .ref b1, .ref b2, .ref b3, .int 0, .int 0, .long 0]))] sz) t) (va_A [(mo, .inr (23, [.int th, .ref b0, .ref b1, .ref b2, .ref b3, .int 0, .int 0, .long 0]))] sz)) 0 0 (va_A [(mo, .inr (23, [.int th, .ref b0, .ref b1, .ref b2, .ref b3, .int 0, .int 0, .long 0]))] sz) := by
  refine Met.ofW (cc := cX17_pass) (maxL := 2) (ret := (some .int)) (by decide) rfl ?_
  intro p e s m args below meth c s₁ B hml hv
  obtain ⟨rfl, hsz, hP, hK, hD0, hz⟩ := hv
  have hx := B.exec
  have hb := B.bytes
  have hr := B.returns
  have hts := atoms_spec (ws := zm_pass_no) B.pre
  have hown : s.vm.findClass RX17 = some m.cls := findClass_of_methodNamed B.named
  have hlocks := B.notSynchronized
  subst hsz
  have hD := hD0.self (sz := s.heap.size)
  generalize hAe : va_A [(mo, .inr (23, [.int th, .ref b0, .ref b1, .ref b2, .ref b3, .int 0, .int 0, .long 0]))] s.heap.size = A at hD hz ⊢
  have hA : ∀ q : Nat, s.heap.size ≤ q → A q := fun q h => by rw [← hAe]; exact Or.inr h
  have hS : va_S A s.heap s.heap [] := va_S.rf
  have hP : va_P D vwCl [(mo, .inr (23, [.int th, .ref b0, .ref b1, .ref b2, .ref b3, .int 0, .int 0, .long 0]))] s.heap := hP
  have hl := lv_entry ([.ref mo, .int x1]) (n := 2) (Nat.le_of_ble_eq_true rfl)
  rw [lg_entry_eq]
  generalize (lg_sl ([.ref mo, .int x1]) ++ List.replicate (2 - (lg_sl ([.ref mo, .int x1])).length) Slot.unset).toArray = ls at hl ⊢
  have hl : lv_has ls 2 [(0, .ref mo), (1, .int x1)] := hl
  refine lv_aload_n hx hb dX17_pass_0 rfl (lv_at hl 0 rfl) ?_
  refine lv_iload_n hx hb dX17_pass_1 rfl (lv_at hl 1 rfl) ?_
  refine lv_iconst (v := 1) hx hb dX17_pass_2 (by decide) ?_
  refine lv_sipush (v := 9999) hx hb dX17_pass_3 (by decide) ?_
  have hPc := hP.sub (ws' := []) [] rfl
  have hDc := hD.sub (ws' := []) [] (by decide) rfl
  have hKc := hK.sub (tys' := []) [] rfl
  have hFc : ∀ q : Nat, s.heap.size ≤ q → A q := fun q h => hA q (Nat.le_trans hS.1 h)
  refine va_calli (va_runS (As := [.int x1, .int 1, .int 9999]) (rest := [.ref mo]) ⟨hx, hb, hml, hown, hts⟩ (c_in l hst D s.heap.size x1 1 9999) (cwS 3 hts (goodIn_app (goodIn_of _ (by decide +kernel)) (goodIn_sub (fun _ h => List.mem_cons_of_mem _ (List.mem_append_right _ (List.mem_append_left _ h))) zX17_in_ws_good)) rfl rfl rfl (by decide +kernel) ⟨Nat.le_of_ble_eq_true rfl, Nat.le_of_ble_eq_true rfl⟩) ⟨zPre.blind, zPre.mk hPc hKc hDc hz hS (fun q h => hFc q h)⟩ rfl rfl hl.1 rfl (lv_room (Nat.le_of_ble_eq_true rfl)) dX17_pass_6 ⟨Nat.le_of_ble_eq_true rfl, Nat.le_of_ble_eq_true rfl⟩) hS (fun q _ h => hFc q h) (fun q h => hFc q h) (fun r9 u t H1 locs ht9 hvm hw hB hz1 hk1 hS => ?_)
  refine W.widen (k := 0) (n := 0) (by omega) (by omega) ?_
  have hP := zKeep hP hk1
  generalize H1 = H at hP hS ⊢
  have hP : va_P D vwCl [(mo, .inr (23, [.int th, .ref b0, .ref b1, .ref b2, .ref b3, .int 0, .int 0, .long 0]))] H := hP
  obtain rfl : r9 = 0 := hw.trans h
  refine lv_if_eq (tgt := 16) hx hb dX17_pass_9 (by decide) (fun _ => ?_) (fun c => absurd (by decide) c)
  refine lv_iconst (v := 1) hx hb dX17_pass_16 (by decide) ?_
  refine va_put (D := D) (ci := 23) (v := .int 1) (ty := .int) (C := RX17) (T := TX17) (N := 8) hx hb hts (by decide +kernel) tyX17 tyX17_ok nmX17 hown hK hP hD hS 0 rfl rfl 0 (by decide) (hts (.fieldLink RX17 25 "HeatStadiumModel" "thrown" "I") (by decide +kernel)) (fun _ h9 => h9) rfl (by decide +kernel) rfl rfl (Nat.le_of_ble_eq_true rfl) dX17_pass_17 (fun H locs hP hD hS => ?_)
  have hP : va_P D vwCl [(mo, .inr (23, [.int 1, .ref b0, .ref b1, .ref b2, .ref b3, .int 0, .int 0, .long 0]))] H := hP
  have hD : va_D A [(mo, .inr (23, [.int 1, .ref b0, .ref b1, .ref b2, .ref b3, .int 0, .int 0, .long 0]))] := hD
  refine lv_aload_n hx hb dX17_pass_20 rfl (lv_at hl 0 rfl) ?_
  refine lv_dup hx hb dX17_pass_21 rfl ?_
  refine va_get (D := D) (ci := 23) (v := .int 0) (C := RX17) (T := TX17) (N := 8) hx hb hts (by decide +kernel) hown hK hP 0 rfl rfl 5 (by decide) (hts (.fieldLink RX17 152 "HeatStadiumModel" "minute" "I") (by decide +kernel)) (fun _ h9 => h9) rfl dX17_pass_22 ?_
  refine lv_aload_n hx hb dX17_pass_25 rfl (lv_at hl 0 rfl) ?_
  refine va_get (D := D) (ci := 23) (v := .int 1) (C := RX17) (T := TX17) (N := 8) hx hb hts (by decide +kernel) hown hK hP 0 rfl rfl 0 (by decide) (hts (.fieldLink RX17 25 "HeatStadiumModel" "thrown" "I") (by decide +kernel)) (fun _ h9 => h9) rfl dX17_pass_26 ?_
  refine lv_if_le (tgt := 36) hx hb dX17_pass_29 (by decide) (fun c => absurd c (by decide)) (fun _ => ?_)
  refine lv_iconst (v := 0) hx hb dX17_pass_32 (by decide) ?_
  refine lv_goto (tgt := 37) hx hb dX17_pass_33 (by decide) ?_
  refine lv_iadd hx hb dX17_pass_37 ?_
  refine lv_topi (fun z1 ez1 => ?_)
  obtain rfl : z1 = 0 := ez1.trans (by decide)
  refine va_put (D := D) (ci := 23) (v := .int 0) (ty := .int) (C := RX17) (T := TX17) (N := 8) hx hb hts (by decide +kernel) tyX17 tyX17_ok nmX17 hown hK hP hD hS 0 rfl rfl 5 (by decide) (hts (.fieldLink RX17 152 "HeatStadiumModel" "minute" "I") (by decide +kernel)) (fun _ h9 => h9) rfl (by decide +kernel) rfl rfl (Nat.le_of_ble_eq_true rfl) dX17_pass_38 (fun H locs hP hD hS => ?_)
  have hP : va_P D vwCl [(mo, .inr (23, [.int 1, .ref b0, .ref b1, .ref b2, .ref b3, .int 0, .int 0, .long 0]))] H := hP
  have hD : va_D A [(mo, .inr (23, [.int 1, .ref b0, .ref b1, .ref b2, .ref b3, .int 0, .int 0, .long 0]))] := hD
  refine lv_aload_n hx hb dX17_pass_41 rfl (lv_at hl 0 rfl) ?_
  refine va_get (D := D) (ci := 23) (v := .int 1) (C := RX17) (T := TX17) (N := 8) hx hb hts (by decide +kernel) hown hK hP 0 rfl rfl 0 (by decide) (hts (.fieldLink RX17 25 "HeatStadiumModel" "thrown" "I") (by decide +kernel)) (fun _ h9 => h9) rfl dX17_pass_42 ?_
  refine lv_if_le (tgt := 52) hx hb dX17_pass_45 (by decide) (fun c => absurd c (by decide)) (fun _ => ?_)
  refine lv_iconst (v := 0) hx hb dX17_pass_48 (by decide) ?_
  refine lv_goto (tgt := 56) hx hb dX17_pass_49 (by decide) ?_
  have hP9 := hP.sub (ws' := [(mo, .inr (23, [.int 1, .ref b0, .ref b1, .ref b2, .ref b3, .int 0, .int 0, .long 0]))]) [0] rfl
  have hD9 := hD.sub (ws' := [(mo, .inr (23, [.int 1, .ref b0, .ref b1, .ref b2, .ref b3, .int 0, .int 0, .long 0]))]) [0] (by decide) rfl
  have hK9 := hK.sub (tys' := []) [] rfl
  rw [← hAe] at hD9
  refine W.widen (k := 0) (n := 0) (by omega) (by omega) ?_
  subst hAe
  exact W.iret (v := 0) hx hb hr (fun t ht9 hW => ⟨⟨0, (), rfl, rfl, ⟨by rw [ht9]; exact hP9, va_K.moved hW.alike hK9, hD9⟩⟩, hS.F ht9⟩) hS.2.2 dX17_pass_56

def zm_points_no : List Cond := .code yX17_points cX17_points 12 (some .double) :: ([.methodLink RX17 29 yX17_in, .static yX17_in, .initialized RX17, .fieldLink RX17 25 "HeatStadiumModel" "thrown" "I", .fieldLink RX17 19 "HeatStadiumModel" "events" "Ljava/util/ArrayList;", .methodLink RX17 33 yJx4a65c_size_8abf5, .instanceMethod yJx4a65c_size_8abf5, .selects RJx4a65c yJx4a65c_size_8abf5 yJx4a65c_size_8abf5, .initialized RJx4a65c] ++ (zX17_in_ws ++ (wsX170 ++ (zJx4a65c_size_8abf5_ws ++ ([])))))
theorem zm_points_no_good : zm_points_no.all goodWord = true := by decide +kernel
set_option maxHeartbeats 4000000 in
set_option maxRecDepth 100000 in
/-- the reference: points (no) -/
theorem cm_points_no (l : Launch) (hst : l.stackTraces = false) (D : va_G) (sz : Nat) (mo b0 b1 b2 b3 dz : Nat) (th : Int32) (x1 : Int32) (h : zin x1 0 7 = 0) : Met l yX17_points zm_points_no (zR 4 0 0) (zPre [.ref mo, .int x1] D [(mo, .inr (23, [.int th, .ref b0, .ref b1, .ref b2, .ref b3, .int 0, .int 0, .long 0])), (b2, .inr (5, [.int 0, .ref dz, .int 0]))] [] (va_A [(mo, .inr (23, [.int th, .ref b0, .ref b1, .ref b2, .ref b3, .int 0, .int 0, .long 0])), (b2, .inr (5, [.int 0, .ref dz, .int 0]))] sz) sz) (va_Qd (S := Unit) (fun r _ => r = 0) (fun _ t => zAt D [(mo, .inr (23, [.int 1, .ref b0, .ref b1, .ref b2, .ref b3, .int 0, .int 0, .long 0])), (b2, .inr (5, [.int 0, .ref dz, .int 0]))] [] (va_A [(mo, .inr (23, [.int th, .ref b0, .ref b1, .ref b2, .ref b3, .int 0, .int 0, .long 0])), (b2, .inr (5, [.int 0, .ref dz, .int 0]))] sz) t) (va_A [(mo, .inr (23, [.int th, .ref b0, .ref b1, .ref b2, .ref b3, .int 0, .int 0, .long 0])), (b2, .inr (5, [.int 0, .ref dz, .int 0]))] sz)) 0 0 (va_A [(mo, .inr (23, [.int th, .ref b0, .ref b1, .ref b2, .ref b3, .int 0, .int 0, .long 0])), (b2, .inr (5, [.int 0, .ref dz, .int 0]))] sz) := by
  refine Met.ofW (cc := cX17_points) (maxL := 12) (ret := (some .double)) (by decide) rfl ?_
  intro p e s m args below meth c s₁ B hml hv
  obtain ⟨rfl, hsz, hP, hK, hD0, hz⟩ := hv
  have hx := B.exec
  have hb := B.bytes
  have hr := B.returns
  have hts := atoms_spec (ws := zm_points_no) B.pre
  have hown : s.vm.findClass RX17 = some m.cls := findClass_of_methodNamed B.named
  have hlocks := B.notSynchronized
  subst hsz
  have hD := hD0.self (sz := s.heap.size)
  generalize hAe : va_A [(mo, .inr (23, [.int th, .ref b0, .ref b1, .ref b2, .ref b3, .int 0, .int 0, .long 0])), (b2, .inr (5, [.int 0, .ref dz, .int 0]))] s.heap.size = A at hD hz ⊢
  have hA : ∀ q : Nat, s.heap.size ≤ q → A q := fun q h => by rw [← hAe]; exact Or.inr h
  have hS : va_S A s.heap s.heap [] := va_S.rf
  have hP : va_P D vwCl [(mo, .inr (23, [.int th, .ref b0, .ref b1, .ref b2, .ref b3, .int 0, .int 0, .long 0])), (b2, .inr (5, [.int 0, .ref dz, .int 0]))] s.heap := hP
  have hl := lv_entry ([.ref mo, .int x1]) (n := 12) (Nat.le_of_ble_eq_true rfl)
  rw [lg_entry_eq]
  generalize (lg_sl ([.ref mo, .int x1]) ++ List.replicate (12 - (lg_sl ([.ref mo, .int x1])).length) Slot.unset).toArray = ls at hl ⊢
  have hl : lv_has ls 12 [(0, .ref mo), (1, .int x1)] := hl
  refine lv_aload_n hx hb dX17_points_0 rfl (lv_at hl 0 rfl) ?_
  refine lv_iload_n hx hb dX17_points_1 rfl (lv_at hl 1 rfl) ?_
  refine lv_iconst (v := 0) hx hb dX17_points_2 (by decide) ?_
  refine lv_bipush (v := 7) hx hb dX17_points_3 (by decide) ?_
  have hPc := hP.sub (ws' := []) [] rfl
  have hDc := hD.sub (ws' := []) [] (by decide) rfl
  have hKc := hK.sub (tys' := []) [] rfl
  have hFc : ∀ q : Nat, s.heap.size ≤ q → A q := fun q h => hA q (Nat.le_trans hS.1 h)
  refine va_calli (va_runS (As := [.int x1, .int 0, .int 7]) (rest := [.ref mo]) ⟨hx, hb, hml, hown, hts⟩ (c_in l hst D s.heap.size x1 0 7) (cwS 3 hts (goodIn_app (goodIn_of _ (by decide +kernel)) (goodIn_sub (fun _ h => List.mem_cons_of_mem _ (List.mem_append_right _ (List.mem_append_left _ h))) zX17_in_ws_good)) rfl rfl rfl (by decide +kernel) ⟨Nat.le_of_ble_eq_true rfl, Nat.le_of_ble_eq_true rfl⟩) ⟨zPre.blind, zPre.mk hPc hKc hDc hz hS (fun q h => hFc q h)⟩ rfl rfl hl.1 rfl (lv_room (Nat.le_of_ble_eq_true rfl)) dX17_points_5 ⟨Nat.le_of_ble_eq_true rfl, Nat.le_of_ble_eq_true rfl⟩) hS (fun q _ h => hFc q h) (fun q h => hFc q h) (fun r9 u t H1 locs ht9 hvm hw hB hz1 hk1 hS => ?_)
  refine W.widen (k := 0) (n := 0) (by omega) (by omega) ?_
  have hP := zKeep hP hk1
  generalize H1 = H at hP hS ⊢
  have hP : va_P D vwCl [(mo, .inr (23, [.int th, .ref b0, .ref b1, .ref b2, .ref b3, .int 0, .int 0, .long 0])), (b2, .inr (5, [.int 0, .ref dz, .int 0]))] H := hP
  obtain rfl : r9 = 0 := hw.trans h
  refine lv_if_eq (tgt := 15) hx hb dX17_points_8 (by decide) (fun _ => ?_) (fun c => absurd (by decide) c)
  refine lv_iconst (v := 1) hx hb dX17_points_15 (by decide) ?_
  refine va_put (D := D) (ci := 23) (v := .int 1) (ty := .int) (C := RX17) (T := TX17) (N := 8) hx hb hts (by decide +kernel) tyX17 tyX17_ok nmX17 hown hK hP hD hS 0 rfl rfl 0 (by decide) (hts (.fieldLink RX17 25 "HeatStadiumModel" "thrown" "I") (by decide +kernel)) (fun _ h9 => h9) rfl (by decide +kernel) rfl rfl (Nat.le_of_ble_eq_true rfl) dX17_points_16 (fun H locs hP hD hS => ?_)
  have hP : va_P D vwCl [(mo, .inr (23, [.int 1, .ref b0, .ref b1, .ref b2, .ref b3, .int 0, .int 0, .long 0])), (b2, .inr (5, [.int 0, .ref dz, .int 0]))] H := hP
  have hD : va_D A [(mo, .inr (23, [.int 1, .ref b0, .ref b1, .ref b2, .ref b3, .int 0, .int 0, .long 0])), (b2, .inr (5, [.int 0, .ref dz, .int 0]))] := hD
  refine lv_dconst0 hx hb dX17_points_19 ?_
  refine lv_dstore_n (lv' := [(2, .double 0), (0, .ref mo), (1, .int x1)]) hx hb dX17_points_20 rfl hl (by decide) rfl (fun ls hl => ?_)
  refine lv_iconst (v := 0) hx hb dX17_points_21 (by decide) ?_
  refine lv_istore (lv' := [(4, .int 0), (2, .double 0), (0, .ref mo), (1, .int x1)]) hx hb dX17_points_22 hl (by decide) rfl (fun ls hl => ?_)
  refine lv_iload hx hb dX17_points_24 (lv_at hl 0 rfl) ?_
  refine lv_aload_n hx hb dX17_points_26 rfl (lv_at hl 2 rfl) ?_
  refine va_get (D := D) (ci := 23) (v := .ref b2) (C := RX17) (T := TX17) (N := 8) hx hb hts (by decide +kernel) hown hK hP 0 rfl rfl 3 (by decide) (hts (.fieldLink RX17 19 "HeatStadiumModel" "events" "Ljava/util/ArrayList;") (by decide +kernel)) (fun _ h9 => h9) rfl dX17_points_27 ?_
  have hPc := hP.sub (ws' := [(b2, .inr (5, [.int 0, .ref dz, .int 0]))]) [1] rfl
  have hDc := hD.sub (ws' := [(b2, .inr (5, [.int 0, .ref dz, .int 0]))]) [1] (by decide) rfl
  have hKc := hK.sub (tys' := []) [] rfl
  have hFc : ∀ q : Nat, H.size ≤ q → A q := fun q h => hA q (Nat.le_trans hS.1 h)
  refine va_calli (va_runV (As := []) (rest := [.int 0]) ⟨hx, hb, hml, hown, hts⟩ (c_size l hst D H.size b2 dz 0 0) (cwV 0 hts (goodIn_app (goodIn_of _ (by decide +kernel)) (goodIn_sub (fun _ h => List.mem_cons_of_mem _ (List.mem_append_right _ (List.mem_append_right _ (List.mem_append_right _ (List.mem_append_left _ h))))) zJx4a65c_size_8abf5_ws_good)) rfl rfl rfl (by decide +kernel) ⟨Nat.le_of_ble_eq_true rfl, Nat.le_of_ble_eq_true rfl⟩) ⟨zPre.blind, va_recv hKc hPc (ci := 5) (q0 := 0) rfl rfl, zPre.mk hPc hKc hDc hz hS (fun q h => hFc q h)⟩ rfl rfl hl.1 rfl (lv_room (Nat.le_of_ble_eq_true rfl)) dX17_points_30 ⟨Nat.le_of_ble_eq_true rfl, Nat.le_of_ble_eq_true rfl⟩) hS (fun q _ h => hFc q h) (fun q h => hFc q h) (fun r9 u t H1 locs ht9 hvm hw hB hz1 hk1 hS => ?_)
  refine W.widen (k := 0) (n := 0) (by omega) (by omega) ?_
  have hP := zKeep hP hk1
  generalize H1 = H at hP hS ⊢
  have hP : va_P D vwCl [(mo, .inr (23, [.int 1, .ref b0, .ref b1, .ref b2, .ref b3, .int 0, .int 0, .long 0])), (b2, .inr (5, [.int 0, .ref dz, .int 0]))] H := hP
  subst hw
  refine lv_icmp_ge (tgt := 220) hx hb dX17_points_33 (by decide) (fun _ => ?_) (fun c => absurd (by decide) c)
  refine lv_aload_n hx hb dX17_points_220 rfl (lv_at hl 2 rfl) ?_
  refine va_get (D := D) (ci := 23) (v := .int 1) (C := RX17) (T := TX17) (N := 8) hx hb hts (by decide +kernel) hown hK hP 0 rfl rfl 0 (by decide) (hts (.fieldLink RX17 25 "HeatStadiumModel" "thrown" "I") (by decide +kernel)) (fun _ h9 => h9) rfl dX17_points_221 ?_
  refine lv_if_le (tgt := 231) hx hb dX17_points_224 (by decide) (fun c => absurd c (by decide)) (fun _ => ?_)
  refine lv_dconst0 hx hb dX17_points_227 ?_
  refine lv_goto (tgt := 232) hx hb dX17_points_228 (by decide) ?_
  have hP9 := hP.sub (ws' := [(mo, .inr (23, [.int 1, .ref b0, .ref b1, .ref b2, .ref b3, .int 0, .int 0, .long 0])), (b2, .inr (5, [.int 0, .ref dz, .int 0]))]) [0, 1] rfl
  have hD9 := hD.sub (ws' := [(mo, .inr (23, [.int 1, .ref b0, .ref b1, .ref b2, .ref b3, .int 0, .int 0, .long 0])), (b2, .inr (5, [.int 0, .ref dz, .int 0]))]) [0, 1] (by decide) rfl
  have hK9 := hK.sub (tys' := []) [] rfl
  rw [← hAe] at hD9
  refine W.widen (k := 0) (n := 0) (by omega) (by omega) ?_
  subst hAe
  exact W.dret (v := 0) hx hb hr (fun t ht9 hW => ⟨⟨0, (), rfl, rfl, ⟨by rw [ht9]; exact hP9, va_K.moved hW.alike hK9, hD9⟩⟩, hS.F ht9⟩) hS.2.2 dX17_points_232

def zm_points_ok : List Cond := .code yX17_points cX17_points 12 (some .double) :: ([.methodLink RX17 29 yX17_in, .static yX17_in, .initialized RX17, .fieldLink RX17 25 "HeatStadiumModel" "thrown" "I", .fieldLink RX17 19 "HeatStadiumModel" "events" "Ljava/util/ArrayList;", .methodLink RX17 33 yJx4a65c_size_8abf5, .instanceMethod yJx4a65c_size_8abf5, .selects RJx4a65c yJx4a65c_size_8abf5 yJx4a65c_size_8abf5, .initialized RJx4a65c] ++ (zX17_in_ws ++ (wsX170 ++ (zJx4a65c_size_8abf5_ws ++ ([])))))
theorem zm_points_ok_good : zm_points_ok.all goodWord = true := by decide +kernel
set_option maxHeartbeats 4000000 in
set_option maxRecDepth 100000 in
/-- the reference: points (ok) -/
theorem cm_points_ok (l : Launch) (hst : l.stackTraces = false) (D : va_G) (sz : Nat) (mo b0 b1 b2 b3 dz : Nat) (th : Int32) (x1 : Int32) (h : zin x1 0 7 = 1) : Met l yX17_points zm_points_ok (zR 4 0 0) (zPre [.ref mo, .int x1] D [(mo, .inr (23, [.int th, .ref b0, .ref b1, .ref b2, .ref b3, .int 0, .int 0, .long 0])), (b2, .inr (5, [.int 0, .ref dz, .int 0]))] [] (va_A [(mo, .inr (23, [.int th, .ref b0, .ref b1, .ref b2, .ref b3, .int 0, .int 0, .long 0])), (b2, .inr (5, [.int 0, .ref dz, .int 0]))] sz) sz) (va_Qd (S := Unit) (fun r _ => r = 0) (fun _ t => zAt D [(mo, .inr (23, [.int 0, .ref b0, .ref b1, .ref b2, .ref b3, .int 0, .int 0, .long 0])), (b2, .inr (5, [.int 0, .ref dz, .int 0]))] [] (va_A [(mo, .inr (23, [.int th, .ref b0, .ref b1, .ref b2, .ref b3, .int 0, .int 0, .long 0])), (b2, .inr (5, [.int 0, .ref dz, .int 0]))] sz) t) (va_A [(mo, .inr (23, [.int th, .ref b0, .ref b1, .ref b2, .ref b3, .int 0, .int 0, .long 0])), (b2, .inr (5, [.int 0, .ref dz, .int 0]))] sz)) 0 0 (va_A [(mo, .inr (23, [.int th, .ref b0, .ref b1, .ref b2, .ref b3, .int 0, .int 0, .long 0])), (b2, .inr (5, [.int 0, .ref dz, .int 0]))] sz) := by
  refine Met.ofW (cc := cX17_points) (maxL := 12) (ret := (some .double)) (by decide) rfl ?_
  intro p e s m args below meth c s₁ B hml hv
  obtain ⟨rfl, hsz, hP, hK, hD0, hz⟩ := hv
  have hx := B.exec
  have hb := B.bytes
  have hr := B.returns
  have hts := atoms_spec (ws := zm_points_ok) B.pre
  have hown : s.vm.findClass RX17 = some m.cls := findClass_of_methodNamed B.named
  have hlocks := B.notSynchronized
  subst hsz
  have hD := hD0.self (sz := s.heap.size)
  generalize hAe : va_A [(mo, .inr (23, [.int th, .ref b0, .ref b1, .ref b2, .ref b3, .int 0, .int 0, .long 0])), (b2, .inr (5, [.int 0, .ref dz, .int 0]))] s.heap.size = A at hD hz ⊢
  have hA : ∀ q : Nat, s.heap.size ≤ q → A q := fun q h => by rw [← hAe]; exact Or.inr h
  have hS : va_S A s.heap s.heap [] := va_S.rf
  have hP : va_P D vwCl [(mo, .inr (23, [.int th, .ref b0, .ref b1, .ref b2, .ref b3, .int 0, .int 0, .long 0])), (b2, .inr (5, [.int 0, .ref dz, .int 0]))] s.heap := hP
  have hl := lv_entry ([.ref mo, .int x1]) (n := 12) (Nat.le_of_ble_eq_true rfl)
  rw [lg_entry_eq]
  generalize (lg_sl ([.ref mo, .int x1]) ++ List.replicate (12 - (lg_sl ([.ref mo, .int x1])).length) Slot.unset).toArray = ls at hl ⊢
  have hl : lv_has ls 12 [(0, .ref mo), (1, .int x1)] := hl
  refine lv_aload_n hx hb dX17_points_0 rfl (lv_at hl 0 rfl) ?_
  refine lv_iload_n hx hb dX17_points_1 rfl (lv_at hl 1 rfl) ?_
  refine lv_iconst (v := 0) hx hb dX17_points_2 (by decide) ?_
  refine lv_bipush (v := 7) hx hb dX17_points_3 (by decide) ?_
  have hPc := hP.sub (ws' := []) [] rfl
  have hDc := hD.sub (ws' := []) [] (by decide) rfl
  have hKc := hK.sub (tys' := []) [] rfl
  have hFc : ∀ q : Nat, s.heap.size ≤ q → A q := fun q h => hA q (Nat.le_trans hS.1 h)
  refine va_calli (va_runS (As := [.int x1, .int 0, .int 7]) (rest := [.ref mo]) ⟨hx, hb, hml, hown, hts⟩ (c_in l hst D s.heap.size x1 0 7) (cwS 3 hts (goodIn_app (goodIn_of _ (by decide +kernel)) (goodIn_sub (fun _ h => List.mem_cons_of_mem _ (List.mem_append_right _ (List.mem_append_left _ h))) zX17_in_ws_good)) rfl rfl rfl (by decide +kernel) ⟨Nat.le_of_ble_eq_true rfl, Nat.le_of_ble_eq_true rfl⟩) ⟨zPre.blind, zPre.mk hPc hKc hDc hz hS (fun q h => hFc q h)⟩ rfl rfl hl.1 rfl (lv_room (Nat.le_of_ble_eq_true rfl)) dX17_points_5 ⟨Nat.le_of_ble_eq_true rfl, Nat.le_of_ble_eq_true rfl⟩) hS (fun q _ h => hFc q h) (fun q h => hFc q h) (fun r9 u t H1 locs ht9 hvm hw hB hz1 hk1 hS => ?_)
  refine W.widen (k := 0) (n := 0) (by omega) (by omega) ?_
  have hP := zKeep hP hk1
  generalize H1 = H at hP hS ⊢
  have hP : va_P D vwCl [(mo, .inr (23, [.int th, .ref b0, .ref b1, .ref b2, .ref b3, .int 0, .int 0, .long 0])), (b2, .inr (5, [.int 0, .ref dz, .int 0]))] H := hP
  obtain rfl : r9 = 1 := hw.trans h
  refine lv_if_eq (tgt := 15) hx hb dX17_points_8 (by decide) (fun c => absurd c (by decide)) (fun _ => ?_)
  refine lv_iconst (v := 0) hx hb dX17_points_11 (by decide) ?_
  refine lv_goto (tgt := 16) hx hb dX17_points_12 (by decide) ?_
  refine va_put (D := D) (ci := 23) (v := .int 0) (ty := .int) (C := RX17) (T := TX17) (N := 8) hx hb hts (by decide +kernel) tyX17 tyX17_ok nmX17 hown hK hP hD hS 0 rfl rfl 0 (by decide) (hts (.fieldLink RX17 25 "HeatStadiumModel" "thrown" "I") (by decide +kernel)) (fun _ h9 => h9) rfl (by decide +kernel) rfl rfl (Nat.le_of_ble_eq_true rfl) dX17_points_16 (fun H locs hP hD hS => ?_)
  have hP : va_P D vwCl [(mo, .inr (23, [.int 0, .ref b0, .ref b1, .ref b2, .ref b3, .int 0, .int 0, .long 0])), (b2, .inr (5, [.int 0, .ref dz, .int 0]))] H := hP
  have hD : va_D A [(mo, .inr (23, [.int 0, .ref b0, .ref b1, .ref b2, .ref b3, .int 0, .int 0, .long 0])), (b2, .inr (5, [.int 0, .ref dz, .int 0]))] := hD
  refine lv_dconst0 hx hb dX17_points_19 ?_
  refine lv_dstore_n (lv' := [(2, .double 0), (0, .ref mo), (1, .int x1)]) hx hb dX17_points_20 rfl hl (by decide) rfl (fun ls hl => ?_)
  refine lv_iconst (v := 0) hx hb dX17_points_21 (by decide) ?_
  refine lv_istore (lv' := [(4, .int 0), (2, .double 0), (0, .ref mo), (1, .int x1)]) hx hb dX17_points_22 hl (by decide) rfl (fun ls hl => ?_)
  refine lv_iload hx hb dX17_points_24 (lv_at hl 0 rfl) ?_
  refine lv_aload_n hx hb dX17_points_26 rfl (lv_at hl 2 rfl) ?_
  refine va_get (D := D) (ci := 23) (v := .ref b2) (C := RX17) (T := TX17) (N := 8) hx hb hts (by decide +kernel) hown hK hP 0 rfl rfl 3 (by decide) (hts (.fieldLink RX17 19 "HeatStadiumModel" "events" "Ljava/util/ArrayList;") (by decide +kernel)) (fun _ h9 => h9) rfl dX17_points_27 ?_
  have hPc := hP.sub (ws' := [(b2, .inr (5, [.int 0, .ref dz, .int 0]))]) [1] rfl
  have hDc := hD.sub (ws' := [(b2, .inr (5, [.int 0, .ref dz, .int 0]))]) [1] (by decide) rfl
  have hKc := hK.sub (tys' := []) [] rfl
  have hFc : ∀ q : Nat, H.size ≤ q → A q := fun q h => hA q (Nat.le_trans hS.1 h)
  refine va_calli (va_runV (As := []) (rest := [.int 0]) ⟨hx, hb, hml, hown, hts⟩ (c_size l hst D H.size b2 dz 0 0) (cwV 0 hts (goodIn_app (goodIn_of _ (by decide +kernel)) (goodIn_sub (fun _ h => List.mem_cons_of_mem _ (List.mem_append_right _ (List.mem_append_right _ (List.mem_append_right _ (List.mem_append_left _ h))))) zJx4a65c_size_8abf5_ws_good)) rfl rfl rfl (by decide +kernel) ⟨Nat.le_of_ble_eq_true rfl, Nat.le_of_ble_eq_true rfl⟩) ⟨zPre.blind, va_recv hKc hPc (ci := 5) (q0 := 0) rfl rfl, zPre.mk hPc hKc hDc hz hS (fun q h => hFc q h)⟩ rfl rfl hl.1 rfl (lv_room (Nat.le_of_ble_eq_true rfl)) dX17_points_30 ⟨Nat.le_of_ble_eq_true rfl, Nat.le_of_ble_eq_true rfl⟩) hS (fun q _ h => hFc q h) (fun q h => hFc q h) (fun r9 u t H1 locs ht9 hvm hw hB hz1 hk1 hS => ?_)
  refine W.widen (k := 0) (n := 0) (by omega) (by omega) ?_
  have hP := zKeep hP hk1
  generalize H1 = H at hP hS ⊢
  have hP : va_P D vwCl [(mo, .inr (23, [.int 0, .ref b0, .ref b1, .ref b2, .ref b3, .int 0, .int 0, .long 0])), (b2, .inr (5, [.int 0, .ref dz, .int 0]))] H := hP
  subst hw
  refine lv_icmp_ge (tgt := 220) hx hb dX17_points_33 (by decide) (fun _ => ?_) (fun c => absurd (by decide) c)
  refine lv_aload_n hx hb dX17_points_220 rfl (lv_at hl 2 rfl) ?_
  refine va_get (D := D) (ci := 23) (v := .int 0) (C := RX17) (T := TX17) (N := 8) hx hb hts (by decide +kernel) hown hK hP 0 rfl rfl 0 (by decide) (hts (.fieldLink RX17 25 "HeatStadiumModel" "thrown" "I") (by decide +kernel)) (fun _ h9 => h9) rfl dX17_points_221 ?_
  refine lv_if_le (tgt := 231) hx hb dX17_points_224 (by decide) (fun _ => ?_) (fun c => absurd (by decide) c)
  refine lv_dload_n hx hb dX17_points_231 rfl (lv_at hl 1 rfl) ?_
  have hP9 := hP.sub (ws' := [(mo, .inr (23, [.int 0, .ref b0, .ref b1, .ref b2, .ref b3, .int 0, .int 0, .long 0])), (b2, .inr (5, [.int 0, .ref dz, .int 0]))]) [0, 1] rfl
  have hD9 := hD.sub (ws' := [(mo, .inr (23, [.int 0, .ref b0, .ref b1, .ref b2, .ref b3, .int 0, .int 0, .long 0])), (b2, .inr (5, [.int 0, .ref dz, .int 0]))]) [0, 1] (by decide) rfl
  have hK9 := hK.sub (tys' := []) [] rfl
  rw [← hAe] at hD9
  refine W.widen (k := 0) (n := 0) (by omega) (by omega) ?_
  subst hAe
  exact W.dret (v := 0) hx hb hr (fun t ht9 hW => ⟨⟨0, (), rfl, rfl, ⟨by rw [ht9]; exact hP9, va_K.moved hW.alike hK9, hD9⟩⟩, hS.F ht9⟩) hS.2.2 dX17_points_232

def zm_medals__no : List Cond := .code yX17_medals_ cX17_medals_ 3 (some .int) :: ([.methodLink RX17 29 yX17_in, .static yX17_in, .initialized RX17, .fieldLink RX17 25 "HeatStadiumModel" "thrown" "I"] ++ (zX17_in_ws ++ (wsX170 ++ ([]))))
theorem zm_medals__no_good : zm_medals__no.all goodWord = true := by decide +kernel
set_option maxHeartbeats 4000000 in
set_option maxRecDepth 100000 in
/-- the reference: medals_ (no) -/
theorem cm_medals__no (l : Launch) (hst : l.stackTraces = false) (D : va_G) (sz : Nat) (mo b0 b1 b2 b3 dz : Nat) (th : Int32) (x1 x2 : Int32) (h : zin x1 0 7 = 0) : Met l yX17_medals_ zm_medals__no (zR 4 0 0) (zPre [.ref mo, .int x1, .int x2] D [(mo, .inr (23, [.int th, .ref b0, .ref b1, .ref b2, .ref b3, .int 0, .int 0, .long 0]))] [] (va_A [(mo, .inr (23, [.int th, .ref b0, .ref b1, .ref b2, .ref b3, .int 0, .int 0, .long 0]))] sz) sz) (va_Qi (S := Unit) (fun r _ => r = 0) (fun _ t => zAt D [(mo, .inr (23, [.int 1, .ref b0, .ref b1, .ref b2, .ref b3, .int 0, .int 0, .long 0]))] [] (va_A [(mo, .inr (23, [.int th, .ref b0, .ref b1, .ref b2, .ref b3, .int 0, .int 0, .long 0]))] sz) t) (va_A [(mo, .inr (23, [.int th, .ref b0, .ref b1, .ref b2, .ref b3, .int 0, .int 0, .long 0]))] sz)) 0 0 (va_A [(mo, .inr (23, [.int th, .ref b0, .ref b1, .ref b2, .ref b3, .int 0, .int 0, .long 0]))] sz) := by
  refine Met.ofW (cc := cX17_medals_) (maxL := 3) (ret := (some .int)) (by decide) rfl ?_
  intro p e s m args below meth c s₁ B hml hv
  obtain ⟨rfl, hsz, hP, hK, hD0, hz⟩ := hv
  have hx := B.exec
  have hb := B.bytes
  have hr := B.returns
  have hts := atoms_spec (ws := zm_medals__no) B.pre
  have hown : s.vm.findClass RX17 = some m.cls := findClass_of_methodNamed B.named
  have hlocks := B.notSynchronized
  subst hsz
  have hD := hD0.self (sz := s.heap.size)
  generalize hAe : va_A [(mo, .inr (23, [.int th, .ref b0, .ref b1, .ref b2, .ref b3, .int 0, .int 0, .long 0]))] s.heap.size = A at hD hz ⊢
  have hA : ∀ q : Nat, s.heap.size ≤ q → A q := fun q h => by rw [← hAe]; exact Or.inr h
  have hS : va_S A s.heap s.heap [] := va_S.rf
  have hP : va_P D vwCl [(mo, .inr (23, [.int th, .ref b0, .ref b1, .ref b2, .ref b3, .int 0, .int 0, .long 0]))] s.heap := hP
  have hl := lv_entry ([.ref mo, .int x1, .int x2]) (n := 3) (Nat.le_of_ble_eq_true rfl)
  rw [lg_entry_eq]
  generalize (lg_sl ([.ref mo, .int x1, .int x2]) ++ List.replicate (3 - (lg_sl ([.ref mo, .int x1, .int x2])).length) Slot.unset).toArray = ls at hl ⊢
  have hl : lv_has ls 3 [(0, .ref mo), (1, .int x1), (2, .int x2)] := hl
  refine lv_aload_n hx hb dX17_medals__0 rfl (lv_at hl 0 rfl) ?_
  refine lv_iload_n hx hb dX17_medals__1 rfl (lv_at hl 1 rfl) ?_
  refine lv_iconst (v := 0) hx hb dX17_medals__2 (by decide) ?_
  refine lv_bipush (v := 7) hx hb dX17_medals__3 (by decide) ?_
  have hPc := hP.sub (ws' := []) [] rfl
  have hDc := hD.sub (ws' := []) [] (by decide) rfl
  have hKc := hK.sub (tys' := []) [] rfl
  have hFc : ∀ q : Nat, s.heap.size ≤ q → A q := fun q h => hA q (Nat.le_trans hS.1 h)
  refine va_calli (va_runS (As := [.int x1, .int 0, .int 7]) (rest := [.ref mo]) ⟨hx, hb, hml, hown, hts⟩ (c_in l hst D s.heap.size x1 0 7) (cwS 3 hts (goodIn_app (goodIn_of _ (by decide +kernel)) (goodIn_sub (fun _ h => List.mem_cons_of_mem _ (List.mem_append_right _ (List.mem_append_left _ h))) zX17_in_ws_good)) rfl rfl rfl (by decide +kernel) ⟨Nat.le_of_ble_eq_true rfl, Nat.le_of_ble_eq_true rfl⟩) ⟨zPre.blind, zPre.mk hPc hKc hDc hz hS (fun q h => hFc q h)⟩ rfl rfl hl.1 rfl (lv_room (Nat.le_of_ble_eq_true rfl)) dX17_medals__5 ⟨Nat.le_of_ble_eq_true rfl, Nat.le_of_ble_eq_true rfl⟩) hS (fun q _ h => hFc q h) (fun q h => hFc q h) (fun r9 u t H1 locs ht9 hvm hw hB hz1 hk1 hS => ?_)
  refine W.widen (k := 0) (n := 0) (by omega) (by omega) ?_
  have hP := zKeep hP hk1
  generalize H1 = H at hP hS ⊢
  have hP : va_P D vwCl [(mo, .inr (23, [.int th, .ref b0, .ref b1, .ref b2, .ref b3, .int 0, .int 0, .long 0]))] H := hP
  obtain rfl : r9 = 0 := hw.trans h
  refine lv_if_eq (tgt := 24) hx hb dX17_medals__8 (by decide) (fun _ => ?_) (fun c => absurd (by decide) c)
  refine lv_iconst (v := 1) hx hb dX17_medals__24 (by decide) ?_
  refine va_put (D := D) (ci := 23) (v := .int 1) (ty := .int) (C := RX17) (T := TX17) (N := 8) hx hb hts (by decide +kernel) tyX17 tyX17_ok nmX17 hown hK hP hD hS 0 rfl rfl 0 (by decide) (hts (.fieldLink RX17 25 "HeatStadiumModel" "thrown" "I") (by decide +kernel)) (fun _ h9 => h9) rfl (by decide +kernel) rfl rfl (Nat.le_of_ble_eq_true rfl) dX17_medals__25 (fun H locs hP hD hS => ?_)
  have hP : va_P D vwCl [(mo, .inr (23, [.int 1, .ref b0, .ref b1, .ref b2, .ref b3, .int 0, .int 0, .long 0]))] H := hP
  have hD : va_D A [(mo, .inr (23, [.int 1, .ref b0, .ref b1, .ref b2, .ref b3, .int 0, .int 0, .long 0]))] := hD
  refine lv_aload_n hx hb dX17_medals__28 rfl (lv_at hl 0 rfl) ?_
  refine va_get (D := D) (ci := 23) (v := .int 1) (C := RX17) (T := TX17) (N := 8) hx hb hts (by decide +kernel) hown hK hP 0 rfl rfl 0 (by decide) (hts (.fieldLink RX17 25 "HeatStadiumModel" "thrown" "I") (by decide +kernel)) (fun _ h9 => h9) rfl dX17_medals__29 ?_
  refine lv_if_le (tgt := 39) hx hb dX17_medals__32 (by decide) (fun c => absurd c (by decide)) (fun _ => ?_)
  refine lv_iconst (v := 0) hx hb dX17_medals__35 (by decide) ?_
  refine lv_goto (tgt := 47) hx hb dX17_medals__36 (by decide) ?_
  have hP9 := hP.sub (ws' := [(mo, .inr (23, [.int 1, .ref b0, .ref b1, .ref b2, .ref b3, .int 0, .int 0, .long 0]))]) [0] rfl
  have hD9 := hD.sub (ws' := [(mo, .inr (23, [.int 1, .ref b0, .ref b1, .ref b2, .ref b3, .int 0, .int 0, .long 0]))]) [0] (by decide) rfl
  have hK9 := hK.sub (tys' := []) [] rfl
  rw [← hAe] at hD9
  refine W.widen (k := 0) (n := 0) (by omega) (by omega) ?_
  subst hAe
  exact W.iret (v := 0) hx hb hr (fun t ht9 hW => ⟨⟨0, (), rfl, rfl, ⟨by rw [ht9]; exact hP9, va_K.moved hW.alike hK9, hD9⟩⟩, hS.F ht9⟩) hS.2.2 dX17_medals__47

def zm_medals__no2 : List Cond := .code yX17_medals_ cX17_medals_ 3 (some .int) :: ([.methodLink RX17 29 yX17_in, .static yX17_in, .initialized RX17, .fieldLink RX17 25 "HeatStadiumModel" "thrown" "I"] ++ (zX17_in_ws ++ (wsX170 ++ ([]))))
theorem zm_medals__no2_good : zm_medals__no2.all goodWord = true := by decide +kernel
set_option maxHeartbeats 4000000 in
set_option maxRecDepth 100000 in
/-- the reference: medals_ (no2) -/
theorem cm_medals__no2 (l : Launch) (hst : l.stackTraces = false) (D : va_G) (sz : Nat) (mo b0 b1 b2 b3 dz : Nat) (th : Int32) (x1 x2 : Int32) (h : zin x1 0 7 = 1) (h2 : zin x2 0 3 = 0) : Met l yX17_medals_ zm_medals__no2 (zR 4 0 0) (zPre [.ref mo, .int x1, .int x2] D [(mo, .inr (23, [.int th, .ref b0, .ref b1, .ref b2, .ref b3, .int 0, .int 0, .long 0]))] [] (va_A [(mo, .inr (23, [.int th, .ref b0, .ref b1, .ref b2, .ref b3, .int 0, .int 0, .long 0]))] sz) sz) (va_Qi (S := Unit) (fun r _ => r = 0) (fun _ t => zAt D [(mo, .inr (23, [.int 1, .ref b0, .ref b1, .ref b2, .ref b3, .int 0, .int 0, .long 0]))] [] (va_A [(mo, .inr (23, [.int th, .ref b0, .ref b1, .ref b2, .ref b3, .int 0, .int 0, .long 0]))] sz) t) (va_A [(mo, .inr (23, [.int th, .ref b0, .ref b1, .ref b2, .ref b3, .int 0, .int 0, .long 0]))] sz)) 0 0 (va_A [(mo, .inr (23, [.int th, .ref b0, .ref b1, .ref b2, .ref b3, .int 0, .int 0, .long 0]))] sz) := by
  refine Met.ofW (cc := cX17_medals_) (maxL := 3) (ret := (some .int)) (by decide) rfl ?_
  intro p e s m args below meth c s₁ B hml hv
  obtain ⟨rfl, hsz, hP, hK, hD0, hz⟩ := hv
  have hx := B.exec
  have hb := B.bytes
  have hr := B.returns
  have hts := atoms_spec (ws := zm_medals__no2) B.pre
  have hown : s.vm.findClass RX17 = some m.cls := findClass_of_methodNamed B.named
  have hlocks := B.notSynchronized
  subst hsz
  have hD := hD0.self (sz := s.heap.size)
  generalize hAe : va_A [(mo, .inr (23, [.int th, .ref b0, .ref b1, .ref b2, .ref b3, .int 0, .int 0, .long 0]))] s.heap.size = A at hD hz ⊢
  have hA : ∀ q : Nat, s.heap.size ≤ q → A q := fun q h => by rw [← hAe]; exact Or.inr h
  have hS : va_S A s.heap s.heap [] := va_S.rf
  have hP : va_P D vwCl [(mo, .inr (23, [.int th, .ref b0, .ref b1, .ref b2, .ref b3, .int 0, .int 0, .long 0]))] s.heap := hP
  have hl := lv_entry ([.ref mo, .int x1, .int x2]) (n := 3) (Nat.le_of_ble_eq_true rfl)
  rw [lg_entry_eq]
  generalize (lg_sl ([.ref mo, .int x1, .int x2]) ++ List.replicate (3 - (lg_sl ([.ref mo, .int x1, .int x2])).length) Slot.unset).toArray = ls at hl ⊢
  have hl : lv_has ls 3 [(0, .ref mo), (1, .int x1), (2, .int x2)] := hl
  refine lv_aload_n hx hb dX17_medals__0 rfl (lv_at hl 0 rfl) ?_
  refine lv_iload_n hx hb dX17_medals__1 rfl (lv_at hl 1 rfl) ?_
  refine lv_iconst (v := 0) hx hb dX17_medals__2 (by decide) ?_
  refine lv_bipush (v := 7) hx hb dX17_medals__3 (by decide) ?_
  have hPc := hP.sub (ws' := []) [] rfl
  have hDc := hD.sub (ws' := []) [] (by decide) rfl
  have hKc := hK.sub (tys' := []) [] rfl
  have hFc : ∀ q : Nat, s.heap.size ≤ q → A q := fun q h => hA q (Nat.le_trans hS.1 h)
  refine va_calli (va_runS (As := [.int x1, .int 0, .int 7]) (rest := [.ref mo]) ⟨hx, hb, hml, hown, hts⟩ (c_in l hst D s.heap.size x1 0 7) (cwS 3 hts (goodIn_app (goodIn_of _ (by decide +kernel)) (goodIn_sub (fun _ h => List.mem_cons_of_mem _ (List.mem_append_right _ (List.mem_append_left _ h))) zX17_in_ws_good)) rfl rfl rfl (by decide +kernel) ⟨Nat.le_of_ble_eq_true rfl, Nat.le_of_ble_eq_true rfl⟩) ⟨zPre.blind, zPre.mk hPc hKc hDc hz hS (fun q h => hFc q h)⟩ rfl rfl hl.1 rfl (lv_room (Nat.le_of_ble_eq_true rfl)) dX17_medals__5 ⟨Nat.le_of_ble_eq_true rfl, Nat.le_of_ble_eq_true rfl⟩) hS (fun q _ h => hFc q h) (fun q h => hFc q h) (fun r9 u t H1 locs ht9 hvm hw hB hz1 hk1 hS => ?_)
  refine W.widen (k := 0) (n := 0) (by omega) (by omega) ?_
  have hP := zKeep hP hk1
  generalize H1 = H at hP hS ⊢
  have hP : va_P D vwCl [(mo, .inr (23, [.int th, .ref b0, .ref b1, .ref b2, .ref b3, .int 0, .int 0, .long 0]))] H := hP
  obtain rfl : r9 = 1 := hw.trans h
  refine lv_if_eq (tgt := 24) hx hb dX17_medals__8 (by decide) (fun c => absurd c (by decide)) (fun _ => ?_)
  refine lv_iload_n hx hb dX17_medals__11 rfl (lv_at hl 2 rfl) ?_
  refine lv_iconst (v := 0) hx hb dX17_medals__12 (by decide) ?_
  refine lv_iconst (v := 3) hx hb dX17_medals__13 (by decide) ?_
  have hPc := hP.sub (ws' := []) [] rfl
  have hDc := hD.sub (ws' := []) [] (by decide) rfl
  have hKc := hK.sub (tys' := []) [] rfl
  have hFc : ∀ q : Nat, H.size ≤ q → A q := fun q h => hA q (Nat.le_trans hS.1 h)
  refine va_calli (va_runS (As := [.int x2, .int 0, .int 3]) (rest := [.ref mo]) ⟨hx, hb, hml, hown, hts⟩ (c_in l hst D H.size x2 0 3) (cwS 3 hts (goodIn_app (goodIn_of _ (by decide +kernel)) (goodIn_sub (fun _ h => List.mem_cons_of_mem _ (List.mem_append_right _ (List.mem_append_left _ h))) zX17_in_ws_good)) rfl rfl rfl (by decide +kernel) ⟨Nat.le_of_ble_eq_true rfl, Nat.le_of_ble_eq_true rfl⟩) ⟨zPre.blind, zPre.mk hPc hKc hDc hz hS (fun q h => hFc q h)⟩ rfl rfl hl.1 rfl (lv_room (Nat.le_of_ble_eq_true rfl)) dX17_medals__14 ⟨Nat.le_of_ble_eq_true rfl, Nat.le_of_ble_eq_true rfl⟩) hS (fun q _ h => hFc q h) (fun q h => hFc q h) (fun r9 u t H1 locs ht9 hvm hw hB hz1 hk1 hS => ?_)
  refine W.widen (k := 0) (n := 0) (by omega) (by omega) ?_
  have hP := zKeep hP hk1
  generalize H1 = H at hP hS ⊢
  have hP : va_P D vwCl [(mo, .inr (23, [.int th, .ref b0, .ref b1, .ref b2, .ref b3, .int 0, .int 0, .long 0]))] H := hP
  obtain rfl : r9 = 0 := hw.trans h2
  refine lv_if_eq (tgt := 24) hx hb dX17_medals__17 (by decide) (fun _ => ?_) (fun c => absurd (by decide) c)
  refine lv_iconst (v := 1) hx hb dX17_medals__24 (by decide) ?_
  refine va_put (D := D) (ci := 23) (v := .int 1) (ty := .int) (C := RX17) (T := TX17) (N := 8) hx hb hts (by decide +kernel) tyX17 tyX17_ok nmX17 hown hK hP hD hS 0 rfl rfl 0 (by decide) (hts (.fieldLink RX17 25 "HeatStadiumModel" "thrown" "I") (by decide +kernel)) (fun _ h9 => h9) rfl (by decide +kernel) rfl rfl (Nat.le_of_ble_eq_true rfl) dX17_medals__25 (fun H locs hP hD hS => ?_)
  have hP : va_P D vwCl [(mo, .inr (23, [.int 1, .ref b0, .ref b1, .ref b2, .ref b3, .int 0, .int 0, .long 0]))] H := hP
  have hD : va_D A [(mo, .inr (23, [.int 1, .ref b0, .ref b1, .ref b2, .ref b3, .int 0, .int 0, .long 0]))] := hD
  refine lv_aload_n hx hb dX17_medals__28 rfl (lv_at hl 0 rfl) ?_
  refine va_get (D := D) (ci := 23) (v := .int 1) (C := RX17) (T := TX17) (N := 8) hx hb hts (by decide +kernel) hown hK hP 0 rfl rfl 0 (by decide) (hts (.fieldLink RX17 25 "HeatStadiumModel" "thrown" "I") (by decide +kernel)) (fun _ h9 => h9) rfl dX17_medals__29 ?_
  refine lv_if_le (tgt := 39) hx hb dX17_medals__32 (by decide) (fun c => absurd c (by decide)) (fun _ => ?_)
  refine lv_iconst (v := 0) hx hb dX17_medals__35 (by decide) ?_
  refine lv_goto (tgt := 47) hx hb dX17_medals__36 (by decide) ?_
  have hP9 := hP.sub (ws' := [(mo, .inr (23, [.int 1, .ref b0, .ref b1, .ref b2, .ref b3, .int 0, .int 0, .long 0]))]) [0] rfl
  have hD9 := hD.sub (ws' := [(mo, .inr (23, [.int 1, .ref b0, .ref b1, .ref b2, .ref b3, .int 0, .int 0, .long 0]))]) [0] (by decide) rfl
  have hK9 := hK.sub (tys' := []) [] rfl
  rw [← hAe] at hD9
  refine W.widen (k := 0) (n := 0) (by omega) (by omega) ?_
  subst hAe
  exact W.iret (v := 0) hx hb hr (fun t ht9 hW => ⟨⟨0, (), rfl, rfl, ⟨by rw [ht9]; exact hP9, va_K.moved hW.alike hK9, hD9⟩⟩, hS.F ht9⟩) hS.2.2 dX17_medals__47

def zX17_pass_ws : List Cond := .code yX17_pass cX17_pass 2 (some .int) :: ([.methodLink RX17 29 yX17_in, .static yX17_in, .initialized RX17, .fieldLink RX17 25 "HeatStadiumModel" "thrown" "I", .fieldLink RX17 152 "HeatStadiumModel" "minute" "I"] ++ (zX17_in_ws ++ (wsX170 ++ ([]))))
theorem zX17_pass_ws_good : zX17_pass_ws.all goodWord = true := by decide +kernel
set_option maxHeartbeats 4000000 in
set_option maxRecDepth 100000 in
/-- the reference: pass -/
theorem cm_pass_ok (l : Launch) (hst : l.stackTraces = false) (D : va_G) (sz : Nat) (mo b0 b1 b2 b3 dz : Nat) (th : Int32) (x1 : Int32) (h : zin x1 1 9999 = 1) : Met l yX17_pass zX17_pass_ws (zR 4 0 0) (zPre [.ref mo, .int x1] D [(mo, .inr (23, [.int th, .ref b0, .ref b1, .ref b2, .ref b3, .int 0, .int 0, .long 0]))] [] (va_A [(mo, .inr (23, [.int th, .ref b0, .ref b1, .ref b2, .ref b3, .int 0, .int 0, .long 0]))] sz) sz) (va_Qi (S := Unit) (fun r _ => r = 0 + x1) (fun _ t => zAt D [(mo, .inr (23, [.int 0, .ref b0, .ref b1, .ref b2, .ref b3, .int (0 + x1), .int 0, .long 0]))] [] (va_A [(mo, .inr (23, [.int th, .ref b0, .ref b1, .ref b2, .ref b3, .int 0, .int 0, .long 0]))] sz) t) (va_A [(mo, .inr (23, [.int th, .ref b0, .ref b1, .ref b2, .ref b3, .int 0, .int 0, .long 0]))] sz)) 0 0 (va_A [(mo, .inr (23, [.int th, .ref b0, .ref b1, .ref b2, .ref b3, .int 0, .int 0, .long 0]))] sz) := by
  refine Met.ofW (cc := cX17_pass) (maxL := 2) (ret := (some .int)) (by decide) rfl ?_
  intro p e s m args below meth c s₁ B hml hv
  obtain ⟨rfl, hsz, hP, hK, hD0, hz⟩ := hv
  have hx := B.exec
  have hb := B.bytes
  have hr := B.returns
  have hts := atoms_spec (ws := zX17_pass_ws) B.pre
  have hown : s.vm.findClass RX17 = some m.cls := findClass_of_methodNamed B.named
  have hlocks := B.notSynchronized
  subst hsz
  have hD := hD0.self (sz := s.heap.size)
  generalize hAe : va_A [(mo, .inr (23, [.int th, .ref b0, .ref b1, .ref b2, .ref b3, .int 0, .int 0, .long 0]))] s.heap.size = A at hD hz ⊢
  have hA : ∀ q : Nat, s.heap.size ≤ q → A q := fun q h => by rw [← hAe]; exact Or.inr h
  have hS : va_S A s.heap s.heap [] := va_S.rf
  have hP : va_P D vwCl [(mo, .inr (23, [.int th, .ref b0, .ref b1, .ref b2, .ref b3, .int 0, .int 0, .long 0]))] s.heap := hP
  have hl := lv_entry ([.ref mo, .int x1]) (n := 2) (Nat.le_of_ble_eq_true rfl)
  rw [lg_entry_eq]
  generalize (lg_sl ([.ref mo, .int x1]) ++ List.replicate (2 - (lg_sl ([.ref mo, .int x1])).length) Slot.unset).toArray = ls at hl ⊢
  have hl : lv_has ls 2 [(0, .ref mo), (1, .int x1)] := hl
  refine lv_aload_n hx hb dX17_pass_0 rfl (lv_at hl 0 rfl) ?_
  refine lv_iload_n hx hb dX17_pass_1 rfl (lv_at hl 1 rfl) ?_
  refine lv_iconst (v := 1) hx hb dX17_pass_2 (by decide) ?_
  refine lv_sipush (v := 9999) hx hb dX17_pass_3 (by decide) ?_
  have hPc := hP.sub (ws' := []) [] rfl
  have hDc := hD.sub (ws' := []) [] (by decide) rfl
  have hKc := hK.sub (tys' := []) [] rfl
  have hFc : ∀ q : Nat, s.heap.size ≤ q → A q := fun q h => hA q (Nat.le_trans hS.1 h)
  refine va_calli (va_runS (As := [.int x1, .int 1, .int 9999]) (rest := [.ref mo]) ⟨hx, hb, hml, hown, hts⟩ (c_in l hst D s.heap.size x1 1 9999) (cwS 3 hts (goodIn_app (goodIn_of _ (by decide +kernel)) (goodIn_sub (fun _ h => List.mem_cons_of_mem _ (List.mem_append_right _ (List.mem_append_left _ h))) zX17_in_ws_good)) rfl rfl rfl (by decide +kernel) ⟨Nat.le_of_ble_eq_true rfl, Nat.le_of_ble_eq_true rfl⟩) ⟨zPre.blind, zPre.mk hPc hKc hDc hz hS (fun q h => hFc q h)⟩ rfl rfl hl.1 rfl (lv_room (Nat.le_of_ble_eq_true rfl)) dX17_pass_6 ⟨Nat.le_of_ble_eq_true rfl, Nat.le_of_ble_eq_true rfl⟩) hS (fun q _ h => hFc q h) (fun q h => hFc q h) (fun r9 u t H1 locs ht9 hvm hw hB hz1 hk1 hS => ?_)
  refine W.widen (k := 0) (n := 0) (by omega) (by omega) ?_
  have hP := zKeep hP hk1
  generalize H1 = H at hP hS ⊢
  have hP : va_P D vwCl [(mo, .inr (23, [.int th, .ref b0, .ref b1, .ref b2, .ref b3, .int 0, .int 0, .long 0]))] H := hP
  obtain rfl : r9 = 1 := hw.trans h
  refine lv_if_eq (tgt := 16) hx hb dX17_pass_9 (by decide) (fun c => absurd c (by decide)) (fun _ => ?_)
  refine lv_iconst (v := 0) hx hb dX17_pass_12 (by decide) ?_
  refine lv_goto (tgt := 17) hx hb dX17_pass_13 (by decide) ?_
  refine va_put (D := D) (ci := 23) (v := .int 0) (ty := .int) (C := RX17) (T := TX17) (N := 8) hx hb hts (by decide +kernel) tyX17 tyX17_ok nmX17 hown hK hP hD hS 0 rfl rfl 0 (by decide) (hts (.fieldLink RX17 25 "HeatStadiumModel" "thrown" "I") (by decide +kernel)) (fun _ h9 => h9) rfl (by decide +kernel) rfl rfl (Nat.le_of_ble_eq_true rfl) dX17_pass_17 (fun H locs hP hD hS => ?_)
  have hP : va_P D vwCl [(mo, .inr (23, [.int 0, .ref b0, .ref b1, .ref b2, .ref b3, .int 0, .int 0, .long 0]))] H := hP
  have hD : va_D A [(mo, .inr (23, [.int 0, .ref b0, .ref b1, .ref b2, .ref b3, .int 0, .int 0, .long 0]))] := hD
  refine lv_aload_n hx hb dX17_pass_20 rfl (lv_at hl 0 rfl) ?_
  refine lv_dup hx hb dX17_pass_21 rfl ?_
  refine va_get (D := D) (ci := 23) (v := .int 0) (C := RX17) (T := TX17) (N := 8) hx hb hts (by decide +kernel) hown hK hP 0 rfl rfl 5 (by decide) (hts (.fieldLink RX17 152 "HeatStadiumModel" "minute" "I") (by decide +kernel)) (fun _ h9 => h9) rfl dX17_pass_22 ?_
  refine lv_aload_n hx hb dX17_pass_25 rfl (lv_at hl 0 rfl) ?_
  refine va_get (D := D) (ci := 23) (v := .int 0) (C := RX17) (T := TX17) (N := 8) hx hb hts (by decide +kernel) hown hK hP 0 rfl rfl 0 (by decide) (hts (.fieldLink RX17 25 "HeatStadiumModel" "thrown" "I") (by decide +kernel)) (fun _ h9 => h9) rfl dX17_pass_26 ?_
  refine lv_if_le (tgt := 36) hx hb dX17_pass_29 (by decide) (fun _ => ?_) (fun c => absurd (by decide) c)
  refine lv_iload_n hx hb dX17_pass_36 rfl (lv_at hl 1 rfl) ?_
  refine lv_iadd hx hb dX17_pass_37 ?_
  refine va_put (D := D) (ci := 23) (v := .int (0 + x1)) (ty := .int) (C := RX17) (T := TX17) (N := 8) hx hb hts (by decide +kernel) tyX17 tyX17_ok nmX17 hown hK hP hD hS 0 rfl rfl 5 (by decide) (hts (.fieldLink RX17 152 "HeatStadiumModel" "minute" "I") (by decide +kernel)) (fun _ h9 => h9) rfl (by decide +kernel) rfl rfl (Nat.le_of_ble_eq_true rfl) dX17_pass_38 (fun H locs hP hD hS => ?_)
  have hP : va_P D vwCl [(mo, .inr (23, [.int 0, .ref b0, .ref b1, .ref b2, .ref b3, .int (0 + x1), .int 0, .long 0]))] H := hP
  have hD : va_D A [(mo, .inr (23, [.int 0, .ref b0, .ref b1, .ref b2, .ref b3, .int (0 + x1), .int 0, .long 0]))] := hD
  refine lv_aload_n hx hb dX17_pass_41 rfl (lv_at hl 0 rfl) ?_
  refine va_get (D := D) (ci := 23) (v := .int 0) (C := RX17) (T := TX17) (N := 8) hx hb hts (by decide +kernel) hown hK hP 0 rfl rfl 0 (by decide) (hts (.fieldLink RX17 25 "HeatStadiumModel" "thrown" "I") (by decide +kernel)) (fun _ h9 => h9) rfl dX17_pass_42 ?_
  refine lv_if_le (tgt := 52) hx hb dX17_pass_45 (by decide) (fun _ => ?_) (fun c => absurd (by decide) c)
  refine lv_aload_n hx hb dX17_pass_52 rfl (lv_at hl 0 rfl) ?_
  refine va_get (D := D) (ci := 23) (v := .int (0 + x1)) (C := RX17) (T := TX17) (N := 8) hx hb hts (by decide +kernel) hown hK hP 0 rfl rfl 5 (by decide) (hts (.fieldLink RX17 152 "HeatStadiumModel" "minute" "I") (by decide +kernel)) (fun _ h9 => h9) rfl dX17_pass_53 ?_
  have hP9 := hP.sub (ws' := [(mo, .inr (23, [.int 0, .ref b0, .ref b1, .ref b2, .ref b3, .int (0 + x1), .int 0, .long 0]))]) [0] rfl
  have hD9 := hD.sub (ws' := [(mo, .inr (23, [.int 0, .ref b0, .ref b1, .ref b2, .ref b3, .int (0 + x1), .int 0, .long 0]))]) [0] (by decide) rfl
  have hK9 := hK.sub (tys' := []) [] rfl
  rw [← hAe] at hD9
  refine W.widen (k := 0) (n := 0) (by omega) (by omega) ?_
  subst hAe
  exact W.iret (v := (0 + x1)) hx hb hr (fun t ht9 hW => ⟨⟨(0 + x1), (), rfl, rfl, ⟨by rw [ht9]; exact hP9, va_K.moved hW.alike hK9, hD9⟩⟩, hS.F ht9⟩) hS.2.2 dX17_pass_56

def zX17_isTrue_ws : List Cond := .code yX17_isTrue cX17_isTrue 1 (some .boolean) :: ([.fieldLink RX17 25 "HeatStadiumModel" "thrown" "I"] ++ (wsX170 ++ ([])))
theorem zX17_isTrue_ws_good : zX17_isTrue_ws.all goodWord = true := by decide +kernel
set_option maxHeartbeats 4000000 in
set_option maxRecDepth 100000 in
/-- the reference: isTrue -/
theorem cm_isTrue (l : Launch) (hst : l.stackTraces = false) (D : va_G) (sz : Nat) (mo b0 b1 b2 b3 dz : Nat) (th : Int32) : Met l yX17_isTrue zX17_isTrue_ws (zR 4 0 0) (zPre [.ref mo] D [(mo, .inr (23, [.int th, .ref b0, .ref b1, .ref b2, .ref b3, .int 0, .int 0, .long 0]))] [] (va_A [(mo, .inr (23, [.int th, .ref b0, .ref b1, .ref b2, .ref b3, .int 0, .int 0, .long 0]))] sz) sz) (va_Qi (S := Unit) (fun r _ => r = 1) (fun _ t => zAt D [(mo, .inr (23, [.int 0, .ref b0, .ref b1, .ref b2, .ref b3, .int 0, .int 0, .long 0]))] [] (va_A [(mo, .inr (23, [.int th, .ref b0, .ref b1, .ref b2, .ref b3, .int 0, .int 0, .long 0]))] sz) t) (va_A [(mo, .inr (23, [.int th, .ref b0, .ref b1, .ref b2, .ref b3, .int 0, .int 0, .long 0]))] sz)) 0 0 (va_A [(mo, .inr (23, [.int th, .ref b0, .ref b1, .ref b2, .ref b3, .int 0, .int 0, .long 0]))] sz) := by
  refine Met.ofW (cc := cX17_isTrue) (maxL := 1) (ret := (some .boolean)) (by decide) rfl ?_
  intro p e s m args below meth c s₁ B hml hv
  obtain ⟨rfl, hsz, hP, hK, hD0, hz⟩ := hv
  have hx := B.exec
  have hb := B.bytes
  have hr := B.returns
  have hts := atoms_spec (ws := zX17_isTrue_ws) B.pre
  have hown : s.vm.findClass RX17 = some m.cls := findClass_of_methodNamed B.named
  have hlocks := B.notSynchronized
  subst hsz
  have hD := hD0.self (sz := s.heap.size)
  generalize hAe : va_A [(mo, .inr (23, [.int th, .ref b0, .ref b1, .ref b2, .ref b3, .int 0, .int 0, .long 0]))] s.heap.size = A at hD hz ⊢
  have hA : ∀ q : Nat, s.heap.size ≤ q → A q := fun q h => by rw [← hAe]; exact Or.inr h
  have hS : va_S A s.heap s.heap [] := va_S.rf
  have hP : va_P D vwCl [(mo, .inr (23, [.int th, .ref b0, .ref b1, .ref b2, .ref b3, .int 0, .int 0, .long 0]))] s.heap := hP
  have hl := lv_entry ([.ref mo]) (n := 1) (Nat.le_of_ble_eq_true rfl)
  rw [lg_entry_eq]
  generalize (lg_sl ([.ref mo]) ++ List.replicate (1 - (lg_sl ([.ref mo])).length) Slot.unset).toArray = ls at hl ⊢
  have hl : lv_has ls 1 [(0, .ref mo)] := hl
  refine lv_aload_n hx hb dX17_isTrue_0 rfl (lv_at hl 0 rfl) ?_
  refine lv_iconst (v := 0) hx hb dX17_isTrue_1 (by decide) ?_
  refine va_put (D := D) (ci := 23) (v := .int 0) (ty := .int) (C := RX17) (T := TX17) (N := 8) hx hb hts (by decide +kernel) tyX17 tyX17_ok nmX17 hown hK hP hD hS 0 rfl rfl 0 (by decide) (hts (.fieldLink RX17 25 "HeatStadiumModel" "thrown" "I") (by decide +kernel)) (fun _ h9 => h9) rfl (by decide +kernel) rfl rfl (Nat.le_of_ble_eq_true rfl) dX17_isTrue_2 (fun H locs hP hD hS => ?_)
  have hP : va_P D vwCl [(mo, .inr (23, [.int 0, .ref b0, .ref b1, .ref b2, .ref b3, .int 0, .int 0, .long 0]))] H := hP
  have hD : va_D A [(mo, .inr (23, [.int 0, .ref b0, .ref b1, .ref b2, .ref b3, .int 0, .int 0, .long 0]))] := hD
  refine lv_iconst (v := 1) hx hb dX17_isTrue_5 (by decide) ?_
  have hP9 := hP.sub (ws' := [(mo, .inr (23, [.int 0, .ref b0, .ref b1, .ref b2, .ref b3, .int 0, .int 0, .long 0]))]) [0] rfl
  have hD9 := hD.sub (ws' := [(mo, .inr (23, [.int 0, .ref b0, .ref b1, .ref b2, .ref b3, .int 0, .int 0, .long 0]))]) [0] (by decide) rfl
  have hK9 := hK.sub (tys' := []) [] rfl
  rw [← hAe] at hD9
  refine W.widen (k := 0) (n := 0) (by omega) (by omega) ?_
  subst hAe
  exact W.zret (v := 1) hx hb hr rfl (fun t ht9 hW => ⟨⟨1, (), rfl, rfl, ⟨by rw [ht9]; exact hP9, va_K.moved hW.alike hK9, hD9⟩⟩, hS.F ht9⟩) hS.2.2 dX17_isTrue_6
