/-! printed rows that this part uses -/
theorem dX4_clear_0 : decode cX4_clear 0 = .ok (.aload_n 0, 1) := by decide +kernel
theorem dX4_clear_1 : decode cX4_clear 1 = .ok (.iconst 0, 1) := by decide +kernel
theorem dX4_clear_2 : decode cX4_clear 2 = .ok (.putfield 16, 3) := by decide +kernel
theorem dX4_clear_5 : decode cX4_clear 5 = .ok (.iconst 0, 1) := by decide +kernel
theorem dX4_clear_6 : decode cX4_clear 6 = .ok (.istore_n 1, 1) := by decide +kernel
theorem dX4_clear_7 : decode cX4_clear 7 = .ok (.iload_n 1, 1) := by decide +kernel
theorem dX4_clear_8 : decode cX4_clear 8 = .ok (.bipush 8, 2) := by decide +kernel
theorem dX4_clear_10 : decode cX4_clear 10 = .ok (.if_icmp .ge 31, 3) := by decide +kernel
theorem dX4_clear_13 : decode cX4_clear 13 = .ok (.iconst 0, 1) := by decide +kernel
theorem dX4_clear_14 : decode cX4_clear 14 = .ok (.istore_n 2, 1) := by decide +kernel
theorem dX4_clear_15 : decode cX4_clear 15 = .ok (.iload_n 2, 1) := by decide +kernel
theorem dX4_clear_16 : decode cX4_clear 16 = .ok (.iconst 4, 1) := by decide +kernel
theorem dX4_clear_17 : decode cX4_clear 17 = .ok (.if_icmp .ge 18, 3) := by decide +kernel
theorem dX4_clear_20 : decode cX4_clear 20 = .ok (.aload_n 0, 1) := by decide +kernel
theorem dX4_clear_21 : decode cX4_clear 21 = .ok (.getfield 11, 3) := by decide +kernel
theorem dX4_clear_24 : decode cX4_clear 24 = .ok (.iload_n 1, 1) := by decide +kernel
theorem dX4_clear_25 : decode cX4_clear 25 = .ok (.aaload, 1) := by decide +kernel
theorem dX4_clear_26 : decode cX4_clear 26 = .ok (.iload_n 2, 1) := by decide +kernel
theorem dX4_clear_27 : decode cX4_clear 27 = .ok (.iconst 0, 1) := by decide +kernel
theorem dX4_clear_28 : decode cX4_clear 28 = .ok (.iastore, 1) := by decide +kernel
theorem dX4_clear_29 : decode cX4_clear 29 = .ok (.iinc 2 1, 3) := by decide +kernel
theorem dX4_clear_32 : decode cX4_clear 32 = .ok (.goto (-17), 3) := by decide +kernel
theorem dX4_clear_35 : decode cX4_clear 35 = .ok (.iinc 1 1, 3) := by decide +kernel
theorem dX4_clear_38 : decode cX4_clear 38 = .ok (.goto (-31), 3) := by decide +kernel
theorem dX4_clear_41 : decode cX4_clear 41 = .ok (.return_, 1) := by decide +kernel
theorem dX4_nationAt_0 : decode cX4_nationAt 0 = .ok (.iconst 0, 1) := by decide +kernel
theorem dX4_nationAt_1 : decode cX4_nationAt 1 = .ok (.istore_n 3, 1) := by decide +kernel
theorem dX4_nationAt_2 : decode cX4_nationAt 2 = .ok (.iload_n 3, 1) := by decide +kernel
theorem dX4_nationAt_3 : decode cX4_nationAt 3 = .ok (.bipush 8, 2) := by decide +kernel
theorem dX4_nationAt_5 : decode cX4_nationAt 5 = .ok (.if_icmp .ge 50, 3) := by decide +kernel
theorem dX4_nationAt_8 : decode cX4_nationAt 8 = .ok (.iconst 0, 1) := by decide +kernel
theorem dX4_nationAt_9 : decode cX4_nationAt 9 = .ok (.istore 4, 2) := by decide +kernel
theorem dX4_nationAt_11 : decode cX4_nationAt 11 = .ok (.iconst 0, 1) := by decide +kernel
theorem dX4_nationAt_12 : decode cX4_nationAt 12 = .ok (.istore 5, 2) := by decide +kernel
theorem dX4_nationAt_14 : decode cX4_nationAt 14 = .ok (.iload 5, 2) := by decide +kernel
theorem dX4_nationAt_16 : decode cX4_nationAt 16 = .ok (.bipush 8, 2) := by decide +kernel
theorem dX4_nationAt_18 : decode cX4_nationAt 18 = .ok (.if_icmp .ge 23, 3) := by decide +kernel
theorem dX4_nationAt_21 : decode cX4_nationAt 21 = .ok (.aload_n 0, 1) := by decide +kernel
theorem dX4_nationAt_22 : decode cX4_nationAt 22 = .ok (.iload 5, 2) := by decide +kernel
theorem dX4_nationAt_24 : decode cX4_nationAt 24 = .ok (.iload_n 3, 1) := by decide +kernel
theorem dX4_nationAt_25 : decode cX4_nationAt 25 = .ok (.iload_n 2, 1) := by decide +kernel
theorem dX4_nationAt_26 : decode cX4_nationAt 26 = .ok (.invokevirtual 20, 3) := by decide +kernel
theorem dX4_nationAt_29 : decode cX4_nationAt 29 = .ok (.ifCond .eq 6, 3) := by decide +kernel
theorem dX4_nationAt_32 : decode cX4_nationAt 32 = .ok (.iinc 4 1, 3) := by decide +kernel
theorem dX4_nationAt_35 : decode cX4_nationAt 35 = .ok (.iinc 5 1, 3) := by decide +kernel
theorem dX4_nationAt_38 : decode cX4_nationAt 38 = .ok (.goto (-24), 3) := by decide +kernel
theorem dX4_nationAt_41 : decode cX4_nationAt 41 = .ok (.iload 4, 2) := by decide +kernel
theorem dX4_nationAt_43 : decode cX4_nationAt 43 = .ok (.iload_n 1, 1) := by decide +kernel
theorem dX4_nationAt_44 : decode cX4_nationAt 44 = .ok (.if_icmp .ne 5, 3) := by decide +kernel
theorem dX4_nationAt_47 : decode cX4_nationAt 47 = .ok (.iload_n 3, 1) := by decide +kernel
theorem dX4_nationAt_48 : decode cX4_nationAt 48 = .ok (.ireturn, 1) := by decide +kernel
theorem dX4_nationAt_49 : decode cX4_nationAt 49 = .ok (.iinc 3 1, 3) := by decide +kernel
theorem dX4_nationAt_52 : decode cX4_nationAt 52 = .ok (.goto (-50), 3) := by decide +kernel
theorem dX4_isAhead_0 : decode cX4_isAhead 0 = .ok (.iload_n 3, 1) := by decide +kernel
theorem dX4_isAhead_1 : decode cX4_isAhead 1 = .ok (.ifCond .eq 7, 3) := by decide +kernel
theorem dX4_isAhead_4 : decode cX4_isAhead 4 = .ok (.iconst 0, 1) := by decide +kernel
theorem dX4_isAhead_5 : decode cX4_isAhead 5 = .ok (.goto 4, 3) := by decide +kernel
theorem dX4_isAhead_8 : decode cX4_isAhead 8 = .ok (.iconst 1, 1) := by decide +kernel
theorem dX4_isAhead_9 : decode cX4_isAhead 9 = .ok (.istore 4, 2) := by decide +kernel
theorem dX4_isAhead_11 : decode cX4_isAhead 11 = .ok (.iload 4, 2) := by decide +kernel
theorem dX4_isAhead_13 : decode cX4_isAhead 13 = .ok (.iconst 4, 1) := by decide +kernel
theorem dX4_isAhead_14 : decode cX4_isAhead 14 = .ok (.if_icmp .ge 57, 3) := by decide +kernel
theorem dX4_isAhead_17 : decode cX4_isAhead 17 = .ok (.aload_n 0, 1) := by decide +kernel
theorem dX4_isAhead_18 : decode cX4_isAhead 18 = .ok (.getfield 11, 3) := by decide +kernel
theorem dX4_isAhead_21 : decode cX4_isAhead 21 = .ok (.iload_n 1, 1) := by decide +kernel
theorem dX4_isAhead_22 : decode cX4_isAhead 22 = .ok (.aaload, 1) := by decide +kernel
theorem dX4_isAhead_23 : decode cX4_isAhead 23 = .ok (.iload 4, 2) := by decide +kernel
theorem dX4_isAhead_25 : decode cX4_isAhead 25 = .ok (.iaload, 1) := by decide +kernel
theorem dX4_isAhead_26 : decode cX4_isAhead 26 = .ok (.aload_n 0, 1) := by decide +kernel
theorem dX4_isAhead_27 : decode cX4_isAhead 27 = .ok (.getfield 11, 3) := by decide +kernel
theorem dX4_isAhead_30 : decode cX4_isAhead 30 = .ok (.iload_n 2, 1) := by decide +kernel
theorem dX4_isAhead_31 : decode cX4_isAhead 31 = .ok (.aaload, 1) := by decide +kernel
theorem dX4_isAhead_32 : decode cX4_isAhead 32 = .ok (.iload 4, 2) := by decide +kernel
theorem dX4_isAhead_34 : decode cX4_isAhead 34 = .ok (.iaload, 1) := by decide +kernel
theorem dX4_isAhead_35 : decode cX4_isAhead 35 = .ok (.if_icmp .eq 30, 3) := by decide +kernel
theorem dX4_isAhead_65 : decode cX4_isAhead 65 = .ok (.iinc 4 1, 3) := by decide +kernel
theorem dX4_isAhead_68 : decode cX4_isAhead 68 = .ok (.goto (-57), 3) := by decide +kernel
theorem dX4_isAhead_71 : decode cX4_isAhead 71 = .ok (.iload_n 1, 1) := by decide +kernel
theorem dX4_isAhead_72 : decode cX4_isAhead 72 = .ok (.iload_n 2, 1) := by decide +kernel
theorem dX4_isAhead_73 : decode cX4_isAhead 73 = .ok (.if_icmp .ge 7, 3) := by decide +kernel
theorem dX4_isAhead_76 : decode cX4_isAhead 76 = .ok (.iconst 1, 1) := by decide +kernel
theorem dX4_isAhead_77 : decode cX4_isAhead 77 = .ok (.goto 4, 3) := by decide +kernel
theorem dX4_isAhead_80 : decode cX4_isAhead 80 = .ok (.iconst 0, 1) := by decide +kernel
theorem dX4_isAhead_81 : decode cX4_isAhead 81 = .ok (.ireturn, 1) := by decide +kernel
theorem dX4_sumOfNations_0 : decode cX4_sumOfNations 0 = .ok (.iconst 0, 1) := by decide +kernel
theorem dX4_sumOfNations_1 : decode cX4_sumOfNations 1 = .ok (.istore_n 1, 1) := by decide +kernel
theorem dX4_sumOfNations_2 : decode cX4_sumOfNations 2 = .ok (.iconst 0, 1) := by decide +kernel
theorem dX4_sumOfNations_3 : decode cX4_sumOfNations 3 = .ok (.istore_n 2, 1) := by decide +kernel
theorem dX4_sumOfNations_4 : decode cX4_sumOfNations 4 = .ok (.iload_n 2, 1) := by decide +kernel
theorem dX4_sumOfNations_5 : decode cX4_sumOfNations 5 = .ok (.bipush 8, 2) := by decide +kernel
theorem dX4_sumOfNations_7 : decode cX4_sumOfNations 7 = .ok (.if_icmp .ge 38, 3) := by decide +kernel
theorem dX4_sumOfNations_10 : decode cX4_sumOfNations 10 = .ok (.iload_n 1, 1) := by decide +kernel
theorem dX4_sumOfNations_11 : decode cX4_sumOfNations 11 = .ok (.aload_n 0, 1) := by decide +kernel
theorem dX4_sumOfNations_12 : decode cX4_sumOfNations 12 = .ok (.getfield 11, 3) := by decide +kernel
theorem dX4_sumOfNations_15 : decode cX4_sumOfNations 15 = .ok (.iload_n 2, 1) := by decide +kernel
theorem dX4_sumOfNations_16 : decode cX4_sumOfNations 16 = .ok (.aaload, 1) := by decide +kernel
theorem dX4_sumOfNations_17 : decode cX4_sumOfNations 17 = .ok (.iconst 1, 1) := by decide +kernel
theorem dX4_sumOfNations_18 : decode cX4_sumOfNations 18 = .ok (.iaload, 1) := by decide +kernel
theorem dX4_sumOfNations_19 : decode cX4_sumOfNations 19 = .ok (.aload_n 0, 1) := by decide +kernel
theorem dX4_sumOfNations_20 : decode cX4_sumOfNations 20 = .ok (.getfield 11, 3) := by decide +kernel
theorem dX4_sumOfNations_23 : decode cX4_sumOfNations 23 = .ok (.iload_n 2, 1) := by decide +kernel
theorem dX4_sumOfNations_24 : decode cX4_sumOfNations 24 = .ok (.aaload, 1) := by decide +kernel
theorem dX4_sumOfNations_25 : decode cX4_sumOfNations 25 = .ok (.iconst 2, 1) := by decide +kernel
theorem dX4_sumOfNations_26 : decode cX4_sumOfNations 26 = .ok (.iaload, 1) := by decide +kernel
theorem dX4_sumOfNations_27 : decode cX4_sumOfNations 27 = .ok (.iadd, 1) := by decide +kernel
theorem dX4_sumOfNations_28 : decode cX4_sumOfNations 28 = .ok (.aload_n 0, 1) := by decide +kernel
theorem dX4_sumOfNations_29 : decode cX4_sumOfNations 29 = .ok (.getfield 11, 3) := by decide +kernel
theorem dX4_sumOfNations_32 : decode cX4_sumOfNations 32 = .ok (.iload_n 2, 1) := by decide +kernel
theorem dX4_sumOfNations_33 : decode cX4_sumOfNations 33 = .ok (.aaload, 1) := by decide +kernel
theorem dX4_sumOfNations_34 : decode cX4_sumOfNations 34 = .ok (.iconst 3, 1) := by decide +kernel
theorem dX4_sumOfNations_35 : decode cX4_sumOfNations 35 = .ok (.iaload, 1) := by decide +kernel
theorem dX4_sumOfNations_36 : decode cX4_sumOfNations 36 = .ok (.iadd, 1) := by decide +kernel
theorem dX4_sumOfNations_37 : decode cX4_sumOfNations 37 = .ok (.iadd, 1) := by decide +kernel
theorem dX4_sumOfNations_38 : decode cX4_sumOfNations 38 = .ok (.istore_n 1, 1) := by decide +kernel
theorem dX4_sumOfNations_39 : decode cX4_sumOfNations 39 = .ok (.iinc 2 1, 3) := by decide +kernel
theorem dX4_sumOfNations_42 : decode cX4_sumOfNations 42 = .ok (.goto (-38), 3) := by decide +kernel
theorem dX4_sumOfNations_45 : decode cX4_sumOfNations 45 = .ok (.iload_n 1, 1) := by decide +kernel
theorem dX4_sumOfNations_46 : decode cX4_sumOfNations 46 = .ok (.ireturn, 1) := by decide +kernel
theorem dX11_countMedals_0 : decode cX11_countMedals 0 = .ok (.aload_n 0, 1) := by decide +kernel
theorem dX11_countMedals_1 : decode cX11_countMedals 1 = .ok (.getfield 60, 3) := by decide +kernel
theorem dX11_countMedals_4 : decode cX11_countMedals 4 = .ok (.invokevirtual 459, 3) := by decide +kernel
theorem dX11_countMedals_7 : decode cX11_countMedals 7 = .ok (.iconst 0, 1) := by decide +kernel
theorem dX11_countMedals_8 : decode cX11_countMedals 8 = .ok (.istore_n 1, 1) := by decide +kernel
theorem dX11_countMedals_9 : decode cX11_countMedals 9 = .ok (.iload_n 1, 1) := by decide +kernel
theorem dX11_countMedals_10 : decode cX11_countMedals 10 = .ok (.aload_n 0, 1) := by decide +kernel
theorem dX11_countMedals_11 : decode cX11_countMedals 11 = .ok (.getfield 64, 3) := by decide +kernel
theorem dX11_countMedals_14 : decode cX11_countMedals 14 = .ok (.if_icmp .ge 104, 3) := by decide +kernel
theorem dX11_countMedals_118 : decode cX11_countMedals 118 = .ok (.return_, 1) := by decide +kernel
/-! a grid of eight rows of four zeros, its rows pooled -/
abbrev zrow (cI : ClassId) : Nat → va_E := fun _ => .inl (cI, 4, .inl (fun _ => 0))
theorem zSet0 {X : va_W} {L : List Nat} {cI : ClassId} {k y i : Nat} (hk : (X ++ va_pl L (zrow cI))[k]? = some (y, zrow cI y)) : (X ++ va_pl L (zrow cI)).set k (y, .inl (cI, 4, .inl (upd (fun _ => 0) i 0))) = X ++ va_pl L (zrow cI) := by
  have e : upd (fun _ => (0 : Int32)) i 0 = (fun _ => 0) := funext fun j => by simp [upd]
  rw [e]
  apply List.ext_getElem?
  intro j
  rw [List.getElem?_set]
  by_cases h : k = j
  · subst h
    rw [if_pos rfl, hk, if_pos (List.getElem?_eq_some_iff.mp hk).1]
  · rw [if_neg h]
section
variable {p : Program} {l : Launch} {e : Env} {R : Room} {s : State} {m : MethodId} {args : Array Value} {below : List Frame} {meth : Method} {c : Code} {H : Heap} {locs : List Loc} {cells slots : Nat} {Q : State → Prop}
variable {cc : ByteArray} {pc : Nat} {ls : Array Slot} {rest : List Value} {D : va_G} {cl : List vw_C} {a : Nat} {tys : List (ClassId × FieldType)} {ws : va_W}
/-- a row of an array of arrays -/
theorem zaldg (hexec : p.tables.exec = Jvm.exec) (hb : c.code = cc) (hK : va_K D cl tys s) (hP : va_P D cl ws H) (q0 t0 : Nat) {cA : ClassId} {te : FieldType} {n : Nat} {f : Nat → Option Nat} (ha : ws[q0]? = some (a, .inl (cA, n, .inr (.inr (.inr (.inr f)))))) (ht : tys[t0]? = some (cA, .array te)) {i : Int32} (hin : vp_in i n) (hdg : decode cc pc = .ok (.aaload, 1))
    (kk : W p l e R s m args below meth c H locs cells slots Q (F0 m (pc + 1) ls (va_rf (f i.toNatClampNeg) :: rest))) : W p l e R s m args below meth c H locs cells slots Q (F0 m pc ls (.int i :: .ref a :: rest)) := by
  have hlt : i.toNatClampNeg < n := Nat.not_le.mp fun q => hin (Or.inr q)
  exact W.aald (v := va_rf (f i.toNatClampNeg)) (ty := .array te) hexec hb (hP q0 _ ha) ((hK.2 t0 _ ht).1 n (fun j => va_rf (f j))) rfl (fun q => by cases q) (by show ¬ (i < 0 ∨ (arrV _ _ _).slots.size ≤ _); rw [arrV_size]; exact hin) (by show (arrV _ _ _).slots[_]? = _; rw [arrV_read _ _ hlt]) rfl rfl hdg kk
end
def zX4_clear_ws : List Cond := .code yX4_clear cX4_clear 3 none :: ([.fieldLink RX4 11 "HeatStadium$MedalTable" "counts" "[[I", .fieldLink RX4 16 "HeatStadium$MedalTable" "given" "I"] ++ (wsX40 ++ ([])))
theorem zX4_clear_ws_good : zX4_clear_ws.all goodWord = true := by decide +kernel
set_option maxHeartbeats 4000000 in
set_option maxRecDepth 100000 in
/-- clear: its loop -/
theorem lp_clear {p : Program} {l : Launch} {e : Env} {s : State} {m : MethodId} {args : Array Value} {below : List Frame} {meth : Method} {c : Code} {A A9 : Nat → Prop} {Q : State → Prop} (hst : l.stackTraces = false) (D : va_G) (tb g : Nat) (og : Nat → Option Nat) (LR : List Nat) (cG cI : ClassId) (hx : p.tables.exec = Jvm.exec) (hb : c.code = cX4_clear) (hml : c.maxLocals = 3) (hts : ∀ w ∈ zX4_clear_ws, w.before args s = true) (hown : s.vm.findClass RX4 = some m.cls) (hz : zX A s s.heap) (hA : ∀ q : Nat, s.heap.size ≤ q → A q) (hK : va_K D vwCl [(cG, .array .int), (cI, .int)] s) (hg : ∀ i, i < 8 → ∃ y, og i = some y ∧ y ∈ LR) (kk : ∀ (H : Heap) (locs : List Loc), va_P D vwCl ([(tb, .inr (10, [.ref g, .int 0])), (g, .inl (cG, 8, .inr (.inr (.inr (.inr og)))))] ++ va_pl LR (zrow cI)) H → va_D A ([(tb, .inr (10, [.ref g, .int 0])), (g, .inl (cG, 8, .inr (.inr (.inr (.inr og)))))] ++ va_pl LR (zrow cI)) → va_S A s.heap H locs → ∀ ls : Array Slot, lv_has ls 3 [(0, .ref tb)] → W p l e (zR 0 0 0) s m args below meth c H locs 0 0 Q (F0 m 41 ls [])) : ∀ (n i : Nat), i ≤ 8 → 8 < i + n → ∀ (H : Heap) (locs : List Loc), va_P D vwCl ([(tb, .inr (10, [.ref g, .int 0])), (g, .inl (cG, 8, .inr (.inr (.inr (.inr og)))))] ++ va_pl LR (zrow cI)) H → va_D A ([(tb, .inr (10, [.ref g, .int 0])), (g, .inl (cG, 8, .inr (.inr (.inr (.inr og)))))] ++ va_pl LR (zrow cI)) → va_S A s.heap H locs → ∀ ls : Array Slot, lv_has ls 3 [(1, .int (nI i)), (0, .ref tb)] → W p l e (zR 0 0 0) s m args below meth c H locs 0 0 Q (F0 m 7 ls []) := by
  intro n
  induction n with
  | zero =>
    intro i h1 h2
    exact absurd h2 (by omega)
  | succ n ih =>
    intro i hi hn H locs hP hD hS ls hl
    rcases Nat.lt_or_ge i 8 with q | q
    · refine lv_iload_n hx hb dX4_clear_7 rfl (lv_at hl 0 rfl) ?_
      refine lv_bipush (v := 8) hx hb dX4_clear_8 (by decide) ?_
      refine lv_icmp_ge (tgt := 41) hx hb dX4_clear_10 (by decide) (fun c9 => absurd c9 (nI_ge q (by decide))) (fun _ => ?_)
      refine lv_iconst (v := 0) hx hb dX4_clear_13 (by decide) ?_
      refine lv_istore_n (lv' := [(2, .int 0), (1, .int (nI i)), (0, .ref tb)]) hx hb dX4_clear_14 rfl hl (by decide) rfl (fun ls hl => ?_)
      refine lv_iload_n hx hb dX4_clear_15 rfl (lv_at hl 0 rfl) ?_
      refine lv_iconst (v := 4) hx hb dX4_clear_16 (by decide) ?_
      refine lv_icmp_ge (tgt := 35) hx hb dX4_clear_17 (by decide) (fun c => absurd c (by decide)) (fun _ => ?_)
      refine lv_aload_n hx hb dX4_clear_20 rfl (lv_at hl 2 rfl) ?_
      refine va_get (D := D) (ci := 10) (v := .ref g) (C := RX4) (T := TX4) (N := 2) hx hb hts (by decide +kernel) hown hK hP 0 rfl rfl 0 (by decide) (hts (.fieldLink RX4 11 "HeatStadium$MedalTable" "counts" "[[I") (by decide +kernel)) (fun _ h9 => h9) rfl dX4_clear_21 ?_
      refine lv_iload_n hx hb dX4_clear_24 rfl (lv_at hl 1 rfl) ?_
      obtain ⟨y1, ey1, my1⟩ := hg i q
      obtain ⟨ky1, hy1⟩ := va_pl_get (X := [(tb, .inr (10, [.ref g, .int 0])), (g, .inl (cG, 8, .inr (.inr (.inr (.inr og)))))]) (f := zrow cI) my1
      refine zaldg hx hb hK hP 1 0 rfl rfl (vp_in_nI q (by decide)) dX4_clear_25 ?_
      rw [show (nI i).toNatClampNeg = i from nI_clamp (by omega), ey1]
      refine lv_iload_n hx hb dX4_clear_26 rfl (lv_at hl 0 rfl) ?_
      refine lv_iconst (v := 0) hx hb dX4_clear_27 (by decide) ?_
      refine va_iast hx hb hK hP hD hS ky1 1 hy1 rfl (show vp_in 0 4 by unfold vp_in; decide) dX4_clear_28 (fun H locs hP hD hS => ?_)
      rw [zSet0 hy1] at hP hD
      have hP : va_P D vwCl ([(tb, .inr (10, [.ref g, .int 0])), (g, .inl (cG, 8, .inr (.inr (.inr (.inr og)))))] ++ va_pl LR (zrow cI)) H := hP
      refine lv_iinc (v := 1) (lv' := [(2, .int 1), (1, .int (nI i)), (0, .ref tb)]) hx hb dX4_clear_29 hl (k := 0) rfl (by decide) (by decide) rfl (fun ls hl => ?_)
      refine lv_goto (tgt := 15) hx hb dX4_clear_32 (by decide) ?_
      refine lv_iload_n hx hb dX4_clear_15 rfl (lv_at hl 0 rfl) ?_
      refine lv_iconst (v := 4) hx hb dX4_clear_16 (by decide) ?_
      refine lv_icmp_ge (tgt := 35) hx hb dX4_clear_17 (by decide) (fun c => absurd c (by decide)) (fun _ => ?_)
      refine lv_aload_n hx hb dX4_clear_20 rfl (lv_at hl 2 rfl) ?_
      refine va_get (D := D) (ci := 10) (v := .ref g) (C := RX4) (T := TX4) (N := 2) hx hb hts (by decide +kernel) hown hK hP 0 rfl rfl 0 (by decide) (hts (.fieldLink RX4 11 "HeatStadium$MedalTable" "counts" "[[I") (by decide +kernel)) (fun _ h9 => h9) rfl dX4_clear_21 ?_
      refine lv_iload_n hx hb dX4_clear_24 rfl (lv_at hl 1 rfl) ?_
      obtain ⟨y2, ey2, my2⟩ := hg i q
      obtain ⟨ky2, hy2⟩ := va_pl_get (X := [(tb, .inr (10, [.ref g, .int 0])), (g, .inl (cG, 8, .inr (.inr (.inr (.inr og)))))]) (f := zrow cI) my2
      refine zaldg hx hb hK hP 1 0 rfl rfl (vp_in_nI q (by decide)) dX4_clear_25 ?_
      rw [show (nI i).toNatClampNeg = i from nI_clamp (by omega), ey2]
      refine lv_iload_n hx hb dX4_clear_26 rfl (lv_at hl 0 rfl) ?_
      refine lv_iconst (v := 0) hx hb dX4_clear_27 (by decide) ?_
      refine va_iast hx hb hK hP hD hS ky2 1 hy2 rfl (show vp_in 1 4 by unfold vp_in; decide) dX4_clear_28 (fun H locs hP hD hS => ?_)
      rw [zSet0 hy2] at hP hD
      have hP : va_P D vwCl ([(tb, .inr (10, [.ref g, .int 0])), (g, .inl (cG, 8, .inr (.inr (.inr (.inr og)))))] ++ va_pl LR (zrow cI)) H := hP
      refine lv_iinc (v := 2) (lv' := [(2, .int 2), (1, .int (nI i)), (0, .ref tb)]) hx hb dX4_clear_29 hl (k := 0) rfl (by decide) (by decide) rfl (fun ls hl => ?_)
      refine lv_goto (tgt := 15) hx hb dX4_clear_32 (by decide) ?_
      refine lv_iload_n hx hb dX4_clear_15 rfl (lv_at hl 0 rfl) ?_
      refine lv_iconst (v := 4) hx hb dX4_clear_16 (by decide) ?_
      refine lv_icmp_ge (tgt := 35) hx hb dX4_clear_17 (by decide) (fun c => absurd c (by decide)) (fun _ => ?_)
      refine lv_aload_n hx hb dX4_clear_20 rfl (lv_at hl 2 rfl) ?_
      refine va_get (D := D) (ci := 10) (v := .ref g) (C := RX4) (T := TX4) (N := 2) hx hb hts (by decide +kernel) hown hK hP 0 rfl rfl 0 (by decide) (hts (.fieldLink RX4 11 "HeatStadium$MedalTable" "counts" "[[I") (by decide +kernel)) (fun _ h9 => h9) rfl dX4_clear_21 ?_
      refine lv_iload_n hx hb dX4_clear_24 rfl (lv_at hl 1 rfl) ?_
      obtain ⟨y3, ey3, my3⟩ := hg i q
      obtain ⟨ky3, hy3⟩ := va_pl_get (X := [(tb, .inr (10, [.ref g, .int 0])), (g, .inl (cG, 8, .inr (.inr (.inr (.inr og)))))]) (f := zrow cI) my3
      refine zaldg hx hb hK hP 1 0 rfl rfl (vp_in_nI q (by decide)) dX4_clear_25 ?_
      rw [show (nI i).toNatClampNeg = i from nI_clamp (by omega), ey3]
      refine lv_iload_n hx hb dX4_clear_26 rfl (lv_at hl 0 rfl) ?_
      refine lv_iconst (v := 0) hx hb dX4_clear_27 (by decide) ?_
      refine va_iast hx hb hK hP hD hS ky3 1 hy3 rfl (show vp_in 2 4 by unfold vp_in; decide) dX4_clear_28 (fun H locs hP hD hS => ?_)
      rw [zSet0 hy3] at hP hD
      have hP : va_P D vwCl ([(tb, .inr (10, [.ref g, .int 0])), (g, .inl (cG, 8, .inr (.inr (.inr (.inr og)))))] ++ va_pl LR (zrow cI)) H := hP
      refine lv_iinc (v := 3) (lv' := [(2, .int 3), (1, .int (nI i)), (0, .ref tb)]) hx hb dX4_clear_29 hl (k := 0) rfl (by decide) (by decide) rfl (fun ls hl => ?_)
      refine lv_goto (tgt := 15) hx hb dX4_clear_32 (by decide) ?_
      refine lv_iload_n hx hb dX4_clear_15 rfl (lv_at hl 0 rfl) ?_
      refine lv_iconst (v := 4) hx hb dX4_clear_16 (by decide) ?_
      refine lv_icmp_ge (tgt := 35) hx hb dX4_clear_17 (by decide) (fun c => absurd c (by decide)) (fun _ => ?_)
      refine lv_aload_n hx hb dX4_clear_20 rfl (lv_at hl 2 rfl) ?_
      refine va_get (D := D) (ci := 10) (v := .ref g) (C := RX4) (T := TX4) (N := 2) hx hb hts (by decide +kernel) hown hK hP 0 rfl rfl 0 (by decide) (hts (.fieldLink RX4 11 "HeatStadium$MedalTable" "counts" "[[I") (by decide +kernel)) (fun _ h9 => h9) rfl dX4_clear_21 ?_
      refine lv_iload_n hx hb dX4_clear_24 rfl (lv_at hl 1 rfl) ?_
      obtain ⟨y4, ey4, my4⟩ := hg i q
      obtain ⟨ky4, hy4⟩ := va_pl_get (X := [(tb, .inr (10, [.ref g, .int 0])), (g, .inl (cG, 8, .inr (.inr (.inr (.inr og)))))]) (f := zrow cI) my4
      refine zaldg hx hb hK hP 1 0 rfl rfl (vp_in_nI q (by decide)) dX4_clear_25 ?_
      rw [show (nI i).toNatClampNeg = i from nI_clamp (by omega), ey4]
      refine lv_iload_n hx hb dX4_clear_26 rfl (lv_at hl 0 rfl) ?_
      refine lv_iconst (v := 0) hx hb dX4_clear_27 (by decide) ?_
      refine va_iast hx hb hK hP hD hS ky4 1 hy4 rfl (show vp_in 3 4 by unfold vp_in; decide) dX4_clear_28 (fun H locs hP hD hS => ?_)
      rw [zSet0 hy4] at hP hD
      have hP : va_P D vwCl ([(tb, .inr (10, [.ref g, .int 0])), (g, .inl (cG, 8, .inr (.inr (.inr (.inr og)))))] ++ va_pl LR (zrow cI)) H := hP
      refine lv_iinc (v := 4) (lv' := [(2, .int 4), (1, .int (nI i)), (0, .ref tb)]) hx hb dX4_clear_29 hl (k := 0) rfl (by decide) (by decide) rfl (fun ls hl => ?_)
      refine lv_goto (tgt := 15) hx hb dX4_clear_32 (by decide) ?_
      refine lv_iload_n hx hb dX4_clear_15 rfl (lv_at hl 0 rfl) ?_
      refine lv_iconst (v := 4) hx hb dX4_clear_16 (by decide) ?_
      refine lv_icmp_ge (tgt := 35) hx hb dX4_clear_17 (by decide) (fun _ => ?_) (fun c => absurd (by decide) c)
      refine lv_iinc (v := nI (i + 1)) (lv' := [(1, .int (nI (i + 1))), (2, .int 4), (0, .ref tb)]) hx hb dX4_clear_35 hl (k := 1) rfl (show nI i + Int32.ofInt 1 = nI (i + 1) from nI_1 i) (by decide) rfl (fun ls hl => ?_)
      refine lv_goto (tgt := 7) hx hb dX4_clear_38 (by decide) ?_
      exact ih (i + 1) (by omega) (by omega) H locs hP hD hS ls (lv_sub hl [0, 2] rfl)
    · obtain rfl : i = 8 := by omega
      refine lv_iload_n hx hb dX4_clear_7 rfl (lv_at hl 0 rfl) ?_
      refine lv_bipush (v := 8) hx hb dX4_clear_8 (by decide) ?_
      refine lv_icmp_ge (tgt := 41) hx hb dX4_clear_10 (by decide) (fun _ => ?_) (fun c9 => absurd (nI_le (Nat.le_refl _) (by decide)) c9)
      exact kk H locs hP hD hS ls (lv_sub hl [1] rfl)
set_option maxHeartbeats 4000000 in
set_option maxRecDepth 100000 in
/-- clear(): the table of nothing -/
theorem c_clear (l : Launch) (hst : l.stackTraces = false) (D : va_G) (sz : Nat) (tb g : Nat) (gv : Int32) (og : Nat → Option Nat) (LR : List Nat) (cG cI : ClassId) (hg : ∀ i, i < 8 → ∃ y, og i = some y ∧ y ∈ LR) : Met l yX4_clear zX4_clear_ws (zR 0 0 0) (zPre [.ref tb] D ([(tb, .inr (10, [.ref g, .int gv])), (g, .inl (cG, 8, .inr (.inr (.inr (.inr og)))))] ++ va_pl LR (zrow cI)) [(cG, .array .int), (cI, .int)] (va_A ([(tb, .inr (10, [.ref g, .int gv])), (g, .inl (cG, 8, .inr (.inr (.inr (.inr og)))))] ++ va_pl LR (zrow cI)) sz) sz) (va_Qv (S := Unit) (fun _ => True) (fun _ t => zAt D ([(tb, .inr (10, [.ref g, .int 0])), (g, .inl (cG, 8, .inr (.inr (.inr (.inr og)))))] ++ va_pl LR (zrow cI)) [(cG, .array .int), (cI, .int)] (va_A ([(tb, .inr (10, [.ref g, .int gv])), (g, .inl (cG, 8, .inr (.inr (.inr (.inr og)))))] ++ va_pl LR (zrow cI)) sz) t) (va_A ([(tb, .inr (10, [.ref g, .int gv])), (g, .inl (cG, 8, .inr (.inr (.inr (.inr og)))))] ++ va_pl LR (zrow cI)) sz)) 0 0 (va_A ([(tb, .inr (10, [.ref g, .int gv])), (g, .inl (cG, 8, .inr (.inr (.inr (.inr og)))))] ++ va_pl LR (zrow cI)) sz) := by
  refine Met.ofW (cc := cX4_clear) (maxL := 3) (ret := none) (by decide) rfl ?_
  intro p e s m args below meth c s₁ B hml hv
  obtain ⟨rfl, hsz, hP, hK, hD0, hz⟩ := hv
  have hx := B.exec
  have hb := B.bytes
  have hr := B.returns
  have hts := atoms_spec (ws := zX4_clear_ws) B.pre
  have hown : s.vm.findClass RX4 = some m.cls := findClass_of_methodNamed B.named
  have hlocks := B.notSynchronized
  subst hsz
  have hD := hD0.self (sz := s.heap.size)
  generalize hAe : va_A ([(tb, .inr (10, [.ref g, .int gv])), (g, .inl (cG, 8, .inr (.inr (.inr (.inr og)))))] ++ va_pl LR (zrow cI)) s.heap.size = A at hD hz ⊢
  have hA : ∀ q : Nat, s.heap.size ≤ q → A q := fun q h => by rw [← hAe]; exact Or.inr h
  have hS : va_S A s.heap s.heap [] := va_S.rf
  have hP : va_P D vwCl ([(tb, .inr (10, [.ref g, .int gv])), (g, .inl (cG, 8, .inr (.inr (.inr (.inr og)))))] ++ va_pl LR (zrow cI)) s.heap := hP
  have hl := lv_entry ([.ref tb]) (n := 3) (Nat.le_of_ble_eq_true rfl)
  rw [lg_entry_eq]
  generalize (lg_sl ([.ref tb]) ++ List.replicate (3 - (lg_sl ([.ref tb])).length) Slot.unset).toArray = ls at hl ⊢
  have hl : lv_has ls 3 [(0, .ref tb)] := hl
  refine lv_aload_n hx hb dX4_clear_0 rfl (lv_at hl 0 rfl) ?_
  refine lv_iconst (v := 0) hx hb dX4_clear_1 (by decide) ?_
  refine va_put (D := D) (ci := 10) (v := .int 0) (ty := .int) (C := RX4) (T := TX4) (N := 2) hx hb hts (by decide +kernel) tyX4 tyX4_ok nmX4 hown hK hP hD hS 0 rfl rfl 1 (by decide) (hts (.fieldLink RX4 16 "HeatStadium$MedalTable" "given" "I") (by decide +kernel)) (fun _ h9 => h9) rfl (by decide +kernel) rfl rfl (Nat.le_of_ble_eq_true rfl) dX4_clear_2 (fun H locs hP hD hS => ?_)
  have hP : va_P D vwCl ([(tb, .inr (10, [.ref g, .int 0])), (g, .inl (cG, 8, .inr (.inr (.inr (.inr og)))))] ++ va_pl LR (zrow cI)) H := hP
  have hD : va_D A ([(tb, .inr (10, [.ref g, .int 0])), (g, .inl (cG, 8, .inr (.inr (.inr (.inr og)))))] ++ va_pl LR (zrow cI)) := hD
  refine lv_iconst (v := 0) hx hb dX4_clear_5 (by decide) ?_
  refine lv_istore_n (lv' := [(1, .int 0), (0, .ref tb)]) hx hb dX4_clear_6 rfl hl (by decide) rfl (fun ls hl => ?_)
  refine lp_clear (A9 := A) hst D tb g og LR cG cI hx hb hml hts hown hz hA hK hg (fun H locs hP hD hS ls hl => ?_) 9 0 (by omega) (by omega) H _ hP hD hS ls (lv_sub hl [0, 1] rfl)
  have hP9 := hP.part (cx := [(tb, .inr (10, [.ref g, .int 0])), (g, .inl (cG, 8, .inr (.inr (.inr (.inr og)))))]) [0, 1] rfl
  have hD9 := hD.part (cx := [(tb, .inr (10, [.ref g, .int 0])), (g, .inl (cG, 8, .inr (.inr (.inr (.inr og)))))]) [0, 1] (by decide) rfl
  have hK9 := hK.sub (tys' := [(cG, .array .int), (cI, .int)]) [0, 1] rfl
  rw [← hAe] at hD9
  refine W.widen (k := 0) (n := 0) (by omega) (by omega) ?_
  subst hAe
  exact W.vret hx hb hr (fun t ht9 hW => ⟨⟨(), rfl, trivial, ⟨by rw [ht9]; exact hP9, va_K.moved hW.alike hK9, hD9⟩⟩, hS.F ht9⟩) hS.2.2 dX4_clear_41

theorem zin_nI {x : Int32} {n : Nat} (hn : n < 2 ^ 31) (h : zin x 0 (nI n) = 1) : ∃ i, i < n + 1 ∧ x = nI i := by
  obtain ⟨h1, h2⟩ := zin_1 h
  obtain ⟨j, hj, rfl⟩ := nI_of (Int32.not_lt.mpr h1)
  exact ⟨j, by have := (nI_leI hj hn).mp h2; omega, rfl⟩
theorem zin_7 {x : Int32} (h : zin x 0 7 = 1) : ∃ i, i < 8 ∧ x = nI i := zin_nI (n := 7) (by decide) h
theorem zin_3 {x : Int32} (h : zin x 0 3 = 1) : ∃ i, i < 4 ∧ x = nI i := zin_nI (n := 3) (by decide) h
def zX11_countMedals_ws : List Cond := .code yX11_countMedals cX11_countMedals 4 none :: ([.fieldLink RX11 60 "HeatStadium" "table" "LHeatStadium$MedalTable;", .instanceMethod yX4_clear, .selects RX4 yX4_clear yX4_clear, .initialized RX4, .fieldLink RX11 64 "HeatStadium" "eventCount" "I"] ++ (wsX110 ++ (zX4_clear_ws ++ ([]))))
theorem zX11_countMedals_ws_good : zX11_countMedals_ws.all goodWord = true := by decide +kernel
set_option maxHeartbeats 4000000 in
set_option maxRecDepth 100000 in
/-- countMedals of games without events -/
theorem c_countMedals (l : Launch) (hst : l.stackTraces = false) (D : va_G) (sz : Nat) (h0 : Nat) (a : Nat → Nat) (g : Nat) (gv : Int32) (og : Nat → Option Nat) (LR : List Nat) (cG cI : ClassId) (hg : ∀ i, i < 8 → ∃ y, og i = some y ∧ y ∈ LR) : Met l yX11_countMedals zX11_countMedals_ws (zR 1 0 0) (zPre [.ref h0] D ([(h0, .inr (17, zHS a)), ((a 7), .inr (10, [.ref g, .int gv])), (g, .inl (cG, 8, .inr (.inr (.inr (.inr og)))))] ++ va_pl LR (zrow cI)) [(cG, .array .int), (cI, .int)] (va_A ([(h0, .inr (17, zHS a)), ((a 7), .inr (10, [.ref g, .int gv])), (g, .inl (cG, 8, .inr (.inr (.inr (.inr og)))))] ++ va_pl LR (zrow cI)) sz) sz) (va_Qv (S := Unit) (fun _ => True) (fun _ t => zAt D ([(h0, .inr (17, zHS a)), ((a 7), .inr (10, [.ref g, .int 0])), (g, .inl (cG, 8, .inr (.inr (.inr (.inr og)))))] ++ va_pl LR (zrow cI)) [(cG, .array .int), (cI, .int)] (va_A ([(h0, .inr (17, zHS a)), ((a 7), .inr (10, [.ref g, .int gv])), (g, .inl (cG, 8, .inr (.inr (.inr (.inr og)))))] ++ va_pl LR (zrow cI)) sz) t) (va_A ([(h0, .inr (17, zHS a)), ((a 7), .inr (10, [.ref g, .int gv])), (g, .inl (cG, 8, .inr (.inr (.inr (.inr og)))))] ++ va_pl LR (zrow cI)) sz)) 0 0 (va_A ([(h0, .inr (17, zHS a)), ((a 7), .inr (10, [.ref g, .int gv])), (g, .inl (cG, 8, .inr (.inr (.inr (.inr og)))))] ++ va_pl LR (zrow cI)) sz) := by
  refine Met.ofW (cc := cX11_countMedals) (maxL := 4) (ret := none) (by decide) rfl ?_
  intro p e s m args below meth c s₁ B hml hv
  obtain ⟨rfl, hsz, hP, hK, hD0, hz⟩ := hv
  have hx := B.exec
  have hb := B.bytes
  have hr := B.returns
  have hts := atoms_spec (ws := zX11_countMedals_ws) B.pre
  have hown : s.vm.findClass RX11 = some m.cls := findClass_of_methodNamed B.named
  have hlocks := B.notSynchronized
  subst hsz
  have hD := hD0.self (sz := s.heap.size)
  generalize hAe : va_A ([(h0, .inr (17, zHS a)), ((a 7), .inr (10, [.ref g, .int gv])), (g, .inl (cG, 8, .inr (.inr (.inr (.inr og)))))] ++ va_pl LR (zrow cI)) s.heap.size = A at hD hz ⊢
  have hA : ∀ q : Nat, s.heap.size ≤ q → A q := fun q h => by rw [← hAe]; exact Or.inr h
  have hS : va_S A s.heap s.heap [] := va_S.rf
  have hP : va_P D vwCl ([(h0, .inr (17, zHS a)), ((a 7), .inr (10, [.ref g, .int gv])), (g, .inl (cG, 8, .inr (.inr (.inr (.inr og)))))] ++ va_pl LR (zrow cI)) s.heap := hP
  have hl := lv_entry ([.ref h0]) (n := 4) (Nat.le_of_ble_eq_true rfl)
  rw [lg_entry_eq]
  generalize (lg_sl ([.ref h0]) ++ List.replicate (4 - (lg_sl ([.ref h0])).length) Slot.unset).toArray = ls at hl ⊢
  have hl : lv_has ls 4 [(0, .ref h0)] := hl
  refine lv_aload_n hx hb dX11_countMedals_0 rfl (lv_at hl 0 rfl) ?_
  refine va_get (D := D) (ci := 17) (v := .ref (a 7)) (C := RX11) (T := TX11) (N := 11) hx hb hts (by decide +kernel) hown hK hP 0 rfl rfl 7 (by decide) (hts (.fieldLink RX11 60 "HeatStadium" "table" "LHeatStadium$MedalTable;") (by decide +kernel)) (fun _ h9 => h9) rfl dX11_countMedals_1 ?_
  have hPc := hP.part (cx := [((a 7), .inr (10, [.ref g, .int gv])), (g, .inl (cG, 8, .inr (.inr (.inr (.inr og)))))]) [1, 2] rfl
  have hDc := hD.part (cx := [((a 7), .inr (10, [.ref g, .int gv])), (g, .inl (cG, 8, .inr (.inr (.inr (.inr og)))))]) [1, 2] (by decide) rfl
  have hKc := hK.sub (tys' := [(cG, .array .int), (cI, .int)]) [0, 1] rfl
  have hFc := va_freeP (cx := [((a 7), .inr (10, [.ref g, .int gv])), (g, .inl (cG, 8, .inr (.inr (.inr (.inr og)))))]) hD hS hA [1, 2] rfl
  refine va_callv (va_runVN (As := []) (rest := []) ⟨hx, hb, hml, hown, hts⟩ (c_clear l hst D s.heap.size (a 7) g gv og LR cG cI hg) ⟨va_cnB 0 hts (goodIn_sub (fun _ h => List.mem_cons_of_mem _ (List.mem_append_right _ (List.mem_append_right _ (List.mem_append_left _ h)))) zX4_clear_ws_good) rfl rfl rfl (hz.2.2.1 (.methodLinkNest RX11 459 yX4_clear RX11) (by decide +kernel)) (hts (.initialized RX4) (by decide +kernel)) (by decide +kernel) ⟨Nat.le_of_ble_eq_true rfl, Nat.le_of_ble_eq_true rfl⟩, (hts (.instanceMethod yX4_clear) (by decide +kernel)), (hts (.selects RX4 yX4_clear yX4_clear) (by decide +kernel))⟩ ⟨zPre.blind, va_recv hKc hPc (ci := 10) (q0 := 0) rfl rfl, zPre.mk hPc hKc hDc hz hS (fun q h => hFc q h)⟩ rfl rfl hl.1 rfl (lv_room (Nat.le_of_ble_eq_true rfl)) dX11_countMedals_4 ⟨Nat.le_of_ble_eq_true rfl, Nat.le_of_ble_eq_true rfl⟩) hS (fun q _ h => hFc q h) (fun q h => hFc q h) (fun u t H1 locs ht9 hvm hw hB hz1 hk1 hS => ?_)
  refine W.widen (k := 0) (n := 0) (by omega) (by omega) ?_
  obtain ⟨hP1, hK1, hD1⟩ := hB
  rw [ht9] at hP1
  have hK1 := va_K.moved hvm.symm hK1
  obtain ⟨hP, hD⟩ := va_joinP (wr := [(h0, .inr (17, zHS a))]) (rx := [((a 7), .inr (10, [.ref g, .int 0])), (g, .inl (cG, 8, .inr (.inr (.inr (.inr og)))))]) (pl1 := va_pl LR (zrow cI)) hP hD [1, 2] [0] rfl rfl (by decide) (by decide) hk1 hFc hP1 hD1
  have hK := (hK.sub (tys' := []) [] rfl).app hK1
  generalize H1 = H at hP hS ⊢
  have hP : va_P D vwCl ([(h0, .inr (17, zHS a)), ((a 7), .inr (10, [.ref g, .int 0])), (g, .inl (cG, 8, .inr (.inr (.inr (.inr og)))))] ++ va_pl LR (zrow cI)) H := hP
  have hD : va_D A ([(h0, .inr (17, zHS a)), ((a 7), .inr (10, [.ref g, .int 0])), (g, .inl (cG, 8, .inr (.inr (.inr (.inr og)))))] ++ va_pl LR (zrow cI)) := hD
  have hK : va_K D vwCl [(cG, .array .int), (cI, .int)] s := hK
  refine lv_iconst (v := 0) hx hb dX11_countMedals_7 (by decide) ?_
  refine lv_istore_n (lv' := [(1, .int 0), (0, .ref h0)]) hx hb dX11_countMedals_8 rfl hl (by decide) rfl (fun ls hl => ?_)
  refine lv_iload_n hx hb dX11_countMedals_9 rfl (lv_at hl 0 rfl) ?_
  refine lv_aload_n hx hb dX11_countMedals_10 rfl (lv_at hl 1 rfl) ?_
  refine va_get (D := D) (ci := 17) (v := .int 0) (C := RX11) (T := TX11) (N := 11) hx hb hts (by decide +kernel) hown hK hP 0 rfl rfl 8 (by decide) (hts (.fieldLink RX11 64 "HeatStadium" "eventCount" "I") (by decide +kernel)) (fun _ h9 => h9) rfl dX11_countMedals_11 ?_
  refine lv_icmp_ge (tgt := 118) hx hb dX11_countMedals_14 (by decide) (fun _ => ?_) (fun c => absurd (by decide) c)
  have hP9 := hP.part (cx := [(h0, .inr (17, zHS a)), ((a 7), .inr (10, [.ref g, .int 0])), (g, .inl (cG, 8, .inr (.inr (.inr (.inr og)))))]) [0, 1, 2] rfl
  have hD9 := hD.part (cx := [(h0, .inr (17, zHS a)), ((a 7), .inr (10, [.ref g, .int 0])), (g, .inl (cG, 8, .inr (.inr (.inr (.inr og)))))]) [0, 1, 2] (by decide) rfl
  have hK9 := hK.sub (tys' := [(cG, .array .int), (cI, .int)]) [0, 1] rfl
  rw [← hAe] at hD9
  refine W.widen (k := 0) (n := 0) (by omega) (by omega) ?_
  subst hAe
  exact W.vret hx hb hr (fun t ht9 hW => ⟨⟨(), rfl, trivial, ⟨by rw [ht9]; exact hP9, va_K.moved hW.alike hK9, hD9⟩⟩, hS.F ht9⟩) hS.2.2 dX11_countMedals_118

def zX4_isAhead_ws : List Cond := .code yX4_isAhead cX4_isAhead 5 (some .boolean) :: ([.fieldLink RX4 11 "HeatStadium$MedalTable" "counts" "[[I"] ++ (wsX40 ++ ([])))
theorem zX4_isAhead_ws_good : zX4_isAhead_ws.all goodWord = true := by decide +kernel
set_option maxHeartbeats 4000000 in
set_option maxRecDepth 100000 in
/-- isAhead in a table of nothing: the lower number -/
theorem c_isAhead (l : Launch) (hst : l.stackTraces = false) (D : va_G) (sz : Nat) (tb g : Nat) (gv : Int32) (og : Nat → Option Nat) (LR : List Nat) (cG cI : ClassId) (i j : Nat) (x3 : Int32) (hg : ∀ i, i < 8 → ∃ y, og i = some y ∧ y ∈ LR) (hi : i < 8) (hj : j < 8) : Met l yX4_isAhead zX4_isAhead_ws (zR 0 0 0) (zPre [.ref tb, .int (nI i), .int (nI j), .int x3] D ([(tb, .inr (10, [.ref g, .int gv])), (g, .inl (cG, 8, .inr (.inr (.inr (.inr og)))))] ++ va_pl LR (zrow cI)) [(cG, .array .int), (cI, .int)] (fun q : Nat => sz ≤ q) sz) (va_Qi (S := Unit) (fun r _ => r = if nI i < nI j then 1 else 0) (fun _ _ => True) (fun q : Nat => sz ≤ q)) 0 0 (fun q : Nat => sz ≤ q) := by
  refine Met.ofW (cc := cX4_isAhead) (maxL := 5) (ret := (some .boolean)) (by decide) rfl ?_
  intro p e s m args below meth c s₁ B hml hv
  obtain ⟨rfl, hsz, hP, hK, hD0, hz⟩ := hv
  have hx := B.exec
  have hb := B.bytes
  have hr := B.returns
  have hts := atoms_spec (ws := zX4_isAhead_ws) B.pre
  have hown : s.vm.findClass RX4 = some m.cls := findClass_of_methodNamed B.named
  have hlocks := B.notSynchronized
  subst hsz
  obtain ⟨A, hAe⟩ : ∃ A : Nat → Prop, A = (fun q : Nat => s.heap.size ≤ q) := ⟨_, rfl⟩
  rw [← hAe] at hz ⊢
  have hA : ∀ q : Nat, s.heap.size ≤ q → A q := fun q h => by rw [hAe]; exact h
  have hD := hD0
  have hS : va_S A s.heap s.heap [] := va_S.rf
  have hP : va_P D vwCl ([(tb, .inr (10, [.ref g, .int gv])), (g, .inl (cG, 8, .inr (.inr (.inr (.inr og)))))] ++ va_pl LR (zrow cI)) s.heap := hP
  have hl := lv_entry ([.ref tb, .int (nI i), .int (nI j), .int x3]) (n := 5) (Nat.le_of_ble_eq_true rfl)
  rw [lg_entry_eq]
  generalize (lg_sl ([.ref tb, .int (nI i), .int (nI j), .int x3]) ++ List.replicate (5 - (lg_sl ([.ref tb, .int (nI i), .int (nI j), .int x3])).length) Slot.unset).toArray = ls at hl ⊢
  have hl : lv_has ls 5 [(0, .ref tb), (1, .int (nI i)), (2, .int (nI j)), (3, .int x3)] := hl
  refine lv_iload_n hx hb dX4_isAhead_0 rfl (lv_at hl 3 rfl) ?_
  refine lv_if_eq (tgt := 8) hx hb dX4_isAhead_1 (by decide) (fun c1 => ?_) (fun c1 => ?_)
  · refine lv_iconst (v := 1) hx hb dX4_isAhead_8 (by decide) ?_
    refine lv_istore (lv' := [(4, .int 1), (0, .ref tb), (1, .int (nI i)), (2, .int (nI j)), (3, .int x3)]) hx hb dX4_isAhead_9 hl (by decide) rfl (fun ls hl => ?_)
    refine lv_iload hx hb dX4_isAhead_11 (lv_at hl 0 rfl) ?_
    refine lv_iconst (v := 4) hx hb dX4_isAhead_13 (by decide) ?_
    refine lv_icmp_ge (tgt := 71) hx hb dX4_isAhead_14 (by decide) (fun c => absurd c (by decide)) (fun _ => ?_)
    refine lv_aload_n hx hb dX4_isAhead_17 rfl (lv_at hl 1 rfl) ?_
    refine va_get (D := D) (ci := 10) (v := .ref g) (C := RX4) (T := TX4) (N := 2) hx hb hts (by decide +kernel) hown hK hP 0 rfl rfl 0 (by decide) (hts (.fieldLink RX4 11 "HeatStadium$MedalTable" "counts" "[[I") (by decide +kernel)) (fun _ h9 => h9) rfl dX4_isAhead_18 ?_
    refine lv_iload_n hx hb dX4_isAhead_21 rfl (lv_at hl 2 rfl) ?_
    obtain ⟨y2, ey2, my2⟩ := hg i hi
    obtain ⟨ky2, hy2⟩ := va_pl_get (X := [(tb, .inr (10, [.ref g, .int gv])), (g, .inl (cG, 8, .inr (.inr (.inr (.inr og)))))]) (f := zrow cI) my2
    refine zaldg hx hb hK hP 1 0 rfl rfl (vp_in_nI hi (by decide)) dX4_isAhead_22 ?_
    rw [show (nI i).toNatClampNeg = i from nI_clamp (by omega), ey2]
    refine lv_iload hx hb dX4_isAhead_23 (lv_at hl 0 rfl) ?_
    refine va_iald hx hb hK hP ky2 1 hy2 rfl (show vp_in 1 4 by unfold vp_in; decide) dX4_isAhead_25 ?_
    refine lv_aload_n hx hb dX4_isAhead_26 rfl (lv_at hl 1 rfl) ?_
    refine va_get (D := D) (ci := 10) (v := .ref g) (C := RX4) (T := TX4) (N := 2) hx hb hts (by decide +kernel) hown hK hP 0 rfl rfl 0 (by decide) (hts (.fieldLink RX4 11 "HeatStadium$MedalTable" "counts" "[[I") (by decide +kernel)) (fun _ h9 => h9) rfl dX4_isAhead_27 ?_
    refine lv_iload_n hx hb dX4_isAhead_30 rfl (lv_at hl 3 rfl) ?_
    obtain ⟨y3, ey3, my3⟩ := hg j hj
    obtain ⟨ky3, hy3⟩ := va_pl_get (X := [(tb, .inr (10, [.ref g, .int gv])), (g, .inl (cG, 8, .inr (.inr (.inr (.inr og)))))]) (f := zrow cI) my3
    refine zaldg hx hb hK hP 1 0 rfl rfl (vp_in_nI hj (by decide)) dX4_isAhead_31 ?_
    rw [show (nI j).toNatClampNeg = j from nI_clamp (by omega), ey3]
    refine lv_iload hx hb dX4_isAhead_32 (lv_at hl 0 rfl) ?_
    refine va_iald hx hb hK hP ky3 1 hy3 rfl (show vp_in 1 4 by unfold vp_in; decide) dX4_isAhead_34 ?_
    refine lv_icmp_eq (tgt := 65) hx hb dX4_isAhead_35 (by decide) (fun _ => ?_) (fun c => absurd (by decide) c)
    refine lv_iinc (v := 2) (lv' := [(4, .int 2), (0, .ref tb), (1, .int (nI i)), (2, .int (nI j)), (3, .int x3)]) hx hb dX4_isAhead_65 hl (k := 0) rfl (by decide) (by decide) rfl (fun ls hl => ?_)
    refine lv_goto (tgt := 11) hx hb dX4_isAhead_68 (by decide) ?_
    refine lv_iload hx hb dX4_isAhead_11 (lv_at hl 0 rfl) ?_
    refine lv_iconst (v := 4) hx hb dX4_isAhead_13 (by decide) ?_
    refine lv_icmp_ge (tgt := 71) hx hb dX4_isAhead_14 (by decide) (fun c => absurd c (by decide)) (fun _ => ?_)
    refine lv_aload_n hx hb dX4_isAhead_17 rfl (lv_at hl 1 rfl) ?_
    refine va_get (D := D) (ci := 10) (v := .ref g) (C := RX4) (T := TX4) (N := 2) hx hb hts (by decide +kernel) hown hK hP 0 rfl rfl 0 (by decide) (hts (.fieldLink RX4 11 "HeatStadium$MedalTable" "counts" "[[I") (by decide +kernel)) (fun _ h9 => h9) rfl dX4_isAhead_18 ?_
    refine lv_iload_n hx hb dX4_isAhead_21 rfl (lv_at hl 2 rfl) ?_
    obtain ⟨y4, ey4, my4⟩ := hg i hi
    obtain ⟨ky4, hy4⟩ := va_pl_get (X := [(tb, .inr (10, [.ref g, .int gv])), (g, .inl (cG, 8, .inr (.inr (.inr (.inr og)))))]) (f := zrow cI) my4
    refine zaldg hx hb hK hP 1 0 rfl rfl (vp_in_nI hi (by decide)) dX4_isAhead_22 ?_
    rw [show (nI i).toNatClampNeg = i from nI_clamp (by omega), ey4]
    refine lv_iload hx hb dX4_isAhead_23 (lv_at hl 0 rfl) ?_
    refine va_iald hx hb hK hP ky4 1 hy4 rfl (show vp_in 2 4 by unfold vp_in; decide) dX4_isAhead_25 ?_
    refine lv_aload_n hx hb dX4_isAhead_26 rfl (lv_at hl 1 rfl) ?_
    refine va_get (D := D) (ci := 10) (v := .ref g) (C := RX4) (T := TX4) (N := 2) hx hb hts (by decide +kernel) hown hK hP 0 rfl rfl 0 (by decide) (hts (.fieldLink RX4 11 "HeatStadium$MedalTable" "counts" "[[I") (by decide +kernel)) (fun _ h9 => h9) rfl dX4_isAhead_27 ?_
    refine lv_iload_n hx hb dX4_isAhead_30 rfl (lv_at hl 3 rfl) ?_
    obtain ⟨y5, ey5, my5⟩ := hg j hj
    obtain ⟨ky5, hy5⟩ := va_pl_get (X := [(tb, .inr (10, [.ref g, .int gv])), (g, .inl (cG, 8, .inr (.inr (.inr (.inr og)))))]) (f := zrow cI) my5
    refine zaldg hx hb hK hP 1 0 rfl rfl (vp_in_nI hj (by decide)) dX4_isAhead_31 ?_
    rw [show (nI j).toNatClampNeg = j from nI_clamp (by omega), ey5]
    refine lv_iload hx hb dX4_isAhead_32 (lv_at hl 0 rfl) ?_
    refine va_iald hx hb hK hP ky5 1 hy5 rfl (show vp_in 2 4 by unfold vp_in; decide) dX4_isAhead_34 ?_
    refine lv_icmp_eq (tgt := 65) hx hb dX4_isAhead_35 (by decide) (fun _ => ?_) (fun c => absurd (by decide) c)
    refine lv_iinc (v := 3) (lv' := [(4, .int 3), (0, .ref tb), (1, .int (nI i)), (2, .int (nI j)), (3, .int x3)]) hx hb dX4_isAhead_65 hl (k := 0) rfl (by decide) (by decide) rfl (fun ls hl => ?_)
    refine lv_goto (tgt := 11) hx hb dX4_isAhead_68 (by decide) ?_
    refine lv_iload hx hb dX4_isAhead_11 (lv_at hl 0 rfl) ?_
    refine lv_iconst (v := 4) hx hb dX4_isAhead_13 (by decide) ?_
    refine lv_icmp_ge (tgt := 71) hx hb dX4_isAhead_14 (by decide) (fun c => absurd c (by decide)) (fun _ => ?_)
    refine lv_aload_n hx hb dX4_isAhead_17 rfl (lv_at hl 1 rfl) ?_
    refine va_get (D := D) (ci := 10) (v := .ref g) (C := RX4) (T := TX4) (N := 2) hx hb hts (by decide +kernel) hown hK hP 0 rfl rfl 0 (by decide) (hts (.fieldLink RX4 11 "HeatStadium$MedalTable" "counts" "[[I") (by decide +kernel)) (fun _ h9 => h9) rfl dX4_isAhead_18 ?_
    refine lv_iload_n hx hb dX4_isAhead_21 rfl (lv_at hl 2 rfl) ?_
    obtain ⟨y6, ey6, my6⟩ := hg i hi
    obtain ⟨ky6, hy6⟩ := va_pl_get (X := [(tb, .inr (10, [.ref g, .int gv])), (g, .inl (cG, 8, .inr (.inr (.inr (.inr og)))))]) (f := zrow cI) my6
    refine zaldg hx hb hK hP 1 0 rfl rfl (vp_in_nI hi (by decide)) dX4_isAhead_22 ?_
    rw [show (nI i).toNatClampNeg = i from nI_clamp (by omega), ey6]
    refine lv_iload hx hb dX4_isAhead_23 (lv_at hl 0 rfl) ?_
    refine va_iald hx hb hK hP ky6 1 hy6 rfl (show vp_in 3 4 by unfold vp_in; decide) dX4_isAhead_25 ?_
    refine lv_aload_n hx hb dX4_isAhead_26 rfl (lv_at hl 1 rfl) ?_
    refine va_get (D := D) (ci := 10) (v := .ref g) (C := RX4) (T := TX4) (N := 2) hx hb hts (by decide +kernel) hown hK hP 0 rfl rfl 0 (by decide) (hts (.fieldLink RX4 11 "HeatStadium$MedalTable" "counts" "[[I") (by decide +kernel)) (fun _ h9 => h9) rfl dX4_isAhead_27 ?_
    refine lv_iload_n hx hb dX4_isAhead_30 rfl (lv_at hl 3 rfl) ?_
    obtain ⟨y7, ey7, my7⟩ := hg j hj
    obtain ⟨ky7, hy7⟩ := va_pl_get (X := [(tb, .inr (10, [.ref g, .int gv])), (g, .inl (cG, 8, .inr (.inr (.inr (.inr og)))))]) (f := zrow cI) my7
    refine zaldg hx hb hK hP 1 0 rfl rfl (vp_in_nI hj (by decide)) dX4_isAhead_31 ?_
    rw [show (nI j).toNatClampNeg = j from nI_clamp (by omega), ey7]
    refine lv_iload hx hb dX4_isAhead_32 (lv_at hl 0 rfl) ?_
    refine va_iald hx hb hK hP ky7 1 hy7 rfl (show vp_in 3 4 by unfold vp_in; decide) dX4_isAhead_34 ?_
    refine lv_icmp_eq (tgt := 65) hx hb dX4_isAhead_35 (by decide) (fun _ => ?_) (fun c => absurd (by decide) c)
    refine lv_iinc (v := 4) (lv' := [(4, .int 4), (0, .ref tb), (1, .int (nI i)), (2, .int (nI j)), (3, .int x3)]) hx hb dX4_isAhead_65 hl (k := 0) rfl (by decide) (by decide) rfl (fun ls hl => ?_)
    refine lv_goto (tgt := 11) hx hb dX4_isAhead_68 (by decide) ?_
    refine lv_iload hx hb dX4_isAhead_11 (lv_at hl 0 rfl) ?_
    refine lv_iconst (v := 4) hx hb dX4_isAhead_13 (by decide) ?_
    refine lv_icmp_ge (tgt := 71) hx hb dX4_isAhead_14 (by decide) (fun _ => ?_) (fun c => absurd (by decide) c)
    refine lv_iload_n hx hb dX4_isAhead_71 rfl (lv_at hl 2 rfl) ?_
    refine lv_iload_n hx hb dX4_isAhead_72 rfl (lv_at hl 3 rfl) ?_
    refine lv_icmp_ge (tgt := 80) hx hb dX4_isAhead_73 (by decide) (fun c8 => ?_) (fun c8 => ?_)
    · refine lv_iconst (v := 0) hx hb dX4_isAhead_80 (by decide) ?_
      refine W.widen (k := 0) (n := 0) (by omega) (by omega) ?_
      exact W.zret (v := 0) hx hb hr rfl (fun t ht9 hW => ⟨⟨0, (), rfl, (if_neg (Int32.not_lt.mpr c8)).symm, trivial⟩, hS.F ht9⟩) hS.2.2 dX4_isAhead_81
    · refine lv_iconst (v := 1) hx hb dX4_isAhead_76 (by decide) ?_
      refine lv_goto (tgt := 81) hx hb dX4_isAhead_77 (by decide) ?_
      refine W.widen (k := 0) (n := 0) (by omega) (by omega) ?_
      exact W.zret (v := 1) hx hb hr rfl (fun t ht9 hW => ⟨⟨1, (), rfl, (if_pos (Int32.not_le.mp c8)).symm, trivial⟩, hS.F ht9⟩) hS.2.2 dX4_isAhead_81
  · refine lv_iconst (v := 0) hx hb dX4_isAhead_4 (by decide) ?_
    refine lv_goto (tgt := 9) hx hb dX4_isAhead_5 (by decide) ?_
    refine lv_istore (lv' := [(4, .int 0), (0, .ref tb), (1, .int (nI i)), (2, .int (nI j)), (3, .int x3)]) hx hb dX4_isAhead_9 hl (by decide) rfl (fun ls hl => ?_)
    refine lv_iload hx hb dX4_isAhead_11 (lv_at hl 0 rfl) ?_
    refine lv_iconst (v := 4) hx hb dX4_isAhead_13 (by decide) ?_
    refine lv_icmp_ge (tgt := 71) hx hb dX4_isAhead_14 (by decide) (fun c => absurd c (by decide)) (fun _ => ?_)
    refine lv_aload_n hx hb dX4_isAhead_17 rfl (lv_at hl 1 rfl) ?_
    refine va_get (D := D) (ci := 10) (v := .ref g) (C := RX4) (T := TX4) (N := 2) hx hb hts (by decide +kernel) hown hK hP 0 rfl rfl 0 (by decide) (hts (.fieldLink RX4 11 "HeatStadium$MedalTable" "counts" "[[I") (by decide +kernel)) (fun _ h9 => h9) rfl dX4_isAhead_18 ?_
    refine lv_iload_n hx hb dX4_isAhead_21 rfl (lv_at hl 2 rfl) ?_
    obtain ⟨y9, ey9, my9⟩ := hg i hi
    obtain ⟨ky9, hy9⟩ := va_pl_get (X := [(tb, .inr (10, [.ref g, .int gv])), (g, .inl (cG, 8, .inr (.inr (.inr (.inr og)))))]) (f := zrow cI) my9
    refine zaldg hx hb hK hP 1 0 rfl rfl (vp_in_nI hi (by decide)) dX4_isAhead_22 ?_
    rw [show (nI i).toNatClampNeg = i from nI_clamp (by omega), ey9]
    refine lv_iload hx hb dX4_isAhead_23 (lv_at hl 0 rfl) ?_
    refine va_iald hx hb hK hP ky9 1 hy9 rfl (show vp_in 0 4 by unfold vp_in; decide) dX4_isAhead_25 ?_
    refine lv_aload_n hx hb dX4_isAhead_26 rfl (lv_at hl 1 rfl) ?_
    refine va_get (D := D) (ci := 10) (v := .ref g) (C := RX4) (T := TX4) (N := 2) hx hb hts (by decide +kernel) hown hK hP 0 rfl rfl 0 (by decide) (hts (.fieldLink RX4 11 "HeatStadium$MedalTable" "counts" "[[I") (by decide +kernel)) (fun _ h9 => h9) rfl dX4_isAhead_27 ?_
    refine lv_iload_n hx hb dX4_isAhead_30 rfl (lv_at hl 3 rfl) ?_
    obtain ⟨y10, ey10, my10⟩ := hg j hj
    obtain ⟨ky10, hy10⟩ := va_pl_get (X := [(tb, .inr (10, [.ref g, .int gv])), (g, .inl (cG, 8, .inr (.inr (.inr (.inr og)))))]) (f := zrow cI) my10
    refine zaldg hx hb hK hP 1 0 rfl rfl (vp_in_nI hj (by decide)) dX4_isAhead_31 ?_
    rw [show (nI j).toNatClampNeg = j from nI_clamp (by omega), ey10]
    refine lv_iload hx hb dX4_isAhead_32 (lv_at hl 0 rfl) ?_
    refine va_iald hx hb hK hP ky10 1 hy10 rfl (show vp_in 0 4 by unfold vp_in; decide) dX4_isAhead_34 ?_
    refine lv_icmp_eq (tgt := 65) hx hb dX4_isAhead_35 (by decide) (fun _ => ?_) (fun c => absurd (by decide) c)
    refine lv_iinc (v := 1) (lv' := [(4, .int 1), (0, .ref tb), (1, .int (nI i)), (2, .int (nI j)), (3, .int x3)]) hx hb dX4_isAhead_65 hl (k := 0) rfl (by decide) (by decide) rfl (fun ls hl => ?_)
    refine lv_goto (tgt := 11) hx hb dX4_isAhead_68 (by decide) ?_
    refine lv_iload hx hb dX4_isAhead_11 (lv_at hl 0 rfl) ?_
    refine lv_iconst (v := 4) hx hb dX4_isAhead_13 (by decide) ?_
    refine lv_icmp_ge (tgt := 71) hx hb dX4_isAhead_14 (by decide) (fun c => absurd c (by decide)) (fun _ => ?_)
    refine lv_aload_n hx hb dX4_isAhead_17 rfl (lv_at hl 1 rfl) ?_
    refine va_get (D := D) (ci := 10) (v := .ref g) (C := RX4) (T := TX4) (N := 2) hx hb hts (by decide +kernel) hown hK hP 0 rfl rfl 0 (by decide) (hts (.fieldLink RX4 11 "HeatStadium$MedalTable" "counts" "[[I") (by decide +kernel)) (fun _ h9 => h9) rfl dX4_isAhead_18 ?_
    refine lv_iload_n hx hb dX4_isAhead_21 rfl (lv_at hl 2 rfl) ?_
    obtain ⟨y11, ey11, my11⟩ := hg i hi
    obtain ⟨ky11, hy11⟩ := va_pl_get (X := [(tb, .inr (10, [.ref g, .int gv])), (g, .inl (cG, 8, .inr (.inr (.inr (.inr og)))))]) (f := zrow cI) my11
    refine zaldg hx hb hK hP 1 0 rfl rfl (vp_in_nI hi (by decide)) dX4_isAhead_22 ?_
    rw [show (nI i).toNatClampNeg = i from nI_clamp (by omega), ey11]
    refine lv_iload hx hb dX4_isAhead_23 (lv_at hl 0 rfl) ?_
    refine va_iald hx hb hK hP ky11 1 hy11 rfl (show vp_in 1 4 by unfold vp_in; decide) dX4_isAhead_25 ?_
    refine lv_aload_n hx hb dX4_isAhead_26 rfl (lv_at hl 1 rfl) ?_
    refine va_get (D := D) (ci := 10) (v := .ref g) (C := RX4) (T := TX4) (N := 2) hx hb hts (by decide +kernel) hown hK hP 0 rfl rfl 0 (by decide) (hts (.fieldLink RX4 11 "HeatStadium$MedalTable" "counts" "[[I") (by decide +kernel)) (fun _ h9 => h9) rfl dX4_isAhead_27 ?_
    refine lv_iload_n hx hb dX4_isAhead_30 rfl (lv_at hl 3 rfl) ?_
    obtain ⟨y12, ey12, my12⟩ := hg j hj
    obtain ⟨ky12, hy12⟩ := va_pl_get (X := [(tb, .inr (10, [.ref g, .int gv])), (g, .inl (cG, 8, .inr (.inr (.inr (.inr og)))))]) (f := zrow cI) my12
    refine zaldg hx hb hK hP 1 0 rfl rfl (vp_in_nI hj (by decide)) dX4_isAhead_31 ?_
    rw [show (nI j).toNatClampNeg = j from nI_clamp (by omega), ey12]
    refine lv_iload hx hb dX4_isAhead_32 (lv_at hl 0 rfl) ?_
    refine va_iald hx hb hK hP ky12 1 hy12 rfl (show vp_in 1 4 by unfold vp_in; decide) dX4_isAhead_34 ?_
    refine lv_icmp_eq (tgt := 65) hx hb dX4_isAhead_35 (by decide) (fun _ => ?_) (fun c => absurd (by decide) c)
    refine lv_iinc (v := 2) (lv' := [(4, .int 2), (0, .ref tb), (1, .int (nI i)), (2, .int (nI j)), (3, .int x3)]) hx hb dX4_isAhead_65 hl (k := 0) rfl (by decide) (by decide) rfl (fun ls hl => ?_)
    refine lv_goto (tgt := 11) hx hb dX4_isAhead_68 (by decide) ?_
    refine lv_iload hx hb dX4_isAhead_11 (lv_at hl 0 rfl) ?_
    refine lv_iconst (v := 4) hx hb dX4_isAhead_13 (by decide) ?_
    refine lv_icmp_ge (tgt := 71) hx hb dX4_isAhead_14 (by decide) (fun c => absurd c (by decide)) (fun _ => ?_)
    refine lv_aload_n hx hb dX4_isAhead_17 rfl (lv_at hl 1 rfl) ?_
    refine va_get (D := D) (ci := 10) (v := .ref g) (C := RX4) (T := TX4) (N := 2) hx hb hts (by decide +kernel) hown hK hP 0 rfl rfl 0 (by decide) (hts (.fieldLink RX4 11 "HeatStadium$MedalTable" "counts" "[[I") (by decide +kernel)) (fun _ h9 => h9) rfl dX4_isAhead_18 ?_
    refine lv_iload_n hx hb dX4_isAhead_21 rfl (lv_at hl 2 rfl) ?_
    obtain ⟨y13, ey13, my13⟩ := hg i hi
    obtain ⟨ky13, hy13⟩ := va_pl_get (X := [(tb, .inr (10, [.ref g, .int gv])), (g, .inl (cG, 8, .inr (.inr (.inr (.inr og)))))]) (f := zrow cI) my13
    refine zaldg hx hb hK hP 1 0 rfl rfl (vp_in_nI hi (by decide)) dX4_isAhead_22 ?_
    rw [show (nI i).toNatClampNeg = i from nI_clamp (by omega), ey13]
    refine lv_iload hx hb dX4_isAhead_23 (lv_at hl 0 rfl) ?_
    refine va_iald hx hb hK hP ky13 1 hy13 rfl (show vp_in 2 4 by unfold vp_in; decide) dX4_isAhead_25 ?_
    refine lv_aload_n hx hb dX4_isAhead_26 rfl (lv_at hl 1 rfl) ?_
    refine va_get (D := D) (ci := 10) (v := .ref g) (C := RX4) (T := TX4) (N := 2) hx hb hts (by decide +kernel) hown hK hP 0 rfl rfl 0 (by decide) (hts (.fieldLink RX4 11 "HeatStadium$MedalTable" "counts" "[[I") (by decide +kernel)) (fun _ h9 => h9) rfl dX4_isAhead_27 ?_
    refine lv_iload_n hx hb dX4_isAhead_30 rfl (lv_at hl 3 rfl) ?_
    obtain ⟨y14, ey14, my14⟩ := hg j hj
    obtain ⟨ky14, hy14⟩ := va_pl_get (X := [(tb, .inr (10, [.ref g, .int gv])), (g, .inl (cG, 8, .inr (.inr (.inr (.inr og)))))]) (f := zrow cI) my14
    refine zaldg hx hb hK hP 1 0 rfl rfl (vp_in_nI hj (by decide)) dX4_isAhead_31 ?_
    rw [show (nI j).toNatClampNeg = j from nI_clamp (by omega), ey14]
    refine lv_iload hx hb dX4_isAhead_32 (lv_at hl 0 rfl) ?_
    refine va_iald hx hb hK hP ky14 1 hy14 rfl (show vp_in 2 4 by unfold vp_in; decide) dX4_isAhead_34 ?_
    refine lv_icmp_eq (tgt := 65) hx hb dX4_isAhead_35 (by decide) (fun _ => ?_) (fun c => absurd (by decide) c)
    refine lv_iinc (v := 3) (lv' := [(4, .int 3), (0, .ref tb), (1, .int (nI i)), (2, .int (nI j)), (3, .int x3)]) hx hb dX4_isAhead_65 hl (k := 0) rfl (by decide) (by decide) rfl (fun ls hl => ?_)
    refine lv_goto (tgt := 11) hx hb dX4_isAhead_68 (by decide) ?_
    refine lv_iload hx hb dX4_isAhead_11 (lv_at hl 0 rfl) ?_
    refine lv_iconst (v := 4) hx hb dX4_isAhead_13 (by decide) ?_
    refine lv_icmp_ge (tgt := 71) hx hb dX4_isAhead_14 (by decide) (fun c => absurd c (by decide)) (fun _ => ?_)
    refine lv_aload_n hx hb dX4_isAhead_17 rfl (lv_at hl 1 rfl) ?_
    refine va_get (D := D) (ci := 10) (v := .ref g) (C := RX4) (T := TX4) (N := 2) hx hb hts (by decide +kernel) hown hK hP 0 rfl rfl 0 (by decide) (hts (.fieldLink RX4 11 "HeatStadium$MedalTable" "counts" "[[I") (by decide +kernel)) (fun _ h9 => h9) rfl dX4_isAhead_18 ?_
    refine lv_iload_n hx hb dX4_isAhead_21 rfl (lv_at hl 2 rfl) ?_
    obtain ⟨y15, ey15, my15⟩ := hg i hi
    obtain ⟨ky15, hy15⟩ := va_pl_get (X := [(tb, .inr (10, [.ref g, .int gv])), (g, .inl (cG, 8, .inr (.inr (.inr (.inr og)))))]) (f := zrow cI) my15
    refine zaldg hx hb hK hP 1 0 rfl rfl (vp_in_nI hi (by decide)) dX4_isAhead_22 ?_
    rw [show (nI i).toNatClampNeg = i from nI_clamp (by omega), ey15]
    refine lv_iload hx hb dX4_isAhead_23 (lv_at hl 0 rfl) ?_
    refine va_iald hx hb hK hP ky15 1 hy15 rfl (show vp_in 3 4 by unfold vp_in; decide) dX4_isAhead_25 ?_
    refine lv_aload_n hx hb dX4_isAhead_26 rfl (lv_at hl 1 rfl) ?_
    refine va_get (D := D) (ci := 10) (v := .ref g) (C := RX4) (T := TX4) (N := 2) hx hb hts (by decide +kernel) hown hK hP 0 rfl rfl 0 (by decide) (hts (.fieldLink RX4 11 "HeatStadium$MedalTable" "counts" "[[I") (by decide +kernel)) (fun _ h9 => h9) rfl dX4_isAhead_27 ?_
    refine lv_iload_n hx hb dX4_isAhead_30 rfl (lv_at hl 3 rfl) ?_
    obtain ⟨y16, ey16, my16⟩ := hg j hj
    obtain ⟨ky16, hy16⟩ := va_pl_get (X := [(tb, .inr (10, [.ref g, .int gv])), (g, .inl (cG, 8, .inr (.inr (.inr (.inr og)))))]) (f := zrow cI) my16
    refine zaldg hx hb hK hP 1 0 rfl rfl (vp_in_nI hj (by decide)) dX4_isAhead_31 ?_
    rw [show (nI j).toNatClampNeg = j from nI_clamp (by omega), ey16]
    refine lv_iload hx hb dX4_isAhead_32 (lv_at hl 0 rfl) ?_
    refine va_iald hx hb hK hP ky16 1 hy16 rfl (show vp_in 3 4 by unfold vp_in; decide) dX4_isAhead_34 ?_
    refine lv_icmp_eq (tgt := 65) hx hb dX4_isAhead_35 (by decide) (fun _ => ?_) (fun c => absurd (by decide) c)
    refine lv_iinc (v := 4) (lv' := [(4, .int 4), (0, .ref tb), (1, .int (nI i)), (2, .int (nI j)), (3, .int x3)]) hx hb dX4_isAhead_65 hl (k := 0) rfl (by decide) (by decide) rfl (fun ls hl => ?_)
    refine lv_goto (tgt := 11) hx hb dX4_isAhead_68 (by decide) ?_
    refine lv_iload hx hb dX4_isAhead_11 (lv_at hl 0 rfl) ?_
    refine lv_iconst (v := 4) hx hb dX4_isAhead_13 (by decide) ?_
    refine lv_icmp_ge (tgt := 71) hx hb dX4_isAhead_14 (by decide) (fun _ => ?_) (fun c => absurd (by decide) c)
    refine lv_iload_n hx hb dX4_isAhead_71 rfl (lv_at hl 2 rfl) ?_
    refine lv_iload_n hx hb dX4_isAhead_72 rfl (lv_at hl 3 rfl) ?_
    refine lv_icmp_ge (tgt := 80) hx hb dX4_isAhead_73 (by decide) (fun c17 => ?_) (fun c17 => ?_)
    · refine lv_iconst (v := 0) hx hb dX4_isAhead_80 (by decide) ?_
      refine W.widen (k := 0) (n := 0) (by omega) (by omega) ?_
      exact W.zret (v := 0) hx hb hr rfl (fun t ht9 hW => ⟨⟨0, (), rfl, (if_neg (Int32.not_lt.mpr c17)).symm, trivial⟩, hS.F ht9⟩) hS.2.2 dX4_isAhead_81
    · refine lv_iconst (v := 1) hx hb dX4_isAhead_76 (by decide) ?_
      refine lv_goto (tgt := 81) hx hb dX4_isAhead_77 (by decide) ?_
      refine W.widen (k := 0) (n := 0) (by omega) (by omega) ?_
      exact W.zret (v := 1) hx hb hr rfl (fun t ht9 hW => ⟨⟨1, (), rfl, (if_pos (Int32.not_le.mp c17)).symm, trivial⟩, hS.F ht9⟩) hS.2.2 dX4_isAhead_81

def zX4_nationAt_ws : List Cond := .code yX4_nationAt cX4_nationAt 6 (some .int) :: ([.methodLink RX4 20 yX4_isAhead, .instanceMethod yX4_isAhead, .selects RX4 yX4_isAhead yX4_isAhead, .initialized RX4] ++ (zX4_isAhead_ws ++ ([])))
theorem zX4_nationAt_ws_good : zX4_nationAt_ws.all goodWord = true := by decide +kernel
set_option maxHeartbeats 4000000 in
set_option maxRecDepth 100000 in
/-- nationAt: how many are ahead of the nation k -/
theorem lp_nationIn {p : Program} {l : Launch} {e : Env} {s : State} {m : MethodId} {args : Array Value} {below : List Frame} {meth : Method} {c : Code} {A A9 : Nat → Prop} {Q : State → Prop} (hst : l.stackTraces = false) (D : va_G) (tb g : Nat) (gv : Int32) (og : Nat → Option Nat) (LR : List Nat) (cG cI : ClassId) (x1 x2 : Int32) (k : Nat) (hx : p.tables.exec = Jvm.exec) (hb : c.code = cX4_nationAt) (hml : c.maxLocals = 6) (hts : ∀ w ∈ zX4_nationAt_ws, w.before args s = true) (hown : s.vm.findClass RX4 = some m.cls) (hz : zX A s s.heap) (hA : ∀ q : Nat, s.heap.size ≤ q → A q) (hK : va_K D vwCl [(cG, .array .int), (cI, .int)] s) (hg : ∀ i, i < 8 → ∃ y, og i = some y ∧ y ∈ LR) (hk : k < 8) (kk : ∀ (H : Heap) (locs : List Loc), va_P D vwCl ([(tb, .inr (10, [.ref g, .int gv])), (g, .inl (cG, 8, .inr (.inr (.inr (.inr og)))))] ++ va_pl LR (zrow cI)) H → va_D A9 ([(tb, .inr (10, [.ref g, .int gv])), (g, .inl (cG, 8, .inr (.inr (.inr (.inr og)))))] ++ va_pl LR (zrow cI)) → va_S A s.heap H locs → ∀ ls : Array Slot, lv_has ls 6 [(0, .ref tb), (1, .int x1), (2, .int x2), (3, .int (nI k)), (4, .int (nI k))] → W p l e (zR 1 0 0) s m args below meth c H locs 0 0 Q (F0 m 41 ls [])) : ∀ (n i : Nat), i ≤ 8 → 8 < i + n → ∀ (H : Heap) (locs : List Loc), va_P D vwCl ([(tb, .inr (10, [.ref g, .int gv])), (g, .inl (cG, 8, .inr (.inr (.inr (.inr og)))))] ++ va_pl LR (zrow cI)) H → va_D A9 ([(tb, .inr (10, [.ref g, .int gv])), (g, .inl (cG, 8, .inr (.inr (.inr (.inr og)))))] ++ va_pl LR (zrow cI)) → va_S A s.heap H locs → ∀ ls : Array Slot, lv_has ls 6 [(0, .ref tb), (1, .int x1), (2, .int x2), (3, .int (nI k)), (4, .int (nI (min i k))), (5, .int (nI i))] → W p l e (zR 1 0 0) s m args below meth c H locs 0 0 Q (F0 m 14 ls []) := by
  intro n
  induction n with
  | zero =>
    intro i h1 h2
    exact absurd h2 (by omega)
  | succ n ih =>
    intro i hi hn H locs hP hD hS ls hl
    rcases Nat.lt_or_ge i 8 with q | q
    · refine lv_iload hx hb dX4_nationAt_14 (lv_at hl 5 rfl) ?_
      refine lv_bipush (v := 8) hx hb dX4_nationAt_16 (by decide) ?_
      refine lv_icmp_ge (tgt := 41) hx hb dX4_nationAt_18 (by decide) (fun c9 => absurd c9 (nI_ge q (by decide))) (fun _ => ?_)
      refine lv_aload_n hx hb dX4_nationAt_21 rfl (lv_at hl 0 rfl) ?_
      refine lv_iload hx hb dX4_nationAt_22 (lv_at hl 5 rfl) ?_
      refine lv_iload_n hx hb dX4_nationAt_24 rfl (lv_at hl 3 rfl) ?_
      refine lv_iload_n hx hb dX4_nationAt_25 rfl (lv_at hl 2 rfl) ?_
      have hPc := hP.part (cx := [(tb, .inr (10, [.ref g, .int gv])), (g, .inl (cG, 8, .inr (.inr (.inr (.inr og)))))]) [0, 1] rfl
      have hDc := hD.part (cx := [(tb, .inr (10, [.ref g, .int gv])), (g, .inl (cG, 8, .inr (.inr (.inr (.inr og)))))]) [0, 1] (by decide) rfl
      have hKc := hK.sub (tys' := [(cG, .array .int), (cI, .int)]) [0, 1] rfl
      have hFc : ∀ q : Nat, H.size ≤ q → A q := fun q h => hA q (Nat.le_trans hS.1 h)
      refine va_calli (va_runV (As := [.int (nI i), .int (nI k), .int x2]) (rest := []) ⟨hx, hb, hml, hown, hts⟩ (c_isAhead l hst D H.size tb g gv og LR cG cI i k x2 hg q hk) (cwV 3 hts (goodIn_app (goodIn_of _ (by decide +kernel)) (goodIn_sub (fun _ h => List.mem_cons_of_mem _ (List.mem_append_right _ (List.mem_append_left _ h))) zX4_isAhead_ws_good)) rfl rfl rfl (by decide +kernel) ⟨Nat.le_of_ble_eq_true rfl, Nat.le_of_ble_eq_true rfl⟩) ⟨zPre.blind, va_recv hKc hPc (ci := 10) (q0 := 0) rfl rfl, zPre.mk hPc hKc hDc hz hS (fun q h => hFc q h)⟩ rfl rfl hl.1 rfl (lv_room (Nat.le_of_ble_eq_true rfl)) dX4_nationAt_26 ⟨Nat.le_of_ble_eq_true rfl, Nat.le_of_ble_eq_true rfl⟩) hS (fun q _ h => hFc q h) (fun q h => hFc q h) (fun r9 u t H1 locs ht9 hvm hw hB hz1 hk1 hS => ?_)
      refine W.widen (k := 0) (n := 0) (by omega) (by omega) ?_
      have hP := zKeep hP hk1
      generalize H1 = H at hP hS ⊢
      have hP : va_P D vwCl ([(tb, .inr (10, [.ref g, .int gv])), (g, .inl (cG, 8, .inr (.inr (.inr (.inr og)))))] ++ va_pl LR (zrow cI)) H := hP
      rcases Nat.lt_or_ge i k with q2 | q2
      · have e9 : r9 = 1 := hw.trans (if_pos (nI_lt q2 (by omega)))
        refine lv_if_eq (tgt := 35) hx hb dX4_nationAt_29 (by decide) (fun c9 => absurd (e9.symm.trans c9) (by decide)) (fun _ => ?_)
        refine lv_iinc (v := nI (min i k + 1)) (lv' := [(4, .int (nI (min i k + 1))), (0, .ref tb), (1, .int x1), (2, .int x2), (3, .int (nI k)), (5, .int (nI i))]) hx hb dX4_nationAt_32 hl (k := 4) rfl (show nI (min i k) + Int32.ofInt 1 = nI (min i k + 1) from nI_1 _) (by decide) rfl (fun ls hl => ?_)
        rw [show min i k + 1 = min (i + 1) k by omega] at hl
        refine lv_iinc (v := nI (i + 1)) (lv' := [(5, .int (nI (i + 1))), (4, .int (nI (min (i + 1) k))), (0, .ref tb), (1, .int x1), (2, .int x2), (3, .int (nI k))]) hx hb dX4_nationAt_35 hl (k := 5) rfl (show nI i + Int32.ofInt 1 = nI (i + 1) from nI_1 i) (by decide) rfl (fun ls hl => ?_)
        refine lv_goto (tgt := 14) hx hb dX4_nationAt_38 (by decide) ?_
        exact ih (i + 1) (by omega) (by omega) H locs hP hD hS ls (lv_sub hl [2, 3, 4, 5, 1, 0] rfl)
      · have e9 : r9 = 0 := hw.trans (if_neg (nI_nlt q2 (by omega)))
        refine lv_if_eq (tgt := 35) hx hb dX4_nationAt_29 (by decide) (fun _ => ?_) (fun c9 => absurd e9 c9)
        rw [show min i k = min (i + 1) k by omega] at hl
        refine lv_iinc (v := nI (i + 1)) (lv' := [(5, .int (nI (i + 1))), (0, .ref tb), (1, .int x1), (2, .int x2), (3, .int (nI k)), (4, .int (nI (min (i + 1) k)))]) hx hb dX4_nationAt_35 hl (k := 5) rfl (show nI i + Int32.ofInt 1 = nI (i + 1) from nI_1 i) (by decide) rfl (fun ls hl => ?_)
        refine lv_goto (tgt := 14) hx hb dX4_nationAt_38 (by decide) ?_
        exact ih (i + 1) (by omega) (by omega) H locs hP hD hS ls (lv_sub hl [1, 2, 3, 4, 5, 0] rfl)
    · obtain rfl : i = 8 := by omega
      rw [show min 8 k = k by omega] at hl
      refine lv_iload hx hb dX4_nationAt_14 (lv_at hl 5 rfl) ?_
      refine lv_bipush (v := 8) hx hb dX4_nationAt_16 (by decide) ?_
      refine lv_icmp_ge (tgt := 41) hx hb dX4_nationAt_18 (by decide) (fun _ => ?_) (fun c9 => absurd (nI_le (Nat.le_refl _) (by decide)) c9)
      exact kk H locs hP hD hS ls (lv_sub hl [0, 1, 2, 3, 4] rfl)
set_option maxHeartbeats 4000000 in
set_option maxRecDepth 100000 in
/-- nationAt: the nation idx is found -/
theorem lp_nationOut {p : Program} {l : Launch} {e : Env} {s : State} {m : MethodId} {args : Array Value} {below : List Frame} {meth : Method} {c : Code} {A A9 : Nat → Prop} {Q : State → Prop} (hst : l.stackTraces = false) (D : va_G) (tb g : Nat) (gv : Int32) (og : Nat → Option Nat) (LR : List Nat) (cG cI : ClassId) (x2 : Int32) (idx : Nat) (hx : p.tables.exec = Jvm.exec) (hb : c.code = cX4_nationAt) (hml : c.maxLocals = 6) (hts : ∀ w ∈ zX4_nationAt_ws, w.before args s = true) (hown : s.vm.findClass RX4 = some m.cls) (hz : zX A s s.heap) (hA : ∀ q : Nat, s.heap.size ≤ q → A q) (hK : va_K D vwCl [(cG, .array .int), (cI, .int)] s) (hg : ∀ i, i < 8 → ∃ y, og i = some y ∧ y ∈ LR) (hidx : idx < 8) (kr : ∀ (H : Heap) (locs : List Loc), va_P D vwCl ([(tb, .inr (10, [.ref g, .int gv])), (g, .inl (cG, 8, .inr (.inr (.inr (.inr og)))))] ++ va_pl LR (zrow cI)) H → va_D A9 ([(tb, .inr (10, [.ref g, .int gv])), (g, .inl (cG, 8, .inr (.inr (.inr (.inr og)))))] ++ va_pl LR (zrow cI)) → va_S A s.heap H locs → ∀ ls : Array Slot, W p l e (zR 1 0 0) s m args below meth c H locs 0 0 Q (F0 m 48 ls [.int (nI idx)])) : ∀ (n i : Nat), i ≤ idx → idx < i + n → ∀ (H : Heap) (locs : List Loc), va_P D vwCl ([(tb, .inr (10, [.ref g, .int gv])), (g, .inl (cG, 8, .inr (.inr (.inr (.inr og)))))] ++ va_pl LR (zrow cI)) H → va_D A9 ([(tb, .inr (10, [.ref g, .int gv])), (g, .inl (cG, 8, .inr (.inr (.inr (.inr og)))))] ++ va_pl LR (zrow cI)) → va_S A s.heap H locs → ∀ ls : Array Slot, lv_has ls 6 [(3, .int (nI i)), (0, .ref tb), (1, .int (nI idx)), (2, .int x2)] → W p l e (zR 1 0 0) s m args below meth c H locs 0 0 Q (F0 m 2 ls []) := by
  intro n
  induction n with
  | zero =>
    intro i h1 h2
    exact absurd h2 (by omega)
  | succ n ih =>
    intro i hi hn H locs hP hD hS ls hl
    rcases Nat.lt_or_ge i idx with q | q
    · refine lv_iload_n hx hb dX4_nationAt_2 rfl (lv_at hl 0 rfl) ?_
      refine lv_bipush (v := 8) hx hb dX4_nationAt_3 (by decide) ?_
      refine lv_icmp_ge (tgt := 55) hx hb dX4_nationAt_5 (by decide) (fun c9 => absurd c9 (nI_ge (by omega : i < 8) (by decide))) (fun _ => ?_)
      refine lv_iconst (v := 0) hx hb dX4_nationAt_8 (by decide) ?_
      refine lv_istore (lv' := [(4, .int 0), (3, .int (nI i)), (0, .ref tb), (1, .int (nI idx)), (2, .int x2)]) hx hb dX4_nationAt_9 hl (by decide) rfl (fun ls hl => ?_)
      refine lv_iconst (v := 0) hx hb dX4_nationAt_11 (by decide) ?_
      refine lv_istore (lv' := [(5, .int 0), (4, .int 0), (3, .int (nI i)), (0, .ref tb), (1, .int (nI idx)), (2, .int x2)]) hx hb dX4_nationAt_12 hl (by decide) rfl (fun ls hl => ?_)
      refine lp_nationIn (A9 := A9) hst D tb g gv og LR cG cI (nI idx) x2 i hx hb hml hts hown hz hA hK hg (by omega) (fun H locs hP hD hS ls hl => ?_) 9 0 (by omega) (by omega) H _ hP hD hS ls (by rw [show min 0 i = 0 by omega]; exact lv_sub hl [3, 4, 5, 2, 1, 0] rfl)
      refine lv_iload hx hb dX4_nationAt_41 (lv_at hl 4 rfl) ?_
      refine lv_iload_n hx hb dX4_nationAt_43 rfl (lv_at hl 1 rfl) ?_
      refine lv_icmp_ne (tgt := 49) hx hb dX4_nationAt_44 (by decide) (fun _ => ?_) (fun c9 => absurd ((nI_eq (by omega) (by omega)).mp c9) (by omega))
      refine lv_iinc (v := nI (i + 1)) (lv' := [(3, .int (nI (i + 1))), (0, .ref tb), (1, .int (nI idx)), (2, .int x2), (4, .int (nI i))]) hx hb dX4_nationAt_49 hl (k := 3) rfl (show nI i + Int32.ofInt 1 = nI (i + 1) from nI_1 i) (by decide) rfl (fun ls hl => ?_)
      refine lv_goto (tgt := 2) hx hb dX4_nationAt_52 (by decide) ?_
      exact ih (i + 1) (by omega) (by omega) H locs hP hD hS ls (lv_sub hl [0, 1, 2, 3] rfl)
    · obtain rfl : idx = i := by omega
      refine lv_iload_n hx hb dX4_nationAt_2 rfl (lv_at hl 0 rfl) ?_
      refine lv_bipush (v := 8) hx hb dX4_nationAt_3 (by decide) ?_
      refine lv_icmp_ge (tgt := 55) hx hb dX4_nationAt_5 (by decide) (fun c9 => absurd c9 (nI_ge (by omega : idx < 8) (by decide))) (fun _ => ?_)
      refine lv_iconst (v := 0) hx hb dX4_nationAt_8 (by decide) ?_
      refine lv_istore (lv' := [(4, .int 0), (3, .int (nI idx)), (0, .ref tb), (1, .int (nI idx)), (2, .int x2)]) hx hb dX4_nationAt_9 hl (by decide) rfl (fun ls hl => ?_)
      refine lv_iconst (v := 0) hx hb dX4_nationAt_11 (by decide) ?_
      refine lv_istore (lv' := [(5, .int 0), (4, .int 0), (3, .int (nI idx)), (0, .ref tb), (1, .int (nI idx)), (2, .int x2)]) hx hb dX4_nationAt_12 hl (by decide) rfl (fun ls hl => ?_)
      refine lp_nationIn (A9 := A9) hst D tb g gv og LR cG cI (nI idx) x2 idx hx hb hml hts hown hz hA hK hg (by omega) (fun H locs hP hD hS ls hl => ?_) 9 0 (by omega) (by omega) H _ hP hD hS ls (by rw [show min 0 idx = 0 by omega]; exact lv_sub hl [3, 4, 5, 2, 1, 0] rfl)
      refine lv_iload hx hb dX4_nationAt_41 (lv_at hl 4 rfl) ?_
      refine lv_iload_n hx hb dX4_nationAt_43 rfl (lv_at hl 1 rfl) ?_
      refine lv_icmp_ne (tgt := 49) hx hb dX4_nationAt_44 (by decide) (fun c9 => absurd rfl c9) (fun _ => ?_)
      refine lv_iload_n hx hb dX4_nationAt_47 rfl (lv_at hl 3 rfl) ?_
      exact kr H locs hP hD hS ls
set_option maxHeartbeats 4000000 in
set_option maxRecDepth 100000 in
/-- nationAt in a table of nothing: the number itself -/
theorem c_nationAt (l : Launch) (hst : l.stackTraces = false) (D : va_G) (sz : Nat) (tb g : Nat) (gv : Int32) (og : Nat → Option Nat) (LR : List Nat) (cG cI : ClassId) (x1 x2 : Int32) (hg : ∀ i, i < 8 → ∃ y, og i = some y ∧ y ∈ LR) (h : zin x1 0 7 = 1) : Met l yX4_nationAt zX4_nationAt_ws (zR 1 0 0) (zPre [.ref tb, .int x1, .int x2] D ([(tb, .inr (10, [.ref g, .int gv])), (g, .inl (cG, 8, .inr (.inr (.inr (.inr og)))))] ++ va_pl LR (zrow cI)) [(cG, .array .int), (cI, .int)] (fun q : Nat => sz ≤ q) sz) (va_Qi (S := Unit) (fun r _ => r = x1) (fun _ _ => True) (fun q : Nat => sz ≤ q)) 0 0 (fun q : Nat => sz ≤ q) := by
  obtain ⟨idx, hidx, rfl⟩ := zin_7 h
  refine Met.ofW (cc := cX4_nationAt) (maxL := 6) (ret := (some .int)) (by decide) rfl ?_
  intro p e s m args below meth c s₁ B hml hv
  obtain ⟨rfl, hsz, hP, hK, hD0, hz⟩ := hv
  have hx := B.exec
  have hb := B.bytes
  have hr := B.returns
  have hts := atoms_spec (ws := zX4_nationAt_ws) B.pre
  have hown : s.vm.findClass RX4 = some m.cls := findClass_of_methodNamed B.named
  have hlocks := B.notSynchronized
  subst hsz
  obtain ⟨A, hAe⟩ : ∃ A : Nat → Prop, A = (fun q : Nat => s.heap.size ≤ q) := ⟨_, rfl⟩
  rw [← hAe] at hz ⊢
  have hA : ∀ q : Nat, s.heap.size ≤ q → A q := fun q h => by rw [hAe]; exact h
  have hD := hD0
  have hS : va_S A s.heap s.heap [] := va_S.rf
  have hP : va_P D vwCl ([(tb, .inr (10, [.ref g, .int gv])), (g, .inl (cG, 8, .inr (.inr (.inr (.inr og)))))] ++ va_pl LR (zrow cI)) s.heap := hP
  have hl := lv_entry ([.ref tb, .int (nI idx), .int x2]) (n := 6) (Nat.le_of_ble_eq_true rfl)
  rw [lg_entry_eq]
  generalize (lg_sl ([.ref tb, .int (nI idx), .int x2]) ++ List.replicate (6 - (lg_sl ([.ref tb, .int (nI idx), .int x2])).length) Slot.unset).toArray = ls at hl ⊢
  have hl : lv_has ls 6 [(0, .ref tb), (1, .int (nI idx)), (2, .int x2)] := hl
  refine lv_iconst (v := 0) hx hb dX4_nationAt_0 (by decide) ?_
  refine lv_istore_n (lv' := [(3, .int 0), (0, .ref tb), (1, .int (nI idx)), (2, .int x2)]) hx hb dX4_nationAt_1 rfl hl (by decide) rfl (fun ls hl => ?_)
  refine lp_nationOut (A9 := fun _ => True) hst D tb g gv og LR cG cI x2 idx hx hb hml hts hown hz hA hK hg hidx (fun H locs hP hD hS ls => ?_) 9 0 (by omega) (by omega) s.heap _ hP hD hS ls (lv_sub hl [0, 1, 2, 3] rfl)
  refine W.widen (k := 0) (n := 0) (by omega) (by omega) ?_
  exact W.iret (v := (nI idx)) hx hb hr (fun t ht9 hW => ⟨⟨(nI idx), (), rfl, rfl, trivial⟩, hS.F ht9⟩) hS.2.2 dX4_nationAt_48

def zX4_sumOfNations_ws : List Cond := .code yX4_sumOfNations cX4_sumOfNations 3 (some .int) :: ([.fieldLink RX4 11 "HeatStadium$MedalTable" "counts" "[[I"] ++ (wsX40 ++ ([])))
theorem zX4_sumOfNations_ws_good : zX4_sumOfNations_ws.all goodWord = true := by decide +kernel
set_option maxHeartbeats 4000000 in
set_option maxRecDepth 100000 in
/-- sumOfNations: its loop -/
theorem lp_sum {p : Program} {l : Launch} {e : Env} {s : State} {m : MethodId} {args : Array Value} {below : List Frame} {meth : Method} {c : Code} {A A9 : Nat → Prop} {Q : State → Prop} (hst : l.stackTraces = false) (D : va_G) (tb g : Nat) (gv : Int32) (og : Nat → Option Nat) (LR : List Nat) (cG cI : ClassId) (hx : p.tables.exec = Jvm.exec) (hb : c.code = cX4_sumOfNations) (hml : c.maxLocals = 3) (hts : ∀ w ∈ zX4_sumOfNations_ws, w.before args s = true) (hown : s.vm.findClass RX4 = some m.cls) (hz : zX A s s.heap) (hA : ∀ q : Nat, s.heap.size ≤ q → A q) (hK : va_K D vwCl [(cG, .array .int), (cI, .int)] s) (hg : ∀ i, i < 8 → ∃ y, og i = some y ∧ y ∈ LR) (kk : ∀ (H : Heap) (locs : List Loc), va_P D vwCl ([(tb, .inr (10, [.ref g, .int gv])), (g, .inl (cG, 8, .inr (.inr (.inr (.inr og)))))] ++ va_pl LR (zrow cI)) H → va_D A9 ([(tb, .inr (10, [.ref g, .int gv])), (g, .inl (cG, 8, .inr (.inr (.inr (.inr og)))))] ++ va_pl LR (zrow cI)) → va_S A s.heap H locs → ∀ ls : Array Slot, lv_has ls 3 [(1, .int 0)] → W p l e (zR 0 0 0) s m args below meth c H locs 0 0 Q (F0 m 45 ls [])) : ∀ (n i : Nat), i ≤ 8 → 8 < i + n → ∀ (H : Heap) (locs : List Loc), va_P D vwCl ([(tb, .inr (10, [.ref g, .int gv])), (g, .inl (cG, 8, .inr (.inr (.inr (.inr og)))))] ++ va_pl LR (zrow cI)) H → va_D A9 ([(tb, .inr (10, [.ref g, .int gv])), (g, .inl (cG, 8, .inr (.inr (.inr (.inr og)))))] ++ va_pl LR (zrow cI)) → va_S A s.heap H locs → ∀ ls : Array Slot, lv_has ls 3 [(2, .int (nI i)), (1, .int 0), (0, .ref tb)] → W p l e (zR 0 0 0) s m args below meth c H locs 0 0 Q (F0 m 4 ls []) := by
  intro n
  induction n with
  | zero =>
    intro i h1 h2
    exact absurd h2 (by omega)
  | succ n ih =>
    intro i hi hn H locs hP hD hS ls hl
    rcases Nat.lt_or_ge i 8 with q | q
    · refine lv_iload_n hx hb dX4_sumOfNations_4 rfl (lv_at hl 0 rfl) ?_
      refine lv_bipush (v := 8) hx hb dX4_sumOfNations_5 (by decide) ?_
      refine lv_icmp_ge (tgt := 45) hx hb dX4_sumOfNations_7 (by decide) (fun c9 => absurd c9 (nI_ge q (by decide))) (fun _ => ?_)
      refine lv_iload_n hx hb dX4_sumOfNations_10 rfl (lv_at hl 1 rfl) ?_
      refine lv_aload_n hx hb dX4_sumOfNations_11 rfl (lv_at hl 2 rfl) ?_
      refine va_get (D := D) (ci := 10) (v := .ref g) (C := RX4) (T := TX4) (N := 2) hx hb hts (by decide +kernel) hown hK hP 0 rfl rfl 0 (by decide) (hts (.fieldLink RX4 11 "HeatStadium$MedalTable" "counts" "[[I") (by decide +kernel)) (fun _ h9 => h9) rfl dX4_sumOfNations_12 ?_
      refine lv_iload_n hx hb dX4_sumOfNations_15 rfl (lv_at hl 0 rfl) ?_
      obtain ⟨y1, ey1, my1⟩ := hg i q
      obtain ⟨ky1, hy1⟩ := va_pl_get (X := [(tb, .inr (10, [.ref g, .int gv])), (g, .inl (cG, 8, .inr (.inr (.inr (.inr og)))))]) (f := zrow cI) my1
      refine zaldg hx hb hK hP 1 0 rfl rfl (vp_in_nI q (by decide)) dX4_sumOfNations_16 ?_
      rw [show (nI i).toNatClampNeg = i from nI_clamp (by omega), ey1]
      refine lv_iconst (v := 1) hx hb dX4_sumOfNations_17 (by decide) ?_
      refine va_iald hx hb hK hP ky1 1 hy1 rfl (show vp_in 1 4 by unfold vp_in; decide) dX4_sumOfNations_18 ?_
      refine lv_aload_n hx hb dX4_sumOfNations_19 rfl (lv_at hl 2 rfl) ?_
      refine va_get (D := D) (ci := 10) (v := .ref g) (C := RX4) (T := TX4) (N := 2) hx hb hts (by decide +kernel) hown hK hP 0 rfl rfl 0 (by decide) (hts (.fieldLink RX4 11 "HeatStadium$MedalTable" "counts" "[[I") (by decide +kernel)) (fun _ h9 => h9) rfl dX4_sumOfNations_20 ?_
      refine lv_iload_n hx hb dX4_sumOfNations_23 rfl (lv_at hl 0 rfl) ?_
      obtain ⟨y2, ey2, my2⟩ := hg i q
      obtain ⟨ky2, hy2⟩ := va_pl_get (X := [(tb, .inr (10, [.ref g, .int gv])), (g, .inl (cG, 8, .inr (.inr (.inr (.inr og)))))]) (f := zrow cI) my2
      refine zaldg hx hb hK hP 1 0 rfl rfl (vp_in_nI q (by decide)) dX4_sumOfNations_24 ?_
      rw [show (nI i).toNatClampNeg = i from nI_clamp (by omega), ey2]
      refine lv_iconst (v := 2) hx hb dX4_sumOfNations_25 (by decide) ?_
      refine va_iald hx hb hK hP ky2 1 hy2 rfl (show vp_in 2 4 by unfold vp_in; decide) dX4_sumOfNations_26 ?_
      refine lv_iadd hx hb dX4_sumOfNations_27 ?_
      refine lv_topi (fun z3 ez3 => ?_)
      obtain rfl : z3 = 0 := ez3.trans (by decide)
      refine lv_aload_n hx hb dX4_sumOfNations_28 rfl (lv_at hl 2 rfl) ?_
      refine va_get (D := D) (ci := 10) (v := .ref g) (C := RX4) (T := TX4) (N := 2) hx hb hts (by decide +kernel) hown hK hP 0 rfl rfl 0 (by decide) (hts (.fieldLink RX4 11 "HeatStadium$MedalTable" "counts" "[[I") (by decide +kernel)) (fun _ h9 => h9) rfl dX4_sumOfNations_29 ?_
      refine lv_iload_n hx hb dX4_sumOfNations_32 rfl (lv_at hl 0 rfl) ?_
      obtain ⟨y4, ey4, my4⟩ := hg i q
      obtain ⟨ky4, hy4⟩ := va_pl_get (X := [(tb, .inr (10, [.ref g, .int gv])), (g, .inl (cG, 8, .inr (.inr (.inr (.inr og)))))]) (f := zrow cI) my4
      refine zaldg hx hb hK hP 1 0 rfl rfl (vp_in_nI q (by decide)) dX4_sumOfNations_33 ?_
      rw [show (nI i).toNatClampNeg = i from nI_clamp (by omega), ey4]
      refine lv_iconst (v := 3) hx hb dX4_sumOfNations_34 (by decide) ?_
      refine va_iald hx hb hK hP ky4 1 hy4 rfl (show vp_in 3 4 by unfold vp_in; decide) dX4_sumOfNations_35 ?_
      refine lv_iadd hx hb dX4_sumOfNations_36 ?_
      refine lv_topi (fun z5 ez5 => ?_)
      obtain rfl : z5 = 0 := ez5.trans (by decide)
      refine lv_iadd hx hb dX4_sumOfNations_37 ?_
      refine lv_topi (fun z6 ez6 => ?_)
      obtain rfl : z6 = 0 := ez6.trans (by decide)
      refine lv_istore_n (lv' := [(1, .int 0), (2, .int (nI i)), (0, .ref tb)]) hx hb dX4_sumOfNations_38 rfl hl (by decide) rfl (fun ls hl => ?_)
      refine lv_iinc (v := nI (i + 1)) (lv' := [(2, .int (nI (i + 1))), (1, .int 0), (0, .ref tb)]) hx hb dX4_sumOfNations_39 hl (k := 1) rfl (show nI i + Int32.ofInt 1 = nI (i + 1) from nI_1 i) (by decide) rfl (fun ls hl => ?_)
      refine lv_goto (tgt := 4) hx hb dX4_sumOfNations_42 (by decide) ?_
      exact ih (i + 1) (by omega) (by omega) H locs hP hD hS ls (lv_sub hl [0, 1, 2] rfl)
    · obtain rfl : i = 8 := by omega
      refine lv_iload_n hx hb dX4_sumOfNations_4 rfl (lv_at hl 0 rfl) ?_
      refine lv_bipush (v := 8) hx hb dX4_sumOfNations_5 (by decide) ?_
      refine lv_icmp_ge (tgt := 45) hx hb dX4_sumOfNations_7 (by decide) (fun _ => ?_) (fun c9 => absurd (nI_le (Nat.le_refl _) (by decide)) c9)
      exact kk H locs hP hD hS ls (lv_sub hl [1] rfl)
set_option maxHeartbeats 4000000 in
set_option maxRecDepth 100000 in
/-- sumOfNations of a table of nothing: 0 -/
theorem c_sum (l : Launch) (hst : l.stackTraces = false) (D : va_G) (sz : Nat) (tb g : Nat) (gv : Int32) (og : Nat → Option Nat) (LR : List Nat) (cG cI : ClassId) (hg : ∀ i, i < 8 → ∃ y, og i = some y ∧ y ∈ LR) : Met l yX4_sumOfNations zX4_sumOfNations_ws (zR 0 0 0) (zPre [.ref tb] D ([(tb, .inr (10, [.ref g, .int gv])), (g, .inl (cG, 8, .inr (.inr (.inr (.inr og)))))] ++ va_pl LR (zrow cI)) [(cG, .array .int), (cI, .int)] (fun q : Nat => sz ≤ q) sz) (va_Qi (S := Unit) (fun r _ => r = 0) (fun _ _ => True) (fun q : Nat => sz ≤ q)) 0 0 (fun q : Nat => sz ≤ q) := by
  refine Met.ofW (cc := cX4_sumOfNations) (maxL := 3) (ret := (some .int)) (by decide) rfl ?_
  intro p e s m args below meth c s₁ B hml hv
  obtain ⟨rfl, hsz, hP, hK, hD0, hz⟩ := hv
  have hx := B.exec
  have hb := B.bytes
  have hr := B.returns
  have hts := atoms_spec (ws := zX4_sumOfNations_ws) B.pre
  have hown : s.vm.findClass RX4 = some m.cls := findClass_of_methodNamed B.named
  have hlocks := B.notSynchronized
  subst hsz
  obtain ⟨A, hAe⟩ : ∃ A : Nat → Prop, A = (fun q : Nat => s.heap.size ≤ q) := ⟨_, rfl⟩
  rw [← hAe] at hz ⊢
  have hA : ∀ q : Nat, s.heap.size ≤ q → A q := fun q h => by rw [hAe]; exact h
  have hD := hD0
  have hS : va_S A s.heap s.heap [] := va_S.rf
  have hP : va_P D vwCl ([(tb, .inr (10, [.ref g, .int gv])), (g, .inl (cG, 8, .inr (.inr (.inr (.inr og)))))] ++ va_pl LR (zrow cI)) s.heap := hP
  have hl := lv_entry ([.ref tb]) (n := 3) (Nat.le_of_ble_eq_true rfl)
  rw [lg_entry_eq]
  generalize (lg_sl ([.ref tb]) ++ List.replicate (3 - (lg_sl ([.ref tb])).length) Slot.unset).toArray = ls at hl ⊢
  have hl : lv_has ls 3 [(0, .ref tb)] := hl
  refine lv_iconst (v := 0) hx hb dX4_sumOfNations_0 (by decide) ?_
  refine lv_istore_n (lv' := [(1, .int 0), (0, .ref tb)]) hx hb dX4_sumOfNations_1 rfl hl (by decide) rfl (fun ls hl => ?_)
  refine lv_iconst (v := 0) hx hb dX4_sumOfNations_2 (by decide) ?_
  refine lv_istore_n (lv' := [(2, .int 0), (1, .int 0), (0, .ref tb)]) hx hb dX4_sumOfNations_3 rfl hl (by decide) rfl (fun ls hl => ?_)
  refine lp_sum (A9 := fun _ => True) hst D tb g gv og LR cG cI hx hb hml hts hown hz hA hK hg (fun H locs hP hD hS ls hl => ?_) 9 0 (by omega) (by omega) s.heap _ hP hD hS ls (lv_sub hl [0, 1, 2] rfl)
  refine lv_iload_n hx hb dX4_sumOfNations_45 rfl (lv_at hl 0 rfl) ?_
  refine W.widen (k := 0) (n := 0) (by omega) (by omega) ?_
  exact W.iret (v := 0) hx hb hr (fun t ht9 hW => ⟨⟨0, (), rfl, rfl, trivial⟩, hS.F ht9⟩) hS.2.2 dX4_sumOfNations_46
