/-! printed rows that this part uses -/
theorem dX4_clear_0 : decode cX4_clear 0 = .ok (.aload_n 0, 1) := by decide +kernel
theorem dX4_clear_1 : decode cX4_clear 1 = .ok (.iconst 0, 1) := by decide +kernel
theorem dX4_clear_2 : decode cX4_clear 2 = .ok (.putfield 16, 3) := by decide +kernel
theorem dX4_clear_5 : decode cX4_clear 5 = .ok (.iconst 0, 1) := by decide +kernel
theorem dX4_clear_6 : decode cX4_clear 6 = .ok (.istore_n 1, 1) := by decide +kernel
theorem dX4_clear_7 : decode cX4_clear 7 = .ok (.iload_n 1, 1) := by decide +kernel
theorem dX4_clear_8 : decode cX4_clear 8 = .ok (.bipush 8, 2) := by decide +kernel
theorem dX4_clear_10 : decode cX4_clear 10 = .ok (.if_icmp .ge 31, 3) := by decide +kernel
theorem dX4_clear_13 : decode cX4_clear 13 = .ok (.iconst 0, 1) := by decide +kernel
theorem dX4_clear_14 : decode cX4_clear 14 = .ok (.istore_n 2, 1) := by decide +kernel
theorem dX4_clear_15 : decode cX4_clear 15 = .ok (.iload_n 2, 1) := by decide +kernel
theorem dX4_clear_16 : decode cX4_clear 16 = .ok (.iconst 4, 1) := by decide +kernel
theorem dX4_clear_17 : decode cX4_clear 17 = .ok (.if_icmp .ge 18, 3) := by decide +kernel
theorem dX4_clear_20 : decode cX4_clear 20 = .ok (.aload_n 0, 1) := by decide +kernel
theorem dX4_clear_21 : decode cX4_clear 21 = .ok (.getfield 11, 3) := by decide +kernel
theorem dX4_clear_24 : decode cX4_clear 24 = .ok (.iload_n 1, 1) := by decide +kernel
theorem dX4_clear_25 : decode cX4_clear 25 = .ok (.aaload, 1) := by decide +kernel
theorem dX4_clear_26 : decode cX4_clear 26 = .ok (.iload_n 2, 1) := by decide +kernel
theorem dX4_clear_27 : decode cX4_clear 27 = .ok (.iconst 0, 1) := by decide +kernel
theorem dX4_clear_28 : decode cX4_clear 28 = .ok (.iastore, 1) := by decide +kernel
theorem dX4_clear_29 : decode cX4_clear 29 = .ok (.iinc 2 1, 3) := by decide +kernel
theorem dX4_clear_32 : decode cX4_clear 32 = .ok (.goto (-17), 3) := by decide +kernel
theorem dX4_clear_35 : decode cX4_clear 35 = .ok (.iinc 1 1, 3) := by decide +kernel
theorem dX4_clear_38 : decode cX4_clear 38 = .ok (.goto (-31), 3) := by decide +kernel
theorem dX4_clear_41 : decode cX4_clear 41 = .ok (.return_, 1) := by decide +kernel
/-! a grid of eight rows of four zeros, its rows pooled -/
abbrev zrow (cI : ClassId) : Nat → va_E := fun _ => .inl (cI, 4, .inl (fun _ => 0))
theorem zSet0 {X : va_W} {L : List Nat} {cI : ClassId} {k y i : Nat} (hk : (X ++ va_pl L (zrow cI))[k]? = some (y, zrow cI y)) : (X ++ va_pl L (zrow cI)).set k (y, .inl (cI, 4, .inl (upd (fun _ => 0) i 0))) = X ++ va_pl L (zrow cI) := by
  have e : upd (fun _ => (0 : Int32)) i 0 = (fun _ => 0) := funext fun j => by simp [upd]
  rw [e]
  apply List.ext_getElem?
  intro j
  rw [List.getElem?_set]
  by_cases h : k = j
  · subst h
    rw [if_pos rfl, hk, if_pos (List.getElem?_eq_some_iff.mp hk).1]
  · rw [if_neg h]
section
variable {p : Program} {l : Launch} {e : Env} {R : Room} {s : State} {m : MethodId} {args : Array Value} {below : List Frame} {meth : Method} {c : Code} {H : Heap} {locs : List Loc} {cells slots : Nat} {Q : State → Prop}
variable {cc : ByteArray} {pc : Nat} {ls : Array Slot} {rest : List Value} {D : va_G} {cl : List vw_C} {a : Nat} {tys : List (ClassId × FieldType)} {ws : va_W}
/-- a row of an array of arrays -/
theorem zaldg (hexec : p.tables.exec = Jvm.exec) (hb : c.code = cc) (hK : va_K D cl tys s) (hP : va_P D cl ws H) (q0 t0 : Nat) {cA : ClassId} {te : FieldType} {n : Nat} {f : Nat → Option Nat} (ha : ws[q0]? = some (a, .inl (cA, n, .inr (.inr (.inr (.inr f)))))) (ht : tys[t0]? = some (cA, .array te)) {i : Int32} (hin : vp_in i n) (hdg : decode cc pc = .ok (.aaload, 1))
    (kk : W p l e R s m args below meth c H locs cells slots Q (F0 m (pc + 1) ls (va_rf (f i.toNatClampNeg) :: rest))) : W p l e R s m args below meth c H locs cells slots Q (F0 m pc ls (.int i :: .ref a :: rest)) := by
  have hlt : i.toNatClampNeg < n := Nat.not_le.mp fun q => hin (Or.inr q)
  exact W.aald (v := va_rf (f i.toNatClampNeg)) (ty := .array te) hexec hb (hP q0 _ ha) ((hK.2 t0 _ ht).1 n (fun j => va_rf (f j))) rfl (fun q => by cases q) (by show ¬ (i < 0 ∨ (arrV _ _ _).slots.size ≤ _); rw [arrV_size]; exact hin) (by show (arrV _ _ _).slots[_]? = _; rw [arrV_read _ _ hlt]) rfl rfl hdg kk
end
def zX4_clear_ws : List Cond := .code yX4_clear cX4_clear 3 none :: ([.fieldLink RX4 11 "HeatStadium$MedalTable" "counts" "[[I", .fieldLink RX4 16 "HeatStadium$MedalTable" "given" "I"] ++ (wsX40 ++ ([])))
theorem zX4_clear_ws_good : zX4_clear_ws.all goodWord = true := by decide +kernel
set_option maxHeartbeats 4000000 in
set_option maxRecDepth 100000 in
/-- clear: its loop -/
theorem lp_clear {p : Program} {l : Launch} {e : Env} {s : State} {m : MethodId} {args : Array Value} {below : List Frame} {meth : Method} {c : Code} {A : Nat → Prop} {Q : State → Prop} (hst : l.stackTraces = false) (D : va_G) (tb g : Nat) (og : Nat → Option Nat) (LR : List Nat) (cG cI : ClassId) (hx : p.tables.exec = Jvm.exec) (hb : c.code = cX4_clear) (hml : c.maxLocals = 3) (hts : ∀ w ∈ zX4_clear_ws, w.before args s = true) (hown : s.vm.findClass RX4 = some m.cls) (hz : zX A s s.heap) (hA : ∀ q : Nat, s.heap.size ≤ q → A q) (hK : va_K D vwCl [(cG, .array .int), (cI, .int)] s) (hg : ∀ i, i < 8 → ∃ y, og i = some y ∧ y ∈ LR) (kk : ∀ (H : Heap) (locs : List Loc), va_P D vwCl ([(tb, .inr (10, [.ref g, .int 0])), (g, .inl (cG, 8, .inr (.inr (.inr (.inr og)))))] ++ va_pl LR (zrow cI)) H → va_D A ([(tb, .inr (10, [.ref g, .int 0])), (g, .inl (cG, 8, .inr (.inr (.inr (.inr og)))))] ++ va_pl LR (zrow cI)) → va_S A s.heap H locs → ∀ ls : Array Slot, lv_has ls 3 [(0, .ref tb)] → W p l e (zR 0 0 0) s m args below meth c H locs 0 0 Q (F0 m 41 ls [])) : ∀ (n i : Nat), i ≤ 8 → 8 < i + n → ∀ (H : Heap) (locs : List Loc), va_P D vwCl ([(tb, .inr (10, [.ref g, .int 0])), (g, .inl (cG, 8, .inr (.inr (.inr (.inr og)))))] ++ va_pl LR (zrow cI)) H → va_D A ([(tb, .inr (10, [.ref g, .int 0])), (g, .inl (cG, 8, .inr (.inr (.inr (.inr og)))))] ++ va_pl LR (zrow cI)) → va_S A s.heap H locs → ∀ ls : Array Slot, lv_has ls 3 [(1, .int (nI i)), (0, .ref tb)] → W p l e (zR 0 0 0) s m args below meth c H locs 0 0 Q (F0 m 7 ls []) := by
  intro n
  induction n with
  | zero =>
    intro i h1 h2
    exact absurd h2 (by omega)
  | succ n ih =>
    intro i hi hn H locs hP hD hS ls hl
    rcases Nat.lt_or_ge i 8 with q | q
    · refine lv_iload_n hx hb dX4_clear_7 rfl (lv_at hl 0 rfl) ?_
      refine lv_bipush (v := 8) hx hb dX4_clear_8 (by decide) ?_
      refine lv_icmp_ge (tgt := 41) hx hb dX4_clear_10 (by decide) (fun c9 => absurd c9 (nI_ge q (by decide))) (fun _ => ?_)
      refine lv_iconst (v := 0) hx hb dX4_clear_13 (by decide) ?_
      refine lv_istore_n (lv' := [(2, .int 0), (1, .int (nI i)), (0, .ref tb)]) hx hb dX4_clear_14 rfl hl (by decide) rfl (fun ls hl => ?_)
      refine lv_iload_n hx hb dX4_clear_15 rfl (lv_at hl 0 rfl) ?_
      refine lv_iconst (v := 4) hx hb dX4_clear_16 (by decide) ?_
      refine lv_icmp_ge (tgt := 35) hx hb dX4_clear_17 (by decide) (fun c => absurd c (by decide)) (fun _ => ?_)
      refine lv_aload_n hx hb dX4_clear_20 rfl (lv_at hl 2 rfl) ?_
      refine va_get (D := D) (ci := 10) (v := .ref g) (C := RX4) (T := TX4) (N := 2) hx hb hts (by decide +kernel) hown hK hP 0 rfl rfl 0 (by decide) (hts (.fieldLink RX4 11 "HeatStadium$MedalTable" "counts" "[[I") (by decide +kernel)) (fun _ h9 => h9) rfl dX4_clear_21 ?_
      refine lv_iload_n hx hb dX4_clear_24 rfl (lv_at hl 1 rfl) ?_
      obtain ⟨y1, ey1, my1⟩ := hg i q
      obtain ⟨ky1, hy1⟩ := va_pl_get (X := [(tb, .inr (10, [.ref g, .int 0])), (g, .inl (cG, 8, .inr (.inr (.inr (.inr og)))))]) (f := zrow cI) my1
      refine zaldg hx hb hK hP 1 0 rfl rfl (vp_in_nI q (by decide)) dX4_clear_25 ?_
      rw [show (nI i).toNatClampNeg = i from nI_clamp (by omega), ey1]
      refine lv_iload_n hx hb dX4_clear_26 rfl (lv_at hl 0 rfl) ?_
      refine lv_iconst (v := 0) hx hb dX4_clear_27 (by decide) ?_
      refine va_iast hx hb hK hP hD hS ky1 1 hy1 rfl (show vp_in 0 4 by unfold vp_in; decide) dX4_clear_28 (fun H locs hP hD hS => ?_)
      rw [zSet0 hy1] at hP hD
      have hP : va_P D vwCl ([(tb, .inr (10, [.ref g, .int 0])), (g, .inl (cG, 8, .inr (.inr (.inr (.inr og)))))] ++ va_pl LR (zrow cI)) H := hP
      refine lv_iinc (v := 1) (lv' := [(2, .int 1), (1, .int (nI i)), (0, .ref tb)]) hx hb dX4_clear_29 hl (k := 0) rfl (by decide) (by decide) rfl (fun ls hl => ?_)
      refine lv_goto (tgt := 15) hx hb dX4_clear_32 (by decide) ?_
      refine lv_iload_n hx hb dX4_clear_15 rfl (lv_at hl 0 rfl) ?_
      refine lv_iconst (v := 4) hx hb dX4_clear_16 (by decide) ?_
      refine lv_icmp_ge (tgt := 35) hx hb dX4_clear_17 (by decide) (fun c => absurd c (by decide)) (fun _ => ?_)
      refine lv_aload_n hx hb dX4_clear_20 rfl (lv_at hl 2 rfl) ?_
      refine va_get (D := D) (ci := 10) (v := .ref g) (C := RX4) (T := TX4) (N := 2) hx hb hts (by decide +kernel) hown hK hP 0 rfl rfl 0 (by decide) (hts (.fieldLink RX4 11 "HeatStadium$MedalTable" "counts" "[[I") (by decide +kernel)) (fun _ h9 => h9) rfl dX4_clear_21 ?_
      refine lv_iload_n hx hb dX4_clear_24 rfl (lv_at hl 1 rfl) ?_
      obtain ⟨y2, ey2, my2⟩ := hg i q
      obtain ⟨ky2, hy2⟩ := va_pl_get (X := [(tb, .inr (10, [.ref g, .int 0])), (g, .inl (cG, 8, .inr (.inr (.inr (.inr og)))))]) (f := zrow cI) my2
      refine zaldg hx hb hK hP 1 0 rfl rfl (vp_in_nI q (by decide)) dX4_clear_25 ?_
      rw [show (nI i).toNatClampNeg = i from nI_clamp (by omega), ey2]
      refine lv_iload_n hx hb dX4_clear_26 rfl (lv_at hl 0 rfl) ?_
      refine lv_iconst (v := 0) hx hb dX4_clear_27 (by decide) ?_
      refine va_iast hx hb hK hP hD hS ky2 1 hy2 rfl (show vp_in 1 4 by unfold vp_in; decide) dX4_clear_28 (fun H locs hP hD hS => ?_)
      rw [zSet0 hy2] at hP hD
      have hP : va_P D vwCl ([(tb, .inr (10, [.ref g, .int 0])), (g, .inl (cG, 8, .inr (.inr (.inr (.inr og)))))] ++ va_pl LR (zrow cI)) H := hP
      refine lv_iinc (v := 2) (lv' := [(2, .int 2), (1, .int (nI i)), (0, .ref tb)]) hx hb dX4_clear_29 hl (k := 0) rfl (by decide) (by decide) rfl (fun ls hl => ?_)
      refine lv_goto (tgt := 15) hx hb dX4_clear_32 (by decide) ?_
      refine lv_iload_n hx hb dX4_clear_15 rfl (lv_at hl 0 rfl) ?_
      refine lv_iconst (v := 4) hx hb dX4_clear_16 (by decide) ?_
      refine lv_icmp_ge (tgt := 35) hx hb dX4_clear_17 (by decide) (fun c => absurd c (by decide)) (fun _ => ?_)
      refine lv_aload_n hx hb dX4_clear_20 rfl (lv_at hl 2 rfl) ?_
      refine va_get (D := D) (ci := 10) (v := .ref g) (C := RX4) (T := TX4) (N := 2) hx hb hts (by decide +kernel) hown hK hP 0 rfl rfl 0 (by decide) (hts (.fieldLink RX4 11 "HeatStadium$MedalTable" "counts" "[[I") (by decide +kernel)) (fun _ h9 => h9) rfl dX4_clear_21 ?_
      refine lv_iload_n hx hb dX4_clear_24 rfl (lv_at hl 1 rfl) ?_
      obtain ⟨y3, ey3, my3⟩ := hg i q
      obtain ⟨ky3, hy3⟩ := va_pl_get (X := [(tb, .inr (10, [.ref g, .int 0])), (g, .inl (cG, 8, .inr (.inr (.inr (.inr og)))))]) (f := zrow cI) my3
      refine zaldg hx hb hK hP 1 0 rfl rfl (vp_in_nI q (by decide)) dX4_clear_25 ?_
      rw [show (nI i).toNatClampNeg = i from nI_clamp (by omega), ey3]
      refine lv_iload_n hx hb dX4_clear_26 rfl (lv_at hl 0 rfl) ?_
      refine lv_iconst (v := 0) hx hb dX4_clear_27 (by decide) ?_
      refine va_iast hx hb hK hP hD hS ky3 1 hy3 rfl (show vp_in 2 4 by unfold vp_in; decide) dX4_clear_28 (fun H locs hP hD hS => ?_)
      rw [zSet0 hy3] at hP hD
      have hP : va_P D vwCl ([(tb, .inr (10, [.ref g, .int 0])), (g, .inl (cG, 8, .inr (.inr (.inr (.inr og)))))] ++ va_pl LR (zrow cI)) H := hP
      refine lv_iinc (v := 3) (lv' := [(2, .int 3), (1, .int (nI i)), (0, .ref tb)]) hx hb dX4_clear_29 hl (k := 0) rfl (by decide) (by decide) rfl (fun ls hl => ?_)
      refine lv_goto (tgt := 15) hx hb dX4_clear_32 (by decide) ?_
      refine lv_iload_n hx hb dX4_clear_15 rfl (lv_at hl 0 rfl) ?_
      refine lv_iconst (v := 4) hx hb dX4_clear_16 (by decide) ?_
      refine lv_icmp_ge (tgt := 35) hx hb dX4_clear_17 (by decide) (fun c => absurd c (by decide)) (fun _ => ?_)
      refine lv_aload_n hx hb dX4_clear_20 rfl (lv_at hl 2 rfl) ?_
      refine va_get (D := D) (ci := 10) (v := .ref g) (C := RX4) (T := TX4) (N := 2) hx hb hts (by decide +kernel) hown hK hP 0 rfl rfl 0 (by decide) (hts (.fieldLink RX4 11 "HeatStadium$MedalTable" "counts" "[[I") (by decide +kernel)) (fun _ h9 => h9) rfl dX4_clear_21 ?_
      refine lv_iload_n hx hb dX4_clear_24 rfl (lv_at hl 1 rfl) ?_
      obtain ⟨y4, ey4, my4⟩ := hg i q
      obtain ⟨ky4, hy4⟩ := va_pl_get (X := [(tb, .inr (10, [.ref g, .int 0])), (g, .inl (cG, 8, .inr (.inr (.inr (.inr og)))))]) (f := zrow cI) my4
      refine zaldg hx hb hK hP 1 0 rfl rfl (vp_in_nI q (by decide)) dX4_clear_25 ?_
      rw [show (nI i).toNatClampNeg = i from nI_clamp (by omega), ey4]
      refine lv_iload_n hx hb dX4_clear_26 rfl (lv_at hl 0 rfl) ?_
      refine lv_iconst (v := 0) hx hb dX4_clear_27 (by decide) ?_
      refine va_iast hx hb hK hP hD hS ky4 1 hy4 rfl (show vp_in 3 4 by unfold vp_in; decide) dX4_clear_28 (fun H locs hP hD hS => ?_)
      rw [zSet0 hy4] at hP hD
      have hP : va_P D vwCl ([(tb, .inr (10, [.ref g, .int 0])), (g, .inl (cG, 8, .inr (.inr (.inr (.inr og)))))] ++ va_pl LR (zrow cI)) H := hP
      refine lv_iinc (v := 4) (lv' := [(2, .int 4), (1, .int (nI i)), (0, .ref tb)]) hx hb dX4_clear_29 hl (k := 0) rfl (by decide) (by decide) rfl (fun ls hl => ?_)
      refine lv_goto (tgt := 15) hx hb dX4_clear_32 (by decide) ?_
      refine lv_iload_n hx hb dX4_clear_15 rfl (lv_at hl 0 rfl) ?_
      refine lv_iconst (v := 4) hx hb dX4_clear_16 (by decide) ?_
      refine lv_icmp_ge (tgt := 35) hx hb dX4_clear_17 (by decide) (fun _ => ?_) (fun c => absurd (by decide) c)
      refine lv_iinc (v := nI (i + 1)) (lv' := [(1, .int (nI (i + 1))), (2, .int 4), (0, .ref tb)]) hx hb dX4_clear_35 hl (k := 1) rfl (show nI i + Int32.ofInt 1 = nI (i + 1) from nI_1 i) (by decide) rfl (fun ls hl => ?_)
      refine lv_goto (tgt := 7) hx hb dX4_clear_38 (by decide) ?_
      exact ih (i + 1) (by omega) (by omega) H locs hP hD hS ls (lv_sub hl [0, 2] rfl)
    · obtain rfl : i = 8 := by omega
      refine lv_iload_n hx hb dX4_clear_7 rfl (lv_at hl 0 rfl) ?_
      refine lv_bipush (v := 8) hx hb dX4_clear_8 (by decide) ?_
      refine lv_icmp_ge (tgt := 41) hx hb dX4_clear_10 (by decide) (fun _ => ?_) (fun c9 => absurd (nI_le (Nat.le_refl _) (by decide)) c9)
      exact kk H locs hP hD hS ls (lv_sub hl [1] rfl)
set_option maxHeartbeats 4000000 in
set_option maxRecDepth 100000 in
/-- clear(): the table of nothing -/
theorem c_clear (l : Launch) (hst : l.stackTraces = false) (D : va_G) (sz : Nat) (tb g : Nat) (gv : Int32) (og : Nat → Option Nat) (LR : List Nat) (cG cI : ClassId) (hg : ∀ i, i < 8 → ∃ y, og i = some y ∧ y ∈ LR) : Met l yX4_clear zX4_clear_ws (zR 0 0 0) (zPre [.ref tb] D ([(tb, .inr (10, [.ref g, .int gv])), (g, .inl (cG, 8, .inr (.inr (.inr (.inr og)))))] ++ va_pl LR (zrow cI)) [(cG, .array .int), (cI, .int)] (va_A ([(tb, .inr (10, [.ref g, .int gv])), (g, .inl (cG, 8, .inr (.inr (.inr (.inr og)))))] ++ va_pl LR (zrow cI)) sz) sz) (va_Qv (S := Unit) (fun _ => True) (fun _ t => zAt D ([(tb, .inr (10, [.ref g, .int 0])), (g, .inl (cG, 8, .inr (.inr (.inr (.inr og)))))] ++ va_pl LR (zrow cI)) [(cG, .array .int), (cI, .int)] (va_A ([(tb, .inr (10, [.ref g, .int gv])), (g, .inl (cG, 8, .inr (.inr (.inr (.inr og)))))] ++ va_pl LR (zrow cI)) sz) t) (va_A ([(tb, .inr (10, [.ref g, .int gv])), (g, .inl (cG, 8, .inr (.inr (.inr (.inr og)))))] ++ va_pl LR (zrow cI)) sz)) 0 0 (va_A ([(tb, .inr (10, [.ref g, .int gv])), (g, .inl (cG, 8, .inr (.inr (.inr (.inr og)))))] ++ va_pl LR (zrow cI)) sz) := by
  refine Met.ofW (cc := cX4_clear) (maxL := 3) (ret := none) (by decide) rfl ?_
  intro p e s m args below meth c s₁ B hml hv
  obtain ⟨rfl, hsz, hP, hK, hD0, hz⟩ := hv
  have hx := B.exec
  have hb := B.bytes
  have hr := B.returns
  have hts := atoms_spec (ws := zX4_clear_ws) B.pre
  have hown : s.vm.findClass RX4 = some m.cls := findClass_of_methodNamed B.named
  have hlocks := B.notSynchronized
  subst hsz
  have hD := hD0.self (sz := s.heap.size)
  generalize hAe : va_A ([(tb, .inr (10, [.ref g, .int gv])), (g, .inl (cG, 8, .inr (.inr (.inr (.inr og)))))] ++ va_pl LR (zrow cI)) s.heap.size = A at hD hz ⊢
  have hA : ∀ q : Nat, s.heap.size ≤ q → A q := fun q h => by rw [← hAe]; exact Or.inr h
  have hS : va_S A s.heap s.heap [] := va_S.rf
  have hP : va_P D vwCl ([(tb, .inr (10, [.ref g, .int gv])), (g, .inl (cG, 8, .inr (.inr (.inr (.inr og)))))] ++ va_pl LR (zrow cI)) s.heap := hP
  have hl := lv_entry ([.ref tb]) (n := 3) (Nat.le_of_ble_eq_true rfl)
  rw [lg_entry_eq]
  generalize (lg_sl ([.ref tb]) ++ List.replicate (3 - (lg_sl ([.ref tb])).length) Slot.unset).toArray = ls at hl ⊢
  have hl : lv_has ls 3 [(0, .ref tb)] := hl
  refine lv_aload_n hx hb dX4_clear_0 rfl (lv_at hl 0 rfl) ?_
  refine lv_iconst (v := 0) hx hb dX4_clear_1 (by decide) ?_
  refine va_put (D := D) (ci := 10) (v := .int 0) (ty := .int) (C := RX4) (T := TX4) (N := 2) hx hb hts (by decide +kernel) tyX4 tyX4_ok nmX4 hown hK hP hD hS 0 rfl rfl 1 (by decide) (hts (.fieldLink RX4 16 "HeatStadium$MedalTable" "given" "I") (by decide +kernel)) (fun _ h9 => h9) rfl (by decide +kernel) rfl rfl (Nat.le_of_ble_eq_true rfl) dX4_clear_2 (fun H locs hP hD hS => ?_)
  have hP : va_P D vwCl ([(tb, .inr (10, [.ref g, .int 0])), (g, .inl (cG, 8, .inr (.inr (.inr (.inr og)))))] ++ va_pl LR (zrow cI)) H := hP
  have hD : va_D A ([(tb, .inr (10, [.ref g, .int 0])), (g, .inl (cG, 8, .inr (.inr (.inr (.inr og)))))] ++ va_pl LR (zrow cI)) := hD
  refine lv_iconst (v := 0) hx hb dX4_clear_5 (by decide) ?_
  refine lv_istore_n (lv' := [(1, .int 0), (0, .ref tb)]) hx hb dX4_clear_6 rfl hl (by decide) rfl (fun ls hl => ?_)
  refine lp_clear hst D tb g og LR cG cI hx hb hml hts hown hz hA hK hg (fun H locs hP hD hS ls hl => ?_) 9 0 (by omega) (by omega) H _ hP hD hS ls (lv_sub hl [0, 1] rfl)
  have hP9 := hP.part (cx := [(tb, .inr (10, [.ref g, .int 0])), (g, .inl (cG, 8, .inr (.inr (.inr (.inr og)))))]) [0, 1] rfl
  have hD9 := hD.part (cx := [(tb, .inr (10, [.ref g, .int 0])), (g, .inl (cG, 8, .inr (.inr (.inr (.inr og)))))]) [0, 1] (by decide) rfl
  have hK9 := hK.sub (tys' := [(cG, .array .int), (cI, .int)]) [0, 1] rfl
  rw [← hAe] at hD9
  refine W.widen (k := 0) (n := 0) (by omega) (by omega) ?_
  subst hAe
  exact W.vret hx hb hr (fun t ht9 hW => ⟨⟨(), rfl, trivial, ⟨by rw [ht9]; exact hP9, va_K.moved hW.alike hK9, hD9⟩⟩, hS.F ht9⟩) hS.2.2 dX4_clear_41
