/-! a bundle beside zX: what some methods need more of the start -/
def zOk (E : (Nat → Prop) → State → Heap → Prop) : Prop :=
  (∀ (A B : Nat → Prop) (s U : State) (H : Heap) (locs : List Loc), E A s s.heap → va_S A s.heap H locs → U.heap = H → s.WarmedH U.vm → (∀ q, B q → A q) → E B U U.heap) ∧
  ∀ (A : Nat → Prop) (U : State) (g : JFrame) (mk : MethodId) (a : Array Value), E A U U.heap → E A (U.calling g mk a) (U.calling g mk a).heap
def zPreX (E : (Nat → Prop) → State → Heap → Prop) (av : List Value) (D : va_G) (ws : va_W) (tys : List (ClassId × FieldType)) (F : Nat → Prop) (sz : Nat) : Array Value → State → Prop :=
  va_Pc av (fun U => U.heap.size = sz ∧ va_P D vwCl ws U.heap ∧ va_K D vwCl tys U ∧ va_D (fun _ => True) ws ∧ zX F U U.heap ∧ E F U U.heap)
theorem zPreX.blind {E : (Nat → Prop) → State → Heap → Prop} {av : List Value} {D : va_G} {ws : va_W} {tys : List (ClassId × FieldType)} {F : Nat → Prop} {sz : Nat} (hE : zOk E) : FrameBlind (zPreX E av D ws tys F sz) := fun a U g mk q => by
  obtain ⟨q0, q1, qP, qK, qD, qZ, qE⟩ := q
  exact ⟨q0, q1, qP, va_K.moved (u := U) (U := U.calling g mk a) (Vm.Alike.refl U.vm) qK, qD, zX.calling qZ g mk a, hE.2 F U g mk a qE⟩
theorem zPreX.mk {E : (Nat → Prop) → State → Heap → Prop} {av : List Value} {D : va_G} {ws : va_W} {tys : List (ClassId × FieldType)} {A A9 F : Nat → Prop} {s : State} {H : Heap} {locs : List Loc} (hE : zOk E) (he : E A s s.heap) (hP : va_P D vwCl ws H) (hK : va_K D vwCl tys s) (hD : va_D A9 ws) (hz : zX A s s.heap) (hS : va_S A s.heap H locs) (hF : ∀ q, F q → A q) :
    ∀ U : State, U.heap = H → s.WarmedH U.vm → zPreX E av D ws tys F H.size av.toArray U :=
  fun U hU hW => ⟨rfl, by rw [hU], by rw [hU]; exact hP, va_K.moved hW.alike hK, hD.weaken (fun _ _ _ _ => trivial), hz.call hS hU hW hF, hE.1 A F s U H locs he hS hU hW hF⟩
/-- the statics of the library's lists, boxes and flags that the reference's first call reads -/
def zWordsM : List Cond := [.fieldLinkNest RJx35411 28 "java/util/ArrayList" "size" "I" RJx4a65c, .castable RJ6 "java/lang/Object", .castable "java/lang/Boolean" "java/lang/Object", .castable RX13 "java/lang/Object"]
theorem zWordsM_kind : ∀ w ∈ zWordsM, zKind w = true := List.all_eq_true.mp (by decide +kernel)
def yItr_next : MethodName := ⟨"java/util/Iterator", "hasNext", "()Z"⟩
def zM (dz : Nat) (A : Nat → Prop) (U : State) (H : Heap) : Prop :=
  va_Z "java/util/ArrayList" "DEFAULTCAPACITY_EMPTY_ELEMENTDATA" "[Ljava/lang/Object;" (.ref dz) A U H ∧ va_T (.object "java/lang/Object") dz 0 (fun _ => .null) A U H ∧
  (∃ (cz : Nat) (ad : Nat → Nat), va_Z "java/lang/Integer$IntegerCache" "high" "I" (.int 127) A U H ∧ va_Z "java/lang/Integer$IntegerCache" "cache" "[Ljava/lang/Integer;" (.ref cz) A U H ∧ va_T (.object "java/lang/Integer") cz 256 (fun j => .ref (ad j)) A U H ∧ vb_C ad A U H) ∧
  (∃ bz : Nat, va_Z "java/lang/Boolean" "FALSE" "Ljava/lang/Boolean;" (.ref bz) A U H ∧ va_O "java/lang/Boolean" bz A U H) ∧
  va_AO "java/lang/Object" U ∧ (∀ w ∈ zWordsM, va_Nw w U) ∧ va_Fw RJx35411 yItr_next yJx35411_hasNext_aae02 U
theorem zM_ok (dz : Nat) : zOk (zM dz) := by
  refine ⟨fun A B s U H locs h hS hU hW hB => ?_, fun A U g mk a h => ?_⟩
  · subst hU
    obtain ⟨h1, h2, ⟨cz, ad, i1, i2, i3, i4⟩, ⟨bz, b1, b2⟩, h5, h6, h7⟩ := h
    have ha := hW.alike
    exact ⟨(va_Z.moved ha (h1.kept hS.2.1)).narrow hB, (va_T.moved ha (h2.kept hS.2.1)).narrow hB, ⟨cz, ad, (va_Z.moved ha (i1.kept hS.2.1)).narrow hB, (va_Z.moved ha (i2.kept hS.2.1)).narrow hB, (va_T.moved ha (i3.kept hS.2.1)).narrow hB, (vb_C.moved ha (i4.kept hS.2.1)).narrow hB⟩,
      ⟨bz, (va_Z.moved ha (b1.kept hS.2.1)).narrow hB, (va_O.moved ha (b2.kept hS.2.1)).narrow hB⟩, va_AO.moved ha h5, fun w hw => zKind_warm (zWordsM_kind w hw) hW (h6 w hw), va_Fw.moved ⟨by decide, by decide⟩ ha h7⟩
  · obtain ⟨h1, h2, ⟨cz, ad, i1, i2, i3, i4⟩, ⟨bz, b1, b2⟩, h5, h6, h7⟩ := h
    have ha : U.vm.Alike (U.calling g mk a).vm := Vm.Alike.refl U.vm
    exact ⟨va_Z.moved ha h1, va_T.moved ha h2, ⟨cz, ad, va_Z.moved ha i1, va_Z.moved ha i2, va_T.moved ha i3, vb_C.moved ha i4⟩, ⟨bz, va_Z.moved ha b1, va_O.moved ha b2⟩, va_AO.moved (u := U) (U := U.calling g mk a) ha h5,
      fun w hw => va_Nw.same (u := U) (U := U.calling g mk a) (zKind_tabs (zWordsM_kind w hw)) rfl (h6 w hw), va_Fw.moved (u := U) (U := U.calling g mk a) ⟨by decide, by decide⟩ ha h7⟩
theorem zM.w {dz : Nat} {A : Nat → Prop} {U : State} {H : Heap} (h : zM dz A U H) (w : Cond) (hw : w ∈ zWordsM) : va_Nw w U := h.2.2.2.2.2.1 w hw
/-- .. and a thing that was there before -/
def zE (dz : Nat) (C : String) (y : Nat) (A : Nat → Prop) (U : State) (H : Heap) : Prop := zM dz A U H ∧ va_O C y A U H
theorem zE_ok (dz : Nat) (C : String) (y : Nat) : zOk (zE dz C y) := by
  refine ⟨fun A B s U H locs h hS hU hW hB => ⟨(zM_ok dz).1 A B s U H locs h.1 hS hU hW hB, ?_⟩, fun A U g mk a h => ⟨(zM_ok dz).2 A U g mk a h.1, va_O.moved (u := U) (U := U.calling g mk a) (Vm.Alike.refl U.vm) h.2⟩⟩
  subst hU
  exact (va_O.moved hW.alike (h.2.kept hS.2.1)).narrow hB
/-- a String constant with its bytes -/
def zS (sa va N : Nat) (f : Nat → Int32) (A : Nat → Prop) (U : State) (H : Heap) : Prop :=
  va_O "java/lang/String" sa A U H ∧ va_OF "java/lang/String" "coder" "B" (.int 0) sa A U H ∧ va_OF "java/lang/String" "value" "[B" (.ref va) sa A U H ∧ va_T .byte va N (fun j => .int (f j)) A U H ∧ va_Z "java/lang/String" "COMPACT_STRINGS" "Z" (.int 1) A U H
theorem zS_ok (sa va N : Nat) (f : Nat → Int32) : zOk (zS sa va N f) := by
  refine ⟨fun A B s U H locs h hS hU hW hB => ?_, fun A U g mk a h => ?_⟩
  · subst hU
    obtain ⟨h1, h2, h3, h4, h5⟩ := h
    have ha := hW.alike
    exact ⟨(va_O.moved ha (h1.kept hS.2.1)).narrow hB, (va_OF.moved ha (h2.kept hS.2.1)).narrow hB, (va_OF.moved ha (h3.kept hS.2.1)).narrow hB, (va_T.moved ha (h4.kept hS.2.1)).narrow hB, (va_Z.moved ha (h5.kept hS.2.1)).narrow hB⟩
  · obtain ⟨h1, h2, h3, h4, h5⟩ := h
    have ha : U.vm.Alike (U.calling g mk a).vm := Vm.Alike.refl U.vm
    exact ⟨va_O.moved ha h1, va_OF.moved ha h2, va_OF.moved ha h3, va_T.moved ha h4, va_Z.moved ha h5⟩
