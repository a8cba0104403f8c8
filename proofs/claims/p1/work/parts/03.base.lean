/-! what stays as it was at the start, in one bundle: the statics that a throw reads, the texts of throws, words of the tables that a method's own list can't carry -/
def zTexts : List (String × Nat × String) := [(RX11, 386, "no such nation"), (RX11, 388, "out of range"), (RX11, 382, "no such event"), (RX11, 384, "no such athlete"), (RX11, 94, "no such kind"), (RX11, 301, "no such protest"), (RX11, 360, "there are no medals")]
def zWords : List Cond := [.fieldLinkNest RX11 78 "HeatStadium$Athletes" "count" "I" RX11, .fieldLinkNest RX11 88 "HeatStadium$Athletes" "nations" "[I" RX11, .fieldLinkNest RX11 292 "HeatStadium$Protests" "count" "I" RX11, .fieldLinkNest RX11 345 "HeatStadium$MedalTable" "counts" "[[I" RX11, .fieldLinkNest RX11 355 "HeatStadium$MedalTable" "given" "I" RX11,
  .methodLinkNest RX11 104 yX1_init RX11, .methodLinkNest RX11 11 yX0_init RX11, .methodLinkNest RX11 24 yX5_init RX11, .methodLinkNest RX11 31 yX2_init RX11, .methodLinkNest RX11 38 yX6_init RX11, .methodLinkNest RX11 45 yX8_init RX11, .methodLinkNest RX11 52 yX7_init RX11, .methodLinkNest RX11 59 yX4_init RX11,
  .methodLinkNest RX11 347 yX4_nationAt RX11, .methodLinkNest RX11 379 yX4_sumOfNations RX11, .methodLinkNest RX11 459 yX4_clear RX11,
  .methodLinkNest RX1 21 yX9_init RX11, .methodLinkNest RX1 31 yX3_init RX11, .methodLinkNest RX1 38 yX10_init RX11,
  .castable "java/lang/IndexOutOfBoundsException" "java/lang/IndexOutOfBoundsException", .castable "java/lang/IllegalArgumentException" "java/lang/IllegalArgumentException", .castable "java/lang/ArithmeticException" "java/lang/ArithmeticException",
  .superclass "java/lang/Throwable" "java/lang/Object", .declares ⟨"java/lang/RuntimeException", "<init>", "(Ljava/lang/String;)V"⟩, .declares ⟨"java/lang/Exception", "<init>", "(Ljava/lang/String;)V"⟩, .declares ⟨"java/lang/Throwable", "<init>", "(Ljava/lang/String;)V"⟩]
/-- superclass, in tables alike -/
theorem zSuper {a b : String} {s U : State} (hW : s.WarmedH U.vm) (h : va_Nw (.superclass a b) s) : va_Nw (.superclass a b) U := by
  have hal := hW.alike
  cases hc : s.vm.findClass a with
  | none => simp [va_Nw, Cond.before, Cond.holds, Cond.value, hc] at h
  | some c =>
    obtain ⟨p, k, kp, h1, h2, h3, h4, h5, h6, h7⟩ := Cond.superclass_spec (args := #[]) (first := s) (o := none) (idx := []) hc h
    obtain ⟨k', e1, f1⟩ := hal.2.2 _ _ h2
    obtain ⟨kp', e2, f2⟩ := hal.2.2 _ _ h3
    have g1 : U.vm.findClass a = some c := by rw [hal.findClass]; exact hc
    have g2 : U.vm.findClass b = some p := by rw [hal.findClass]; exact h1
    have i1 : k'.super = some p := by rw [f1]; exact h4
    have i2 : k'.kind = .ordinary := by rw [f1]; exact h5
    have i3 : kp'.kind = .ordinary := by rw [f2]; exact h6
    have i4 : k'.isInterface = false := by rw [f1]; exact h7
    unfold va_Nw Cond.before Cond.holds
    simp [Cond.value, g1, g2, e1, e2, i1, i2, i3, i4]
def zKind : Cond → Bool
  | .superclass .. => true
  | .fieldLinkNest .. => true
  | .methodLinkNest .. => true
  | .castable .. => true
  | .declares .. => true
  | _ => false
theorem zKind_warm {w : Cond} {s U : State} (hk : zKind w = true) (hW : s.WarmedH U.vm) (h : va_Nw w s) : va_Nw w U := by
  cases w <;> first | exact zSuper hW h | exact va_Nw.warmF hW h | exact va_Nw.warmM hW h | exact va_Nw.warmD hW h | exact va_Nw.warmC hW h | exact absurd hk (by simp [zKind])
theorem zKind_tabs {w : Cond} (hk : zKind w = true) : w.onTables = true := by
  cases w <;> first | rfl | exact absurd hk (by simp [zKind])
theorem zWords_kind : ∀ w ∈ zWords, zKind w = true := List.all_eq_true.mp (by decide +kernel)
def zX (A : Nat → Prop) (U : State) (H : Heap) : Prop :=
  (vx_Zq Bundle.tN "UNASSIGNED_STACK" Bundle.steD A U H ∧ vx_Zq Bundle.tN "SUPPRESSED_SENTINEL" Bundle.listD A U H) ∧
  (∀ q ∈ zTexts, ∃ a, vk_R q.1 q.2.1 q.2.2 a U) ∧ (∀ w ∈ zWords, va_Nw w U) ∧
  (va_AO "HeatStadium$Event" U ∧ va_AO "HeatStadium$Round" U ∧ va_AOA .int U) ∧ va_Nc "java/lang/ArithmeticException" "java/lang/IllegalArgumentException" U
theorem zX.call {A B : Nat → Prop} {s U : State} {H : Heap} {locs : List Loc} (h : zX A s s.heap) (hS : va_S A s.heap H locs) (hU : U.heap = H) (hW : s.WarmedH U.vm) (hB : ∀ q, B q → A q) : zX B U U.heap := by
  subst hU
  obtain ⟨⟨h1, h2⟩, h3, h4, ⟨h5, h6, h7⟩, h8⟩ := h
  exact ⟨⟨(vx_Zq.moved hW.alike (h1.kept hS.2.1)).narrow hB, (vx_Zq.moved hW.alike (h2.kept hS.2.1)).narrow hB⟩, fun q hq => (h3 q hq).imp fun a ha => vk_R.warm hW ha,
    fun w hw => zKind_warm (zWords_kind w hw) hW (h4 w hw), ⟨va_AO.moved hW.alike h5, va_AO.moved hW.alike h6, va_AOA.moved hW.alike h7⟩, va_Nc.moved hW.alike h8⟩
theorem zX.calling {A : Nat → Prop} {U : State} (h : zX A U U.heap) (g : JFrame) (mk : MethodId) (a : Array Value) : zX A (U.calling g mk a) (U.calling g mk a).heap := by
  obtain ⟨⟨h1, h2⟩, h3, h4, ⟨h5, h6, h7⟩, h8⟩ := h
  exact ⟨⟨vx_Zq.moved (u := U) (U := U.calling g mk a) (Vm.Alike.refl U.vm) h1, vx_Zq.moved (u := U) (U := U.calling g mk a) (Vm.Alike.refl U.vm) h2⟩, fun q hq => (h3 q hq).imp fun b hb => vk_R.same rfl hb,
    fun w hw => va_Nw.same (u := U) (U := U.calling g mk a) (zKind_tabs (zWords_kind w hw)) rfl (h4 w hw), ⟨va_AO.moved (u := U) (U := U.calling g mk a) (Vm.Alike.refl U.vm) h5, va_AO.moved (u := U) (U := U.calling g mk a) (Vm.Alike.refl U.vm) h6, va_AOA.moved (u := U) (U := U.calling g mk a) (Vm.Alike.refl U.vm) h7⟩, va_Nc.moved (u := U) (U := U.calling g mk a) (Vm.Alike.refl U.vm) h8⟩
/-- a word of the bundle, as the rows ask for it -/
theorem zX.w {A : Nat → Prop} {U : State} {H : Heap} (h : zX A U H) {args : Array Value} (w : Cond) (hw : w ∈ zWords) : w.before args U = true := va_Nw.use (zKind_tabs (zWords_kind w hw)) (h.2.2.1 w hw)
/-- how a method begins: its arguments, the size of the heap, the cells that it sees, the bundle -/
def zPre (av : List Value) (D : va_G) (ws : va_W) (tys : List (ClassId × FieldType)) (F : Nat → Prop) (sz : Nat) : Array Value → State → Prop :=
  va_Pc av (fun U => U.heap.size = sz ∧ va_P D vwCl ws U.heap ∧ va_K D vwCl tys U ∧ va_D (fun _ => True) ws ∧ zX F U U.heap)
theorem zPre.blind {av : List Value} {D : va_G} {ws : va_W} {tys : List (ClassId × FieldType)} {F : Nat → Prop} {sz : Nat} : FrameBlind (zPre av D ws tys F sz) := fun a U g mk q => by
  obtain ⟨q0, q1, qP, qK, qD, qZ⟩ := q
  exact ⟨q0, q1, qP, va_K.moved (u := U) (U := U.calling g mk a) (Vm.Alike.refl U.vm) qK, qD, zX.calling qZ g mk a⟩
theorem zPre.mk {av : List Value} {D : va_G} {ws : va_W} {tys : List (ClassId × FieldType)} {A A9 F : Nat → Prop} {s : State} {H : Heap} {locs : List Loc} (hP : va_P D vwCl ws H) (hK : va_K D vwCl tys s) (hD : va_D A9 ws) (hz : zX A s s.heap) (hS : va_S A s.heap H locs) (hF : ∀ q, F q → A q) :
    ∀ U : State, U.heap = H → s.WarmedH U.vm → zPre av D ws tys F H.size av.toArray U :=
  fun U hU hW => ⟨rfl, by rw [hU], by rw [hU]; exact hP, va_K.moved hW.alike hK, hD.weaken (fun _ _ _ _ => trivial), hz.call hS hU hW hF⟩
/-- the cells behind a method -/
def zAt (D : va_G) (ws : va_W) (tys : List (ClassId × FieldType)) (F : Nat → Prop) (t : State) : Prop := va_P D vwCl ws t.heap ∧ va_K D vwCl tys t ∧ va_D F ws
/-- it throws E -/
def zThr (E : String) (F : Nat → Prop) : String → State → State → Prop := vx_X (S := Unit) (fun _ => True) (fun E' _ _ => E' = E) F
abbrev zR (k mc ms : Nat) : Room := { frames := 10 + k, cells := mc, slots := ms, locals := 200 + 60 * k }
/-- cells that a callee can't write stay -/
theorem zKeep {D : va_G} {ws : va_W} {H H1 : Heap} (hP : va_P D vwCl ws H) (hk : ∀ q : Nat, q < H.size → ¬ (H.size ≤ q) → H1[q]? = H[q]?) : va_P D vwCl ws H1 := hP.kept (fun k q h => hk q.1 (hP k q h).lt (Nat.not_le.mpr (hP k q h).lt))
theorem zF {A : Nat → Prop} {s t : State} {H : Heap} {locs : List Loc} (hS : va_S A s.heap H locs) (h1 : H.size ≤ t.heap.size) (h2 : ∀ q : Nat, q < H.size → t.heap[q]? = H[q]?) : va_F A s t :=
  ⟨Nat.le_trans hS.1 h1, fun q hq hn => (h2 q (Nat.lt_of_lt_of_le hq hS.1)).trans (hS.2.1 q hq hn)⟩
abbrev zHS (a : Nat → Nat) : List Value := [.ref (a 0), .ref (a 1), .ref (a 2), .ref (a 3), .ref (a 4), .ref (a 5), .ref (a 6), .ref (a 7), .int 0, .int 0, .int 0]
