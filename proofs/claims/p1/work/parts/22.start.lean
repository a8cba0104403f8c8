/-! what the start gives -/
theorem zst_ex {args : Array Value} {s : State} {t : Term} {C : String} (h : (Cond.exactly t C).before args s = true) : ∃ a : Nat, t.eval args s none [] s = some (.ref a) := by
  obtain ⟨a, c, cA, kA, q1, -⟩ := Cond.exactly_spec (args := args) (first := s) (o := none) (s := s) (idx := []) (t := t) (cls := C) h
  exact ⟨a, q1⟩
set_option maxHeartbeats 4000000 in
set_option maxRecDepth 100000 in
theorem zst_words : (∀ w ∈ zWords, w ∈ lw_tbl) ∧ (∀ w ∈ zWordsM, w ∈ lw_tbl) := ⟨by decide +kernel, by decide +kernel⟩
set_option maxHeartbeats 4000000 in
set_option maxRecDepth 100000 in
theorem zst_X {args : Array Value} {s : State} (hts : ∀ w ∈ lw_tbl, w.before args s = true) (hgv : (Jvm.Cond.and given_1 narrow_1).before args s = true) : zX (fun q : Nat => s.heap.size ≤ q) s s.heap := by
  have hs := flat_of_before _ hgv
  have hA : ∀ a : Nat, a < s.heap.size → ¬ (fun q : Nat => s.heap.size ≤ q) a := fun a h => Nat.not_le.mpr h
  have tx : ∀ (own : String) (k : Nat) (tx : String), (Cond.stringRef own k tx).before args s = true → (Cond.exactly (.string own k) "java/lang/String").before args s = true → ∃ a, vk_R own k tx a s := fun own k tx h1 h2 => by
    obtain ⟨a, ha⟩ := zst_ex h2
    exact ⟨a, vk_R.of h1 ha⟩
  refine ⟨⟨vx_Zqof (hts (.laysStatic Bundle.tN "UNASSIGNED_STACK" Bundle.steD) (by decide +kernel)) (hts (.initialized Bundle.tN) (by decide +kernel)) (hs (.isRef (.static Bundle.tN "UNASSIGNED_STACK" Bundle.steD)) (by decide +kernel)) hA, vx_Zqof (hts (.laysStatic Bundle.tN "SUPPRESSED_SENTINEL" Bundle.listD) (by decide +kernel)) (hts (.initialized Bundle.tN) (by decide +kernel)) (hs (.isRef (.static Bundle.tN "SUPPRESSED_SENTINEL" Bundle.listD)) (by decide +kernel)) hA⟩, ?_, fun w hw => va_Nw.of (zKind_tabs (zWords_kind w hw)) (hts w (zst_words.1 w hw)), ⟨va_AO.of (hts (.arrayOver (.object "HeatStadium$Event")) (by decide +kernel)), va_AO.of (hts (.arrayOver (.object "HeatStadium$Round")) (by decide +kernel)), va_AOA.of (hts (.arrayOver (.array .int)) (by decide +kernel))⟩, va_Nc.of (hs (.not (.castable "java/lang/ArithmeticException" "java/lang/IllegalArgumentException")) (by decide +kernel))⟩
  exact List.forall_mem_cons.mpr ⟨tx RX11 386 "no such nation" (hts (.stringRef RX11 386 "no such nation") (by decide +kernel)) (hs (.exactly (.string RX11 386) "java/lang/String") (by decide +kernel)), List.forall_mem_cons.mpr ⟨tx RX11 388 "out of range" (hts (.stringRef RX11 388 "out of range") (by decide +kernel)) (hs (.exactly (.string RX11 388) "java/lang/String") (by decide +kernel)), List.forall_mem_cons.mpr ⟨tx RX11 382 "no such event" (hts (.stringRef RX11 382 "no such event") (by decide +kernel)) (hs (.exactly (.string RX11 382) "java/lang/String") (by decide +kernel)), List.forall_mem_cons.mpr ⟨tx RX11 384 "no such athlete" (hts (.stringRef RX11 384 "no such athlete") (by decide +kernel)) (hs (.exactly (.string RX11 384) "java/lang/String") (by decide +kernel)), List.forall_mem_cons.mpr ⟨tx RX11 94 "no such kind" (hts (.stringRef RX11 94 "no such kind") (by decide +kernel)) (hs (.exactly (.string RX11 94) "java/lang/String") (by decide +kernel)), List.forall_mem_cons.mpr ⟨tx RX11 301 "no such protest" (hts (.stringRef RX11 301 "no such protest") (by decide +kernel)) (hs (.exactly (.string RX11 301) "java/lang/String") (by decide +kernel)), List.forall_mem_cons.mpr ⟨tx RX11 360 "there are no medals" (hts (.stringRef RX11 360 "there are no medals") (by decide +kernel)) (hs (.exactly (.string RX11 360) "java/lang/String") (by decide +kernel)), fun _ h => absurd h List.not_mem_nil⟩⟩⟩⟩⟩⟩⟩
set_option maxHeartbeats 4000000 in
set_option maxRecDepth 100000 in
theorem zst_M {args : Array Value} {s : State} (hts : ∀ w ∈ lw_tbl, w.before args s = true) (hgv : (Jvm.Cond.and given_1 narrow_1).before args s = true) : ∃ dz sa va : Nat, zMS dz sa va (fun q : Nat => s.heap.size ≤ q) s s.heap := by
  have hs := flat_of_before _ hgv
  have hA : ∀ a : Nat, a < s.heap.size → ¬ (fun q : Nat => s.heap.size ≤ q) a := fun a h => Nat.not_le.mpr h
  obtain ⟨dz, d1, d2⟩ := va_Tof (tm := (.static "java/util/ArrayList" "DEFAULTCAPACITY_EMPTY_ELEMENTDATA" "[Ljava/lang/Object;")) (ty := .object "java/lang/Object") (N := 0) (f := fun _ => .null) (A := (fun q : Nat => s.heap.size ≤ q)) (by decide) (hs (.arrayOf (.static "java/util/ArrayList" "DEFAULTCAPACITY_EMPTY_ELEMENTDATA" "[Ljava/lang/Object;") (.object "java/lang/Object")) (by decide +kernel)) (va_eqt (hs (.eq (.length (.static "java/util/ArrayList" "DEFAULTCAPACITY_EMPTY_ELEMENTDATA" "[Ljava/lang/Object;")) (.int 0)) (by decide +kernel))) (fun j hj => absurd hj (Nat.not_lt_zero j)) hA
  have d3 := va_Zof (hts (.laysStatic "java/util/ArrayList" "DEFAULTCAPACITY_EMPTY_ELEMENTDATA" "[Ljava/lang/Object;") (by decide +kernel)) (hts (.initialized "java/util/ArrayList") (by decide +kernel)) d1 hA
  have i1 := va_Zof (hts (.laysStatic "java/lang/Integer$IntegerCache" "high" "I") (by decide +kernel)) (hts (.initialized "java/lang/Integer$IntegerCache") (by decide +kernel)) (va_eqi (hs (.eq (.static "java/lang/Integer$IntegerCache" "high" "I") (.int 127)) (by decide +kernel))) hA
  obtain ⟨ad, i4, i5⟩ := vb_Cof (st := (.static "java/lang/Integer$IntegerCache" "cache" "[Ljava/lang/Integer;")) (A := (fun q : Nat => s.heap.size ≤ q)) rfl (va_eqt (hs (.eq (.length (.static "java/lang/Integer$IntegerCache" "cache" "[Ljava/lang/Integer;")) (.int 256)) (by decide +kernel))) (hs (.all (.static "java/lang/Integer$IntegerCache" "cache" "[Ljava/lang/Integer;") (.and (.exactly (.elem (.static "java/lang/Integer$IntegerCache" "cache" "[Ljava/lang/Integer;") (.index 0)) "java/lang/Integer") (.eq (.field (.elem (.static "java/lang/Integer$IntegerCache" "cache" "[Ljava/lang/Integer;") (.index 0)) "java/lang/Integer" "value" "I") (.sub (.index 0) (.int 128))))) (by decide +kernel)) hA
  obtain ⟨cz, i6, i3⟩ := va_Tof (tm := (.static "java/lang/Integer$IntegerCache" "cache" "[Ljava/lang/Integer;")) (ty := .object "java/lang/Integer") (N := 256) (f := fun j => .ref (ad j)) (A := (fun q : Nat => s.heap.size ≤ q)) (by decide) (hs (.arrayOf (.static "java/lang/Integer$IntegerCache" "cache" "[Ljava/lang/Integer;") (.object "java/lang/Integer")) (by decide +kernel)) (va_eqt (hs (.eq (.length (.static "java/lang/Integer$IntegerCache" "cache" "[Ljava/lang/Integer;")) (.int 256)) (by decide +kernel))) i5 hA
  have i2 := va_Zof (hts (.laysStatic "java/lang/Integer$IntegerCache" "cache" "[Ljava/lang/Integer;") (by decide +kernel)) (hts (.initialized "java/lang/Integer$IntegerCache") (by decide +kernel)) i6 hA
  obtain ⟨bz, b1⟩ := zst_ex (hs (.exactly (.static "java/lang/Boolean" "FALSE" "Ljava/lang/Boolean;") "java/lang/Boolean") (by decide +kernel))
  have b2 := va_Zof (hts (.laysStatic "java/lang/Boolean" "FALSE" "Ljava/lang/Boolean;") (by decide +kernel)) (hts (.initialized "java/lang/Boolean") (by decide +kernel)) b1 hA
  have b3 := va_Oof (hs (.exactly (.static "java/lang/Boolean" "FALSE" "Ljava/lang/Boolean;") "java/lang/Boolean") (by decide +kernel)) b1 hA
  have f1 : va_Fw RJx35411 yItr_next yJx35411_hasNext_aae02 s := va_Fw.of (hts (.declares yItr_next) (by decide +kernel)) (hts (.interfaceMethod yItr_next.cls yItr_next.cls yItr_next.name yItr_next.desc) (by decide +kernel)) (hts (.publicMethod yJx35411_hasNext_aae02) (by decide +kernel)) (hts (.unhidden RJx35411 yItr_next.name yItr_next.desc) (by decide +kernel)) (hts (.castable RJx35411 yItr_next.cls) (by decide +kernel))
  obtain ⟨sa, s1⟩ := zst_ex (hs (.exactly (.string RX17 52) "java/lang/String") (by decide +kernel))
  have hv : ∀ j : Nat, j < 3 → (Term.elem (.field (.string RX17 52) "java/lang/String" "value" "[B") (.int (Int32.ofNat j))).eval args s none [] s = some (.int (zfr j)) := fun j hj => by
    rcases (show j = 0 ∨ j = 1 ∨ j = 2 by omega) with rfl | rfl | rfl
    · exact va_eqt (hs (.eq (.elem (.field (.string RX17 52) "java/lang/String" "value" "[B") (.int 0)) (.int 114)) (by decide +kernel))
    · exact va_eqt (hs (.eq (.elem (.field (.string RX17 52) "java/lang/String" "value" "[B") (.int 1)) (.int 106)) (by decide +kernel))
    · exact va_eqt (hs (.eq (.elem (.field (.string RX17 52) "java/lang/String" "value" "[B") (.int 2)) (.int 116)) (by decide +kernel))
  obtain ⟨va, s2, s3⟩ := va_Tof (tm := (.field (.string RX17 52) "java/lang/String" "value" "[B")) (ty := .byte) (N := 3) (f := fun j => .int (zfr j)) (A := (fun q : Nat => s.heap.size ≤ q)) (by decide) (hs (.arrayOf (.field (.string RX17 52) "java/lang/String" "value" "[B") .byte) (by decide +kernel)) (va_eqt (hs (.eq (.length (.field (.string RX17 52) "java/lang/String" "value" "[B")) (.int 3)) (by decide +kernel))) hv hA
  exact ⟨dz, sa, va, ⟨d3, d2, ⟨cz, ad, i1, i2, i3, i4⟩, ⟨bz, b2, b3⟩, va_AO.of (hts (.arrayOver (.object "java/lang/Object")) (by decide +kernel)), fun w hw => va_Nw.of (zKind_tabs (zWordsM_kind w hw)) (hts w (zst_words.2 w hw)), f1⟩, ⟨va_Oof (hs (.exactly (.string RX17 52) "java/lang/String") (by decide +kernel)) s1 hA, vk_OFof s1 (va_eqt (hs (.eq (.field (.string RX17 52) "java/lang/String" "coder" "B") (.int 0)) (by decide +kernel))) hA, vk_OFof s1 s2 hA, s3, va_Zof (hts (.laysStatic "java/lang/String" "COMPACT_STRINGS" "Z") (by decide +kernel)) (hts (.initialized "java/lang/String") (by decide +kernel)) (va_eqi (hs (.eq (.static "java/lang/String" "COMPACT_STRINGS" "Z") (.int 1)) (by decide +kernel))) hA⟩, vk_R.of (hts (.stringRef RX17 52 "rjt") (by decide +kernel)) s1⟩
set_option maxHeartbeats 4000000 in
set_option maxRecDepth 100000 in
theorem zst_cl {args : Array Value} {s : State} (hts : ∀ w ∈ lw_tbl, w.before args s = true) : ∀ q ∈ vwCl, ∃ (c : ClassId) (i : Nat → Nat), u_Kn s q.1 q.2.1 q.2.2 c i :=
  List.forall_mem_cons.mpr ⟨u_known (C := RJ0) (T := TJ0) (N := 4) (n := 4) hts (by decide +kernel) (hts (.instantiable RJ0 4) (by decide +kernel)), 
  (List.forall_mem_cons.mpr ⟨u_known (C := RJ4) (T := TJ4) (N := 4) (n := 4) hts (by decide +kernel) (hts (.instantiable RJ4 4) (by decide +kernel)), 
  (List.forall_mem_cons.mpr ⟨u_known (C := RJ6) (T := TJ6) (N := 1) (n := 1) hts (by decide +kernel) (hts (.instantiable RJ6 1) (by decide +kernel)), 
  (List.forall_mem_cons.mpr ⟨u_known (C := RJx00060) (T := TJx00060) (N := 6) (n := 6) hts (by decide +kernel) (hts (.instantiable RJx00060 6) (by decide +kernel)), 
  (List.forall_mem_cons.mpr ⟨u_known (C := RJx35411) (T := TJx35411) (N := 4) (n := 4) hts (by decide +kernel) (hts (.instantiable RJx35411 4) (by decide +kernel)), 
  (List.forall_mem_cons.mpr ⟨u_known (C := RJx4a65c) (T := TJx4a65c) (N := 3) (n := 3) hts (by decide +kernel) (hts (.instantiable RJx4a65c 3) (by decide +kernel)), 
  (List.forall_mem_cons.mpr ⟨u_known (C := RX0) (T := TX0) (N := 3) (n := 3) hts (by decide +kernel) (hts (.instantiable RX0 3) (by decide +kernel)), 
  (List.forall_mem_cons.mpr ⟨u_known (C := RX1) (T := TX1) (N := 13) (n := 13) hts (by decide +kernel) (hts (.instantiable RX1 13) (by decide +kernel)), 
  (List.forall_mem_cons.mpr ⟨u_known (C := RX2) (T := TX2) (N := 5) (n := 5) hts (by decide +kernel) (hts (.instantiable RX2 5) (by decide +kernel)), 
  (List.forall_mem_cons.mpr ⟨u_known (C := RX3) (T := TX3) (N := 6) (n := 6) hts (by decide +kernel) (hts (.instantiable RX3 6) (by decide +kernel)), 
  (List.forall_mem_cons.mpr ⟨u_known (C := RX4) (T := TX4) (N := 2) (n := 2) hts (by decide +kernel) (hts (.instantiable RX4 2) (by decide +kernel)), 
  (List.forall_mem_cons.mpr ⟨u_known (C := RX5) (T := TX5) (N := 5) (n := 5) hts (by decide +kernel) (hts (.instantiable RX5 5) (by decide +kernel)), 
  (List.forall_mem_cons.mpr ⟨u_known (C := RX6) (T := TX6) (N := 8) (n := 8) hts (by decide +kernel) (hts (.instantiable RX6 8) (by decide +kernel)), 
  (List.forall_mem_cons.mpr ⟨u_known (C := RX7) (T := TX7) (N := 5) (n := 5) hts (by decide +kernel) (hts (.instantiable RX7 5) (by decide +kernel)), 
  (List.forall_mem_cons.mpr ⟨u_known (C := RX8) (T := TX8) (N := 4) (n := 4) hts (by decide +kernel) (hts (.instantiable RX8 4) (by decide +kernel)), 
  (List.forall_mem_cons.mpr ⟨u_known (C := RX9) (T := TX9) (N := 6) (n := 6) hts (by decide +kernel) (hts (.instantiable RX9 6) (by decide +kernel)), 
  (List.forall_mem_cons.mpr ⟨u_known (C := RX10) (T := TX10) (N := 3) (n := 3) hts (by decide +kernel) (hts (.instantiable RX10 3) (by decide +kernel)), 
  (List.forall_mem_cons.mpr ⟨u_known (C := RX11) (T := TX11) (N := 11) (n := 11) hts (by decide +kernel) (hts (.instantiable RX11 11) (by decide +kernel)), 
  (List.forall_mem_cons.mpr ⟨u_known (C := RX12) (T := TX12) (N := 9) (n := 9) hts (by decide +kernel) (hts (.instantiable RX12 9) (by decide +kernel)), 
  (List.forall_mem_cons.mpr ⟨u_known (C := RX13) (T := TX13) (N := 8) (n := 8) hts (by decide +kernel) (hts (.instantiable RX13 8) (by decide +kernel)), 
  (List.forall_mem_cons.mpr ⟨u_known (C := RX14) (T := TX14) (N := 3) (n := 3) hts (by decide +kernel) (hts (.instantiable RX14 3) (by decide +kernel)), 
  (List.forall_mem_cons.mpr ⟨u_known (C := RX15) (T := TX15) (N := 3) (n := 3) hts (by decide +kernel) (hts (.instantiable RX15 3) (by decide +kernel)), 
  (List.forall_mem_cons.mpr ⟨u_known (C := RX16) (T := TX16) (N := 3) (n := 3) hts (by decide +kernel) (hts (.instantiable RX16 3) (by decide +kernel)), 
  (List.forall_mem_cons.mpr ⟨u_known (C := RX17) (T := TX17) (N := 8) (n := 8) hts (by decide +kernel) (hts (.instantiable RX17 8) (by decide +kernel)), fun _ h => absurd h List.not_mem_nil⟩)⟩)⟩)⟩)⟩)⟩)⟩)⟩)⟩)⟩)⟩)⟩)⟩)⟩)⟩)⟩)⟩)⟩)⟩)⟩)⟩)⟩)⟩)⟩
theorem zst_D {args : Array Value} {s : State} (hts : ∀ w ∈ lw_tbl, w.before args s = true) : ∃ D : va_G, va_K D vwCl [] s := by
  have h0 : ∀ k : Nat, ∃ z : ClassId × (Nat → Nat), ∀ q, vwCl[k]? = some q → u_Kn s q.1 q.2.1 q.2.2 z.1 z.2 := by
    intro k
    cases hq : vwCl[k]? with
    | none => exact ⟨(0, fun _ => 0), fun q h => nomatch h⟩
    | some q =>
      obtain ⟨c, i, h⟩ := zst_cl hts q (List.mem_of_getElem? hq)
      exact ⟨(c, i), fun q' h' => by cases h'; exact h⟩
  obtain ⟨f, hf⟩ := Classical.axiomOfChoice h0
  exact ⟨(fun k => (f k).1, fun k => (f k).2), hf, fun k q h => by simp at h⟩
